theorem dX6_init_0 : decode cX6_init 0 = .ok (.aload_n 0, 1) := by decide +kernel
theorem dX6_init_1 : decode cX6_init 1 = .ok (.invokespecial 1, 3) := by decide +kernel
theorem dX6_init_4 : decode cX6_init 4 = .ok (.aload_n 0, 1) := by decide +kernel
theorem dX6_init_5 : decode cX6_init 5 = .ok (.sipush 370, 3) := by decide +kernel
theorem dX6_init_8 : decode cX6_init 8 = .ok (.newarray .int, 2) := by decide +kernel
theorem dX6_init_10 : decode cX6_init 10 = .ok (.putfield 7, 3) := by decide +kernel
theorem dX6_init_13 : decode cX6_init 13 = .ok (.aload_n 0, 1) := by decide +kernel
theorem dX6_init_14 : decode cX6_init 14 = .ok (.sipush 370, 3) := by decide +kernel
theorem dX6_init_17 : decode cX6_init 17 = .ok (.newarray .int, 2) := by decide +kernel
theorem dX6_init_19 : decode cX6_init 19 = .ok (.putfield 13, 3) := by decide +kernel
theorem dX6_init_22 : decode cX6_init 22 = .ok (.aload_n 0, 1) := by decide +kernel
theorem dX6_init_23 : decode cX6_init 23 = .ok (.sipush 2220, 3) := by decide +kernel
theorem dX6_init_26 : decode cX6_init 26 = .ok (.newarray .int, 2) := by decide +kernel
theorem dX6_init_28 : decode cX6_init 28 = .ok (.putfield 16, 3) := by decide +kernel
theorem dX6_init_31 : decode cX6_init 31 = .ok (.aload_n 0, 1) := by decide +kernel
theorem dX6_init_32 : decode cX6_init 32 = .ok (.sipush 740, 3) := by decide +kernel
theorem dX6_init_35 : decode cX6_init 35 = .ok (.newarray .int, 2) := by decide +kernel
theorem dX6_init_37 : decode cX6_init 37 = .ok (.putfield 19, 3) := by decide +kernel
theorem dX6_init_40 : decode cX6_init 40 = .ok (.aload_n 0, 1) := by decide +kernel
theorem dX6_init_41 : decode cX6_init 41 = .ok (.iconst 2, 1) := by decide +kernel
theorem dX6_init_42 : decode cX6_init 42 = .ok (.newarray .int, 2) := by decide +kernel
theorem dX6_init_44 : decode cX6_init 44 = .ok (.putfield 22, 3) := by decide +kernel
theorem dX6_init_47 : decode cX6_init 47 = .ok (.aload_n 0, 1) := by decide +kernel
theorem dX6_init_48 : decode cX6_init 48 = .ok (.bipush 80, 2) := by decide +kernel
theorem dX6_init_50 : decode cX6_init 50 = .ok (.newarray .int, 2) := by decide +kernel
theorem dX6_init_52 : decode cX6_init 52 = .ok (.putfield 25, 3) := by decide +kernel
theorem dX6_init_55 : decode cX6_init 55 = .ok (.aload_n 0, 1) := by decide +kernel
theorem dX6_init_56 : decode cX6_init 56 = .ok (.iconst 5, 1) := by decide +kernel
theorem dX6_init_57 : decode cX6_init 57 = .ok (.newarray .int, 2) := by decide +kernel
theorem dX6_init_59 : decode cX6_init 59 = .ok (.putfield 28, 3) := by decide +kernel
theorem dX6_init_62 : decode cX6_init 62 = .ok (.aload_n 0, 1) := by decide +kernel
theorem dX6_init_63 : decode cX6_init 63 = .ok (.getfield 7, 3) := by decide +kernel
theorem dX6_init_66 : decode cX6_init 66 = .ok (.iconst 0, 1) := by decide +kernel
theorem dX6_init_67 : decode cX6_init 67 = .ok (.bipush 80, 2) := by decide +kernel
theorem dX6_init_69 : decode cX6_init 69 = .ok (.iastore, 1) := by decide +kernel
theorem dX6_init_70 : decode cX6_init 70 = .ok (.aload_n 0, 1) := by decide +kernel
theorem dX6_init_71 : decode cX6_init 71 = .ok (.getfield 7, 3) := by decide +kernel
theorem dX6_init_74 : decode cX6_init 74 = .ok (.iconst 1, 1) := by decide +kernel
theorem dX6_init_75 : decode cX6_init 75 = .ok (.iconst 2, 1) := by decide +kernel
theorem dX6_init_76 : decode cX6_init 76 = .ok (.iastore, 1) := by decide +kernel
theorem dX6_init_77 : decode cX6_init 77 = .ok (.aload_n 0, 1) := by decide +kernel
theorem dX6_init_78 : decode cX6_init 78 = .ok (.getfield 7, 3) := by decide +kernel
theorem dX6_init_81 : decode cX6_init 81 = .ok (.iconst 2, 1) := by decide +kernel
theorem dX6_init_82 : decode cX6_init 82 = .ok (.sipush 500, 3) := by decide +kernel
theorem dX6_init_85 : decode cX6_init 85 = .ok (.iastore, 1) := by decide +kernel
theorem dX6_init_86 : decode cX6_init 86 = .ok (.return_, 1) := by decide +kernel
theorem dX6_moves_0 : decode cX6_moves 0 = .ok (.iconst 0, 1) := by decide +kernel
theorem dX6_moves_1 : decode cX6_moves 1 = .ok (.istore 4, 2) := by decide +kernel
theorem dX6_moves_3 : decode cX6_moves 3 = .ok (.iload 4, 2) := by decide +kernel
theorem dX6_moves_5 : decode cX6_moves 5 = .ok (.sipush 370, 3) := by decide +kernel
theorem dX6_moves_8 : decode cX6_moves 8 = .ok (.if_icmp .ge 21, 3) := by decide +kernel
theorem dX6_moves_11 : decode cX6_moves 11 = .ok (.aload_n 2, 1) := by decide +kernel
theorem dX6_moves_12 : decode cX6_moves 12 = .ok (.iload_n 3, 1) := by decide +kernel
theorem dX6_moves_13 : decode cX6_moves 13 = .ok (.iload 4, 2) := by decide +kernel
theorem dX6_moves_15 : decode cX6_moves 15 = .ok (.iadd, 1) := by decide +kernel
theorem dX6_moves_16 : decode cX6_moves 16 = .ok (.aload_n 0, 1) := by decide +kernel
theorem dX6_moves_17 : decode cX6_moves 17 = .ok (.iload_n 1, 1) := by decide +kernel
theorem dX6_moves_18 : decode cX6_moves 18 = .ok (.iload 4, 2) := by decide +kernel
theorem dX6_moves_20 : decode cX6_moves 20 = .ok (.iadd, 1) := by decide +kernel
theorem dX6_moves_21 : decode cX6_moves 21 = .ok (.iaload, 1) := by decide +kernel
theorem dX6_moves_22 : decode cX6_moves 22 = .ok (.iastore, 1) := by decide +kernel
theorem dX6_moves_23 : decode cX6_moves 23 = .ok (.iinc 4 1, 3) := by decide +kernel
theorem dX6_moves_26 : decode cX6_moves 26 = .ok (.goto (-23), 3) := by decide +kernel
theorem dX6_moves_29 : decode cX6_moves 29 = .ok (.return_, 1) := by decide +kernel
theorem dX6_within_0 : decode cX6_within 0 = .ok (.iload_n 0, 1) := by decide +kernel
theorem dX6_within_1 : decode cX6_within 1 = .ok (.iload_n 1, 1) := by decide +kernel
theorem dX6_within_2 : decode cX6_within 2 = .ok (.if_icmp .lt 12, 3) := by decide +kernel
theorem dX6_within_5 : decode cX6_within 5 = .ok (.iload_n 0, 1) := by decide +kernel
theorem dX6_within_6 : decode cX6_within 6 = .ok (.iload_n 2, 1) := by decide +kernel
theorem dX6_within_7 : decode cX6_within 7 = .ok (.if_icmp .gt 7, 3) := by decide +kernel
theorem dX6_within_10 : decode cX6_within 10 = .ok (.iconst 1, 1) := by decide +kernel
theorem dX6_within_11 : decode cX6_within 11 = .ok (.goto 4, 3) := by decide +kernel
theorem dX6_within_14 : decode cX6_within 14 = .ok (.iconst 0, 1) := by decide +kernel
theorem dX6_within_15 : decode cX6_within 15 = .ok (.ireturn, 1) := by decide +kernel
theorem dX6_size_0 : decode cX6_size 0 = .ok (.iload_n 0, 1) := by decide +kernel
theorem dX6_size_1 : decode cX6_size 1 = .ok (.ifCond .ge 8, 3) := by decide +kernel
theorem dX6_size_4 : decode cX6_size 4 = .ok (.iload_n 0, 1) := by decide +kernel
theorem dX6_size_5 : decode cX6_size 5 = .ok (.ineg, 1) := by decide +kernel
theorem dX6_size_6 : decode cX6_size 6 = .ok (.goto 4, 3) := by decide +kernel
theorem dX6_size_9 : decode cX6_size 9 = .ok (.iload_n 0, 1) := by decide +kernel
theorem dX6_size_10 : decode cX6_size 10 = .ok (.ireturn, 1) := by decide +kernel
theorem dX6_bounded_0 : decode cX6_bounded 0 = .ok (.iload_n 0, 1) := by decide +kernel
theorem dX6_bounded_1 : decode cX6_bounded 1 = .ok (.sipush (-9999), 3) := by decide +kernel
theorem dX6_bounded_4 : decode cX6_bounded 4 = .ok (.if_icmp .ge 9, 3) := by decide +kernel
theorem dX6_bounded_7 : decode cX6_bounded 7 = .ok (.sipush (-9999), 3) := by decide +kernel
theorem dX6_bounded_10 : decode cX6_bounded 10 = .ok (.goto 17, 3) := by decide +kernel
theorem dX6_bounded_13 : decode cX6_bounded 13 = .ok (.iload_n 0, 1) := by decide +kernel
theorem dX6_bounded_14 : decode cX6_bounded 14 = .ok (.sipush 9999, 3) := by decide +kernel
theorem dX6_bounded_17 : decode cX6_bounded 17 = .ok (.if_icmp .le 9, 3) := by decide +kernel
theorem dX6_bounded_20 : decode cX6_bounded 20 = .ok (.sipush 9999, 3) := by decide +kernel
theorem dX6_bounded_23 : decode cX6_bounded 23 = .ok (.goto 4, 3) := by decide +kernel
theorem dX6_bounded_26 : decode cX6_bounded 26 = .ok (.iload_n 0, 1) := by decide +kernel
theorem dX6_bounded_27 : decode cX6_bounded 27 = .ok (.ireturn, 1) := by decide +kernel
theorem dX6_record_0 : decode cX6_record 0 = .ok (.aload_n 0, 1) := by decide +kernel
theorem dX6_record_1 : decode cX6_record 1 = .ok (.getfield 31, 3) := by decide +kernel
theorem dX6_record_4 : decode cX6_record 4 = .ok (.bipush 6, 2) := by decide +kernel
theorem dX6_record_6 : decode cX6_record 6 = .ok (.if_icmp .ne 44, 3) := by decide +kernel
theorem dX6_record_9 : decode cX6_record 9 = .ok (.iconst 0, 1) := by decide +kernel
theorem dX6_record_10 : decode cX6_record 10 = .ok (.istore_n 1, 1) := by decide +kernel
theorem dX6_record_11 : decode cX6_record 11 = .ok (.iload_n 1, 1) := by decide +kernel
theorem dX6_record_12 : decode cX6_record 12 = .ok (.sipush 1850, 3) := by decide +kernel
theorem dX6_record_15 : decode cX6_record 15 = .ok (.if_icmp .ge 25, 3) := by decide +kernel
theorem dX6_record_18 : decode cX6_record 18 = .ok (.aload_n 0, 1) := by decide +kernel
theorem dX6_record_19 : decode cX6_record 19 = .ok (.getfield 16, 3) := by decide +kernel
theorem dX6_record_22 : decode cX6_record 22 = .ok (.iload_n 1, 1) := by decide +kernel
theorem dX6_record_23 : decode cX6_record 23 = .ok (.aload_n 0, 1) := by decide +kernel
theorem dX6_record_24 : decode cX6_record 24 = .ok (.getfield 16, 3) := by decide +kernel
theorem dX6_record_27 : decode cX6_record 27 = .ok (.iload_n 1, 1) := by decide +kernel
theorem dX6_record_28 : decode cX6_record 28 = .ok (.sipush 370, 3) := by decide +kernel
theorem dX6_record_31 : decode cX6_record 31 = .ok (.iadd, 1) := by decide +kernel
theorem dX6_record_32 : decode cX6_record 32 = .ok (.iaload, 1) := by decide +kernel
theorem dX6_record_33 : decode cX6_record 33 = .ok (.iastore, 1) := by decide +kernel
theorem dX6_record_34 : decode cX6_record 34 = .ok (.iinc 1 1, 3) := by decide +kernel
theorem dX6_record_37 : decode cX6_record 37 = .ok (.goto (-26), 3) := by decide +kernel
theorem dX6_record_40 : decode cX6_record 40 = .ok (.aload_n 0, 1) := by decide +kernel
theorem dX6_record_41 : decode cX6_record 41 = .ok (.dup, 1) := by decide +kernel
theorem dX6_record_42 : decode cX6_record 42 = .ok (.getfield 31, 3) := by decide +kernel
theorem dX6_record_45 : decode cX6_record 45 = .ok (.iconst 1, 1) := by decide +kernel
theorem dX6_record_46 : decode cX6_record 46 = .ok (.isub, 1) := by decide +kernel
theorem dX6_record_47 : decode cX6_record 47 = .ok (.putfield 31, 3) := by decide +kernel
theorem dX6_record_50 : decode cX6_record 50 = .ok (.aload_n 0, 1) := by decide +kernel
theorem dX6_record_51 : decode cX6_record 51 = .ok (.getfield 7, 3) := by decide +kernel
theorem dX6_record_54 : decode cX6_record 54 = .ok (.iconst 0, 1) := by decide +kernel
theorem dX6_record_55 : decode cX6_record 55 = .ok (.aload_n 0, 1) := by decide +kernel
theorem dX6_record_56 : decode cX6_record 56 = .ok (.getfield 16, 3) := by decide +kernel
theorem dX6_record_59 : decode cX6_record 59 = .ok (.aload_n 0, 1) := by decide +kernel
theorem dX6_record_60 : decode cX6_record 60 = .ok (.getfield 31, 3) := by decide +kernel
theorem dX6_record_63 : decode cX6_record 63 = .ok (.sipush 370, 3) := by decide +kernel
theorem dX6_record_66 : decode cX6_record 66 = .ok (.imul, 1) := by decide +kernel
theorem dX6_record_67 : decode cX6_record 67 = .ok (.invokestatic 35, 3) := by decide +kernel
theorem dX6_record_70 : decode cX6_record 70 = .ok (.aload_n 0, 1) := by decide +kernel
theorem dX6_record_71 : decode cX6_record 71 = .ok (.dup, 1) := by decide +kernel
theorem dX6_record_72 : decode cX6_record 72 = .ok (.getfield 31, 3) := by decide +kernel
theorem dX6_record_75 : decode cX6_record 75 = .ok (.iconst 1, 1) := by decide +kernel
theorem dX6_record_76 : decode cX6_record 76 = .ok (.iadd, 1) := by decide +kernel
theorem dX6_record_77 : decode cX6_record 77 = .ok (.putfield 31, 3) := by decide +kernel
theorem dX6_record_80 : decode cX6_record 80 = .ok (.return_, 1) := by decide +kernel
theorem dX6_isCell_0 : decode cX6_isCell 0 = .ok (.iload_n 0, 1) := by decide +kernel
theorem dX6_isCell_1 : decode cX6_isCell 1 = .ok (.iconst 0, 1) := by decide +kernel
theorem dX6_isCell_2 : decode cX6_isCell 2 = .ok (.bipush 39, 2) := by decide +kernel
theorem dX6_isCell_4 : decode cX6_isCell 4 = .ok (.invokestatic 39, 3) := by decide +kernel
theorem dX6_isCell_7 : decode cX6_isCell 7 = .ok (.ireturn, 1) := by decide +kernel
theorem dX6_levelOf_0 : decode cX6_levelOf 0 = .ok (.aload_n 0, 1) := by decide +kernel
theorem dX6_levelOf_1 : decode cX6_levelOf 1 = .ok (.getfield 7, 3) := by decide +kernel
theorem dX6_levelOf_4 : decode cX6_levelOf 4 = .ok (.bipush 6, 2) := by decide +kernel
theorem dX6_levelOf_6 : decode cX6_levelOf 6 = .ok (.iload_n 1, 1) := by decide +kernel
theorem dX6_levelOf_7 : decode cX6_levelOf 7 = .ok (.iadd, 1) := by decide +kernel
theorem dX6_levelOf_8 : decode cX6_levelOf 8 = .ok (.iaload, 1) := by decide +kernel
theorem dX6_levelOf_9 : decode cX6_levelOf 9 = .ok (.ireturn, 1) := by decide +kernel
theorem dX6_paddlePart_0 : decode cX6_paddlePart 0 = .ok (.aload_n 0, 1) := by decide +kernel
theorem dX6_paddlePart_1 : decode cX6_paddlePart 1 = .ok (.getfield 7, 3) := by decide +kernel
theorem dX6_paddlePart_4 : decode cX6_paddlePart 4 = .ok (.bipush 86, 2) := by decide +kernel
theorem dX6_paddlePart_6 : decode cX6_paddlePart 6 = .ok (.bipush 6, 2) := by decide +kernel
theorem dX6_paddlePart_8 : decode cX6_paddlePart 8 = .ok (.iload_n 1, 1) := by decide +kernel
theorem dX6_paddlePart_9 : decode cX6_paddlePart 9 = .ok (.imul, 1) := by decide +kernel
theorem dX6_paddlePart_10 : decode cX6_paddlePart 10 = .ok (.iadd, 1) := by decide +kernel
theorem dX6_paddlePart_11 : decode cX6_paddlePart 11 = .ok (.iload_n 2, 1) := by decide +kernel
theorem dX6_paddlePart_12 : decode cX6_paddlePart 12 = .ok (.iadd, 1) := by decide +kernel
theorem dX6_paddlePart_13 : decode cX6_paddlePart 13 = .ok (.iaload, 1) := by decide +kernel
theorem dX6_paddlePart_14 : decode cX6_paddlePart 14 = .ok (.ireturn, 1) := by decide +kernel
theorem dX6_setPaddle_0 : decode cX6_setPaddle 0 = .ok (.aload_n 0, 1) := by decide +kernel
theorem dX6_setPaddle_1 : decode cX6_setPaddle 1 = .ok (.getfield 7, 3) := by decide +kernel
theorem dX6_setPaddle_4 : decode cX6_setPaddle 4 = .ok (.bipush 86, 2) := by decide +kernel
theorem dX6_setPaddle_6 : decode cX6_setPaddle 6 = .ok (.bipush 6, 2) := by decide +kernel
theorem dX6_setPaddle_8 : decode cX6_setPaddle 8 = .ok (.iload_n 1, 1) := by decide +kernel
theorem dX6_setPaddle_9 : decode cX6_setPaddle 9 = .ok (.imul, 1) := by decide +kernel
theorem dX6_setPaddle_10 : decode cX6_setPaddle 10 = .ok (.iadd, 1) := by decide +kernel
theorem dX6_setPaddle_11 : decode cX6_setPaddle 11 = .ok (.iload_n 2, 1) := by decide +kernel
theorem dX6_setPaddle_12 : decode cX6_setPaddle 12 = .ok (.iadd, 1) := by decide +kernel
theorem dX6_setPaddle_13 : decode cX6_setPaddle 13 = .ok (.iload_n 3, 1) := by decide +kernel
theorem dX6_setPaddle_14 : decode cX6_setPaddle 14 = .ok (.iastore, 1) := by decide +kernel
theorem dX6_setPaddle_15 : decode cX6_setPaddle 15 = .ok (.return_, 1) := by decide +kernel
theorem dX6_rankIn_0 : decode cX6_rankIn 0 = .ok (.bipush (-6), 2) := by decide +kernel
theorem dX6_rankIn_2 : decode cX6_rankIn 2 = .ok (.istore_n 2, 1) := by decide +kernel
theorem dX6_rankIn_3 : decode cX6_rankIn 3 = .ok (.iconst 0, 1) := by decide +kernel
theorem dX6_rankIn_4 : decode cX6_rankIn 4 = .ok (.istore_n 3, 1) := by decide +kernel
theorem dX6_rankIn_5 : decode cX6_rankIn 5 = .ok (.iload_n 3, 1) := by decide +kernel
theorem dX6_rankIn_6 : decode cX6_rankIn 6 = .ok (.aload_n 0, 1) := by decide +kernel
theorem dX6_rankIn_7 : decode cX6_rankIn 7 = .ok (.getfield 7, 3) := by decide +kernel
theorem dX6_rankIn_10 : decode cX6_rankIn 10 = .ok (.iconst 4, 1) := by decide +kernel
theorem dX6_rankIn_11 : decode cX6_rankIn 11 = .ok (.iaload, 1) := by decide +kernel
theorem dX6_rankIn_12 : decode cX6_rankIn 12 = .ok (.if_icmp .ge 25, 3) := by decide +kernel
theorem dX6_rankIn_15 : decode cX6_rankIn 15 = .ok (.aload_n 0, 1) := by decide +kernel
theorem dX6_rankIn_16 : decode cX6_rankIn 16 = .ok (.iload_n 3, 1) := by decide +kernel
theorem dX6_rankIn_17 : decode cX6_rankIn 17 = .ok (.iconst 0, 1) := by decide +kernel
theorem dX6_rankIn_18 : decode cX6_rankIn 18 = .ok (.invokevirtual 43, 3) := by decide +kernel
theorem dX6_rankIn_21 : decode cX6_rankIn 21 = .ok (.iload_n 1, 1) := by decide +kernel
theorem dX6_rankIn_22 : decode cX6_rankIn 22 = .ok (.if_icmp .ne 7, 3) := by decide +kernel
theorem dX6_rankIn_25 : decode cX6_rankIn 25 = .ok (.iload_n 3, 1) := by decide +kernel
theorem dX6_rankIn_26 : decode cX6_rankIn 26 = .ok (.goto 4, 3) := by decide +kernel
theorem dX6_rankIn_29 : decode cX6_rankIn 29 = .ok (.iload_n 2, 1) := by decide +kernel
theorem dX6_rankIn_30 : decode cX6_rankIn 30 = .ok (.istore_n 2, 1) := by decide +kernel
theorem dX6_rankIn_31 : decode cX6_rankIn 31 = .ok (.iinc 3 1, 3) := by decide +kernel
theorem dX6_rankIn_34 : decode cX6_rankIn 34 = .ok (.goto (-29), 3) := by decide +kernel
theorem dX6_rankIn_37 : decode cX6_rankIn 37 = .ok (.iload_n 2, 1) := by decide +kernel
theorem dX6_rankIn_38 : decode cX6_rankIn 38 = .ok (.ireturn, 1) := by decide +kernel
theorem dX6_gaugePart_0 : decode cX6_gaugePart 0 = .ok (.aload_n 0, 1) := by decide +kernel
theorem dX6_gaugePart_1 : decode cX6_gaugePart 1 = .ok (.getfield 7, 3) := by decide +kernel
theorem dX6_gaugePart_4 : decode cX6_gaugePart 4 = .ok (.bipush 122, 2) := by decide +kernel
theorem dX6_gaugePart_6 : decode cX6_gaugePart 6 = .ok (.bipush 62, 2) := by decide +kernel
theorem dX6_gaugePart_8 : decode cX6_gaugePart 8 = .ok (.iload_n 1, 1) := by decide +kernel
theorem dX6_gaugePart_9 : decode cX6_gaugePart 9 = .ok (.imul, 1) := by decide +kernel
theorem dX6_gaugePart_10 : decode cX6_gaugePart 10 = .ok (.iadd, 1) := by decide +kernel
theorem dX6_gaugePart_11 : decode cX6_gaugePart 11 = .ok (.iload_n 2, 1) := by decide +kernel
theorem dX6_gaugePart_12 : decode cX6_gaugePart 12 = .ok (.iadd, 1) := by decide +kernel
theorem dX6_gaugePart_13 : decode cX6_gaugePart 13 = .ok (.iaload, 1) := by decide +kernel
theorem dX6_gaugePart_14 : decode cX6_gaugePart 14 = .ok (.ireturn, 1) := by decide +kernel
theorem dX6_push_0 : decode cX6_push 0 = .ok (.aload_n 0, 1) := by decide +kernel
theorem dX6_push_1 : decode cX6_push 1 = .ok (.iload_n 1, 1) := by decide +kernel
theorem dX6_push_2 : decode cX6_push 2 = .ok (.iconst 2, 1) := by decide +kernel
theorem dX6_push_3 : decode cX6_push 3 = .ok (.invokevirtual 43, 3) := by decide +kernel
theorem dX6_push_6 : decode cX6_push 6 = .ok (.istore_n 2, 1) := by decide +kernel
theorem dX6_push_7 : decode cX6_push 7 = .ok (.aload_n 0, 1) := by decide +kernel
theorem dX6_push_8 : decode cX6_push 8 = .ok (.iload_n 1, 1) := by decide +kernel
theorem dX6_push_9 : decode cX6_push 9 = .ok (.iconst 3, 1) := by decide +kernel
theorem dX6_push_10 : decode cX6_push 10 = .ok (.invokevirtual 43, 3) := by decide +kernel
theorem dX6_push_13 : decode cX6_push 13 = .ok (.istore_n 3, 1) := by decide +kernel
theorem dX6_push_14 : decode cX6_push 14 = .ok (.aload_n 0, 1) := by decide +kernel
theorem dX6_push_15 : decode cX6_push 15 = .ok (.getfield 7, 3) := by decide +kernel
theorem dX6_push_18 : decode cX6_push 18 = .ok (.iconst 3, 1) := by decide +kernel
theorem dX6_push_19 : decode cX6_push 19 = .ok (.iaload, 1) := by decide +kernel
theorem dX6_push_20 : decode cX6_push 20 = .ok (.aload_n 0, 1) := by decide +kernel
theorem dX6_push_21 : decode cX6_push 21 = .ok (.iload_n 1, 1) := by decide +kernel
theorem dX6_push_22 : decode cX6_push 22 = .ok (.iconst 4, 1) := by decide +kernel
theorem dX6_push_23 : decode cX6_push 23 = .ok (.invokevirtual 43, 3) := by decide +kernel
theorem dX6_push_26 : decode cX6_push 26 = .ok (.iadd, 1) := by decide +kernel
theorem dX6_push_27 : decode cX6_push 27 = .ok (.iload_n 3, 1) := by decide +kernel
theorem dX6_push_28 : decode cX6_push 28 = .ok (.irem, 1) := by decide +kernel
theorem dX6_push_29 : decode cX6_push 29 = .ok (.istore 4, 2) := by decide +kernel
theorem dX6_push_31 : decode cX6_push 31 = .ok (.iload 4, 2) := by decide +kernel
theorem dX6_push_33 : decode cX6_push 33 = .ok (.iload_n 3, 1) := by decide +kernel
theorem dX6_push_34 : decode cX6_push 34 = .ok (.iload 4, 2) := by decide +kernel
theorem dX6_push_36 : decode cX6_push 36 = .ok (.isub, 1) := by decide +kernel
theorem dX6_push_37 : decode cX6_push 37 = .ok (.if_icmp .ge 8, 3) := by decide +kernel
theorem dX6_push_40 : decode cX6_push 40 = .ok (.iload 4, 2) := by decide +kernel
theorem dX6_push_42 : decode cX6_push 42 = .ok (.goto 7, 3) := by decide +kernel
theorem dX6_push_45 : decode cX6_push 45 = .ok (.iload_n 3, 1) := by decide +kernel
theorem dX6_push_46 : decode cX6_push 46 = .ok (.iload 4, 2) := by decide +kernel
theorem dX6_push_48 : decode cX6_push 48 = .ok (.isub, 1) := by decide +kernel
theorem dX6_push_49 : decode cX6_push 49 = .ok (.istore 5, 2) := by decide +kernel
theorem dX6_push_51 : decode cX6_push 51 = .ok (.aload_n 0, 1) := by decide +kernel
theorem dX6_push_52 : decode cX6_push 52 = .ok (.iload_n 1, 1) := by decide +kernel
theorem dX6_push_53 : decode cX6_push 53 = .ok (.iconst 1, 1) := by decide +kernel
theorem dX6_push_54 : decode cX6_push 54 = .ok (.invokevirtual 43, 3) := by decide +kernel
theorem dX6_push_57 : decode cX6_push 57 = .ok (.tableswitch 55 0 2 #[27, 29, 40], 27) := by decide +kernel
theorem dX6_push_84 : decode cX6_push 84 = .ok (.iload_n 2, 1) := by decide +kernel
theorem dX6_push_85 : decode cX6_push 85 = .ok (.ireturn, 1) := by decide +kernel
theorem dX6_push_86 : decode cX6_push 86 = .ok (.iload_n 2, 1) := by decide +kernel
theorem dX6_push_87 : decode cX6_push 87 = .ok (.iconst 2, 1) := by decide +kernel
theorem dX6_push_88 : decode cX6_push 88 = .ok (.iload 4, 2) := by decide +kernel
theorem dX6_push_90 : decode cX6_push 90 = .ok (.imul, 1) := by decide +kernel
theorem dX6_push_91 : decode cX6_push 91 = .ok (.iload_n 3, 1) := by decide +kernel
theorem dX6_push_92 : decode cX6_push 92 = .ok (.isub, 1) := by decide +kernel
theorem dX6_push_93 : decode cX6_push 93 = .ok (.imul, 1) := by decide +kernel
theorem dX6_push_94 : decode cX6_push 94 = .ok (.iload_n 3, 1) := by decide +kernel
theorem dX6_push_95 : decode cX6_push 95 = .ok (.idiv, 1) := by decide +kernel
theorem dX6_push_96 : decode cX6_push 96 = .ok (.ireturn, 1) := by decide +kernel
theorem dX6_push_97 : decode cX6_push 97 = .ok (.iconst 2, 1) := by decide +kernel
theorem dX6_push_98 : decode cX6_push 98 = .ok (.iload 4, 2) := by decide +kernel
theorem dX6_push_100 : decode cX6_push 100 = .ok (.imul, 1) := by decide +kernel
theorem dX6_push_101 : decode cX6_push 101 = .ok (.iload_n 3, 1) := by decide +kernel
theorem dX6_push_102 : decode cX6_push 102 = .ok (.if_icmp .ge 7, 3) := by decide +kernel
theorem dX6_push_105 : decode cX6_push 105 = .ok (.iload_n 2, 1) := by decide +kernel
theorem dX6_push_106 : decode cX6_push 106 = .ok (.goto 5, 3) := by decide +kernel
theorem dX6_push_109 : decode cX6_push 109 = .ok (.iload_n 2, 1) := by decide +kernel
theorem dX6_push_110 : decode cX6_push 110 = .ok (.ineg, 1) := by decide +kernel
theorem dX6_push_111 : decode cX6_push 111 = .ok (.ireturn, 1) := by decide +kernel
theorem dX6_push_112 : decode cX6_push 112 = .ok (.iload_n 2, 1) := by decide +kernel
theorem dX6_push_113 : decode cX6_push 113 = .ok (.iconst 4, 1) := by decide +kernel
theorem dX6_push_114 : decode cX6_push 114 = .ok (.iload 5, 2) := by decide +kernel
theorem dX6_push_116 : decode cX6_push 116 = .ok (.imul, 1) := by decide +kernel
theorem dX6_push_117 : decode cX6_push 117 = .ok (.iload_n 3, 1) := by decide +kernel
theorem dX6_push_118 : decode cX6_push 118 = .ok (.isub, 1) := by decide +kernel
theorem dX6_push_119 : decode cX6_push 119 = .ok (.imul, 1) := by decide +kernel
theorem dX6_push_120 : decode cX6_push 120 = .ok (.iload_n 3, 1) := by decide +kernel
theorem dX6_push_121 : decode cX6_push 121 = .ok (.idiv, 1) := by decide +kernel
theorem dX6_push_122 : decode cX6_push 122 = .ok (.ireturn, 1) := by decide +kernel
theorem dX6_pushAll_0 : decode cX6_pushAll 0 = .ok (.iconst 0, 1) := by decide +kernel
theorem dX6_pushAll_1 : decode cX6_pushAll 1 = .ok (.istore_n 1, 1) := by decide +kernel
theorem dX6_pushAll_2 : decode cX6_pushAll 2 = .ok (.iconst 0, 1) := by decide +kernel
theorem dX6_pushAll_3 : decode cX6_pushAll 3 = .ok (.istore_n 2, 1) := by decide +kernel
theorem dX6_pushAll_4 : decode cX6_pushAll 4 = .ok (.iload_n 2, 1) := by decide +kernel
theorem dX6_pushAll_5 : decode cX6_pushAll 5 = .ok (.aload_n 0, 1) := by decide +kernel
theorem dX6_pushAll_6 : decode cX6_pushAll 6 = .ok (.getfield 7, 3) := by decide +kernel
theorem dX6_pushAll_9 : decode cX6_pushAll 9 = .ok (.iconst 4, 1) := by decide +kernel
theorem dX6_pushAll_10 : decode cX6_pushAll 10 = .ok (.iaload, 1) := by decide +kernel
theorem dX6_pushAll_11 : decode cX6_pushAll 11 = .ok (.if_icmp .ge 106, 3) := by decide +kernel
theorem dX6_pushAll_14 : decode cX6_pushAll 14 = .ok (.aload_n 0, 1) := by decide +kernel
theorem dX6_pushAll_15 : decode cX6_pushAll 15 = .ok (.iload_n 2, 1) := by decide +kernel
theorem dX6_pushAll_16 : decode cX6_pushAll 16 = .ok (.iconst 0, 1) := by decide +kernel
theorem dX6_pushAll_17 : decode cX6_pushAll 17 = .ok (.invokevirtual 43, 3) := by decide +kernel
theorem dX6_pushAll_20 : decode cX6_pushAll 20 = .ok (.istore_n 3, 1) := by decide +kernel
theorem dX6_pushAll_21 : decode cX6_pushAll 21 = .ok (.aload_n 0, 1) := by decide +kernel
theorem dX6_pushAll_22 : decode cX6_pushAll 22 = .ok (.iload_n 2, 1) := by decide +kernel
theorem dX6_pushAll_23 : decode cX6_pushAll 23 = .ok (.iconst 5, 1) := by decide +kernel
theorem dX6_pushAll_24 : decode cX6_pushAll 24 = .ok (.invokevirtual 43, 3) := by decide +kernel
theorem dX6_pushAll_27 : decode cX6_pushAll 27 = .ok (.iconst 1, 1) := by decide +kernel
theorem dX6_pushAll_28 : decode cX6_pushAll 28 = .ok (.if_icmp .ne 83, 3) := by decide +kernel
theorem dX6_pushAll_31 : decode cX6_pushAll 31 = .ok (.aload_n 0, 1) := by decide +kernel
theorem dX6_pushAll_32 : decode cX6_pushAll 32 = .ok (.iload_n 3, 1) := by decide +kernel
theorem dX6_pushAll_33 : decode cX6_pushAll 33 = .ok (.invokevirtual 47, 3) := by decide +kernel
theorem dX6_pushAll_36 : decode cX6_pushAll 36 = .ok (.invokestatic 51, 3) := by decide +kernel
theorem dX6_pushAll_39 : decode cX6_pushAll 39 = .ok (.aload_n 0, 1) := by decide +kernel
theorem dX6_pushAll_40 : decode cX6_pushAll 40 = .ok (.getfield 7, 3) := by decide +kernel
theorem dX6_pushAll_43 : decode cX6_pushAll 43 = .ok (.iconst 2, 1) := by decide +kernel
theorem dX6_pushAll_44 : decode cX6_pushAll 44 = .ok (.iaload, 1) := by decide +kernel
theorem dX6_pushAll_45 : decode cX6_pushAll 45 = .ok (.if_icmp .le 7, 3) := by decide +kernel
theorem dX6_pushAll_48 : decode cX6_pushAll 48 = .ok (.iconst 1, 1) := by decide +kernel
theorem dX6_pushAll_49 : decode cX6_pushAll 49 = .ok (.goto 4, 3) := by decide +kernel
theorem dX6_pushAll_52 : decode cX6_pushAll 52 = .ok (.iconst 0, 1) := by decide +kernel
theorem dX6_pushAll_53 : decode cX6_pushAll 53 = .ok (.istore 4, 2) := by decide +kernel
theorem dX6_pushAll_55 : decode cX6_pushAll 55 = .ok (.iload_n 1, 1) := by decide +kernel
theorem dX6_pushAll_56 : decode cX6_pushAll 56 = .ok (.iload 4, 2) := by decide +kernel
theorem dX6_pushAll_58 : decode cX6_pushAll 58 = .ok (.ifCond .eq 7, 3) := by decide +kernel
theorem dX6_pushAll_61 : decode cX6_pushAll 61 = .ok (.iconst 1, 1) := by decide +kernel
theorem dX6_pushAll_62 : decode cX6_pushAll 62 = .ok (.goto 4, 3) := by decide +kernel
theorem dX6_pushAll_65 : decode cX6_pushAll 65 = .ok (.iconst 0, 1) := by decide +kernel
theorem dX6_pushAll_66 : decode cX6_pushAll 66 = .ok (.iadd, 1) := by decide +kernel
theorem dX6_pushAll_67 : decode cX6_pushAll 67 = .ok (.istore_n 1, 1) := by decide +kernel
theorem dX6_pushAll_68 : decode cX6_pushAll 68 = .ok (.aload_n 0, 1) := by decide +kernel
theorem dX6_pushAll_69 : decode cX6_pushAll 69 = .ok (.iload_n 2, 1) := by decide +kernel
theorem dX6_pushAll_70 : decode cX6_pushAll 70 = .ok (.iconst 5, 1) := by decide +kernel
theorem dX6_pushAll_71 : decode cX6_pushAll 71 = .ok (.iload 4, 2) := by decide +kernel
theorem dX6_pushAll_73 : decode cX6_pushAll 73 = .ok (.ifCond .eq 7, 3) := by decide +kernel
theorem dX6_pushAll_76 : decode cX6_pushAll 76 = .ok (.iconst 0, 1) := by decide +kernel
theorem dX6_pushAll_77 : decode cX6_pushAll 77 = .ok (.goto 4, 3) := by decide +kernel
theorem dX6_pushAll_80 : decode cX6_pushAll 80 = .ok (.iconst 1, 1) := by decide +kernel
theorem dX6_pushAll_81 : decode cX6_pushAll 81 = .ok (.invokevirtual 54, 3) := by decide +kernel
theorem dX6_pushAll_84 : decode cX6_pushAll 84 = .ok (.aload_n 0, 1) := by decide +kernel
theorem dX6_pushAll_85 : decode cX6_pushAll 85 = .ok (.getfield 7, 3) := by decide +kernel
theorem dX6_pushAll_88 : decode cX6_pushAll 88 = .ok (.bipush 6, 2) := by decide +kernel
theorem dX6_pushAll_90 : decode cX6_pushAll 90 = .ok (.iload_n 3, 1) := by decide +kernel
theorem dX6_pushAll_91 : decode cX6_pushAll 91 = .ok (.iadd, 1) := by decide +kernel
theorem dX6_pushAll_92 : decode cX6_pushAll 92 = .ok (.iload 4, 2) := by decide +kernel
theorem dX6_pushAll_94 : decode cX6_pushAll 94 = .ok (.ifCond .eq 11, 3) := by decide +kernel
theorem dX6_pushAll_97 : decode cX6_pushAll 97 = .ok (.aload_n 0, 1) := by decide +kernel
theorem dX6_pushAll_98 : decode cX6_pushAll 98 = .ok (.iload_n 3, 1) := by decide +kernel
theorem dX6_pushAll_99 : decode cX6_pushAll 99 = .ok (.invokevirtual 47, 3) := by decide +kernel
theorem dX6_pushAll_102 : decode cX6_pushAll 102 = .ok (.goto 8, 3) := by decide +kernel
theorem dX6_pushAll_105 : decode cX6_pushAll 105 = .ok (.aload_n 0, 1) := by decide +kernel
theorem dX6_pushAll_106 : decode cX6_pushAll 106 = .ok (.iload_n 2, 1) := by decide +kernel
theorem dX6_pushAll_107 : decode cX6_pushAll 107 = .ok (.invokevirtual 58, 3) := by decide +kernel
theorem dX6_pushAll_110 : decode cX6_pushAll 110 = .ok (.iastore, 1) := by decide +kernel
theorem dX6_pushAll_111 : decode cX6_pushAll 111 = .ok (.iinc 2 1, 3) := by decide +kernel
theorem dX6_pushAll_114 : decode cX6_pushAll 114 = .ok (.goto (-110), 3) := by decide +kernel
theorem dX6_pushAll_117 : decode cX6_pushAll 117 = .ok (.iload_n 1, 1) := by decide +kernel
theorem dX6_pushAll_118 : decode cX6_pushAll 118 = .ok (.ireturn, 1) := by decide +kernel
theorem dX6_swing_0 : decode cX6_swing 0 = .ok (.iconst 0, 1) := by decide +kernel
theorem dX6_swing_1 : decode cX6_swing 1 = .ok (.istore_n 1, 1) := by decide +kernel
theorem dX6_swing_2 : decode cX6_swing 2 = .ok (.iload_n 1, 1) := by decide +kernel
theorem dX6_swing_3 : decode cX6_swing 3 = .ok (.bipush 40, 2) := by decide +kernel
theorem dX6_swing_5 : decode cX6_swing 5 = .ok (.if_icmp .ge 95, 3) := by decide +kernel
theorem dX6_swing_8 : decode cX6_swing 8 = .ok (.aload_n 0, 1) := by decide +kernel
theorem dX6_swing_9 : decode cX6_swing 9 = .ok (.iload_n 1, 1) := by decide +kernel
theorem dX6_swing_10 : decode cX6_swing 10 = .ok (.ifCond .ne 7, 3) := by decide +kernel
theorem dX6_swing_13 : decode cX6_swing 13 = .ok (.iload_n 1, 1) := by decide +kernel
theorem dX6_swing_14 : decode cX6_swing 14 = .ok (.goto 6, 3) := by decide +kernel
theorem dX6_swing_17 : decode cX6_swing 17 = .ok (.iload_n 1, 1) := by decide +kernel
theorem dX6_swing_18 : decode cX6_swing 18 = .ok (.iconst 1, 1) := by decide +kernel
theorem dX6_swing_19 : decode cX6_swing 19 = .ok (.isub, 1) := by decide +kernel
theorem dX6_swing_20 : decode cX6_swing 20 = .ok (.invokevirtual 47, 3) := by decide +kernel
theorem dX6_swing_23 : decode cX6_swing 23 = .ok (.istore_n 2, 1) := by decide +kernel
theorem dX6_swing_24 : decode cX6_swing 24 = .ok (.aload_n 0, 1) := by decide +kernel
theorem dX6_swing_25 : decode cX6_swing 25 = .ok (.iload_n 1, 1) := by decide +kernel
theorem dX6_swing_26 : decode cX6_swing 26 = .ok (.bipush 39, 2) := by decide +kernel
theorem dX6_swing_28 : decode cX6_swing 28 = .ok (.if_icmp .ne 7, 3) := by decide +kernel
theorem dX6_swing_31 : decode cX6_swing 31 = .ok (.iload_n 1, 1) := by decide +kernel
theorem dX6_swing_32 : decode cX6_swing 32 = .ok (.goto 6, 3) := by decide +kernel
theorem dX6_swing_35 : decode cX6_swing 35 = .ok (.iload_n 1, 1) := by decide +kernel
theorem dX6_swing_36 : decode cX6_swing 36 = .ok (.iconst 1, 1) := by decide +kernel
theorem dX6_swing_37 : decode cX6_swing 37 = .ok (.iadd, 1) := by decide +kernel
theorem dX6_swing_38 : decode cX6_swing 38 = .ok (.invokevirtual 47, 3) := by decide +kernel
theorem dX6_swing_41 : decode cX6_swing 41 = .ok (.istore_n 3, 1) := by decide +kernel
theorem dX6_swing_42 : decode cX6_swing 42 = .ok (.aload_n 0, 1) := by decide +kernel
theorem dX6_swing_43 : decode cX6_swing 43 = .ok (.getfield 7, 3) := by decide +kernel
theorem dX6_swing_46 : decode cX6_swing 46 = .ok (.bipush 46, 2) := by decide +kernel
theorem dX6_swing_48 : decode cX6_swing 48 = .ok (.iload_n 1, 1) := by decide +kernel
theorem dX6_swing_49 : decode cX6_swing 49 = .ok (.iadd, 1) := by decide +kernel
theorem dX6_swing_50 : decode cX6_swing 50 = .ok (.iaload, 1) := by decide +kernel
theorem dX6_swing_51 : decode cX6_swing 51 = .ok (.iload_n 2, 1) := by decide +kernel
theorem dX6_swing_52 : decode cX6_swing 52 = .ok (.iload_n 3, 1) := by decide +kernel
theorem dX6_swing_53 : decode cX6_swing 53 = .ok (.iadd, 1) := by decide +kernel
theorem dX6_swing_54 : decode cX6_swing 54 = .ok (.iconst 2, 1) := by decide +kernel
theorem dX6_swing_55 : decode cX6_swing 55 = .ok (.aload_n 0, 1) := by decide +kernel
theorem dX6_swing_56 : decode cX6_swing 56 = .ok (.iload_n 1, 1) := by decide +kernel
theorem dX6_swing_57 : decode cX6_swing 57 = .ok (.invokevirtual 47, 3) := by decide +kernel
theorem dX6_swing_60 : decode cX6_swing 60 = .ok (.imul, 1) := by decide +kernel
theorem dX6_swing_61 : decode cX6_swing 61 = .ok (.isub, 1) := by decide +kernel
theorem dX6_swing_62 : decode cX6_swing 62 = .ok (.iconst 4, 1) := by decide +kernel
theorem dX6_swing_63 : decode cX6_swing 63 = .ok (.idiv, 1) := by decide +kernel
theorem dX6_swing_64 : decode cX6_swing 64 = .ok (.iadd, 1) := by decide +kernel
theorem dX6_swing_65 : decode cX6_swing 65 = .ok (.invokestatic 61, 3) := by decide +kernel
theorem dX6_swing_68 : decode cX6_swing 68 = .ok (.istore 4, 2) := by decide +kernel
theorem dX6_swing_70 : decode cX6_swing 70 = .ok (.aload_n 0, 1) := by decide +kernel
theorem dX6_swing_71 : decode cX6_swing 71 = .ok (.getfield 7, 3) := by decide +kernel
theorem dX6_swing_74 : decode cX6_swing 74 = .ok (.bipush 46, 2) := by decide +kernel
theorem dX6_swing_76 : decode cX6_swing 76 = .ok (.iload_n 1, 1) := by decide +kernel
theorem dX6_swing_77 : decode cX6_swing 77 = .ok (.iadd, 1) := by decide +kernel
theorem dX6_swing_78 : decode cX6_swing 78 = .ok (.iload 4, 2) := by decide +kernel
theorem dX6_swing_80 : decode cX6_swing 80 = .ok (.iload 4, 2) := by decide +kernel
theorem dX6_swing_82 : decode cX6_swing 82 = .ok (.aload_n 0, 1) := by decide +kernel
theorem dX6_swing_83 : decode cX6_swing 83 = .ok (.getfield 7, 3) := by decide +kernel
theorem dX6_swing_86 : decode cX6_swing 86 = .ok (.iconst 1, 1) := by decide +kernel
theorem dX6_swing_87 : decode cX6_swing 87 = .ok (.iaload, 1) := by decide +kernel
theorem dX6_swing_88 : decode cX6_swing 88 = .ok (.imul, 1) := by decide +kernel
theorem dX6_swing_89 : decode cX6_swing 89 = .ok (.bipush 100, 2) := by decide +kernel
theorem dX6_swing_91 : decode cX6_swing 91 = .ok (.idiv, 1) := by decide +kernel
theorem dX6_swing_92 : decode cX6_swing 92 = .ok (.isub, 1) := by decide +kernel
theorem dX6_swing_93 : decode cX6_swing 93 = .ok (.iastore, 1) := by decide +kernel
theorem dX6_swing_94 : decode cX6_swing 94 = .ok (.iinc 1 1, 3) := by decide +kernel
theorem dX6_swing_97 : decode cX6_swing 97 = .ok (.goto (-95), 3) := by decide +kernel
theorem dX6_swing_100 : decode cX6_swing 100 = .ok (.iconst 0, 1) := by decide +kernel
theorem dX6_swing_101 : decode cX6_swing 101 = .ok (.istore_n 1, 1) := by decide +kernel
theorem dX6_swing_102 : decode cX6_swing 102 = .ok (.iload_n 1, 1) := by decide +kernel
theorem dX6_swing_103 : decode cX6_swing 103 = .ok (.bipush 40, 2) := by decide +kernel
theorem dX6_swing_105 : decode cX6_swing 105 = .ok (.if_icmp .ge 36, 3) := by decide +kernel
theorem dX6_swing_108 : decode cX6_swing 108 = .ok (.aload_n 0, 1) := by decide +kernel
theorem dX6_swing_109 : decode cX6_swing 109 = .ok (.getfield 7, 3) := by decide +kernel
theorem dX6_swing_112 : decode cX6_swing 112 = .ok (.bipush 6, 2) := by decide +kernel
theorem dX6_swing_114 : decode cX6_swing 114 = .ok (.iload_n 1, 1) := by decide +kernel
theorem dX6_swing_115 : decode cX6_swing 115 = .ok (.iadd, 1) := by decide +kernel
theorem dX6_swing_116 : decode cX6_swing 116 = .ok (.aload_n 0, 1) := by decide +kernel
theorem dX6_swing_117 : decode cX6_swing 117 = .ok (.iload_n 1, 1) := by decide +kernel
theorem dX6_swing_118 : decode cX6_swing 118 = .ok (.invokevirtual 47, 3) := by decide +kernel
theorem dX6_swing_121 : decode cX6_swing 121 = .ok (.aload_n 0, 1) := by decide +kernel
theorem dX6_swing_122 : decode cX6_swing 122 = .ok (.getfield 7, 3) := by decide +kernel
theorem dX6_swing_125 : decode cX6_swing 125 = .ok (.bipush 46, 2) := by decide +kernel
theorem dX6_swing_127 : decode cX6_swing 127 = .ok (.iload_n 1, 1) := by decide +kernel
theorem dX6_swing_128 : decode cX6_swing 128 = .ok (.iadd, 1) := by decide +kernel
theorem dX6_swing_129 : decode cX6_swing 129 = .ok (.iaload, 1) := by decide +kernel
theorem dX6_swing_130 : decode cX6_swing 130 = .ok (.iadd, 1) := by decide +kernel
theorem dX6_swing_131 : decode cX6_swing 131 = .ok (.invokestatic 61, 3) := by decide +kernel
theorem dX6_swing_134 : decode cX6_swing 134 = .ok (.iastore, 1) := by decide +kernel
theorem dX6_swing_135 : decode cX6_swing 135 = .ok (.iinc 1 1, 3) := by decide +kernel
theorem dX6_swing_138 : decode cX6_swing 138 = .ok (.goto (-36), 3) := by decide +kernel
theorem dX6_swing_141 : decode cX6_swing 141 = .ok (.return_, 1) := by decide +kernel
theorem dX6_beach_0 : decode cX6_beach 0 = .ok (.bipush 36, 2) := by decide +kernel
theorem dX6_beach_2 : decode cX6_beach 2 = .ok (.istore_n 1, 1) := by decide +kernel
theorem dX6_beach_3 : decode cX6_beach 3 = .ok (.iload_n 1, 1) := by decide +kernel
theorem dX6_beach_4 : decode cX6_beach 4 = .ok (.bipush 40, 2) := by decide +kernel
theorem dX6_beach_6 : decode cX6_beach 6 = .ok (.if_icmp .ge 71, 3) := by decide +kernel
theorem dX6_beach_9 : decode cX6_beach 9 = .ok (.aload_n 0, 1) := by decide +kernel
theorem dX6_beach_10 : decode cX6_beach 10 = .ok (.getfield 7, 3) := by decide +kernel
theorem dX6_beach_13 : decode cX6_beach 13 = .ok (.iconst 0, 1) := by decide +kernel
theorem dX6_beach_14 : decode cX6_beach 14 = .ok (.iaload, 1) := by decide +kernel
theorem dX6_beach_15 : decode cX6_beach 15 = .ok (.iload_n 1, 1) := by decide +kernel
theorem dX6_beach_16 : decode cX6_beach 16 = .ok (.bipush 35, 2) := by decide +kernel
theorem dX6_beach_18 : decode cX6_beach 18 = .ok (.isub, 1) := by decide +kernel
theorem dX6_beach_19 : decode cX6_beach 19 = .ok (.imul, 1) := by decide +kernel
theorem dX6_beach_20 : decode cX6_beach 20 = .ok (.istore_n 2, 1) := by decide +kernel
theorem dX6_beach_21 : decode cX6_beach 21 = .ok (.aload_n 0, 1) := by decide +kernel
theorem dX6_beach_22 : decode cX6_beach 22 = .ok (.getfield 7, 3) := by decide +kernel
theorem dX6_beach_25 : decode cX6_beach 25 = .ok (.bipush 6, 2) := by decide +kernel
theorem dX6_beach_27 : decode cX6_beach 27 = .ok (.iload_n 1, 1) := by decide +kernel
theorem dX6_beach_28 : decode cX6_beach 28 = .ok (.iadd, 1) := by decide +kernel
theorem dX6_beach_29 : decode cX6_beach 29 = .ok (.dup2, 1) := by decide +kernel
theorem dX6_beach_30 : decode cX6_beach 30 = .ok (.iaload, 1) := by decide +kernel
theorem dX6_beach_31 : decode cX6_beach 31 = .ok (.aload_n 0, 1) := by decide +kernel
theorem dX6_beach_32 : decode cX6_beach 32 = .ok (.iload_n 1, 1) := by decide +kernel
theorem dX6_beach_33 : decode cX6_beach 33 = .ok (.invokevirtual 47, 3) := by decide +kernel
theorem dX6_beach_36 : decode cX6_beach 36 = .ok (.iload_n 2, 1) := by decide +kernel
theorem dX6_beach_37 : decode cX6_beach 37 = .ok (.imul, 1) := by decide +kernel
theorem dX6_beach_38 : decode cX6_beach 38 = .ok (.sipush 400, 3) := by decide +kernel
theorem dX6_beach_41 : decode cX6_beach 41 = .ok (.idiv, 1) := by decide +kernel
theorem dX6_beach_42 : decode cX6_beach 42 = .ok (.isub, 1) := by decide +kernel
theorem dX6_beach_43 : decode cX6_beach 43 = .ok (.iastore, 1) := by decide +kernel
theorem dX6_beach_44 : decode cX6_beach 44 = .ok (.aload_n 0, 1) := by decide +kernel
theorem dX6_beach_45 : decode cX6_beach 45 = .ok (.getfield 7, 3) := by decide +kernel
theorem dX6_beach_48 : decode cX6_beach 48 = .ok (.bipush 46, 2) := by decide +kernel
theorem dX6_beach_50 : decode cX6_beach 50 = .ok (.iload_n 1, 1) := by decide +kernel
theorem dX6_beach_51 : decode cX6_beach 51 = .ok (.iadd, 1) := by decide +kernel
theorem dX6_beach_52 : decode cX6_beach 52 = .ok (.dup2, 1) := by decide +kernel
theorem dX6_beach_53 : decode cX6_beach 53 = .ok (.iaload, 1) := by decide +kernel
theorem dX6_beach_54 : decode cX6_beach 54 = .ok (.aload_n 0, 1) := by decide +kernel
theorem dX6_beach_55 : decode cX6_beach 55 = .ok (.getfield 7, 3) := by decide +kernel
theorem dX6_beach_58 : decode cX6_beach 58 = .ok (.bipush 46, 2) := by decide +kernel
theorem dX6_beach_60 : decode cX6_beach 60 = .ok (.iload_n 1, 1) := by decide +kernel
theorem dX6_beach_61 : decode cX6_beach 61 = .ok (.iadd, 1) := by decide +kernel
theorem dX6_beach_62 : decode cX6_beach 62 = .ok (.iaload, 1) := by decide +kernel
theorem dX6_beach_63 : decode cX6_beach 63 = .ok (.iload_n 2, 1) := by decide +kernel
theorem dX6_beach_64 : decode cX6_beach 64 = .ok (.imul, 1) := by decide +kernel
theorem dX6_beach_65 : decode cX6_beach 65 = .ok (.sipush 400, 3) := by decide +kernel
theorem dX6_beach_68 : decode cX6_beach 68 = .ok (.idiv, 1) := by decide +kernel
theorem dX6_beach_69 : decode cX6_beach 69 = .ok (.isub, 1) := by decide +kernel
theorem dX6_beach_70 : decode cX6_beach 70 = .ok (.iastore, 1) := by decide +kernel
theorem dX6_beach_71 : decode cX6_beach 71 = .ok (.iinc 1 1, 3) := by decide +kernel
theorem dX6_beach_74 : decode cX6_beach 74 = .ok (.goto (-71), 3) := by decide +kernel
theorem dX6_beach_77 : decode cX6_beach 77 = .ok (.return_, 1) := by decide +kernel
theorem dX6_note_0 : decode cX6_note 0 = .ok (.iconst 0, 1) := by decide +kernel
theorem dX6_note_1 : decode cX6_note 1 = .ok (.istore_n 1, 1) := by decide +kernel
theorem dX6_note_2 : decode cX6_note 2 = .ok (.iload_n 1, 1) := by decide +kernel
theorem dX6_note_3 : decode cX6_note 3 = .ok (.aload_n 0, 1) := by decide +kernel
theorem dX6_note_4 : decode cX6_note 4 = .ok (.getfield 7, 3) := by decide +kernel
theorem dX6_note_7 : decode cX6_note 7 = .ok (.iconst 5, 1) := by decide +kernel
theorem dX6_note_8 : decode cX6_note 8 = .ok (.iaload, 1) := by decide +kernel
theorem dX6_note_9 : decode cX6_note 9 = .ok (.if_icmp .ge 117, 3) := by decide +kernel
theorem dX6_note_12 : decode cX6_note 12 = .ok (.bipush 122, 2) := by decide +kernel
theorem dX6_note_14 : decode cX6_note 14 = .ok (.bipush 62, 2) := by decide +kernel
theorem dX6_note_16 : decode cX6_note 16 = .ok (.iload_n 1, 1) := by decide +kernel
theorem dX6_note_17 : decode cX6_note 17 = .ok (.imul, 1) := by decide +kernel
theorem dX6_note_18 : decode cX6_note 18 = .ok (.iadd, 1) := by decide +kernel
theorem dX6_note_19 : decode cX6_note 19 = .ok (.istore_n 2, 1) := by decide +kernel
theorem dX6_note_20 : decode cX6_note 20 = .ok (.aload_n 0, 1) := by decide +kernel
theorem dX6_note_21 : decode cX6_note 21 = .ok (.getfield 7, 3) := by decide +kernel
theorem dX6_note_24 : decode cX6_note 24 = .ok (.iload_n 2, 1) := by decide +kernel
theorem dX6_note_25 : decode cX6_note 25 = .ok (.iconst 1, 1) := by decide +kernel
theorem dX6_note_26 : decode cX6_note 26 = .ok (.iadd, 1) := by decide +kernel
theorem dX6_note_27 : decode cX6_note 27 = .ok (.iaload, 1) := by decide +kernel
theorem dX6_note_28 : decode cX6_note 28 = .ok (.bipush 60, 2) := by decide +kernel
theorem dX6_note_30 : decode cX6_note 30 = .ok (.if_icmp .ne 51, 3) := by decide +kernel
theorem dX6_note_33 : decode cX6_note 33 = .ok (.iconst 1, 1) := by decide +kernel
theorem dX6_note_34 : decode cX6_note 34 = .ok (.istore_n 3, 1) := by decide +kernel
theorem dX6_note_35 : decode cX6_note 35 = .ok (.iload_n 3, 1) := by decide +kernel
theorem dX6_note_36 : decode cX6_note 36 = .ok (.bipush 60, 2) := by decide +kernel
theorem dX6_note_38 : decode cX6_note 38 = .ok (.if_icmp .ge 31, 3) := by decide +kernel
theorem dX6_note_41 : decode cX6_note 41 = .ok (.aload_n 0, 1) := by decide +kernel
theorem dX6_note_42 : decode cX6_note 42 = .ok (.getfield 7, 3) := by decide +kernel
theorem dX6_note_45 : decode cX6_note 45 = .ok (.iload_n 2, 1) := by decide +kernel
theorem dX6_note_46 : decode cX6_note 46 = .ok (.iconst 2, 1) := by decide +kernel
theorem dX6_note_47 : decode cX6_note 47 = .ok (.iadd, 1) := by decide +kernel
theorem dX6_note_48 : decode cX6_note 48 = .ok (.iload_n 3, 1) := by decide +kernel
theorem dX6_note_49 : decode cX6_note 49 = .ok (.iadd, 1) := by decide +kernel
theorem dX6_note_50 : decode cX6_note 50 = .ok (.iconst 1, 1) := by decide +kernel
theorem dX6_note_51 : decode cX6_note 51 = .ok (.isub, 1) := by decide +kernel
theorem dX6_note_52 : decode cX6_note 52 = .ok (.aload_n 0, 1) := by decide +kernel
theorem dX6_note_53 : decode cX6_note 53 = .ok (.getfield 7, 3) := by decide +kernel
theorem dX6_note_56 : decode cX6_note 56 = .ok (.iload_n 2, 1) := by decide +kernel
theorem dX6_note_57 : decode cX6_note 57 = .ok (.iconst 2, 1) := by decide +kernel
theorem dX6_note_58 : decode cX6_note 58 = .ok (.iadd, 1) := by decide +kernel
theorem dX6_note_59 : decode cX6_note 59 = .ok (.iload_n 3, 1) := by decide +kernel
theorem dX6_note_60 : decode cX6_note 60 = .ok (.iadd, 1) := by decide +kernel
theorem dX6_note_61 : decode cX6_note 61 = .ok (.iaload, 1) := by decide +kernel
theorem dX6_note_62 : decode cX6_note 62 = .ok (.iastore, 1) := by decide +kernel
theorem dX6_note_63 : decode cX6_note 63 = .ok (.iinc 3 1, 3) := by decide +kernel
theorem dX6_note_66 : decode cX6_note 66 = .ok (.goto (-31), 3) := by decide +kernel
theorem dX6_note_69 : decode cX6_note 69 = .ok (.aload_n 0, 1) := by decide +kernel
theorem dX6_note_70 : decode cX6_note 70 = .ok (.getfield 7, 3) := by decide +kernel
theorem dX6_note_73 : decode cX6_note 73 = .ok (.iload_n 2, 1) := by decide +kernel
theorem dX6_note_74 : decode cX6_note 74 = .ok (.iconst 1, 1) := by decide +kernel
theorem dX6_note_75 : decode cX6_note 75 = .ok (.iadd, 1) := by decide +kernel
theorem dX6_note_76 : decode cX6_note 76 = .ok (.dup2, 1) := by decide +kernel
theorem dX6_note_77 : decode cX6_note 77 = .ok (.iaload, 1) := by decide +kernel
theorem dX6_note_78 : decode cX6_note 78 = .ok (.iconst 1, 1) := by decide +kernel
theorem dX6_note_79 : decode cX6_note 79 = .ok (.isub, 1) := by decide +kernel
theorem dX6_note_80 : decode cX6_note 80 = .ok (.iastore, 1) := by decide +kernel
theorem dX6_note_81 : decode cX6_note 81 = .ok (.aload_n 0, 1) := by decide +kernel
theorem dX6_note_82 : decode cX6_note 82 = .ok (.getfield 7, 3) := by decide +kernel
theorem dX6_note_85 : decode cX6_note 85 = .ok (.iload_n 2, 1) := by decide +kernel
theorem dX6_note_86 : decode cX6_note 86 = .ok (.iconst 2, 1) := by decide +kernel
theorem dX6_note_87 : decode cX6_note 87 = .ok (.iadd, 1) := by decide +kernel
theorem dX6_note_88 : decode cX6_note 88 = .ok (.aload_n 0, 1) := by decide +kernel
theorem dX6_note_89 : decode cX6_note 89 = .ok (.getfield 7, 3) := by decide +kernel
theorem dX6_note_92 : decode cX6_note 92 = .ok (.iload_n 2, 1) := by decide +kernel
theorem dX6_note_93 : decode cX6_note 93 = .ok (.iconst 1, 1) := by decide +kernel
theorem dX6_note_94 : decode cX6_note 94 = .ok (.iadd, 1) := by decide +kernel
theorem dX6_note_95 : decode cX6_note 95 = .ok (.iaload, 1) := by decide +kernel
theorem dX6_note_96 : decode cX6_note 96 = .ok (.iadd, 1) := by decide +kernel
theorem dX6_note_97 : decode cX6_note 97 = .ok (.aload_n 0, 1) := by decide +kernel
theorem dX6_note_98 : decode cX6_note 98 = .ok (.aload_n 0, 1) := by decide +kernel
theorem dX6_note_99 : decode cX6_note 99 = .ok (.getfield 7, 3) := by decide +kernel
theorem dX6_note_102 : decode cX6_note 102 = .ok (.iload_n 2, 1) := by decide +kernel
theorem dX6_note_103 : decode cX6_note 103 = .ok (.iaload, 1) := by decide +kernel
theorem dX6_note_104 : decode cX6_note 104 = .ok (.invokevirtual 47, 3) := by decide +kernel
theorem dX6_note_107 : decode cX6_note 107 = .ok (.iastore, 1) := by decide +kernel
theorem dX6_note_108 : decode cX6_note 108 = .ok (.aload_n 0, 1) := by decide +kernel
theorem dX6_note_109 : decode cX6_note 109 = .ok (.getfield 7, 3) := by decide +kernel
theorem dX6_note_112 : decode cX6_note 112 = .ok (.iload_n 2, 1) := by decide +kernel
theorem dX6_note_113 : decode cX6_note 113 = .ok (.iconst 1, 1) := by decide +kernel
theorem dX6_note_114 : decode cX6_note 114 = .ok (.iadd, 1) := by decide +kernel
theorem dX6_note_115 : decode cX6_note 115 = .ok (.dup2, 1) := by decide +kernel
theorem dX6_note_116 : decode cX6_note 116 = .ok (.iaload, 1) := by decide +kernel
theorem dX6_note_117 : decode cX6_note 117 = .ok (.iconst 1, 1) := by decide +kernel
theorem dX6_note_118 : decode cX6_note 118 = .ok (.iadd, 1) := by decide +kernel
theorem dX6_note_119 : decode cX6_note 119 = .ok (.iastore, 1) := by decide +kernel
theorem dX6_note_120 : decode cX6_note 120 = .ok (.iinc 1 1, 3) := by decide +kernel
theorem dX6_note_123 : decode cX6_note 123 = .ok (.goto (-121), 3) := by decide +kernel
theorem dX6_note_126 : decode cX6_note 126 = .ok (.return_, 1) := by decide +kernel
theorem dX6_step_0 : decode cX6_step 0 = .ok (.aload_n 0, 1) := by decide +kernel
theorem dX6_step_1 : decode cX6_step 1 = .ok (.invokevirtual 64, 3) := by decide +kernel
theorem dX6_step_4 : decode cX6_step 4 = .ok (.istore_n 1, 1) := by decide +kernel
theorem dX6_step_5 : decode cX6_step 5 = .ok (.aload_n 0, 1) := by decide +kernel
theorem dX6_step_6 : decode cX6_step 6 = .ok (.invokevirtual 68, 3) := by decide +kernel
theorem dX6_step_9 : decode cX6_step 9 = .ok (.aload_n 0, 1) := by decide +kernel
theorem dX6_step_10 : decode cX6_step 10 = .ok (.invokevirtual 71, 3) := by decide +kernel
theorem dX6_step_13 : decode cX6_step 13 = .ok (.aload_n 0, 1) := by decide +kernel
theorem dX6_step_14 : decode cX6_step 14 = .ok (.getfield 7, 3) := by decide +kernel
theorem dX6_step_17 : decode cX6_step 17 = .ok (.iconst 3, 1) := by decide +kernel
theorem dX6_step_18 : decode cX6_step 18 = .ok (.dup2, 1) := by decide +kernel
theorem dX6_step_19 : decode cX6_step 19 = .ok (.iaload, 1) := by decide +kernel
theorem dX6_step_20 : decode cX6_step 20 = .ok (.iconst 1, 1) := by decide +kernel
theorem dX6_step_21 : decode cX6_step 21 = .ok (.iadd, 1) := by decide +kernel
theorem dX6_step_22 : decode cX6_step 22 = .ok (.iastore, 1) := by decide +kernel
theorem dX6_step_23 : decode cX6_step 23 = .ok (.aload_n 0, 1) := by decide +kernel
theorem dX6_step_24 : decode cX6_step 24 = .ok (.invokevirtual 74, 3) := by decide +kernel
theorem dX6_step_27 : decode cX6_step 27 = .ok (.iload_n 1, 1) := by decide +kernel
theorem dX6_step_28 : decode cX6_step 28 = .ok (.ireturn, 1) := by decide +kernel
theorem dX6_passes_0 : decode cX6_passes 0 = .ok (.iconst 0, 1) := by decide +kernel
theorem dX6_passes_1 : decode cX6_passes 1 = .ok (.istore_n 2, 1) := by decide +kernel
theorem dX6_passes_2 : decode cX6_passes 2 = .ok (.iconst 0, 1) := by decide +kernel
theorem dX6_passes_3 : decode cX6_passes 3 = .ok (.istore_n 3, 1) := by decide +kernel
theorem dX6_passes_4 : decode cX6_passes 4 = .ok (.iload_n 3, 1) := by decide +kernel
theorem dX6_passes_5 : decode cX6_passes 5 = .ok (.iload_n 1, 1) := by decide +kernel
theorem dX6_passes_6 : decode cX6_passes 6 = .ok (.if_icmp .ge 16, 3) := by decide +kernel
theorem dX6_passes_9 : decode cX6_passes 9 = .ok (.iload_n 2, 1) := by decide +kernel
theorem dX6_passes_10 : decode cX6_passes 10 = .ok (.aload_n 0, 1) := by decide +kernel
theorem dX6_passes_11 : decode cX6_passes 11 = .ok (.invokevirtual 77, 3) := by decide +kernel
theorem dX6_passes_14 : decode cX6_passes 14 = .ok (.iadd, 1) := by decide +kernel
theorem dX6_passes_15 : decode cX6_passes 15 = .ok (.istore_n 2, 1) := by decide +kernel
theorem dX6_passes_16 : decode cX6_passes 16 = .ok (.iinc 3 1, 3) := by decide +kernel
theorem dX6_passes_19 : decode cX6_passes 19 = .ok (.goto (-15), 3) := by decide +kernel
theorem dX6_passes_22 : decode cX6_passes 22 = .ok (.iload_n 2, 1) := by decide +kernel
theorem dX6_passes_23 : decode cX6_passes 23 = .ok (.ireturn, 1) := by decide +kernel
theorem dX6_isValue_0 : decode cX6_isValue 0 = .ok (.iload_n 0, 1) := by decide +kernel
theorem dX6_isValue_1 : decode cX6_isValue 1 = .ok (.ifCond .ne 13, 3) := by decide +kernel
theorem dX6_isValue_4 : decode cX6_isValue 4 = .ok (.iload_n 1, 1) := by decide +kernel
theorem dX6_isValue_5 : decode cX6_isValue 5 = .ok (.iconst 0, 1) := by decide +kernel
theorem dX6_isValue_6 : decode cX6_isValue 6 = .ok (.bipush 100, 2) := by decide +kernel
theorem dX6_isValue_8 : decode cX6_isValue 8 = .ok (.invokestatic 39, 3) := by decide +kernel
theorem dX6_isValue_11 : decode cX6_isValue 11 = .ok (.goto 39, 3) := by decide +kernel
theorem dX6_isValue_14 : decode cX6_isValue 14 = .ok (.iload_n 0, 1) := by decide +kernel
theorem dX6_isValue_15 : decode cX6_isValue 15 = .ok (.iconst 1, 1) := by decide +kernel
theorem dX6_isValue_16 : decode cX6_isValue 16 = .ok (.if_icmp .ne 13, 3) := by decide +kernel
theorem dX6_isValue_19 : decode cX6_isValue 19 = .ok (.iload_n 1, 1) := by decide +kernel
theorem dX6_isValue_20 : decode cX6_isValue 20 = .ok (.iconst 0, 1) := by decide +kernel
theorem dX6_isValue_21 : decode cX6_isValue 21 = .ok (.bipush 50, 2) := by decide +kernel
theorem dX6_isValue_23 : decode cX6_isValue 23 = .ok (.invokestatic 39, 3) := by decide +kernel
theorem dX6_isValue_26 : decode cX6_isValue 26 = .ok (.goto 24, 3) := by decide +kernel
theorem dX6_isValue_29 : decode cX6_isValue 29 = .ok (.iload_n 0, 1) := by decide +kernel
theorem dX6_isValue_30 : decode cX6_isValue 30 = .ok (.iconst 2, 1) := by decide +kernel
theorem dX6_isValue_31 : decode cX6_isValue 31 = .ok (.if_icmp .ne 18, 3) := by decide +kernel
theorem dX6_isValue_34 : decode cX6_isValue 34 = .ok (.iload_n 1, 1) := by decide +kernel
theorem dX6_isValue_35 : decode cX6_isValue 35 = .ok (.iconst 1, 1) := by decide +kernel
theorem dX6_isValue_36 : decode cX6_isValue 36 = .ok (.sipush 9999, 3) := by decide +kernel
theorem dX6_isValue_39 : decode cX6_isValue 39 = .ok (.invokestatic 39, 3) := by decide +kernel
theorem dX6_isValue_42 : decode cX6_isValue 42 = .ok (.ifCond .eq 7, 3) := by decide +kernel
theorem dX6_isValue_45 : decode cX6_isValue 45 = .ok (.iconst 1, 1) := by decide +kernel
theorem dX6_isValue_46 : decode cX6_isValue 46 = .ok (.goto 4, 3) := by decide +kernel
theorem dX6_isValue_49 : decode cX6_isValue 49 = .ok (.iconst 0, 1) := by decide +kernel
theorem dX6_isValue_50 : decode cX6_isValue 50 = .ok (.ireturn, 1) := by decide +kernel
theorem dX6_set_0 : decode cX6_set 0 = .ok (.iload_n 1, 1) := by decide +kernel
theorem dX6_set_1 : decode cX6_set 1 = .ok (.iload_n 2, 1) := by decide +kernel
theorem dX6_set_2 : decode cX6_set 2 = .ok (.invokestatic 80, 3) := by decide +kernel
theorem dX6_set_5 : decode cX6_set 5 = .ok (.ifCond .ne 6, 3) := by decide +kernel
theorem dX6_set_8 : decode cX6_set 8 = .ok (.bipush (-2), 2) := by decide +kernel
theorem dX6_set_10 : decode cX6_set 10 = .ok (.ireturn, 1) := by decide +kernel
theorem dX6_set_11 : decode cX6_set 11 = .ok (.aload_n 0, 1) := by decide +kernel
theorem dX6_set_12 : decode cX6_set 12 = .ok (.invokevirtual 84, 3) := by decide +kernel
theorem dX6_set_15 : decode cX6_set 15 = .ok (.aload_n 0, 1) := by decide +kernel
theorem dX6_set_16 : decode cX6_set 16 = .ok (.getfield 7, 3) := by decide +kernel
theorem dX6_set_19 : decode cX6_set 19 = .ok (.iload_n 1, 1) := by decide +kernel
theorem dX6_set_20 : decode cX6_set 20 = .ok (.iaload, 1) := by decide +kernel
theorem dX6_set_21 : decode cX6_set 21 = .ok (.istore_n 3, 1) := by decide +kernel
theorem dX6_set_22 : decode cX6_set 22 = .ok (.aload_n 0, 1) := by decide +kernel
theorem dX6_set_23 : decode cX6_set 23 = .ok (.getfield 7, 3) := by decide +kernel
theorem dX6_set_26 : decode cX6_set 26 = .ok (.iload_n 1, 1) := by decide +kernel
theorem dX6_set_27 : decode cX6_set 27 = .ok (.iload_n 2, 1) := by decide +kernel
theorem dX6_set_28 : decode cX6_set 28 = .ok (.iastore, 1) := by decide +kernel
theorem dX6_set_29 : decode cX6_set 29 = .ok (.iload_n 3, 1) := by decide +kernel
theorem dX6_set_30 : decode cX6_set 30 = .ok (.ireturn, 1) := by decide +kernel
theorem dX6_whyNoPaddle_0 : decode cX6_whyNoPaddle 0 = .ok (.iload_n 1, 1) := by decide +kernel
theorem dX6_whyNoPaddle_1 : decode cX6_whyNoPaddle 1 = .ok (.iconst 0, 1) := by decide +kernel
theorem dX6_whyNoPaddle_2 : decode cX6_whyNoPaddle 2 = .ok (.bipush 35, 2) := by decide +kernel
theorem dX6_whyNoPaddle_4 : decode cX6_whyNoPaddle 4 = .ok (.invokestatic 39, 3) := by decide +kernel
theorem dX6_whyNoPaddle_7 : decode cX6_whyNoPaddle 7 = .ok (.ifCond .ne 5, 3) := by decide +kernel
theorem dX6_whyNoPaddle_10 : decode cX6_whyNoPaddle 10 = .ok (.iconst (-1), 1) := by decide +kernel
theorem dX6_whyNoPaddle_11 : decode cX6_whyNoPaddle 11 = .ok (.ireturn, 1) := by decide +kernel
theorem dX6_whyNoPaddle_12 : decode cX6_whyNoPaddle 12 = .ok (.iload_n 2, 1) := by decide +kernel
theorem dX6_whyNoPaddle_13 : decode cX6_whyNoPaddle 13 = .ok (.iconst 0, 1) := by decide +kernel
theorem dX6_whyNoPaddle_14 : decode cX6_whyNoPaddle 14 = .ok (.iconst 3, 1) := by decide +kernel
theorem dX6_whyNoPaddle_15 : decode cX6_whyNoPaddle 15 = .ok (.invokestatic 39, 3) := by decide +kernel
theorem dX6_whyNoPaddle_18 : decode cX6_whyNoPaddle 18 = .ok (.ifCond .eq 38, 3) := by decide +kernel
theorem dX6_whyNoPaddle_21 : decode cX6_whyNoPaddle 21 = .ok (.iload_n 3, 1) := by decide +kernel
theorem dX6_whyNoPaddle_22 : decode cX6_whyNoPaddle 22 = .ok (.sipush (-999), 3) := by decide +kernel
theorem dX6_whyNoPaddle_25 : decode cX6_whyNoPaddle 25 = .ok (.sipush 999, 3) := by decide +kernel
theorem dX6_whyNoPaddle_28 : decode cX6_whyNoPaddle 28 = .ok (.invokestatic 39, 3) := by decide +kernel
theorem dX6_whyNoPaddle_31 : decode cX6_whyNoPaddle 31 = .ok (.ifCond .eq 25, 3) := by decide +kernel
theorem dX6_whyNoPaddle_34 : decode cX6_whyNoPaddle 34 = .ok (.iload 4, 2) := by decide +kernel
theorem dX6_whyNoPaddle_36 : decode cX6_whyNoPaddle 36 = .ok (.iconst 1, 1) := by decide +kernel
theorem dX6_whyNoPaddle_37 : decode cX6_whyNoPaddle 37 = .ok (.bipush 60, 2) := by decide +kernel
theorem dX6_whyNoPaddle_39 : decode cX6_whyNoPaddle 39 = .ok (.invokestatic 39, 3) := by decide +kernel
theorem dX6_whyNoPaddle_42 : decode cX6_whyNoPaddle 42 = .ok (.ifCond .eq 14, 3) := by decide +kernel
theorem dX6_whyNoPaddle_45 : decode cX6_whyNoPaddle 45 = .ok (.iload 5, 2) := by decide +kernel
theorem dX6_whyNoPaddle_47 : decode cX6_whyNoPaddle 47 = .ok (.iconst 0, 1) := by decide +kernel
theorem dX6_whyNoPaddle_48 : decode cX6_whyNoPaddle 48 = .ok (.bipush 59, 2) := by decide +kernel
theorem dX6_whyNoPaddle_50 : decode cX6_whyNoPaddle 50 = .ok (.invokestatic 39, 3) := by decide +kernel
theorem dX6_whyNoPaddle_53 : decode cX6_whyNoPaddle 53 = .ok (.ifCond .ne 6, 3) := by decide +kernel
theorem dX6_whyNoPaddle_56 : decode cX6_whyNoPaddle 56 = .ok (.bipush (-2), 2) := by decide +kernel
theorem dX6_whyNoPaddle_58 : decode cX6_whyNoPaddle 58 = .ok (.ireturn, 1) := by decide +kernel
theorem dX6_whyNoPaddle_59 : decode cX6_whyNoPaddle 59 = .ok (.aload_n 0, 1) := by decide +kernel
theorem dX6_whyNoPaddle_60 : decode cX6_whyNoPaddle 60 = .ok (.iload_n 1, 1) := by decide +kernel
theorem dX6_whyNoPaddle_61 : decode cX6_whyNoPaddle 61 = .ok (.invokevirtual 87, 3) := by decide +kernel
theorem dX6_whyNoPaddle_64 : decode cX6_whyNoPaddle 64 = .ok (.bipush (-6), 2) := by decide +kernel
theorem dX6_whyNoPaddle_66 : decode cX6_whyNoPaddle 66 = .ok (.if_icmp .ne 19, 3) := by decide +kernel
theorem dX6_whyNoPaddle_69 : decode cX6_whyNoPaddle 69 = .ok (.aload_n 0, 1) := by decide +kernel
theorem dX6_whyNoPaddle_70 : decode cX6_whyNoPaddle 70 = .ok (.getfield 7, 3) := by decide +kernel
theorem dX6_whyNoPaddle_73 : decode cX6_whyNoPaddle 73 = .ok (.iconst 4, 1) := by decide +kernel
theorem dX6_whyNoPaddle_74 : decode cX6_whyNoPaddle 74 = .ok (.iaload, 1) := by decide +kernel
theorem dX6_whyNoPaddle_75 : decode cX6_whyNoPaddle 75 = .ok (.bipush 6, 2) := by decide +kernel
theorem dX6_whyNoPaddle_77 : decode cX6_whyNoPaddle 77 = .ok (.if_icmp .ne 8, 3) := by decide +kernel
theorem dX6_whyNoPaddle_80 : decode cX6_whyNoPaddle 80 = .ok (.bipush (-4), 2) := by decide +kernel
theorem dX6_whyNoPaddle_82 : decode cX6_whyNoPaddle 82 = .ok (.goto 4, 3) := by decide +kernel
theorem dX6_whyNoPaddle_85 : decode cX6_whyNoPaddle 85 = .ok (.iconst 0, 1) := by decide +kernel
theorem dX6_whyNoPaddle_86 : decode cX6_whyNoPaddle 86 = .ok (.ireturn, 1) := by decide +kernel
theorem dX6_lifts_0 : decode cX6_lifts 0 = .ok (.aload_n 0, 1) := by decide +kernel
theorem dX6_lifts_1 : decode cX6_lifts 1 = .ok (.getfield 7, 3) := by decide +kernel
theorem dX6_lifts_4 : decode cX6_lifts 4 = .ok (.iconst 4, 1) := by decide +kernel
theorem dX6_lifts_5 : decode cX6_lifts 5 = .ok (.dup2, 1) := by decide +kernel
theorem dX6_lifts_6 : decode cX6_lifts 6 = .ok (.iaload, 1) := by decide +kernel
theorem dX6_lifts_7 : decode cX6_lifts 7 = .ok (.iconst 1, 1) := by decide +kernel
theorem dX6_lifts_8 : decode cX6_lifts 8 = .ok (.isub, 1) := by decide +kernel
theorem dX6_lifts_9 : decode cX6_lifts 9 = .ok (.iastore, 1) := by decide +kernel
theorem dX6_lifts_10 : decode cX6_lifts 10 = .ok (.bipush 86, 2) := by decide +kernel
theorem dX6_lifts_12 : decode cX6_lifts 12 = .ok (.bipush 6, 2) := by decide +kernel
theorem dX6_lifts_14 : decode cX6_lifts 14 = .ok (.iload_n 1, 1) := by decide +kernel
theorem dX6_lifts_15 : decode cX6_lifts 15 = .ok (.imul, 1) := by decide +kernel
theorem dX6_lifts_16 : decode cX6_lifts 16 = .ok (.iadd, 1) := by decide +kernel
theorem dX6_lifts_17 : decode cX6_lifts 17 = .ok (.istore_n 2, 1) := by decide +kernel
theorem dX6_lifts_18 : decode cX6_lifts 18 = .ok (.iload_n 2, 1) := by decide +kernel
theorem dX6_lifts_19 : decode cX6_lifts 19 = .ok (.bipush 86, 2) := by decide +kernel
theorem dX6_lifts_21 : decode cX6_lifts 21 = .ok (.bipush 6, 2) := by decide +kernel
theorem dX6_lifts_23 : decode cX6_lifts 23 = .ok (.aload_n 0, 1) := by decide +kernel
theorem dX6_lifts_24 : decode cX6_lifts 24 = .ok (.getfield 7, 3) := by decide +kernel
theorem dX6_lifts_27 : decode cX6_lifts 27 = .ok (.iconst 4, 1) := by decide +kernel
theorem dX6_lifts_28 : decode cX6_lifts 28 = .ok (.iaload, 1) := by decide +kernel
theorem dX6_lifts_29 : decode cX6_lifts 29 = .ok (.imul, 1) := by decide +kernel
theorem dX6_lifts_30 : decode cX6_lifts 30 = .ok (.iadd, 1) := by decide +kernel
theorem dX6_lifts_31 : decode cX6_lifts 31 = .ok (.if_icmp .ge 24, 3) := by decide +kernel
theorem dX6_lifts_34 : decode cX6_lifts 34 = .ok (.aload_n 0, 1) := by decide +kernel
theorem dX6_lifts_35 : decode cX6_lifts 35 = .ok (.getfield 7, 3) := by decide +kernel
theorem dX6_lifts_38 : decode cX6_lifts 38 = .ok (.iload_n 2, 1) := by decide +kernel
theorem dX6_lifts_39 : decode cX6_lifts 39 = .ok (.aload_n 0, 1) := by decide +kernel
theorem dX6_lifts_40 : decode cX6_lifts 40 = .ok (.getfield 7, 3) := by decide +kernel
theorem dX6_lifts_43 : decode cX6_lifts 43 = .ok (.iload_n 2, 1) := by decide +kernel
theorem dX6_lifts_44 : decode cX6_lifts 44 = .ok (.bipush 6, 2) := by decide +kernel
theorem dX6_lifts_46 : decode cX6_lifts 46 = .ok (.iadd, 1) := by decide +kernel
theorem dX6_lifts_47 : decode cX6_lifts 47 = .ok (.iaload, 1) := by decide +kernel
theorem dX6_lifts_48 : decode cX6_lifts 48 = .ok (.iastore, 1) := by decide +kernel
theorem dX6_lifts_49 : decode cX6_lifts 49 = .ok (.iinc 2 1, 3) := by decide +kernel
theorem dX6_lifts_52 : decode cX6_lifts 52 = .ok (.goto (-34), 3) := by decide +kernel
theorem dX6_lifts_55 : decode cX6_lifts 55 = .ok (.return_, 1) := by decide +kernel
theorem dX6_puts_0 : decode cX6_puts 0 = .ok (.aload_n 0, 1) := by decide +kernel
theorem dX6_puts_1 : decode cX6_puts 1 = .ok (.iload_n 1, 1) := by decide +kernel
theorem dX6_puts_2 : decode cX6_puts 2 = .ok (.invokevirtual 87, 3) := by decide +kernel
theorem dX6_puts_5 : decode cX6_puts 5 = .ok (.bipush (-6), 2) := by decide +kernel
theorem dX6_puts_7 : decode cX6_puts 7 = .ok (.if_icmp .eq 12, 3) := by decide +kernel
theorem dX6_puts_10 : decode cX6_puts 10 = .ok (.aload_n 0, 1) := by decide +kernel
theorem dX6_puts_11 : decode cX6_puts 11 = .ok (.aload_n 0, 1) := by decide +kernel
theorem dX6_puts_12 : decode cX6_puts 12 = .ok (.iload_n 1, 1) := by decide +kernel
theorem dX6_puts_13 : decode cX6_puts 13 = .ok (.invokevirtual 87, 3) := by decide +kernel
theorem dX6_puts_16 : decode cX6_puts 16 = .ok (.invokevirtual 90, 3) := by decide +kernel
theorem dX6_puts_19 : decode cX6_puts 19 = .ok (.aload_n 0, 1) := by decide +kernel
theorem dX6_puts_20 : decode cX6_puts 20 = .ok (.getfield 7, 3) := by decide +kernel
theorem dX6_puts_23 : decode cX6_puts 23 = .ok (.iconst 4, 1) := by decide +kernel
theorem dX6_puts_24 : decode cX6_puts 24 = .ok (.iaload, 1) := by decide +kernel
theorem dX6_puts_25 : decode cX6_puts 25 = .ok (.istore 6, 2) := by decide +kernel
theorem dX6_puts_27 : decode cX6_puts 27 = .ok (.iload 6, 2) := by decide +kernel
theorem dX6_puts_29 : decode cX6_puts 29 = .ok (.ifCond .le 56, 3) := by decide +kernel
theorem dX6_puts_32 : decode cX6_puts 32 = .ok (.aload_n 0, 1) := by decide +kernel
theorem dX6_puts_33 : decode cX6_puts 33 = .ok (.iload 6, 2) := by decide +kernel
theorem dX6_puts_35 : decode cX6_puts 35 = .ok (.iconst 1, 1) := by decide +kernel
theorem dX6_puts_36 : decode cX6_puts 36 = .ok (.isub, 1) := by decide +kernel
theorem dX6_puts_37 : decode cX6_puts 37 = .ok (.iconst 0, 1) := by decide +kernel
theorem dX6_puts_38 : decode cX6_puts 38 = .ok (.invokevirtual 43, 3) := by decide +kernel
theorem dX6_puts_41 : decode cX6_puts 41 = .ok (.iload_n 1, 1) := by decide +kernel
theorem dX6_puts_42 : decode cX6_puts 42 = .ok (.if_icmp .le 43, 3) := by decide +kernel
theorem dX6_puts_45 : decode cX6_puts 45 = .ok (.iconst 0, 1) := by decide +kernel
theorem dX6_puts_46 : decode cX6_puts 46 = .ok (.istore 7, 2) := by decide +kernel
theorem dX6_puts_48 : decode cX6_puts 48 = .ok (.iload 7, 2) := by decide +kernel
theorem dX6_puts_50 : decode cX6_puts 50 = .ok (.bipush 6, 2) := by decide +kernel
theorem dX6_puts_52 : decode cX6_puts 52 = .ok (.if_icmp .ge 27, 3) := by decide +kernel
theorem dX6_puts_55 : decode cX6_puts 55 = .ok (.aload_n 0, 1) := by decide +kernel
theorem dX6_puts_56 : decode cX6_puts 56 = .ok (.iload 6, 2) := by decide +kernel
theorem dX6_puts_58 : decode cX6_puts 58 = .ok (.iload 7, 2) := by decide +kernel
theorem dX6_puts_60 : decode cX6_puts 60 = .ok (.aload_n 0, 1) := by decide +kernel
theorem dX6_puts_61 : decode cX6_puts 61 = .ok (.iload 6, 2) := by decide +kernel
theorem dX6_puts_63 : decode cX6_puts 63 = .ok (.iconst 1, 1) := by decide +kernel
theorem dX6_puts_64 : decode cX6_puts 64 = .ok (.isub, 1) := by decide +kernel
theorem dX6_puts_65 : decode cX6_puts 65 = .ok (.iload 7, 2) := by decide +kernel
theorem dX6_puts_67 : decode cX6_puts 67 = .ok (.invokevirtual 43, 3) := by decide +kernel
theorem dX6_puts_70 : decode cX6_puts 70 = .ok (.invokevirtual 54, 3) := by decide +kernel
theorem dX6_puts_73 : decode cX6_puts 73 = .ok (.iinc 7 1, 3) := by decide +kernel
theorem dX6_puts_76 : decode cX6_puts 76 = .ok (.goto (-28), 3) := by decide +kernel
theorem dX6_puts_79 : decode cX6_puts 79 = .ok (.iinc 6 (-1), 3) := by decide +kernel
theorem dX6_puts_82 : decode cX6_puts 82 = .ok (.goto (-55), 3) := by decide +kernel
theorem dX6_puts_85 : decode cX6_puts 85 = .ok (.aload_n 0, 1) := by decide +kernel
theorem dX6_puts_86 : decode cX6_puts 86 = .ok (.iload 6, 2) := by decide +kernel
theorem dX6_puts_88 : decode cX6_puts 88 = .ok (.iconst 0, 1) := by decide +kernel
theorem dX6_puts_89 : decode cX6_puts 89 = .ok (.iload_n 1, 1) := by decide +kernel
theorem dX6_puts_90 : decode cX6_puts 90 = .ok (.invokevirtual 54, 3) := by decide +kernel
theorem dX6_puts_93 : decode cX6_puts 93 = .ok (.aload_n 0, 1) := by decide +kernel
theorem dX6_puts_94 : decode cX6_puts 94 = .ok (.iload 6, 2) := by decide +kernel
theorem dX6_puts_96 : decode cX6_puts 96 = .ok (.iconst 1, 1) := by decide +kernel
theorem dX6_puts_97 : decode cX6_puts 97 = .ok (.iload_n 2, 1) := by decide +kernel
theorem dX6_puts_98 : decode cX6_puts 98 = .ok (.invokevirtual 54, 3) := by decide +kernel
theorem dX6_puts_101 : decode cX6_puts 101 = .ok (.aload_n 0, 1) := by decide +kernel
theorem dX6_puts_102 : decode cX6_puts 102 = .ok (.iload 6, 2) := by decide +kernel
theorem dX6_puts_104 : decode cX6_puts 104 = .ok (.iconst 2, 1) := by decide +kernel
theorem dX6_puts_105 : decode cX6_puts 105 = .ok (.iload_n 3, 1) := by decide +kernel
theorem dX6_puts_106 : decode cX6_puts 106 = .ok (.invokevirtual 54, 3) := by decide +kernel
theorem dX6_puts_109 : decode cX6_puts 109 = .ok (.aload_n 0, 1) := by decide +kernel
theorem dX6_puts_110 : decode cX6_puts 110 = .ok (.iload 6, 2) := by decide +kernel
theorem dX6_puts_112 : decode cX6_puts 112 = .ok (.iconst 3, 1) := by decide +kernel
theorem dX6_puts_113 : decode cX6_puts 113 = .ok (.iload 4, 2) := by decide +kernel
theorem dX6_puts_115 : decode cX6_puts 115 = .ok (.invokevirtual 54, 3) := by decide +kernel
theorem dX6_puts_118 : decode cX6_puts 118 = .ok (.aload_n 0, 1) := by decide +kernel
theorem dX6_puts_119 : decode cX6_puts 119 = .ok (.iload 6, 2) := by decide +kernel
theorem dX6_puts_121 : decode cX6_puts 121 = .ok (.iconst 4, 1) := by decide +kernel
theorem dX6_puts_122 : decode cX6_puts 122 = .ok (.iload 5, 2) := by decide +kernel
theorem dX6_puts_124 : decode cX6_puts 124 = .ok (.invokevirtual 54, 3) := by decide +kernel
theorem dX6_puts_127 : decode cX6_puts 127 = .ok (.aload_n 0, 1) := by decide +kernel
theorem dX6_puts_128 : decode cX6_puts 128 = .ok (.iload 6, 2) := by decide +kernel
theorem dX6_puts_130 : decode cX6_puts 130 = .ok (.iconst 5, 1) := by decide +kernel
theorem dX6_puts_131 : decode cX6_puts 131 = .ok (.iconst 1, 1) := by decide +kernel
theorem dX6_puts_132 : decode cX6_puts 132 = .ok (.invokevirtual 54, 3) := by decide +kernel
theorem dX6_puts_135 : decode cX6_puts 135 = .ok (.aload_n 0, 1) := by decide +kernel
theorem dX6_puts_136 : decode cX6_puts 136 = .ok (.getfield 7, 3) := by decide +kernel
theorem dX6_puts_139 : decode cX6_puts 139 = .ok (.iconst 4, 1) := by decide +kernel
theorem dX6_puts_140 : decode cX6_puts 140 = .ok (.dup2, 1) := by decide +kernel
theorem dX6_puts_141 : decode cX6_puts 141 = .ok (.iaload, 1) := by decide +kernel
theorem dX6_puts_142 : decode cX6_puts 142 = .ok (.iconst 1, 1) := by decide +kernel
theorem dX6_puts_143 : decode cX6_puts 143 = .ok (.iadd, 1) := by decide +kernel
theorem dX6_puts_144 : decode cX6_puts 144 = .ok (.iastore, 1) := by decide +kernel
theorem dX6_puts_145 : decode cX6_puts 145 = .ok (.return_, 1) := by decide +kernel
theorem dX6_paddle_0 : decode cX6_paddle 0 = .ok (.aload_n 0, 1) := by decide +kernel
theorem dX6_paddle_1 : decode cX6_paddle 1 = .ok (.iload_n 1, 1) := by decide +kernel
theorem dX6_paddle_2 : decode cX6_paddle 2 = .ok (.iload_n 2, 1) := by decide +kernel
theorem dX6_paddle_3 : decode cX6_paddle 3 = .ok (.iload_n 3, 1) := by decide +kernel
theorem dX6_paddle_4 : decode cX6_paddle 4 = .ok (.iload 4, 2) := by decide +kernel
theorem dX6_paddle_6 : decode cX6_paddle 6 = .ok (.iload 5, 2) := by decide +kernel
theorem dX6_paddle_8 : decode cX6_paddle 8 = .ok (.invokevirtual 94, 3) := by decide +kernel
theorem dX6_paddle_11 : decode cX6_paddle 11 = .ok (.istore 6, 2) := by decide +kernel
theorem dX6_paddle_13 : decode cX6_paddle 13 = .ok (.iload 6, 2) := by decide +kernel
theorem dX6_paddle_15 : decode cX6_paddle 15 = .ok (.ifCond .ge 6, 3) := by decide +kernel
theorem dX6_paddle_18 : decode cX6_paddle 18 = .ok (.iload 6, 2) := by decide +kernel
theorem dX6_paddle_20 : decode cX6_paddle 20 = .ok (.ireturn, 1) := by decide +kernel
theorem dX6_paddle_21 : decode cX6_paddle 21 = .ok (.aload_n 0, 1) := by decide +kernel
theorem dX6_paddle_22 : decode cX6_paddle 22 = .ok (.invokevirtual 84, 3) := by decide +kernel
theorem dX6_paddle_25 : decode cX6_paddle 25 = .ok (.aload_n 0, 1) := by decide +kernel
theorem dX6_paddle_26 : decode cX6_paddle 26 = .ok (.iload_n 1, 1) := by decide +kernel
theorem dX6_paddle_27 : decode cX6_paddle 27 = .ok (.iload_n 2, 1) := by decide +kernel
theorem dX6_paddle_28 : decode cX6_paddle 28 = .ok (.iload_n 3, 1) := by decide +kernel
theorem dX6_paddle_29 : decode cX6_paddle 29 = .ok (.iload 4, 2) := by decide +kernel
theorem dX6_paddle_31 : decode cX6_paddle 31 = .ok (.iload 5, 2) := by decide +kernel
theorem dX6_paddle_33 : decode cX6_paddle 33 = .ok (.invokevirtual 98, 3) := by decide +kernel
theorem dX6_paddle_36 : decode cX6_paddle 36 = .ok (.aload_n 0, 1) := by decide +kernel
theorem dX6_paddle_37 : decode cX6_paddle 37 = .ok (.getfield 7, 3) := by decide +kernel
theorem dX6_paddle_40 : decode cX6_paddle 40 = .ok (.iconst 4, 1) := by decide +kernel
theorem dX6_paddle_41 : decode cX6_paddle 41 = .ok (.iaload, 1) := by decide +kernel
theorem dX6_paddle_42 : decode cX6_paddle 42 = .ok (.ireturn, 1) := by decide +kernel
theorem dX6_lift_0 : decode cX6_lift 0 = .ok (.aload_n 0, 1) := by decide +kernel
theorem dX6_lift_1 : decode cX6_lift 1 = .ok (.iload_n 1, 1) := by decide +kernel
theorem dX6_lift_2 : decode cX6_lift 2 = .ok (.invokevirtual 87, 3) := by decide +kernel
theorem dX6_lift_5 : decode cX6_lift 5 = .ok (.bipush (-6), 2) := by decide +kernel
theorem dX6_lift_7 : decode cX6_lift 7 = .ok (.if_icmp .ne 5, 3) := by decide +kernel
theorem dX6_lift_10 : decode cX6_lift 10 = .ok (.iconst (-1), 1) := by decide +kernel
theorem dX6_lift_11 : decode cX6_lift 11 = .ok (.ireturn, 1) := by decide +kernel
theorem dX6_lift_12 : decode cX6_lift 12 = .ok (.aload_n 0, 1) := by decide +kernel
theorem dX6_lift_13 : decode cX6_lift 13 = .ok (.invokevirtual 84, 3) := by decide +kernel
theorem dX6_lift_16 : decode cX6_lift 16 = .ok (.aload_n 0, 1) := by decide +kernel
theorem dX6_lift_17 : decode cX6_lift 17 = .ok (.aload_n 0, 1) := by decide +kernel
theorem dX6_lift_18 : decode cX6_lift 18 = .ok (.iload_n 1, 1) := by decide +kernel
theorem dX6_lift_19 : decode cX6_lift 19 = .ok (.invokevirtual 87, 3) := by decide +kernel
theorem dX6_lift_22 : decode cX6_lift 22 = .ok (.invokevirtual 90, 3) := by decide +kernel
theorem dX6_lift_25 : decode cX6_lift 25 = .ok (.aload_n 0, 1) := by decide +kernel
theorem dX6_lift_26 : decode cX6_lift 26 = .ok (.getfield 7, 3) := by decide +kernel
theorem dX6_lift_29 : decode cX6_lift 29 = .ok (.iconst 4, 1) := by decide +kernel
theorem dX6_lift_30 : decode cX6_lift 30 = .ok (.iaload, 1) := by decide +kernel
theorem dX6_lift_31 : decode cX6_lift 31 = .ok (.ireturn, 1) := by decide +kernel
theorem dX6_again_0 : decode cX6_again 0 = .ok (.aload_n 0, 1) := by decide +kernel
theorem dX6_again_1 : decode cX6_again 1 = .ok (.iload_n 1, 1) := by decide +kernel
theorem dX6_again_2 : decode cX6_again 2 = .ok (.invokevirtual 87, 3) := by decide +kernel
theorem dX6_again_5 : decode cX6_again 5 = .ok (.istore_n 2, 1) := by decide +kernel
theorem dX6_again_6 : decode cX6_again 6 = .ok (.iload_n 2, 1) := by decide +kernel
theorem dX6_again_7 : decode cX6_again 7 = .ok (.bipush (-6), 2) := by decide +kernel
theorem dX6_again_9 : decode cX6_again 9 = .ok (.if_icmp .ne 5, 3) := by decide +kernel
theorem dX6_again_12 : decode cX6_again 12 = .ok (.iconst (-1), 1) := by decide +kernel
theorem dX6_again_13 : decode cX6_again 13 = .ok (.ireturn, 1) := by decide +kernel
theorem dX6_again_14 : decode cX6_again 14 = .ok (.aload_n 0, 1) := by decide +kernel
theorem dX6_again_15 : decode cX6_again 15 = .ok (.invokevirtual 84, 3) := by decide +kernel
theorem dX6_again_18 : decode cX6_again 18 = .ok (.iconst 1, 1) := by decide +kernel
theorem dX6_again_19 : decode cX6_again 19 = .ok (.aload_n 0, 1) := by decide +kernel
theorem dX6_again_20 : decode cX6_again 20 = .ok (.iload_n 2, 1) := by decide +kernel
theorem dX6_again_21 : decode cX6_again 21 = .ok (.iconst 5, 1) := by decide +kernel
theorem dX6_again_22 : decode cX6_again 22 = .ok (.invokevirtual 43, 3) := by decide +kernel
theorem dX6_again_25 : decode cX6_again 25 = .ok (.isub, 1) := by decide +kernel
theorem dX6_again_26 : decode cX6_again 26 = .ok (.istore_n 3, 1) := by decide +kernel
theorem dX6_again_27 : decode cX6_again 27 = .ok (.aload_n 0, 1) := by decide +kernel
theorem dX6_again_28 : decode cX6_again 28 = .ok (.iload_n 2, 1) := by decide +kernel
theorem dX6_again_29 : decode cX6_again 29 = .ok (.iconst 5, 1) := by decide +kernel
theorem dX6_again_30 : decode cX6_again 30 = .ok (.iconst 1, 1) := by decide +kernel
theorem dX6_again_31 : decode cX6_again 31 = .ok (.invokevirtual 54, 3) := by decide +kernel
theorem dX6_again_34 : decode cX6_again 34 = .ok (.iload_n 3, 1) := by decide +kernel
theorem dX6_again_35 : decode cX6_again 35 = .ok (.ireturn, 1) := by decide +kernel
theorem dX6_whyNoGauge_0 : decode cX6_whyNoGauge 0 = .ok (.iload_n 1, 1) := by decide +kernel
theorem dX6_whyNoGauge_1 : decode cX6_whyNoGauge 1 = .ok (.invokestatic 102, 3) := by decide +kernel
theorem dX6_whyNoGauge_4 : decode cX6_whyNoGauge 4 = .ok (.ifCond .ne 7, 3) := by decide +kernel
theorem dX6_whyNoGauge_7 : decode cX6_whyNoGauge 7 = .ok (.iconst (-1), 1) := by decide +kernel
theorem dX6_whyNoGauge_8 : decode cX6_whyNoGauge 8 = .ok (.goto 19, 3) := by decide +kernel
theorem dX6_whyNoGauge_11 : decode cX6_whyNoGauge 11 = .ok (.aload_n 0, 1) := by decide +kernel
theorem dX6_whyNoGauge_12 : decode cX6_whyNoGauge 12 = .ok (.getfield 7, 3) := by decide +kernel
theorem dX6_whyNoGauge_15 : decode cX6_whyNoGauge 15 = .ok (.iconst 5, 1) := by decide +kernel
theorem dX6_whyNoGauge_16 : decode cX6_whyNoGauge 16 = .ok (.iaload, 1) := by decide +kernel
theorem dX6_whyNoGauge_17 : decode cX6_whyNoGauge 17 = .ok (.iconst 4, 1) := by decide +kernel
theorem dX6_whyNoGauge_18 : decode cX6_whyNoGauge 18 = .ok (.if_icmp .ne 8, 3) := by decide +kernel
theorem dX6_whyNoGauge_21 : decode cX6_whyNoGauge 21 = .ok (.bipush (-4), 2) := by decide +kernel
theorem dX6_whyNoGauge_23 : decode cX6_whyNoGauge 23 = .ok (.goto 4, 3) := by decide +kernel
theorem dX6_whyNoGauge_26 : decode cX6_whyNoGauge 26 = .ok (.iconst 0, 1) := by decide +kernel
theorem dX6_whyNoGauge_27 : decode cX6_whyNoGauge 27 = .ok (.ireturn, 1) := by decide +kernel
theorem dX6_comesGauge_0 : decode cX6_comesGauge 0 = .ok (.aload_n 0, 1) := by decide +kernel
theorem dX6_comesGauge_1 : decode cX6_comesGauge 1 = .ok (.getfield 7, 3) := by decide +kernel
theorem dX6_comesGauge_4 : decode cX6_comesGauge 4 = .ok (.iconst 5, 1) := by decide +kernel
theorem dX6_comesGauge_5 : decode cX6_comesGauge 5 = .ok (.iaload, 1) := by decide +kernel
theorem dX6_comesGauge_6 : decode cX6_comesGauge 6 = .ok (.istore_n 2, 1) := by decide +kernel
theorem dX6_comesGauge_7 : decode cX6_comesGauge 7 = .ok (.iconst 0, 1) := by decide +kernel
theorem dX6_comesGauge_8 : decode cX6_comesGauge 8 = .ok (.istore_n 3, 1) := by decide +kernel
theorem dX6_comesGauge_9 : decode cX6_comesGauge 9 = .ok (.iload_n 3, 1) := by decide +kernel
theorem dX6_comesGauge_10 : decode cX6_comesGauge 10 = .ok (.bipush 62, 2) := by decide +kernel
theorem dX6_comesGauge_12 : decode cX6_comesGauge 12 = .ok (.if_icmp .ge 32, 3) := by decide +kernel
theorem dX6_comesGauge_15 : decode cX6_comesGauge 15 = .ok (.aload_n 0, 1) := by decide +kernel
theorem dX6_comesGauge_16 : decode cX6_comesGauge 16 = .ok (.getfield 7, 3) := by decide +kernel
theorem dX6_comesGauge_19 : decode cX6_comesGauge 19 = .ok (.bipush 122, 2) := by decide +kernel
theorem dX6_comesGauge_21 : decode cX6_comesGauge 21 = .ok (.bipush 62, 2) := by decide +kernel
theorem dX6_comesGauge_23 : decode cX6_comesGauge 23 = .ok (.iload_n 2, 1) := by decide +kernel
theorem dX6_comesGauge_24 : decode cX6_comesGauge 24 = .ok (.imul, 1) := by decide +kernel
theorem dX6_comesGauge_25 : decode cX6_comesGauge 25 = .ok (.iadd, 1) := by decide +kernel
theorem dX6_comesGauge_26 : decode cX6_comesGauge 26 = .ok (.iload_n 3, 1) := by decide +kernel
theorem dX6_comesGauge_27 : decode cX6_comesGauge 27 = .ok (.iadd, 1) := by decide +kernel
theorem dX6_comesGauge_28 : decode cX6_comesGauge 28 = .ok (.iload_n 3, 1) := by decide +kernel
theorem dX6_comesGauge_29 : decode cX6_comesGauge 29 = .ok (.ifCond .ne 7, 3) := by decide +kernel
theorem dX6_comesGauge_32 : decode cX6_comesGauge 32 = .ok (.iload_n 1, 1) := by decide +kernel
theorem dX6_comesGauge_33 : decode cX6_comesGauge 33 = .ok (.goto 4, 3) := by decide +kernel
theorem dX6_comesGauge_36 : decode cX6_comesGauge 36 = .ok (.iconst 0, 1) := by decide +kernel
theorem dX6_comesGauge_37 : decode cX6_comesGauge 37 = .ok (.iastore, 1) := by decide +kernel
theorem dX6_comesGauge_38 : decode cX6_comesGauge 38 = .ok (.iinc 3 1, 3) := by decide +kernel
theorem dX6_comesGauge_41 : decode cX6_comesGauge 41 = .ok (.goto (-32), 3) := by decide +kernel
theorem dX6_comesGauge_44 : decode cX6_comesGauge 44 = .ok (.aload_n 0, 1) := by decide +kernel
theorem dX6_comesGauge_45 : decode cX6_comesGauge 45 = .ok (.getfield 7, 3) := by decide +kernel
theorem dX6_comesGauge_48 : decode cX6_comesGauge 48 = .ok (.iconst 5, 1) := by decide +kernel
theorem dX6_comesGauge_49 : decode cX6_comesGauge 49 = .ok (.dup2, 1) := by decide +kernel
theorem dX6_comesGauge_50 : decode cX6_comesGauge 50 = .ok (.iaload, 1) := by decide +kernel
theorem dX6_comesGauge_51 : decode cX6_comesGauge 51 = .ok (.iconst 1, 1) := by decide +kernel
theorem dX6_comesGauge_52 : decode cX6_comesGauge 52 = .ok (.iadd, 1) := by decide +kernel
theorem dX6_comesGauge_53 : decode cX6_comesGauge 53 = .ok (.iastore, 1) := by decide +kernel
theorem dX6_comesGauge_54 : decode cX6_comesGauge 54 = .ok (.iload_n 2, 1) := by decide +kernel
theorem dX6_comesGauge_55 : decode cX6_comesGauge 55 = .ok (.ireturn, 1) := by decide +kernel
theorem dX6_gauge_0 : decode cX6_gauge 0 = .ok (.aload_n 0, 1) := by decide +kernel
theorem dX6_gauge_1 : decode cX6_gauge 1 = .ok (.iload_n 1, 1) := by decide +kernel
theorem dX6_gauge_2 : decode cX6_gauge 2 = .ok (.invokevirtual 106, 3) := by decide +kernel
theorem dX6_gauge_5 : decode cX6_gauge 5 = .ok (.istore_n 2, 1) := by decide +kernel
theorem dX6_gauge_6 : decode cX6_gauge 6 = .ok (.iload_n 2, 1) := by decide +kernel
theorem dX6_gauge_7 : decode cX6_gauge 7 = .ok (.ifCond .ge 5, 3) := by decide +kernel
theorem dX6_gauge_10 : decode cX6_gauge 10 = .ok (.iload_n 2, 1) := by decide +kernel
theorem dX6_gauge_11 : decode cX6_gauge 11 = .ok (.ireturn, 1) := by decide +kernel
theorem dX6_gauge_12 : decode cX6_gauge 12 = .ok (.aload_n 0, 1) := by decide +kernel
theorem dX6_gauge_13 : decode cX6_gauge 13 = .ok (.invokevirtual 84, 3) := by decide +kernel
theorem dX6_gauge_16 : decode cX6_gauge 16 = .ok (.aload_n 0, 1) := by decide +kernel
theorem dX6_gauge_17 : decode cX6_gauge 17 = .ok (.iload_n 1, 1) := by decide +kernel
theorem dX6_gauge_18 : decode cX6_gauge 18 = .ok (.invokevirtual 109, 3) := by decide +kernel
theorem dX6_gauge_21 : decode cX6_gauge 21 = .ok (.ireturn, 1) := by decide +kernel
theorem dX6_level_0 : decode cX6_level 0 = .ok (.iload_n 1, 1) := by decide +kernel
theorem dX6_level_1 : decode cX6_level 1 = .ok (.invokestatic 102, 3) := by decide +kernel
theorem dX6_level_4 : decode cX6_level 4 = .ok (.ifCond .ne 5, 3) := by decide +kernel
theorem dX6_level_7 : decode cX6_level 7 = .ok (.iconst (-1), 1) := by decide +kernel
theorem dX6_level_8 : decode cX6_level 8 = .ok (.ireturn, 1) := by decide +kernel
theorem dX6_level_9 : decode cX6_level 9 = .ok (.iload_n 2, 1) := by decide +kernel
theorem dX6_level_10 : decode cX6_level 10 = .ok (.sipush (-9999), 3) := by decide +kernel
theorem dX6_level_13 : decode cX6_level 13 = .ok (.sipush 9999, 3) := by decide +kernel
theorem dX6_level_16 : decode cX6_level 16 = .ok (.invokestatic 39, 3) := by decide +kernel
theorem dX6_level_19 : decode cX6_level 19 = .ok (.ifCond .ne 6, 3) := by decide +kernel
theorem dX6_level_22 : decode cX6_level 22 = .ok (.bipush (-2), 2) := by decide +kernel
theorem dX6_level_24 : decode cX6_level 24 = .ok (.ireturn, 1) := by decide +kernel
theorem dX6_level_25 : decode cX6_level 25 = .ok (.aload_n 0, 1) := by decide +kernel
theorem dX6_level_26 : decode cX6_level 26 = .ok (.invokevirtual 84, 3) := by decide +kernel
theorem dX6_level_29 : decode cX6_level 29 = .ok (.aload_n 0, 1) := by decide +kernel
theorem dX6_level_30 : decode cX6_level 30 = .ok (.iload_n 1, 1) := by decide +kernel
theorem dX6_level_31 : decode cX6_level 31 = .ok (.invokevirtual 47, 3) := by decide +kernel
theorem dX6_level_34 : decode cX6_level 34 = .ok (.istore_n 3, 1) := by decide +kernel
theorem dX6_level_35 : decode cX6_level 35 = .ok (.aload_n 0, 1) := by decide +kernel
theorem dX6_level_36 : decode cX6_level 36 = .ok (.getfield 7, 3) := by decide +kernel
theorem dX6_level_39 : decode cX6_level 39 = .ok (.bipush 6, 2) := by decide +kernel
theorem dX6_level_41 : decode cX6_level 41 = .ok (.iload_n 1, 1) := by decide +kernel
theorem dX6_level_42 : decode cX6_level 42 = .ok (.iadd, 1) := by decide +kernel
theorem dX6_level_43 : decode cX6_level 43 = .ok (.iload_n 2, 1) := by decide +kernel
theorem dX6_level_44 : decode cX6_level 44 = .ok (.iastore, 1) := by decide +kernel
theorem dX6_level_45 : decode cX6_level 45 = .ok (.iload_n 3, 1) := by decide +kernel
theorem dX6_level_46 : decode cX6_level 46 = .ok (.sipush 10000, 3) := by decide +kernel
theorem dX6_level_49 : decode cX6_level 49 = .ok (.iadd, 1) := by decide +kernel
theorem dX6_level_50 : decode cX6_level 50 = .ok (.ireturn, 1) := by decide +kernel
theorem dX6_whyNotPassed_0 : decode cX6_whyNotPassed 0 = .ok (.iload_n 1, 1) := by decide +kernel
theorem dX6_whyNotPassed_1 : decode cX6_whyNotPassed 1 = .ok (.iconst 1, 1) := by decide +kernel
theorem dX6_whyNotPassed_2 : decode cX6_whyNotPassed 2 = .ok (.bipush 99, 2) := by decide +kernel
theorem dX6_whyNotPassed_4 : decode cX6_whyNotPassed 4 = .ok (.invokestatic 39, 3) := by decide +kernel
theorem dX6_whyNotPassed_7 : decode cX6_whyNotPassed 7 = .ok (.ifCond .ne 8, 3) := by decide +kernel
theorem dX6_whyNotPassed_10 : decode cX6_whyNotPassed 10 = .ok (.bipush (-2), 2) := by decide +kernel
theorem dX6_whyNotPassed_12 : decode cX6_whyNotPassed 12 = .ok (.goto 22, 3) := by decide +kernel
theorem dX6_whyNotPassed_15 : decode cX6_whyNotPassed 15 = .ok (.aload_n 0, 1) := by decide +kernel
theorem dX6_whyNotPassed_16 : decode cX6_whyNotPassed 16 = .ok (.getfield 7, 3) := by decide +kernel
theorem dX6_whyNotPassed_19 : decode cX6_whyNotPassed 19 = .ok (.iconst 3, 1) := by decide +kernel
theorem dX6_whyNotPassed_20 : decode cX6_whyNotPassed 20 = .ok (.iaload, 1) := by decide +kernel
theorem dX6_whyNotPassed_21 : decode cX6_whyNotPassed 21 = .ok (.iload_n 1, 1) := by decide +kernel
theorem dX6_whyNotPassed_22 : decode cX6_whyNotPassed 22 = .ok (.iadd, 1) := by decide +kernel
theorem dX6_whyNotPassed_23 : decode cX6_whyNotPassed 23 = .ok (.ldc 112, 2) := by decide +kernel
theorem dX6_whyNotPassed_25 : decode cX6_whyNotPassed 25 = .ok (.if_icmp .le 8, 3) := by decide +kernel
theorem dX6_whyNotPassed_28 : decode cX6_whyNotPassed 28 = .ok (.bipush (-5), 2) := by decide +kernel
theorem dX6_whyNotPassed_30 : decode cX6_whyNotPassed 30 = .ok (.goto 4, 3) := by decide +kernel
theorem dX6_whyNotPassed_33 : decode cX6_whyNotPassed 33 = .ok (.iconst 0, 1) := by decide +kernel
theorem dX6_whyNotPassed_34 : decode cX6_whyNotPassed 34 = .ok (.ireturn, 1) := by decide +kernel
theorem dX6_pass_0 : decode cX6_pass 0 = .ok (.aload_n 0, 1) := by decide +kernel
theorem dX6_pass_1 : decode cX6_pass 1 = .ok (.iload_n 1, 1) := by decide +kernel
theorem dX6_pass_2 : decode cX6_pass 2 = .ok (.invokevirtual 113, 3) := by decide +kernel
theorem dX6_pass_5 : decode cX6_pass 5 = .ok (.istore_n 2, 1) := by decide +kernel
theorem dX6_pass_6 : decode cX6_pass 6 = .ok (.iload_n 2, 1) := by decide +kernel
theorem dX6_pass_7 : decode cX6_pass 7 = .ok (.ifCond .ge 5, 3) := by decide +kernel
theorem dX6_pass_10 : decode cX6_pass 10 = .ok (.iload_n 2, 1) := by decide +kernel
theorem dX6_pass_11 : decode cX6_pass 11 = .ok (.ireturn, 1) := by decide +kernel
theorem dX6_pass_12 : decode cX6_pass 12 = .ok (.aload_n 0, 1) := by decide +kernel
theorem dX6_pass_13 : decode cX6_pass 13 = .ok (.invokevirtual 84, 3) := by decide +kernel
theorem dX6_pass_16 : decode cX6_pass 16 = .ok (.aload_n 0, 1) := by decide +kernel
theorem dX6_pass_17 : decode cX6_pass 17 = .ok (.iload_n 1, 1) := by decide +kernel
theorem dX6_pass_18 : decode cX6_pass 18 = .ok (.invokevirtual 116, 3) := by decide +kernel
theorem dX6_pass_21 : decode cX6_pass 21 = .ok (.ireturn, 1) := by decide +kernel
theorem dX6_isCrest_0 : decode cX6_isCrest 0 = .ok (.iload_n 1, 1) := by decide +kernel
theorem dX6_isCrest_1 : decode cX6_isCrest 1 = .ok (.ifCond .le 43, 3) := by decide +kernel
theorem dX6_isCrest_4 : decode cX6_isCrest 4 = .ok (.iload_n 1, 1) := by decide +kernel
theorem dX6_isCrest_5 : decode cX6_isCrest 5 = .ok (.bipush 39, 2) := by decide +kernel
theorem dX6_isCrest_7 : decode cX6_isCrest 7 = .ok (.if_icmp .ge 37, 3) := by decide +kernel
theorem dX6_isCrest_10 : decode cX6_isCrest 10 = .ok (.aload_n 0, 1) := by decide +kernel
theorem dX6_isCrest_11 : decode cX6_isCrest 11 = .ok (.iload_n 1, 1) := by decide +kernel
theorem dX6_isCrest_12 : decode cX6_isCrest 12 = .ok (.invokevirtual 47, 3) := by decide +kernel
theorem dX6_isCrest_15 : decode cX6_isCrest 15 = .ok (.aload_n 0, 1) := by decide +kernel
theorem dX6_isCrest_16 : decode cX6_isCrest 16 = .ok (.iload_n 1, 1) := by decide +kernel
theorem dX6_isCrest_17 : decode cX6_isCrest 17 = .ok (.iconst 1, 1) := by decide +kernel
theorem dX6_isCrest_18 : decode cX6_isCrest 18 = .ok (.isub, 1) := by decide +kernel
theorem dX6_isCrest_19 : decode cX6_isCrest 19 = .ok (.invokevirtual 47, 3) := by decide +kernel
theorem dX6_isCrest_22 : decode cX6_isCrest 22 = .ok (.if_icmp .le 22, 3) := by decide +kernel
theorem dX6_isCrest_25 : decode cX6_isCrest 25 = .ok (.aload_n 0, 1) := by decide +kernel
theorem dX6_isCrest_26 : decode cX6_isCrest 26 = .ok (.iload_n 1, 1) := by decide +kernel
theorem dX6_isCrest_27 : decode cX6_isCrest 27 = .ok (.invokevirtual 47, 3) := by decide +kernel
theorem dX6_isCrest_30 : decode cX6_isCrest 30 = .ok (.aload_n 0, 1) := by decide +kernel
theorem dX6_isCrest_31 : decode cX6_isCrest 31 = .ok (.iload_n 1, 1) := by decide +kernel
theorem dX6_isCrest_32 : decode cX6_isCrest 32 = .ok (.iconst 1, 1) := by decide +kernel
theorem dX6_isCrest_33 : decode cX6_isCrest 33 = .ok (.iadd, 1) := by decide +kernel
theorem dX6_isCrest_34 : decode cX6_isCrest 34 = .ok (.invokevirtual 47, 3) := by decide +kernel
theorem dX6_isCrest_37 : decode cX6_isCrest 37 = .ok (.if_icmp .le 7, 3) := by decide +kernel
theorem dX6_isCrest_40 : decode cX6_isCrest 40 = .ok (.iconst 1, 1) := by decide +kernel
theorem dX6_isCrest_41 : decode cX6_isCrest 41 = .ok (.goto 4, 3) := by decide +kernel
theorem dX6_isCrest_44 : decode cX6_isCrest 44 = .ok (.iconst 0, 1) := by decide +kernel
theorem dX6_isCrest_45 : decode cX6_isCrest 45 = .ok (.ireturn, 1) := by decide +kernel
theorem dX6_isTrough_0 : decode cX6_isTrough 0 = .ok (.iload_n 1, 1) := by decide +kernel
theorem dX6_isTrough_1 : decode cX6_isTrough 1 = .ok (.ifCond .le 43, 3) := by decide +kernel
theorem dX6_isTrough_4 : decode cX6_isTrough 4 = .ok (.iload_n 1, 1) := by decide +kernel
theorem dX6_isTrough_5 : decode cX6_isTrough 5 = .ok (.bipush 39, 2) := by decide +kernel
theorem dX6_isTrough_7 : decode cX6_isTrough 7 = .ok (.if_icmp .ge 37, 3) := by decide +kernel
theorem dX6_isTrough_10 : decode cX6_isTrough 10 = .ok (.aload_n 0, 1) := by decide +kernel
theorem dX6_isTrough_11 : decode cX6_isTrough 11 = .ok (.iload_n 1, 1) := by decide +kernel
theorem dX6_isTrough_12 : decode cX6_isTrough 12 = .ok (.invokevirtual 47, 3) := by decide +kernel
theorem dX6_isTrough_15 : decode cX6_isTrough 15 = .ok (.aload_n 0, 1) := by decide +kernel
theorem dX6_isTrough_16 : decode cX6_isTrough 16 = .ok (.iload_n 1, 1) := by decide +kernel
theorem dX6_isTrough_17 : decode cX6_isTrough 17 = .ok (.iconst 1, 1) := by decide +kernel
theorem dX6_isTrough_18 : decode cX6_isTrough 18 = .ok (.isub, 1) := by decide +kernel
theorem dX6_isTrough_19 : decode cX6_isTrough 19 = .ok (.invokevirtual 47, 3) := by decide +kernel
theorem dX6_isTrough_22 : decode cX6_isTrough 22 = .ok (.if_icmp .ge 22, 3) := by decide +kernel
theorem dX6_isTrough_25 : decode cX6_isTrough 25 = .ok (.aload_n 0, 1) := by decide +kernel
theorem dX6_isTrough_26 : decode cX6_isTrough 26 = .ok (.iload_n 1, 1) := by decide +kernel
theorem dX6_isTrough_27 : decode cX6_isTrough 27 = .ok (.invokevirtual 47, 3) := by decide +kernel
theorem dX6_isTrough_30 : decode cX6_isTrough 30 = .ok (.aload_n 0, 1) := by decide +kernel
theorem dX6_isTrough_31 : decode cX6_isTrough 31 = .ok (.iload_n 1, 1) := by decide +kernel
theorem dX6_isTrough_32 : decode cX6_isTrough 32 = .ok (.iconst 1, 1) := by decide +kernel
theorem dX6_isTrough_33 : decode cX6_isTrough 33 = .ok (.iadd, 1) := by decide +kernel
theorem dX6_isTrough_34 : decode cX6_isTrough 34 = .ok (.invokevirtual 47, 3) := by decide +kernel
theorem dX6_isTrough_37 : decode cX6_isTrough 37 = .ok (.if_icmp .ge 7, 3) := by decide +kernel
theorem dX6_isTrough_40 : decode cX6_isTrough 40 = .ok (.iconst 1, 1) := by decide +kernel
theorem dX6_isTrough_41 : decode cX6_isTrough 41 = .ok (.goto 4, 3) := by decide +kernel
theorem dX6_isTrough_44 : decode cX6_isTrough 44 = .ok (.iconst 0, 1) := by decide +kernel
theorem dX6_isTrough_45 : decode cX6_isTrough 45 = .ok (.ireturn, 1) := by decide +kernel
theorem dX6_cell_0 : decode cX6_cell 0 = .ok (.iload_n 1, 1) := by decide +kernel
theorem dX6_cell_1 : decode cX6_cell 1 = .ok (.invokestatic 102, 3) := by decide +kernel
theorem dX6_cell_4 : decode cX6_cell 4 = .ok (.ifCond .ne 5, 3) := by decide +kernel
theorem dX6_cell_7 : decode cX6_cell 7 = .ok (.iconst (-1), 1) := by decide +kernel
theorem dX6_cell_8 : decode cX6_cell 8 = .ok (.ireturn, 1) := by decide +kernel
theorem dX6_cell_9 : decode cX6_cell 9 = .ok (.iload_n 2, 1) := by decide +kernel
theorem dX6_cell_10 : decode cX6_cell 10 = .ok (.tableswitch 82 0 3 #[30, 40, 54, 68], 30) := by decide +kernel
theorem dX6_cell_40 : decode cX6_cell 40 = .ok (.aload_n 0, 1) := by decide +kernel
theorem dX6_cell_41 : decode cX6_cell 41 = .ok (.iload_n 1, 1) := by decide +kernel
theorem dX6_cell_42 : decode cX6_cell 42 = .ok (.invokevirtual 47, 3) := by decide +kernel
theorem dX6_cell_45 : decode cX6_cell 45 = .ok (.sipush 10000, 3) := by decide +kernel
theorem dX6_cell_48 : decode cX6_cell 48 = .ok (.iadd, 1) := by decide +kernel
theorem dX6_cell_49 : decode cX6_cell 49 = .ok (.ireturn, 1) := by decide +kernel
theorem dX6_cell_50 : decode cX6_cell 50 = .ok (.aload_n 0, 1) := by decide +kernel
theorem dX6_cell_51 : decode cX6_cell 51 = .ok (.getfield 7, 3) := by decide +kernel
theorem dX6_cell_54 : decode cX6_cell 54 = .ok (.bipush 46, 2) := by decide +kernel
theorem dX6_cell_56 : decode cX6_cell 56 = .ok (.iload_n 1, 1) := by decide +kernel
theorem dX6_cell_57 : decode cX6_cell 57 = .ok (.iadd, 1) := by decide +kernel
theorem dX6_cell_58 : decode cX6_cell 58 = .ok (.iaload, 1) := by decide +kernel
theorem dX6_cell_59 : decode cX6_cell 59 = .ok (.sipush 10000, 3) := by decide +kernel
theorem dX6_cell_62 : decode cX6_cell 62 = .ok (.iadd, 1) := by decide +kernel
theorem dX6_cell_63 : decode cX6_cell 63 = .ok (.ireturn, 1) := by decide +kernel
theorem dX6_cell_64 : decode cX6_cell 64 = .ok (.aload_n 0, 1) := by decide +kernel
theorem dX6_cell_65 : decode cX6_cell 65 = .ok (.iload_n 1, 1) := by decide +kernel
theorem dX6_cell_66 : decode cX6_cell 66 = .ok (.invokevirtual 119, 3) := by decide +kernel
theorem dX6_cell_69 : decode cX6_cell 69 = .ok (.ifCond .eq 7, 3) := by decide +kernel
theorem dX6_cell_72 : decode cX6_cell 72 = .ok (.iconst 1, 1) := by decide +kernel
theorem dX6_cell_73 : decode cX6_cell 73 = .ok (.goto 4, 3) := by decide +kernel
theorem dX6_cell_76 : decode cX6_cell 76 = .ok (.iconst 0, 1) := by decide +kernel
theorem dX6_cell_77 : decode cX6_cell 77 = .ok (.ireturn, 1) := by decide +kernel
theorem dX6_cell_78 : decode cX6_cell 78 = .ok (.aload_n 0, 1) := by decide +kernel
theorem dX6_cell_79 : decode cX6_cell 79 = .ok (.iload_n 1, 1) := by decide +kernel
theorem dX6_cell_80 : decode cX6_cell 80 = .ok (.invokevirtual 122, 3) := by decide +kernel
theorem dX6_cell_83 : decode cX6_cell 83 = .ok (.ifCond .eq 7, 3) := by decide +kernel
theorem dX6_cell_86 : decode cX6_cell 86 = .ok (.iconst 1, 1) := by decide +kernel
theorem dX6_cell_87 : decode cX6_cell 87 = .ok (.goto 4, 3) := by decide +kernel
theorem dX6_cell_90 : decode cX6_cell 90 = .ok (.iconst 0, 1) := by decide +kernel
theorem dX6_cell_91 : decode cX6_cell 91 = .ok (.ireturn, 1) := by decide +kernel
theorem dX6_cell_92 : decode cX6_cell 92 = .ok (.bipush (-2), 2) := by decide +kernel
theorem dX6_cell_94 : decode cX6_cell 94 = .ok (.ireturn, 1) := by decide +kernel
theorem dX6_isRank_0 : decode cX6_isRank 0 = .ok (.iload_n 1, 1) := by decide +kernel
theorem dX6_isRank_1 : decode cX6_isRank 1 = .ok (.iconst 0, 1) := by decide +kernel
theorem dX6_isRank_2 : decode cX6_isRank 2 = .ok (.aload_n 0, 1) := by decide +kernel
theorem dX6_isRank_3 : decode cX6_isRank 3 = .ok (.getfield 7, 3) := by decide +kernel
theorem dX6_isRank_6 : decode cX6_isRank 6 = .ok (.iconst 4, 1) := by decide +kernel
theorem dX6_isRank_7 : decode cX6_isRank 7 = .ok (.iaload, 1) := by decide +kernel
theorem dX6_isRank_8 : decode cX6_isRank 8 = .ok (.iconst 1, 1) := by decide +kernel
theorem dX6_isRank_9 : decode cX6_isRank 9 = .ok (.isub, 1) := by decide +kernel
theorem dX6_isRank_10 : decode cX6_isRank 10 = .ok (.invokestatic 39, 3) := by decide +kernel
theorem dX6_isRank_13 : decode cX6_isRank 13 = .ok (.ireturn, 1) := by decide +kernel
theorem dX6_ofPaddle_0 : decode cX6_ofPaddle 0 = .ok (.aload_n 0, 1) := by decide +kernel
theorem dX6_ofPaddle_1 : decode cX6_ofPaddle 1 = .ok (.iload_n 1, 1) := by decide +kernel
theorem dX6_ofPaddle_2 : decode cX6_ofPaddle 2 = .ok (.invokevirtual 125, 3) := by decide +kernel
theorem dX6_ofPaddle_5 : decode cX6_ofPaddle 5 = .ok (.ifCond .ne 5, 3) := by decide +kernel
theorem dX6_ofPaddle_8 : decode cX6_ofPaddle 8 = .ok (.iconst (-1), 1) := by decide +kernel
theorem dX6_ofPaddle_9 : decode cX6_ofPaddle 9 = .ok (.ireturn, 1) := by decide +kernel
theorem dX6_ofPaddle_10 : decode cX6_ofPaddle 10 = .ok (.iload_n 2, 1) := by decide +kernel
theorem dX6_ofPaddle_11 : decode cX6_ofPaddle 11 = .ok (.tableswitch 69 0 6 #[41, 41, 48, 41, 41, 41, 59], 41) := by decide +kernel
theorem dX6_ofPaddle_52 : decode cX6_ofPaddle 52 = .ok (.aload_n 0, 1) := by decide +kernel
theorem dX6_ofPaddle_53 : decode cX6_ofPaddle 53 = .ok (.iload_n 1, 1) := by decide +kernel
theorem dX6_ofPaddle_54 : decode cX6_ofPaddle 54 = .ok (.iload_n 2, 1) := by decide +kernel
theorem dX6_ofPaddle_55 : decode cX6_ofPaddle 55 = .ok (.invokevirtual 43, 3) := by decide +kernel
theorem dX6_ofPaddle_58 : decode cX6_ofPaddle 58 = .ok (.ireturn, 1) := by decide +kernel
theorem dX6_ofPaddle_59 : decode cX6_ofPaddle 59 = .ok (.aload_n 0, 1) := by decide +kernel
theorem dX6_ofPaddle_60 : decode cX6_ofPaddle 60 = .ok (.iload_n 1, 1) := by decide +kernel
theorem dX6_ofPaddle_61 : decode cX6_ofPaddle 61 = .ok (.iconst 2, 1) := by decide +kernel
theorem dX6_ofPaddle_62 : decode cX6_ofPaddle 62 = .ok (.invokevirtual 43, 3) := by decide +kernel
theorem dX6_ofPaddle_65 : decode cX6_ofPaddle 65 = .ok (.sipush 1000, 3) := by decide +kernel
theorem dX6_ofPaddle_68 : decode cX6_ofPaddle 68 = .ok (.iadd, 1) := by decide +kernel
theorem dX6_ofPaddle_69 : decode cX6_ofPaddle 69 = .ok (.ireturn, 1) := by decide +kernel
theorem dX6_ofPaddle_70 : decode cX6_ofPaddle 70 = .ok (.aload_n 0, 1) := by decide +kernel
theorem dX6_ofPaddle_71 : decode cX6_ofPaddle 71 = .ok (.iload_n 1, 1) := by decide +kernel
theorem dX6_ofPaddle_72 : decode cX6_ofPaddle 72 = .ok (.invokevirtual 58, 3) := by decide +kernel
theorem dX6_ofPaddle_75 : decode cX6_ofPaddle 75 = .ok (.sipush 1000, 3) := by decide +kernel
theorem dX6_ofPaddle_78 : decode cX6_ofPaddle 78 = .ok (.iadd, 1) := by decide +kernel
theorem dX6_ofPaddle_79 : decode cX6_ofPaddle 79 = .ok (.ireturn, 1) := by decide +kernel
theorem dX6_ofPaddle_80 : decode cX6_ofPaddle 80 = .ok (.bipush (-2), 2) := by decide +kernel
theorem dX6_ofPaddle_82 : decode cX6_ofPaddle 82 = .ok (.ireturn, 1) := by decide +kernel
theorem dX6_extreme_0 : decode cX6_extreme 0 = .ok (.aload_n 0, 1) := by decide +kernel
theorem dX6_extreme_1 : decode cX6_extreme 1 = .ok (.iload_n 1, 1) := by decide +kernel
theorem dX6_extreme_2 : decode cX6_extreme 2 = .ok (.iconst 1, 1) := by decide +kernel
theorem dX6_extreme_3 : decode cX6_extreme 3 = .ok (.invokevirtual 128, 3) := by decide +kernel
theorem dX6_extreme_6 : decode cX6_extreme 6 = .ok (.istore_n 3, 1) := by decide +kernel
theorem dX6_extreme_7 : decode cX6_extreme 7 = .ok (.aload_n 0, 1) := by decide +kernel
theorem dX6_extreme_8 : decode cX6_extreme 8 = .ok (.iload_n 1, 1) := by decide +kernel
theorem dX6_extreme_9 : decode cX6_extreme 9 = .ok (.iconst 2, 1) := by decide +kernel
theorem dX6_extreme_10 : decode cX6_extreme 10 = .ok (.invokevirtual 128, 3) := by decide +kernel
theorem dX6_extreme_13 : decode cX6_extreme 13 = .ok (.istore 4, 2) := by decide +kernel
theorem dX6_extreme_15 : decode cX6_extreme 15 = .ok (.iconst 1, 1) := by decide +kernel
theorem dX6_extreme_16 : decode cX6_extreme 16 = .ok (.istore 5, 2) := by decide +kernel
theorem dX6_extreme_18 : decode cX6_extreme 18 = .ok (.iload 5, 2) := by decide +kernel
theorem dX6_extreme_20 : decode cX6_extreme 20 = .ok (.iload_n 3, 1) := by decide +kernel
theorem dX6_extreme_21 : decode cX6_extreme 21 = .ok (.if_icmp .ge 50, 3) := by decide +kernel
theorem dX6_extreme_24 : decode cX6_extreme 24 = .ok (.aload_n 0, 1) := by decide +kernel
theorem dX6_extreme_25 : decode cX6_extreme 25 = .ok (.iload_n 1, 1) := by decide +kernel
theorem dX6_extreme_26 : decode cX6_extreme 26 = .ok (.iconst 2, 1) := by decide +kernel
theorem dX6_extreme_27 : decode cX6_extreme 27 = .ok (.iload 5, 2) := by decide +kernel
theorem dX6_extreme_29 : decode cX6_extreme 29 = .ok (.iadd, 1) := by decide +kernel
theorem dX6_extreme_30 : decode cX6_extreme 30 = .ok (.invokevirtual 128, 3) := by decide +kernel
theorem dX6_extreme_33 : decode cX6_extreme 33 = .ok (.istore 6, 2) := by decide +kernel
theorem dX6_extreme_35 : decode cX6_extreme 35 = .ok (.iload_n 2, 1) := by decide +kernel
theorem dX6_extreme_36 : decode cX6_extreme 36 = .ok (.ifCond .eq 13, 3) := by decide +kernel
theorem dX6_extreme_39 : decode cX6_extreme 39 = .ok (.iload 6, 2) := by decide +kernel
theorem dX6_extreme_41 : decode cX6_extreme 41 = .ok (.iload 4, 2) := by decide +kernel
theorem dX6_extreme_43 : decode cX6_extreme 43 = .ok (.if_icmp .le 18, 3) := by decide +kernel
theorem dX6_extreme_46 : decode cX6_extreme 46 = .ok (.goto 10, 3) := by decide +kernel
theorem dX6_extreme_49 : decode cX6_extreme 49 = .ok (.iload 6, 2) := by decide +kernel
theorem dX6_extreme_51 : decode cX6_extreme 51 = .ok (.iload 4, 2) := by decide +kernel
theorem dX6_extreme_53 : decode cX6_extreme 53 = .ok (.if_icmp .ge 8, 3) := by decide +kernel
theorem dX6_extreme_56 : decode cX6_extreme 56 = .ok (.iload 6, 2) := by decide +kernel
theorem dX6_extreme_58 : decode cX6_extreme 58 = .ok (.goto 5, 3) := by decide +kernel
theorem dX6_extreme_61 : decode cX6_extreme 61 = .ok (.iload 4, 2) := by decide +kernel
theorem dX6_extreme_63 : decode cX6_extreme 63 = .ok (.istore 4, 2) := by decide +kernel
theorem dX6_extreme_65 : decode cX6_extreme 65 = .ok (.iinc 5 1, 3) := by decide +kernel
theorem dX6_extreme_68 : decode cX6_extreme 68 = .ok (.goto (-50), 3) := by decide +kernel
theorem dX6_extreme_71 : decode cX6_extreme 71 = .ok (.iload_n 3, 1) := by decide +kernel
theorem dX6_extreme_72 : decode cX6_extreme 72 = .ok (.ifCond .ne 8, 3) := by decide +kernel
theorem dX6_extreme_75 : decode cX6_extreme 75 = .ok (.bipush (-6), 2) := by decide +kernel
theorem dX6_extreme_77 : decode cX6_extreme 77 = .ok (.goto 9, 3) := by decide +kernel
theorem dX6_extreme_80 : decode cX6_extreme 80 = .ok (.iload 4, 2) := by decide +kernel
theorem dX6_extreme_82 : decode cX6_extreme 82 = .ok (.sipush 10000, 3) := by decide +kernel
theorem dX6_extreme_85 : decode cX6_extreme 85 = .ok (.iadd, 1) := by decide +kernel
theorem dX6_extreme_86 : decode cX6_extreme 86 = .ok (.ireturn, 1) := by decide +kernel
theorem dX6_risings_0 : decode cX6_risings 0 = .ok (.iconst 0, 1) := by decide +kernel
theorem dX6_risings_1 : decode cX6_risings 1 = .ok (.istore_n 2, 1) := by decide +kernel
theorem dX6_risings_2 : decode cX6_risings 2 = .ok (.iconst 1, 1) := by decide +kernel
theorem dX6_risings_3 : decode cX6_risings 3 = .ok (.istore_n 3, 1) := by decide +kernel
theorem dX6_risings_4 : decode cX6_risings 4 = .ok (.iload_n 3, 1) := by decide +kernel
theorem dX6_risings_5 : decode cX6_risings 5 = .ok (.aload_n 0, 1) := by decide +kernel
theorem dX6_risings_6 : decode cX6_risings 6 = .ok (.iload_n 1, 1) := by decide +kernel
theorem dX6_risings_7 : decode cX6_risings 7 = .ok (.iconst 1, 1) := by decide +kernel
theorem dX6_risings_8 : decode cX6_risings 8 = .ok (.invokevirtual 128, 3) := by decide +kernel
theorem dX6_risings_11 : decode cX6_risings 11 = .ok (.if_icmp .ge 41, 3) := by decide +kernel
theorem dX6_risings_14 : decode cX6_risings 14 = .ok (.iload_n 2, 1) := by decide +kernel
theorem dX6_risings_15 : decode cX6_risings 15 = .ok (.aload_n 0, 1) := by decide +kernel
theorem dX6_risings_16 : decode cX6_risings 16 = .ok (.iload_n 1, 1) := by decide +kernel
theorem dX6_risings_17 : decode cX6_risings 17 = .ok (.iconst 2, 1) := by decide +kernel
theorem dX6_risings_18 : decode cX6_risings 18 = .ok (.iload_n 3, 1) := by decide +kernel
theorem dX6_risings_19 : decode cX6_risings 19 = .ok (.iadd, 1) := by decide +kernel
theorem dX6_risings_20 : decode cX6_risings 20 = .ok (.invokevirtual 128, 3) := by decide +kernel
theorem dX6_risings_23 : decode cX6_risings 23 = .ok (.ifCond .lt 20, 3) := by decide +kernel
theorem dX6_risings_26 : decode cX6_risings 26 = .ok (.aload_n 0, 1) := by decide +kernel
theorem dX6_risings_27 : decode cX6_risings 27 = .ok (.iload_n 1, 1) := by decide +kernel
theorem dX6_risings_28 : decode cX6_risings 28 = .ok (.iconst 2, 1) := by decide +kernel
theorem dX6_risings_29 : decode cX6_risings 29 = .ok (.iload_n 3, 1) := by decide +kernel
theorem dX6_risings_30 : decode cX6_risings 30 = .ok (.iadd, 1) := by decide +kernel
theorem dX6_risings_31 : decode cX6_risings 31 = .ok (.iconst 1, 1) := by decide +kernel
theorem dX6_risings_32 : decode cX6_risings 32 = .ok (.isub, 1) := by decide +kernel
theorem dX6_risings_33 : decode cX6_risings 33 = .ok (.invokevirtual 128, 3) := by decide +kernel
theorem dX6_risings_36 : decode cX6_risings 36 = .ok (.ifCond .ge 7, 3) := by decide +kernel
theorem dX6_risings_39 : decode cX6_risings 39 = .ok (.iconst 1, 1) := by decide +kernel
theorem dX6_risings_40 : decode cX6_risings 40 = .ok (.goto 4, 3) := by decide +kernel
theorem dX6_risings_43 : decode cX6_risings 43 = .ok (.iconst 0, 1) := by decide +kernel
theorem dX6_risings_44 : decode cX6_risings 44 = .ok (.iadd, 1) := by decide +kernel
theorem dX6_risings_45 : decode cX6_risings 45 = .ok (.istore_n 2, 1) := by decide +kernel
theorem dX6_risings_46 : decode cX6_risings 46 = .ok (.iinc 3 1, 3) := by decide +kernel
theorem dX6_risings_49 : decode cX6_risings 49 = .ok (.goto (-45), 3) := by decide +kernel
theorem dX6_risings_52 : decode cX6_risings 52 = .ok (.iload_n 2, 1) := by decide +kernel
theorem dX6_risings_53 : decode cX6_risings 53 = .ok (.ireturn, 1) := by decide +kernel
theorem dX6_isGauge_0 : decode cX6_isGauge 0 = .ok (.iload_n 1, 1) := by decide +kernel
theorem dX6_isGauge_1 : decode cX6_isGauge 1 = .ok (.iconst 0, 1) := by decide +kernel
theorem dX6_isGauge_2 : decode cX6_isGauge 2 = .ok (.aload_n 0, 1) := by decide +kernel
theorem dX6_isGauge_3 : decode cX6_isGauge 3 = .ok (.getfield 7, 3) := by decide +kernel
theorem dX6_isGauge_6 : decode cX6_isGauge 6 = .ok (.iconst 5, 1) := by decide +kernel
theorem dX6_isGauge_7 : decode cX6_isGauge 7 = .ok (.iaload, 1) := by decide +kernel
theorem dX6_isGauge_8 : decode cX6_isGauge 8 = .ok (.iconst 1, 1) := by decide +kernel
theorem dX6_isGauge_9 : decode cX6_isGauge 9 = .ok (.isub, 1) := by decide +kernel
theorem dX6_isGauge_10 : decode cX6_isGauge 10 = .ok (.invokestatic 39, 3) := by decide +kernel
theorem dX6_isGauge_13 : decode cX6_isGauge 13 = .ok (.ireturn, 1) := by decide +kernel
theorem dX6_ofGauge_0 : decode cX6_ofGauge 0 = .ok (.aload_n 0, 1) := by decide +kernel
theorem dX6_ofGauge_1 : decode cX6_ofGauge 1 = .ok (.iload_n 1, 1) := by decide +kernel
theorem dX6_ofGauge_2 : decode cX6_ofGauge 2 = .ok (.invokevirtual 131, 3) := by decide +kernel
theorem dX6_ofGauge_5 : decode cX6_ofGauge 5 = .ok (.ifCond .ne 5, 3) := by decide +kernel
theorem dX6_ofGauge_8 : decode cX6_ofGauge 8 = .ok (.iconst (-1), 1) := by decide +kernel
theorem dX6_ofGauge_9 : decode cX6_ofGauge 9 = .ok (.ireturn, 1) := by decide +kernel
theorem dX6_ofGauge_10 : decode cX6_ofGauge 10 = .ok (.iload_n 2, 1) := by decide +kernel
theorem dX6_ofGauge_11 : decode cX6_ofGauge 11 = .ok (.tableswitch 60 0 4 #[33, 33, 40, 47, 54], 33) := by decide +kernel
theorem dX6_ofGauge_44 : decode cX6_ofGauge 44 = .ok (.aload_n 0, 1) := by decide +kernel
theorem dX6_ofGauge_45 : decode cX6_ofGauge 45 = .ok (.iload_n 1, 1) := by decide +kernel
theorem dX6_ofGauge_46 : decode cX6_ofGauge 46 = .ok (.iload_n 2, 1) := by decide +kernel
theorem dX6_ofGauge_47 : decode cX6_ofGauge 47 = .ok (.invokevirtual 128, 3) := by decide +kernel
theorem dX6_ofGauge_50 : decode cX6_ofGauge 50 = .ok (.ireturn, 1) := by decide +kernel
theorem dX6_ofGauge_51 : decode cX6_ofGauge 51 = .ok (.aload_n 0, 1) := by decide +kernel
theorem dX6_ofGauge_52 : decode cX6_ofGauge 52 = .ok (.iload_n 1, 1) := by decide +kernel
theorem dX6_ofGauge_53 : decode cX6_ofGauge 53 = .ok (.iconst 1, 1) := by decide +kernel
theorem dX6_ofGauge_54 : decode cX6_ofGauge 54 = .ok (.invokevirtual 134, 3) := by decide +kernel
theorem dX6_ofGauge_57 : decode cX6_ofGauge 57 = .ok (.ireturn, 1) := by decide +kernel
theorem dX6_ofGauge_58 : decode cX6_ofGauge 58 = .ok (.aload_n 0, 1) := by decide +kernel
theorem dX6_ofGauge_59 : decode cX6_ofGauge 59 = .ok (.iload_n 1, 1) := by decide +kernel
theorem dX6_ofGauge_60 : decode cX6_ofGauge 60 = .ok (.iconst 0, 1) := by decide +kernel
theorem dX6_ofGauge_61 : decode cX6_ofGauge 61 = .ok (.invokevirtual 134, 3) := by decide +kernel
theorem dX6_ofGauge_64 : decode cX6_ofGauge 64 = .ok (.ireturn, 1) := by decide +kernel
theorem dX6_ofGauge_65 : decode cX6_ofGauge 65 = .ok (.aload_n 0, 1) := by decide +kernel
theorem dX6_ofGauge_66 : decode cX6_ofGauge 66 = .ok (.iload_n 1, 1) := by decide +kernel
theorem dX6_ofGauge_67 : decode cX6_ofGauge 67 = .ok (.invokevirtual 138, 3) := by decide +kernel
theorem dX6_ofGauge_70 : decode cX6_ofGauge 70 = .ok (.ireturn, 1) := by decide +kernel
theorem dX6_ofGauge_71 : decode cX6_ofGauge 71 = .ok (.bipush (-2), 2) := by decide +kernel
theorem dX6_ofGauge_73 : decode cX6_ofGauge 73 = .ok (.ireturn, 1) := by decide +kernel
theorem dX6_noted_0 : decode cX6_noted 0 = .ok (.aload_n 0, 1) := by decide +kernel
theorem dX6_noted_1 : decode cX6_noted 1 = .ok (.iload_n 1, 1) := by decide +kernel
theorem dX6_noted_2 : decode cX6_noted 2 = .ok (.invokevirtual 131, 3) := by decide +kernel
theorem dX6_noted_5 : decode cX6_noted 5 = .ok (.ifCond .eq 19, 3) := by decide +kernel
theorem dX6_noted_8 : decode cX6_noted 8 = .ok (.iload_n 2, 1) := by decide +kernel
theorem dX6_noted_9 : decode cX6_noted 9 = .ok (.iconst 0, 1) := by decide +kernel
theorem dX6_noted_10 : decode cX6_noted 10 = .ok (.aload_n 0, 1) := by decide +kernel
theorem dX6_noted_11 : decode cX6_noted 11 = .ok (.iload_n 1, 1) := by decide +kernel
theorem dX6_noted_12 : decode cX6_noted 12 = .ok (.iconst 1, 1) := by decide +kernel
theorem dX6_noted_13 : decode cX6_noted 13 = .ok (.invokevirtual 128, 3) := by decide +kernel
theorem dX6_noted_16 : decode cX6_noted 16 = .ok (.iconst 1, 1) := by decide +kernel
theorem dX6_noted_17 : decode cX6_noted 17 = .ok (.isub, 1) := by decide +kernel
theorem dX6_noted_18 : decode cX6_noted 18 = .ok (.invokestatic 39, 3) := by decide +kernel
theorem dX6_noted_21 : decode cX6_noted 21 = .ok (.ifCond .ne 5, 3) := by decide +kernel
theorem dX6_noted_24 : decode cX6_noted 24 = .ok (.iconst (-1), 1) := by decide +kernel
theorem dX6_noted_25 : decode cX6_noted 25 = .ok (.ireturn, 1) := by decide +kernel
theorem dX6_noted_26 : decode cX6_noted 26 = .ok (.aload_n 0, 1) := by decide +kernel
theorem dX6_noted_27 : decode cX6_noted 27 = .ok (.iload_n 1, 1) := by decide +kernel
theorem dX6_noted_28 : decode cX6_noted 28 = .ok (.iconst 2, 1) := by decide +kernel
theorem dX6_noted_29 : decode cX6_noted 29 = .ok (.aload_n 0, 1) := by decide +kernel
theorem dX6_noted_30 : decode cX6_noted 30 = .ok (.iload_n 1, 1) := by decide +kernel
theorem dX6_noted_31 : decode cX6_noted 31 = .ok (.iconst 1, 1) := by decide +kernel
theorem dX6_noted_32 : decode cX6_noted 32 = .ok (.invokevirtual 128, 3) := by decide +kernel
theorem dX6_noted_35 : decode cX6_noted 35 = .ok (.iadd, 1) := by decide +kernel
theorem dX6_noted_36 : decode cX6_noted 36 = .ok (.iconst 1, 1) := by decide +kernel
theorem dX6_noted_37 : decode cX6_noted 37 = .ok (.isub, 1) := by decide +kernel
theorem dX6_noted_38 : decode cX6_noted 38 = .ok (.iload_n 2, 1) := by decide +kernel
theorem dX6_noted_39 : decode cX6_noted 39 = .ok (.isub, 1) := by decide +kernel
theorem dX6_noted_40 : decode cX6_noted 40 = .ok (.invokevirtual 128, 3) := by decide +kernel
theorem dX6_noted_43 : decode cX6_noted 43 = .ok (.sipush 10000, 3) := by decide +kernel
theorem dX6_noted_46 : decode cX6_noted 46 = .ok (.iadd, 1) := by decide +kernel
theorem dX6_noted_47 : decode cX6_noted 47 = .ok (.ireturn, 1) := by decide +kernel
theorem dX6_isPlace_0 : decode cX6_isPlace 0 = .ok (.aload_n 0, 1) := by decide +kernel
theorem dX6_isPlace_1 : decode cX6_isPlace 1 = .ok (.iload_n 1, 1) := by decide +kernel
theorem dX6_isPlace_2 : decode cX6_isPlace 2 = .ok (.invokevirtual 87, 3) := by decide +kernel
theorem dX6_isPlace_5 : decode cX6_isPlace 5 = .ok (.istore_n 3, 1) := by decide +kernel
theorem dX6_isPlace_6 : decode cX6_isPlace 6 = .ok (.iload_n 2, 1) := by decide +kernel
theorem dX6_isPlace_7 : decode cX6_isPlace 7 = .ok (.tableswitch 67 0 3 #[29, 35, 41, 55], 29) := by decide +kernel
theorem dX6_isPlace_36 : decode cX6_isPlace 36 = .ok (.aload_n 0, 1) := by decide +kernel
theorem dX6_isPlace_37 : decode cX6_isPlace 37 = .ok (.iload_n 1, 1) := by decide +kernel
theorem dX6_isPlace_38 : decode cX6_isPlace 38 = .ok (.invokevirtual 119, 3) := by decide +kernel
theorem dX6_isPlace_41 : decode cX6_isPlace 41 = .ok (.ireturn, 1) := by decide +kernel
theorem dX6_isPlace_42 : decode cX6_isPlace 42 = .ok (.aload_n 0, 1) := by decide +kernel
theorem dX6_isPlace_43 : decode cX6_isPlace 43 = .ok (.iload_n 1, 1) := by decide +kernel
theorem dX6_isPlace_44 : decode cX6_isPlace 44 = .ok (.invokevirtual 122, 3) := by decide +kernel
theorem dX6_isPlace_47 : decode cX6_isPlace 47 = .ok (.ireturn, 1) := by decide +kernel
theorem dX6_isPlace_48 : decode cX6_isPlace 48 = .ok (.aload_n 0, 1) := by decide +kernel
theorem dX6_isPlace_49 : decode cX6_isPlace 49 = .ok (.iload_n 1, 1) := by decide +kernel
theorem dX6_isPlace_50 : decode cX6_isPlace 50 = .ok (.invokevirtual 47, 3) := by decide +kernel
theorem dX6_isPlace_53 : decode cX6_isPlace 53 = .ok (.ifCond .eq 7, 3) := by decide +kernel
theorem dX6_isPlace_56 : decode cX6_isPlace 56 = .ok (.iconst 1, 1) := by decide +kernel
theorem dX6_isPlace_57 : decode cX6_isPlace 57 = .ok (.goto 4, 3) := by decide +kernel
theorem dX6_isPlace_60 : decode cX6_isPlace 60 = .ok (.iconst 0, 1) := by decide +kernel
theorem dX6_isPlace_61 : decode cX6_isPlace 61 = .ok (.ireturn, 1) := by decide +kernel
theorem dX6_isPlace_62 : decode cX6_isPlace 62 = .ok (.iload_n 3, 1) := by decide +kernel
theorem dX6_isPlace_63 : decode cX6_isPlace 63 = .ok (.bipush (-6), 2) := by decide +kernel
theorem dX6_isPlace_65 : decode cX6_isPlace 65 = .ok (.if_icmp .eq 7, 3) := by decide +kernel
theorem dX6_isPlace_68 : decode cX6_isPlace 68 = .ok (.iconst 1, 1) := by decide +kernel
theorem dX6_isPlace_69 : decode cX6_isPlace 69 = .ok (.goto 4, 3) := by decide +kernel
theorem dX6_isPlace_72 : decode cX6_isPlace 72 = .ok (.iconst 0, 1) := by decide +kernel
theorem dX6_isPlace_73 : decode cX6_isPlace 73 = .ok (.ireturn, 1) := by decide +kernel
theorem dX6_isPlace_74 : decode cX6_isPlace 74 = .ok (.iload_n 3, 1) := by decide +kernel
theorem dX6_isPlace_75 : decode cX6_isPlace 75 = .ok (.bipush (-6), 2) := by decide +kernel
theorem dX6_isPlace_77 : decode cX6_isPlace 77 = .ok (.if_icmp .eq 16, 3) := by decide +kernel
theorem dX6_isPlace_80 : decode cX6_isPlace 80 = .ok (.aload_n 0, 1) := by decide +kernel
theorem dX6_isPlace_81 : decode cX6_isPlace 81 = .ok (.iload_n 3, 1) := by decide +kernel
theorem dX6_isPlace_82 : decode cX6_isPlace 82 = .ok (.iconst 5, 1) := by decide +kernel
theorem dX6_isPlace_83 : decode cX6_isPlace 83 = .ok (.invokevirtual 43, 3) := by decide +kernel
theorem dX6_isPlace_86 : decode cX6_isPlace 86 = .ok (.ifCond .ne 7, 3) := by decide +kernel
theorem dX6_isPlace_89 : decode cX6_isPlace 89 = .ok (.iconst 1, 1) := by decide +kernel
theorem dX6_isPlace_90 : decode cX6_isPlace 90 = .ok (.goto 4, 3) := by decide +kernel
theorem dX6_isPlace_93 : decode cX6_isPlace 93 = .ok (.iconst 0, 1) := by decide +kernel
theorem dX6_isPlace_94 : decode cX6_isPlace 94 = .ok (.ireturn, 1) := by decide +kernel
theorem dX6_places_0 : decode cX6_places 0 = .ok (.iload_n 1, 1) := by decide +kernel
theorem dX6_places_1 : decode cX6_places 1 = .ok (.iconst 0, 1) := by decide +kernel
theorem dX6_places_2 : decode cX6_places 2 = .ok (.iconst 4, 1) := by decide +kernel
theorem dX6_places_3 : decode cX6_places 3 = .ok (.invokestatic 39, 3) := by decide +kernel
theorem dX6_places_6 : decode cX6_places 6 = .ok (.ifCond .ne 7, 3) := by decide +kernel
theorem dX6_places_9 : decode cX6_places 9 = .ok (.ldc2_w 141, 3) := by decide +kernel
theorem dX6_places_12 : decode cX6_places 12 = .ok (.lreturn, 1) := by decide +kernel
theorem dX6_places_13 : decode cX6_places 13 = .ok (.lconst 0, 1) := by decide +kernel
theorem dX6_places_14 : decode cX6_places 14 = .ok (.lstore_n 2, 1) := by decide +kernel
theorem dX6_places_15 : decode cX6_places 15 = .ok (.iconst 0, 1) := by decide +kernel
theorem dX6_places_16 : decode cX6_places 16 = .ok (.istore 4, 2) := by decide +kernel
theorem dX6_places_18 : decode cX6_places 18 = .ok (.iload 4, 2) := by decide +kernel
theorem dX6_places_20 : decode cX6_places 20 = .ok (.bipush 40, 2) := by decide +kernel
theorem dX6_places_22 : decode cX6_places 22 = .ok (.if_icmp .ge 30, 3) := by decide +kernel
theorem dX6_places_25 : decode cX6_places 25 = .ok (.lload_n 2, 1) := by decide +kernel
theorem dX6_places_26 : decode cX6_places 26 = .ok (.aload_n 0, 1) := by decide +kernel
theorem dX6_places_27 : decode cX6_places 27 = .ok (.iload 4, 2) := by decide +kernel
theorem dX6_places_29 : decode cX6_places 29 = .ok (.iload_n 1, 1) := by decide +kernel
theorem dX6_places_30 : decode cX6_places 30 = .ok (.invokevirtual 143, 3) := by decide +kernel
theorem dX6_places_33 : decode cX6_places 33 = .ok (.ifCond .eq 10, 3) := by decide +kernel
theorem dX6_places_36 : decode cX6_places 36 = .ok (.lconst 1, 1) := by decide +kernel
theorem dX6_places_37 : decode cX6_places 37 = .ok (.iload 4, 2) := by decide +kernel
theorem dX6_places_39 : decode cX6_places 39 = .ok (.lshl, 1) := by decide +kernel
theorem dX6_places_40 : decode cX6_places 40 = .ok (.goto 4, 3) := by decide +kernel
theorem dX6_places_43 : decode cX6_places 43 = .ok (.lconst 0, 1) := by decide +kernel
theorem dX6_places_44 : decode cX6_places 44 = .ok (.lor, 1) := by decide +kernel
theorem dX6_places_45 : decode cX6_places 45 = .ok (.lstore_n 2, 1) := by decide +kernel
theorem dX6_places_46 : decode cX6_places 46 = .ok (.iinc 4 1, 3) := by decide +kernel
theorem dX6_places_49 : decode cX6_places 49 = .ok (.goto (-31), 3) := by decide +kernel
theorem dX6_places_52 : decode cX6_places 52 = .ok (.lload_n 2, 1) := by decide +kernel
theorem dX6_places_53 : decode cX6_places 53 = .ok (.lreturn, 1) := by decide +kernel
theorem dX6_stopped_0 : decode cX6_stopped 0 = .ok (.iconst 0, 1) := by decide +kernel
theorem dX6_stopped_1 : decode cX6_stopped 1 = .ok (.istore_n 1, 1) := by decide +kernel
theorem dX6_stopped_2 : decode cX6_stopped 2 = .ok (.iconst 0, 1) := by decide +kernel
theorem dX6_stopped_3 : decode cX6_stopped 3 = .ok (.istore_n 2, 1) := by decide +kernel
theorem dX6_stopped_4 : decode cX6_stopped 4 = .ok (.iload_n 2, 1) := by decide +kernel
theorem dX6_stopped_5 : decode cX6_stopped 5 = .ok (.aload_n 0, 1) := by decide +kernel
theorem dX6_stopped_6 : decode cX6_stopped 6 = .ok (.getfield 7, 3) := by decide +kernel
theorem dX6_stopped_9 : decode cX6_stopped 9 = .ok (.iconst 4, 1) := by decide +kernel
theorem dX6_stopped_10 : decode cX6_stopped 10 = .ok (.iaload, 1) := by decide +kernel
theorem dX6_stopped_11 : decode cX6_stopped 11 = .ok (.if_icmp .ge 20, 3) := by decide +kernel
theorem dX6_stopped_14 : decode cX6_stopped 14 = .ok (.iload_n 1, 1) := by decide +kernel
theorem dX6_stopped_15 : decode cX6_stopped 15 = .ok (.iconst 1, 1) := by decide +kernel
theorem dX6_stopped_16 : decode cX6_stopped 16 = .ok (.aload_n 0, 1) := by decide +kernel
theorem dX6_stopped_17 : decode cX6_stopped 17 = .ok (.iload_n 2, 1) := by decide +kernel
theorem dX6_stopped_18 : decode cX6_stopped 18 = .ok (.iconst 5, 1) := by decide +kernel
theorem dX6_stopped_19 : decode cX6_stopped 19 = .ok (.invokevirtual 43, 3) := by decide +kernel
theorem dX6_stopped_22 : decode cX6_stopped 22 = .ok (.isub, 1) := by decide +kernel
theorem dX6_stopped_23 : decode cX6_stopped 23 = .ok (.iadd, 1) := by decide +kernel
theorem dX6_stopped_24 : decode cX6_stopped 24 = .ok (.istore_n 1, 1) := by decide +kernel
theorem dX6_stopped_25 : decode cX6_stopped 25 = .ok (.iinc 2 1, 3) := by decide +kernel
theorem dX6_stopped_28 : decode cX6_stopped 28 = .ok (.goto (-24), 3) := by decide +kernel
theorem dX6_stopped_31 : decode cX6_stopped 31 = .ok (.iload_n 1, 1) := by decide +kernel
theorem dX6_stopped_32 : decode cX6_stopped 32 = .ok (.ireturn, 1) := by decide +kernel
theorem dX6_sumOfLevels_0 : decode cX6_sumOfLevels 0 = .ok (.iconst 0, 1) := by decide +kernel
theorem dX6_sumOfLevels_1 : decode cX6_sumOfLevels 1 = .ok (.istore_n 1, 1) := by decide +kernel
theorem dX6_sumOfLevels_2 : decode cX6_sumOfLevels 2 = .ok (.iconst 0, 1) := by decide +kernel
theorem dX6_sumOfLevels_3 : decode cX6_sumOfLevels 3 = .ok (.istore_n 2, 1) := by decide +kernel
theorem dX6_sumOfLevels_4 : decode cX6_sumOfLevels 4 = .ok (.iload_n 2, 1) := by decide +kernel
theorem dX6_sumOfLevels_5 : decode cX6_sumOfLevels 5 = .ok (.bipush 40, 2) := by decide +kernel
theorem dX6_sumOfLevels_7 : decode cX6_sumOfLevels 7 = .ok (.if_icmp .ge 17, 3) := by decide +kernel
theorem dX6_sumOfLevels_10 : decode cX6_sumOfLevels 10 = .ok (.iload_n 1, 1) := by decide +kernel
theorem dX6_sumOfLevels_11 : decode cX6_sumOfLevels 11 = .ok (.aload_n 0, 1) := by decide +kernel
theorem dX6_sumOfLevels_12 : decode cX6_sumOfLevels 12 = .ok (.iload_n 2, 1) := by decide +kernel
theorem dX6_sumOfLevels_13 : decode cX6_sumOfLevels 13 = .ok (.invokevirtual 47, 3) := by decide +kernel
theorem dX6_sumOfLevels_16 : decode cX6_sumOfLevels 16 = .ok (.iadd, 1) := by decide +kernel
theorem dX6_sumOfLevels_17 : decode cX6_sumOfLevels 17 = .ok (.istore_n 1, 1) := by decide +kernel
theorem dX6_sumOfLevels_18 : decode cX6_sumOfLevels 18 = .ok (.iinc 2 1, 3) := by decide +kernel
theorem dX6_sumOfLevels_21 : decode cX6_sumOfLevels 21 = .ok (.goto (-17), 3) := by decide +kernel
theorem dX6_sumOfLevels_24 : decode cX6_sumOfLevels 24 = .ok (.iload_n 1, 1) := by decide +kernel
theorem dX6_sumOfLevels_25 : decode cX6_sumOfLevels 25 = .ok (.ireturn, 1) := by decide +kernel
theorem dX6_swings_0 : decode cX6_swings 0 = .ok (.iconst 0, 1) := by decide +kernel
theorem dX6_swings_1 : decode cX6_swings 1 = .ok (.istore_n 1, 1) := by decide +kernel
theorem dX6_swings_2 : decode cX6_swings 2 = .ok (.iconst 0, 1) := by decide +kernel
theorem dX6_swings_3 : decode cX6_swings 3 = .ok (.istore_n 2, 1) := by decide +kernel
theorem dX6_swings_4 : decode cX6_swings 4 = .ok (.iload_n 2, 1) := by decide +kernel
theorem dX6_swings_5 : decode cX6_swings 5 = .ok (.bipush 40, 2) := by decide +kernel
theorem dX6_swings_7 : decode cX6_swings 7 = .ok (.if_icmp .ge 33, 3) := by decide +kernel
theorem dX6_swings_10 : decode cX6_swings 10 = .ok (.iload_n 1, 1) := by decide +kernel
theorem dX6_swings_11 : decode cX6_swings 11 = .ok (.aload_n 0, 1) := by decide +kernel
theorem dX6_swings_12 : decode cX6_swings 12 = .ok (.iload_n 2, 1) := by decide +kernel
theorem dX6_swings_13 : decode cX6_swings 13 = .ok (.invokevirtual 47, 3) := by decide +kernel
theorem dX6_swings_16 : decode cX6_swings 16 = .ok (.invokestatic 51, 3) := by decide +kernel
theorem dX6_swings_19 : decode cX6_swings 19 = .ok (.aload_n 0, 1) := by decide +kernel
theorem dX6_swings_20 : decode cX6_swings 20 = .ok (.getfield 7, 3) := by decide +kernel
theorem dX6_swings_23 : decode cX6_swings 23 = .ok (.bipush 46, 2) := by decide +kernel
theorem dX6_swings_25 : decode cX6_swings 25 = .ok (.iload_n 2, 1) := by decide +kernel
theorem dX6_swings_26 : decode cX6_swings 26 = .ok (.iadd, 1) := by decide +kernel
theorem dX6_swings_27 : decode cX6_swings 27 = .ok (.iaload, 1) := by decide +kernel
theorem dX6_swings_28 : decode cX6_swings 28 = .ok (.invokestatic 51, 3) := by decide +kernel
theorem dX6_swings_31 : decode cX6_swings 31 = .ok (.iadd, 1) := by decide +kernel
theorem dX6_swings_32 : decode cX6_swings 32 = .ok (.iadd, 1) := by decide +kernel
theorem dX6_swings_33 : decode cX6_swings 33 = .ok (.istore_n 1, 1) := by decide +kernel
theorem dX6_swings_34 : decode cX6_swings 34 = .ok (.iinc 2 1, 3) := by decide +kernel
theorem dX6_swings_37 : decode cX6_swings 37 = .ok (.goto (-33), 3) := by decide +kernel
theorem dX6_swings_40 : decode cX6_swings 40 = .ok (.iload_n 1, 1) := by decide +kernel
theorem dX6_swings_41 : decode cX6_swings 41 = .ok (.ireturn, 1) := by decide +kernel
theorem dX6_greatest_0 : decode cX6_greatest 0 = .ok (.iconst 0, 1) := by decide +kernel
theorem dX6_greatest_1 : decode cX6_greatest 1 = .ok (.istore_n 1, 1) := by decide +kernel
theorem dX6_greatest_2 : decode cX6_greatest 2 = .ok (.iconst 0, 1) := by decide +kernel
theorem dX6_greatest_3 : decode cX6_greatest 3 = .ok (.istore_n 2, 1) := by decide +kernel
theorem dX6_greatest_4 : decode cX6_greatest 4 = .ok (.iload_n 2, 1) := by decide +kernel
theorem dX6_greatest_5 : decode cX6_greatest 5 = .ok (.bipush 40, 2) := by decide +kernel
theorem dX6_greatest_7 : decode cX6_greatest 7 = .ok (.if_icmp .ge 34, 3) := by decide +kernel
theorem dX6_greatest_10 : decode cX6_greatest 10 = .ok (.aload_n 0, 1) := by decide +kernel
theorem dX6_greatest_11 : decode cX6_greatest 11 = .ok (.iload_n 2, 1) := by decide +kernel
theorem dX6_greatest_12 : decode cX6_greatest 12 = .ok (.invokevirtual 47, 3) := by decide +kernel
theorem dX6_greatest_15 : decode cX6_greatest 15 = .ok (.invokestatic 51, 3) := by decide +kernel
theorem dX6_greatest_18 : decode cX6_greatest 18 = .ok (.iload_n 1, 1) := by decide +kernel
theorem dX6_greatest_19 : decode cX6_greatest 19 = .ok (.if_icmp .le 14, 3) := by decide +kernel
theorem dX6_greatest_22 : decode cX6_greatest 22 = .ok (.aload_n 0, 1) := by decide +kernel
theorem dX6_greatest_23 : decode cX6_greatest 23 = .ok (.iload_n 2, 1) := by decide +kernel
theorem dX6_greatest_24 : decode cX6_greatest 24 = .ok (.invokevirtual 47, 3) := by decide +kernel
theorem dX6_greatest_27 : decode cX6_greatest 27 = .ok (.invokestatic 51, 3) := by decide +kernel
theorem dX6_greatest_30 : decode cX6_greatest 30 = .ok (.goto 4, 3) := by decide +kernel
theorem dX6_greatest_33 : decode cX6_greatest 33 = .ok (.iload_n 1, 1) := by decide +kernel
theorem dX6_greatest_34 : decode cX6_greatest 34 = .ok (.istore_n 1, 1) := by decide +kernel
theorem dX6_greatest_35 : decode cX6_greatest 35 = .ok (.iinc 2 1, 3) := by decide +kernel
theorem dX6_greatest_38 : decode cX6_greatest 38 = .ok (.goto (-34), 3) := by decide +kernel
theorem dX6_greatest_41 : decode cX6_greatest 41 = .ok (.iload_n 1, 1) := by decide +kernel
theorem dX6_greatest_42 : decode cX6_greatest 42 = .ok (.ireturn, 1) := by decide +kernel
theorem dX6_lastSwung_0 : decode cX6_lastSwung 0 = .ok (.bipush (-6), 2) := by decide +kernel
theorem dX6_lastSwung_2 : decode cX6_lastSwung 2 = .ok (.istore_n 1, 1) := by decide +kernel
theorem dX6_lastSwung_3 : decode cX6_lastSwung 3 = .ok (.iconst 0, 1) := by decide +kernel
theorem dX6_lastSwung_4 : decode cX6_lastSwung 4 = .ok (.istore_n 2, 1) := by decide +kernel
theorem dX6_lastSwung_5 : decode cX6_lastSwung 5 = .ok (.iload_n 2, 1) := by decide +kernel
theorem dX6_lastSwung_6 : decode cX6_lastSwung 6 = .ok (.bipush 40, 2) := by decide +kernel
theorem dX6_lastSwung_8 : decode cX6_lastSwung 8 = .ok (.if_icmp .ge 23, 3) := by decide +kernel
theorem dX6_lastSwung_11 : decode cX6_lastSwung 11 = .ok (.aload_n 0, 1) := by decide +kernel
theorem dX6_lastSwung_12 : decode cX6_lastSwung 12 = .ok (.iload_n 2, 1) := by decide +kernel
theorem dX6_lastSwung_13 : decode cX6_lastSwung 13 = .ok (.invokevirtual 47, 3) := by decide +kernel
theorem dX6_lastSwung_16 : decode cX6_lastSwung 16 = .ok (.ifCond .eq 7, 3) := by decide +kernel
theorem dX6_lastSwung_19 : decode cX6_lastSwung 19 = .ok (.iload_n 2, 1) := by decide +kernel
theorem dX6_lastSwung_20 : decode cX6_lastSwung 20 = .ok (.goto 4, 3) := by decide +kernel
theorem dX6_lastSwung_23 : decode cX6_lastSwung 23 = .ok (.iload_n 1, 1) := by decide +kernel
theorem dX6_lastSwung_24 : decode cX6_lastSwung 24 = .ok (.istore_n 1, 1) := by decide +kernel
theorem dX6_lastSwung_25 : decode cX6_lastSwung 25 = .ok (.iinc 2 1, 3) := by decide +kernel
theorem dX6_lastSwung_28 : decode cX6_lastSwung 28 = .ok (.goto (-23), 3) := by decide +kernel
theorem dX6_lastSwung_31 : decode cX6_lastSwung 31 = .ok (.iload_n 1, 1) := by decide +kernel
theorem dX6_lastSwung_32 : decode cX6_lastSwung 32 = .ok (.ireturn, 1) := by decide +kernel
theorem dX6_count_0 : decode cX6_count 0 = .ok (.iload_n 1, 1) := by decide +kernel
theorem dX6_count_1 : decode cX6_count 1 = .ok (.tableswitch 136 0 12 #[67, 74, 81, 86, 93, 101, 106, 111, 116, 116, 116, 126, 131], 67) := by decide +kernel
theorem dX6_count_68 : decode cX6_count 68 = .ok (.aload_n 0, 1) := by decide +kernel
theorem dX6_count_69 : decode cX6_count 69 = .ok (.getfield 7, 3) := by decide +kernel
theorem dX6_count_72 : decode cX6_count 72 = .ok (.iconst 3, 1) := by decide +kernel
theorem dX6_count_73 : decode cX6_count 73 = .ok (.iaload, 1) := by decide +kernel
theorem dX6_count_74 : decode cX6_count 74 = .ok (.ireturn, 1) := by decide +kernel
theorem dX6_count_75 : decode cX6_count 75 = .ok (.aload_n 0, 1) := by decide +kernel
theorem dX6_count_76 : decode cX6_count 76 = .ok (.getfield 7, 3) := by decide +kernel
theorem dX6_count_79 : decode cX6_count 79 = .ok (.iconst 4, 1) := by decide +kernel
theorem dX6_count_80 : decode cX6_count 80 = .ok (.iaload, 1) := by decide +kernel
theorem dX6_count_81 : decode cX6_count 81 = .ok (.ireturn, 1) := by decide +kernel
theorem dX6_count_82 : decode cX6_count 82 = .ok (.aload_n 0, 1) := by decide +kernel
theorem dX6_count_83 : decode cX6_count 83 = .ok (.invokevirtual 146, 3) := by decide +kernel
theorem dX6_count_86 : decode cX6_count 86 = .ok (.ireturn, 1) := by decide +kernel
theorem dX6_count_87 : decode cX6_count 87 = .ok (.aload_n 0, 1) := by decide +kernel
theorem dX6_count_88 : decode cX6_count 88 = .ok (.getfield 7, 3) := by decide +kernel
theorem dX6_count_91 : decode cX6_count 91 = .ok (.iconst 5, 1) := by decide +kernel
theorem dX6_count_92 : decode cX6_count 92 = .ok (.iaload, 1) := by decide +kernel
theorem dX6_count_93 : decode cX6_count 93 = .ok (.ireturn, 1) := by decide +kernel
theorem dX6_count_94 : decode cX6_count 94 = .ok (.aload_n 0, 1) := by decide +kernel
theorem dX6_count_95 : decode cX6_count 95 = .ok (.invokevirtual 149, 3) := by decide +kernel
theorem dX6_count_98 : decode cX6_count 98 = .ok (.ldc 152, 2) := by decide +kernel
theorem dX6_count_100 : decode cX6_count 100 = .ok (.iadd, 1) := by decide +kernel
theorem dX6_count_101 : decode cX6_count 101 = .ok (.ireturn, 1) := by decide +kernel
theorem dX6_count_102 : decode cX6_count 102 = .ok (.aload_n 0, 1) := by decide +kernel
theorem dX6_count_103 : decode cX6_count 103 = .ok (.invokevirtual 153, 3) := by decide +kernel
theorem dX6_count_106 : decode cX6_count 106 = .ok (.ireturn, 1) := by decide +kernel
theorem dX6_count_107 : decode cX6_count 107 = .ok (.aload_n 0, 1) := by decide +kernel
theorem dX6_count_108 : decode cX6_count 108 = .ok (.invokevirtual 156, 3) := by decide +kernel
theorem dX6_count_111 : decode cX6_count 111 = .ok (.ireturn, 1) := by decide +kernel
theorem dX6_count_112 : decode cX6_count 112 = .ok (.aload_n 0, 1) := by decide +kernel
theorem dX6_count_113 : decode cX6_count 113 = .ok (.invokevirtual 159, 3) := by decide +kernel
theorem dX6_count_116 : decode cX6_count 116 = .ok (.ireturn, 1) := by decide +kernel
theorem dX6_count_117 : decode cX6_count 117 = .ok (.aload_n 0, 1) := by decide +kernel
theorem dX6_count_118 : decode cX6_count 118 = .ok (.getfield 7, 3) := by decide +kernel
theorem dX6_count_121 : decode cX6_count 121 = .ok (.iload_n 1, 1) := by decide +kernel
theorem dX6_count_122 : decode cX6_count 122 = .ok (.bipush 8, 2) := by decide +kernel
theorem dX6_count_124 : decode cX6_count 124 = .ok (.isub, 1) := by decide +kernel
theorem dX6_count_125 : decode cX6_count 125 = .ok (.iaload, 1) := by decide +kernel
theorem dX6_count_126 : decode cX6_count 126 = .ok (.ireturn, 1) := by decide +kernel
theorem dX6_count_127 : decode cX6_count 127 = .ok (.aload_n 0, 1) := by decide +kernel
theorem dX6_count_128 : decode cX6_count 128 = .ok (.getfield 162, 3) := by decide +kernel
theorem dX6_count_131 : decode cX6_count 131 = .ok (.ireturn, 1) := by decide +kernel
theorem dX6_count_132 : decode cX6_count 132 = .ok (.aload_n 0, 1) := by decide +kernel
theorem dX6_count_133 : decode cX6_count 133 = .ok (.getfield 31, 3) := by decide +kernel
theorem dX6_count_136 : decode cX6_count 136 = .ok (.ireturn, 1) := by decide +kernel
theorem dX6_count_137 : decode cX6_count 137 = .ok (.bipush (-2), 2) := by decide +kernel
theorem dX6_count_139 : decode cX6_count 139 = .ok (.ireturn, 1) := by decide +kernel
theorem dX6_reaches_0 : decode cX6_reaches 0 = .ok (.iload_n 1, 1) := by decide +kernel
theorem dX6_reaches_1 : decode cX6_reaches 1 = .ok (.invokestatic 102, 3) := by decide +kernel
theorem dX6_reaches_4 : decode cX6_reaches 4 = .ok (.ifCond .ne 5, 3) := by decide +kernel
theorem dX6_reaches_7 : decode cX6_reaches 7 = .ok (.iconst (-1), 1) := by decide +kernel
theorem dX6_reaches_8 : decode cX6_reaches 8 = .ok (.ireturn, 1) := by decide +kernel
theorem dX6_reaches_9 : decode cX6_reaches 9 = .ok (.iload_n 2, 1) := by decide +kernel
theorem dX6_reaches_10 : decode cX6_reaches 10 = .ok (.iconst 1, 1) := by decide +kernel
theorem dX6_reaches_11 : decode cX6_reaches 11 = .ok (.sipush 9999, 3) := by decide +kernel
theorem dX6_reaches_14 : decode cX6_reaches 14 = .ok (.invokestatic 39, 3) := by decide +kernel
theorem dX6_reaches_17 : decode cX6_reaches 17 = .ok (.ifCond .ne 6, 3) := by decide +kernel
theorem dX6_reaches_20 : decode cX6_reaches 20 = .ok (.bipush (-2), 2) := by decide +kernel
theorem dX6_reaches_22 : decode cX6_reaches 22 = .ok (.ireturn, 1) := by decide +kernel
theorem dX6_reaches_23 : decode cX6_reaches 23 = .ok (.aload_n 0, 1) := by decide +kernel
theorem dX6_reaches_24 : decode cX6_reaches 24 = .ok (.getfield 7, 3) := by decide +kernel
theorem dX6_reaches_27 : decode cX6_reaches 27 = .ok (.iconst 0, 1) := by decide +kernel
theorem dX6_reaches_28 : decode cX6_reaches 28 = .ok (.aload_n 0, 1) := by decide +kernel
theorem dX6_reaches_29 : decode cX6_reaches 29 = .ok (.getfield 13, 3) := by decide +kernel
theorem dX6_reaches_32 : decode cX6_reaches 32 = .ok (.iconst 0, 1) := by decide +kernel
theorem dX6_reaches_33 : decode cX6_reaches 33 = .ok (.invokestatic 35, 3) := by decide +kernel
theorem dX6_reaches_36 : decode cX6_reaches 36 = .ok (.iconst 0, 1) := by decide +kernel
theorem dX6_reaches_37 : decode cX6_reaches 37 = .ok (.istore_n 3, 1) := by decide +kernel
theorem dX6_reaches_38 : decode cX6_reaches 38 = .ok (.aload_n 0, 1) := by decide +kernel
theorem dX6_reaches_39 : decode cX6_reaches 39 = .ok (.iload_n 1, 1) := by decide +kernel
theorem dX6_reaches_40 : decode cX6_reaches 40 = .ok (.invokevirtual 47, 3) := by decide +kernel
theorem dX6_reaches_43 : decode cX6_reaches 43 = .ok (.invokestatic 51, 3) := by decide +kernel
theorem dX6_reaches_46 : decode cX6_reaches 46 = .ok (.iload_n 2, 1) := by decide +kernel
theorem dX6_reaches_47 : decode cX6_reaches 47 = .ok (.if_icmp .ge 21, 3) := by decide +kernel
theorem dX6_reaches_50 : decode cX6_reaches 50 = .ok (.iload_n 3, 1) := by decide +kernel
theorem dX6_reaches_51 : decode cX6_reaches 51 = .ok (.sipush 500, 3) := by decide +kernel
theorem dX6_reaches_54 : decode cX6_reaches 54 = .ok (.if_icmp .ge 14, 3) := by decide +kernel
theorem dX6_reaches_57 : decode cX6_reaches 57 = .ok (.aload_n 0, 1) := by decide +kernel
theorem dX6_reaches_58 : decode cX6_reaches 58 = .ok (.invokevirtual 77, 3) := by decide +kernel
theorem dX6_reaches_61 : decode cX6_reaches 61 = .ok (.pop, 1) := by decide +kernel
theorem dX6_reaches_62 : decode cX6_reaches 62 = .ok (.iinc 3 1, 3) := by decide +kernel
theorem dX6_reaches_65 : decode cX6_reaches 65 = .ok (.goto (-27), 3) := by decide +kernel
theorem dX6_reaches_68 : decode cX6_reaches 68 = .ok (.aload_n 0, 1) := by decide +kernel
theorem dX6_reaches_69 : decode cX6_reaches 69 = .ok (.iload_n 1, 1) := by decide +kernel
theorem dX6_reaches_70 : decode cX6_reaches 70 = .ok (.invokevirtual 47, 3) := by decide +kernel
theorem dX6_reaches_73 : decode cX6_reaches 73 = .ok (.invokestatic 51, 3) := by decide +kernel
theorem dX6_reaches_76 : decode cX6_reaches 76 = .ok (.iload_n 2, 1) := by decide +kernel
theorem dX6_reaches_77 : decode cX6_reaches 77 = .ok (.if_icmp .ge 8, 3) := by decide +kernel
theorem dX6_reaches_80 : decode cX6_reaches 80 = .ok (.bipush (-6), 2) := by decide +kernel
theorem dX6_reaches_82 : decode cX6_reaches 82 = .ok (.goto 4, 3) := by decide +kernel
theorem dX6_reaches_85 : decode cX6_reaches 85 = .ok (.iload_n 3, 1) := by decide +kernel
theorem dX6_reaches_86 : decode cX6_reaches 86 = .ok (.istore 4, 2) := by decide +kernel
theorem dX6_reaches_88 : decode cX6_reaches 88 = .ok (.aload_n 0, 1) := by decide +kernel
theorem dX6_reaches_89 : decode cX6_reaches 89 = .ok (.getfield 13, 3) := by decide +kernel
theorem dX6_reaches_92 : decode cX6_reaches 92 = .ok (.iconst 0, 1) := by decide +kernel
theorem dX6_reaches_93 : decode cX6_reaches 93 = .ok (.aload_n 0, 1) := by decide +kernel
theorem dX6_reaches_94 : decode cX6_reaches 94 = .ok (.getfield 7, 3) := by decide +kernel
theorem dX6_reaches_97 : decode cX6_reaches 97 = .ok (.iconst 0, 1) := by decide +kernel
theorem dX6_reaches_98 : decode cX6_reaches 98 = .ok (.invokestatic 35, 3) := by decide +kernel
theorem dX6_reaches_101 : decode cX6_reaches 101 = .ok (.iload 4, 2) := by decide +kernel
theorem dX6_reaches_103 : decode cX6_reaches 103 = .ok (.ireturn, 1) := by decide +kernel
theorem dX6_bestPeriod_0 : decode cX6_bestPeriod 0 = .ok (.aload_n 0, 1) := by decide +kernel
theorem dX6_bestPeriod_1 : decode cX6_bestPeriod 1 = .ok (.iload_n 1, 1) := by decide +kernel
theorem dX6_bestPeriod_2 : decode cX6_bestPeriod 2 = .ok (.invokevirtual 125, 3) := by decide +kernel
theorem dX6_bestPeriod_5 : decode cX6_bestPeriod 5 = .ok (.ifCond .eq 10, 3) := by decide +kernel
theorem dX6_bestPeriod_8 : decode cX6_bestPeriod 8 = .ok (.iload_n 2, 1) := by decide +kernel
theorem dX6_bestPeriod_9 : decode cX6_bestPeriod 9 = .ok (.invokestatic 102, 3) := by decide +kernel
theorem dX6_bestPeriod_12 : decode cX6_bestPeriod 12 = .ok (.ifCond .ne 5, 3) := by decide +kernel
theorem dX6_bestPeriod_15 : decode cX6_bestPeriod 15 = .ok (.iconst (-1), 1) := by decide +kernel
theorem dX6_bestPeriod_16 : decode cX6_bestPeriod 16 = .ok (.ireturn, 1) := by decide +kernel
theorem dX6_bestPeriod_17 : decode cX6_bestPeriod 17 = .ok (.iload_n 3, 1) := by decide +kernel
theorem dX6_bestPeriod_18 : decode cX6_bestPeriod 18 = .ok (.iconst 1, 1) := by decide +kernel
theorem dX6_bestPeriod_19 : decode cX6_bestPeriod 19 = .ok (.bipush 99, 2) := by decide +kernel
theorem dX6_bestPeriod_21 : decode cX6_bestPeriod 21 = .ok (.invokestatic 39, 3) := by decide +kernel
theorem dX6_bestPeriod_24 : decode cX6_bestPeriod 24 = .ok (.ifCond .eq 13, 3) := by decide +kernel
theorem dX6_bestPeriod_27 : decode cX6_bestPeriod 27 = .ok (.iload 4, 2) := by decide +kernel
theorem dX6_bestPeriod_29 : decode cX6_bestPeriod 29 = .ok (.iconst 0, 1) := by decide +kernel
theorem dX6_bestPeriod_30 : decode cX6_bestPeriod 30 = .ok (.iconst 1, 1) := by decide +kernel
theorem dX6_bestPeriod_31 : decode cX6_bestPeriod 31 = .ok (.invokestatic 39, 3) := by decide +kernel
theorem dX6_bestPeriod_34 : decode cX6_bestPeriod 34 = .ok (.ifCond .ne 6, 3) := by decide +kernel
theorem dX6_bestPeriod_37 : decode cX6_bestPeriod 37 = .ok (.bipush (-2), 2) := by decide +kernel
theorem dX6_bestPeriod_39 : decode cX6_bestPeriod 39 = .ok (.ireturn, 1) := by decide +kernel
theorem dX6_bestPeriod_40 : decode cX6_bestPeriod 40 = .ok (.aload_n 0, 1) := by decide +kernel
theorem dX6_bestPeriod_41 : decode cX6_bestPeriod 41 = .ok (.getfield 7, 3) := by decide +kernel
theorem dX6_bestPeriod_44 : decode cX6_bestPeriod 44 = .ok (.iconst 0, 1) := by decide +kernel
theorem dX6_bestPeriod_45 : decode cX6_bestPeriod 45 = .ok (.aload_n 0, 1) := by decide +kernel
theorem dX6_bestPeriod_46 : decode cX6_bestPeriod 46 = .ok (.getfield 13, 3) := by decide +kernel
theorem dX6_bestPeriod_49 : decode cX6_bestPeriod 49 = .ok (.iconst 0, 1) := by decide +kernel
theorem dX6_bestPeriod_50 : decode cX6_bestPeriod 50 = .ok (.invokestatic 35, 3) := by decide +kernel
theorem dX6_bestPeriod_53 : decode cX6_bestPeriod 53 = .ok (.bipush (-6), 2) := by decide +kernel
theorem dX6_bestPeriod_55 : decode cX6_bestPeriod 55 = .ok (.istore 5, 2) := by decide +kernel
theorem dX6_bestPeriod_57 : decode cX6_bestPeriod 57 = .ok (.iconst (-1), 1) := by decide +kernel
theorem dX6_bestPeriod_58 : decode cX6_bestPeriod 58 = .ok (.istore 6, 2) := by decide +kernel
theorem dX6_bestPeriod_60 : decode cX6_bestPeriod 60 = .ok (.iconst 1, 1) := by decide +kernel
theorem dX6_bestPeriod_61 : decode cX6_bestPeriod 61 = .ok (.istore 7, 2) := by decide +kernel
theorem dX6_bestPeriod_63 : decode cX6_bestPeriod 63 = .ok (.iload 7, 2) := by decide +kernel
theorem dX6_bestPeriod_65 : decode cX6_bestPeriod 65 = .ok (.bipush 60, 2) := by decide +kernel
theorem dX6_bestPeriod_67 : decode cX6_bestPeriod 67 = .ok (.if_icmp .gt 113, 3) := by decide +kernel
theorem dX6_bestPeriod_70 : decode cX6_bestPeriod 70 = .ok (.aload_n 0, 1) := by decide +kernel
theorem dX6_bestPeriod_71 : decode cX6_bestPeriod 71 = .ok (.iload_n 1, 1) := by decide +kernel
theorem dX6_bestPeriod_72 : decode cX6_bestPeriod 72 = .ok (.iconst 3, 1) := by decide +kernel
theorem dX6_bestPeriod_73 : decode cX6_bestPeriod 73 = .ok (.iload 7, 2) := by decide +kernel
theorem dX6_bestPeriod_75 : decode cX6_bestPeriod 75 = .ok (.invokevirtual 54, 3) := by decide +kernel
theorem dX6_bestPeriod_78 : decode cX6_bestPeriod 78 = .ok (.iconst 0, 1) := by decide +kernel
theorem dX6_bestPeriod_79 : decode cX6_bestPeriod 79 = .ok (.istore 8, 2) := by decide +kernel
theorem dX6_bestPeriod_81 : decode cX6_bestPeriod 81 = .ok (.iconst 0, 1) := by decide +kernel
theorem dX6_bestPeriod_82 : decode cX6_bestPeriod 82 = .ok (.istore 9, 2) := by decide +kernel
theorem dX6_bestPeriod_84 : decode cX6_bestPeriod 84 = .ok (.iload 9, 2) := by decide +kernel
theorem dX6_bestPeriod_86 : decode cX6_bestPeriod 86 = .ok (.iload_n 3, 1) := by decide +kernel
theorem dX6_bestPeriod_87 : decode cX6_bestPeriod 87 = .ok (.if_icmp .ge 42, 3) := by decide +kernel
theorem dX6_bestPeriod_90 : decode cX6_bestPeriod 90 = .ok (.aload_n 0, 1) := by decide +kernel
theorem dX6_bestPeriod_91 : decode cX6_bestPeriod 91 = .ok (.invokevirtual 77, 3) := by decide +kernel
theorem dX6_bestPeriod_94 : decode cX6_bestPeriod 94 = .ok (.pop, 1) := by decide +kernel
theorem dX6_bestPeriod_95 : decode cX6_bestPeriod 95 = .ok (.aload_n 0, 1) := by decide +kernel
theorem dX6_bestPeriod_96 : decode cX6_bestPeriod 96 = .ok (.iload_n 2, 1) := by decide +kernel
theorem dX6_bestPeriod_97 : decode cX6_bestPeriod 97 = .ok (.invokevirtual 47, 3) := by decide +kernel
theorem dX6_bestPeriod_100 : decode cX6_bestPeriod 100 = .ok (.invokestatic 51, 3) := by decide +kernel
theorem dX6_bestPeriod_103 : decode cX6_bestPeriod 103 = .ok (.iload 8, 2) := by decide +kernel
theorem dX6_bestPeriod_105 : decode cX6_bestPeriod 105 = .ok (.if_icmp .le 14, 3) := by decide +kernel
theorem dX6_bestPeriod_108 : decode cX6_bestPeriod 108 = .ok (.aload_n 0, 1) := by decide +kernel
theorem dX6_bestPeriod_109 : decode cX6_bestPeriod 109 = .ok (.iload_n 2, 1) := by decide +kernel
theorem dX6_bestPeriod_110 : decode cX6_bestPeriod 110 = .ok (.invokevirtual 47, 3) := by decide +kernel
theorem dX6_bestPeriod_113 : decode cX6_bestPeriod 113 = .ok (.invokestatic 51, 3) := by decide +kernel
theorem dX6_bestPeriod_116 : decode cX6_bestPeriod 116 = .ok (.goto 5, 3) := by decide +kernel
theorem dX6_bestPeriod_119 : decode cX6_bestPeriod 119 = .ok (.iload 8, 2) := by decide +kernel
theorem dX6_bestPeriod_121 : decode cX6_bestPeriod 121 = .ok (.istore 8, 2) := by decide +kernel
theorem dX6_bestPeriod_123 : decode cX6_bestPeriod 123 = .ok (.iinc 9 1, 3) := by decide +kernel
theorem dX6_bestPeriod_126 : decode cX6_bestPeriod 126 = .ok (.goto (-42), 3) := by decide +kernel
theorem dX6_bestPeriod_129 : decode cX6_bestPeriod 129 = .ok (.aload_n 0, 1) := by decide +kernel
theorem dX6_bestPeriod_130 : decode cX6_bestPeriod 130 = .ok (.getfield 13, 3) := by decide +kernel
theorem dX6_bestPeriod_133 : decode cX6_bestPeriod 133 = .ok (.iconst 0, 1) := by decide +kernel
theorem dX6_bestPeriod_134 : decode cX6_bestPeriod 134 = .ok (.aload_n 0, 1) := by decide +kernel
theorem dX6_bestPeriod_135 : decode cX6_bestPeriod 135 = .ok (.getfield 7, 3) := by decide +kernel
theorem dX6_bestPeriod_138 : decode cX6_bestPeriod 138 = .ok (.iconst 0, 1) := by decide +kernel
theorem dX6_bestPeriod_139 : decode cX6_bestPeriod 139 = .ok (.invokestatic 35, 3) := by decide +kernel
theorem dX6_bestPeriod_142 : decode cX6_bestPeriod 142 = .ok (.iload 8, 2) := by decide +kernel
theorem dX6_bestPeriod_144 : decode cX6_bestPeriod 144 = .ok (.iload 6, 2) := by decide +kernel
theorem dX6_bestPeriod_146 : decode cX6_bestPeriod 146 = .ok (.if_icmp .le 8, 3) := by decide +kernel
theorem dX6_bestPeriod_149 : decode cX6_bestPeriod 149 = .ok (.iload 7, 2) := by decide +kernel
theorem dX6_bestPeriod_151 : decode cX6_bestPeriod 151 = .ok (.goto 5, 3) := by decide +kernel
theorem dX6_bestPeriod_154 : decode cX6_bestPeriod 154 = .ok (.iload 5, 2) := by decide +kernel
theorem dX6_bestPeriod_156 : decode cX6_bestPeriod 156 = .ok (.istore 5, 2) := by decide +kernel
theorem dX6_bestPeriod_158 : decode cX6_bestPeriod 158 = .ok (.iload 8, 2) := by decide +kernel
theorem dX6_bestPeriod_160 : decode cX6_bestPeriod 160 = .ok (.iload 6, 2) := by decide +kernel
theorem dX6_bestPeriod_162 : decode cX6_bestPeriod 162 = .ok (.if_icmp .le 8, 3) := by decide +kernel
theorem dX6_bestPeriod_165 : decode cX6_bestPeriod 165 = .ok (.iload 8, 2) := by decide +kernel
theorem dX6_bestPeriod_167 : decode cX6_bestPeriod 167 = .ok (.goto 5, 3) := by decide +kernel
theorem dX6_bestPeriod_170 : decode cX6_bestPeriod 170 = .ok (.iload 6, 2) := by decide +kernel
theorem dX6_bestPeriod_172 : decode cX6_bestPeriod 172 = .ok (.istore 6, 2) := by decide +kernel
theorem dX6_bestPeriod_174 : decode cX6_bestPeriod 174 = .ok (.iinc 7 1, 3) := by decide +kernel
theorem dX6_bestPeriod_177 : decode cX6_bestPeriod 177 = .ok (.goto (-114), 3) := by decide +kernel
theorem dX6_bestPeriod_180 : decode cX6_bestPeriod 180 = .ok (.iload 4, 2) := by decide +kernel
theorem dX6_bestPeriod_182 : decode cX6_bestPeriod 182 = .ok (.ifCond .ne 8, 3) := by decide +kernel
theorem dX6_bestPeriod_185 : decode cX6_bestPeriod 185 = .ok (.iload 5, 2) := by decide +kernel
theorem dX6_bestPeriod_187 : decode cX6_bestPeriod 187 = .ok (.goto 5, 3) := by decide +kernel
theorem dX6_bestPeriod_190 : decode cX6_bestPeriod 190 = .ok (.iload 6, 2) := by decide +kernel
theorem dX6_bestPeriod_192 : decode cX6_bestPeriod 192 = .ok (.ireturn, 1) := by decide +kernel
theorem dX6_calmIn_0 : decode cX6_calmIn 0 = .ok (.aload_n 0, 1) := by decide +kernel
theorem dX6_calmIn_1 : decode cX6_calmIn 1 = .ok (.getfield 7, 3) := by decide +kernel
theorem dX6_calmIn_4 : decode cX6_calmIn 4 = .ok (.iconst 0, 1) := by decide +kernel
theorem dX6_calmIn_5 : decode cX6_calmIn 5 = .ok (.aload_n 0, 1) := by decide +kernel
theorem dX6_calmIn_6 : decode cX6_calmIn 6 = .ok (.getfield 13, 3) := by decide +kernel
theorem dX6_calmIn_9 : decode cX6_calmIn 9 = .ok (.iconst 0, 1) := by decide +kernel
theorem dX6_calmIn_10 : decode cX6_calmIn 10 = .ok (.invokestatic 35, 3) := by decide +kernel
theorem dX6_calmIn_13 : decode cX6_calmIn 13 = .ok (.aload_n 0, 1) := by decide +kernel
theorem dX6_calmIn_14 : decode cX6_calmIn 14 = .ok (.getfield 7, 3) := by decide +kernel
theorem dX6_calmIn_17 : decode cX6_calmIn 17 = .ok (.iconst 4, 1) := by decide +kernel
theorem dX6_calmIn_18 : decode cX6_calmIn 18 = .ok (.iconst 0, 1) := by decide +kernel
theorem dX6_calmIn_19 : decode cX6_calmIn 19 = .ok (.iastore, 1) := by decide +kernel
theorem dX6_calmIn_20 : decode cX6_calmIn 20 = .ok (.iconst 0, 1) := by decide +kernel
theorem dX6_calmIn_21 : decode cX6_calmIn 21 = .ok (.istore_n 1, 1) := by decide +kernel
theorem dX6_calmIn_22 : decode cX6_calmIn 22 = .ok (.aload_n 0, 1) := by decide +kernel
theorem dX6_calmIn_23 : decode cX6_calmIn 23 = .ok (.invokevirtual 153, 3) := by decide +kernel
theorem dX6_calmIn_26 : decode cX6_calmIn 26 = .ok (.ifCond .le 21, 3) := by decide +kernel
theorem dX6_calmIn_29 : decode cX6_calmIn 29 = .ok (.iload_n 1, 1) := by decide +kernel
theorem dX6_calmIn_30 : decode cX6_calmIn 30 = .ok (.sipush 500, 3) := by decide +kernel
theorem dX6_calmIn_33 : decode cX6_calmIn 33 = .ok (.if_icmp .ge 14, 3) := by decide +kernel
theorem dX6_calmIn_36 : decode cX6_calmIn 36 = .ok (.aload_n 0, 1) := by decide +kernel
theorem dX6_calmIn_37 : decode cX6_calmIn 37 = .ok (.invokevirtual 77, 3) := by decide +kernel
theorem dX6_calmIn_40 : decode cX6_calmIn 40 = .ok (.pop, 1) := by decide +kernel
theorem dX6_calmIn_41 : decode cX6_calmIn 41 = .ok (.iinc 1 1, 3) := by decide +kernel
theorem dX6_calmIn_44 : decode cX6_calmIn 44 = .ok (.goto (-22), 3) := by decide +kernel
theorem dX6_calmIn_47 : decode cX6_calmIn 47 = .ok (.aload_n 0, 1) := by decide +kernel
theorem dX6_calmIn_48 : decode cX6_calmIn 48 = .ok (.invokevirtual 153, 3) := by decide +kernel
theorem dX6_calmIn_51 : decode cX6_calmIn 51 = .ok (.ifCond .le 8, 3) := by decide +kernel
theorem dX6_calmIn_54 : decode cX6_calmIn 54 = .ok (.bipush (-6), 2) := by decide +kernel
theorem dX6_calmIn_56 : decode cX6_calmIn 56 = .ok (.goto 4, 3) := by decide +kernel
theorem dX6_calmIn_59 : decode cX6_calmIn 59 = .ok (.iload_n 1, 1) := by decide +kernel
theorem dX6_calmIn_60 : decode cX6_calmIn 60 = .ok (.istore_n 2, 1) := by decide +kernel
theorem dX6_calmIn_61 : decode cX6_calmIn 61 = .ok (.aload_n 0, 1) := by decide +kernel
theorem dX6_calmIn_62 : decode cX6_calmIn 62 = .ok (.getfield 13, 3) := by decide +kernel
theorem dX6_calmIn_65 : decode cX6_calmIn 65 = .ok (.iconst 0, 1) := by decide +kernel
theorem dX6_calmIn_66 : decode cX6_calmIn 66 = .ok (.aload_n 0, 1) := by decide +kernel
theorem dX6_calmIn_67 : decode cX6_calmIn 67 = .ok (.getfield 7, 3) := by decide +kernel
theorem dX6_calmIn_70 : decode cX6_calmIn 70 = .ok (.iconst 0, 1) := by decide +kernel
theorem dX6_calmIn_71 : decode cX6_calmIn 71 = .ok (.invokestatic 35, 3) := by decide +kernel
theorem dX6_calmIn_74 : decode cX6_calmIn 74 = .ok (.iload_n 2, 1) := by decide +kernel
theorem dX6_calmIn_75 : decode cX6_calmIn 75 = .ok (.ireturn, 1) := by decide +kernel
theorem dX6_put_0 : decode cX6_put 0 = .ok (.iconst 0, 1) := by decide +kernel
theorem dX6_put_1 : decode cX6_put 1 = .ok (.istore_n 3, 1) := by decide +kernel
theorem dX6_put_2 : decode cX6_put 2 = .ok (.lload_n 1, 1) := by decide +kernel
theorem dX6_put_3 : decode cX6_put 3 = .ok (.lstore 4, 2) := by decide +kernel
theorem dX6_put_5 : decode cX6_put 5 = .ok (.iconst 1, 1) := by decide +kernel
theorem dX6_put_6 : decode cX6_put 6 = .ok (.istore 6, 2) := by decide +kernel
theorem dX6_put_8 : decode cX6_put 8 = .ok (.iload_n 3, 1) := by decide +kernel
theorem dX6_put_9 : decode cX6_put 9 = .ok (.bipush 8, 2) := by decide +kernel
theorem dX6_put_11 : decode cX6_put 11 = .ok (.if_icmp .ge 56, 3) := by decide +kernel
theorem dX6_put_14 : decode cX6_put 14 = .ok (.lload 4, 2) := by decide +kernel
theorem dX6_put_16 : decode cX6_put 16 = .ok (.ldc2_w 165, 3) := by decide +kernel
theorem dX6_put_19 : decode cX6_put 19 = .ok (.land, 1) := by decide +kernel
theorem dX6_put_20 : decode cX6_put 20 = .ok (.lconst 0, 1) := by decide +kernel
theorem dX6_put_21 : decode cX6_put 21 = .ok (.lcmp, 1) := by decide +kernel
theorem dX6_put_22 : decode cX6_put 22 = .ok (.ifCond .eq 45, 3) := by decide +kernel
theorem dX6_put_25 : decode cX6_put 25 = .ok (.iload 6, 2) := by decide +kernel
theorem dX6_put_27 : decode cX6_put 27 = .ok (.ifCond .eq 24, 3) := by decide +kernel
theorem dX6_put_30 : decode cX6_put 30 = .ok (.lload 4, 2) := by decide +kernel
theorem dX6_put_32 : decode cX6_put 32 = .ok (.ldc2_w 165, 3) := by decide +kernel
theorem dX6_put_35 : decode cX6_put 35 = .ok (.land, 1) := by decide +kernel
theorem dX6_put_36 : decode cX6_put 36 = .ok (.l2i, 1) := by decide +kernel
theorem dX6_put_37 : decode cX6_put 37 = .ok (.bipush 33, 2) := by decide +kernel
theorem dX6_put_39 : decode cX6_put 39 = .ok (.bipush 126, 2) := by decide +kernel
theorem dX6_put_41 : decode cX6_put 41 = .ok (.invokestatic 39, 3) := by decide +kernel
theorem dX6_put_44 : decode cX6_put 44 = .ok (.ifCond .eq 7, 3) := by decide +kernel
theorem dX6_put_47 : decode cX6_put 47 = .ok (.iconst 1, 1) := by decide +kernel
theorem dX6_put_48 : decode cX6_put 48 = .ok (.goto 4, 3) := by decide +kernel
theorem dX6_put_51 : decode cX6_put 51 = .ok (.iconst 0, 1) := by decide +kernel
theorem dX6_put_52 : decode cX6_put 52 = .ok (.istore 6, 2) := by decide +kernel
theorem dX6_put_54 : decode cX6_put 54 = .ok (.lload 4, 2) := by decide +kernel
theorem dX6_put_56 : decode cX6_put 56 = .ok (.bipush 8, 2) := by decide +kernel
theorem dX6_put_58 : decode cX6_put 58 = .ok (.lushr, 1) := by decide +kernel
theorem dX6_put_59 : decode cX6_put 59 = .ok (.lstore 4, 2) := by decide +kernel
theorem dX6_put_61 : decode cX6_put 61 = .ok (.iinc 3 1, 3) := by decide +kernel
theorem dX6_put_64 : decode cX6_put 64 = .ok (.goto (-56), 3) := by decide +kernel
theorem dX6_put_67 : decode cX6_put 67 = .ok (.iload_n 3, 1) := by decide +kernel
theorem dX6_put_68 : decode cX6_put 68 = .ok (.ifCond .eq 15, 3) := by decide +kernel
theorem dX6_put_71 : decode cX6_put 71 = .ok (.iload 6, 2) := by decide +kernel
theorem dX6_put_73 : decode cX6_put 73 = .ok (.ifCond .eq 10, 3) := by decide +kernel
theorem dX6_put_76 : decode cX6_put 76 = .ok (.lload 4, 2) := by decide +kernel
theorem dX6_put_78 : decode cX6_put 78 = .ok (.lconst 0, 1) := by decide +kernel
theorem dX6_put_79 : decode cX6_put 79 = .ok (.lcmp, 1) := by decide +kernel
theorem dX6_put_80 : decode cX6_put 80 = .ok (.ifCond .eq 6, 3) := by decide +kernel
theorem dX6_put_83 : decode cX6_put 83 = .ok (.bipush (-2), 2) := by decide +kernel
theorem dX6_put_85 : decode cX6_put 85 = .ok (.ireturn, 1) := by decide +kernel
theorem dX6_put_86 : decode cX6_put 86 = .ok (.aload_n 0, 1) := by decide +kernel
theorem dX6_put_87 : decode cX6_put 87 = .ok (.getfield 162, 3) := by decide +kernel
theorem dX6_put_90 : decode cX6_put 90 = .ok (.iload_n 3, 1) := by decide +kernel
theorem dX6_put_91 : decode cX6_put 91 = .ok (.iadd, 1) := by decide +kernel
theorem dX6_put_92 : decode cX6_put 92 = .ok (.bipush 80, 2) := by decide +kernel
theorem dX6_put_94 : decode cX6_put 94 = .ok (.if_icmp .le 6, 3) := by decide +kernel
theorem dX6_put_97 : decode cX6_put 97 = .ok (.bipush (-4), 2) := by decide +kernel
theorem dX6_put_99 : decode cX6_put 99 = .ok (.ireturn, 1) := by decide +kernel
theorem dX6_put_100 : decode cX6_put 100 = .ok (.iload_n 3, 1) := by decide +kernel
theorem dX6_put_101 : decode cX6_put 101 = .ok (.iconst 1, 1) := by decide +kernel
theorem dX6_put_102 : decode cX6_put 102 = .ok (.isub, 1) := by decide +kernel
theorem dX6_put_103 : decode cX6_put 103 = .ok (.istore 7, 2) := by decide +kernel
theorem dX6_put_105 : decode cX6_put 105 = .ok (.iload 7, 2) := by decide +kernel
theorem dX6_put_107 : decode cX6_put 107 = .ok (.ifCond .lt 40, 3) := by decide +kernel
theorem dX6_put_110 : decode cX6_put 110 = .ok (.aload_n 0, 1) := by decide +kernel
theorem dX6_put_111 : decode cX6_put 111 = .ok (.getfield 25, 3) := by decide +kernel
theorem dX6_put_114 : decode cX6_put 114 = .ok (.aload_n 0, 1) := by decide +kernel
theorem dX6_put_115 : decode cX6_put 115 = .ok (.getfield 162, 3) := by decide +kernel
theorem dX6_put_118 : decode cX6_put 118 = .ok (.lload_n 1, 1) := by decide +kernel
theorem dX6_put_119 : decode cX6_put 119 = .ok (.bipush 8, 2) := by decide +kernel
theorem dX6_put_121 : decode cX6_put 121 = .ok (.iload 7, 2) := by decide +kernel
theorem dX6_put_123 : decode cX6_put 123 = .ok (.imul, 1) := by decide +kernel
theorem dX6_put_124 : decode cX6_put 124 = .ok (.lushr, 1) := by decide +kernel
theorem dX6_put_125 : decode cX6_put 125 = .ok (.ldc2_w 165, 3) := by decide +kernel
theorem dX6_put_128 : decode cX6_put 128 = .ok (.land, 1) := by decide +kernel
theorem dX6_put_129 : decode cX6_put 129 = .ok (.l2i, 1) := by decide +kernel
theorem dX6_put_130 : decode cX6_put 130 = .ok (.iastore, 1) := by decide +kernel
theorem dX6_put_131 : decode cX6_put 131 = .ok (.aload_n 0, 1) := by decide +kernel
theorem dX6_put_132 : decode cX6_put 132 = .ok (.dup, 1) := by decide +kernel
theorem dX6_put_133 : decode cX6_put 133 = .ok (.getfield 162, 3) := by decide +kernel
theorem dX6_put_136 : decode cX6_put 136 = .ok (.iconst 1, 1) := by decide +kernel
theorem dX6_put_137 : decode cX6_put 137 = .ok (.iadd, 1) := by decide +kernel
theorem dX6_put_138 : decode cX6_put 138 = .ok (.putfield 162, 3) := by decide +kernel
theorem dX6_put_141 : decode cX6_put 141 = .ok (.iinc 7 (-1), 3) := by decide +kernel
theorem dX6_put_144 : decode cX6_put 144 = .ok (.goto (-39), 3) := by decide +kernel
theorem dX6_put_147 : decode cX6_put 147 = .ok (.aload_n 0, 1) := by decide +kernel
theorem dX6_put_148 : decode cX6_put 148 = .ok (.getfield 162, 3) := by decide +kernel
theorem dX6_put_151 : decode cX6_put 151 = .ok (.ireturn, 1) := by decide +kernel
theorem dX6_wipe_0 : decode cX6_wipe 0 = .ok (.aload_n 0, 1) := by decide +kernel
theorem dX6_wipe_1 : decode cX6_wipe 1 = .ok (.getfield 162, 3) := by decide +kernel
theorem dX6_wipe_4 : decode cX6_wipe 4 = .ok (.istore_n 1, 1) := by decide +kernel
theorem dX6_wipe_5 : decode cX6_wipe 5 = .ok (.aload_n 0, 1) := by decide +kernel
theorem dX6_wipe_6 : decode cX6_wipe 6 = .ok (.iconst 0, 1) := by decide +kernel
theorem dX6_wipe_7 : decode cX6_wipe 7 = .ok (.putfield 162, 3) := by decide +kernel
theorem dX6_wipe_10 : decode cX6_wipe 10 = .ok (.iload_n 1, 1) := by decide +kernel
theorem dX6_wipe_11 : decode cX6_wipe 11 = .ok (.ireturn, 1) := by decide +kernel
theorem dX6_character_0 : decode cX6_character 0 = .ok (.iload_n 1, 1) := by decide +kernel
theorem dX6_character_1 : decode cX6_character 1 = .ok (.aload_n 0, 1) := by decide +kernel
theorem dX6_character_2 : decode cX6_character 2 = .ok (.getfield 162, 3) := by decide +kernel
theorem dX6_character_5 : decode cX6_character 5 = .ok (.if_icmp .ge 12, 3) := by decide +kernel
theorem dX6_character_8 : decode cX6_character 8 = .ok (.aload_n 0, 1) := by decide +kernel
theorem dX6_character_9 : decode cX6_character 9 = .ok (.getfield 25, 3) := by decide +kernel
theorem dX6_character_12 : decode cX6_character 12 = .ok (.iload_n 1, 1) := by decide +kernel
theorem dX6_character_13 : decode cX6_character 13 = .ok (.iaload, 1) := by decide +kernel
theorem dX6_character_14 : decode cX6_character 14 = .ok (.goto 4, 3) := by decide +kernel
theorem dX6_character_17 : decode cX6_character 17 = .ok (.iconst (-1), 1) := by decide +kernel
theorem dX6_character_18 : decode cX6_character 18 = .ok (.ireturn, 1) := by decide +kernel
theorem dX6_isNext_0 : decode cX6_isNext 0 = .ok (.aload_n 0, 1) := by decide +kernel
theorem dX6_isNext_1 : decode cX6_isNext 1 = .ok (.aload_n 0, 1) := by decide +kernel
theorem dX6_isNext_2 : decode cX6_isNext 2 = .ok (.getfield 167, 3) := by decide +kernel
theorem dX6_isNext_5 : decode cX6_isNext 5 = .ok (.invokevirtual 170, 3) := by decide +kernel
theorem dX6_isNext_8 : decode cX6_isNext 8 = .ok (.iload_n 1, 1) := by decide +kernel
theorem dX6_isNext_9 : decode cX6_isNext 9 = .ok (.if_icmp .ne 7, 3) := by decide +kernel
theorem dX6_isNext_12 : decode cX6_isNext 12 = .ok (.iconst 1, 1) := by decide +kernel
theorem dX6_isNext_13 : decode cX6_isNext 13 = .ok (.goto 4, 3) := by decide +kernel
theorem dX6_isNext_16 : decode cX6_isNext 16 = .ok (.iconst 0, 1) := by decide +kernel
theorem dX6_isNext_17 : decode cX6_isNext 17 = .ok (.istore_n 2, 1) := by decide +kernel
theorem dX6_isNext_18 : decode cX6_isNext 18 = .ok (.aload_n 0, 1) := by decide +kernel
theorem dX6_isNext_19 : decode cX6_isNext 19 = .ok (.dup, 1) := by decide +kernel
theorem dX6_isNext_20 : decode cX6_isNext 20 = .ok (.getfield 167, 3) := by decide +kernel
theorem dX6_isNext_23 : decode cX6_isNext 23 = .ok (.iload_n 2, 1) := by decide +kernel
theorem dX6_isNext_24 : decode cX6_isNext 24 = .ok (.ifCond .eq 7, 3) := by decide +kernel
theorem dX6_isNext_27 : decode cX6_isNext 27 = .ok (.iconst 1, 1) := by decide +kernel
theorem dX6_isNext_28 : decode cX6_isNext 28 = .ok (.goto 4, 3) := by decide +kernel
theorem dX6_isNext_31 : decode cX6_isNext 31 = .ok (.iconst 0, 1) := by decide +kernel
theorem dX6_isNext_32 : decode cX6_isNext 32 = .ok (.iadd, 1) := by decide +kernel
theorem dX6_isNext_33 : decode cX6_isNext 33 = .ok (.putfield 167, 3) := by decide +kernel
theorem dX6_isNext_36 : decode cX6_isNext 36 = .ok (.iload_n 2, 1) := by decide +kernel
theorem dX6_isNext_37 : decode cX6_isNext 37 = .ok (.ireturn, 1) := by decide +kernel
theorem dX6_isDigit_0 : decode cX6_isDigit 0 = .ok (.aload_n 0, 1) := by decide +kernel
theorem dX6_isDigit_1 : decode cX6_isDigit 1 = .ok (.aload_n 0, 1) := by decide +kernel
theorem dX6_isDigit_2 : decode cX6_isDigit 2 = .ok (.getfield 167, 3) := by decide +kernel
theorem dX6_isDigit_5 : decode cX6_isDigit 5 = .ok (.invokevirtual 170, 3) := by decide +kernel
theorem dX6_isDigit_8 : decode cX6_isDigit 8 = .ok (.bipush 48, 2) := by decide +kernel
theorem dX6_isDigit_10 : decode cX6_isDigit 10 = .ok (.bipush 57, 2) := by decide +kernel
theorem dX6_isDigit_12 : decode cX6_isDigit 12 = .ok (.invokestatic 39, 3) := by decide +kernel
theorem dX6_isDigit_15 : decode cX6_isDigit 15 = .ok (.ireturn, 1) := by decide +kernel
theorem dX6_takesNumber_0 : decode cX6_takesNumber 0 = .ok (.aload_n 0, 1) := by decide +kernel
theorem dX6_takesNumber_1 : decode cX6_takesNumber 1 = .ok (.invokevirtual 173, 3) := by decide +kernel
theorem dX6_takesNumber_4 : decode cX6_takesNumber 4 = .ok (.ifCond .ne 5, 3) := by decide +kernel
theorem dX6_takesNumber_7 : decode cX6_takesNumber 7 = .ok (.iconst 0, 1) := by decide +kernel
theorem dX6_takesNumber_8 : decode cX6_takesNumber 8 = .ok (.ireturn, 1) := by decide +kernel
theorem dX6_takesNumber_9 : decode cX6_takesNumber 9 = .ok (.aload_n 0, 1) := by decide +kernel
theorem dX6_takesNumber_10 : decode cX6_takesNumber 10 = .ok (.aload_n 0, 1) := by decide +kernel
theorem dX6_takesNumber_11 : decode cX6_takesNumber 11 = .ok (.getfield 167, 3) := by decide +kernel
theorem dX6_takesNumber_14 : decode cX6_takesNumber 14 = .ok (.invokevirtual 170, 3) := by decide +kernel
theorem dX6_takesNumber_17 : decode cX6_takesNumber 17 = .ok (.bipush 48, 2) := by decide +kernel
theorem dX6_takesNumber_19 : decode cX6_takesNumber 19 = .ok (.isub, 1) := by decide +kernel
theorem dX6_takesNumber_20 : decode cX6_takesNumber 20 = .ok (.istore_n 2, 1) := by decide +kernel
theorem dX6_takesNumber_21 : decode cX6_takesNumber 21 = .ok (.aload_n 0, 1) := by decide +kernel
theorem dX6_takesNumber_22 : decode cX6_takesNumber 22 = .ok (.dup, 1) := by decide +kernel
theorem dX6_takesNumber_23 : decode cX6_takesNumber 23 = .ok (.getfield 167, 3) := by decide +kernel
theorem dX6_takesNumber_26 : decode cX6_takesNumber 26 = .ok (.iconst 1, 1) := by decide +kernel
theorem dX6_takesNumber_27 : decode cX6_takesNumber 27 = .ok (.iadd, 1) := by decide +kernel
theorem dX6_takesNumber_28 : decode cX6_takesNumber 28 = .ok (.putfield 167, 3) := by decide +kernel
theorem dX6_takesNumber_31 : decode cX6_takesNumber 31 = .ok (.iload_n 2, 1) := by decide +kernel
theorem dX6_takesNumber_32 : decode cX6_takesNumber 32 = .ok (.ifCond .le 46, 3) := by decide +kernel
theorem dX6_takesNumber_35 : decode cX6_takesNumber 35 = .ok (.iload_n 2, 1) := by decide +kernel
theorem dX6_takesNumber_36 : decode cX6_takesNumber 36 = .ok (.bipush 100, 2) := by decide +kernel
theorem dX6_takesNumber_38 : decode cX6_takesNumber 38 = .ok (.if_icmp .ge 40, 3) := by decide +kernel
theorem dX6_takesNumber_41 : decode cX6_takesNumber 41 = .ok (.aload_n 0, 1) := by decide +kernel
theorem dX6_takesNumber_42 : decode cX6_takesNumber 42 = .ok (.invokevirtual 173, 3) := by decide +kernel
theorem dX6_takesNumber_45 : decode cX6_takesNumber 45 = .ok (.ifCond .eq 33, 3) := by decide +kernel
theorem dX6_takesNumber_48 : decode cX6_takesNumber 48 = .ok (.bipush 10, 2) := by decide +kernel
theorem dX6_takesNumber_50 : decode cX6_takesNumber 50 = .ok (.iload_n 2, 1) := by decide +kernel
theorem dX6_takesNumber_51 : decode cX6_takesNumber 51 = .ok (.imul, 1) := by decide +kernel
theorem dX6_takesNumber_52 : decode cX6_takesNumber 52 = .ok (.aload_n 0, 1) := by decide +kernel
theorem dX6_takesNumber_53 : decode cX6_takesNumber 53 = .ok (.aload_n 0, 1) := by decide +kernel
theorem dX6_takesNumber_54 : decode cX6_takesNumber 54 = .ok (.getfield 167, 3) := by decide +kernel
theorem dX6_takesNumber_57 : decode cX6_takesNumber 57 = .ok (.invokevirtual 170, 3) := by decide +kernel
theorem dX6_takesNumber_60 : decode cX6_takesNumber 60 = .ok (.iadd, 1) := by decide +kernel
theorem dX6_takesNumber_61 : decode cX6_takesNumber 61 = .ok (.bipush 48, 2) := by decide +kernel
theorem dX6_takesNumber_63 : decode cX6_takesNumber 63 = .ok (.isub, 1) := by decide +kernel
theorem dX6_takesNumber_64 : decode cX6_takesNumber 64 = .ok (.istore_n 2, 1) := by decide +kernel
theorem dX6_takesNumber_65 : decode cX6_takesNumber 65 = .ok (.aload_n 0, 1) := by decide +kernel
theorem dX6_takesNumber_66 : decode cX6_takesNumber 66 = .ok (.dup, 1) := by decide +kernel
theorem dX6_takesNumber_67 : decode cX6_takesNumber 67 = .ok (.getfield 167, 3) := by decide +kernel
theorem dX6_takesNumber_70 : decode cX6_takesNumber 70 = .ok (.iconst 1, 1) := by decide +kernel
theorem dX6_takesNumber_71 : decode cX6_takesNumber 71 = .ok (.iadd, 1) := by decide +kernel
theorem dX6_takesNumber_72 : decode cX6_takesNumber 72 = .ok (.putfield 167, 3) := by decide +kernel
theorem dX6_takesNumber_75 : decode cX6_takesNumber 75 = .ok (.goto (-44), 3) := by decide +kernel
theorem dX6_takesNumber_78 : decode cX6_takesNumber 78 = .ok (.aload_n 0, 1) := by decide +kernel
theorem dX6_takesNumber_79 : decode cX6_takesNumber 79 = .ok (.getfield 28, 3) := by decide +kernel
theorem dX6_takesNumber_82 : decode cX6_takesNumber 82 = .ok (.aload_n 0, 1) := by decide +kernel
theorem dX6_takesNumber_83 : decode cX6_takesNumber 83 = .ok (.getfield 177, 3) := by decide +kernel
theorem dX6_takesNumber_86 : decode cX6_takesNumber 86 = .ok (.iload_n 1, 1) := by decide +kernel
theorem dX6_takesNumber_87 : decode cX6_takesNumber 87 = .ok (.iload_n 2, 1) := by decide +kernel
theorem dX6_takesNumber_88 : decode cX6_takesNumber 88 = .ok (.imul, 1) := by decide +kernel
theorem dX6_takesNumber_89 : decode cX6_takesNumber 89 = .ok (.iastore, 1) := by decide +kernel
theorem dX6_takesNumber_90 : decode cX6_takesNumber 90 = .ok (.aload_n 0, 1) := by decide +kernel
theorem dX6_takesNumber_91 : decode cX6_takesNumber 91 = .ok (.dup, 1) := by decide +kernel
theorem dX6_takesNumber_92 : decode cX6_takesNumber 92 = .ok (.getfield 177, 3) := by decide +kernel
theorem dX6_takesNumber_95 : decode cX6_takesNumber 95 = .ok (.iconst 1, 1) := by decide +kernel
theorem dX6_takesNumber_96 : decode cX6_takesNumber 96 = .ok (.iadd, 1) := by decide +kernel
theorem dX6_takesNumber_97 : decode cX6_takesNumber 97 = .ok (.putfield 177, 3) := by decide +kernel
theorem dX6_takesNumber_100 : decode cX6_takesNumber 100 = .ok (.iconst 1, 1) := by decide +kernel
theorem dX6_takesNumber_101 : decode cX6_takesNumber 101 = .ok (.ireturn, 1) := by decide +kernel
theorem dX6_takesValue_0 : decode cX6_takesValue 0 = .ok (.aload_n 0, 1) := by decide +kernel
theorem dX6_takesValue_1 : decode cX6_takesValue 1 = .ok (.aload_n 0, 1) := by decide +kernel
theorem dX6_takesValue_2 : decode cX6_takesValue 2 = .ok (.bipush 45, 2) := by decide +kernel
theorem dX6_takesValue_4 : decode cX6_takesValue 4 = .ok (.invokevirtual 180, 3) := by decide +kernel
theorem dX6_takesValue_7 : decode cX6_takesValue 7 = .ok (.ifCond .eq 7, 3) := by decide +kernel
theorem dX6_takesValue_10 : decode cX6_takesValue 10 = .ok (.iconst (-1), 1) := by decide +kernel
theorem dX6_takesValue_11 : decode cX6_takesValue 11 = .ok (.goto 4, 3) := by decide +kernel
theorem dX6_takesValue_14 : decode cX6_takesValue 14 = .ok (.iconst 1, 1) := by decide +kernel
theorem dX6_takesValue_15 : decode cX6_takesValue 15 = .ok (.invokevirtual 183, 3) := by decide +kernel
theorem dX6_takesValue_18 : decode cX6_takesValue 18 = .ok (.ireturn, 1) := by decide +kernel
theorem dX6_takesSort_0 : decode cX6_takesSort 0 = .ok (.aload_n 0, 1) := by decide +kernel
theorem dX6_takesSort_1 : decode cX6_takesSort 1 = .ok (.aload_n 0, 1) := by decide +kernel
theorem dX6_takesSort_2 : decode cX6_takesSort 2 = .ok (.getfield 167, 3) := by decide +kernel
theorem dX6_takesSort_5 : decode cX6_takesSort 5 = .ok (.invokevirtual 170, 3) := by decide +kernel
theorem dX6_takesSort_8 : decode cX6_takesSort 8 = .ok (.istore_n 1, 1) := by decide +kernel
theorem dX6_takesSort_9 : decode cX6_takesSort 9 = .ok (.aload_n 0, 1) := by decide +kernel
theorem dX6_takesSort_10 : decode cX6_takesSort 10 = .ok (.iload_n 1, 1) := by decide +kernel
theorem dX6_takesSort_11 : decode cX6_takesSort 11 = .ok (.bipush 102, 2) := by decide +kernel
theorem dX6_takesSort_13 : decode cX6_takesSort 13 = .ok (.if_icmp .ne 7, 3) := by decide +kernel
theorem dX6_takesSort_16 : decode cX6_takesSort 16 = .ok (.iconst 0, 1) := by decide +kernel
theorem dX6_takesSort_17 : decode cX6_takesSort 17 = .ok (.goto 35, 3) := by decide +kernel
theorem dX6_takesSort_20 : decode cX6_takesSort 20 = .ok (.iload_n 1, 1) := by decide +kernel
theorem dX6_takesSort_21 : decode cX6_takesSort 21 = .ok (.bipush 115, 2) := by decide +kernel
theorem dX6_takesSort_23 : decode cX6_takesSort 23 = .ok (.if_icmp .ne 7, 3) := by decide +kernel
theorem dX6_takesSort_26 : decode cX6_takesSort 26 = .ok (.iconst 1, 1) := by decide +kernel
theorem dX6_takesSort_27 : decode cX6_takesSort 27 = .ok (.goto 25, 3) := by decide +kernel
theorem dX6_takesSort_30 : decode cX6_takesSort 30 = .ok (.iload_n 1, 1) := by decide +kernel
theorem dX6_takesSort_31 : decode cX6_takesSort 31 = .ok (.bipush 98, 2) := by decide +kernel
theorem dX6_takesSort_33 : decode cX6_takesSort 33 = .ok (.if_icmp .ne 7, 3) := by decide +kernel
theorem dX6_takesSort_36 : decode cX6_takesSort 36 = .ok (.iconst 2, 1) := by decide +kernel
theorem dX6_takesSort_37 : decode cX6_takesSort 37 = .ok (.goto 15, 3) := by decide +kernel
theorem dX6_takesSort_40 : decode cX6_takesSort 40 = .ok (.iload_n 1, 1) := by decide +kernel
theorem dX6_takesSort_41 : decode cX6_takesSort 41 = .ok (.bipush 116, 2) := by decide +kernel
theorem dX6_takesSort_43 : decode cX6_takesSort 43 = .ok (.if_icmp .ne 7, 3) := by decide +kernel
theorem dX6_takesSort_46 : decode cX6_takesSort 46 = .ok (.iconst 3, 1) := by decide +kernel
theorem dX6_takesSort_47 : decode cX6_takesSort 47 = .ok (.goto 5, 3) := by decide +kernel
theorem dX6_takesSort_50 : decode cX6_takesSort 50 = .ok (.bipush (-6), 2) := by decide +kernel
theorem dX6_takesSort_52 : decode cX6_takesSort 52 = .ok (.putfield 186, 3) := by decide +kernel
theorem dX6_takesSort_55 : decode cX6_takesSort 55 = .ok (.aload_n 0, 1) := by decide +kernel
theorem dX6_takesSort_56 : decode cX6_takesSort 56 = .ok (.dup, 1) := by decide +kernel
theorem dX6_takesSort_57 : decode cX6_takesSort 57 = .ok (.getfield 167, 3) := by decide +kernel
theorem dX6_takesSort_60 : decode cX6_takesSort 60 = .ok (.aload_n 0, 1) := by decide +kernel
theorem dX6_takesSort_61 : decode cX6_takesSort 61 = .ok (.getfield 186, 3) := by decide +kernel
theorem dX6_takesSort_64 : decode cX6_takesSort 64 = .ok (.bipush (-6), 2) := by decide +kernel
theorem dX6_takesSort_66 : decode cX6_takesSort 66 = .ok (.if_icmp .ne 7, 3) := by decide +kernel
theorem dX6_takesSort_69 : decode cX6_takesSort 69 = .ok (.iconst 0, 1) := by decide +kernel
theorem dX6_takesSort_70 : decode cX6_takesSort 70 = .ok (.goto 4, 3) := by decide +kernel
theorem dX6_takesSort_73 : decode cX6_takesSort 73 = .ok (.iconst 1, 1) := by decide +kernel
theorem dX6_takesSort_74 : decode cX6_takesSort 74 = .ok (.iadd, 1) := by decide +kernel
theorem dX6_takesSort_75 : decode cX6_takesSort 75 = .ok (.putfield 167, 3) := by decide +kernel
theorem dX6_takesSort_78 : decode cX6_takesSort 78 = .ok (.aload_n 0, 1) := by decide +kernel
theorem dX6_takesSort_79 : decode cX6_takesSort 79 = .ok (.getfield 186, 3) := by decide +kernel
theorem dX6_takesSort_82 : decode cX6_takesSort 82 = .ok (.bipush (-6), 2) := by decide +kernel
theorem dX6_takesSort_84 : decode cX6_takesSort 84 = .ok (.if_icmp .eq 7, 3) := by decide +kernel
theorem dX6_takesSort_87 : decode cX6_takesSort 87 = .ok (.iconst 1, 1) := by decide +kernel
theorem dX6_takesSort_88 : decode cX6_takesSort 88 = .ok (.goto 4, 3) := by decide +kernel
theorem dX6_takesSort_91 : decode cX6_takesSort 91 = .ok (.iconst 0, 1) := by decide +kernel
theorem dX6_takesSort_92 : decode cX6_takesSort 92 = .ok (.ireturn, 1) := by decide +kernel
theorem dX6_takesRecipe_0 : decode cX6_takesRecipe 0 = .ok (.aload_n 0, 1) := by decide +kernel
theorem dX6_takesRecipe_1 : decode cX6_takesRecipe 1 = .ok (.iconst 1, 1) := by decide +kernel
theorem dX6_takesRecipe_2 : decode cX6_takesRecipe 2 = .ok (.invokevirtual 183, 3) := by decide +kernel
theorem dX6_takesRecipe_5 : decode cX6_takesRecipe 5 = .ok (.ifCond .eq 38, 3) := by decide +kernel
theorem dX6_takesRecipe_8 : decode cX6_takesRecipe 8 = .ok (.aload_n 0, 1) := by decide +kernel
theorem dX6_takesRecipe_9 : decode cX6_takesRecipe 9 = .ok (.invokevirtual 189, 3) := by decide +kernel
theorem dX6_takesRecipe_12 : decode cX6_takesRecipe 12 = .ok (.ifCond .eq 31, 3) := by decide +kernel
theorem dX6_takesRecipe_15 : decode cX6_takesRecipe 15 = .ok (.aload_n 0, 1) := by decide +kernel
theorem dX6_takesRecipe_16 : decode cX6_takesRecipe 16 = .ok (.invokevirtual 192, 3) := by decide +kernel
theorem dX6_takesRecipe_19 : decode cX6_takesRecipe 19 = .ok (.ifCond .eq 24, 3) := by decide +kernel
theorem dX6_takesRecipe_22 : decode cX6_takesRecipe 22 = .ok (.aload_n 0, 1) := by decide +kernel
theorem dX6_takesRecipe_23 : decode cX6_takesRecipe 23 = .ok (.bipush 47, 2) := by decide +kernel
theorem dX6_takesRecipe_25 : decode cX6_takesRecipe 25 = .ok (.invokevirtual 180, 3) := by decide +kernel
theorem dX6_takesRecipe_28 : decode cX6_takesRecipe 28 = .ok (.ifCond .eq 15, 3) := by decide +kernel
theorem dX6_takesRecipe_31 : decode cX6_takesRecipe 31 = .ok (.aload_n 0, 1) := by decide +kernel
theorem dX6_takesRecipe_32 : decode cX6_takesRecipe 32 = .ok (.iconst 1, 1) := by decide +kernel
theorem dX6_takesRecipe_33 : decode cX6_takesRecipe 33 = .ok (.invokevirtual 183, 3) := by decide +kernel
theorem dX6_takesRecipe_36 : decode cX6_takesRecipe 36 = .ok (.ifCond .eq 7, 3) := by decide +kernel
theorem dX6_takesRecipe_39 : decode cX6_takesRecipe 39 = .ok (.iconst 1, 1) := by decide +kernel
theorem dX6_takesRecipe_40 : decode cX6_takesRecipe 40 = .ok (.goto 4, 3) := by decide +kernel
theorem dX6_takesRecipe_43 : decode cX6_takesRecipe 43 = .ok (.iconst 0, 1) := by decide +kernel
theorem dX6_takesRecipe_44 : decode cX6_takesRecipe 44 = .ok (.istore_n 1, 1) := by decide +kernel
theorem dX6_takesRecipe_45 : decode cX6_takesRecipe 45 = .ok (.aload_n 0, 1) := by decide +kernel
theorem dX6_takesRecipe_46 : decode cX6_takesRecipe 46 = .ok (.getfield 28, 3) := by decide +kernel
theorem dX6_takesRecipe_49 : decode cX6_takesRecipe 49 = .ok (.iconst 3, 1) := by decide +kernel
theorem dX6_takesRecipe_50 : decode cX6_takesRecipe 50 = .ok (.iconst 0, 1) := by decide +kernel
theorem dX6_takesRecipe_51 : decode cX6_takesRecipe 51 = .ok (.iastore, 1) := by decide +kernel
theorem dX6_takesRecipe_52 : decode cX6_takesRecipe 52 = .ok (.iload_n 1, 1) := by decide +kernel
theorem dX6_takesRecipe_53 : decode cX6_takesRecipe 53 = .ok (.ifCond .eq 24, 3) := by decide +kernel
theorem dX6_takesRecipe_56 : decode cX6_takesRecipe 56 = .ok (.aload_n 0, 1) := by decide +kernel
theorem dX6_takesRecipe_57 : decode cX6_takesRecipe 57 = .ok (.bipush 43, 2) := by decide +kernel
theorem dX6_takesRecipe_59 : decode cX6_takesRecipe 59 = .ok (.invokevirtual 180, 3) := by decide +kernel
theorem dX6_takesRecipe_62 : decode cX6_takesRecipe 62 = .ok (.ifCond .eq 11, 3) := by decide +kernel
theorem dX6_takesRecipe_65 : decode cX6_takesRecipe 65 = .ok (.aload_n 0, 1) := by decide +kernel
theorem dX6_takesRecipe_66 : decode cX6_takesRecipe 66 = .ok (.iconst 1, 1) := by decide +kernel
theorem dX6_takesRecipe_67 : decode cX6_takesRecipe 67 = .ok (.invokevirtual 183, 3) := by decide +kernel
theorem dX6_takesRecipe_70 : decode cX6_takesRecipe 70 = .ok (.ifCond .eq 7, 3) := by decide +kernel
theorem dX6_takesRecipe_73 : decode cX6_takesRecipe 73 = .ok (.iconst 1, 1) := by decide +kernel
theorem dX6_takesRecipe_74 : decode cX6_takesRecipe 74 = .ok (.goto 4, 3) := by decide +kernel
theorem dX6_takesRecipe_77 : decode cX6_takesRecipe 77 = .ok (.iconst 0, 1) := by decide +kernel
theorem dX6_takesRecipe_78 : decode cX6_takesRecipe 78 = .ok (.ireturn, 1) := by decide +kernel
theorem dX6_readsOrder_0 : decode cX6_readsOrder 0 = .ok (.aload_n 0, 1) := by decide +kernel
theorem dX6_readsOrder_1 : decode cX6_readsOrder 1 = .ok (.iconst 0, 1) := by decide +kernel
theorem dX6_readsOrder_2 : decode cX6_readsOrder 2 = .ok (.putfield 177, 3) := by decide +kernel
theorem dX6_readsOrder_5 : decode cX6_readsOrder 5 = .ok (.aload_n 0, 1) := by decide +kernel
theorem dX6_readsOrder_6 : decode cX6_readsOrder 6 = .ok (.aload_n 0, 1) := by decide +kernel
theorem dX6_readsOrder_7 : decode cX6_readsOrder 7 = .ok (.aload_n 0, 1) := by decide +kernel
theorem dX6_readsOrder_8 : decode cX6_readsOrder 8 = .ok (.getfield 167, 3) := by decide +kernel
theorem dX6_readsOrder_11 : decode cX6_readsOrder 11 = .ok (.invokevirtual 170, 3) := by decide +kernel
theorem dX6_readsOrder_14 : decode cX6_readsOrder 14 = .ok (.putfield 195, 3) := by decide +kernel
theorem dX6_readsOrder_17 : decode cX6_readsOrder 17 = .ok (.aload_n 0, 1) := by decide +kernel
theorem dX6_readsOrder_18 : decode cX6_readsOrder 18 = .ok (.dup, 1) := by decide +kernel
theorem dX6_readsOrder_19 : decode cX6_readsOrder 19 = .ok (.getfield 167, 3) := by decide +kernel
theorem dX6_readsOrder_22 : decode cX6_readsOrder 22 = .ok (.iconst 1, 1) := by decide +kernel
theorem dX6_readsOrder_23 : decode cX6_readsOrder 23 = .ok (.iadd, 1) := by decide +kernel
theorem dX6_readsOrder_24 : decode cX6_readsOrder 24 = .ok (.putfield 167, 3) := by decide +kernel
theorem dX6_readsOrder_27 : decode cX6_readsOrder 27 = .ok (.aload_n 0, 1) := by decide +kernel
theorem dX6_readsOrder_28 : decode cX6_readsOrder 28 = .ok (.getfield 195, 3) := by decide +kernel
theorem dX6_readsOrder_31 : decode cX6_readsOrder 31 = .ok (.lookupswitch 90 #[(103, 54), (108, 60), (112, 49), (116, 54), (120, 54)], 49) := by decide +kernel
theorem dX6_readsOrder_80 : decode cX6_readsOrder 80 = .ok (.aload_n 0, 1) := by decide +kernel
theorem dX6_readsOrder_81 : decode cX6_readsOrder 81 = .ok (.invokevirtual 198, 3) := by decide +kernel
theorem dX6_readsOrder_84 : decode cX6_readsOrder 84 = .ok (.ireturn, 1) := by decide +kernel
theorem dX6_readsOrder_85 : decode cX6_readsOrder 85 = .ok (.aload_n 0, 1) := by decide +kernel
theorem dX6_readsOrder_86 : decode cX6_readsOrder 86 = .ok (.iconst 1, 1) := by decide +kernel
theorem dX6_readsOrder_87 : decode cX6_readsOrder 87 = .ok (.invokevirtual 183, 3) := by decide +kernel
theorem dX6_readsOrder_90 : decode cX6_readsOrder 90 = .ok (.ireturn, 1) := by decide +kernel
theorem dX6_readsOrder_91 : decode cX6_readsOrder 91 = .ok (.aload_n 0, 1) := by decide +kernel
theorem dX6_readsOrder_92 : decode cX6_readsOrder 92 = .ok (.iconst 1, 1) := by decide +kernel
theorem dX6_readsOrder_93 : decode cX6_readsOrder 93 = .ok (.invokevirtual 183, 3) := by decide +kernel
theorem dX6_readsOrder_96 : decode cX6_readsOrder 96 = .ok (.ifCond .eq 23, 3) := by decide +kernel
theorem dX6_readsOrder_99 : decode cX6_readsOrder 99 = .ok (.aload_n 0, 1) := by decide +kernel
theorem dX6_readsOrder_100 : decode cX6_readsOrder 100 = .ok (.bipush 61, 2) := by decide +kernel
theorem dX6_readsOrder_102 : decode cX6_readsOrder 102 = .ok (.invokevirtual 180, 3) := by decide +kernel
theorem dX6_readsOrder_105 : decode cX6_readsOrder 105 = .ok (.ifCond .eq 14, 3) := by decide +kernel
theorem dX6_readsOrder_108 : decode cX6_readsOrder 108 = .ok (.aload_n 0, 1) := by decide +kernel
theorem dX6_readsOrder_109 : decode cX6_readsOrder 109 = .ok (.invokevirtual 192, 3) := by decide +kernel
theorem dX6_readsOrder_112 : decode cX6_readsOrder 112 = .ok (.ifCond .eq 7, 3) := by decide +kernel
theorem dX6_readsOrder_115 : decode cX6_readsOrder 115 = .ok (.iconst 1, 1) := by decide +kernel
theorem dX6_readsOrder_116 : decode cX6_readsOrder 116 = .ok (.goto 4, 3) := by decide +kernel
theorem dX6_readsOrder_119 : decode cX6_readsOrder 119 = .ok (.iconst 0, 1) := by decide +kernel
theorem dX6_readsOrder_120 : decode cX6_readsOrder 120 = .ok (.ireturn, 1) := by decide +kernel
theorem dX6_readsOrder_121 : decode cX6_readsOrder 121 = .ok (.aload_n 0, 1) := by decide +kernel
theorem dX6_readsOrder_122 : decode cX6_readsOrder 122 = .ok (.dup, 1) := by decide +kernel
theorem dX6_readsOrder_123 : decode cX6_readsOrder 123 = .ok (.getfield 167, 3) := by decide +kernel
theorem dX6_readsOrder_126 : decode cX6_readsOrder 126 = .ok (.iconst 1, 1) := by decide +kernel
theorem dX6_readsOrder_127 : decode cX6_readsOrder 127 = .ok (.isub, 1) := by decide +kernel
theorem dX6_readsOrder_128 : decode cX6_readsOrder 128 = .ok (.putfield 167, 3) := by decide +kernel
theorem dX6_readsOrder_131 : decode cX6_readsOrder 131 = .ok (.iconst 0, 1) := by decide +kernel
theorem dX6_readsOrder_132 : decode cX6_readsOrder 132 = .ok (.ireturn, 1) := by decide +kernel
theorem dX6_findFault_0 : decode cX6_findFault 0 = .ok (.aload_n 0, 1) := by decide +kernel
theorem dX6_findFault_1 : decode cX6_findFault 1 = .ok (.iconst 0, 1) := by decide +kernel
theorem dX6_findFault_2 : decode cX6_findFault 2 = .ok (.putfield 167, 3) := by decide +kernel
theorem dX6_findFault_5 : decode cX6_findFault 5 = .ok (.aload_n 0, 1) := by decide +kernel
theorem dX6_findFault_6 : decode cX6_findFault 6 = .ok (.invokevirtual 201, 3) := by decide +kernel
theorem dX6_findFault_9 : decode cX6_findFault 9 = .ok (.ifCond .ne 8, 3) := by decide +kernel
theorem dX6_findFault_12 : decode cX6_findFault 12 = .ok (.aload_n 0, 1) := by decide +kernel
theorem dX6_findFault_13 : decode cX6_findFault 13 = .ok (.getfield 167, 3) := by decide +kernel
theorem dX6_findFault_16 : decode cX6_findFault 16 = .ok (.ireturn, 1) := by decide +kernel
theorem dX6_findFault_17 : decode cX6_findFault 17 = .ok (.aload_n 0, 1) := by decide +kernel
theorem dX6_findFault_18 : decode cX6_findFault 18 = .ok (.getfield 167, 3) := by decide +kernel
theorem dX6_findFault_21 : decode cX6_findFault 21 = .ok (.aload_n 0, 1) := by decide +kernel
theorem dX6_findFault_22 : decode cX6_findFault 22 = .ok (.getfield 162, 3) := by decide +kernel
theorem dX6_findFault_25 : decode cX6_findFault 25 = .ok (.if_icmp .ne 6, 3) := by decide +kernel
theorem dX6_findFault_28 : decode cX6_findFault 28 = .ok (.bipush (-6), 2) := by decide +kernel
theorem dX6_findFault_30 : decode cX6_findFault 30 = .ok (.ireturn, 1) := by decide +kernel
theorem dX6_findFault_31 : decode cX6_findFault 31 = .ok (.aload_n 0, 1) := by decide +kernel
theorem dX6_findFault_32 : decode cX6_findFault 32 = .ok (.bipush 59, 2) := by decide +kernel
theorem dX6_findFault_34 : decode cX6_findFault 34 = .ok (.invokevirtual 180, 3) := by decide +kernel
theorem dX6_findFault_37 : decode cX6_findFault 37 = .ok (.ifCond .ne (-32), 3) := by decide +kernel
theorem dX6_findFault_40 : decode cX6_findFault 40 = .ok (.aload_n 0, 1) := by decide +kernel
theorem dX6_findFault_41 : decode cX6_findFault 41 = .ok (.getfield 167, 3) := by decide +kernel
theorem dX6_findFault_44 : decode cX6_findFault 44 = .ok (.ireturn, 1) := by decide +kernel
theorem dX6_fault_0 : decode cX6_fault 0 = .ok (.aload_n 0, 1) := by decide +kernel
theorem dX6_fault_1 : decode cX6_fault 1 = .ok (.invokevirtual 204, 3) := by decide +kernel
theorem dX6_fault_4 : decode cX6_fault 4 = .ok (.ireturn, 1) := by decide +kernel
theorem dX6_canDo_0 : decode cX6_canDo 0 = .ok (.aload_n 0, 1) := by decide +kernel
theorem dX6_canDo_1 : decode cX6_canDo 1 = .ok (.getfield 195, 3) := by decide +kernel
theorem dX6_canDo_4 : decode cX6_canDo 4 = .ok (.lookupswitch 144 #[(103, 106), (112, 44), (116, 125), (120, 85)], 44) := by decide +kernel
theorem dX6_canDo_48 : decode cX6_canDo 48 = .ok (.aload_n 0, 1) := by decide +kernel
theorem dX6_canDo_49 : decode cX6_canDo 49 = .ok (.aload_n 0, 1) := by decide +kernel
theorem dX6_canDo_50 : decode cX6_canDo 50 = .ok (.getfield 28, 3) := by decide +kernel
theorem dX6_canDo_53 : decode cX6_canDo 53 = .ok (.iconst 0, 1) := by decide +kernel
theorem dX6_canDo_54 : decode cX6_canDo 54 = .ok (.iaload, 1) := by decide +kernel
theorem dX6_canDo_55 : decode cX6_canDo 55 = .ok (.aload_n 0, 1) := by decide +kernel
theorem dX6_canDo_56 : decode cX6_canDo 56 = .ok (.getfield 186, 3) := by decide +kernel
theorem dX6_canDo_59 : decode cX6_canDo 59 = .ok (.aload_n 0, 1) := by decide +kernel
theorem dX6_canDo_60 : decode cX6_canDo 60 = .ok (.getfield 28, 3) := by decide +kernel
theorem dX6_canDo_63 : decode cX6_canDo 63 = .ok (.iconst 1, 1) := by decide +kernel
theorem dX6_canDo_64 : decode cX6_canDo 64 = .ok (.iaload, 1) := by decide +kernel
theorem dX6_canDo_65 : decode cX6_canDo 65 = .ok (.aload_n 0, 1) := by decide +kernel
theorem dX6_canDo_66 : decode cX6_canDo 66 = .ok (.getfield 28, 3) := by decide +kernel
theorem dX6_canDo_69 : decode cX6_canDo 69 = .ok (.iconst 2, 1) := by decide +kernel
theorem dX6_canDo_70 : decode cX6_canDo 70 = .ok (.iaload, 1) := by decide +kernel
theorem dX6_canDo_71 : decode cX6_canDo 71 = .ok (.aload_n 0, 1) := by decide +kernel
theorem dX6_canDo_72 : decode cX6_canDo 72 = .ok (.getfield 28, 3) := by decide +kernel
theorem dX6_canDo_75 : decode cX6_canDo 75 = .ok (.iconst 3, 1) := by decide +kernel
theorem dX6_canDo_76 : decode cX6_canDo 76 = .ok (.iaload, 1) := by decide +kernel
theorem dX6_canDo_77 : decode cX6_canDo 77 = .ok (.invokevirtual 94, 3) := by decide +kernel
theorem dX6_canDo_80 : decode cX6_canDo 80 = .ok (.ifCond .ne 7, 3) := by decide +kernel
theorem dX6_canDo_83 : decode cX6_canDo 83 = .ok (.iconst 1, 1) := by decide +kernel
theorem dX6_canDo_84 : decode cX6_canDo 84 = .ok (.goto 4, 3) := by decide +kernel
theorem dX6_canDo_87 : decode cX6_canDo 87 = .ok (.iconst 0, 1) := by decide +kernel
theorem dX6_canDo_88 : decode cX6_canDo 88 = .ok (.ireturn, 1) := by decide +kernel
theorem dX6_canDo_89 : decode cX6_canDo 89 = .ok (.aload_n 0, 1) := by decide +kernel
theorem dX6_canDo_90 : decode cX6_canDo 90 = .ok (.aload_n 0, 1) := by decide +kernel
theorem dX6_canDo_91 : decode cX6_canDo 91 = .ok (.getfield 28, 3) := by decide +kernel
theorem dX6_canDo_94 : decode cX6_canDo 94 = .ok (.iconst 0, 1) := by decide +kernel
theorem dX6_canDo_95 : decode cX6_canDo 95 = .ok (.iaload, 1) := by decide +kernel
theorem dX6_canDo_96 : decode cX6_canDo 96 = .ok (.invokevirtual 87, 3) := by decide +kernel
theorem dX6_canDo_99 : decode cX6_canDo 99 = .ok (.bipush (-6), 2) := by decide +kernel
theorem dX6_canDo_101 : decode cX6_canDo 101 = .ok (.if_icmp .eq 7, 3) := by decide +kernel
theorem dX6_canDo_104 : decode cX6_canDo 104 = .ok (.iconst 1, 1) := by decide +kernel
theorem dX6_canDo_105 : decode cX6_canDo 105 = .ok (.goto 4, 3) := by decide +kernel
theorem dX6_canDo_108 : decode cX6_canDo 108 = .ok (.iconst 0, 1) := by decide +kernel
theorem dX6_canDo_109 : decode cX6_canDo 109 = .ok (.ireturn, 1) := by decide +kernel
theorem dX6_canDo_110 : decode cX6_canDo 110 = .ok (.aload_n 0, 1) := by decide +kernel
theorem dX6_canDo_111 : decode cX6_canDo 111 = .ok (.aload_n 0, 1) := by decide +kernel
theorem dX6_canDo_112 : decode cX6_canDo 112 = .ok (.getfield 28, 3) := by decide +kernel
theorem dX6_canDo_115 : decode cX6_canDo 115 = .ok (.iconst 0, 1) := by decide +kernel
theorem dX6_canDo_116 : decode cX6_canDo 116 = .ok (.iaload, 1) := by decide +kernel
theorem dX6_canDo_117 : decode cX6_canDo 117 = .ok (.invokevirtual 106, 3) := by decide +kernel
theorem dX6_canDo_120 : decode cX6_canDo 120 = .ok (.ifCond .ne 7, 3) := by decide +kernel
theorem dX6_canDo_123 : decode cX6_canDo 123 = .ok (.iconst 1, 1) := by decide +kernel
theorem dX6_canDo_124 : decode cX6_canDo 124 = .ok (.goto 4, 3) := by decide +kernel
theorem dX6_canDo_127 : decode cX6_canDo 127 = .ok (.iconst 0, 1) := by decide +kernel
theorem dX6_canDo_128 : decode cX6_canDo 128 = .ok (.ireturn, 1) := by decide +kernel
theorem dX6_canDo_129 : decode cX6_canDo 129 = .ok (.aload_n 0, 1) := by decide +kernel
theorem dX6_canDo_130 : decode cX6_canDo 130 = .ok (.aload_n 0, 1) := by decide +kernel
theorem dX6_canDo_131 : decode cX6_canDo 131 = .ok (.getfield 28, 3) := by decide +kernel
theorem dX6_canDo_134 : decode cX6_canDo 134 = .ok (.iconst 0, 1) := by decide +kernel
theorem dX6_canDo_135 : decode cX6_canDo 135 = .ok (.iaload, 1) := by decide +kernel
theorem dX6_canDo_136 : decode cX6_canDo 136 = .ok (.invokevirtual 113, 3) := by decide +kernel
theorem dX6_canDo_139 : decode cX6_canDo 139 = .ok (.ifCond .ne 7, 3) := by decide +kernel
theorem dX6_canDo_142 : decode cX6_canDo 142 = .ok (.iconst 1, 1) := by decide +kernel
theorem dX6_canDo_143 : decode cX6_canDo 143 = .ok (.goto 4, 3) := by decide +kernel
theorem dX6_canDo_146 : decode cX6_canDo 146 = .ok (.iconst 0, 1) := by decide +kernel
theorem dX6_canDo_147 : decode cX6_canDo 147 = .ok (.ireturn, 1) := by decide +kernel
theorem dX6_canDo_148 : decode cX6_canDo 148 = .ok (.aload_n 0, 1) := by decide +kernel
theorem dX6_canDo_149 : decode cX6_canDo 149 = .ok (.getfield 28, 3) := by decide +kernel
theorem dX6_canDo_152 : decode cX6_canDo 152 = .ok (.iconst 0, 1) := by decide +kernel
theorem dX6_canDo_153 : decode cX6_canDo 153 = .ok (.iaload, 1) := by decide +kernel
theorem dX6_canDo_154 : decode cX6_canDo 154 = .ok (.invokestatic 102, 3) := by decide +kernel
theorem dX6_canDo_157 : decode cX6_canDo 157 = .ok (.ireturn, 1) := by decide +kernel
theorem dX6_does_0 : decode cX6_does 0 = .ok (.aload_n 0, 1) := by decide +kernel
theorem dX6_does_1 : decode cX6_does 1 = .ok (.getfield 195, 3) := by decide +kernel
theorem dX6_does_4 : decode cX6_does 4 = .ok (.lookupswitch 124 #[(103, 96), (112, 44), (116, 110), (120, 79)], 44) := by decide +kernel
theorem dX6_does_48 : decode cX6_does 48 = .ok (.aload_n 0, 1) := by decide +kernel
theorem dX6_does_49 : decode cX6_does 49 = .ok (.aload_n 0, 1) := by decide +kernel
theorem dX6_does_50 : decode cX6_does 50 = .ok (.getfield 28, 3) := by decide +kernel
theorem dX6_does_53 : decode cX6_does 53 = .ok (.iconst 0, 1) := by decide +kernel
theorem dX6_does_54 : decode cX6_does 54 = .ok (.iaload, 1) := by decide +kernel
theorem dX6_does_55 : decode cX6_does 55 = .ok (.aload_n 0, 1) := by decide +kernel
theorem dX6_does_56 : decode cX6_does 56 = .ok (.getfield 186, 3) := by decide +kernel
theorem dX6_does_59 : decode cX6_does 59 = .ok (.aload_n 0, 1) := by decide +kernel
theorem dX6_does_60 : decode cX6_does 60 = .ok (.getfield 28, 3) := by decide +kernel
theorem dX6_does_63 : decode cX6_does 63 = .ok (.iconst 1, 1) := by decide +kernel
theorem dX6_does_64 : decode cX6_does 64 = .ok (.iaload, 1) := by decide +kernel
theorem dX6_does_65 : decode cX6_does 65 = .ok (.aload_n 0, 1) := by decide +kernel
theorem dX6_does_66 : decode cX6_does 66 = .ok (.getfield 28, 3) := by decide +kernel
theorem dX6_does_69 : decode cX6_does 69 = .ok (.iconst 2, 1) := by decide +kernel
theorem dX6_does_70 : decode cX6_does 70 = .ok (.iaload, 1) := by decide +kernel
theorem dX6_does_71 : decode cX6_does 71 = .ok (.aload_n 0, 1) := by decide +kernel
theorem dX6_does_72 : decode cX6_does 72 = .ok (.getfield 28, 3) := by decide +kernel
theorem dX6_does_75 : decode cX6_does 75 = .ok (.iconst 3, 1) := by decide +kernel
theorem dX6_does_76 : decode cX6_does 76 = .ok (.iaload, 1) := by decide +kernel
theorem dX6_does_77 : decode cX6_does 77 = .ok (.invokevirtual 98, 3) := by decide +kernel
theorem dX6_does_80 : decode cX6_does 80 = .ok (.goto 68, 3) := by decide +kernel
theorem dX6_does_83 : decode cX6_does 83 = .ok (.aload_n 0, 1) := by decide +kernel
theorem dX6_does_84 : decode cX6_does 84 = .ok (.aload_n 0, 1) := by decide +kernel
theorem dX6_does_85 : decode cX6_does 85 = .ok (.aload_n 0, 1) := by decide +kernel
theorem dX6_does_86 : decode cX6_does 86 = .ok (.getfield 28, 3) := by decide +kernel
theorem dX6_does_89 : decode cX6_does 89 = .ok (.iconst 0, 1) := by decide +kernel
theorem dX6_does_90 : decode cX6_does 90 = .ok (.iaload, 1) := by decide +kernel
theorem dX6_does_91 : decode cX6_does 91 = .ok (.invokevirtual 87, 3) := by decide +kernel
theorem dX6_does_94 : decode cX6_does 94 = .ok (.invokevirtual 90, 3) := by decide +kernel
theorem dX6_does_97 : decode cX6_does 97 = .ok (.goto 51, 3) := by decide +kernel
theorem dX6_does_100 : decode cX6_does 100 = .ok (.aload_n 0, 1) := by decide +kernel
theorem dX6_does_101 : decode cX6_does 101 = .ok (.aload_n 0, 1) := by decide +kernel
theorem dX6_does_102 : decode cX6_does 102 = .ok (.getfield 28, 3) := by decide +kernel
theorem dX6_does_105 : decode cX6_does 105 = .ok (.iconst 0, 1) := by decide +kernel
theorem dX6_does_106 : decode cX6_does 106 = .ok (.iaload, 1) := by decide +kernel
theorem dX6_does_107 : decode cX6_does 107 = .ok (.invokevirtual 109, 3) := by decide +kernel
theorem dX6_does_110 : decode cX6_does 110 = .ok (.pop, 1) := by decide +kernel
theorem dX6_does_111 : decode cX6_does 111 = .ok (.goto 37, 3) := by decide +kernel
theorem dX6_does_114 : decode cX6_does 114 = .ok (.aload_n 0, 1) := by decide +kernel
theorem dX6_does_115 : decode cX6_does 115 = .ok (.aload_n 0, 1) := by decide +kernel
theorem dX6_does_116 : decode cX6_does 116 = .ok (.getfield 28, 3) := by decide +kernel
theorem dX6_does_119 : decode cX6_does 119 = .ok (.iconst 0, 1) := by decide +kernel
theorem dX6_does_120 : decode cX6_does 120 = .ok (.iaload, 1) := by decide +kernel
theorem dX6_does_121 : decode cX6_does 121 = .ok (.invokevirtual 116, 3) := by decide +kernel
theorem dX6_does_124 : decode cX6_does 124 = .ok (.pop, 1) := by decide +kernel
theorem dX6_does_125 : decode cX6_does 125 = .ok (.goto 23, 3) := by decide +kernel
theorem dX6_does_128 : decode cX6_does 128 = .ok (.aload_n 0, 1) := by decide +kernel
theorem dX6_does_129 : decode cX6_does 129 = .ok (.getfield 7, 3) := by decide +kernel
theorem dX6_does_132 : decode cX6_does 132 = .ok (.bipush 6, 2) := by decide +kernel
theorem dX6_does_134 : decode cX6_does 134 = .ok (.aload_n 0, 1) := by decide +kernel
theorem dX6_does_135 : decode cX6_does 135 = .ok (.getfield 28, 3) := by decide +kernel
theorem dX6_does_138 : decode cX6_does 138 = .ok (.iconst 0, 1) := by decide +kernel
theorem dX6_does_139 : decode cX6_does 139 = .ok (.iaload, 1) := by decide +kernel
theorem dX6_does_140 : decode cX6_does 140 = .ok (.iadd, 1) := by decide +kernel
theorem dX6_does_141 : decode cX6_does 141 = .ok (.aload_n 0, 1) := by decide +kernel
theorem dX6_does_142 : decode cX6_does 142 = .ok (.getfield 28, 3) := by decide +kernel
theorem dX6_does_145 : decode cX6_does 145 = .ok (.iconst 1, 1) := by decide +kernel
theorem dX6_does_146 : decode cX6_does 146 = .ok (.iaload, 1) := by decide +kernel
theorem dX6_does_147 : decode cX6_does 147 = .ok (.iastore, 1) := by decide +kernel
theorem dX6_does_148 : decode cX6_does 148 = .ok (.return_, 1) := by decide +kernel
theorem dX6_carryOut_0 : decode cX6_carryOut 0 = .ok (.aload_n 0, 1) := by decide +kernel
theorem dX6_carryOut_1 : decode cX6_carryOut 1 = .ok (.invokevirtual 204, 3) := by decide +kernel
theorem dX6_carryOut_4 : decode cX6_carryOut 4 = .ok (.bipush (-6), 2) := by decide +kernel
theorem dX6_carryOut_6 : decode cX6_carryOut 6 = .ok (.if_icmp .eq 6, 3) := by decide +kernel
theorem dX6_carryOut_9 : decode cX6_carryOut 9 = .ok (.bipush (-3), 2) := by decide +kernel
theorem dX6_carryOut_11 : decode cX6_carryOut 11 = .ok (.ireturn, 1) := by decide +kernel
theorem dX6_carryOut_12 : decode cX6_carryOut 12 = .ok (.aload_n 0, 1) := by decide +kernel
theorem dX6_carryOut_13 : decode cX6_carryOut 13 = .ok (.invokevirtual 84, 3) := by decide +kernel
theorem dX6_carryOut_16 : decode cX6_carryOut 16 = .ok (.iconst 0, 1) := by decide +kernel
theorem dX6_carryOut_17 : decode cX6_carryOut 17 = .ok (.istore_n 1, 1) := by decide +kernel
theorem dX6_carryOut_18 : decode cX6_carryOut 18 = .ok (.aload_n 0, 1) := by decide +kernel
theorem dX6_carryOut_19 : decode cX6_carryOut 19 = .ok (.iconst 0, 1) := by decide +kernel
theorem dX6_carryOut_20 : decode cX6_carryOut 20 = .ok (.putfield 167, 3) := by decide +kernel
theorem dX6_carryOut_23 : decode cX6_carryOut 23 = .ok (.iconst 1, 1) := by decide +kernel
theorem dX6_carryOut_24 : decode cX6_carryOut 24 = .ok (.istore_n 2, 1) := by decide +kernel
theorem dX6_carryOut_25 : decode cX6_carryOut 25 = .ok (.iload_n 2, 1) := by decide +kernel
theorem dX6_carryOut_26 : decode cX6_carryOut 26 = .ok (.ifCond .eq 45, 3) := by decide +kernel
theorem dX6_carryOut_29 : decode cX6_carryOut 29 = .ok (.aload_n 0, 1) := by decide +kernel
theorem dX6_carryOut_30 : decode cX6_carryOut 30 = .ok (.getfield 167, 3) := by decide +kernel
theorem dX6_carryOut_33 : decode cX6_carryOut 33 = .ok (.aload_n 0, 1) := by decide +kernel
theorem dX6_carryOut_34 : decode cX6_carryOut 34 = .ok (.getfield 162, 3) := by decide +kernel
theorem dX6_carryOut_37 : decode cX6_carryOut 37 = .ok (.if_icmp .ge 34, 3) := by decide +kernel
theorem dX6_carryOut_40 : decode cX6_carryOut 40 = .ok (.aload_n 0, 1) := by decide +kernel
theorem dX6_carryOut_41 : decode cX6_carryOut 41 = .ok (.invokevirtual 201, 3) := by decide +kernel
theorem dX6_carryOut_44 : decode cX6_carryOut 44 = .ok (.pop, 1) := by decide +kernel
theorem dX6_carryOut_45 : decode cX6_carryOut 45 = .ok (.aload_n 0, 1) := by decide +kernel
theorem dX6_carryOut_46 : decode cX6_carryOut 46 = .ok (.bipush 59, 2) := by decide +kernel
theorem dX6_carryOut_48 : decode cX6_carryOut 48 = .ok (.invokevirtual 180, 3) := by decide +kernel
theorem dX6_carryOut_51 : decode cX6_carryOut 51 = .ok (.pop, 1) := by decide +kernel
theorem dX6_carryOut_52 : decode cX6_carryOut 52 = .ok (.aload_n 0, 1) := by decide +kernel
theorem dX6_carryOut_53 : decode cX6_carryOut 53 = .ok (.invokevirtual 207, 3) := by decide +kernel
theorem dX6_carryOut_56 : decode cX6_carryOut 56 = .ok (.istore_n 2, 1) := by decide +kernel
theorem dX6_carryOut_57 : decode cX6_carryOut 57 = .ok (.iload_n 2, 1) := by decide +kernel
theorem dX6_carryOut_58 : decode cX6_carryOut 58 = .ok (.ifCond .eq (-33), 3) := by decide +kernel
theorem dX6_carryOut_61 : decode cX6_carryOut 61 = .ok (.aload_n 0, 1) := by decide +kernel
theorem dX6_carryOut_62 : decode cX6_carryOut 62 = .ok (.invokevirtual 210, 3) := by decide +kernel
theorem dX6_carryOut_65 : decode cX6_carryOut 65 = .ok (.iinc 1 1, 3) := by decide +kernel
theorem dX6_carryOut_68 : decode cX6_carryOut 68 = .ok (.goto (-43), 3) := by decide +kernel
theorem dX6_carryOut_71 : decode cX6_carryOut 71 = .ok (.aload_n 0, 1) := by decide +kernel
theorem dX6_carryOut_72 : decode cX6_carryOut 72 = .ok (.iconst 0, 1) := by decide +kernel
theorem dX6_carryOut_73 : decode cX6_carryOut 73 = .ok (.putfield 162, 3) := by decide +kernel
theorem dX6_carryOut_76 : decode cX6_carryOut 76 = .ok (.iload_n 1, 1) := by decide +kernel
theorem dX6_carryOut_77 : decode cX6_carryOut 77 = .ok (.ireturn, 1) := by decide +kernel
theorem dX6_undo_0 : decode cX6_undo 0 = .ok (.aload_n 0, 1) := by decide +kernel
theorem dX6_undo_1 : decode cX6_undo 1 = .ok (.getfield 31, 3) := by decide +kernel
theorem dX6_undo_4 : decode cX6_undo 4 = .ok (.ifCond .ne 6, 3) := by decide +kernel
theorem dX6_undo_7 : decode cX6_undo 7 = .ok (.bipush (-5), 2) := by decide +kernel
theorem dX6_undo_9 : decode cX6_undo 9 = .ok (.ireturn, 1) := by decide +kernel
theorem dX6_undo_10 : decode cX6_undo 10 = .ok (.aload_n 0, 1) := by decide +kernel
theorem dX6_undo_11 : decode cX6_undo 11 = .ok (.dup, 1) := by decide +kernel
theorem dX6_undo_12 : decode cX6_undo 12 = .ok (.getfield 31, 3) := by decide +kernel
theorem dX6_undo_15 : decode cX6_undo 15 = .ok (.iconst 1, 1) := by decide +kernel
theorem dX6_undo_16 : decode cX6_undo 16 = .ok (.isub, 1) := by decide +kernel
theorem dX6_undo_17 : decode cX6_undo 17 = .ok (.putfield 31, 3) := by decide +kernel
theorem dX6_undo_20 : decode cX6_undo 20 = .ok (.aload_n 0, 1) := by decide +kernel
theorem dX6_undo_21 : decode cX6_undo 21 = .ok (.getfield 16, 3) := by decide +kernel
theorem dX6_undo_24 : decode cX6_undo 24 = .ok (.aload_n 0, 1) := by decide +kernel
theorem dX6_undo_25 : decode cX6_undo 25 = .ok (.getfield 31, 3) := by decide +kernel
theorem dX6_undo_28 : decode cX6_undo 28 = .ok (.sipush 370, 3) := by decide +kernel
theorem dX6_undo_31 : decode cX6_undo 31 = .ok (.imul, 1) := by decide +kernel
theorem dX6_undo_32 : decode cX6_undo 32 = .ok (.aload_n 0, 1) := by decide +kernel
theorem dX6_undo_33 : decode cX6_undo 33 = .ok (.getfield 7, 3) := by decide +kernel
theorem dX6_undo_36 : decode cX6_undo 36 = .ok (.iconst 0, 1) := by decide +kernel
theorem dX6_undo_37 : decode cX6_undo 37 = .ok (.invokestatic 35, 3) := by decide +kernel
theorem dX6_undo_40 : decode cX6_undo 40 = .ok (.aload_n 0, 1) := by decide +kernel
theorem dX6_undo_41 : decode cX6_undo 41 = .ok (.getfield 31, 3) := by decide +kernel
theorem dX6_undo_44 : decode cX6_undo 44 = .ok (.ireturn, 1) := by decide +kernel
theorem dX6_save_0 : decode cX6_save 0 = .ok (.iload_n 1, 1) := by decide +kernel
theorem dX6_save_1 : decode cX6_save 1 = .ok (.iconst 0, 1) := by decide +kernel
theorem dX6_save_2 : decode cX6_save 2 = .ok (.iconst 1, 1) := by decide +kernel
theorem dX6_save_3 : decode cX6_save 3 = .ok (.invokestatic 39, 3) := by decide +kernel
theorem dX6_save_6 : decode cX6_save 6 = .ok (.ifCond .ne 6, 3) := by decide +kernel
theorem dX6_save_9 : decode cX6_save 9 = .ok (.bipush (-2), 2) := by decide +kernel
theorem dX6_save_11 : decode cX6_save 11 = .ok (.ireturn, 1) := by decide +kernel
theorem dX6_save_12 : decode cX6_save 12 = .ok (.aload_n 0, 1) := by decide +kernel
theorem dX6_save_13 : decode cX6_save 13 = .ok (.getfield 7, 3) := by decide +kernel
theorem dX6_save_16 : decode cX6_save 16 = .ok (.iconst 0, 1) := by decide +kernel
theorem dX6_save_17 : decode cX6_save 17 = .ok (.aload_n 0, 1) := by decide +kernel
theorem dX6_save_18 : decode cX6_save 18 = .ok (.getfield 19, 3) := by decide +kernel
theorem dX6_save_21 : decode cX6_save 21 = .ok (.sipush 370, 3) := by decide +kernel
theorem dX6_save_24 : decode cX6_save 24 = .ok (.iload_n 1, 1) := by decide +kernel
theorem dX6_save_25 : decode cX6_save 25 = .ok (.imul, 1) := by decide +kernel
theorem dX6_save_26 : decode cX6_save 26 = .ok (.invokestatic 35, 3) := by decide +kernel
theorem dX6_save_29 : decode cX6_save 29 = .ok (.aload_n 0, 1) := by decide +kernel
theorem dX6_save_30 : decode cX6_save 30 = .ok (.getfield 22, 3) := by decide +kernel
theorem dX6_save_33 : decode cX6_save 33 = .ok (.iload_n 1, 1) := by decide +kernel
theorem dX6_save_34 : decode cX6_save 34 = .ok (.iconst 1, 1) := by decide +kernel
theorem dX6_save_35 : decode cX6_save 35 = .ok (.iastore, 1) := by decide +kernel
theorem dX6_save_36 : decode cX6_save 36 = .ok (.aload_n 0, 1) := by decide +kernel
theorem dX6_save_37 : decode cX6_save 37 = .ok (.getfield 7, 3) := by decide +kernel
theorem dX6_save_40 : decode cX6_save 40 = .ok (.iconst 4, 1) := by decide +kernel
theorem dX6_save_41 : decode cX6_save 41 = .ok (.iaload, 1) := by decide +kernel
theorem dX6_save_42 : decode cX6_save 42 = .ok (.ireturn, 1) := by decide +kernel
theorem dX6_restore_0 : decode cX6_restore 0 = .ok (.iload_n 1, 1) := by decide +kernel
theorem dX6_restore_1 : decode cX6_restore 1 = .ok (.iconst 0, 1) := by decide +kernel
theorem dX6_restore_2 : decode cX6_restore 2 = .ok (.iconst 1, 1) := by decide +kernel
theorem dX6_restore_3 : decode cX6_restore 3 = .ok (.invokestatic 39, 3) := by decide +kernel
theorem dX6_restore_6 : decode cX6_restore 6 = .ok (.ifCond .ne 6, 3) := by decide +kernel
theorem dX6_restore_9 : decode cX6_restore 9 = .ok (.bipush (-2), 2) := by decide +kernel
theorem dX6_restore_11 : decode cX6_restore 11 = .ok (.ireturn, 1) := by decide +kernel
theorem dX6_restore_12 : decode cX6_restore 12 = .ok (.aload_n 0, 1) := by decide +kernel
theorem dX6_restore_13 : decode cX6_restore 13 = .ok (.getfield 22, 3) := by decide +kernel
theorem dX6_restore_16 : decode cX6_restore 16 = .ok (.iload_n 1, 1) := by decide +kernel
theorem dX6_restore_17 : decode cX6_restore 17 = .ok (.iaload, 1) := by decide +kernel
theorem dX6_restore_18 : decode cX6_restore 18 = .ok (.ifCond .ne 6, 3) := by decide +kernel
theorem dX6_restore_21 : decode cX6_restore 21 = .ok (.bipush (-5), 2) := by decide +kernel
theorem dX6_restore_23 : decode cX6_restore 23 = .ok (.ireturn, 1) := by decide +kernel
theorem dX6_restore_24 : decode cX6_restore 24 = .ok (.aload_n 0, 1) := by decide +kernel
theorem dX6_restore_25 : decode cX6_restore 25 = .ok (.invokevirtual 84, 3) := by decide +kernel
theorem dX6_restore_28 : decode cX6_restore 28 = .ok (.aload_n 0, 1) := by decide +kernel
theorem dX6_restore_29 : decode cX6_restore 29 = .ok (.getfield 19, 3) := by decide +kernel
theorem dX6_restore_32 : decode cX6_restore 32 = .ok (.sipush 370, 3) := by decide +kernel
theorem dX6_restore_35 : decode cX6_restore 35 = .ok (.iload_n 1, 1) := by decide +kernel
theorem dX6_restore_36 : decode cX6_restore 36 = .ok (.imul, 1) := by decide +kernel
theorem dX6_restore_37 : decode cX6_restore 37 = .ok (.aload_n 0, 1) := by decide +kernel
theorem dX6_restore_38 : decode cX6_restore 38 = .ok (.getfield 7, 3) := by decide +kernel
theorem dX6_restore_41 : decode cX6_restore 41 = .ok (.iconst 0, 1) := by decide +kernel
theorem dX6_restore_42 : decode cX6_restore 42 = .ok (.invokestatic 35, 3) := by decide +kernel
theorem dX6_restore_45 : decode cX6_restore 45 = .ok (.aload_n 0, 1) := by decide +kernel
theorem dX6_restore_46 : decode cX6_restore 46 = .ok (.getfield 7, 3) := by decide +kernel
theorem dX6_restore_49 : decode cX6_restore 49 = .ok (.iconst 4, 1) := by decide +kernel
theorem dX6_restore_50 : decode cX6_restore 50 = .ok (.iaload, 1) := by decide +kernel
theorem dX6_restore_51 : decode cX6_restore 51 = .ok (.ireturn, 1) := by decide +kernel
