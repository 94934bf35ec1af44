theorem dX0_init_0 : decode cX0_init 0 = .ok (.aload_n 0, 1) := by decide +kernel
theorem dX0_init_1 : decode cX0_init 1 = .ok (.invokespecial 1, 3) := by decide +kernel
theorem dX0_init_4 : decode cX0_init 4 = .ok (.aload_n 0, 1) := by decide +kernel
theorem dX0_init_5 : decode cX0_init 5 = .ok (.sipush 4096, 3) := by decide +kernel
theorem dX0_init_8 : decode cX0_init 8 = .ok (.newarray .int, 2) := by decide +kernel
theorem dX0_init_10 : decode cX0_init 10 = .ok (.putfield 9, 3) := by decide +kernel
theorem dX0_init_13 : decode cX0_init 13 = .ok (.aload_n 0, 1) := by decide +kernel
theorem dX0_init_14 : decode cX0_init 14 = .ok (.iconst 1, 1) := by decide +kernel
theorem dX0_init_15 : decode cX0_init 15 = .ok (.putfield 13, 3) := by decide +kernel
theorem dX0_init_18 : decode cX0_init 18 = .ok (.aload_n 0, 1) := by decide +kernel
theorem dX0_init_19 : decode cX0_init 19 = .ok (.iconst 1, 1) := by decide +kernel
theorem dX0_init_20 : decode cX0_init 20 = .ok (.putfield 17, 3) := by decide +kernel
theorem dX0_init_23 : decode cX0_init 23 = .ok (.aload_n 0, 1) := by decide +kernel
theorem dX0_init_24 : decode cX0_init 24 = .ok (.iconst 1, 1) := by decide +kernel
theorem dX0_init_25 : decode cX0_init 25 = .ok (.putfield 20, 3) := by decide +kernel
theorem dX0_init_28 : decode cX0_init 28 = .ok (.return_, 1) := by decide +kernel
theorem dX0_open_0 : decode cX0_open 0 = .ok (.iload_n 1, 1) := by decide +kernel
theorem dX0_open_1 : decode cX0_open 1 = .ok (.iconst 1, 1) := by decide +kernel
theorem dX0_open_2 : decode cX0_open 2 = .ok (.sipush 4096, 3) := by decide +kernel
theorem dX0_open_5 : decode cX0_open 5 = .ok (.invokestatic 23, 3) := by decide +kernel
theorem dX0_open_8 : decode cX0_open 8 = .ok (.iload_n 2, 1) := by decide +kernel
theorem dX0_open_9 : decode cX0_open 9 = .ok (.iconst 1, 1) := by decide +kernel
theorem dX0_open_10 : decode cX0_open 10 = .ok (.sipush 4096, 3) := by decide +kernel
theorem dX0_open_13 : decode cX0_open 13 = .ok (.invokestatic 23, 3) := by decide +kernel
theorem dX0_open_16 : decode cX0_open 16 = .ok (.iload_n 1, 1) := by decide +kernel
theorem dX0_open_17 : decode cX0_open 17 = .ok (.iload_n 2, 1) := by decide +kernel
theorem dX0_open_18 : decode cX0_open 18 = .ok (.imul, 1) := by decide +kernel
theorem dX0_open_19 : decode cX0_open 19 = .ok (.iconst 1, 1) := by decide +kernel
theorem dX0_open_20 : decode cX0_open 20 = .ok (.sipush 4096, 3) := by decide +kernel
theorem dX0_open_23 : decode cX0_open 23 = .ok (.invokestatic 23, 3) := by decide +kernel
theorem dX0_open_26 : decode cX0_open 26 = .ok (.iload_n 3, 1) := by decide +kernel
theorem dX0_open_27 : decode cX0_open 27 = .ok (.iconst 1, 1) := by decide +kernel
theorem dX0_open_28 : decode cX0_open 28 = .ok (.bipush 8, 2) := by decide +kernel
theorem dX0_open_30 : decode cX0_open 30 = .ok (.invokestatic 23, 3) := by decide +kernel
theorem dX0_open_33 : decode cX0_open 33 = .ok (.aload_n 0, 1) := by decide +kernel
theorem dX0_open_34 : decode cX0_open 34 = .ok (.iload_n 1, 1) := by decide +kernel
theorem dX0_open_35 : decode cX0_open 35 = .ok (.putfield 13, 3) := by decide +kernel
theorem dX0_open_38 : decode cX0_open 38 = .ok (.aload_n 0, 1) := by decide +kernel
theorem dX0_open_39 : decode cX0_open 39 = .ok (.iload_n 2, 1) := by decide +kernel
theorem dX0_open_40 : decode cX0_open 40 = .ok (.putfield 17, 3) := by decide +kernel
theorem dX0_open_43 : decode cX0_open 43 = .ok (.aload_n 0, 1) := by decide +kernel
theorem dX0_open_44 : decode cX0_open 44 = .ok (.iload_n 3, 1) := by decide +kernel
theorem dX0_open_45 : decode cX0_open 45 = .ok (.putfield 20, 3) := by decide +kernel
theorem dX0_open_48 : decode cX0_open 48 = .ok (.aload_n 0, 1) := by decide +kernel
theorem dX0_open_49 : decode cX0_open 49 = .ok (.getfield 9, 3) := by decide +kernel
theorem dX0_open_52 : decode cX0_open 52 = .ok (.iconst 0, 1) := by decide +kernel
theorem dX0_open_53 : decode cX0_open 53 = .ok (.invokestatic 27, 3) := by decide +kernel
theorem dX0_open_56 : decode cX0_open 56 = .ok (.return_, 1) := by decide +kernel
theorem dX0_set_0 : decode cX0_set 0 = .ok (.aload_n 0, 1) := by decide +kernel
theorem dX0_set_1 : decode cX0_set 1 = .ok (.iload_n 1, 1) := by decide +kernel
theorem dX0_set_2 : decode cX0_set 2 = .ok (.iload_n 2, 1) := by decide +kernel
theorem dX0_set_3 : decode cX0_set 3 = .ok (.invokevirtual 33, 3) := by decide +kernel
theorem dX0_set_6 : decode cX0_set 6 = .ok (.iload_n 3, 1) := by decide +kernel
theorem dX0_set_7 : decode cX0_set 7 = .ok (.iconst 0, 1) := by decide +kernel
theorem dX0_set_8 : decode cX0_set 8 = .ok (.sipush 255, 3) := by decide +kernel
theorem dX0_set_11 : decode cX0_set 11 = .ok (.invokestatic 23, 3) := by decide +kernel
theorem dX0_set_14 : decode cX0_set 14 = .ok (.iload_n 1, 1) := by decide +kernel
theorem dX0_set_15 : decode cX0_set 15 = .ok (.aload_n 0, 1) := by decide +kernel
theorem dX0_set_16 : decode cX0_set 16 = .ok (.getfield 17, 3) := by decide +kernel
theorem dX0_set_19 : decode cX0_set 19 = .ok (.imul, 1) := by decide +kernel
theorem dX0_set_20 : decode cX0_set 20 = .ok (.iload_n 2, 1) := by decide +kernel
theorem dX0_set_21 : decode cX0_set 21 = .ok (.iadd, 1) := by decide +kernel
theorem dX0_set_22 : decode cX0_set 22 = .ok (.istore 4, 2) := by decide +kernel
theorem dX0_set_24 : decode cX0_set 24 = .ok (.aload_n 0, 1) := by decide +kernel
theorem dX0_set_25 : decode cX0_set 25 = .ok (.getfield 9, 3) := by decide +kernel
theorem dX0_set_28 : decode cX0_set 28 = .ok (.iload 4, 2) := by decide +kernel
theorem dX0_set_30 : decode cX0_set 30 = .ok (.iaload, 1) := by decide +kernel
theorem dX0_set_31 : decode cX0_set 31 = .ok (.istore 5, 2) := by decide +kernel
theorem dX0_set_33 : decode cX0_set 33 = .ok (.aload_n 0, 1) := by decide +kernel
theorem dX0_set_34 : decode cX0_set 34 = .ok (.getfield 9, 3) := by decide +kernel
theorem dX0_set_37 : decode cX0_set 37 = .ok (.iload 4, 2) := by decide +kernel
theorem dX0_set_39 : decode cX0_set 39 = .ok (.iload_n 3, 1) := by decide +kernel
theorem dX0_set_40 : decode cX0_set 40 = .ok (.iastore, 1) := by decide +kernel
theorem dX0_set_41 : decode cX0_set 41 = .ok (.iload 5, 2) := by decide +kernel
theorem dX0_set_43 : decode cX0_set 43 = .ok (.ireturn, 1) := by decide +kernel
theorem dX0_get_0 : decode cX0_get 0 = .ok (.aload_n 0, 1) := by decide +kernel
theorem dX0_get_1 : decode cX0_get 1 = .ok (.iload_n 1, 1) := by decide +kernel
theorem dX0_get_2 : decode cX0_get 2 = .ok (.iload_n 2, 1) := by decide +kernel
theorem dX0_get_3 : decode cX0_get 3 = .ok (.invokevirtual 33, 3) := by decide +kernel
theorem dX0_get_6 : decode cX0_get 6 = .ok (.aload_n 0, 1) := by decide +kernel
theorem dX0_get_7 : decode cX0_get 7 = .ok (.getfield 9, 3) := by decide +kernel
theorem dX0_get_10 : decode cX0_get 10 = .ok (.iload_n 1, 1) := by decide +kernel
theorem dX0_get_11 : decode cX0_get 11 = .ok (.aload_n 0, 1) := by decide +kernel
theorem dX0_get_12 : decode cX0_get 12 = .ok (.getfield 17, 3) := by decide +kernel
theorem dX0_get_15 : decode cX0_get 15 = .ok (.imul, 1) := by decide +kernel
theorem dX0_get_16 : decode cX0_get 16 = .ok (.iload_n 2, 1) := by decide +kernel
theorem dX0_get_17 : decode cX0_get 17 = .ok (.iadd, 1) := by decide +kernel
theorem dX0_get_18 : decode cX0_get 18 = .ok (.iaload, 1) := by decide +kernel
theorem dX0_get_19 : decode cX0_get 19 = .ok (.ireturn, 1) := by decide +kernel
theorem dX0_fill_0 : decode cX0_fill 0 = .ok (.aload_n 0, 1) := by decide +kernel
theorem dX0_fill_1 : decode cX0_fill 1 = .ok (.getfield 13, 3) := by decide +kernel
theorem dX0_fill_4 : decode cX0_fill 4 = .ok (.aload_n 0, 1) := by decide +kernel
theorem dX0_fill_5 : decode cX0_fill 5 = .ok (.getfield 17, 3) := by decide +kernel
theorem dX0_fill_8 : decode cX0_fill 8 = .ok (.imul, 1) := by decide +kernel
theorem dX0_fill_9 : decode cX0_fill 9 = .ok (.istore 4, 2) := by decide +kernel
theorem dX0_fill_11 : decode cX0_fill 11 = .ok (.iconst 0, 1) := by decide +kernel
theorem dX0_fill_12 : decode cX0_fill 12 = .ok (.istore 5, 2) := by decide +kernel
theorem dX0_fill_14 : decode cX0_fill 14 = .ok (.iload 5, 2) := by decide +kernel
theorem dX0_fill_16 : decode cX0_fill 16 = .ok (.iload 4, 2) := by decide +kernel
theorem dX0_fill_18 : decode cX0_fill 18 = .ok (.if_icmp .ge 33, 3) := by decide +kernel
theorem dX0_fill_21 : decode cX0_fill 21 = .ok (.aload_n 0, 1) := by decide +kernel
theorem dX0_fill_22 : decode cX0_fill 22 = .ok (.getfield 9, 3) := by decide +kernel
theorem dX0_fill_25 : decode cX0_fill 25 = .ok (.iload 5, 2) := by decide +kernel
theorem dX0_fill_27 : decode cX0_fill 27 = .ok (.iload_n 1, 1) := by decide +kernel
theorem dX0_fill_28 : decode cX0_fill 28 = .ok (.iload 5, 2) := by decide +kernel
theorem dX0_fill_30 : decode cX0_fill 30 = .ok (.imul, 1) := by decide +kernel
theorem dX0_fill_31 : decode cX0_fill 31 = .ok (.iload 5, 2) := by decide +kernel
theorem dX0_fill_33 : decode cX0_fill 33 = .ok (.imul, 1) := by decide +kernel
theorem dX0_fill_34 : decode cX0_fill 34 = .ok (.iload_n 2, 1) := by decide +kernel
theorem dX0_fill_35 : decode cX0_fill 35 = .ok (.iload 5, 2) := by decide +kernel
theorem dX0_fill_37 : decode cX0_fill 37 = .ok (.imul, 1) := by decide +kernel
theorem dX0_fill_38 : decode cX0_fill 38 = .ok (.iadd, 1) := by decide +kernel
theorem dX0_fill_39 : decode cX0_fill 39 = .ok (.iload_n 3, 1) := by decide +kernel
theorem dX0_fill_40 : decode cX0_fill 40 = .ok (.iadd, 1) := by decide +kernel
theorem dX0_fill_41 : decode cX0_fill 41 = .ok (.bipush 24, 2) := by decide +kernel
theorem dX0_fill_43 : decode cX0_fill 43 = .ok (.iushr, 1) := by decide +kernel
theorem dX0_fill_44 : decode cX0_fill 44 = .ok (.iastore, 1) := by decide +kernel
theorem dX0_fill_45 : decode cX0_fill 45 = .ok (.iinc 5 1, 3) := by decide +kernel
theorem dX0_fill_48 : decode cX0_fill 48 = .ok (.goto (-34), 3) := by decide +kernel
theorem dX0_fill_51 : decode cX0_fill 51 = .ok (.return_, 1) := by decide +kernel
theorem dX0_filter_0 : decode cX0_filter 0 = .ok (.aload_n 0, 1) := by decide +kernel
theorem dX0_filter_1 : decode cX0_filter 1 = .ok (.iload_n 1, 1) := by decide +kernel
theorem dX0_filter_2 : decode cX0_filter 2 = .ok (.invokevirtual 37, 3) := by decide +kernel
theorem dX0_filter_5 : decode cX0_filter 5 = .ok (.iload_n 2, 1) := by decide +kernel
theorem dX0_filter_6 : decode cX0_filter 6 = .ok (.invokestatic 41, 3) := by decide +kernel
theorem dX0_filter_9 : decode cX0_filter 9 = .ok (.aload_n 0, 1) := by decide +kernel
theorem dX0_filter_10 : decode cX0_filter 10 = .ok (.iload_n 1, 1) := by decide +kernel
theorem dX0_filter_11 : decode cX0_filter 11 = .ok (.iload_n 2, 1) := by decide +kernel
theorem dX0_filter_12 : decode cX0_filter 12 = .ok (.invokevirtual 44, 3) := by decide +kernel
theorem dX0_filter_15 : decode cX0_filter 15 = .ok (.return_, 1) := by decide +kernel
theorem dX0_plain_0 : decode cX0_plain 0 = .ok (.aload_n 0, 1) := by decide +kernel
theorem dX0_plain_1 : decode cX0_plain 1 = .ok (.iload_n 1, 1) := by decide +kernel
theorem dX0_plain_2 : decode cX0_plain 2 = .ok (.invokevirtual 37, 3) := by decide +kernel
theorem dX0_plain_5 : decode cX0_plain 5 = .ok (.iload_n 2, 1) := by decide +kernel
theorem dX0_plain_6 : decode cX0_plain 6 = .ok (.invokestatic 41, 3) := by decide +kernel
theorem dX0_plain_9 : decode cX0_plain 9 = .ok (.aload_n 0, 1) := by decide +kernel
theorem dX0_plain_10 : decode cX0_plain 10 = .ok (.iload_n 1, 1) := by decide +kernel
theorem dX0_plain_11 : decode cX0_plain 11 = .ok (.iload_n 2, 1) := by decide +kernel
theorem dX0_plain_12 : decode cX0_plain 12 = .ok (.invokevirtual 47, 3) := by decide +kernel
theorem dX0_plain_15 : decode cX0_plain 15 = .ok (.return_, 1) := by decide +kernel
theorem dX0_best_0 : decode cX0_best 0 = .ok (.iconst 0, 1) := by decide +kernel
theorem dX0_best_1 : decode cX0_best 1 = .ok (.istore_n 1, 1) := by decide +kernel
theorem dX0_best_2 : decode cX0_best 2 = .ok (.iconst 1, 1) := by decide +kernel
theorem dX0_best_3 : decode cX0_best 3 = .ok (.istore_n 2, 1) := by decide +kernel
theorem dX0_best_4 : decode cX0_best 4 = .ok (.aload_n 0, 1) := by decide +kernel
theorem dX0_best_5 : decode cX0_best 5 = .ok (.getfield 13, 3) := by decide +kernel
theorem dX0_best_8 : decode cX0_best 8 = .ok (.iconst 1, 1) := by decide +kernel
theorem dX0_best_9 : decode cX0_best 9 = .ok (.isub, 1) := by decide +kernel
theorem dX0_best_10 : decode cX0_best 10 = .ok (.istore_n 3, 1) := by decide +kernel
theorem dX0_best_11 : decode cX0_best 11 = .ok (.iload_n 3, 1) := by decide +kernel
theorem dX0_best_12 : decode cX0_best 12 = .ok (.ifCond .lt 34, 3) := by decide +kernel
theorem dX0_best_15 : decode cX0_best 15 = .ok (.aload_n 0, 1) := by decide +kernel
theorem dX0_best_16 : decode cX0_best 16 = .ok (.iload_n 3, 1) := by decide +kernel
theorem dX0_best_17 : decode cX0_best 17 = .ok (.invokevirtual 50, 3) := by decide +kernel
theorem dX0_best_20 : decode cX0_best 20 = .ok (.istore 4, 2) := by decide +kernel
theorem dX0_best_22 : decode cX0_best 22 = .ok (.aload_n 0, 1) := by decide +kernel
theorem dX0_best_23 : decode cX0_best 23 = .ok (.iload_n 3, 1) := by decide +kernel
theorem dX0_best_24 : decode cX0_best 24 = .ok (.iload 4, 2) := by decide +kernel
theorem dX0_best_26 : decode cX0_best 26 = .ok (.invokevirtual 44, 3) := by decide +kernel
theorem dX0_best_29 : decode cX0_best 29 = .ok (.iload_n 1, 1) := by decide +kernel
theorem dX0_best_30 : decode cX0_best 30 = .ok (.iload 4, 2) := by decide +kernel
theorem dX0_best_32 : decode cX0_best 32 = .ok (.iload_n 2, 1) := by decide +kernel
theorem dX0_best_33 : decode cX0_best 33 = .ok (.imul, 1) := by decide +kernel
theorem dX0_best_34 : decode cX0_best 34 = .ok (.iadd, 1) := by decide +kernel
theorem dX0_best_35 : decode cX0_best 35 = .ok (.istore_n 1, 1) := by decide +kernel
theorem dX0_best_36 : decode cX0_best 36 = .ok (.iload_n 2, 1) := by decide +kernel
theorem dX0_best_37 : decode cX0_best 37 = .ok (.iconst 5, 1) := by decide +kernel
theorem dX0_best_38 : decode cX0_best 38 = .ok (.imul, 1) := by decide +kernel
theorem dX0_best_39 : decode cX0_best 39 = .ok (.istore_n 2, 1) := by decide +kernel
theorem dX0_best_40 : decode cX0_best 40 = .ok (.iinc 3 (-1), 3) := by decide +kernel
theorem dX0_best_43 : decode cX0_best 43 = .ok (.goto (-32), 3) := by decide +kernel
theorem dX0_best_46 : decode cX0_best 46 = .ok (.iload_n 1, 1) := by decide +kernel
theorem dX0_best_47 : decode cX0_best 47 = .ok (.iload_n 2, 1) := by decide +kernel
theorem dX0_best_48 : decode cX0_best 48 = .ok (.iadd, 1) := by decide +kernel
theorem dX0_best_49 : decode cX0_best 49 = .ok (.ireturn, 1) := by decide +kernel
theorem dX0_undo_0 : decode cX0_undo 0 = .ok (.iload_n 1, 1) := by decide +kernel
theorem dX0_undo_1 : decode cX0_undo 1 = .ok (.iconst 0, 1) := by decide +kernel
theorem dX0_undo_2 : decode cX0_undo 2 = .ok (.ldc 54, 2) := by decide +kernel
theorem dX0_undo_4 : decode cX0_undo 4 = .ok (.invokestatic 23, 3) := by decide +kernel
theorem dX0_undo_7 : decode cX0_undo 7 = .ok (.aload_n 0, 1) := by decide +kernel
theorem dX0_undo_8 : decode cX0_undo 8 = .ok (.getfield 13, 3) := by decide +kernel
theorem dX0_undo_11 : decode cX0_undo 11 = .ok (.bipush 8, 2) := by decide +kernel
theorem dX0_undo_13 : decode cX0_undo 13 = .ok (.invokestatic 55, 3) := by decide +kernel
theorem dX0_undo_16 : decode cX0_undo 16 = .ok (.istore_n 2, 1) := by decide +kernel
theorem dX0_undo_17 : decode cX0_undo 17 = .ok (.iload_n 1, 1) := by decide +kernel
theorem dX0_undo_18 : decode cX0_undo 18 = .ok (.istore_n 3, 1) := by decide +kernel
theorem dX0_undo_19 : decode cX0_undo 19 = .ok (.iconst 0, 1) := by decide +kernel
theorem dX0_undo_20 : decode cX0_undo 20 = .ok (.istore 4, 2) := by decide +kernel
theorem dX0_undo_22 : decode cX0_undo 22 = .ok (.iload 4, 2) := by decide +kernel
theorem dX0_undo_24 : decode cX0_undo 24 = .ok (.iload_n 2, 1) := by decide +kernel
theorem dX0_undo_25 : decode cX0_undo 25 = .ok (.if_icmp .ge 22, 3) := by decide +kernel
theorem dX0_undo_28 : decode cX0_undo 28 = .ok (.aload_n 0, 1) := by decide +kernel
theorem dX0_undo_29 : decode cX0_undo 29 = .ok (.iload 4, 2) := by decide +kernel
theorem dX0_undo_31 : decode cX0_undo 31 = .ok (.iload_n 3, 1) := by decide +kernel
theorem dX0_undo_32 : decode cX0_undo 32 = .ok (.iconst 5, 1) := by decide +kernel
theorem dX0_undo_33 : decode cX0_undo 33 = .ok (.irem, 1) := by decide +kernel
theorem dX0_undo_34 : decode cX0_undo 34 = .ok (.invokevirtual 47, 3) := by decide +kernel
theorem dX0_undo_37 : decode cX0_undo 37 = .ok (.iload_n 3, 1) := by decide +kernel
theorem dX0_undo_38 : decode cX0_undo 38 = .ok (.iconst 5, 1) := by decide +kernel
theorem dX0_undo_39 : decode cX0_undo 39 = .ok (.idiv, 1) := by decide +kernel
theorem dX0_undo_40 : decode cX0_undo 40 = .ok (.istore_n 3, 1) := by decide +kernel
theorem dX0_undo_41 : decode cX0_undo 41 = .ok (.iinc 4 1, 3) := by decide +kernel
theorem dX0_undo_44 : decode cX0_undo 44 = .ok (.goto (-22), 3) := by decide +kernel
theorem dX0_undo_47 : decode cX0_undo 47 = .ok (.return_, 1) := by decide +kernel
theorem dX0_hash_0 : decode cX0_hash 0 = .ok (.aload_n 0, 1) := by decide +kernel
theorem dX0_hash_1 : decode cX0_hash 1 = .ok (.getfield 13, 3) := by decide +kernel
theorem dX0_hash_4 : decode cX0_hash 4 = .ok (.aload_n 0, 1) := by decide +kernel
theorem dX0_hash_5 : decode cX0_hash 5 = .ok (.getfield 17, 3) := by decide +kernel
theorem dX0_hash_8 : decode cX0_hash 8 = .ok (.imul, 1) := by decide +kernel
theorem dX0_hash_9 : decode cX0_hash 9 = .ok (.istore_n 1, 1) := by decide +kernel
theorem dX0_hash_10 : decode cX0_hash 10 = .ok (.iconst 1, 1) := by decide +kernel
theorem dX0_hash_11 : decode cX0_hash 11 = .ok (.istore_n 2, 1) := by decide +kernel
theorem dX0_hash_12 : decode cX0_hash 12 = .ok (.iconst 0, 1) := by decide +kernel
theorem dX0_hash_13 : decode cX0_hash 13 = .ok (.istore_n 3, 1) := by decide +kernel
theorem dX0_hash_14 : decode cX0_hash 14 = .ok (.iload_n 3, 1) := by decide +kernel
theorem dX0_hash_15 : decode cX0_hash 15 = .ok (.iload_n 1, 1) := by decide +kernel
theorem dX0_hash_16 : decode cX0_hash 16 = .ok (.if_icmp .ge 21, 3) := by decide +kernel
theorem dX0_hash_19 : decode cX0_hash 19 = .ok (.bipush 31, 2) := by decide +kernel
theorem dX0_hash_21 : decode cX0_hash 21 = .ok (.iload_n 2, 1) := by decide +kernel
theorem dX0_hash_22 : decode cX0_hash 22 = .ok (.imul, 1) := by decide +kernel
theorem dX0_hash_23 : decode cX0_hash 23 = .ok (.aload_n 0, 1) := by decide +kernel
theorem dX0_hash_24 : decode cX0_hash 24 = .ok (.getfield 9, 3) := by decide +kernel
theorem dX0_hash_27 : decode cX0_hash 27 = .ok (.iload_n 3, 1) := by decide +kernel
theorem dX0_hash_28 : decode cX0_hash 28 = .ok (.iaload, 1) := by decide +kernel
theorem dX0_hash_29 : decode cX0_hash 29 = .ok (.iadd, 1) := by decide +kernel
theorem dX0_hash_30 : decode cX0_hash 30 = .ok (.istore_n 2, 1) := by decide +kernel
theorem dX0_hash_31 : decode cX0_hash 31 = .ok (.iinc 3 1, 3) := by decide +kernel
theorem dX0_hash_34 : decode cX0_hash 34 = .ok (.goto (-20), 3) := by decide +kernel
theorem dX0_hash_37 : decode cX0_hash 37 = .ok (.iload_n 2, 1) := by decide +kernel
theorem dX0_hash_38 : decode cX0_hash 38 = .ok (.ireturn, 1) := by decide +kernel
theorem dX0_pass_0 : decode cX0_pass 0 = .ok (.iload_n 1, 1) := by decide +kernel
theorem dX0_pass_1 : decode cX0_pass 1 = .ok (.iconst 0, 1) := by decide +kernel
theorem dX0_pass_2 : decode cX0_pass 2 = .ok (.bipush 6, 2) := by decide +kernel
theorem dX0_pass_4 : decode cX0_pass 4 = .ok (.invokestatic 23, 3) := by decide +kernel
theorem dX0_pass_7 : decode cX0_pass 7 = .ok (.iload_n 2, 1) := by decide +kernel
theorem dX0_pass_8 : decode cX0_pass 8 = .ok (.iconst 1, 1) := by decide +kernel
theorem dX0_pass_9 : decode cX0_pass 9 = .ok (.ldc 61, 2) := by decide +kernel
theorem dX0_pass_11 : decode cX0_pass 11 = .ok (.invokestatic 23, 3) := by decide +kernel
theorem dX0_pass_14 : decode cX0_pass 14 = .ok (.iload_n 3, 1) := by decide +kernel
theorem dX0_pass_15 : decode cX0_pass 15 = .ok (.iconst 1, 1) := by decide +kernel
theorem dX0_pass_16 : decode cX0_pass 16 = .ok (.ldc 61, 2) := by decide +kernel
theorem dX0_pass_18 : decode cX0_pass 18 = .ok (.invokestatic 23, 3) := by decide +kernel
theorem dX0_pass_21 : decode cX0_pass 21 = .ok (.iload_n 2, 1) := by decide +kernel
theorem dX0_pass_22 : decode cX0_pass 22 = .ok (.getstatic 62, 3) := by decide +kernel
theorem dX0_pass_25 : decode cX0_pass 25 = .ok (.iload_n 1, 1) := by decide +kernel
theorem dX0_pass_26 : decode cX0_pass 26 = .ok (.iaload, 1) := by decide +kernel
theorem dX0_pass_27 : decode cX0_pass 27 = .ok (.getstatic 65, 3) := by decide +kernel
theorem dX0_pass_30 : decode cX0_pass 30 = .ok (.iload_n 1, 1) := by decide +kernel
theorem dX0_pass_31 : decode cX0_pass 31 = .ok (.iaload, 1) := by decide +kernel
theorem dX0_pass_32 : decode cX0_pass 32 = .ok (.invokestatic 68, 3) := by decide +kernel
theorem dX0_pass_35 : decode cX0_pass 35 = .ok (.istore 5, 2) := by decide +kernel
theorem dX0_pass_37 : decode cX0_pass 37 = .ok (.iload_n 3, 1) := by decide +kernel
theorem dX0_pass_38 : decode cX0_pass 38 = .ok (.getstatic 72, 3) := by decide +kernel
theorem dX0_pass_41 : decode cX0_pass 41 = .ok (.iload_n 1, 1) := by decide +kernel
theorem dX0_pass_42 : decode cX0_pass 42 = .ok (.iaload, 1) := by decide +kernel
theorem dX0_pass_43 : decode cX0_pass 43 = .ok (.getstatic 75, 3) := by decide +kernel
theorem dX0_pass_46 : decode cX0_pass 46 = .ok (.iload_n 1, 1) := by decide +kernel
theorem dX0_pass_47 : decode cX0_pass 47 = .ok (.iaload, 1) := by decide +kernel
theorem dX0_pass_48 : decode cX0_pass 48 = .ok (.invokestatic 68, 3) := by decide +kernel
theorem dX0_pass_51 : decode cX0_pass 51 = .ok (.istore 6, 2) := by decide +kernel
theorem dX0_pass_53 : decode cX0_pass 53 = .ok (.iload 5, 2) := by decide +kernel
theorem dX0_pass_55 : decode cX0_pass 55 = .ok (.ifCond .eq 8, 3) := by decide +kernel
theorem dX0_pass_58 : decode cX0_pass 58 = .ok (.iload 6, 2) := by decide +kernel
theorem dX0_pass_60 : decode cX0_pass 60 = .ok (.ifCond .ne 5, 3) := by decide +kernel
theorem dX0_pass_63 : decode cX0_pass 63 = .ok (.iconst 0, 1) := by decide +kernel
theorem dX0_pass_64 : decode cX0_pass 64 = .ok (.ireturn, 1) := by decide +kernel
theorem dX0_pass_65 : decode cX0_pass 65 = .ok (.iload 4, 2) := by decide +kernel
theorem dX0_pass_67 : decode cX0_pass 67 = .ok (.ifCond .eq 8, 3) := by decide +kernel
theorem dX0_pass_70 : decode cX0_pass 70 = .ok (.iload 6, 2) := by decide +kernel
theorem dX0_pass_72 : decode cX0_pass 72 = .ok (.goto 5, 3) := by decide +kernel
theorem dX0_pass_75 : decode cX0_pass 75 = .ok (.iload 5, 2) := by decide +kernel
theorem dX0_pass_77 : decode cX0_pass 77 = .ok (.ireturn, 1) := by decide +kernel
theorem dX0_passOf_0 : decode cX0_passOf 0 = .ok (.iload_n 1, 1) := by decide +kernel
theorem dX0_passOf_1 : decode cX0_passOf 1 = .ok (.iconst 0, 1) := by decide +kernel
theorem dX0_passOf_2 : decode cX0_passOf 2 = .ok (.ldc 78, 2) := by decide +kernel
theorem dX0_passOf_4 : decode cX0_passOf 4 = .ok (.invokestatic 23, 3) := by decide +kernel
theorem dX0_passOf_7 : decode cX0_passOf 7 = .ok (.iload_n 2, 1) := by decide +kernel
theorem dX0_passOf_8 : decode cX0_passOf 8 = .ok (.iconst 0, 1) := by decide +kernel
theorem dX0_passOf_9 : decode cX0_passOf 9 = .ok (.ldc 78, 2) := by decide +kernel
theorem dX0_passOf_11 : decode cX0_passOf 11 = .ok (.invokestatic 23, 3) := by decide +kernel
theorem dX0_passOf_14 : decode cX0_passOf 14 = .ok (.iconst 0, 1) := by decide +kernel
theorem dX0_passOf_15 : decode cX0_passOf 15 = .ok (.istore_n 3, 1) := by decide +kernel
theorem dX0_passOf_16 : decode cX0_passOf 16 = .ok (.iload_n 3, 1) := by decide +kernel
theorem dX0_passOf_17 : decode cX0_passOf 17 = .ok (.bipush 6, 2) := by decide +kernel
theorem dX0_passOf_19 : decode cX0_passOf 19 = .ok (.if_icmp .ge 41, 3) := by decide +kernel
theorem dX0_passOf_22 : decode cX0_passOf 22 = .ok (.iload_n 1, 1) := by decide +kernel
theorem dX0_passOf_23 : decode cX0_passOf 23 = .ok (.getstatic 65, 3) := by decide +kernel
theorem dX0_passOf_26 : decode cX0_passOf 26 = .ok (.iload_n 3, 1) := by decide +kernel
theorem dX0_passOf_27 : decode cX0_passOf 27 = .ok (.iaload, 1) := by decide +kernel
theorem dX0_passOf_28 : decode cX0_passOf 28 = .ok (.irem, 1) := by decide +kernel
theorem dX0_passOf_29 : decode cX0_passOf 29 = .ok (.getstatic 62, 3) := by decide +kernel
theorem dX0_passOf_32 : decode cX0_passOf 32 = .ok (.iload_n 3, 1) := by decide +kernel
theorem dX0_passOf_33 : decode cX0_passOf 33 = .ok (.iaload, 1) := by decide +kernel
theorem dX0_passOf_34 : decode cX0_passOf 34 = .ok (.if_icmp .ne 20, 3) := by decide +kernel
theorem dX0_passOf_37 : decode cX0_passOf 37 = .ok (.iload_n 2, 1) := by decide +kernel
theorem dX0_passOf_38 : decode cX0_passOf 38 = .ok (.getstatic 75, 3) := by decide +kernel
theorem dX0_passOf_41 : decode cX0_passOf 41 = .ok (.iload_n 3, 1) := by decide +kernel
theorem dX0_passOf_42 : decode cX0_passOf 42 = .ok (.iaload, 1) := by decide +kernel
theorem dX0_passOf_43 : decode cX0_passOf 43 = .ok (.irem, 1) := by decide +kernel
theorem dX0_passOf_44 : decode cX0_passOf 44 = .ok (.getstatic 72, 3) := by decide +kernel
theorem dX0_passOf_47 : decode cX0_passOf 47 = .ok (.iload_n 3, 1) := by decide +kernel
theorem dX0_passOf_48 : decode cX0_passOf 48 = .ok (.iaload, 1) := by decide +kernel
theorem dX0_passOf_49 : decode cX0_passOf 49 = .ok (.if_icmp .ne 5, 3) := by decide +kernel
theorem dX0_passOf_52 : decode cX0_passOf 52 = .ok (.iload_n 3, 1) := by decide +kernel
theorem dX0_passOf_53 : decode cX0_passOf 53 = .ok (.ireturn, 1) := by decide +kernel
theorem dX0_passOf_54 : decode cX0_passOf 54 = .ok (.iinc 3 1, 3) := by decide +kernel
theorem dX0_passOf_57 : decode cX0_passOf 57 = .ok (.goto (-41), 3) := by decide +kernel
theorem dX0_passOf_60 : decode cX0_passOf 60 = .ok (.bipush 6, 2) := by decide +kernel
theorem dX0_passOf_62 : decode cX0_passOf 62 = .ok (.ireturn, 1) := by decide +kernel
theorem dX0_tellRow_0 : decode cX0_tellRow 0 = .ok (.aload_n 0, 1) := by decide +kernel
theorem dX0_tellRow_1 : decode cX0_tellRow 1 = .ok (.getfield 17, 3) := by decide +kernel
theorem dX0_tellRow_4 : decode cX0_tellRow 4 = .ok (.iconst 1, 1) := by decide +kernel
theorem dX0_tellRow_5 : decode cX0_tellRow 5 = .ok (.isub, 1) := by decide +kernel
theorem dX0_tellRow_6 : decode cX0_tellRow 6 = .ok (.istore_n 3, 1) := by decide +kernel
theorem dX0_tellRow_7 : decode cX0_tellRow 7 = .ok (.iload_n 3, 1) := by decide +kernel
theorem dX0_tellRow_8 : decode cX0_tellRow 8 = .ok (.ifCond .lt 45, 3) := by decide +kernel
theorem dX0_tellRow_11 : decode cX0_tellRow 11 = .ok (.iload_n 1, 1) := by decide +kernel
theorem dX0_tellRow_12 : decode cX0_tellRow 12 = .ok (.aload_n 0, 1) := by decide +kernel
theorem dX0_tellRow_13 : decode cX0_tellRow 13 = .ok (.getfield 17, 3) := by decide +kernel
theorem dX0_tellRow_16 : decode cX0_tellRow 16 = .ok (.imul, 1) := by decide +kernel
theorem dX0_tellRow_17 : decode cX0_tellRow 17 = .ok (.iload_n 3, 1) := by decide +kernel
theorem dX0_tellRow_18 : decode cX0_tellRow 18 = .ok (.iadd, 1) := by decide +kernel
theorem dX0_tellRow_19 : decode cX0_tellRow 19 = .ok (.istore 4, 2) := by decide +kernel
theorem dX0_tellRow_21 : decode cX0_tellRow 21 = .ok (.aload_n 0, 1) := by decide +kernel
theorem dX0_tellRow_22 : decode cX0_tellRow 22 = .ok (.getfield 9, 3) := by decide +kernel
theorem dX0_tellRow_25 : decode cX0_tellRow 25 = .ok (.iload 4, 2) := by decide +kernel
theorem dX0_tellRow_27 : decode cX0_tellRow 27 = .ok (.aload_n 0, 1) := by decide +kernel
theorem dX0_tellRow_28 : decode cX0_tellRow 28 = .ok (.getfield 9, 3) := by decide +kernel
theorem dX0_tellRow_31 : decode cX0_tellRow 31 = .ok (.iload 4, 2) := by decide +kernel
theorem dX0_tellRow_33 : decode cX0_tellRow 33 = .ok (.iaload, 1) := by decide +kernel
theorem dX0_tellRow_34 : decode cX0_tellRow 34 = .ok (.aload_n 0, 1) := by decide +kernel
theorem dX0_tellRow_35 : decode cX0_tellRow 35 = .ok (.iload_n 1, 1) := by decide +kernel
theorem dX0_tellRow_36 : decode cX0_tellRow 36 = .ok (.iload_n 3, 1) := by decide +kernel
theorem dX0_tellRow_37 : decode cX0_tellRow 37 = .ok (.iload_n 2, 1) := by decide +kernel
theorem dX0_tellRow_38 : decode cX0_tellRow 38 = .ok (.invokevirtual 79, 3) := by decide +kernel
theorem dX0_tellRow_41 : decode cX0_tellRow 41 = .ok (.isub, 1) := by decide +kernel
theorem dX0_tellRow_42 : decode cX0_tellRow 42 = .ok (.sipush 255, 3) := by decide +kernel
theorem dX0_tellRow_45 : decode cX0_tellRow 45 = .ok (.iand, 1) := by decide +kernel
theorem dX0_tellRow_46 : decode cX0_tellRow 46 = .ok (.iastore, 1) := by decide +kernel
theorem dX0_tellRow_47 : decode cX0_tellRow 47 = .ok (.iinc 3 (-1), 3) := by decide +kernel
theorem dX0_tellRow_50 : decode cX0_tellRow 50 = .ok (.goto (-43), 3) := by decide +kernel
theorem dX0_tellRow_53 : decode cX0_tellRow 53 = .ok (.return_, 1) := by decide +kernel
theorem dX0_restoreRow_0 : decode cX0_restoreRow 0 = .ok (.iconst 0, 1) := by decide +kernel
theorem dX0_restoreRow_1 : decode cX0_restoreRow 1 = .ok (.istore_n 3, 1) := by decide +kernel
theorem dX0_restoreRow_2 : decode cX0_restoreRow 2 = .ok (.iload_n 3, 1) := by decide +kernel
theorem dX0_restoreRow_3 : decode cX0_restoreRow 3 = .ok (.aload_n 0, 1) := by decide +kernel
theorem dX0_restoreRow_4 : decode cX0_restoreRow 4 = .ok (.getfield 17, 3) := by decide +kernel
theorem dX0_restoreRow_7 : decode cX0_restoreRow 7 = .ok (.if_icmp .ge 45, 3) := by decide +kernel
theorem dX0_restoreRow_10 : decode cX0_restoreRow 10 = .ok (.iload_n 1, 1) := by decide +kernel
theorem dX0_restoreRow_11 : decode cX0_restoreRow 11 = .ok (.aload_n 0, 1) := by decide +kernel
theorem dX0_restoreRow_12 : decode cX0_restoreRow 12 = .ok (.getfield 17, 3) := by decide +kernel
theorem dX0_restoreRow_15 : decode cX0_restoreRow 15 = .ok (.imul, 1) := by decide +kernel
theorem dX0_restoreRow_16 : decode cX0_restoreRow 16 = .ok (.iload_n 3, 1) := by decide +kernel
theorem dX0_restoreRow_17 : decode cX0_restoreRow 17 = .ok (.iadd, 1) := by decide +kernel
theorem dX0_restoreRow_18 : decode cX0_restoreRow 18 = .ok (.istore 4, 2) := by decide +kernel
theorem dX0_restoreRow_20 : decode cX0_restoreRow 20 = .ok (.aload_n 0, 1) := by decide +kernel
theorem dX0_restoreRow_21 : decode cX0_restoreRow 21 = .ok (.getfield 9, 3) := by decide +kernel
theorem dX0_restoreRow_24 : decode cX0_restoreRow 24 = .ok (.iload 4, 2) := by decide +kernel
theorem dX0_restoreRow_26 : decode cX0_restoreRow 26 = .ok (.aload_n 0, 1) := by decide +kernel
theorem dX0_restoreRow_27 : decode cX0_restoreRow 27 = .ok (.getfield 9, 3) := by decide +kernel
theorem dX0_restoreRow_30 : decode cX0_restoreRow 30 = .ok (.iload 4, 2) := by decide +kernel
theorem dX0_restoreRow_32 : decode cX0_restoreRow 32 = .ok (.iaload, 1) := by decide +kernel
theorem dX0_restoreRow_33 : decode cX0_restoreRow 33 = .ok (.aload_n 0, 1) := by decide +kernel
theorem dX0_restoreRow_34 : decode cX0_restoreRow 34 = .ok (.iload_n 1, 1) := by decide +kernel
theorem dX0_restoreRow_35 : decode cX0_restoreRow 35 = .ok (.iload_n 3, 1) := by decide +kernel
theorem dX0_restoreRow_36 : decode cX0_restoreRow 36 = .ok (.iload_n 2, 1) := by decide +kernel
theorem dX0_restoreRow_37 : decode cX0_restoreRow 37 = .ok (.invokevirtual 79, 3) := by decide +kernel
theorem dX0_restoreRow_40 : decode cX0_restoreRow 40 = .ok (.iadd, 1) := by decide +kernel
theorem dX0_restoreRow_41 : decode cX0_restoreRow 41 = .ok (.sipush 255, 3) := by decide +kernel
theorem dX0_restoreRow_44 : decode cX0_restoreRow 44 = .ok (.iand, 1) := by decide +kernel
theorem dX0_restoreRow_45 : decode cX0_restoreRow 45 = .ok (.iastore, 1) := by decide +kernel
theorem dX0_restoreRow_46 : decode cX0_restoreRow 46 = .ok (.iinc 3 1, 3) := by decide +kernel
theorem dX0_restoreRow_49 : decode cX0_restoreRow 49 = .ok (.goto (-47), 3) := by decide +kernel
theorem dX0_restoreRow_52 : decode cX0_restoreRow 52 = .ok (.return_, 1) := by decide +kernel
theorem dX0_leastFilter_0 : decode cX0_leastFilter 0 = .ok (.iconst 0, 1) := by decide +kernel
theorem dX0_leastFilter_1 : decode cX0_leastFilter 1 = .ok (.istore_n 2, 1) := by decide +kernel
theorem dX0_leastFilter_2 : decode cX0_leastFilter 2 = .ok (.aload_n 0, 1) := by decide +kernel
theorem dX0_leastFilter_3 : decode cX0_leastFilter 3 = .ok (.iload_n 1, 1) := by decide +kernel
theorem dX0_leastFilter_4 : decode cX0_leastFilter 4 = .ok (.iconst 0, 1) := by decide +kernel
theorem dX0_leastFilter_5 : decode cX0_leastFilter 5 = .ok (.invokevirtual 82, 3) := by decide +kernel
theorem dX0_leastFilter_8 : decode cX0_leastFilter 8 = .ok (.istore_n 3, 1) := by decide +kernel
theorem dX0_leastFilter_9 : decode cX0_leastFilter 9 = .ok (.iconst 1, 1) := by decide +kernel
theorem dX0_leastFilter_10 : decode cX0_leastFilter 10 = .ok (.istore 4, 2) := by decide +kernel
theorem dX0_leastFilter_12 : decode cX0_leastFilter 12 = .ok (.iload 4, 2) := by decide +kernel
theorem dX0_leastFilter_14 : decode cX0_leastFilter 14 = .ok (.iconst 5, 1) := by decide +kernel
theorem dX0_leastFilter_15 : decode cX0_leastFilter 15 = .ok (.if_icmp .ge 30, 3) := by decide +kernel
theorem dX0_leastFilter_18 : decode cX0_leastFilter 18 = .ok (.aload_n 0, 1) := by decide +kernel
theorem dX0_leastFilter_19 : decode cX0_leastFilter 19 = .ok (.iload_n 1, 1) := by decide +kernel
theorem dX0_leastFilter_20 : decode cX0_leastFilter 20 = .ok (.iload 4, 2) := by decide +kernel
theorem dX0_leastFilter_22 : decode cX0_leastFilter 22 = .ok (.invokevirtual 82, 3) := by decide +kernel
theorem dX0_leastFilter_25 : decode cX0_leastFilter 25 = .ok (.istore 5, 2) := by decide +kernel
theorem dX0_leastFilter_27 : decode cX0_leastFilter 27 = .ok (.iload 5, 2) := by decide +kernel
theorem dX0_leastFilter_29 : decode cX0_leastFilter 29 = .ok (.iload_n 3, 1) := by decide +kernel
theorem dX0_leastFilter_30 : decode cX0_leastFilter 30 = .ok (.if_icmp .ge 9, 3) := by decide +kernel
theorem dX0_leastFilter_33 : decode cX0_leastFilter 33 = .ok (.iload 4, 2) := by decide +kernel
theorem dX0_leastFilter_35 : decode cX0_leastFilter 35 = .ok (.istore_n 2, 1) := by decide +kernel
theorem dX0_leastFilter_36 : decode cX0_leastFilter 36 = .ok (.iload 5, 2) := by decide +kernel
theorem dX0_leastFilter_38 : decode cX0_leastFilter 38 = .ok (.istore_n 3, 1) := by decide +kernel
theorem dX0_leastFilter_39 : decode cX0_leastFilter 39 = .ok (.iinc 4 1, 3) := by decide +kernel
theorem dX0_leastFilter_42 : decode cX0_leastFilter 42 = .ok (.goto (-30), 3) := by decide +kernel
theorem dX0_leastFilter_45 : decode cX0_leastFilter 45 = .ok (.iload_n 2, 1) := by decide +kernel
theorem dX0_leastFilter_46 : decode cX0_leastFilter 46 = .ok (.ireturn, 1) := by decide +kernel
theorem dX0_sumTold_0 : decode cX0_sumTold 0 = .ok (.iconst 0, 1) := by decide +kernel
theorem dX0_sumTold_1 : decode cX0_sumTold 1 = .ok (.istore_n 3, 1) := by decide +kernel
theorem dX0_sumTold_2 : decode cX0_sumTold 2 = .ok (.iconst 0, 1) := by decide +kernel
theorem dX0_sumTold_3 : decode cX0_sumTold 3 = .ok (.istore 4, 2) := by decide +kernel
theorem dX0_sumTold_5 : decode cX0_sumTold 5 = .ok (.iload 4, 2) := by decide +kernel
theorem dX0_sumTold_7 : decode cX0_sumTold 7 = .ok (.aload_n 0, 1) := by decide +kernel
theorem dX0_sumTold_8 : decode cX0_sumTold 8 = .ok (.getfield 17, 3) := by decide +kernel
theorem dX0_sumTold_11 : decode cX0_sumTold 11 = .ok (.if_icmp .ge 36, 3) := by decide +kernel
theorem dX0_sumTold_14 : decode cX0_sumTold 14 = .ok (.aload_n 0, 1) := by decide +kernel
theorem dX0_sumTold_15 : decode cX0_sumTold 15 = .ok (.iload_n 1, 1) := by decide +kernel
theorem dX0_sumTold_16 : decode cX0_sumTold 16 = .ok (.iload 4, 2) := by decide +kernel
theorem dX0_sumTold_18 : decode cX0_sumTold 18 = .ok (.invokevirtual 85, 3) := by decide +kernel
theorem dX0_sumTold_21 : decode cX0_sumTold 21 = .ok (.aload_n 0, 1) := by decide +kernel
theorem dX0_sumTold_22 : decode cX0_sumTold 22 = .ok (.iload_n 1, 1) := by decide +kernel
theorem dX0_sumTold_23 : decode cX0_sumTold 23 = .ok (.iload 4, 2) := by decide +kernel
theorem dX0_sumTold_25 : decode cX0_sumTold 25 = .ok (.iload_n 2, 1) := by decide +kernel
theorem dX0_sumTold_26 : decode cX0_sumTold 26 = .ok (.invokevirtual 79, 3) := by decide +kernel
theorem dX0_sumTold_29 : decode cX0_sumTold 29 = .ok (.isub, 1) := by decide +kernel
theorem dX0_sumTold_30 : decode cX0_sumTold 30 = .ok (.i2b, 1) := by decide +kernel
theorem dX0_sumTold_31 : decode cX0_sumTold 31 = .ok (.istore 5, 2) := by decide +kernel
theorem dX0_sumTold_33 : decode cX0_sumTold 33 = .ok (.iload_n 3, 1) := by decide +kernel
theorem dX0_sumTold_34 : decode cX0_sumTold 34 = .ok (.iload 5, 2) := by decide +kernel
theorem dX0_sumTold_36 : decode cX0_sumTold 36 = .ok (.invokestatic 88, 3) := by decide +kernel
theorem dX0_sumTold_39 : decode cX0_sumTold 39 = .ok (.iadd, 1) := by decide +kernel
theorem dX0_sumTold_40 : decode cX0_sumTold 40 = .ok (.istore_n 3, 1) := by decide +kernel
theorem dX0_sumTold_41 : decode cX0_sumTold 41 = .ok (.iinc 4 1, 3) := by decide +kernel
theorem dX0_sumTold_44 : decode cX0_sumTold 44 = .ok (.goto (-39), 3) := by decide +kernel
theorem dX0_sumTold_47 : decode cX0_sumTold 47 = .ok (.iload_n 3, 1) := by decide +kernel
theorem dX0_sumTold_48 : decode cX0_sumTold 48 = .ok (.ireturn, 1) := by decide +kernel
theorem dX0_foretold_0 : decode cX0_foretold 0 = .ok (.aload_n 0, 1) := by decide +kernel
theorem dX0_foretold_1 : decode cX0_foretold 1 = .ok (.iload_n 1, 1) := by decide +kernel
theorem dX0_foretold_2 : decode cX0_foretold 2 = .ok (.iload_n 2, 1) := by decide +kernel
theorem dX0_foretold_3 : decode cX0_foretold 3 = .ok (.aload_n 0, 1) := by decide +kernel
theorem dX0_foretold_4 : decode cX0_foretold 4 = .ok (.getfield 20, 3) := by decide +kernel
theorem dX0_foretold_7 : decode cX0_foretold 7 = .ok (.isub, 1) := by decide +kernel
theorem dX0_foretold_8 : decode cX0_foretold 8 = .ok (.invokevirtual 85, 3) := by decide +kernel
theorem dX0_foretold_11 : decode cX0_foretold 11 = .ok (.istore 4, 2) := by decide +kernel
theorem dX0_foretold_13 : decode cX0_foretold 13 = .ok (.aload_n 0, 1) := by decide +kernel
theorem dX0_foretold_14 : decode cX0_foretold 14 = .ok (.iload_n 1, 1) := by decide +kernel
theorem dX0_foretold_15 : decode cX0_foretold 15 = .ok (.iconst 1, 1) := by decide +kernel
theorem dX0_foretold_16 : decode cX0_foretold 16 = .ok (.isub, 1) := by decide +kernel
theorem dX0_foretold_17 : decode cX0_foretold 17 = .ok (.iload_n 2, 1) := by decide +kernel
theorem dX0_foretold_18 : decode cX0_foretold 18 = .ok (.invokevirtual 85, 3) := by decide +kernel
theorem dX0_foretold_21 : decode cX0_foretold 21 = .ok (.istore 5, 2) := by decide +kernel
theorem dX0_foretold_23 : decode cX0_foretold 23 = .ok (.iload_n 3, 1) := by decide +kernel
theorem dX0_foretold_24 : decode cX0_foretold 24 = .ok (.tableswitch 67 1 4 #[32, 35, 38, 46], 32) := by decide +kernel
theorem dX0_foretold_56 : decode cX0_foretold 56 = .ok (.iload 4, 2) := by decide +kernel
theorem dX0_foretold_58 : decode cX0_foretold 58 = .ok (.ireturn, 1) := by decide +kernel
theorem dX0_foretold_59 : decode cX0_foretold 59 = .ok (.iload 5, 2) := by decide +kernel
theorem dX0_foretold_61 : decode cX0_foretold 61 = .ok (.ireturn, 1) := by decide +kernel
theorem dX0_foretold_62 : decode cX0_foretold 62 = .ok (.iload 4, 2) := by decide +kernel
theorem dX0_foretold_64 : decode cX0_foretold 64 = .ok (.iload 5, 2) := by decide +kernel
theorem dX0_foretold_66 : decode cX0_foretold 66 = .ok (.iadd, 1) := by decide +kernel
theorem dX0_foretold_67 : decode cX0_foretold 67 = .ok (.iconst 2, 1) := by decide +kernel
theorem dX0_foretold_68 : decode cX0_foretold 68 = .ok (.idiv, 1) := by decide +kernel
theorem dX0_foretold_69 : decode cX0_foretold 69 = .ok (.ireturn, 1) := by decide +kernel
theorem dX0_foretold_70 : decode cX0_foretold 70 = .ok (.iload 4, 2) := by decide +kernel
theorem dX0_foretold_72 : decode cX0_foretold 72 = .ok (.iload 5, 2) := by decide +kernel
theorem dX0_foretold_74 : decode cX0_foretold 74 = .ok (.aload_n 0, 1) := by decide +kernel
theorem dX0_foretold_75 : decode cX0_foretold 75 = .ok (.iload_n 1, 1) := by decide +kernel
theorem dX0_foretold_76 : decode cX0_foretold 76 = .ok (.iconst 1, 1) := by decide +kernel
theorem dX0_foretold_77 : decode cX0_foretold 77 = .ok (.isub, 1) := by decide +kernel
theorem dX0_foretold_78 : decode cX0_foretold 78 = .ok (.iload_n 2, 1) := by decide +kernel
theorem dX0_foretold_79 : decode cX0_foretold 79 = .ok (.aload_n 0, 1) := by decide +kernel
theorem dX0_foretold_80 : decode cX0_foretold 80 = .ok (.getfield 20, 3) := by decide +kernel
theorem dX0_foretold_83 : decode cX0_foretold 83 = .ok (.isub, 1) := by decide +kernel
theorem dX0_foretold_84 : decode cX0_foretold 84 = .ok (.invokevirtual 85, 3) := by decide +kernel
theorem dX0_foretold_87 : decode cX0_foretold 87 = .ok (.invokestatic 91, 3) := by decide +kernel
theorem dX0_foretold_90 : decode cX0_foretold 90 = .ok (.ireturn, 1) := by decide +kernel
theorem dX0_foretold_91 : decode cX0_foretold 91 = .ok (.iconst 0, 1) := by decide +kernel
theorem dX0_foretold_92 : decode cX0_foretold 92 = .ok (.ireturn, 1) := by decide +kernel
theorem dX0_nearest_0 : decode cX0_nearest 0 = .ok (.iload_n 0, 1) := by decide +kernel
theorem dX0_nearest_1 : decode cX0_nearest 1 = .ok (.iload_n 1, 1) := by decide +kernel
theorem dX0_nearest_2 : decode cX0_nearest 2 = .ok (.iadd, 1) := by decide +kernel
theorem dX0_nearest_3 : decode cX0_nearest 3 = .ok (.iload_n 2, 1) := by decide +kernel
theorem dX0_nearest_4 : decode cX0_nearest 4 = .ok (.isub, 1) := by decide +kernel
theorem dX0_nearest_5 : decode cX0_nearest 5 = .ok (.istore_n 3, 1) := by decide +kernel
theorem dX0_nearest_6 : decode cX0_nearest 6 = .ok (.iload_n 3, 1) := by decide +kernel
theorem dX0_nearest_7 : decode cX0_nearest 7 = .ok (.iload_n 0, 1) := by decide +kernel
theorem dX0_nearest_8 : decode cX0_nearest 8 = .ok (.isub, 1) := by decide +kernel
theorem dX0_nearest_9 : decode cX0_nearest 9 = .ok (.invokestatic 88, 3) := by decide +kernel
theorem dX0_nearest_12 : decode cX0_nearest 12 = .ok (.istore 4, 2) := by decide +kernel
theorem dX0_nearest_14 : decode cX0_nearest 14 = .ok (.iload_n 3, 1) := by decide +kernel
theorem dX0_nearest_15 : decode cX0_nearest 15 = .ok (.iload_n 1, 1) := by decide +kernel
theorem dX0_nearest_16 : decode cX0_nearest 16 = .ok (.isub, 1) := by decide +kernel
theorem dX0_nearest_17 : decode cX0_nearest 17 = .ok (.invokestatic 88, 3) := by decide +kernel
theorem dX0_nearest_20 : decode cX0_nearest 20 = .ok (.istore 5, 2) := by decide +kernel
theorem dX0_nearest_22 : decode cX0_nearest 22 = .ok (.iload_n 3, 1) := by decide +kernel
theorem dX0_nearest_23 : decode cX0_nearest 23 = .ok (.iload_n 2, 1) := by decide +kernel
theorem dX0_nearest_24 : decode cX0_nearest 24 = .ok (.isub, 1) := by decide +kernel
theorem dX0_nearest_25 : decode cX0_nearest 25 = .ok (.invokestatic 88, 3) := by decide +kernel
theorem dX0_nearest_28 : decode cX0_nearest 28 = .ok (.istore 6, 2) := by decide +kernel
theorem dX0_nearest_30 : decode cX0_nearest 30 = .ok (.iload 4, 2) := by decide +kernel
theorem dX0_nearest_32 : decode cX0_nearest 32 = .ok (.iload 5, 2) := by decide +kernel
theorem dX0_nearest_34 : decode cX0_nearest 34 = .ok (.if_icmp .gt 12, 3) := by decide +kernel
theorem dX0_nearest_37 : decode cX0_nearest 37 = .ok (.iload 4, 2) := by decide +kernel
theorem dX0_nearest_39 : decode cX0_nearest 39 = .ok (.iload 6, 2) := by decide +kernel
theorem dX0_nearest_41 : decode cX0_nearest 41 = .ok (.if_icmp .gt 5, 3) := by decide +kernel
theorem dX0_nearest_44 : decode cX0_nearest 44 = .ok (.iload_n 0, 1) := by decide +kernel
theorem dX0_nearest_45 : decode cX0_nearest 45 = .ok (.ireturn, 1) := by decide +kernel
theorem dX0_nearest_46 : decode cX0_nearest 46 = .ok (.iload 5, 2) := by decide +kernel
theorem dX0_nearest_48 : decode cX0_nearest 48 = .ok (.iload 6, 2) := by decide +kernel
theorem dX0_nearest_50 : decode cX0_nearest 50 = .ok (.if_icmp .gt 7, 3) := by decide +kernel
theorem dX0_nearest_53 : decode cX0_nearest 53 = .ok (.iload_n 1, 1) := by decide +kernel
theorem dX0_nearest_54 : decode cX0_nearest 54 = .ok (.goto 4, 3) := by decide +kernel
theorem dX0_nearest_57 : decode cX0_nearest 57 = .ok (.iload_n 2, 1) := by decide +kernel
theorem dX0_nearest_58 : decode cX0_nearest 58 = .ok (.ireturn, 1) := by decide +kernel
theorem dX0_byteOrZero_0 : decode cX0_byteOrZero 0 = .ok (.iload_n 1, 1) := by decide +kernel
theorem dX0_byteOrZero_1 : decode cX0_byteOrZero 1 = .ok (.ifCond .lt 7, 3) := by decide +kernel
theorem dX0_byteOrZero_4 : decode cX0_byteOrZero 4 = .ok (.iload_n 2, 1) := by decide +kernel
theorem dX0_byteOrZero_5 : decode cX0_byteOrZero 5 = .ok (.ifCond .ge 7, 3) := by decide +kernel
theorem dX0_byteOrZero_8 : decode cX0_byteOrZero 8 = .ok (.iconst 0, 1) := by decide +kernel
theorem dX0_byteOrZero_9 : decode cX0_byteOrZero 9 = .ok (.goto 16, 3) := by decide +kernel
theorem dX0_byteOrZero_12 : decode cX0_byteOrZero 12 = .ok (.aload_n 0, 1) := by decide +kernel
theorem dX0_byteOrZero_13 : decode cX0_byteOrZero 13 = .ok (.getfield 9, 3) := by decide +kernel
theorem dX0_byteOrZero_16 : decode cX0_byteOrZero 16 = .ok (.iload_n 1, 1) := by decide +kernel
theorem dX0_byteOrZero_17 : decode cX0_byteOrZero 17 = .ok (.aload_n 0, 1) := by decide +kernel
theorem dX0_byteOrZero_18 : decode cX0_byteOrZero 18 = .ok (.getfield 17, 3) := by decide +kernel
theorem dX0_byteOrZero_21 : decode cX0_byteOrZero 21 = .ok (.imul, 1) := by decide +kernel
theorem dX0_byteOrZero_22 : decode cX0_byteOrZero 22 = .ok (.iload_n 2, 1) := by decide +kernel
theorem dX0_byteOrZero_23 : decode cX0_byteOrZero 23 = .ok (.iadd, 1) := by decide +kernel
theorem dX0_byteOrZero_24 : decode cX0_byteOrZero 24 = .ok (.iaload, 1) := by decide +kernel
theorem dX0_byteOrZero_25 : decode cX0_byteOrZero 25 = .ok (.ireturn, 1) := by decide +kernel
theorem dX0_pointsAlong_0 : decode cX0_pointsAlong 0 = .ok (.iload_n 0, 1) := by decide +kernel
theorem dX0_pointsAlong_1 : decode cX0_pointsAlong 1 = .ok (.iload_n 1, 1) := by decide +kernel
theorem dX0_pointsAlong_2 : decode cX0_pointsAlong 2 = .ok (.isub, 1) := by decide +kernel
theorem dX0_pointsAlong_3 : decode cX0_pointsAlong 3 = .ok (.iload_n 2, 1) := by decide +kernel
theorem dX0_pointsAlong_4 : decode cX0_pointsAlong 4 = .ok (.iadd, 1) := by decide +kernel
theorem dX0_pointsAlong_5 : decode cX0_pointsAlong 5 = .ok (.iconst 1, 1) := by decide +kernel
theorem dX0_pointsAlong_6 : decode cX0_pointsAlong 6 = .ok (.isub, 1) := by decide +kernel
theorem dX0_pointsAlong_7 : decode cX0_pointsAlong 7 = .ok (.iload_n 2, 1) := by decide +kernel
theorem dX0_pointsAlong_8 : decode cX0_pointsAlong 8 = .ok (.idiv, 1) := by decide +kernel
theorem dX0_pointsAlong_9 : decode cX0_pointsAlong 9 = .ok (.ireturn, 1) := by decide +kernel
theorem dX0_requireByte_0 : decode cX0_requireByte 0 = .ok (.aload_n 0, 1) := by decide +kernel
theorem dX0_requireByte_1 : decode cX0_requireByte 1 = .ok (.iload_n 1, 1) := by decide +kernel
theorem dX0_requireByte_2 : decode cX0_requireByte 2 = .ok (.invokevirtual 37, 3) := by decide +kernel
theorem dX0_requireByte_5 : decode cX0_requireByte 5 = .ok (.iload_n 2, 1) := by decide +kernel
theorem dX0_requireByte_6 : decode cX0_requireByte 6 = .ok (.iconst 0, 1) := by decide +kernel
theorem dX0_requireByte_7 : decode cX0_requireByte 7 = .ok (.aload_n 0, 1) := by decide +kernel
theorem dX0_requireByte_8 : decode cX0_requireByte 8 = .ok (.getfield 17, 3) := by decide +kernel
theorem dX0_requireByte_11 : decode cX0_requireByte 11 = .ok (.iconst 1, 1) := by decide +kernel
theorem dX0_requireByte_12 : decode cX0_requireByte 12 = .ok (.isub, 1) := by decide +kernel
theorem dX0_requireByte_13 : decode cX0_requireByte 13 = .ok (.invokestatic 23, 3) := by decide +kernel
theorem dX0_requireByte_16 : decode cX0_requireByte 16 = .ok (.return_, 1) := by decide +kernel
theorem dX0_requireRow_0 : decode cX0_requireRow 0 = .ok (.iload_n 1, 1) := by decide +kernel
theorem dX0_requireRow_1 : decode cX0_requireRow 1 = .ok (.iconst 0, 1) := by decide +kernel
theorem dX0_requireRow_2 : decode cX0_requireRow 2 = .ok (.aload_n 0, 1) := by decide +kernel
theorem dX0_requireRow_3 : decode cX0_requireRow 3 = .ok (.getfield 13, 3) := by decide +kernel
theorem dX0_requireRow_6 : decode cX0_requireRow 6 = .ok (.iconst 1, 1) := by decide +kernel
theorem dX0_requireRow_7 : decode cX0_requireRow 7 = .ok (.isub, 1) := by decide +kernel
theorem dX0_requireRow_8 : decode cX0_requireRow 8 = .ok (.invokestatic 23, 3) := by decide +kernel
theorem dX0_requireRow_11 : decode cX0_requireRow 11 = .ok (.return_, 1) := by decide +kernel
theorem dX0_requireFilter_0 : decode cX0_requireFilter 0 = .ok (.iload_n 0, 1) := by decide +kernel
theorem dX0_requireFilter_1 : decode cX0_requireFilter 1 = .ok (.iconst 0, 1) := by decide +kernel
theorem dX0_requireFilter_2 : decode cX0_requireFilter 2 = .ok (.iconst 4, 1) := by decide +kernel
theorem dX0_requireFilter_3 : decode cX0_requireFilter 3 = .ok (.invokestatic 23, 3) := by decide +kernel
theorem dX0_requireFilter_6 : decode cX0_requireFilter 6 = .ok (.return_, 1) := by decide +kernel
theorem dX0_requireWithin_0 : decode cX0_requireWithin 0 = .ok (.iload_n 0, 1) := by decide +kernel
theorem dX0_requireWithin_1 : decode cX0_requireWithin 1 = .ok (.iload_n 1, 1) := by decide +kernel
theorem dX0_requireWithin_2 : decode cX0_requireWithin 2 = .ok (.if_icmp .lt 8, 3) := by decide +kernel
theorem dX0_requireWithin_5 : decode cX0_requireWithin 5 = .ok (.iload_n 0, 1) := by decide +kernel
theorem dX0_requireWithin_6 : decode cX0_requireWithin 6 = .ok (.iload_n 2, 1) := by decide +kernel
theorem dX0_requireWithin_7 : decode cX0_requireWithin 7 = .ok (.if_icmp .le 13, 3) := by decide +kernel
theorem dX0_requireWithin_10 : decode cX0_requireWithin 10 = .ok (.new 94, 3) := by decide +kernel
theorem dX0_requireWithin_13 : decode cX0_requireWithin 13 = .ok (.dup, 1) := by decide +kernel
theorem dX0_requireWithin_14 : decode cX0_requireWithin 14 = .ok (.ldc 96, 2) := by decide +kernel
theorem dX0_requireWithin_16 : decode cX0_requireWithin 16 = .ok (.invokespecial 98, 3) := by decide +kernel
theorem dX0_requireWithin_19 : decode cX0_requireWithin 19 = .ok (.athrow, 1) := by decide +kernel
theorem dX0_requireWithin_20 : decode cX0_requireWithin 20 = .ok (.return_, 1) := by decide +kernel
theorem dJ9_abs_0f7a4_0 : decode cJ9_abs_0f7a4 0 = .ok (.iload_n 0, 1) := by decide +kernel
theorem dJ9_abs_0f7a4_1 : decode cJ9_abs_0f7a4 1 = .ok (.ifCond .ge 8, 3) := by decide +kernel
theorem dJ9_abs_0f7a4_4 : decode cJ9_abs_0f7a4 4 = .ok (.iload_n 0, 1) := by decide +kernel
theorem dJ9_abs_0f7a4_5 : decode cJ9_abs_0f7a4 5 = .ok (.ineg, 1) := by decide +kernel
theorem dJ9_abs_0f7a4_6 : decode cJ9_abs_0f7a4 6 = .ok (.goto 4, 3) := by decide +kernel
theorem dJ9_abs_0f7a4_9 : decode cJ9_abs_0f7a4 9 = .ok (.iload_n 0, 1) := by decide +kernel
theorem dJ9_abs_0f7a4_10 : decode cJ9_abs_0f7a4 10 = .ok (.ireturn, 1) := by decide +kernel
theorem dJ9_min_7cf53_0 : decode cJ9_min_7cf53 0 = .ok (.iload_n 0, 1) := by decide +kernel
theorem dJ9_min_7cf53_1 : decode cJ9_min_7cf53 1 = .ok (.iload_n 1, 1) := by decide +kernel
theorem dJ9_min_7cf53_2 : decode cJ9_min_7cf53 2 = .ok (.if_icmp .gt 7, 3) := by decide +kernel
theorem dJ9_min_7cf53_5 : decode cJ9_min_7cf53 5 = .ok (.iload_n 0, 1) := by decide +kernel
theorem dJ9_min_7cf53_6 : decode cJ9_min_7cf53 6 = .ok (.goto 4, 3) := by decide +kernel
theorem dJ9_min_7cf53_9 : decode cJ9_min_7cf53 9 = .ok (.iload_n 1, 1) := by decide +kernel
theorem dJ9_min_7cf53_10 : decode cJ9_min_7cf53 10 = .ok (.ireturn, 1) := by decide +kernel
theorem dJ7_fill_53178_0 : decode cJ7_fill_53178 0 = .ok (.iconst 0, 1) := by decide +kernel
theorem dJ7_fill_53178_1 : decode cJ7_fill_53178 1 = .ok (.istore_n 2, 1) := by decide +kernel
theorem dJ7_fill_53178_2 : decode cJ7_fill_53178 2 = .ok (.aload_n 0, 1) := by decide +kernel
theorem dJ7_fill_53178_3 : decode cJ7_fill_53178 3 = .ok (.arraylength, 1) := by decide +kernel
theorem dJ7_fill_53178_4 : decode cJ7_fill_53178 4 = .ok (.istore_n 3, 1) := by decide +kernel
theorem dJ7_fill_53178_5 : decode cJ7_fill_53178 5 = .ok (.iload_n 2, 1) := by decide +kernel
theorem dJ7_fill_53178_6 : decode cJ7_fill_53178 6 = .ok (.iload_n 3, 1) := by decide +kernel
theorem dJ7_fill_53178_7 : decode cJ7_fill_53178 7 = .ok (.if_icmp .ge 13, 3) := by decide +kernel
theorem dJ7_fill_53178_10 : decode cJ7_fill_53178 10 = .ok (.aload_n 0, 1) := by decide +kernel
theorem dJ7_fill_53178_11 : decode cJ7_fill_53178 11 = .ok (.iload_n 2, 1) := by decide +kernel
theorem dJ7_fill_53178_12 : decode cJ7_fill_53178 12 = .ok (.iload_n 1, 1) := by decide +kernel
theorem dJ7_fill_53178_13 : decode cJ7_fill_53178 13 = .ok (.iastore, 1) := by decide +kernel
theorem dJ7_fill_53178_14 : decode cJ7_fill_53178 14 = .ok (.iinc 2 1, 3) := by decide +kernel
theorem dJ7_fill_53178_17 : decode cJ7_fill_53178 17 = .ok (.goto (-12), 3) := by decide +kernel
theorem dJ7_fill_53178_20 : decode cJ7_fill_53178 20 = .ok (.return_, 1) := by decide +kernel
