theorem dY1_init_0 : decode cY1_init 0 = .ok (.aload_n 0, 1) := by decide +kernel
theorem dY1_init_1 : decode cY1_init 1 = .ok (.invokespecial 1, 3) := by decide +kernel
theorem dY1_init_4 : decode cY1_init 4 = .ok (.aload_n 0, 1) := by decide +kernel
theorem dY1_init_5 : decode cY1_init 5 = .ok (.iconst 1, 1) := by decide +kernel
theorem dY1_init_6 : decode cY1_init 6 = .ok (.putfield 7, 3) := by decide +kernel
theorem dY1_init_9 : decode cY1_init 9 = .ok (.aload_n 0, 1) := by decide +kernel
theorem dY1_init_10 : decode cY1_init 10 = .ok (.iconst 1, 1) := by decide +kernel
theorem dY1_init_11 : decode cY1_init 11 = .ok (.putfield 13, 3) := by decide +kernel
theorem dY1_init_14 : decode cY1_init 14 = .ok (.aload_n 0, 1) := by decide +kernel
theorem dY1_init_15 : decode cY1_init 15 = .ok (.iconst 1, 1) := by decide +kernel
theorem dY1_init_16 : decode cY1_init 16 = .ok (.putfield 16, 3) := by decide +kernel
theorem dY1_init_19 : decode cY1_init 19 = .ok (.aload_n 0, 1) := by decide +kernel
theorem dY1_init_20 : decode cY1_init 20 = .ok (.sipush 4096, 3) := by decide +kernel
theorem dY1_init_23 : decode cY1_init 23 = .ok (.newarray .int, 2) := by decide +kernel
theorem dY1_init_25 : decode cY1_init 25 = .ok (.putfield 19, 3) := by decide +kernel
theorem dY1_init_28 : decode cY1_init 28 = .ok (.aload_n 0, 1) := by decide +kernel
theorem dY1_init_29 : decode cY1_init 29 = .ok (.sipush 4096, 3) := by decide +kernel
theorem dY1_init_32 : decode cY1_init 32 = .ok (.newarray .int, 2) := by decide +kernel
theorem dY1_init_34 : decode cY1_init 34 = .ok (.putfield 23, 3) := by decide +kernel
theorem dY1_init_37 : decode cY1_init 37 = .ok (.return_, 1) := by decide +kernel
theorem dY1_thrown_0 : decode cY1_thrown 0 = .ok (.aload_n 0, 1) := by decide +kernel
theorem dY1_thrown_1 : decode cY1_thrown 1 = .ok (.getfield 26, 3) := by decide +kernel
theorem dY1_thrown_4 : decode cY1_thrown 4 = .ok (.ireturn, 1) := by decide +kernel
theorem dY1_open_0 : decode cY1_open 0 = .ok (.aload_n 0, 1) := by decide +kernel
theorem dY1_open_1 : decode cY1_open 1 = .ok (.iconst 0, 1) := by decide +kernel
theorem dY1_open_2 : decode cY1_open 2 = .ok (.putfield 26, 3) := by decide +kernel
theorem dY1_open_5 : decode cY1_open 5 = .ok (.iload_n 1, 1) := by decide +kernel
theorem dY1_open_6 : decode cY1_open 6 = .ok (.iconst 1, 1) := by decide +kernel
theorem dY1_open_7 : decode cY1_open 7 = .ok (.if_icmp .lt 42, 3) := by decide +kernel
theorem dY1_open_10 : decode cY1_open 10 = .ok (.iload_n 2, 1) := by decide +kernel
theorem dY1_open_11 : decode cY1_open 11 = .ok (.iconst 1, 1) := by decide +kernel
theorem dY1_open_12 : decode cY1_open 12 = .ok (.if_icmp .lt 37, 3) := by decide +kernel
theorem dY1_open_15 : decode cY1_open 15 = .ok (.iload_n 1, 1) := by decide +kernel
theorem dY1_open_16 : decode cY1_open 16 = .ok (.sipush 4096, 3) := by decide +kernel
theorem dY1_open_19 : decode cY1_open 19 = .ok (.if_icmp .gt 30, 3) := by decide +kernel
theorem dY1_open_22 : decode cY1_open 22 = .ok (.iload_n 2, 1) := by decide +kernel
theorem dY1_open_23 : decode cY1_open 23 = .ok (.sipush 4096, 3) := by decide +kernel
theorem dY1_open_26 : decode cY1_open 26 = .ok (.if_icmp .gt 23, 3) := by decide +kernel
theorem dY1_open_29 : decode cY1_open 29 = .ok (.iload_n 1, 1) := by decide +kernel
theorem dY1_open_30 : decode cY1_open 30 = .ok (.iload_n 2, 1) := by decide +kernel
theorem dY1_open_31 : decode cY1_open 31 = .ok (.imul, 1) := by decide +kernel
theorem dY1_open_32 : decode cY1_open 32 = .ok (.sipush 4096, 3) := by decide +kernel
theorem dY1_open_35 : decode cY1_open 35 = .ok (.if_icmp .gt 14, 3) := by decide +kernel
theorem dY1_open_38 : decode cY1_open 38 = .ok (.iload_n 3, 1) := by decide +kernel
theorem dY1_open_39 : decode cY1_open 39 = .ok (.iconst 1, 1) := by decide +kernel
theorem dY1_open_40 : decode cY1_open 40 = .ok (.if_icmp .lt 9, 3) := by decide +kernel
theorem dY1_open_43 : decode cY1_open 43 = .ok (.iload_n 3, 1) := by decide +kernel
theorem dY1_open_44 : decode cY1_open 44 = .ok (.bipush 8, 2) := by decide +kernel
theorem dY1_open_46 : decode cY1_open 46 = .ok (.if_icmp .le 11, 3) := by decide +kernel
theorem dY1_open_49 : decode cY1_open 49 = .ok (.aload_n 0, 1) := by decide +kernel
theorem dY1_open_50 : decode cY1_open 50 = .ok (.iconst 1, 1) := by decide +kernel
theorem dY1_open_51 : decode cY1_open 51 = .ok (.putfield 26, 3) := by decide +kernel
theorem dY1_open_54 : decode cY1_open 54 = .ok (.goto 43, 3) := by decide +kernel
theorem dY1_open_57 : decode cY1_open 57 = .ok (.aload_n 0, 1) := by decide +kernel
theorem dY1_open_58 : decode cY1_open 58 = .ok (.iload_n 1, 1) := by decide +kernel
theorem dY1_open_59 : decode cY1_open 59 = .ok (.putfield 7, 3) := by decide +kernel
theorem dY1_open_62 : decode cY1_open 62 = .ok (.aload_n 0, 1) := by decide +kernel
theorem dY1_open_63 : decode cY1_open 63 = .ok (.iload_n 2, 1) := by decide +kernel
theorem dY1_open_64 : decode cY1_open 64 = .ok (.putfield 13, 3) := by decide +kernel
theorem dY1_open_67 : decode cY1_open 67 = .ok (.aload_n 0, 1) := by decide +kernel
theorem dY1_open_68 : decode cY1_open 68 = .ok (.iload_n 3, 1) := by decide +kernel
theorem dY1_open_69 : decode cY1_open 69 = .ok (.putfield 16, 3) := by decide +kernel
theorem dY1_open_72 : decode cY1_open 72 = .ok (.iconst 0, 1) := by decide +kernel
theorem dY1_open_73 : decode cY1_open 73 = .ok (.istore 4, 2) := by decide +kernel
theorem dY1_open_75 : decode cY1_open 75 = .ok (.iload 4, 2) := by decide +kernel
theorem dY1_open_77 : decode cY1_open 77 = .ok (.iload_n 1, 1) := by decide +kernel
theorem dY1_open_78 : decode cY1_open 78 = .ok (.iload_n 2, 1) := by decide +kernel
theorem dY1_open_79 : decode cY1_open 79 = .ok (.imul, 1) := by decide +kernel
theorem dY1_open_80 : decode cY1_open 80 = .ok (.if_icmp .ge 17, 3) := by decide +kernel
theorem dY1_open_83 : decode cY1_open 83 = .ok (.aload_n 0, 1) := by decide +kernel
theorem dY1_open_84 : decode cY1_open 84 = .ok (.getfield 19, 3) := by decide +kernel
theorem dY1_open_87 : decode cY1_open 87 = .ok (.iload 4, 2) := by decide +kernel
theorem dY1_open_89 : decode cY1_open 89 = .ok (.iconst 0, 1) := by decide +kernel
theorem dY1_open_90 : decode cY1_open 90 = .ok (.iastore, 1) := by decide +kernel
theorem dY1_open_91 : decode cY1_open 91 = .ok (.iinc 4 1, 3) := by decide +kernel
theorem dY1_open_94 : decode cY1_open 94 = .ok (.goto (-19), 3) := by decide +kernel
theorem dY1_open_97 : decode cY1_open 97 = .ok (.return_, 1) := by decide +kernel
theorem dY1_set_0 : decode cY1_set 0 = .ok (.aload_n 0, 1) := by decide +kernel
theorem dY1_set_1 : decode cY1_set 1 = .ok (.iconst 0, 1) := by decide +kernel
theorem dY1_set_2 : decode cY1_set 2 = .ok (.putfield 26, 3) := by decide +kernel
theorem dY1_set_5 : decode cY1_set 5 = .ok (.aload_n 0, 1) := by decide +kernel
theorem dY1_set_6 : decode cY1_set 6 = .ok (.iload_n 1, 1) := by decide +kernel
theorem dY1_set_7 : decode cY1_set 7 = .ok (.iload_n 2, 1) := by decide +kernel
theorem dY1_set_8 : decode cY1_set 8 = .ok (.invokevirtual 29, 3) := by decide +kernel
theorem dY1_set_11 : decode cY1_set 11 = .ok (.ifCond .ne 14, 3) := by decide +kernel
theorem dY1_set_14 : decode cY1_set 14 = .ok (.iload_n 3, 1) := by decide +kernel
theorem dY1_set_15 : decode cY1_set 15 = .ok (.ifCond .lt 10, 3) := by decide +kernel
theorem dY1_set_18 : decode cY1_set 18 = .ok (.iload_n 3, 1) := by decide +kernel
theorem dY1_set_19 : decode cY1_set 19 = .ok (.sipush 255, 3) := by decide +kernel
theorem dY1_set_22 : decode cY1_set 22 = .ok (.if_icmp .le 9, 3) := by decide +kernel
theorem dY1_set_25 : decode cY1_set 25 = .ok (.aload_n 0, 1) := by decide +kernel
theorem dY1_set_26 : decode cY1_set 26 = .ok (.iconst 1, 1) := by decide +kernel
theorem dY1_set_27 : decode cY1_set 27 = .ok (.invokevirtual 33, 3) := by decide +kernel
theorem dY1_set_30 : decode cY1_set 30 = .ok (.ireturn, 1) := by decide +kernel
theorem dY1_set_31 : decode cY1_set 31 = .ok (.aload_n 0, 1) := by decide +kernel
theorem dY1_set_32 : decode cY1_set 32 = .ok (.getfield 19, 3) := by decide +kernel
theorem dY1_set_35 : decode cY1_set 35 = .ok (.iload_n 1, 1) := by decide +kernel
theorem dY1_set_36 : decode cY1_set 36 = .ok (.aload_n 0, 1) := by decide +kernel
theorem dY1_set_37 : decode cY1_set 37 = .ok (.getfield 13, 3) := by decide +kernel
theorem dY1_set_40 : decode cY1_set 40 = .ok (.imul, 1) := by decide +kernel
theorem dY1_set_41 : decode cY1_set 41 = .ok (.iload_n 2, 1) := by decide +kernel
theorem dY1_set_42 : decode cY1_set 42 = .ok (.iadd, 1) := by decide +kernel
theorem dY1_set_43 : decode cY1_set 43 = .ok (.iaload, 1) := by decide +kernel
theorem dY1_set_44 : decode cY1_set 44 = .ok (.istore 4, 2) := by decide +kernel
theorem dY1_set_46 : decode cY1_set 46 = .ok (.aload_n 0, 1) := by decide +kernel
theorem dY1_set_47 : decode cY1_set 47 = .ok (.getfield 19, 3) := by decide +kernel
theorem dY1_set_50 : decode cY1_set 50 = .ok (.iload_n 1, 1) := by decide +kernel
theorem dY1_set_51 : decode cY1_set 51 = .ok (.aload_n 0, 1) := by decide +kernel
theorem dY1_set_52 : decode cY1_set 52 = .ok (.getfield 13, 3) := by decide +kernel
theorem dY1_set_55 : decode cY1_set 55 = .ok (.imul, 1) := by decide +kernel
theorem dY1_set_56 : decode cY1_set 56 = .ok (.iload_n 2, 1) := by decide +kernel
theorem dY1_set_57 : decode cY1_set 57 = .ok (.iadd, 1) := by decide +kernel
theorem dY1_set_58 : decode cY1_set 58 = .ok (.iload_n 3, 1) := by decide +kernel
theorem dY1_set_59 : decode cY1_set 59 = .ok (.iastore, 1) := by decide +kernel
theorem dY1_set_60 : decode cY1_set 60 = .ok (.iload 4, 2) := by decide +kernel
theorem dY1_set_62 : decode cY1_set 62 = .ok (.ireturn, 1) := by decide +kernel
theorem dY1_out_0 : decode cY1_out 0 = .ok (.iload_n 1, 1) := by decide +kernel
theorem dY1_out_1 : decode cY1_out 1 = .ok (.ifCond .lt 23, 3) := by decide +kernel
theorem dY1_out_4 : decode cY1_out 4 = .ok (.iload_n 1, 1) := by decide +kernel
theorem dY1_out_5 : decode cY1_out 5 = .ok (.aload_n 0, 1) := by decide +kernel
theorem dY1_out_6 : decode cY1_out 6 = .ok (.getfield 7, 3) := by decide +kernel
theorem dY1_out_9 : decode cY1_out 9 = .ok (.if_icmp .ge 15, 3) := by decide +kernel
theorem dY1_out_12 : decode cY1_out 12 = .ok (.iload_n 2, 1) := by decide +kernel
theorem dY1_out_13 : decode cY1_out 13 = .ok (.ifCond .lt 11, 3) := by decide +kernel
theorem dY1_out_16 : decode cY1_out 16 = .ok (.iload_n 2, 1) := by decide +kernel
theorem dY1_out_17 : decode cY1_out 17 = .ok (.aload_n 0, 1) := by decide +kernel
theorem dY1_out_18 : decode cY1_out 18 = .ok (.getfield 13, 3) := by decide +kernel
theorem dY1_out_21 : decode cY1_out 21 = .ok (.if_icmp .lt 7, 3) := by decide +kernel
theorem dY1_out_24 : decode cY1_out 24 = .ok (.iconst 1, 1) := by decide +kernel
theorem dY1_out_25 : decode cY1_out 25 = .ok (.goto 4, 3) := by decide +kernel
theorem dY1_out_28 : decode cY1_out 28 = .ok (.iconst 0, 1) := by decide +kernel
theorem dY1_out_29 : decode cY1_out 29 = .ok (.ireturn, 1) := by decide +kernel
theorem dY1_fail_0 : decode cY1_fail 0 = .ok (.aload_n 0, 1) := by decide +kernel
theorem dY1_fail_1 : decode cY1_fail 1 = .ok (.iload_n 1, 1) := by decide +kernel
theorem dY1_fail_2 : decode cY1_fail 2 = .ok (.putfield 26, 3) := by decide +kernel
theorem dY1_fail_5 : decode cY1_fail 5 = .ok (.iconst 0, 1) := by decide +kernel
theorem dY1_fail_6 : decode cY1_fail 6 = .ok (.ireturn, 1) := by decide +kernel
theorem dY1_get_0 : decode cY1_get 0 = .ok (.aload_n 0, 1) := by decide +kernel
theorem dY1_get_1 : decode cY1_get 1 = .ok (.iconst 0, 1) := by decide +kernel
theorem dY1_get_2 : decode cY1_get 2 = .ok (.putfield 26, 3) := by decide +kernel
theorem dY1_get_5 : decode cY1_get 5 = .ok (.aload_n 0, 1) := by decide +kernel
theorem dY1_get_6 : decode cY1_get 6 = .ok (.iload_n 1, 1) := by decide +kernel
theorem dY1_get_7 : decode cY1_get 7 = .ok (.iload_n 2, 1) := by decide +kernel
theorem dY1_get_8 : decode cY1_get 8 = .ok (.invokevirtual 29, 3) := by decide +kernel
theorem dY1_get_11 : decode cY1_get 11 = .ok (.ifCond .eq 11, 3) := by decide +kernel
theorem dY1_get_14 : decode cY1_get 14 = .ok (.aload_n 0, 1) := by decide +kernel
theorem dY1_get_15 : decode cY1_get 15 = .ok (.iconst 1, 1) := by decide +kernel
theorem dY1_get_16 : decode cY1_get 16 = .ok (.invokevirtual 33, 3) := by decide +kernel
theorem dY1_get_19 : decode cY1_get 19 = .ok (.goto 16, 3) := by decide +kernel
theorem dY1_get_22 : decode cY1_get 22 = .ok (.aload_n 0, 1) := by decide +kernel
theorem dY1_get_23 : decode cY1_get 23 = .ok (.getfield 19, 3) := by decide +kernel
theorem dY1_get_26 : decode cY1_get 26 = .ok (.iload_n 1, 1) := by decide +kernel
theorem dY1_get_27 : decode cY1_get 27 = .ok (.aload_n 0, 1) := by decide +kernel
theorem dY1_get_28 : decode cY1_get 28 = .ok (.getfield 13, 3) := by decide +kernel
theorem dY1_get_31 : decode cY1_get 31 = .ok (.imul, 1) := by decide +kernel
theorem dY1_get_32 : decode cY1_get 32 = .ok (.iload_n 2, 1) := by decide +kernel
theorem dY1_get_33 : decode cY1_get 33 = .ok (.iadd, 1) := by decide +kernel
theorem dY1_get_34 : decode cY1_get 34 = .ok (.iaload, 1) := by decide +kernel
theorem dY1_get_35 : decode cY1_get 35 = .ok (.ireturn, 1) := by decide +kernel
theorem dY1_fill_0 : decode cY1_fill 0 = .ok (.aload_n 0, 1) := by decide +kernel
theorem dY1_fill_1 : decode cY1_fill 1 = .ok (.iconst 0, 1) := by decide +kernel
theorem dY1_fill_2 : decode cY1_fill 2 = .ok (.putfield 26, 3) := by decide +kernel
theorem dY1_fill_5 : decode cY1_fill 5 = .ok (.iconst 0, 1) := by decide +kernel
theorem dY1_fill_6 : decode cY1_fill 6 = .ok (.istore 4, 2) := by decide +kernel
theorem dY1_fill_8 : decode cY1_fill 8 = .ok (.iload 4, 2) := by decide +kernel
theorem dY1_fill_10 : decode cY1_fill 10 = .ok (.aload_n 0, 1) := by decide +kernel
theorem dY1_fill_11 : decode cY1_fill 11 = .ok (.getfield 7, 3) := by decide +kernel
theorem dY1_fill_14 : decode cY1_fill 14 = .ok (.aload_n 0, 1) := by decide +kernel
theorem dY1_fill_15 : decode cY1_fill 15 = .ok (.getfield 13, 3) := by decide +kernel
theorem dY1_fill_18 : decode cY1_fill 18 = .ok (.imul, 1) := by decide +kernel
theorem dY1_fill_19 : decode cY1_fill 19 = .ok (.if_icmp .ge 33, 3) := by decide +kernel
theorem dY1_fill_22 : decode cY1_fill 22 = .ok (.aload_n 0, 1) := by decide +kernel
theorem dY1_fill_23 : decode cY1_fill 23 = .ok (.getfield 19, 3) := by decide +kernel
theorem dY1_fill_26 : decode cY1_fill 26 = .ok (.iload 4, 2) := by decide +kernel
theorem dY1_fill_28 : decode cY1_fill 28 = .ok (.iload_n 1, 1) := by decide +kernel
theorem dY1_fill_29 : decode cY1_fill 29 = .ok (.iload 4, 2) := by decide +kernel
theorem dY1_fill_31 : decode cY1_fill 31 = .ok (.imul, 1) := by decide +kernel
theorem dY1_fill_32 : decode cY1_fill 32 = .ok (.iload 4, 2) := by decide +kernel
theorem dY1_fill_34 : decode cY1_fill 34 = .ok (.imul, 1) := by decide +kernel
theorem dY1_fill_35 : decode cY1_fill 35 = .ok (.iload_n 2, 1) := by decide +kernel
theorem dY1_fill_36 : decode cY1_fill 36 = .ok (.iload 4, 2) := by decide +kernel
theorem dY1_fill_38 : decode cY1_fill 38 = .ok (.imul, 1) := by decide +kernel
theorem dY1_fill_39 : decode cY1_fill 39 = .ok (.iadd, 1) := by decide +kernel
theorem dY1_fill_40 : decode cY1_fill 40 = .ok (.iload_n 3, 1) := by decide +kernel
theorem dY1_fill_41 : decode cY1_fill 41 = .ok (.iadd, 1) := by decide +kernel
theorem dY1_fill_42 : decode cY1_fill 42 = .ok (.bipush 24, 2) := by decide +kernel
theorem dY1_fill_44 : decode cY1_fill 44 = .ok (.iushr, 1) := by decide +kernel
theorem dY1_fill_45 : decode cY1_fill 45 = .ok (.iastore, 1) := by decide +kernel
theorem dY1_fill_46 : decode cY1_fill 46 = .ok (.iinc 4 1, 3) := by decide +kernel
theorem dY1_fill_49 : decode cY1_fill 49 = .ok (.goto (-41), 3) := by decide +kernel
theorem dY1_fill_52 : decode cY1_fill 52 = .ok (.return_, 1) := by decide +kernel
theorem dY1_filter_0 : decode cY1_filter 0 = .ok (.aload_n 0, 1) := by decide +kernel
theorem dY1_filter_1 : decode cY1_filter 1 = .ok (.iconst 0, 1) := by decide +kernel
theorem dY1_filter_2 : decode cY1_filter 2 = .ok (.putfield 26, 3) := by decide +kernel
theorem dY1_filter_5 : decode cY1_filter 5 = .ok (.aload_n 0, 1) := by decide +kernel
theorem dY1_filter_6 : decode cY1_filter 6 = .ok (.iload_n 1, 1) := by decide +kernel
theorem dY1_filter_7 : decode cY1_filter 7 = .ok (.iload_n 2, 1) := by decide +kernel
theorem dY1_filter_8 : decode cY1_filter 8 = .ok (.invokevirtual 50, 3) := by decide +kernel
theorem dY1_filter_11 : decode cY1_filter 11 = .ok (.ifCond .eq 11, 3) := by decide +kernel
theorem dY1_filter_14 : decode cY1_filter 14 = .ok (.aload_n 0, 1) := by decide +kernel
theorem dY1_filter_15 : decode cY1_filter 15 = .ok (.iconst 1, 1) := by decide +kernel
theorem dY1_filter_16 : decode cY1_filter 16 = .ok (.putfield 26, 3) := by decide +kernel
theorem dY1_filter_19 : decode cY1_filter 19 = .ok (.goto 54, 3) := by decide +kernel
theorem dY1_filter_22 : decode cY1_filter 22 = .ok (.aload_n 0, 1) := by decide +kernel
theorem dY1_filter_23 : decode cY1_filter 23 = .ok (.iload_n 1, 1) := by decide +kernel
theorem dY1_filter_24 : decode cY1_filter 24 = .ok (.iload_n 2, 1) := by decide +kernel
theorem dY1_filter_25 : decode cY1_filter 25 = .ok (.invokevirtual 53, 3) := by decide +kernel
theorem dY1_filter_28 : decode cY1_filter 28 = .ok (.istore_n 3, 1) := by decide +kernel
theorem dY1_filter_29 : decode cY1_filter 29 = .ok (.iload_n 1, 1) := by decide +kernel
theorem dY1_filter_30 : decode cY1_filter 30 = .ok (.aload_n 0, 1) := by decide +kernel
theorem dY1_filter_31 : decode cY1_filter 31 = .ok (.getfield 13, 3) := by decide +kernel
theorem dY1_filter_34 : decode cY1_filter 34 = .ok (.imul, 1) := by decide +kernel
theorem dY1_filter_35 : decode cY1_filter 35 = .ok (.istore 4, 2) := by decide +kernel
theorem dY1_filter_37 : decode cY1_filter 37 = .ok (.iload 4, 2) := by decide +kernel
theorem dY1_filter_39 : decode cY1_filter 39 = .ok (.iload_n 1, 1) := by decide +kernel
theorem dY1_filter_40 : decode cY1_filter 40 = .ok (.aload_n 0, 1) := by decide +kernel
theorem dY1_filter_41 : decode cY1_filter 41 = .ok (.getfield 13, 3) := by decide +kernel
theorem dY1_filter_44 : decode cY1_filter 44 = .ok (.imul, 1) := by decide +kernel
theorem dY1_filter_45 : decode cY1_filter 45 = .ok (.aload_n 0, 1) := by decide +kernel
theorem dY1_filter_46 : decode cY1_filter 46 = .ok (.getfield 13, 3) := by decide +kernel
theorem dY1_filter_49 : decode cY1_filter 49 = .ok (.iadd, 1) := by decide +kernel
theorem dY1_filter_50 : decode cY1_filter 50 = .ok (.if_icmp .ge 23, 3) := by decide +kernel
theorem dY1_filter_53 : decode cY1_filter 53 = .ok (.aload_n 0, 1) := by decide +kernel
theorem dY1_filter_54 : decode cY1_filter 54 = .ok (.getfield 19, 3) := by decide +kernel
theorem dY1_filter_57 : decode cY1_filter 57 = .ok (.iload 4, 2) := by decide +kernel
theorem dY1_filter_59 : decode cY1_filter 59 = .ok (.aload_n 0, 1) := by decide +kernel
theorem dY1_filter_60 : decode cY1_filter 60 = .ok (.getfield 23, 3) := by decide +kernel
theorem dY1_filter_63 : decode cY1_filter 63 = .ok (.iload 4, 2) := by decide +kernel
theorem dY1_filter_65 : decode cY1_filter 65 = .ok (.iaload, 1) := by decide +kernel
theorem dY1_filter_66 : decode cY1_filter 66 = .ok (.iastore, 1) := by decide +kernel
theorem dY1_filter_67 : decode cY1_filter 67 = .ok (.iinc 4 1, 3) := by decide +kernel
theorem dY1_filter_70 : decode cY1_filter 70 = .ok (.goto (-33), 3) := by decide +kernel
theorem dY1_filter_73 : decode cY1_filter 73 = .ok (.return_, 1) := by decide +kernel
theorem dY1_bad_0 : decode cY1_bad 0 = .ok (.iload_n 1, 1) := by decide +kernel
theorem dY1_bad_1 : decode cY1_bad 1 = .ok (.ifCond .lt 20, 3) := by decide +kernel
theorem dY1_bad_4 : decode cY1_bad 4 = .ok (.iload_n 1, 1) := by decide +kernel
theorem dY1_bad_5 : decode cY1_bad 5 = .ok (.aload_n 0, 1) := by decide +kernel
theorem dY1_bad_6 : decode cY1_bad 6 = .ok (.getfield 7, 3) := by decide +kernel
theorem dY1_bad_9 : decode cY1_bad 9 = .ok (.if_icmp .ge 12, 3) := by decide +kernel
theorem dY1_bad_12 : decode cY1_bad 12 = .ok (.iload_n 2, 1) := by decide +kernel
theorem dY1_bad_13 : decode cY1_bad 13 = .ok (.ifCond .lt 8, 3) := by decide +kernel
theorem dY1_bad_16 : decode cY1_bad 16 = .ok (.iload_n 2, 1) := by decide +kernel
theorem dY1_bad_17 : decode cY1_bad 17 = .ok (.iconst 4, 1) := by decide +kernel
theorem dY1_bad_18 : decode cY1_bad 18 = .ok (.if_icmp .le 7, 3) := by decide +kernel
theorem dY1_bad_21 : decode cY1_bad 21 = .ok (.iconst 1, 1) := by decide +kernel
theorem dY1_bad_22 : decode cY1_bad 22 = .ok (.goto 4, 3) := by decide +kernel
theorem dY1_bad_25 : decode cY1_bad 25 = .ok (.iconst 0, 1) := by decide +kernel
theorem dY1_bad_26 : decode cY1_bad 26 = .ok (.ireturn, 1) := by decide +kernel
theorem dY1_tell_0 : decode cY1_tell 0 = .ok (.iconst 0, 1) := by decide +kernel
theorem dY1_tell_1 : decode cY1_tell 1 = .ok (.istore_n 3, 1) := by decide +kernel
theorem dY1_tell_2 : decode cY1_tell 2 = .ok (.iconst 0, 1) := by decide +kernel
theorem dY1_tell_3 : decode cY1_tell 3 = .ok (.istore 4, 2) := by decide +kernel
theorem dY1_tell_5 : decode cY1_tell 5 = .ok (.iload 4, 2) := by decide +kernel
theorem dY1_tell_7 : decode cY1_tell 7 = .ok (.aload_n 0, 1) := by decide +kernel
theorem dY1_tell_8 : decode cY1_tell 8 = .ok (.getfield 13, 3) := by decide +kernel
theorem dY1_tell_11 : decode cY1_tell 11 = .ok (.if_icmp .ge 76, 3) := by decide +kernel
theorem dY1_tell_14 : decode cY1_tell 14 = .ok (.aload_n 0, 1) := by decide +kernel
theorem dY1_tell_15 : decode cY1_tell 15 = .ok (.getfield 19, 3) := by decide +kernel
theorem dY1_tell_18 : decode cY1_tell 18 = .ok (.iload_n 1, 1) := by decide +kernel
theorem dY1_tell_19 : decode cY1_tell 19 = .ok (.aload_n 0, 1) := by decide +kernel
theorem dY1_tell_20 : decode cY1_tell 20 = .ok (.getfield 13, 3) := by decide +kernel
theorem dY1_tell_23 : decode cY1_tell 23 = .ok (.imul, 1) := by decide +kernel
theorem dY1_tell_24 : decode cY1_tell 24 = .ok (.iload 4, 2) := by decide +kernel
theorem dY1_tell_26 : decode cY1_tell 26 = .ok (.iadd, 1) := by decide +kernel
theorem dY1_tell_27 : decode cY1_tell 27 = .ok (.iaload, 1) := by decide +kernel
theorem dY1_tell_28 : decode cY1_tell 28 = .ok (.aload_n 0, 1) := by decide +kernel
theorem dY1_tell_29 : decode cY1_tell 29 = .ok (.iload_n 1, 1) := by decide +kernel
theorem dY1_tell_30 : decode cY1_tell 30 = .ok (.iload 4, 2) := by decide +kernel
theorem dY1_tell_32 : decode cY1_tell 32 = .ok (.iload_n 2, 1) := by decide +kernel
theorem dY1_tell_33 : decode cY1_tell 33 = .ok (.invokevirtual 46, 3) := by decide +kernel
theorem dY1_tell_36 : decode cY1_tell 36 = .ok (.isub, 1) := by decide +kernel
theorem dY1_tell_37 : decode cY1_tell 37 = .ok (.sipush 255, 3) := by decide +kernel
theorem dY1_tell_40 : decode cY1_tell 40 = .ok (.iand, 1) := by decide +kernel
theorem dY1_tell_41 : decode cY1_tell 41 = .ok (.istore 5, 2) := by decide +kernel
theorem dY1_tell_43 : decode cY1_tell 43 = .ok (.aload_n 0, 1) := by decide +kernel
theorem dY1_tell_44 : decode cY1_tell 44 = .ok (.getfield 23, 3) := by decide +kernel
theorem dY1_tell_47 : decode cY1_tell 47 = .ok (.iload_n 1, 1) := by decide +kernel
theorem dY1_tell_48 : decode cY1_tell 48 = .ok (.aload_n 0, 1) := by decide +kernel
theorem dY1_tell_49 : decode cY1_tell 49 = .ok (.getfield 13, 3) := by decide +kernel
theorem dY1_tell_52 : decode cY1_tell 52 = .ok (.imul, 1) := by decide +kernel
theorem dY1_tell_53 : decode cY1_tell 53 = .ok (.iload 4, 2) := by decide +kernel
theorem dY1_tell_55 : decode cY1_tell 55 = .ok (.iadd, 1) := by decide +kernel
theorem dY1_tell_56 : decode cY1_tell 56 = .ok (.iload 5, 2) := by decide +kernel
theorem dY1_tell_58 : decode cY1_tell 58 = .ok (.iastore, 1) := by decide +kernel
theorem dY1_tell_59 : decode cY1_tell 59 = .ok (.iload_n 3, 1) := by decide +kernel
theorem dY1_tell_60 : decode cY1_tell 60 = .ok (.iload 5, 2) := by decide +kernel
theorem dY1_tell_62 : decode cY1_tell 62 = .ok (.sipush 128, 3) := by decide +kernel
theorem dY1_tell_65 : decode cY1_tell 65 = .ok (.if_icmp .ge 8, 3) := by decide +kernel
theorem dY1_tell_68 : decode cY1_tell 68 = .ok (.iload 5, 2) := by decide +kernel
theorem dY1_tell_70 : decode cY1_tell 70 = .ok (.goto 9, 3) := by decide +kernel
theorem dY1_tell_73 : decode cY1_tell 73 = .ok (.sipush 256, 3) := by decide +kernel
theorem dY1_tell_76 : decode cY1_tell 76 = .ok (.iload 5, 2) := by decide +kernel
theorem dY1_tell_78 : decode cY1_tell 78 = .ok (.isub, 1) := by decide +kernel
theorem dY1_tell_79 : decode cY1_tell 79 = .ok (.iadd, 1) := by decide +kernel
theorem dY1_tell_80 : decode cY1_tell 80 = .ok (.istore_n 3, 1) := by decide +kernel
theorem dY1_tell_81 : decode cY1_tell 81 = .ok (.iinc 4 1, 3) := by decide +kernel
theorem dY1_tell_84 : decode cY1_tell 84 = .ok (.goto (-79), 3) := by decide +kernel
theorem dY1_tell_87 : decode cY1_tell 87 = .ok (.iload_n 3, 1) := by decide +kernel
theorem dY1_tell_88 : decode cY1_tell 88 = .ok (.ireturn, 1) := by decide +kernel
theorem dY1_guess_0 : decode cY1_guess 0 = .ok (.aload_n 0, 1) := by decide +kernel
theorem dY1_guess_1 : decode cY1_guess 1 = .ok (.iload_n 1, 1) := by decide +kernel
theorem dY1_guess_2 : decode cY1_guess 2 = .ok (.iload_n 2, 1) := by decide +kernel
theorem dY1_guess_3 : decode cY1_guess 3 = .ok (.aload_n 0, 1) := by decide +kernel
theorem dY1_guess_4 : decode cY1_guess 4 = .ok (.getfield 16, 3) := by decide +kernel
theorem dY1_guess_7 : decode cY1_guess 7 = .ok (.isub, 1) := by decide +kernel
theorem dY1_guess_8 : decode cY1_guess 8 = .ok (.invokevirtual 37, 3) := by decide +kernel
theorem dY1_guess_11 : decode cY1_guess 11 = .ok (.istore 4, 2) := by decide +kernel
theorem dY1_guess_13 : decode cY1_guess 13 = .ok (.aload_n 0, 1) := by decide +kernel
theorem dY1_guess_14 : decode cY1_guess 14 = .ok (.iload_n 1, 1) := by decide +kernel
theorem dY1_guess_15 : decode cY1_guess 15 = .ok (.iconst 1, 1) := by decide +kernel
theorem dY1_guess_16 : decode cY1_guess 16 = .ok (.isub, 1) := by decide +kernel
theorem dY1_guess_17 : decode cY1_guess 17 = .ok (.iload_n 2, 1) := by decide +kernel
theorem dY1_guess_18 : decode cY1_guess 18 = .ok (.invokevirtual 37, 3) := by decide +kernel
theorem dY1_guess_21 : decode cY1_guess 21 = .ok (.istore 5, 2) := by decide +kernel
theorem dY1_guess_23 : decode cY1_guess 23 = .ok (.aload_n 0, 1) := by decide +kernel
theorem dY1_guess_24 : decode cY1_guess 24 = .ok (.iload_n 1, 1) := by decide +kernel
theorem dY1_guess_25 : decode cY1_guess 25 = .ok (.iconst 1, 1) := by decide +kernel
theorem dY1_guess_26 : decode cY1_guess 26 = .ok (.isub, 1) := by decide +kernel
theorem dY1_guess_27 : decode cY1_guess 27 = .ok (.iload_n 2, 1) := by decide +kernel
theorem dY1_guess_28 : decode cY1_guess 28 = .ok (.aload_n 0, 1) := by decide +kernel
theorem dY1_guess_29 : decode cY1_guess 29 = .ok (.getfield 16, 3) := by decide +kernel
theorem dY1_guess_32 : decode cY1_guess 32 = .ok (.isub, 1) := by decide +kernel
theorem dY1_guess_33 : decode cY1_guess 33 = .ok (.invokevirtual 37, 3) := by decide +kernel
theorem dY1_guess_36 : decode cY1_guess 36 = .ok (.istore 6, 2) := by decide +kernel
theorem dY1_guess_38 : decode cY1_guess 38 = .ok (.iload_n 3, 1) := by decide +kernel
theorem dY1_guess_39 : decode cY1_guess 39 = .ok (.ifCond .ne 5, 3) := by decide +kernel
theorem dY1_guess_42 : decode cY1_guess 42 = .ok (.iconst 0, 1) := by decide +kernel
theorem dY1_guess_43 : decode cY1_guess 43 = .ok (.ireturn, 1) := by decide +kernel
theorem dY1_guess_44 : decode cY1_guess 44 = .ok (.iload_n 3, 1) := by decide +kernel
theorem dY1_guess_45 : decode cY1_guess 45 = .ok (.iconst 1, 1) := by decide +kernel
theorem dY1_guess_46 : decode cY1_guess 46 = .ok (.if_icmp .ne 6, 3) := by decide +kernel
theorem dY1_guess_49 : decode cY1_guess 49 = .ok (.iload 4, 2) := by decide +kernel
theorem dY1_guess_51 : decode cY1_guess 51 = .ok (.ireturn, 1) := by decide +kernel
theorem dY1_guess_52 : decode cY1_guess 52 = .ok (.iload_n 3, 1) := by decide +kernel
theorem dY1_guess_53 : decode cY1_guess 53 = .ok (.iconst 2, 1) := by decide +kernel
theorem dY1_guess_54 : decode cY1_guess 54 = .ok (.if_icmp .ne 6, 3) := by decide +kernel
theorem dY1_guess_57 : decode cY1_guess 57 = .ok (.iload 5, 2) := by decide +kernel
theorem dY1_guess_59 : decode cY1_guess 59 = .ok (.ireturn, 1) := by decide +kernel
theorem dY1_guess_60 : decode cY1_guess 60 = .ok (.iload_n 3, 1) := by decide +kernel
theorem dY1_guess_61 : decode cY1_guess 61 = .ok (.iconst 3, 1) := by decide +kernel
theorem dY1_guess_62 : decode cY1_guess 62 = .ok (.if_icmp .ne 11, 3) := by decide +kernel
theorem dY1_guess_65 : decode cY1_guess 65 = .ok (.iload 4, 2) := by decide +kernel
theorem dY1_guess_67 : decode cY1_guess 67 = .ok (.iload 5, 2) := by decide +kernel
theorem dY1_guess_69 : decode cY1_guess 69 = .ok (.iadd, 1) := by decide +kernel
theorem dY1_guess_70 : decode cY1_guess 70 = .ok (.iconst 2, 1) := by decide +kernel
theorem dY1_guess_71 : decode cY1_guess 71 = .ok (.idiv, 1) := by decide +kernel
theorem dY1_guess_72 : decode cY1_guess 72 = .ok (.ireturn, 1) := by decide +kernel
theorem dY1_guess_73 : decode cY1_guess 73 = .ok (.iload 4, 2) := by decide +kernel
theorem dY1_guess_75 : decode cY1_guess 75 = .ok (.iload 5, 2) := by decide +kernel
theorem dY1_guess_77 : decode cY1_guess 77 = .ok (.iadd, 1) := by decide +kernel
theorem dY1_guess_78 : decode cY1_guess 78 = .ok (.iload 6, 2) := by decide +kernel
theorem dY1_guess_80 : decode cY1_guess 80 = .ok (.isub, 1) := by decide +kernel
theorem dY1_guess_81 : decode cY1_guess 81 = .ok (.istore 7, 2) := by decide +kernel
theorem dY1_guess_83 : decode cY1_guess 83 = .ok (.iload 7, 2) := by decide +kernel
theorem dY1_guess_85 : decode cY1_guess 85 = .ok (.iload 4, 2) := by decide +kernel
theorem dY1_guess_87 : decode cY1_guess 87 = .ok (.isub, 1) := by decide +kernel
theorem dY1_guess_88 : decode cY1_guess 88 = .ok (.invokestatic 41, 3) := by decide +kernel
theorem dY1_guess_91 : decode cY1_guess 91 = .ok (.istore 8, 2) := by decide +kernel
theorem dY1_guess_93 : decode cY1_guess 93 = .ok (.iload 7, 2) := by decide +kernel
theorem dY1_guess_95 : decode cY1_guess 95 = .ok (.iload 5, 2) := by decide +kernel
theorem dY1_guess_97 : decode cY1_guess 97 = .ok (.isub, 1) := by decide +kernel
theorem dY1_guess_98 : decode cY1_guess 98 = .ok (.invokestatic 41, 3) := by decide +kernel
theorem dY1_guess_101 : decode cY1_guess 101 = .ok (.istore 9, 2) := by decide +kernel
theorem dY1_guess_103 : decode cY1_guess 103 = .ok (.iload 7, 2) := by decide +kernel
theorem dY1_guess_105 : decode cY1_guess 105 = .ok (.iload 6, 2) := by decide +kernel
theorem dY1_guess_107 : decode cY1_guess 107 = .ok (.isub, 1) := by decide +kernel
theorem dY1_guess_108 : decode cY1_guess 108 = .ok (.invokestatic 41, 3) := by decide +kernel
theorem dY1_guess_111 : decode cY1_guess 111 = .ok (.istore 10, 2) := by decide +kernel
theorem dY1_guess_113 : decode cY1_guess 113 = .ok (.iload 8, 2) := by decide +kernel
theorem dY1_guess_115 : decode cY1_guess 115 = .ok (.iload 9, 2) := by decide +kernel
theorem dY1_guess_117 : decode cY1_guess 117 = .ok (.if_icmp .gt 15, 3) := by decide +kernel
theorem dY1_guess_120 : decode cY1_guess 120 = .ok (.iload 8, 2) := by decide +kernel
theorem dY1_guess_122 : decode cY1_guess 122 = .ok (.iload 10, 2) := by decide +kernel
theorem dY1_guess_124 : decode cY1_guess 124 = .ok (.if_icmp .gt 8, 3) := by decide +kernel
theorem dY1_guess_127 : decode cY1_guess 127 = .ok (.iload 4, 2) := by decide +kernel
theorem dY1_guess_129 : decode cY1_guess 129 = .ok (.goto 17, 3) := by decide +kernel
theorem dY1_guess_132 : decode cY1_guess 132 = .ok (.iload 9, 2) := by decide +kernel
theorem dY1_guess_134 : decode cY1_guess 134 = .ok (.iload 10, 2) := by decide +kernel
theorem dY1_guess_136 : decode cY1_guess 136 = .ok (.if_icmp .gt 8, 3) := by decide +kernel
theorem dY1_guess_139 : decode cY1_guess 139 = .ok (.iload 5, 2) := by decide +kernel
theorem dY1_guess_141 : decode cY1_guess 141 = .ok (.goto 5, 3) := by decide +kernel
theorem dY1_guess_144 : decode cY1_guess 144 = .ok (.iload 6, 2) := by decide +kernel
theorem dY1_guess_146 : decode cY1_guess 146 = .ok (.ireturn, 1) := by decide +kernel
theorem dY1_at_0 : decode cY1_at 0 = .ok (.iload_n 1, 1) := by decide +kernel
theorem dY1_at_1 : decode cY1_at 1 = .ok (.ifCond .lt 7, 3) := by decide +kernel
theorem dY1_at_4 : decode cY1_at 4 = .ok (.iload_n 2, 1) := by decide +kernel
theorem dY1_at_5 : decode cY1_at 5 = .ok (.ifCond .ge 7, 3) := by decide +kernel
theorem dY1_at_8 : decode cY1_at 8 = .ok (.iconst 0, 1) := by decide +kernel
theorem dY1_at_9 : decode cY1_at 9 = .ok (.goto 16, 3) := by decide +kernel
theorem dY1_at_12 : decode cY1_at 12 = .ok (.aload_n 0, 1) := by decide +kernel
theorem dY1_at_13 : decode cY1_at 13 = .ok (.getfield 19, 3) := by decide +kernel
theorem dY1_at_16 : decode cY1_at 16 = .ok (.iload_n 1, 1) := by decide +kernel
theorem dY1_at_17 : decode cY1_at 17 = .ok (.aload_n 0, 1) := by decide +kernel
theorem dY1_at_18 : decode cY1_at 18 = .ok (.getfield 13, 3) := by decide +kernel
theorem dY1_at_21 : decode cY1_at 21 = .ok (.imul, 1) := by decide +kernel
theorem dY1_at_22 : decode cY1_at 22 = .ok (.iload_n 2, 1) := by decide +kernel
theorem dY1_at_23 : decode cY1_at 23 = .ok (.iadd, 1) := by decide +kernel
theorem dY1_at_24 : decode cY1_at 24 = .ok (.iaload, 1) := by decide +kernel
theorem dY1_at_25 : decode cY1_at 25 = .ok (.ireturn, 1) := by decide +kernel
theorem dY1_plain_0 : decode cY1_plain 0 = .ok (.aload_n 0, 1) := by decide +kernel
theorem dY1_plain_1 : decode cY1_plain 1 = .ok (.iconst 0, 1) := by decide +kernel
theorem dY1_plain_2 : decode cY1_plain 2 = .ok (.putfield 26, 3) := by decide +kernel
theorem dY1_plain_5 : decode cY1_plain 5 = .ok (.aload_n 0, 1) := by decide +kernel
theorem dY1_plain_6 : decode cY1_plain 6 = .ok (.iload_n 1, 1) := by decide +kernel
theorem dY1_plain_7 : decode cY1_plain 7 = .ok (.iload_n 2, 1) := by decide +kernel
theorem dY1_plain_8 : decode cY1_plain 8 = .ok (.invokevirtual 50, 3) := by decide +kernel
theorem dY1_plain_11 : decode cY1_plain 11 = .ok (.ifCond .eq 11, 3) := by decide +kernel
theorem dY1_plain_14 : decode cY1_plain 14 = .ok (.aload_n 0, 1) := by decide +kernel
theorem dY1_plain_15 : decode cY1_plain 15 = .ok (.iconst 1, 1) := by decide +kernel
theorem dY1_plain_16 : decode cY1_plain 16 = .ok (.putfield 26, 3) := by decide +kernel
theorem dY1_plain_19 : decode cY1_plain 19 = .ok (.goto 9, 3) := by decide +kernel
theorem dY1_plain_22 : decode cY1_plain 22 = .ok (.aload_n 0, 1) := by decide +kernel
theorem dY1_plain_23 : decode cY1_plain 23 = .ok (.iload_n 1, 1) := by decide +kernel
theorem dY1_plain_24 : decode cY1_plain 24 = .ok (.iload_n 2, 1) := by decide +kernel
theorem dY1_plain_25 : decode cY1_plain 25 = .ok (.invokevirtual 56, 3) := by decide +kernel
theorem dY1_plain_28 : decode cY1_plain 28 = .ok (.return_, 1) := by decide +kernel
theorem dY1_untell_0 : decode cY1_untell 0 = .ok (.iconst 0, 1) := by decide +kernel
theorem dY1_untell_1 : decode cY1_untell 1 = .ok (.istore_n 3, 1) := by decide +kernel
theorem dY1_untell_2 : decode cY1_untell 2 = .ok (.iload_n 3, 1) := by decide +kernel
theorem dY1_untell_3 : decode cY1_untell 3 = .ok (.aload_n 0, 1) := by decide +kernel
theorem dY1_untell_4 : decode cY1_untell 4 = .ok (.getfield 13, 3) := by decide +kernel
theorem dY1_untell_7 : decode cY1_untell 7 = .ok (.if_icmp .ge 47, 3) := by decide +kernel
theorem dY1_untell_10 : decode cY1_untell 10 = .ok (.aload_n 0, 1) := by decide +kernel
theorem dY1_untell_11 : decode cY1_untell 11 = .ok (.getfield 19, 3) := by decide +kernel
theorem dY1_untell_14 : decode cY1_untell 14 = .ok (.iload_n 1, 1) := by decide +kernel
theorem dY1_untell_15 : decode cY1_untell 15 = .ok (.aload_n 0, 1) := by decide +kernel
theorem dY1_untell_16 : decode cY1_untell 16 = .ok (.getfield 13, 3) := by decide +kernel
theorem dY1_untell_19 : decode cY1_untell 19 = .ok (.imul, 1) := by decide +kernel
theorem dY1_untell_20 : decode cY1_untell 20 = .ok (.iload_n 3, 1) := by decide +kernel
theorem dY1_untell_21 : decode cY1_untell 21 = .ok (.iadd, 1) := by decide +kernel
theorem dY1_untell_22 : decode cY1_untell 22 = .ok (.aload_n 0, 1) := by decide +kernel
theorem dY1_untell_23 : decode cY1_untell 23 = .ok (.getfield 19, 3) := by decide +kernel
theorem dY1_untell_26 : decode cY1_untell 26 = .ok (.iload_n 1, 1) := by decide +kernel
theorem dY1_untell_27 : decode cY1_untell 27 = .ok (.aload_n 0, 1) := by decide +kernel
theorem dY1_untell_28 : decode cY1_untell 28 = .ok (.getfield 13, 3) := by decide +kernel
theorem dY1_untell_31 : decode cY1_untell 31 = .ok (.imul, 1) := by decide +kernel
theorem dY1_untell_32 : decode cY1_untell 32 = .ok (.iload_n 3, 1) := by decide +kernel
theorem dY1_untell_33 : decode cY1_untell 33 = .ok (.iadd, 1) := by decide +kernel
theorem dY1_untell_34 : decode cY1_untell 34 = .ok (.iaload, 1) := by decide +kernel
theorem dY1_untell_35 : decode cY1_untell 35 = .ok (.aload_n 0, 1) := by decide +kernel
theorem dY1_untell_36 : decode cY1_untell 36 = .ok (.iload_n 1, 1) := by decide +kernel
theorem dY1_untell_37 : decode cY1_untell 37 = .ok (.iload_n 3, 1) := by decide +kernel
theorem dY1_untell_38 : decode cY1_untell 38 = .ok (.iload_n 2, 1) := by decide +kernel
theorem dY1_untell_39 : decode cY1_untell 39 = .ok (.invokevirtual 46, 3) := by decide +kernel
theorem dY1_untell_42 : decode cY1_untell 42 = .ok (.iadd, 1) := by decide +kernel
theorem dY1_untell_43 : decode cY1_untell 43 = .ok (.sipush 255, 3) := by decide +kernel
theorem dY1_untell_46 : decode cY1_untell 46 = .ok (.iand, 1) := by decide +kernel
theorem dY1_untell_47 : decode cY1_untell 47 = .ok (.iastore, 1) := by decide +kernel
theorem dY1_untell_48 : decode cY1_untell 48 = .ok (.iinc 3 1, 3) := by decide +kernel
theorem dY1_untell_51 : decode cY1_untell 51 = .ok (.goto (-49), 3) := by decide +kernel
theorem dY1_untell_54 : decode cY1_untell 54 = .ok (.return_, 1) := by decide +kernel
theorem dY1_best_0 : decode cY1_best 0 = .ok (.aload_n 0, 1) := by decide +kernel
theorem dY1_best_1 : decode cY1_best 1 = .ok (.iconst 0, 1) := by decide +kernel
theorem dY1_best_2 : decode cY1_best 2 = .ok (.putfield 26, 3) := by decide +kernel
theorem dY1_best_5 : decode cY1_best 5 = .ok (.iconst 1, 1) := by decide +kernel
theorem dY1_best_6 : decode cY1_best 6 = .ok (.istore_n 1, 1) := by decide +kernel
theorem dY1_best_7 : decode cY1_best 7 = .ok (.iconst 0, 1) := by decide +kernel
theorem dY1_best_8 : decode cY1_best 8 = .ok (.istore_n 2, 1) := by decide +kernel
theorem dY1_best_9 : decode cY1_best 9 = .ok (.iload_n 2, 1) := by decide +kernel
theorem dY1_best_10 : decode cY1_best 10 = .ok (.aload_n 0, 1) := by decide +kernel
theorem dY1_best_11 : decode cY1_best 11 = .ok (.getfield 7, 3) := by decide +kernel
theorem dY1_best_14 : decode cY1_best 14 = .ok (.if_icmp .ge 74, 3) := by decide +kernel
theorem dY1_best_17 : decode cY1_best 17 = .ok (.iconst 0, 1) := by decide +kernel
theorem dY1_best_18 : decode cY1_best 18 = .ok (.istore_n 3, 1) := by decide +kernel
theorem dY1_best_19 : decode cY1_best 19 = .ok (.aload_n 0, 1) := by decide +kernel
theorem dY1_best_20 : decode cY1_best 20 = .ok (.iload_n 2, 1) := by decide +kernel
theorem dY1_best_21 : decode cY1_best 21 = .ok (.iconst 0, 1) := by decide +kernel
theorem dY1_best_22 : decode cY1_best 22 = .ok (.invokevirtual 53, 3) := by decide +kernel
theorem dY1_best_25 : decode cY1_best 25 = .ok (.istore 4, 2) := by decide +kernel
theorem dY1_best_27 : decode cY1_best 27 = .ok (.iconst 1, 1) := by decide +kernel
theorem dY1_best_28 : decode cY1_best 28 = .ok (.istore 5, 2) := by decide +kernel
theorem dY1_best_30 : decode cY1_best 30 = .ok (.iload 5, 2) := by decide +kernel
theorem dY1_best_32 : decode cY1_best 32 = .ok (.iconst 5, 1) := by decide +kernel
theorem dY1_best_33 : decode cY1_best 33 = .ok (.if_icmp .ge 35, 3) := by decide +kernel
theorem dY1_best_36 : decode cY1_best 36 = .ok (.aload_n 0, 1) := by decide +kernel
theorem dY1_best_37 : decode cY1_best 37 = .ok (.iload_n 2, 1) := by decide +kernel
theorem dY1_best_38 : decode cY1_best 38 = .ok (.iload 5, 2) := by decide +kernel
theorem dY1_best_40 : decode cY1_best 40 = .ok (.invokevirtual 53, 3) := by decide +kernel
theorem dY1_best_43 : decode cY1_best 43 = .ok (.istore 6, 2) := by decide +kernel
theorem dY1_best_45 : decode cY1_best 45 = .ok (.iload 6, 2) := by decide +kernel
theorem dY1_best_47 : decode cY1_best 47 = .ok (.iload 4, 2) := by decide +kernel
theorem dY1_best_49 : decode cY1_best 49 = .ok (.if_icmp .lt 6, 3) := by decide +kernel
theorem dY1_best_52 : decode cY1_best 52 = .ok (.goto 10, 3) := by decide +kernel
theorem dY1_best_55 : decode cY1_best 55 = .ok (.iload 6, 2) := by decide +kernel
theorem dY1_best_57 : decode cY1_best 57 = .ok (.istore 4, 2) := by decide +kernel
theorem dY1_best_59 : decode cY1_best 59 = .ok (.iload 5, 2) := by decide +kernel
theorem dY1_best_61 : decode cY1_best 61 = .ok (.istore_n 3, 1) := by decide +kernel
theorem dY1_best_62 : decode cY1_best 62 = .ok (.iinc 5 1, 3) := by decide +kernel
theorem dY1_best_65 : decode cY1_best 65 = .ok (.goto (-35), 3) := by decide +kernel
theorem dY1_best_68 : decode cY1_best 68 = .ok (.aload_n 0, 1) := by decide +kernel
theorem dY1_best_69 : decode cY1_best 69 = .ok (.iload_n 2, 1) := by decide +kernel
theorem dY1_best_70 : decode cY1_best 70 = .ok (.iload_n 3, 1) := by decide +kernel
theorem dY1_best_71 : decode cY1_best 71 = .ok (.invokevirtual 53, 3) := by decide +kernel
theorem dY1_best_74 : decode cY1_best 74 = .ok (.istore 4, 2) := by decide +kernel
theorem dY1_best_76 : decode cY1_best 76 = .ok (.iconst 5, 1) := by decide +kernel
theorem dY1_best_77 : decode cY1_best 77 = .ok (.iload_n 1, 1) := by decide +kernel
theorem dY1_best_78 : decode cY1_best 78 = .ok (.imul, 1) := by decide +kernel
theorem dY1_best_79 : decode cY1_best 79 = .ok (.iload_n 3, 1) := by decide +kernel
theorem dY1_best_80 : decode cY1_best 80 = .ok (.iadd, 1) := by decide +kernel
theorem dY1_best_81 : decode cY1_best 81 = .ok (.istore_n 1, 1) := by decide +kernel
theorem dY1_best_82 : decode cY1_best 82 = .ok (.iinc 2 1, 3) := by decide +kernel
theorem dY1_best_85 : decode cY1_best 85 = .ok (.goto (-76), 3) := by decide +kernel
theorem dY1_best_88 : decode cY1_best 88 = .ok (.iconst 0, 1) := by decide +kernel
theorem dY1_best_89 : decode cY1_best 89 = .ok (.istore_n 2, 1) := by decide +kernel
theorem dY1_best_90 : decode cY1_best 90 = .ok (.iload_n 2, 1) := by decide +kernel
theorem dY1_best_91 : decode cY1_best 91 = .ok (.aload_n 0, 1) := by decide +kernel
theorem dY1_best_92 : decode cY1_best 92 = .ok (.getfield 7, 3) := by decide +kernel
theorem dY1_best_95 : decode cY1_best 95 = .ok (.aload_n 0, 1) := by decide +kernel
theorem dY1_best_96 : decode cY1_best 96 = .ok (.getfield 13, 3) := by decide +kernel
theorem dY1_best_99 : decode cY1_best 99 = .ok (.imul, 1) := by decide +kernel
theorem dY1_best_100 : decode cY1_best 100 = .ok (.if_icmp .ge 21, 3) := by decide +kernel
theorem dY1_best_103 : decode cY1_best 103 = .ok (.aload_n 0, 1) := by decide +kernel
theorem dY1_best_104 : decode cY1_best 104 = .ok (.getfield 19, 3) := by decide +kernel
theorem dY1_best_107 : decode cY1_best 107 = .ok (.iload_n 2, 1) := by decide +kernel
theorem dY1_best_108 : decode cY1_best 108 = .ok (.aload_n 0, 1) := by decide +kernel
theorem dY1_best_109 : decode cY1_best 109 = .ok (.getfield 23, 3) := by decide +kernel
theorem dY1_best_112 : decode cY1_best 112 = .ok (.iload_n 2, 1) := by decide +kernel
theorem dY1_best_113 : decode cY1_best 113 = .ok (.iaload, 1) := by decide +kernel
theorem dY1_best_114 : decode cY1_best 114 = .ok (.iastore, 1) := by decide +kernel
theorem dY1_best_115 : decode cY1_best 115 = .ok (.iinc 2 1, 3) := by decide +kernel
theorem dY1_best_118 : decode cY1_best 118 = .ok (.goto (-28), 3) := by decide +kernel
theorem dY1_best_121 : decode cY1_best 121 = .ok (.iload_n 1, 1) := by decide +kernel
theorem dY1_best_122 : decode cY1_best 122 = .ok (.ireturn, 1) := by decide +kernel
theorem dY1_undo_0 : decode cY1_undo 0 = .ok (.aload_n 0, 1) := by decide +kernel
theorem dY1_undo_1 : decode cY1_undo 1 = .ok (.iconst 0, 1) := by decide +kernel
theorem dY1_undo_2 : decode cY1_undo 2 = .ok (.putfield 26, 3) := by decide +kernel
theorem dY1_undo_5 : decode cY1_undo 5 = .ok (.iload_n 1, 1) := by decide +kernel
theorem dY1_undo_6 : decode cY1_undo 6 = .ok (.ifCond .lt 9, 3) := by decide +kernel
theorem dY1_undo_9 : decode cY1_undo 9 = .ok (.iload_n 1, 1) := by decide +kernel
theorem dY1_undo_10 : decode cY1_undo 10 = .ok (.ldc 60, 2) := by decide +kernel
theorem dY1_undo_12 : decode cY1_undo 12 = .ok (.if_icmp .le 11, 3) := by decide +kernel
theorem dY1_undo_15 : decode cY1_undo 15 = .ok (.aload_n 0, 1) := by decide +kernel
theorem dY1_undo_16 : decode cY1_undo 16 = .ok (.iconst 1, 1) := by decide +kernel
theorem dY1_undo_17 : decode cY1_undo 17 = .ok (.putfield 26, 3) := by decide +kernel
theorem dY1_undo_20 : decode cY1_undo 20 = .ok (.goto 33, 3) := by decide +kernel
theorem dY1_undo_23 : decode cY1_undo 23 = .ok (.iload_n 1, 1) := by decide +kernel
theorem dY1_undo_24 : decode cY1_undo 24 = .ok (.istore_n 2, 1) := by decide +kernel
theorem dY1_undo_25 : decode cY1_undo 25 = .ok (.iconst 0, 1) := by decide +kernel
theorem dY1_undo_26 : decode cY1_undo 26 = .ok (.istore_n 3, 1) := by decide +kernel
theorem dY1_undo_27 : decode cY1_undo 27 = .ok (.iload_n 3, 1) := by decide +kernel
theorem dY1_undo_28 : decode cY1_undo 28 = .ok (.aload_n 0, 1) := by decide +kernel
theorem dY1_undo_29 : decode cY1_undo 29 = .ok (.getfield 7, 3) := by decide +kernel
theorem dY1_undo_32 : decode cY1_undo 32 = .ok (.if_icmp .ge 21, 3) := by decide +kernel
theorem dY1_undo_35 : decode cY1_undo 35 = .ok (.aload_n 0, 1) := by decide +kernel
theorem dY1_undo_36 : decode cY1_undo 36 = .ok (.iload_n 3, 1) := by decide +kernel
theorem dY1_undo_37 : decode cY1_undo 37 = .ok (.iload_n 2, 1) := by decide +kernel
theorem dY1_undo_38 : decode cY1_undo 38 = .ok (.iconst 5, 1) := by decide +kernel
theorem dY1_undo_39 : decode cY1_undo 39 = .ok (.irem, 1) := by decide +kernel
theorem dY1_undo_40 : decode cY1_undo 40 = .ok (.invokevirtual 56, 3) := by decide +kernel
theorem dY1_undo_43 : decode cY1_undo 43 = .ok (.iload_n 2, 1) := by decide +kernel
theorem dY1_undo_44 : decode cY1_undo 44 = .ok (.iconst 5, 1) := by decide +kernel
theorem dY1_undo_45 : decode cY1_undo 45 = .ok (.idiv, 1) := by decide +kernel
theorem dY1_undo_46 : decode cY1_undo 46 = .ok (.istore_n 2, 1) := by decide +kernel
theorem dY1_undo_47 : decode cY1_undo 47 = .ok (.iinc 3 1, 3) := by decide +kernel
theorem dY1_undo_50 : decode cY1_undo 50 = .ok (.goto (-23), 3) := by decide +kernel
theorem dY1_undo_53 : decode cY1_undo 53 = .ok (.return_, 1) := by decide +kernel
theorem dY1_hash_0 : decode cY1_hash 0 = .ok (.aload_n 0, 1) := by decide +kernel
theorem dY1_hash_1 : decode cY1_hash 1 = .ok (.iconst 0, 1) := by decide +kernel
theorem dY1_hash_2 : decode cY1_hash 2 = .ok (.putfield 26, 3) := by decide +kernel
theorem dY1_hash_5 : decode cY1_hash 5 = .ok (.iconst 1, 1) := by decide +kernel
theorem dY1_hash_6 : decode cY1_hash 6 = .ok (.istore_n 1, 1) := by decide +kernel
theorem dY1_hash_7 : decode cY1_hash 7 = .ok (.iconst 0, 1) := by decide +kernel
theorem dY1_hash_8 : decode cY1_hash 8 = .ok (.istore_n 2, 1) := by decide +kernel
theorem dY1_hash_9 : decode cY1_hash 9 = .ok (.iload_n 2, 1) := by decide +kernel
theorem dY1_hash_10 : decode cY1_hash 10 = .ok (.aload_n 0, 1) := by decide +kernel
theorem dY1_hash_11 : decode cY1_hash 11 = .ok (.getfield 7, 3) := by decide +kernel
theorem dY1_hash_14 : decode cY1_hash 14 = .ok (.aload_n 0, 1) := by decide +kernel
theorem dY1_hash_15 : decode cY1_hash 15 = .ok (.getfield 13, 3) := by decide +kernel
theorem dY1_hash_18 : decode cY1_hash 18 = .ok (.imul, 1) := by decide +kernel
theorem dY1_hash_19 : decode cY1_hash 19 = .ok (.if_icmp .ge 21, 3) := by decide +kernel
theorem dY1_hash_22 : decode cY1_hash 22 = .ok (.bipush 31, 2) := by decide +kernel
theorem dY1_hash_24 : decode cY1_hash 24 = .ok (.iload_n 1, 1) := by decide +kernel
theorem dY1_hash_25 : decode cY1_hash 25 = .ok (.imul, 1) := by decide +kernel
theorem dY1_hash_26 : decode cY1_hash 26 = .ok (.aload_n 0, 1) := by decide +kernel
theorem dY1_hash_27 : decode cY1_hash 27 = .ok (.getfield 19, 3) := by decide +kernel
theorem dY1_hash_30 : decode cY1_hash 30 = .ok (.iload_n 2, 1) := by decide +kernel
theorem dY1_hash_31 : decode cY1_hash 31 = .ok (.iaload, 1) := by decide +kernel
theorem dY1_hash_32 : decode cY1_hash 32 = .ok (.iadd, 1) := by decide +kernel
theorem dY1_hash_33 : decode cY1_hash 33 = .ok (.istore_n 1, 1) := by decide +kernel
theorem dY1_hash_34 : decode cY1_hash 34 = .ok (.iinc 2 1, 3) := by decide +kernel
theorem dY1_hash_37 : decode cY1_hash 37 = .ok (.goto (-28), 3) := by decide +kernel
theorem dY1_hash_40 : decode cY1_hash 40 = .ok (.iload_n 1, 1) := by decide +kernel
theorem dY1_hash_41 : decode cY1_hash 41 = .ok (.ireturn, 1) := by decide +kernel
theorem dY1_pass_0 : decode cY1_pass 0 = .ok (.aload_n 0, 1) := by decide +kernel
theorem dY1_pass_1 : decode cY1_pass 1 = .ok (.iconst 0, 1) := by decide +kernel
theorem dY1_pass_2 : decode cY1_pass 2 = .ok (.putfield 26, 3) := by decide +kernel
theorem dY1_pass_5 : decode cY1_pass 5 = .ok (.iload_n 1, 1) := by decide +kernel
theorem dY1_pass_6 : decode cY1_pass 6 = .ok (.ifCond .lt 31, 3) := by decide +kernel
theorem dY1_pass_9 : decode cY1_pass 9 = .ok (.iload_n 1, 1) := by decide +kernel
theorem dY1_pass_10 : decode cY1_pass 10 = .ok (.bipush 6, 2) := by decide +kernel
theorem dY1_pass_12 : decode cY1_pass 12 = .ok (.if_icmp .gt 25, 3) := by decide +kernel
theorem dY1_pass_15 : decode cY1_pass 15 = .ok (.iload_n 2, 1) := by decide +kernel
theorem dY1_pass_16 : decode cY1_pass 16 = .ok (.iconst 1, 1) := by decide +kernel
theorem dY1_pass_17 : decode cY1_pass 17 = .ok (.if_icmp .lt 20, 3) := by decide +kernel
theorem dY1_pass_20 : decode cY1_pass 20 = .ok (.iload_n 2, 1) := by decide +kernel
theorem dY1_pass_21 : decode cY1_pass 21 = .ok (.ldc 61, 2) := by decide +kernel
theorem dY1_pass_23 : decode cY1_pass 23 = .ok (.if_icmp .gt 14, 3) := by decide +kernel
theorem dY1_pass_26 : decode cY1_pass 26 = .ok (.iload_n 3, 1) := by decide +kernel
theorem dY1_pass_27 : decode cY1_pass 27 = .ok (.iconst 1, 1) := by decide +kernel
theorem dY1_pass_28 : decode cY1_pass 28 = .ok (.if_icmp .lt 9, 3) := by decide +kernel
theorem dY1_pass_31 : decode cY1_pass 31 = .ok (.iload_n 3, 1) := by decide +kernel
theorem dY1_pass_32 : decode cY1_pass 32 = .ok (.ldc 61, 2) := by decide +kernel
theorem dY1_pass_34 : decode cY1_pass 34 = .ok (.if_icmp .le 9, 3) := by decide +kernel
theorem dY1_pass_37 : decode cY1_pass 37 = .ok (.aload_n 0, 1) := by decide +kernel
theorem dY1_pass_38 : decode cY1_pass 38 = .ok (.iconst 1, 1) := by decide +kernel
theorem dY1_pass_39 : decode cY1_pass 39 = .ok (.invokevirtual 33, 3) := by decide +kernel
theorem dY1_pass_42 : decode cY1_pass 42 = .ok (.ireturn, 1) := by decide +kernel
theorem dY1_pass_43 : decode cY1_pass 43 = .ok (.iconst 0, 1) := by decide +kernel
theorem dY1_pass_44 : decode cY1_pass 44 = .ok (.istore 5, 2) := by decide +kernel
theorem dY1_pass_46 : decode cY1_pass 46 = .ok (.iconst 0, 1) := by decide +kernel
theorem dY1_pass_47 : decode cY1_pass 47 = .ok (.istore 6, 2) := by decide +kernel
theorem dY1_pass_49 : decode cY1_pass 49 = .ok (.iconst 0, 1) := by decide +kernel
theorem dY1_pass_50 : decode cY1_pass 50 = .ok (.istore 7, 2) := by decide +kernel
theorem dY1_pass_52 : decode cY1_pass 52 = .ok (.iload 7, 2) := by decide +kernel
theorem dY1_pass_54 : decode cY1_pass 54 = .ok (.iload_n 2, 1) := by decide +kernel
theorem dY1_pass_55 : decode cY1_pass 55 = .ok (.if_icmp .ge 29, 3) := by decide +kernel
theorem dY1_pass_58 : decode cY1_pass 58 = .ok (.iload 5, 2) := by decide +kernel
theorem dY1_pass_60 : decode cY1_pass 60 = .ok (.aload_n 0, 1) := by decide +kernel
theorem dY1_pass_61 : decode cY1_pass 61 = .ok (.iload_n 1, 1) := by decide +kernel
theorem dY1_pass_62 : decode cY1_pass 62 = .ok (.iload 7, 2) := by decide +kernel
theorem dY1_pass_64 : decode cY1_pass 64 = .ok (.invokevirtual 62, 3) := by decide +kernel
theorem dY1_pass_67 : decode cY1_pass 67 = .ok (.ifCond .eq 7, 3) := by decide +kernel
theorem dY1_pass_70 : decode cY1_pass 70 = .ok (.iconst 1, 1) := by decide +kernel
theorem dY1_pass_71 : decode cY1_pass 71 = .ok (.goto 4, 3) := by decide +kernel
theorem dY1_pass_74 : decode cY1_pass 74 = .ok (.iconst 0, 1) := by decide +kernel
theorem dY1_pass_75 : decode cY1_pass 75 = .ok (.iadd, 1) := by decide +kernel
theorem dY1_pass_76 : decode cY1_pass 76 = .ok (.istore 5, 2) := by decide +kernel
theorem dY1_pass_78 : decode cY1_pass 78 = .ok (.iinc 7 1, 3) := by decide +kernel
theorem dY1_pass_81 : decode cY1_pass 81 = .ok (.goto (-29), 3) := by decide +kernel
theorem dY1_pass_84 : decode cY1_pass 84 = .ok (.iconst 0, 1) := by decide +kernel
theorem dY1_pass_85 : decode cY1_pass 85 = .ok (.istore 7, 2) := by decide +kernel
theorem dY1_pass_87 : decode cY1_pass 87 = .ok (.iload 7, 2) := by decide +kernel
theorem dY1_pass_89 : decode cY1_pass 89 = .ok (.iload_n 3, 1) := by decide +kernel
theorem dY1_pass_90 : decode cY1_pass 90 = .ok (.if_icmp .ge 29, 3) := by decide +kernel
theorem dY1_pass_93 : decode cY1_pass 93 = .ok (.iload 6, 2) := by decide +kernel
theorem dY1_pass_95 : decode cY1_pass 95 = .ok (.aload_n 0, 1) := by decide +kernel
theorem dY1_pass_96 : decode cY1_pass 96 = .ok (.iload_n 1, 1) := by decide +kernel
theorem dY1_pass_97 : decode cY1_pass 97 = .ok (.iload 7, 2) := by decide +kernel
theorem dY1_pass_99 : decode cY1_pass 99 = .ok (.invokevirtual 65, 3) := by decide +kernel
theorem dY1_pass_102 : decode cY1_pass 102 = .ok (.ifCond .eq 7, 3) := by decide +kernel
theorem dY1_pass_105 : decode cY1_pass 105 = .ok (.iconst 1, 1) := by decide +kernel
theorem dY1_pass_106 : decode cY1_pass 106 = .ok (.goto 4, 3) := by decide +kernel
theorem dY1_pass_109 : decode cY1_pass 109 = .ok (.iconst 0, 1) := by decide +kernel
theorem dY1_pass_110 : decode cY1_pass 110 = .ok (.iadd, 1) := by decide +kernel
theorem dY1_pass_111 : decode cY1_pass 111 = .ok (.istore 6, 2) := by decide +kernel
theorem dY1_pass_113 : decode cY1_pass 113 = .ok (.iinc 7 1, 3) := by decide +kernel
theorem dY1_pass_116 : decode cY1_pass 116 = .ok (.goto (-29), 3) := by decide +kernel
theorem dY1_pass_119 : decode cY1_pass 119 = .ok (.iload 5, 2) := by decide +kernel
theorem dY1_pass_121 : decode cY1_pass 121 = .ok (.ifCond .eq 8, 3) := by decide +kernel
theorem dY1_pass_124 : decode cY1_pass 124 = .ok (.iload 6, 2) := by decide +kernel
theorem dY1_pass_126 : decode cY1_pass 126 = .ok (.ifCond .ne 7, 3) := by decide +kernel
theorem dY1_pass_129 : decode cY1_pass 129 = .ok (.iconst 0, 1) := by decide +kernel
theorem dY1_pass_130 : decode cY1_pass 130 = .ok (.goto 15, 3) := by decide +kernel
theorem dY1_pass_133 : decode cY1_pass 133 = .ok (.iload 4, 2) := by decide +kernel
theorem dY1_pass_135 : decode cY1_pass 135 = .ok (.ifCond .eq 8, 3) := by decide +kernel
theorem dY1_pass_138 : decode cY1_pass 138 = .ok (.iload 6, 2) := by decide +kernel
theorem dY1_pass_140 : decode cY1_pass 140 = .ok (.goto 5, 3) := by decide +kernel
theorem dY1_pass_143 : decode cY1_pass 143 = .ok (.iload 5, 2) := by decide +kernel
theorem dY1_pass_145 : decode cY1_pass 145 = .ok (.ireturn, 1) := by decide +kernel
theorem dY1_column_0 : decode cY1_column 0 = .ok (.iload_n 1, 1) := by decide +kernel
theorem dY1_column_1 : decode cY1_column 1 = .ok (.tableswitch 129 0 6 #[43, 102, 43, 116, 43, 129, 43], 43) := by decide +kernel
theorem dY1_column_44 : decode cY1_column 44 = .ok (.iload_n 1, 1) := by decide +kernel
theorem dY1_column_45 : decode cY1_column 45 = .ok (.ifCond .ne 18, 3) := by decide +kernel
theorem dY1_column_48 : decode cY1_column 48 = .ok (.iload_n 2, 1) := by decide +kernel
theorem dY1_column_49 : decode cY1_column 49 = .ok (.bipush 8, 2) := by decide +kernel
theorem dY1_column_51 : decode cY1_column 51 = .ok (.irem, 1) := by decide +kernel
theorem dY1_column_52 : decode cY1_column 52 = .ok (.ifCond .ne 7, 3) := by decide +kernel
theorem dY1_column_55 : decode cY1_column 55 = .ok (.iconst 1, 1) := by decide +kernel
theorem dY1_column_56 : decode cY1_column 56 = .ok (.goto 46, 3) := by decide +kernel
theorem dY1_column_59 : decode cY1_column 59 = .ok (.iconst 0, 1) := by decide +kernel
theorem dY1_column_60 : decode cY1_column 60 = .ok (.goto 42, 3) := by decide +kernel
theorem dY1_column_63 : decode cY1_column 63 = .ok (.iload_n 1, 1) := by decide +kernel
theorem dY1_column_64 : decode cY1_column 64 = .ok (.iconst 2, 1) := by decide +kernel
theorem dY1_column_65 : decode cY1_column 65 = .ok (.if_icmp .ne 17, 3) := by decide +kernel
theorem dY1_column_68 : decode cY1_column 68 = .ok (.iload_n 2, 1) := by decide +kernel
theorem dY1_column_69 : decode cY1_column 69 = .ok (.iconst 4, 1) := by decide +kernel
theorem dY1_column_70 : decode cY1_column 70 = .ok (.irem, 1) := by decide +kernel
theorem dY1_column_71 : decode cY1_column 71 = .ok (.ifCond .ne 7, 3) := by decide +kernel
theorem dY1_column_74 : decode cY1_column 74 = .ok (.iconst 1, 1) := by decide +kernel
theorem dY1_column_75 : decode cY1_column 75 = .ok (.goto 27, 3) := by decide +kernel
theorem dY1_column_78 : decode cY1_column 78 = .ok (.iconst 0, 1) := by decide +kernel
theorem dY1_column_79 : decode cY1_column 79 = .ok (.goto 23, 3) := by decide +kernel
theorem dY1_column_82 : decode cY1_column 82 = .ok (.iload_n 1, 1) := by decide +kernel
theorem dY1_column_83 : decode cY1_column 83 = .ok (.iconst 4, 1) := by decide +kernel
theorem dY1_column_84 : decode cY1_column 84 = .ok (.if_icmp .ne 17, 3) := by decide +kernel
theorem dY1_column_87 : decode cY1_column 87 = .ok (.iload_n 2, 1) := by decide +kernel
theorem dY1_column_88 : decode cY1_column 88 = .ok (.iconst 2, 1) := by decide +kernel
theorem dY1_column_89 : decode cY1_column 89 = .ok (.irem, 1) := by decide +kernel
theorem dY1_column_90 : decode cY1_column 90 = .ok (.ifCond .ne 7, 3) := by decide +kernel
theorem dY1_column_93 : decode cY1_column 93 = .ok (.iconst 1, 1) := by decide +kernel
theorem dY1_column_94 : decode cY1_column 94 = .ok (.goto 8, 3) := by decide +kernel
theorem dY1_column_97 : decode cY1_column 97 = .ok (.iconst 0, 1) := by decide +kernel
theorem dY1_column_98 : decode cY1_column 98 = .ok (.goto 4, 3) := by decide +kernel
theorem dY1_column_101 : decode cY1_column 101 = .ok (.iconst 1, 1) := by decide +kernel
theorem dY1_column_102 : decode cY1_column 102 = .ok (.ireturn, 1) := by decide +kernel
theorem dY1_column_103 : decode cY1_column 103 = .ok (.iload_n 2, 1) := by decide +kernel
theorem dY1_column_104 : decode cY1_column 104 = .ok (.bipush 8, 2) := by decide +kernel
theorem dY1_column_106 : decode cY1_column 106 = .ok (.irem, 1) := by decide +kernel
theorem dY1_column_107 : decode cY1_column 107 = .ok (.iconst 4, 1) := by decide +kernel
theorem dY1_column_108 : decode cY1_column 108 = .ok (.if_icmp .ne 7, 3) := by decide +kernel
theorem dY1_column_111 : decode cY1_column 111 = .ok (.iconst 1, 1) := by decide +kernel
theorem dY1_column_112 : decode cY1_column 112 = .ok (.goto 4, 3) := by decide +kernel
theorem dY1_column_115 : decode cY1_column 115 = .ok (.iconst 0, 1) := by decide +kernel
theorem dY1_column_116 : decode cY1_column 116 = .ok (.ireturn, 1) := by decide +kernel
theorem dY1_column_117 : decode cY1_column 117 = .ok (.iload_n 2, 1) := by decide +kernel
theorem dY1_column_118 : decode cY1_column 118 = .ok (.iconst 4, 1) := by decide +kernel
theorem dY1_column_119 : decode cY1_column 119 = .ok (.irem, 1) := by decide +kernel
theorem dY1_column_120 : decode cY1_column 120 = .ok (.iconst 2, 1) := by decide +kernel
theorem dY1_column_121 : decode cY1_column 121 = .ok (.if_icmp .ne 7, 3) := by decide +kernel
theorem dY1_column_124 : decode cY1_column 124 = .ok (.iconst 1, 1) := by decide +kernel
theorem dY1_column_125 : decode cY1_column 125 = .ok (.goto 4, 3) := by decide +kernel
theorem dY1_column_128 : decode cY1_column 128 = .ok (.iconst 0, 1) := by decide +kernel
theorem dY1_column_129 : decode cY1_column 129 = .ok (.ireturn, 1) := by decide +kernel
theorem dY1_column_130 : decode cY1_column 130 = .ok (.iload_n 2, 1) := by decide +kernel
theorem dY1_column_131 : decode cY1_column 131 = .ok (.iconst 2, 1) := by decide +kernel
theorem dY1_column_132 : decode cY1_column 132 = .ok (.irem, 1) := by decide +kernel
theorem dY1_column_133 : decode cY1_column 133 = .ok (.iconst 1, 1) := by decide +kernel
theorem dY1_column_134 : decode cY1_column 134 = .ok (.if_icmp .ne 7, 3) := by decide +kernel
theorem dY1_column_137 : decode cY1_column 137 = .ok (.iconst 1, 1) := by decide +kernel
theorem dY1_column_138 : decode cY1_column 138 = .ok (.goto 4, 3) := by decide +kernel
theorem dY1_column_141 : decode cY1_column 141 = .ok (.iconst 0, 1) := by decide +kernel
theorem dY1_column_142 : decode cY1_column 142 = .ok (.ireturn, 1) := by decide +kernel
theorem dY1_line_0 : decode cY1_line 0 = .ok (.iload_n 1, 1) := by decide +kernel
theorem dY1_line_1 : decode cY1_line 1 = .ok (.iconst 2, 1) := by decide +kernel
theorem dY1_line_2 : decode cY1_line 2 = .ok (.if_icmp .ge 18, 3) := by decide +kernel
theorem dY1_line_5 : decode cY1_line 5 = .ok (.iload_n 2, 1) := by decide +kernel
theorem dY1_line_6 : decode cY1_line 6 = .ok (.bipush 8, 2) := by decide +kernel
theorem dY1_line_8 : decode cY1_line 8 = .ok (.irem, 1) := by decide +kernel
theorem dY1_line_9 : decode cY1_line 9 = .ok (.ifCond .ne 7, 3) := by decide +kernel
theorem dY1_line_12 : decode cY1_line 12 = .ok (.iconst 1, 1) := by decide +kernel
theorem dY1_line_13 : decode cY1_line 13 = .ok (.goto 98, 3) := by decide +kernel
theorem dY1_line_16 : decode cY1_line 16 = .ok (.iconst 0, 1) := by decide +kernel
theorem dY1_line_17 : decode cY1_line 17 = .ok (.goto 94, 3) := by decide +kernel
theorem dY1_line_20 : decode cY1_line 20 = .ok (.iload_n 1, 1) := by decide +kernel
theorem dY1_line_21 : decode cY1_line 21 = .ok (.iconst 2, 1) := by decide +kernel
theorem dY1_line_22 : decode cY1_line 22 = .ok (.if_icmp .ne 19, 3) := by decide +kernel
theorem dY1_line_25 : decode cY1_line 25 = .ok (.iload_n 2, 1) := by decide +kernel
theorem dY1_line_26 : decode cY1_line 26 = .ok (.bipush 8, 2) := by decide +kernel
theorem dY1_line_28 : decode cY1_line 28 = .ok (.irem, 1) := by decide +kernel
theorem dY1_line_29 : decode cY1_line 29 = .ok (.iconst 4, 1) := by decide +kernel
theorem dY1_line_30 : decode cY1_line 30 = .ok (.if_icmp .ne 7, 3) := by decide +kernel
theorem dY1_line_33 : decode cY1_line 33 = .ok (.iconst 1, 1) := by decide +kernel
theorem dY1_line_34 : decode cY1_line 34 = .ok (.goto 77, 3) := by decide +kernel
theorem dY1_line_37 : decode cY1_line 37 = .ok (.iconst 0, 1) := by decide +kernel
theorem dY1_line_38 : decode cY1_line 38 = .ok (.goto 73, 3) := by decide +kernel
theorem dY1_line_41 : decode cY1_line 41 = .ok (.iload_n 1, 1) := by decide +kernel
theorem dY1_line_42 : decode cY1_line 42 = .ok (.iconst 3, 1) := by decide +kernel
theorem dY1_line_43 : decode cY1_line 43 = .ok (.if_icmp .ne 17, 3) := by decide +kernel
theorem dY1_line_46 : decode cY1_line 46 = .ok (.iload_n 2, 1) := by decide +kernel
theorem dY1_line_47 : decode cY1_line 47 = .ok (.iconst 4, 1) := by decide +kernel
theorem dY1_line_48 : decode cY1_line 48 = .ok (.irem, 1) := by decide +kernel
theorem dY1_line_49 : decode cY1_line 49 = .ok (.ifCond .ne 7, 3) := by decide +kernel
theorem dY1_line_52 : decode cY1_line 52 = .ok (.iconst 1, 1) := by decide +kernel
theorem dY1_line_53 : decode cY1_line 53 = .ok (.goto 58, 3) := by decide +kernel
theorem dY1_line_56 : decode cY1_line 56 = .ok (.iconst 0, 1) := by decide +kernel
theorem dY1_line_57 : decode cY1_line 57 = .ok (.goto 54, 3) := by decide +kernel
theorem dY1_line_60 : decode cY1_line 60 = .ok (.iload_n 1, 1) := by decide +kernel
theorem dY1_line_61 : decode cY1_line 61 = .ok (.iconst 4, 1) := by decide +kernel
theorem dY1_line_62 : decode cY1_line 62 = .ok (.if_icmp .ne 18, 3) := by decide +kernel
theorem dY1_line_65 : decode cY1_line 65 = .ok (.iload_n 2, 1) := by decide +kernel
theorem dY1_line_66 : decode cY1_line 66 = .ok (.iconst 4, 1) := by decide +kernel
theorem dY1_line_67 : decode cY1_line 67 = .ok (.irem, 1) := by decide +kernel
theorem dY1_line_68 : decode cY1_line 68 = .ok (.iconst 2, 1) := by decide +kernel
theorem dY1_line_69 : decode cY1_line 69 = .ok (.if_icmp .ne 7, 3) := by decide +kernel
theorem dY1_line_72 : decode cY1_line 72 = .ok (.iconst 1, 1) := by decide +kernel
theorem dY1_line_73 : decode cY1_line 73 = .ok (.goto 38, 3) := by decide +kernel
theorem dY1_line_76 : decode cY1_line 76 = .ok (.iconst 0, 1) := by decide +kernel
theorem dY1_line_77 : decode cY1_line 77 = .ok (.goto 34, 3) := by decide +kernel
theorem dY1_line_80 : decode cY1_line 80 = .ok (.iload_n 1, 1) := by decide +kernel
theorem dY1_line_81 : decode cY1_line 81 = .ok (.iconst 5, 1) := by decide +kernel
theorem dY1_line_82 : decode cY1_line 82 = .ok (.if_icmp .ne 17, 3) := by decide +kernel
theorem dY1_line_85 : decode cY1_line 85 = .ok (.iload_n 2, 1) := by decide +kernel
theorem dY1_line_86 : decode cY1_line 86 = .ok (.iconst 2, 1) := by decide +kernel
theorem dY1_line_87 : decode cY1_line 87 = .ok (.irem, 1) := by decide +kernel
theorem dY1_line_88 : decode cY1_line 88 = .ok (.ifCond .ne 7, 3) := by decide +kernel
theorem dY1_line_91 : decode cY1_line 91 = .ok (.iconst 1, 1) := by decide +kernel
theorem dY1_line_92 : decode cY1_line 92 = .ok (.goto 19, 3) := by decide +kernel
theorem dY1_line_95 : decode cY1_line 95 = .ok (.iconst 0, 1) := by decide +kernel
theorem dY1_line_96 : decode cY1_line 96 = .ok (.goto 15, 3) := by decide +kernel
theorem dY1_line_99 : decode cY1_line 99 = .ok (.iload_n 2, 1) := by decide +kernel
theorem dY1_line_100 : decode cY1_line 100 = .ok (.iconst 2, 1) := by decide +kernel
theorem dY1_line_101 : decode cY1_line 101 = .ok (.irem, 1) := by decide +kernel
theorem dY1_line_102 : decode cY1_line 102 = .ok (.iconst 1, 1) := by decide +kernel
theorem dY1_line_103 : decode cY1_line 103 = .ok (.if_icmp .ne 7, 3) := by decide +kernel
theorem dY1_line_106 : decode cY1_line 106 = .ok (.iconst 1, 1) := by decide +kernel
theorem dY1_line_107 : decode cY1_line 107 = .ok (.goto 4, 3) := by decide +kernel
theorem dY1_line_110 : decode cY1_line 110 = .ok (.iconst 0, 1) := by decide +kernel
theorem dY1_line_111 : decode cY1_line 111 = .ok (.ireturn, 1) := by decide +kernel
theorem dY1_passOf_0 : decode cY1_passOf 0 = .ok (.aload_n 0, 1) := by decide +kernel
theorem dY1_passOf_1 : decode cY1_passOf 1 = .ok (.iconst 0, 1) := by decide +kernel
theorem dY1_passOf_2 : decode cY1_passOf 2 = .ok (.putfield 26, 3) := by decide +kernel
theorem dY1_passOf_5 : decode cY1_passOf 5 = .ok (.iload_n 1, 1) := by decide +kernel
theorem dY1_passOf_6 : decode cY1_passOf 6 = .ok (.ifCond .lt 19, 3) := by decide +kernel
theorem dY1_passOf_9 : decode cY1_passOf 9 = .ok (.iload_n 1, 1) := by decide +kernel
theorem dY1_passOf_10 : decode cY1_passOf 10 = .ok (.ldc 68, 2) := by decide +kernel
theorem dY1_passOf_12 : decode cY1_passOf 12 = .ok (.if_icmp .gt 13, 3) := by decide +kernel
theorem dY1_passOf_15 : decode cY1_passOf 15 = .ok (.iload_n 2, 1) := by decide +kernel
theorem dY1_passOf_16 : decode cY1_passOf 16 = .ok (.ifCond .lt 9, 3) := by decide +kernel
theorem dY1_passOf_19 : decode cY1_passOf 19 = .ok (.iload_n 2, 1) := by decide +kernel
theorem dY1_passOf_20 : decode cY1_passOf 20 = .ok (.ldc 68, 2) := by decide +kernel
theorem dY1_passOf_22 : decode cY1_passOf 22 = .ok (.if_icmp .le 9, 3) := by decide +kernel
theorem dY1_passOf_25 : decode cY1_passOf 25 = .ok (.aload_n 0, 1) := by decide +kernel
theorem dY1_passOf_26 : decode cY1_passOf 26 = .ok (.iconst 1, 1) := by decide +kernel
theorem dY1_passOf_27 : decode cY1_passOf 27 = .ok (.invokevirtual 33, 3) := by decide +kernel
theorem dY1_passOf_30 : decode cY1_passOf 30 = .ok (.ireturn, 1) := by decide +kernel
theorem dY1_passOf_31 : decode cY1_passOf 31 = .ok (.iconst 0, 1) := by decide +kernel
theorem dY1_passOf_32 : decode cY1_passOf 32 = .ok (.istore_n 3, 1) := by decide +kernel
theorem dY1_passOf_33 : decode cY1_passOf 33 = .ok (.aload_n 0, 1) := by decide +kernel
theorem dY1_passOf_34 : decode cY1_passOf 34 = .ok (.iload_n 3, 1) := by decide +kernel
theorem dY1_passOf_35 : decode cY1_passOf 35 = .ok (.iload_n 1, 1) := by decide +kernel
theorem dY1_passOf_36 : decode cY1_passOf 36 = .ok (.invokevirtual 62, 3) := by decide +kernel
theorem dY1_passOf_39 : decode cY1_passOf 39 = .ok (.ifCond .eq 12, 3) := by decide +kernel
theorem dY1_passOf_42 : decode cY1_passOf 42 = .ok (.aload_n 0, 1) := by decide +kernel
theorem dY1_passOf_43 : decode cY1_passOf 43 = .ok (.iload_n 3, 1) := by decide +kernel
theorem dY1_passOf_44 : decode cY1_passOf 44 = .ok (.iload_n 2, 1) := by decide +kernel
theorem dY1_passOf_45 : decode cY1_passOf 45 = .ok (.invokevirtual 65, 3) := by decide +kernel
theorem dY1_passOf_48 : decode cY1_passOf 48 = .ok (.ifCond .ne 9, 3) := by decide +kernel
theorem dY1_passOf_51 : decode cY1_passOf 51 = .ok (.iinc 3 1, 3) := by decide +kernel
theorem dY1_passOf_54 : decode cY1_passOf 54 = .ok (.goto (-21), 3) := by decide +kernel
theorem dY1_passOf_57 : decode cY1_passOf 57 = .ok (.iload_n 3, 1) := by decide +kernel
theorem dY1_passOf_58 : decode cY1_passOf 58 = .ok (.ireturn, 1) := by decide +kernel
