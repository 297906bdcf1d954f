theorem dX0_init_0 : decode cX0_init 0 = .ok (.aload_n 0, 1) := by decide +kernel
theorem dX0_init_1 : decode cX0_init 1 = .ok (.invokespecial 3, 3) := by decide +kernel
theorem dX0_init_4 : decode cX0_init 4 = .ok (.aload_n 0, 1) := by decide +kernel
theorem dX0_init_5 : decode cX0_init 5 = .ok (.sipush 196, 3) := by decide +kernel
theorem dX0_init_8 : decode cX0_init 8 = .ok (.newarray .int, 2) := by decide +kernel
theorem dX0_init_10 : decode cX0_init 10 = .ok (.putfield 11, 3) := by decide +kernel
theorem dX0_init_13 : decode cX0_init 13 = .ok (.aload_n 0, 1) := by decide +kernel
theorem dX0_init_14 : decode cX0_init 14 = .ok (.bipush 14, 2) := by decide +kernel
theorem dX0_init_16 : decode cX0_init 16 = .ok (.newarray .int, 2) := by decide +kernel
theorem dX0_init_18 : decode cX0_init 18 = .ok (.putfield 15, 3) := by decide +kernel
theorem dX0_init_21 : decode cX0_init 21 = .ok (.aload_n 0, 1) := by decide +kernel
theorem dX0_init_22 : decode cX0_init 22 = .ok (.sipush 196, 3) := by decide +kernel
theorem dX0_init_25 : decode cX0_init 25 = .ok (.newarray .int, 2) := by decide +kernel
theorem dX0_init_27 : decode cX0_init 27 = .ok (.putfield 18, 3) := by decide +kernel
theorem dX0_init_30 : decode cX0_init 30 = .ok (.aload_n 0, 1) := by decide +kernel
theorem dX0_init_31 : decode cX0_init 31 = .ok (.bipush 14, 2) := by decide +kernel
theorem dX0_init_33 : decode cX0_init 33 = .ok (.newarray .int, 2) := by decide +kernel
theorem dX0_init_35 : decode cX0_init 35 = .ok (.putfield 21, 3) := by decide +kernel
theorem dX0_init_38 : decode cX0_init 38 = .ok (.aload_n 0, 1) := by decide +kernel
theorem dX0_init_39 : decode cX0_init 39 = .ok (.bipush 14, 2) := by decide +kernel
theorem dX0_init_41 : decode cX0_init 41 = .ok (.newarray .int, 2) := by decide +kernel
theorem dX0_init_43 : decode cX0_init 43 = .ok (.putfield 24, 3) := by decide +kernel
theorem dX0_init_46 : decode cX0_init 46 = .ok (.aload_n 0, 1) := by decide +kernel
theorem dX0_init_47 : decode cX0_init 47 = .ok (.bipush 14, 2) := by decide +kernel
theorem dX0_init_49 : decode cX0_init 49 = .ok (.newarray .int, 2) := by decide +kernel
theorem dX0_init_51 : decode cX0_init 51 = .ok (.putfield 27, 3) := by decide +kernel
theorem dX0_init_54 : decode cX0_init 54 = .ok (.return_, 1) := by decide +kernel
theorem dX0_clear_0 : decode cX0_clear 0 = .ok (.aload_n 0, 1) := by decide +kernel
theorem dX0_clear_1 : decode cX0_clear 1 = .ok (.getfield 11, 3) := by decide +kernel
theorem dX0_clear_4 : decode cX0_clear 4 = .ok (.iconst 0, 1) := by decide +kernel
theorem dX0_clear_5 : decode cX0_clear 5 = .ok (.invokestatic 30, 3) := by decide +kernel
theorem dX0_clear_8 : decode cX0_clear 8 = .ok (.aload_n 0, 1) := by decide +kernel
theorem dX0_clear_9 : decode cX0_clear 9 = .ok (.getfield 15, 3) := by decide +kernel
theorem dX0_clear_12 : decode cX0_clear 12 = .ok (.iconst 0, 1) := by decide +kernel
theorem dX0_clear_13 : decode cX0_clear 13 = .ok (.invokestatic 30, 3) := by decide +kernel
theorem dX0_clear_16 : decode cX0_clear 16 = .ok (.return_, 1) := by decide +kernel
theorem dX0_give_0 : decode cX0_give 0 = .ok (.aload_n 0, 1) := by decide +kernel
theorem dX0_give_1 : decode cX0_give 1 = .ok (.bipush 13, 2) := by decide +kernel
theorem dX0_give_3 : decode cX0_give 3 = .ok (.iload_n 1, 1) := by decide +kernel
theorem dX0_give_4 : decode cX0_give 4 = .ok (.iload_n 2, 1) := by decide +kernel
theorem dX0_give_5 : decode cX0_give 5 = .ok (.invokevirtual 36, 3) := by decide +kernel
theorem dX0_give_8 : decode cX0_give 8 = .ok (.return_, 1) := by decide +kernel
theorem dX0_join_0 : decode cX0_join 0 = .ok (.aload_n 0, 1) := by decide +kernel
theorem dX0_join_1 : decode cX0_join 1 = .ok (.iload_n 1, 1) := by decide +kernel
theorem dX0_join_2 : decode cX0_join 2 = .ok (.iload_n 2, 1) := by decide +kernel
theorem dX0_join_3 : decode cX0_join 3 = .ok (.iload_n 3, 1) := by decide +kernel
theorem dX0_join_4 : decode cX0_join 4 = .ok (.invokevirtual 36, 3) := by decide +kernel
theorem dX0_join_7 : decode cX0_join 7 = .ok (.aload_n 0, 1) := by decide +kernel
theorem dX0_join_8 : decode cX0_join 8 = .ok (.iload_n 2, 1) := by decide +kernel
theorem dX0_join_9 : decode cX0_join 9 = .ok (.iload_n 1, 1) := by decide +kernel
theorem dX0_join_10 : decode cX0_join 10 = .ok (.iload_n 3, 1) := by decide +kernel
theorem dX0_join_11 : decode cX0_join 11 = .ok (.invokevirtual 36, 3) := by decide +kernel
theorem dX0_join_14 : decode cX0_join 14 = .ok (.return_, 1) := by decide +kernel
theorem dX0_widen_0 : decode cX0_widen 0 = .ok (.iload_n 3, 1) := by decide +kernel
theorem dX0_widen_1 : decode cX0_widen 1 = .ok (.ifCond .le 30, 3) := by decide +kernel
theorem dX0_widen_4 : decode cX0_widen 4 = .ok (.aload_n 0, 1) := by decide +kernel
theorem dX0_widen_5 : decode cX0_widen 5 = .ok (.getfield 11, 3) := by decide +kernel
theorem dX0_widen_8 : decode cX0_widen 8 = .ok (.iload_n 1, 1) := by decide +kernel
theorem dX0_widen_9 : decode cX0_widen 9 = .ok (.bipush 14, 2) := by decide +kernel
theorem dX0_widen_11 : decode cX0_widen 11 = .ok (.imul, 1) := by decide +kernel
theorem dX0_widen_12 : decode cX0_widen 12 = .ok (.iload_n 2, 1) := by decide +kernel
theorem dX0_widen_13 : decode cX0_widen 13 = .ok (.iadd, 1) := by decide +kernel
theorem dX0_widen_14 : decode cX0_widen 14 = .ok (.dup2, 1) := by decide +kernel
theorem dX0_widen_15 : decode cX0_widen 15 = .ok (.iaload, 1) := by decide +kernel
theorem dX0_widen_16 : decode cX0_widen 16 = .ok (.iload_n 3, 1) := by decide +kernel
theorem dX0_widen_17 : decode cX0_widen 17 = .ok (.iadd, 1) := by decide +kernel
theorem dX0_widen_18 : decode cX0_widen 18 = .ok (.iastore, 1) := by decide +kernel
theorem dX0_widen_19 : decode cX0_widen 19 = .ok (.aload_n 0, 1) := by decide +kernel
theorem dX0_widen_20 : decode cX0_widen 20 = .ok (.getfield 15, 3) := by decide +kernel
theorem dX0_widen_23 : decode cX0_widen 23 = .ok (.iload_n 1, 1) := by decide +kernel
theorem dX0_widen_24 : decode cX0_widen 24 = .ok (.dup2, 1) := by decide +kernel
theorem dX0_widen_25 : decode cX0_widen 25 = .ok (.iaload, 1) := by decide +kernel
theorem dX0_widen_26 : decode cX0_widen 26 = .ok (.iconst 1, 1) := by decide +kernel
theorem dX0_widen_27 : decode cX0_widen 27 = .ok (.iload_n 2, 1) := by decide +kernel
theorem dX0_widen_28 : decode cX0_widen 28 = .ok (.ishl, 1) := by decide +kernel
theorem dX0_widen_29 : decode cX0_widen 29 = .ok (.ior, 1) := by decide +kernel
theorem dX0_widen_30 : decode cX0_widen 30 = .ok (.iastore, 1) := by decide +kernel
theorem dX0_widen_31 : decode cX0_widen 31 = .ok (.return_, 1) := by decide +kernel
theorem dX0_partCheat_0 : decode cX0_partCheat 0 = .ok (.iconst 0, 1) := by decide +kernel
theorem dX0_partCheat_1 : decode cX0_partCheat 1 = .ok (.istore_n 1, 1) := by decide +kernel
theorem dX0_partCheat_2 : decode cX0_partCheat 2 = .ok (.iload_n 1, 1) := by decide +kernel
theorem dX0_partCheat_3 : decode cX0_partCheat 3 = .ok (.bipush 14, 2) := by decide +kernel
theorem dX0_partCheat_5 : decode cX0_partCheat 5 = .ok (.if_icmp .ge 45, 3) := by decide +kernel
theorem dX0_partCheat_8 : decode cX0_partCheat 8 = .ok (.aload_n 0, 1) := by decide +kernel
theorem dX0_partCheat_9 : decode cX0_partCheat 9 = .ok (.getfield 11, 3) := by decide +kernel
theorem dX0_partCheat_12 : decode cX0_partCheat 12 = .ok (.iload_n 1, 1) := by decide +kernel
theorem dX0_partCheat_13 : decode cX0_partCheat 13 = .ok (.bipush 14, 2) := by decide +kernel
theorem dX0_partCheat_15 : decode cX0_partCheat 15 = .ok (.imul, 1) := by decide +kernel
theorem dX0_partCheat_16 : decode cX0_partCheat 16 = .ok (.bipush 12, 2) := by decide +kernel
theorem dX0_partCheat_18 : decode cX0_partCheat 18 = .ok (.iadd, 1) := by decide +kernel
theorem dX0_partCheat_19 : decode cX0_partCheat 19 = .ok (.iconst 0, 1) := by decide +kernel
theorem dX0_partCheat_20 : decode cX0_partCheat 20 = .ok (.iastore, 1) := by decide +kernel
theorem dX0_partCheat_21 : decode cX0_partCheat 21 = .ok (.aload_n 0, 1) := by decide +kernel
theorem dX0_partCheat_22 : decode cX0_partCheat 22 = .ok (.getfield 11, 3) := by decide +kernel
theorem dX0_partCheat_25 : decode cX0_partCheat 25 = .ok (.sipush 168, 3) := by decide +kernel
theorem dX0_partCheat_28 : decode cX0_partCheat 28 = .ok (.iload_n 1, 1) := by decide +kernel
theorem dX0_partCheat_29 : decode cX0_partCheat 29 = .ok (.iadd, 1) := by decide +kernel
theorem dX0_partCheat_30 : decode cX0_partCheat 30 = .ok (.iconst 0, 1) := by decide +kernel
theorem dX0_partCheat_31 : decode cX0_partCheat 31 = .ok (.iastore, 1) := by decide +kernel
theorem dX0_partCheat_32 : decode cX0_partCheat 32 = .ok (.aload_n 0, 1) := by decide +kernel
theorem dX0_partCheat_33 : decode cX0_partCheat 33 = .ok (.getfield 15, 3) := by decide +kernel
theorem dX0_partCheat_36 : decode cX0_partCheat 36 = .ok (.iload_n 1, 1) := by decide +kernel
theorem dX0_partCheat_37 : decode cX0_partCheat 37 = .ok (.dup2, 1) := by decide +kernel
theorem dX0_partCheat_38 : decode cX0_partCheat 38 = .ok (.iaload, 1) := by decide +kernel
theorem dX0_partCheat_39 : decode cX0_partCheat 39 = .ok (.sipush (-4097), 3) := by decide +kernel
theorem dX0_partCheat_42 : decode cX0_partCheat 42 = .ok (.iand, 1) := by decide +kernel
theorem dX0_partCheat_43 : decode cX0_partCheat 43 = .ok (.iastore, 1) := by decide +kernel
theorem dX0_partCheat_44 : decode cX0_partCheat 44 = .ok (.iinc 1 1, 3) := by decide +kernel
theorem dX0_partCheat_47 : decode cX0_partCheat 47 = .ok (.goto (-45), 3) := by decide +kernel
theorem dX0_partCheat_50 : decode cX0_partCheat 50 = .ok (.aload_n 0, 1) := by decide +kernel
theorem dX0_partCheat_51 : decode cX0_partCheat 51 = .ok (.getfield 15, 3) := by decide +kernel
theorem dX0_partCheat_54 : decode cX0_partCheat 54 = .ok (.bipush 12, 2) := by decide +kernel
theorem dX0_partCheat_56 : decode cX0_partCheat 56 = .ok (.iconst 0, 1) := by decide +kernel
theorem dX0_partCheat_57 : decode cX0_partCheat 57 = .ok (.iastore, 1) := by decide +kernel
theorem dX0_partCheat_58 : decode cX0_partCheat 58 = .ok (.return_, 1) := by decide +kernel
theorem dX0_most_0 : decode cX0_most 0 = .ok (.aload_n 0, 1) := by decide +kernel
theorem dX0_most_1 : decode cX0_most 1 = .ok (.getfield 11, 3) := by decide +kernel
theorem dX0_most_4 : decode cX0_most 4 = .ok (.iconst 0, 1) := by decide +kernel
theorem dX0_most_5 : decode cX0_most 5 = .ok (.aload_n 0, 1) := by decide +kernel
theorem dX0_most_6 : decode cX0_most 6 = .ok (.getfield 18, 3) := by decide +kernel
theorem dX0_most_9 : decode cX0_most 9 = .ok (.iconst 0, 1) := by decide +kernel
theorem dX0_most_10 : decode cX0_most 10 = .ok (.sipush 196, 3) := by decide +kernel
theorem dX0_most_13 : decode cX0_most 13 = .ok (.invokestatic 40, 3) := by decide +kernel
theorem dX0_most_16 : decode cX0_most 16 = .ok (.aload_n 0, 1) := by decide +kernel
theorem dX0_most_17 : decode cX0_most 17 = .ok (.getfield 15, 3) := by decide +kernel
theorem dX0_most_20 : decode cX0_most 20 = .ok (.iconst 0, 1) := by decide +kernel
theorem dX0_most_21 : decode cX0_most 21 = .ok (.aload_n 0, 1) := by decide +kernel
theorem dX0_most_22 : decode cX0_most 22 = .ok (.getfield 21, 3) := by decide +kernel
theorem dX0_most_25 : decode cX0_most 25 = .ok (.iconst 0, 1) := by decide +kernel
theorem dX0_most_26 : decode cX0_most 26 = .ok (.bipush 14, 2) := by decide +kernel
theorem dX0_most_28 : decode cX0_most 28 = .ok (.invokestatic 40, 3) := by decide +kernel
theorem dX0_most_31 : decode cX0_most 31 = .ok (.iconst 0, 1) := by decide +kernel
theorem dX0_most_32 : decode cX0_most 32 = .ok (.istore_n 2, 1) := by decide +kernel
theorem dX0_most_33 : decode cX0_most 33 = .ok (.iconst 0, 1) := by decide +kernel
theorem dX0_most_34 : decode cX0_most 34 = .ok (.istore_n 3, 1) := by decide +kernel
theorem dX0_most_35 : decode cX0_most 35 = .ok (.iload_n 3, 1) := by decide +kernel
theorem dX0_most_36 : decode cX0_most 36 = .ok (.sipush 10000, 3) := by decide +kernel
theorem dX0_most_39 : decode cX0_most 39 = .ok (.if_icmp .ge 33, 3) := by decide +kernel
theorem dX0_most_42 : decode cX0_most 42 = .ok (.aload_n 0, 1) := by decide +kernel
theorem dX0_most_43 : decode cX0_most 43 = .ok (.iload_n 1, 1) := by decide +kernel
theorem dX0_most_44 : decode cX0_most 44 = .ok (.invokevirtual 46, 3) := by decide +kernel
theorem dX0_most_47 : decode cX0_most 47 = .ok (.istore 4, 2) := by decide +kernel
theorem dX0_most_49 : decode cX0_most 49 = .ok (.iload 4, 2) := by decide +kernel
theorem dX0_most_51 : decode cX0_most 51 = .ok (.ifCond .ge 6, 3) := by decide +kernel
theorem dX0_most_54 : decode cX0_most 54 = .ok (.goto 18, 3) := by decide +kernel
theorem dX0_most_57 : decode cX0_most 57 = .ok (.iload_n 2, 1) := by decide +kernel
theorem dX0_most_58 : decode cX0_most 58 = .ok (.aload_n 0, 1) := by decide +kernel
theorem dX0_most_59 : decode cX0_most 59 = .ok (.iload 4, 2) := by decide +kernel
theorem dX0_most_61 : decode cX0_most 61 = .ok (.invokevirtual 50, 3) := by decide +kernel
theorem dX0_most_64 : decode cX0_most 64 = .ok (.iadd, 1) := by decide +kernel
theorem dX0_most_65 : decode cX0_most 65 = .ok (.istore_n 2, 1) := by decide +kernel
theorem dX0_most_66 : decode cX0_most 66 = .ok (.iinc 3 1, 3) := by decide +kernel
theorem dX0_most_69 : decode cX0_most 69 = .ok (.goto (-34), 3) := by decide +kernel
theorem dX0_most_72 : decode cX0_most 72 = .ok (.iload_n 2, 1) := by decide +kernel
theorem dX0_most_73 : decode cX0_most 73 = .ok (.ireturn, 1) := by decide +kernel
theorem dX0_search_0 : decode cX0_search 0 = .ok (.aload_n 0, 1) := by decide +kernel
theorem dX0_search_1 : decode cX0_search 1 = .ok (.sipush 8192, 3) := by decide +kernel
theorem dX0_search_4 : decode cX0_search 4 = .ok (.putfield 53, 3) := by decide +kernel
theorem dX0_search_7 : decode cX0_search 7 = .ok (.aload_n 0, 1) := by decide +kernel
theorem dX0_search_8 : decode cX0_search 8 = .ok (.getfield 27, 3) := by decide +kernel
theorem dX0_search_11 : decode cX0_search 11 = .ok (.iconst 0, 1) := by decide +kernel
theorem dX0_search_12 : decode cX0_search 12 = .ok (.bipush 13, 2) := by decide +kernel
theorem dX0_search_14 : decode cX0_search 14 = .ok (.iastore, 1) := by decide +kernel
theorem dX0_search_15 : decode cX0_search 15 = .ok (.iconst 1, 1) := by decide +kernel
theorem dX0_search_16 : decode cX0_search 16 = .ok (.istore_n 2, 1) := by decide +kernel
theorem dX0_search_17 : decode cX0_search 17 = .ok (.iconst 0, 1) := by decide +kernel
theorem dX0_search_18 : decode cX0_search 18 = .ok (.istore_n 3, 1) := by decide +kernel
theorem dX0_search_19 : decode cX0_search 19 = .ok (.iload_n 3, 1) := by decide +kernel
theorem dX0_search_20 : decode cX0_search 20 = .ok (.iload_n 2, 1) := by decide +kernel
theorem dX0_search_21 : decode cX0_search 21 = .ok (.if_icmp .ge 125, 3) := by decide +kernel
theorem dX0_search_24 : decode cX0_search 24 = .ok (.iload_n 3, 1) := by decide +kernel
theorem dX0_search_25 : decode cX0_search 25 = .ok (.bipush 14, 2) := by decide +kernel
theorem dX0_search_27 : decode cX0_search 27 = .ok (.if_icmp .ge 119, 3) := by decide +kernel
theorem dX0_search_30 : decode cX0_search 30 = .ok (.aload_n 0, 1) := by decide +kernel
theorem dX0_search_31 : decode cX0_search 31 = .ok (.getfield 27, 3) := by decide +kernel
theorem dX0_search_34 : decode cX0_search 34 = .ok (.iload_n 3, 1) := by decide +kernel
theorem dX0_search_35 : decode cX0_search 35 = .ok (.iaload, 1) := by decide +kernel
theorem dX0_search_36 : decode cX0_search 36 = .ok (.istore 4, 2) := by decide +kernel
theorem dX0_search_38 : decode cX0_search 38 = .ok (.aload_n 0, 1) := by decide +kernel
theorem dX0_search_39 : decode cX0_search 39 = .ok (.getfield 21, 3) := by decide +kernel
theorem dX0_search_42 : decode cX0_search 42 = .ok (.iload 4, 2) := by decide +kernel
theorem dX0_search_44 : decode cX0_search 44 = .ok (.iaload, 1) := by decide +kernel
theorem dX0_search_45 : decode cX0_search 45 = .ok (.aload_n 0, 1) := by decide +kernel
theorem dX0_search_46 : decode cX0_search 46 = .ok (.getfield 53, 3) := by decide +kernel
theorem dX0_search_49 : decode cX0_search 49 = .ok (.iconst (-1), 1) := by decide +kernel
theorem dX0_search_50 : decode cX0_search 50 = .ok (.ixor, 1) := by decide +kernel
theorem dX0_search_51 : decode cX0_search 51 = .ok (.iand, 1) := by decide +kernel
theorem dX0_search_52 : decode cX0_search 52 = .ok (.istore 5, 2) := by decide +kernel
theorem dX0_search_54 : decode cX0_search 54 = .ok (.aload_n 0, 1) := by decide +kernel
theorem dX0_search_55 : decode cX0_search 55 = .ok (.dup, 1) := by decide +kernel
theorem dX0_search_56 : decode cX0_search 56 = .ok (.getfield 53, 3) := by decide +kernel
theorem dX0_search_59 : decode cX0_search 59 = .ok (.iload 5, 2) := by decide +kernel
theorem dX0_search_61 : decode cX0_search 61 = .ok (.ior, 1) := by decide +kernel
theorem dX0_search_62 : decode cX0_search 62 = .ok (.putfield 53, 3) := by decide +kernel
theorem dX0_search_65 : decode cX0_search 65 = .ok (.iconst 0, 1) := by decide +kernel
theorem dX0_search_66 : decode cX0_search 66 = .ok (.istore 6, 2) := by decide +kernel
theorem dX0_search_68 : decode cX0_search 68 = .ok (.iload 6, 2) := by decide +kernel
theorem dX0_search_70 : decode cX0_search 70 = .ok (.bipush 14, 2) := by decide +kernel
theorem dX0_search_72 : decode cX0_search 72 = .ok (.if_icmp .ge 68, 3) := by decide +kernel
theorem dX0_search_75 : decode cX0_search 75 = .ok (.iload_n 2, 1) := by decide +kernel
theorem dX0_search_76 : decode cX0_search 76 = .ok (.bipush 14, 2) := by decide +kernel
theorem dX0_search_78 : decode cX0_search 78 = .ok (.if_icmp .ge 62, 3) := by decide +kernel
theorem dX0_search_81 : decode cX0_search 81 = .ok (.iload 5, 2) := by decide +kernel
theorem dX0_search_83 : decode cX0_search 83 = .ok (.iload 6, 2) := by decide +kernel
theorem dX0_search_85 : decode cX0_search 85 = .ok (.ishr, 1) := by decide +kernel
theorem dX0_search_86 : decode cX0_search 86 = .ok (.ifCond .eq 54, 3) := by decide +kernel
theorem dX0_search_89 : decode cX0_search 89 = .ok (.iload 5, 2) := by decide +kernel
theorem dX0_search_91 : decode cX0_search 91 = .ok (.iload 6, 2) := by decide +kernel
theorem dX0_search_93 : decode cX0_search 93 = .ok (.invokestatic 57, 3) := by decide +kernel
theorem dX0_search_96 : decode cX0_search 96 = .ok (.ifCond .ne 6, 3) := by decide +kernel
theorem dX0_search_99 : decode cX0_search 99 = .ok (.goto 35, 3) := by decide +kernel
theorem dX0_search_102 : decode cX0_search 102 = .ok (.aload_n 0, 1) := by decide +kernel
theorem dX0_search_103 : decode cX0_search 103 = .ok (.getfield 24, 3) := by decide +kernel
theorem dX0_search_106 : decode cX0_search 106 = .ok (.iload 6, 2) := by decide +kernel
theorem dX0_search_108 : decode cX0_search 108 = .ok (.iload 4, 2) := by decide +kernel
theorem dX0_search_110 : decode cX0_search 110 = .ok (.iastore, 1) := by decide +kernel
theorem dX0_search_111 : decode cX0_search 111 = .ok (.iload_n 1, 1) := by decide +kernel
theorem dX0_search_112 : decode cX0_search 112 = .ok (.iload 6, 2) := by decide +kernel
theorem dX0_search_114 : decode cX0_search 114 = .ok (.invokestatic 57, 3) := by decide +kernel
theorem dX0_search_117 : decode cX0_search 117 = .ok (.ifCond .eq 6, 3) := by decide +kernel
theorem dX0_search_120 : decode cX0_search 120 = .ok (.iload 6, 2) := by decide +kernel
theorem dX0_search_122 : decode cX0_search 122 = .ok (.ireturn, 1) := by decide +kernel
theorem dX0_search_123 : decode cX0_search 123 = .ok (.aload_n 0, 1) := by decide +kernel
theorem dX0_search_124 : decode cX0_search 124 = .ok (.getfield 27, 3) := by decide +kernel
theorem dX0_search_127 : decode cX0_search 127 = .ok (.iload_n 2, 1) := by decide +kernel
theorem dX0_search_128 : decode cX0_search 128 = .ok (.iload 6, 2) := by decide +kernel
theorem dX0_search_130 : decode cX0_search 130 = .ok (.iastore, 1) := by decide +kernel
theorem dX0_search_131 : decode cX0_search 131 = .ok (.iinc 2 1, 3) := by decide +kernel
theorem dX0_search_134 : decode cX0_search 134 = .ok (.iinc 6 1, 3) := by decide +kernel
theorem dX0_search_137 : decode cX0_search 137 = .ok (.goto (-69), 3) := by decide +kernel
theorem dX0_search_140 : decode cX0_search 140 = .ok (.iinc 3 1, 3) := by decide +kernel
theorem dX0_search_143 : decode cX0_search 143 = .ok (.goto (-124), 3) := by decide +kernel
theorem dX0_search_146 : decode cX0_search 146 = .ok (.bipush (-4), 2) := by decide +kernel
theorem dX0_search_148 : decode cX0_search 148 = .ok (.ireturn, 1) := by decide +kernel
theorem dX0_push_0 : decode cX0_push 0 = .ok (.aload_n 0, 1) := by decide +kernel
theorem dX0_push_1 : decode cX0_push 1 = .ok (.getfield 18, 3) := by decide +kernel
theorem dX0_push_4 : decode cX0_push 4 = .ok (.aload_n 0, 1) := by decide +kernel
theorem dX0_push_5 : decode cX0_push 5 = .ok (.getfield 24, 3) := by decide +kernel
theorem dX0_push_8 : decode cX0_push 8 = .ok (.iload_n 1, 1) := by decide +kernel
theorem dX0_push_9 : decode cX0_push 9 = .ok (.iaload, 1) := by decide +kernel
theorem dX0_push_10 : decode cX0_push 10 = .ok (.bipush 14, 2) := by decide +kernel
theorem dX0_push_12 : decode cX0_push 12 = .ok (.imul, 1) := by decide +kernel
theorem dX0_push_13 : decode cX0_push 13 = .ok (.iload_n 1, 1) := by decide +kernel
theorem dX0_push_14 : decode cX0_push 14 = .ok (.iadd, 1) := by decide +kernel
theorem dX0_push_15 : decode cX0_push 15 = .ok (.iaload, 1) := by decide +kernel
theorem dX0_push_16 : decode cX0_push 16 = .ok (.istore_n 2, 1) := by decide +kernel
theorem dX0_push_17 : decode cX0_push 17 = .ok (.iload_n 1, 1) := by decide +kernel
theorem dX0_push_18 : decode cX0_push 18 = .ok (.istore_n 3, 1) := by decide +kernel
theorem dX0_push_19 : decode cX0_push 19 = .ok (.iconst 0, 1) := by decide +kernel
theorem dX0_push_20 : decode cX0_push 20 = .ok (.istore 4, 2) := by decide +kernel
theorem dX0_push_22 : decode cX0_push 22 = .ok (.iload 4, 2) := by decide +kernel
theorem dX0_push_24 : decode cX0_push 24 = .ok (.bipush 14, 2) := by decide +kernel
theorem dX0_push_26 : decode cX0_push 26 = .ok (.if_icmp .ge 43, 3) := by decide +kernel
theorem dX0_push_29 : decode cX0_push 29 = .ok (.iload_n 3, 1) := by decide +kernel
theorem dX0_push_30 : decode cX0_push 30 = .ok (.bipush 13, 2) := by decide +kernel
theorem dX0_push_32 : decode cX0_push 32 = .ok (.if_icmp .eq 37, 3) := by decide +kernel
theorem dX0_push_35 : decode cX0_push 35 = .ok (.iload_n 2, 1) := by decide +kernel
theorem dX0_push_36 : decode cX0_push 36 = .ok (.aload_n 0, 1) := by decide +kernel
theorem dX0_push_37 : decode cX0_push 37 = .ok (.getfield 18, 3) := by decide +kernel
theorem dX0_push_40 : decode cX0_push 40 = .ok (.aload_n 0, 1) := by decide +kernel
theorem dX0_push_41 : decode cX0_push 41 = .ok (.getfield 24, 3) := by decide +kernel
theorem dX0_push_44 : decode cX0_push 44 = .ok (.iload_n 3, 1) := by decide +kernel
theorem dX0_push_45 : decode cX0_push 45 = .ok (.iaload, 1) := by decide +kernel
theorem dX0_push_46 : decode cX0_push 46 = .ok (.bipush 14, 2) := by decide +kernel
theorem dX0_push_48 : decode cX0_push 48 = .ok (.imul, 1) := by decide +kernel
theorem dX0_push_49 : decode cX0_push 49 = .ok (.iload_n 3, 1) := by decide +kernel
theorem dX0_push_50 : decode cX0_push 50 = .ok (.iadd, 1) := by decide +kernel
theorem dX0_push_51 : decode cX0_push 51 = .ok (.iaload, 1) := by decide +kernel
theorem dX0_push_52 : decode cX0_push 52 = .ok (.invokestatic 61, 3) := by decide +kernel
theorem dX0_push_55 : decode cX0_push 55 = .ok (.istore_n 2, 1) := by decide +kernel
theorem dX0_push_56 : decode cX0_push 56 = .ok (.aload_n 0, 1) := by decide +kernel
theorem dX0_push_57 : decode cX0_push 57 = .ok (.getfield 24, 3) := by decide +kernel
theorem dX0_push_60 : decode cX0_push 60 = .ok (.iload_n 3, 1) := by decide +kernel
theorem dX0_push_61 : decode cX0_push 61 = .ok (.iaload, 1) := by decide +kernel
theorem dX0_push_62 : decode cX0_push 62 = .ok (.istore_n 3, 1) := by decide +kernel
theorem dX0_push_63 : decode cX0_push 63 = .ok (.iinc 4 1, 3) := by decide +kernel
theorem dX0_push_66 : decode cX0_push 66 = .ok (.goto (-44), 3) := by decide +kernel
theorem dX0_push_69 : decode cX0_push 69 = .ok (.iload_n 1, 1) := by decide +kernel
theorem dX0_push_70 : decode cX0_push 70 = .ok (.istore_n 3, 1) := by decide +kernel
theorem dX0_push_71 : decode cX0_push 71 = .ok (.iconst 0, 1) := by decide +kernel
theorem dX0_push_72 : decode cX0_push 72 = .ok (.istore 4, 2) := by decide +kernel
theorem dX0_push_74 : decode cX0_push 74 = .ok (.iload 4, 2) := by decide +kernel
theorem dX0_push_76 : decode cX0_push 76 = .ok (.bipush 14, 2) := by decide +kernel
theorem dX0_push_78 : decode cX0_push 78 = .ok (.if_icmp .ge 101, 3) := by decide +kernel
theorem dX0_push_81 : decode cX0_push 81 = .ok (.iload_n 3, 1) := by decide +kernel
theorem dX0_push_82 : decode cX0_push 82 = .ok (.bipush 13, 2) := by decide +kernel
theorem dX0_push_84 : decode cX0_push 84 = .ok (.if_icmp .eq 95, 3) := by decide +kernel
theorem dX0_push_87 : decode cX0_push 87 = .ok (.aload_n 0, 1) := by decide +kernel
theorem dX0_push_88 : decode cX0_push 88 = .ok (.getfield 24, 3) := by decide +kernel
theorem dX0_push_91 : decode cX0_push 91 = .ok (.iload_n 3, 1) := by decide +kernel
theorem dX0_push_92 : decode cX0_push 92 = .ok (.iaload, 1) := by decide +kernel
theorem dX0_push_93 : decode cX0_push 93 = .ok (.istore 5, 2) := by decide +kernel
theorem dX0_push_95 : decode cX0_push 95 = .ok (.aload_n 0, 1) := by decide +kernel
theorem dX0_push_96 : decode cX0_push 96 = .ok (.getfield 18, 3) := by decide +kernel
theorem dX0_push_99 : decode cX0_push 99 = .ok (.iload 5, 2) := by decide +kernel
theorem dX0_push_101 : decode cX0_push 101 = .ok (.bipush 14, 2) := by decide +kernel
theorem dX0_push_103 : decode cX0_push 103 = .ok (.imul, 1) := by decide +kernel
theorem dX0_push_104 : decode cX0_push 104 = .ok (.iload_n 3, 1) := by decide +kernel
theorem dX0_push_105 : decode cX0_push 105 = .ok (.iadd, 1) := by decide +kernel
theorem dX0_push_106 : decode cX0_push 106 = .ok (.dup2, 1) := by decide +kernel
theorem dX0_push_107 : decode cX0_push 107 = .ok (.iaload, 1) := by decide +kernel
theorem dX0_push_108 : decode cX0_push 108 = .ok (.iload_n 2, 1) := by decide +kernel
theorem dX0_push_109 : decode cX0_push 109 = .ok (.isub, 1) := by decide +kernel
theorem dX0_push_110 : decode cX0_push 110 = .ok (.iastore, 1) := by decide +kernel
theorem dX0_push_111 : decode cX0_push 111 = .ok (.aload_n 0, 1) := by decide +kernel
theorem dX0_push_112 : decode cX0_push 112 = .ok (.getfield 18, 3) := by decide +kernel
theorem dX0_push_115 : decode cX0_push 115 = .ok (.iload_n 3, 1) := by decide +kernel
theorem dX0_push_116 : decode cX0_push 116 = .ok (.bipush 14, 2) := by decide +kernel
theorem dX0_push_118 : decode cX0_push 118 = .ok (.imul, 1) := by decide +kernel
theorem dX0_push_119 : decode cX0_push 119 = .ok (.iload 5, 2) := by decide +kernel
theorem dX0_push_121 : decode cX0_push 121 = .ok (.iadd, 1) := by decide +kernel
theorem dX0_push_122 : decode cX0_push 122 = .ok (.dup2, 1) := by decide +kernel
theorem dX0_push_123 : decode cX0_push 123 = .ok (.iaload, 1) := by decide +kernel
theorem dX0_push_124 : decode cX0_push 124 = .ok (.iload_n 2, 1) := by decide +kernel
theorem dX0_push_125 : decode cX0_push 125 = .ok (.iadd, 1) := by decide +kernel
theorem dX0_push_126 : decode cX0_push 126 = .ok (.iastore, 1) := by decide +kernel
theorem dX0_push_127 : decode cX0_push 127 = .ok (.aload_n 0, 1) := by decide +kernel
theorem dX0_push_128 : decode cX0_push 128 = .ok (.getfield 21, 3) := by decide +kernel
theorem dX0_push_131 : decode cX0_push 131 = .ok (.iload_n 3, 1) := by decide +kernel
theorem dX0_push_132 : decode cX0_push 132 = .ok (.dup2, 1) := by decide +kernel
theorem dX0_push_133 : decode cX0_push 133 = .ok (.iaload, 1) := by decide +kernel
theorem dX0_push_134 : decode cX0_push 134 = .ok (.iconst 1, 1) := by decide +kernel
theorem dX0_push_135 : decode cX0_push 135 = .ok (.iload 5, 2) := by decide +kernel
theorem dX0_push_137 : decode cX0_push 137 = .ok (.ishl, 1) := by decide +kernel
theorem dX0_push_138 : decode cX0_push 138 = .ok (.ior, 1) := by decide +kernel
theorem dX0_push_139 : decode cX0_push 139 = .ok (.iastore, 1) := by decide +kernel
theorem dX0_push_140 : decode cX0_push 140 = .ok (.aload_n 0, 1) := by decide +kernel
theorem dX0_push_141 : decode cX0_push 141 = .ok (.getfield 18, 3) := by decide +kernel
theorem dX0_push_144 : decode cX0_push 144 = .ok (.iload 5, 2) := by decide +kernel
theorem dX0_push_146 : decode cX0_push 146 = .ok (.bipush 14, 2) := by decide +kernel
theorem dX0_push_148 : decode cX0_push 148 = .ok (.imul, 1) := by decide +kernel
theorem dX0_push_149 : decode cX0_push 149 = .ok (.iload_n 3, 1) := by decide +kernel
theorem dX0_push_150 : decode cX0_push 150 = .ok (.iadd, 1) := by decide +kernel
theorem dX0_push_151 : decode cX0_push 151 = .ok (.iaload, 1) := by decide +kernel
theorem dX0_push_152 : decode cX0_push 152 = .ok (.ifCond .gt 18, 3) := by decide +kernel
theorem dX0_push_155 : decode cX0_push 155 = .ok (.aload_n 0, 1) := by decide +kernel
theorem dX0_push_156 : decode cX0_push 156 = .ok (.getfield 21, 3) := by decide +kernel
theorem dX0_push_159 : decode cX0_push 159 = .ok (.iload 5, 2) := by decide +kernel
theorem dX0_push_161 : decode cX0_push 161 = .ok (.dup2, 1) := by decide +kernel
theorem dX0_push_162 : decode cX0_push 162 = .ok (.iaload, 1) := by decide +kernel
theorem dX0_push_163 : decode cX0_push 163 = .ok (.iconst 1, 1) := by decide +kernel
theorem dX0_push_164 : decode cX0_push 164 = .ok (.iload_n 3, 1) := by decide +kernel
theorem dX0_push_165 : decode cX0_push 165 = .ok (.ishl, 1) := by decide +kernel
theorem dX0_push_166 : decode cX0_push 166 = .ok (.iconst (-1), 1) := by decide +kernel
theorem dX0_push_167 : decode cX0_push 167 = .ok (.ixor, 1) := by decide +kernel
theorem dX0_push_168 : decode cX0_push 168 = .ok (.iand, 1) := by decide +kernel
theorem dX0_push_169 : decode cX0_push 169 = .ok (.iastore, 1) := by decide +kernel
theorem dX0_push_170 : decode cX0_push 170 = .ok (.iload 5, 2) := by decide +kernel
theorem dX0_push_172 : decode cX0_push 172 = .ok (.istore_n 3, 1) := by decide +kernel
theorem dX0_push_173 : decode cX0_push 173 = .ok (.iinc 4 1, 3) := by decide +kernel
theorem dX0_push_176 : decode cX0_push 176 = .ok (.goto (-102), 3) := by decide +kernel
theorem dX0_push_179 : decode cX0_push 179 = .ok (.iload_n 2, 1) := by decide +kernel
theorem dX0_push_180 : decode cX0_push 180 = .ok (.ireturn, 1) := by decide +kernel
theorem dX1_init_0 : decode cX1_init 0 = .ok (.aload_n 0, 1) := by decide +kernel
theorem dX1_init_1 : decode cX1_init 1 = .ok (.invokespecial 3, 3) := by decide +kernel
theorem dX1_init_4 : decode cX1_init 4 = .ok (.aload_n 0, 1) := by decide +kernel
theorem dX1_init_5 : decode cX1_init 5 = .ok (.bipush 12, 2) := by decide +kernel
theorem dX1_init_7 : decode cX1_init 7 = .ok (.newarray .int, 2) := by decide +kernel
theorem dX1_init_9 : decode cX1_init 9 = .ok (.putfield 9, 3) := by decide +kernel
theorem dX1_init_12 : decode cX1_init 12 = .ok (.aload_n 0, 1) := by decide +kernel
theorem dX1_init_13 : decode cX1_init 13 = .ok (.bipush 12, 2) := by decide +kernel
theorem dX1_init_15 : decode cX1_init 15 = .ok (.newarray .boolean, 2) := by decide +kernel
theorem dX1_init_17 : decode cX1_init 17 = .ok (.putfield 15, 3) := by decide +kernel
theorem dX1_init_20 : decode cX1_init 20 = .ok (.aload_n 0, 1) := by decide +kernel
theorem dX1_init_21 : decode cX1_init 21 = .ok (.bipush 12, 2) := by decide +kernel
theorem dX1_init_23 : decode cX1_init 23 = .ok (.newarray .boolean, 2) := by decide +kernel
theorem dX1_init_25 : decode cX1_init 25 = .ok (.putfield 19, 3) := by decide +kernel
theorem dX1_init_28 : decode cX1_init 28 = .ok (.aload_n 0, 1) := by decide +kernel
theorem dX1_init_29 : decode cX1_init 29 = .ok (.bipush 12, 2) := by decide +kernel
theorem dX1_init_31 : decode cX1_init 31 = .ok (.newarray .int, 2) := by decide +kernel
theorem dX1_init_33 : decode cX1_init 33 = .ok (.putfield 22, 3) := by decide +kernel
theorem dX1_init_36 : decode cX1_init 36 = .ok (.aload_n 0, 1) := by decide +kernel
theorem dX1_init_37 : decode cX1_init 37 = .ok (.bipush 12, 2) := by decide +kernel
theorem dX1_init_39 : decode cX1_init 39 = .ok (.newarray .int, 2) := by decide +kernel
theorem dX1_init_41 : decode cX1_init 41 = .ok (.putfield 25, 3) := by decide +kernel
theorem dX1_init_44 : decode cX1_init 44 = .ok (.return_, 1) := by decide +kernel
theorem dX1_enter_0 : decode cX1_enter 0 = .ok (.aload_n 0, 1) := by decide +kernel
theorem dX1_enter_1 : decode cX1_enter 1 = .ok (.getfield 28, 3) := by decide +kernel
theorem dX1_enter_4 : decode cX1_enter 4 = .ok (.bipush 12, 2) := by decide +kernel
theorem dX1_enter_6 : decode cX1_enter 6 = .ok (.if_icmp .lt 6, 3) := by decide +kernel
theorem dX1_enter_9 : decode cX1_enter 9 = .ok (.bipush (-3), 2) := by decide +kernel
theorem dX1_enter_11 : decode cX1_enter 11 = .ok (.ireturn, 1) := by decide +kernel
theorem dX1_enter_12 : decode cX1_enter 12 = .ok (.aload_n 0, 1) := by decide +kernel
theorem dX1_enter_13 : decode cX1_enter 13 = .ok (.getfield 9, 3) := by decide +kernel
theorem dX1_enter_16 : decode cX1_enter 16 = .ok (.aload_n 0, 1) := by decide +kernel
theorem dX1_enter_17 : decode cX1_enter 17 = .ok (.getfield 28, 3) := by decide +kernel
theorem dX1_enter_20 : decode cX1_enter 20 = .ok (.iload_n 1, 1) := by decide +kernel
theorem dX1_enter_21 : decode cX1_enter 21 = .ok (.iastore, 1) := by decide +kernel
theorem dX1_enter_22 : decode cX1_enter 22 = .ok (.aload_n 0, 1) := by decide +kernel
theorem dX1_enter_23 : decode cX1_enter 23 = .ok (.dup, 1) := by decide +kernel
theorem dX1_enter_24 : decode cX1_enter 24 = .ok (.getfield 28, 3) := by decide +kernel
theorem dX1_enter_27 : decode cX1_enter 27 = .ok (.dup_x1, 1) := by decide +kernel
theorem dX1_enter_28 : decode cX1_enter 28 = .ok (.iconst 1, 1) := by decide +kernel
theorem dX1_enter_29 : decode cX1_enter 29 = .ok (.iadd, 1) := by decide +kernel
theorem dX1_enter_30 : decode cX1_enter 30 = .ok (.putfield 28, 3) := by decide +kernel
theorem dX1_enter_33 : decode cX1_enter 33 = .ok (.ireturn, 1) := by decide +kernel
theorem dX2_init_0 : decode cX2_init 0 = .ok (.aload_n 0, 1) := by decide +kernel
theorem dX2_init_1 : decode cX2_init 1 = .ok (.invokespecial 3, 3) := by decide +kernel
theorem dX2_init_4 : decode cX2_init 4 = .ok (.aload_n 0, 1) := by decide +kernel
theorem dX2_init_5 : decode cX2_init 5 = .ok (.bipush 48, 2) := by decide +kernel
theorem dX2_init_7 : decode cX2_init 7 = .ok (.newarray .int, 2) := by decide +kernel
theorem dX2_init_9 : decode cX2_init 9 = .ok (.putfield 11, 3) := by decide +kernel
theorem dX2_init_12 : decode cX2_init 12 = .ok (.aload_n 0, 1) := by decide +kernel
theorem dX2_init_13 : decode cX2_init 13 = .ok (.iconst (-1), 1) := by decide +kernel
theorem dX2_init_14 : decode cX2_init 14 = .ok (.putfield 15, 3) := by decide +kernel
theorem dX2_init_17 : decode cX2_init 17 = .ok (.return_, 1) := by decide +kernel
theorem dX2_isNothing_0 : decode cX2_isNothing 0 = .ok (.aload_n 0, 1) := by decide +kernel
theorem dX2_isNothing_1 : decode cX2_isNothing 1 = .ok (.getfield 15, 3) := by decide +kernel
theorem dX2_isNothing_4 : decode cX2_isNothing 4 = .ok (.iconst (-1), 1) := by decide +kernel
theorem dX2_isNothing_5 : decode cX2_isNothing 5 = .ok (.if_icmp .ne 7, 3) := by decide +kernel
theorem dX2_isNothing_8 : decode cX2_isNothing 8 = .ok (.iconst 1, 1) := by decide +kernel
theorem dX2_isNothing_9 : decode cX2_isNothing 9 = .ok (.goto 4, 3) := by decide +kernel
theorem dX2_isNothing_12 : decode cX2_isNothing 12 = .ok (.iconst 0, 1) := by decide +kernel
theorem dX2_isNothing_13 : decode cX2_isNothing 13 = .ok (.ireturn, 1) := by decide +kernel
theorem dX2_renewRow_0 : decode cX2_renewRow 0 = .ok (.aload_n 0, 1) := by decide +kernel
theorem dX2_renewRow_1 : decode cX2_renewRow 1 = .ok (.getfield 11, 3) := by decide +kernel
theorem dX2_renewRow_4 : decode cX2_renewRow 4 = .ok (.iconst 0, 1) := by decide +kernel
theorem dX2_renewRow_5 : decode cX2_renewRow 5 = .ok (.invokestatic 19, 3) := by decide +kernel
theorem dX2_renewRow_8 : decode cX2_renewRow 8 = .ok (.aload_n 0, 1) := by decide +kernel
theorem dX2_renewRow_9 : decode cX2_renewRow 9 = .ok (.iload_n 1, 1) := by decide +kernel
theorem dX2_renewRow_10 : decode cX2_renewRow 10 = .ok (.putfield 25, 3) := by decide +kernel
theorem dX2_renewRow_13 : decode cX2_renewRow 13 = .ok (.aload_n 0, 1) := by decide +kernel
theorem dX2_renewRow_14 : decode cX2_renewRow 14 = .ok (.iload_n 2, 1) := by decide +kernel
theorem dX2_renewRow_15 : decode cX2_renewRow 15 = .ok (.putfield 15, 3) := by decide +kernel
theorem dX2_renewRow_18 : decode cX2_renewRow 18 = .ok (.return_, 1) := by decide +kernel
theorem dX2_faultAt_0 : decode cX2_faultAt 0 = .ok (.aload_n 0, 1) := by decide +kernel
theorem dX2_faultAt_1 : decode cX2_faultAt 1 = .ok (.invokevirtual 28, 3) := by decide +kernel
theorem dX2_faultAt_4 : decode cX2_faultAt 4 = .ok (.ifCond .eq 5, 3) := by decide +kernel
theorem dX2_faultAt_7 : decode cX2_faultAt 7 = .ok (.iconst 1, 1) := by decide +kernel
theorem dX2_faultAt_8 : decode cX2_faultAt 8 = .ok (.ireturn, 1) := by decide +kernel
theorem dX2_faultAt_9 : decode cX2_faultAt 9 = .ok (.iload_n 1, 1) := by decide +kernel
theorem dX2_faultAt_10 : decode cX2_faultAt 10 = .ok (.iconst 0, 1) := by decide +kernel
theorem dX2_faultAt_11 : decode cX2_faultAt 11 = .ok (.aload_n 0, 1) := by decide +kernel
theorem dX2_faultAt_12 : decode cX2_faultAt 12 = .ok (.getfield 15, 3) := by decide +kernel
theorem dX2_faultAt_15 : decode cX2_faultAt 15 = .ok (.iconst 1, 1) := by decide +kernel
theorem dX2_faultAt_16 : decode cX2_faultAt 16 = .ok (.isub, 1) := by decide +kernel
theorem dX2_faultAt_17 : decode cX2_faultAt 17 = .ok (.invokestatic 32, 3) := by decide +kernel
theorem dX2_faultAt_20 : decode cX2_faultAt 20 = .ok (.ifCond .eq 7, 3) := by decide +kernel
theorem dX2_faultAt_23 : decode cX2_faultAt 23 = .ok (.iconst 0, 1) := by decide +kernel
theorem dX2_faultAt_24 : decode cX2_faultAt 24 = .ok (.goto 4, 3) := by decide +kernel
theorem dX2_faultAt_27 : decode cX2_faultAt 27 = .ok (.iconst 2, 1) := by decide +kernel
theorem dX2_faultAt_28 : decode cX2_faultAt 28 = .ok (.ireturn, 1) := by decide +kernel
theorem dX2_put_0 : decode cX2_put 0 = .ok (.iload_n 1, 1) := by decide +kernel
theorem dX2_put_1 : decode cX2_put 1 = .ok (.iconst 0, 1) := by decide +kernel
theorem dX2_put_2 : decode cX2_put 2 = .ok (.aload_n 0, 1) := by decide +kernel
theorem dX2_put_3 : decode cX2_put 3 = .ok (.getfield 15, 3) := by decide +kernel
theorem dX2_put_6 : decode cX2_put 6 = .ok (.iconst 1, 1) := by decide +kernel
theorem dX2_put_7 : decode cX2_put 7 = .ok (.isub, 1) := by decide +kernel
theorem dX2_put_8 : decode cX2_put 8 = .ok (.invokestatic 32, 3) := by decide +kernel
theorem dX2_put_11 : decode cX2_put 11 = .ok (.ifCond .ne 4, 3) := by decide +kernel
theorem dX2_put_14 : decode cX2_put 14 = .ok (.return_, 1) := by decide +kernel
theorem dX2_put_15 : decode cX2_put 15 = .ok (.aload_n 0, 1) := by decide +kernel
theorem dX2_put_16 : decode cX2_put 16 = .ok (.getfield 25, 3) := by decide +kernel
theorem dX2_put_19 : decode cX2_put 19 = .ok (.lookupswitch 47 #[(0, 25), (1, 36)], 25) := by decide +kernel
theorem dX2_put_44 : decode cX2_put 44 = .ok (.aload_n 0, 1) := by decide +kernel
theorem dX2_put_45 : decode cX2_put 45 = .ok (.getfield 11, 3) := by decide +kernel
theorem dX2_put_48 : decode cX2_put 48 = .ok (.iload_n 1, 1) := by decide +kernel
theorem dX2_put_49 : decode cX2_put 49 = .ok (.iload_n 2, 1) := by decide +kernel
theorem dX2_put_50 : decode cX2_put 50 = .ok (.i2b, 1) := by decide +kernel
theorem dX2_put_51 : decode cX2_put 51 = .ok (.iastore, 1) := by decide +kernel
theorem dX2_put_52 : decode cX2_put 52 = .ok (.goto 21, 3) := by decide +kernel
theorem dX2_put_55 : decode cX2_put 55 = .ok (.aload_n 0, 1) := by decide +kernel
theorem dX2_put_56 : decode cX2_put 56 = .ok (.getfield 11, 3) := by decide +kernel
theorem dX2_put_59 : decode cX2_put 59 = .ok (.iload_n 1, 1) := by decide +kernel
theorem dX2_put_60 : decode cX2_put 60 = .ok (.iload_n 2, 1) := by decide +kernel
theorem dX2_put_61 : decode cX2_put 61 = .ok (.i2s, 1) := by decide +kernel
theorem dX2_put_62 : decode cX2_put 62 = .ok (.iastore, 1) := by decide +kernel
theorem dX2_put_63 : decode cX2_put 63 = .ok (.goto 10, 3) := by decide +kernel
theorem dX2_put_66 : decode cX2_put 66 = .ok (.aload_n 0, 1) := by decide +kernel
theorem dX2_put_67 : decode cX2_put 67 = .ok (.getfield 11, 3) := by decide +kernel
theorem dX2_put_70 : decode cX2_put 70 = .ok (.iload_n 1, 1) := by decide +kernel
theorem dX2_put_71 : decode cX2_put 71 = .ok (.iload_n 2, 1) := by decide +kernel
theorem dX2_put_72 : decode cX2_put 72 = .ok (.iastore, 1) := by decide +kernel
theorem dX2_put_73 : decode cX2_put 73 = .ok (.return_, 1) := by decide +kernel
theorem dX2_wholeWords_0 : decode cX2_wholeWords 0 = .ok (.aload_n 0, 1) := by decide +kernel
theorem dX2_wholeWords_1 : decode cX2_wholeWords 1 = .ok (.invokevirtual 28, 3) := by decide +kernel
theorem dX2_wholeWords_4 : decode cX2_wholeWords 4 = .ok (.ifCond .ne 23, 3) := by decide +kernel
theorem dX2_wholeWords_7 : decode cX2_wholeWords 7 = .ok (.aload_n 0, 1) := by decide +kernel
theorem dX2_wholeWords_8 : decode cX2_wholeWords 8 = .ok (.getfield 25, 3) := by decide +kernel
theorem dX2_wholeWords_11 : decode cX2_wholeWords 11 = .ok (.iload_n 1, 1) := by decide +kernel
theorem dX2_wholeWords_12 : decode cX2_wholeWords 12 = .ok (.if_icmp .ne 15, 3) := by decide +kernel
theorem dX2_wholeWords_15 : decode cX2_wholeWords 15 = .ok (.iload_n 2, 1) := by decide +kernel
theorem dX2_wholeWords_16 : decode cX2_wholeWords 16 = .ok (.iconst 0, 1) := by decide +kernel
theorem dX2_wholeWords_17 : decode cX2_wholeWords 17 = .ok (.aload_n 0, 1) := by decide +kernel
theorem dX2_wholeWords_18 : decode cX2_wholeWords 18 = .ok (.getfield 15, 3) := by decide +kernel
theorem dX2_wholeWords_21 : decode cX2_wholeWords 21 = .ok (.invokestatic 32, 3) := by decide +kernel
theorem dX2_wholeWords_24 : decode cX2_wholeWords 24 = .ok (.ifCond .ne 5, 3) := by decide +kernel
theorem dX2_wholeWords_27 : decode cX2_wholeWords 27 = .ok (.iconst 0, 1) := by decide +kernel
theorem dX2_wholeWords_28 : decode cX2_wholeWords 28 = .ok (.ireturn, 1) := by decide +kernel
theorem dX2_wholeWords_29 : decode cX2_wholeWords 29 = .ok (.iload_n 3, 1) := by decide +kernel
theorem dX2_wholeWords_30 : decode cX2_wholeWords 30 = .ok (.aload_n 0, 1) := by decide +kernel
theorem dX2_wholeWords_31 : decode cX2_wholeWords 31 = .ok (.getfield 15, 3) := by decide +kernel
theorem dX2_wholeWords_34 : decode cX2_wholeWords 34 = .ok (.iload_n 2, 1) := by decide +kernel
theorem dX2_wholeWords_35 : decode cX2_wholeWords 35 = .ok (.isub, 1) := by decide +kernel
theorem dX2_wholeWords_36 : decode cX2_wholeWords 36 = .ok (.iconst 4, 1) := by decide +kernel
theorem dX2_wholeWords_37 : decode cX2_wholeWords 37 = .ok (.idiv, 1) := by decide +kernel
theorem dX2_wholeWords_38 : decode cX2_wholeWords 38 = .ok (.invokestatic 36, 3) := by decide +kernel
theorem dX2_wholeWords_41 : decode cX2_wholeWords 41 = .ok (.ireturn, 1) := by decide +kernel
theorem dX2_faultOfReading_0 : decode cX2_faultOfReading 0 = .ok (.iload_n 3, 1) := by decide +kernel
theorem dX2_faultOfReading_1 : decode cX2_faultOfReading 1 = .ok (.iload_n 2, 1) := by decide +kernel
theorem dX2_faultOfReading_2 : decode cX2_faultOfReading 2 = .ok (.if_icmp .ne 5, 3) := by decide +kernel
theorem dX2_faultOfReading_5 : decode cX2_faultOfReading 5 = .ok (.iconst 0, 1) := by decide +kernel
theorem dX2_faultOfReading_6 : decode cX2_faultOfReading 6 = .ok (.ireturn, 1) := by decide +kernel
theorem dX2_faultOfReading_7 : decode cX2_faultOfReading 7 = .ok (.aload_n 0, 1) := by decide +kernel
theorem dX2_faultOfReading_8 : decode cX2_faultOfReading 8 = .ok (.invokevirtual 28, 3) := by decide +kernel
theorem dX2_faultOfReading_11 : decode cX2_faultOfReading 11 = .ok (.ifCond .eq 5, 3) := by decide +kernel
theorem dX2_faultOfReading_14 : decode cX2_faultOfReading 14 = .ok (.iconst 1, 1) := by decide +kernel
theorem dX2_faultOfReading_15 : decode cX2_faultOfReading 15 = .ok (.ireturn, 1) := by decide +kernel
theorem dX2_faultOfReading_16 : decode cX2_faultOfReading 16 = .ok (.aload_n 0, 1) := by decide +kernel
theorem dX2_faultOfReading_17 : decode cX2_faultOfReading 17 = .ok (.getfield 25, 3) := by decide +kernel
theorem dX2_faultOfReading_20 : decode cX2_faultOfReading 20 = .ok (.iload_n 1, 1) := by decide +kernel
theorem dX2_faultOfReading_21 : decode cX2_faultOfReading 21 = .ok (.if_icmp .ne 7, 3) := by decide +kernel
theorem dX2_faultOfReading_24 : decode cX2_faultOfReading 24 = .ok (.iconst 2, 1) := by decide +kernel
theorem dX2_faultOfReading_25 : decode cX2_faultOfReading 25 = .ok (.goto 4, 3) := by decide +kernel
theorem dX2_faultOfReading_28 : decode cX2_faultOfReading 28 = .ok (.iconst 3, 1) := by decide +kernel
theorem dX2_faultOfReading_29 : decode cX2_faultOfReading 29 = .ok (.ireturn, 1) := by decide +kernel
theorem dX3_init_0 : decode cX3_init 0 = .ok (.aload_n 0, 1) := by decide +kernel
theorem dX3_init_1 : decode cX3_init 1 = .ok (.invokespecial 3, 3) := by decide +kernel
theorem dX3_init_4 : decode cX3_init 4 = .ok (.aload_n 0, 1) := by decide +kernel
theorem dX3_init_5 : decode cX3_init 5 = .ok (.sipush 200, 3) := by decide +kernel
theorem dX3_init_8 : decode cX3_init 8 = .ok (.newarray .int, 2) := by decide +kernel
theorem dX3_init_10 : decode cX3_init 10 = .ok (.putfield 11, 3) := by decide +kernel
theorem dX3_init_13 : decode cX3_init 13 = .ok (.return_, 1) := by decide +kernel
theorem dX3_takeEight_0 : decode cX3_takeEight 0 = .ok (.aload_n 0, 1) := by decide +kernel
theorem dX3_takeEight_1 : decode cX3_takeEight 1 = .ok (.getfield 15, 3) := by decide +kernel
theorem dX3_takeEight_4 : decode cX3_takeEight 4 = .ok (.sipush 192, 3) := by decide +kernel
theorem dX3_takeEight_7 : decode cX3_takeEight 7 = .ok (.if_icmp .le 6, 3) := by decide +kernel
theorem dX3_takeEight_10 : decode cX3_takeEight 10 = .ok (.bipush (-3), 2) := by decide +kernel
theorem dX3_takeEight_12 : decode cX3_takeEight 12 = .ok (.ireturn, 1) := by decide +kernel
theorem dX3_takeEight_13 : decode cX3_takeEight 13 = .ok (.bipush 56, 2) := by decide +kernel
theorem dX3_takeEight_15 : decode cX3_takeEight 15 = .ok (.istore_n 3, 1) := by decide +kernel
theorem dX3_takeEight_16 : decode cX3_takeEight 16 = .ok (.iload_n 3, 1) := by decide +kernel
theorem dX3_takeEight_17 : decode cX3_takeEight 17 = .ok (.ifCond .lt 36, 3) := by decide +kernel
theorem dX3_takeEight_20 : decode cX3_takeEight 20 = .ok (.aload_n 0, 1) := by decide +kernel
theorem dX3_takeEight_21 : decode cX3_takeEight 21 = .ok (.getfield 11, 3) := by decide +kernel
theorem dX3_takeEight_24 : decode cX3_takeEight 24 = .ok (.aload_n 0, 1) := by decide +kernel
theorem dX3_takeEight_25 : decode cX3_takeEight 25 = .ok (.getfield 15, 3) := by decide +kernel
theorem dX3_takeEight_28 : decode cX3_takeEight 28 = .ok (.lload_n 1, 1) := by decide +kernel
theorem dX3_takeEight_29 : decode cX3_takeEight 29 = .ok (.iload_n 3, 1) := by decide +kernel
theorem dX3_takeEight_30 : decode cX3_takeEight 30 = .ok (.lushr, 1) := by decide +kernel
theorem dX3_takeEight_31 : decode cX3_takeEight 31 = .ok (.l2i, 1) := by decide +kernel
theorem dX3_takeEight_32 : decode cX3_takeEight 32 = .ok (.sipush 255, 3) := by decide +kernel
theorem dX3_takeEight_35 : decode cX3_takeEight 35 = .ok (.iand, 1) := by decide +kernel
theorem dX3_takeEight_36 : decode cX3_takeEight 36 = .ok (.iastore, 1) := by decide +kernel
theorem dX3_takeEight_37 : decode cX3_takeEight 37 = .ok (.aload_n 0, 1) := by decide +kernel
theorem dX3_takeEight_38 : decode cX3_takeEight 38 = .ok (.dup, 1) := by decide +kernel
theorem dX3_takeEight_39 : decode cX3_takeEight 39 = .ok (.getfield 15, 3) := by decide +kernel
theorem dX3_takeEight_42 : decode cX3_takeEight 42 = .ok (.iconst 1, 1) := by decide +kernel
theorem dX3_takeEight_43 : decode cX3_takeEight 43 = .ok (.iadd, 1) := by decide +kernel
theorem dX3_takeEight_44 : decode cX3_takeEight 44 = .ok (.putfield 15, 3) := by decide +kernel
theorem dX3_takeEight_47 : decode cX3_takeEight 47 = .ok (.iinc 3 (-8), 3) := by decide +kernel
theorem dX3_takeEight_50 : decode cX3_takeEight 50 = .ok (.goto (-34), 3) := by decide +kernel
theorem dX3_takeEight_53 : decode cX3_takeEight 53 = .ok (.aload_n 0, 1) := by decide +kernel
theorem dX3_takeEight_54 : decode cX3_takeEight 54 = .ok (.getfield 15, 3) := by decide +kernel
theorem dX3_takeEight_57 : decode cX3_takeEight 57 = .ok (.ireturn, 1) := by decide +kernel
theorem dX3_readLines_0 : decode cX3_readLines 0 = .ok (.aload_n 0, 1) := by decide +kernel
theorem dX3_readLines_1 : decode cX3_readLines 1 = .ok (.iconst 0, 1) := by decide +kernel
theorem dX3_readLines_2 : decode cX3_readLines 2 = .ok (.putfield 19, 3) := by decide +kernel
theorem dX3_readLines_5 : decode cX3_readLines 5 = .ok (.aload_n 0, 1) := by decide +kernel
theorem dX3_readLines_6 : decode cX3_readLines 6 = .ok (.iconst 0, 1) := by decide +kernel
theorem dX3_readLines_7 : decode cX3_readLines 7 = .ok (.putfield 22, 3) := by decide +kernel
theorem dX3_readLines_10 : decode cX3_readLines 10 = .ok (.aload_n 0, 1) := by decide +kernel
theorem dX3_readLines_11 : decode cX3_readLines 11 = .ok (.iconst 0, 1) := by decide +kernel
theorem dX3_readLines_12 : decode cX3_readLines 12 = .ok (.putfield 25, 3) := by decide +kernel
theorem dX3_readLines_15 : decode cX3_readLines 15 = .ok (.iconst 0, 1) := by decide +kernel
theorem dX3_readLines_16 : decode cX3_readLines 16 = .ok (.istore_n 2, 1) := by decide +kernel
theorem dX3_readLines_17 : decode cX3_readLines 17 = .ok (.iload_n 2, 1) := by decide +kernel
theorem dX3_readLines_18 : decode cX3_readLines 18 = .ok (.bipush 10, 2) := by decide +kernel
theorem dX3_readLines_20 : decode cX3_readLines 20 = .ok (.if_icmp .gt 49, 3) := by decide +kernel
theorem dX3_readLines_23 : decode cX3_readLines 23 = .ok (.aload_n 0, 1) := by decide +kernel
theorem dX3_readLines_24 : decode cX3_readLines 24 = .ok (.invokevirtual 28, 3) := by decide +kernel
theorem dX3_readLines_27 : decode cX3_readLines 27 = .ok (.aload_n 0, 1) := by decide +kernel
theorem dX3_readLines_28 : decode cX3_readLines 28 = .ok (.getfield 25, 3) := by decide +kernel
theorem dX3_readLines_31 : decode cX3_readLines 31 = .ok (.ifCond .ne 12, 3) := by decide +kernel
theorem dX3_readLines_34 : decode cX3_readLines 34 = .ok (.aload_n 0, 1) := by decide +kernel
theorem dX3_readLines_35 : decode cX3_readLines 35 = .ok (.getfield 31, 3) := by decide +kernel
theorem dX3_readLines_38 : decode cX3_readLines 38 = .ok (.ifCond .ne 5, 3) := by decide +kernel
theorem dX3_readLines_41 : decode cX3_readLines 41 = .ok (.iload_n 2, 1) := by decide +kernel
theorem dX3_readLines_42 : decode cX3_readLines 42 = .ok (.ireturn, 1) := by decide +kernel
theorem dX3_readLines_43 : decode cX3_readLines 43 = .ok (.aload_n 0, 1) := by decide +kernel
theorem dX3_readLines_44 : decode cX3_readLines 44 = .ok (.aload_n 1, 1) := by decide +kernel
theorem dX3_readLines_45 : decode cX3_readLines 45 = .ok (.invokevirtual 34, 3) := by decide +kernel
theorem dX3_readLines_48 : decode cX3_readLines 48 = .ok (.aload_n 0, 1) := by decide +kernel
theorem dX3_readLines_49 : decode cX3_readLines 49 = .ok (.getfield 25, 3) := by decide +kernel
theorem dX3_readLines_52 : decode cX3_readLines 52 = .ok (.ifCond .eq 11, 3) := by decide +kernel
theorem dX3_readLines_55 : decode cX3_readLines 55 = .ok (.bipush (-10), 2) := by decide +kernel
theorem dX3_readLines_57 : decode cX3_readLines 57 = .ok (.aload_n 0, 1) := by decide +kernel
theorem dX3_readLines_58 : decode cX3_readLines 58 = .ok (.getfield 38, 3) := by decide +kernel
theorem dX3_readLines_61 : decode cX3_readLines 61 = .ok (.isub, 1) := by decide +kernel
theorem dX3_readLines_62 : decode cX3_readLines 62 = .ok (.ireturn, 1) := by decide +kernel
theorem dX3_readLines_63 : decode cX3_readLines 63 = .ok (.iinc 2 1, 3) := by decide +kernel
theorem dX3_readLines_66 : decode cX3_readLines 66 = .ok (.goto (-49), 3) := by decide +kernel
theorem dX3_readLines_69 : decode cX3_readLines 69 = .ok (.iload_n 2, 1) := by decide +kernel
theorem dX3_readLines_70 : decode cX3_readLines 70 = .ok (.ireturn, 1) := by decide +kernel
theorem dX3_readLine_0 : decode cX3_readLine 0 = .ok (.aload_n 0, 1) := by decide +kernel
theorem dX3_readLine_1 : decode cX3_readLine 1 = .ok (.iconst 1, 1) := by decide +kernel
theorem dX3_readLine_2 : decode cX3_readLine 2 = .ok (.invokevirtual 41, 3) := by decide +kernel
theorem dX3_readLine_5 : decode cX3_readLine 5 = .ok (.ifCond .ne 4, 3) := by decide +kernel
theorem dX3_readLine_8 : decode cX3_readLine 8 = .ok (.return_, 1) := by decide +kernel
theorem dX3_readLine_9 : decode cX3_readLine 9 = .ok (.aload_n 0, 1) := by decide +kernel
theorem dX3_readLine_10 : decode cX3_readLine 10 = .ok (.getfield 45, 3) := by decide +kernel
theorem dX3_readLine_13 : decode cX3_readLine 13 = .ok (.istore_n 2, 1) := by decide +kernel
theorem dX3_readLine_14 : decode cX3_readLine 14 = .ok (.aload_n 0, 1) := by decide +kernel
theorem dX3_readLine_15 : decode cX3_readLine 15 = .ok (.getfield 22, 3) := by decide +kernel
theorem dX3_readLine_18 : decode cX3_readLine 18 = .ok (.iload_n 2, 1) := by decide +kernel
theorem dX3_readLine_19 : decode cX3_readLine 19 = .ok (.invokestatic 48, 3) := by decide +kernel
theorem dX3_readLine_22 : decode cX3_readLine 22 = .ok (.ifCond .eq 9, 3) := by decide +kernel
theorem dX3_readLine_25 : decode cX3_readLine 25 = .ok (.aload_n 0, 1) := by decide +kernel
theorem dX3_readLine_26 : decode cX3_readLine 26 = .ok (.iconst 4, 1) := by decide +kernel
theorem dX3_readLine_27 : decode cX3_readLine 27 = .ok (.putfield 25, 3) := by decide +kernel
theorem dX3_readLine_30 : decode cX3_readLine 30 = .ok (.return_, 1) := by decide +kernel
theorem dX3_readLine_31 : decode cX3_readLine 31 = .ok (.aload_n 0, 1) := by decide +kernel
theorem dX3_readLine_32 : decode cX3_readLine 32 = .ok (.dup, 1) := by decide +kernel
theorem dX3_readLine_33 : decode cX3_readLine 33 = .ok (.getfield 22, 3) := by decide +kernel
theorem dX3_readLine_36 : decode cX3_readLine 36 = .ok (.iconst 1, 1) := by decide +kernel
theorem dX3_readLine_37 : decode cX3_readLine 37 = .ok (.iload_n 2, 1) := by decide +kernel
theorem dX3_readLine_38 : decode cX3_readLine 38 = .ok (.ishl, 1) := by decide +kernel
theorem dX3_readLine_39 : decode cX3_readLine 39 = .ok (.ior, 1) := by decide +kernel
theorem dX3_readLine_40 : decode cX3_readLine 40 = .ok (.putfield 22, 3) := by decide +kernel
theorem dX3_readLine_43 : decode cX3_readLine 43 = .ok (.aload_n 0, 1) := by decide +kernel
theorem dX3_readLine_44 : decode cX3_readLine 44 = .ok (.invokevirtual 28, 3) := by decide +kernel
theorem dX3_readLine_47 : decode cX3_readLine 47 = .ok (.aload_n 0, 1) := by decide +kernel
theorem dX3_readLine_48 : decode cX3_readLine 48 = .ok (.iconst 2, 1) := by decide +kernel
theorem dX3_readLine_49 : decode cX3_readLine 49 = .ok (.invokevirtual 41, 3) := by decide +kernel
theorem dX3_readLine_52 : decode cX3_readLine 52 = .ok (.ifCond .ne 4, 3) := by decide +kernel
theorem dX3_readLine_55 : decode cX3_readLine 55 = .ok (.return_, 1) := by decide +kernel
theorem dX3_readLine_56 : decode cX3_readLine 56 = .ok (.aload_n 0, 1) := by decide +kernel
theorem dX3_readLine_57 : decode cX3_readLine 57 = .ok (.getfield 45, 3) := by decide +kernel
theorem dX3_readLine_60 : decode cX3_readLine 60 = .ok (.getstatic 52, 3) := by decide +kernel
theorem dX3_readLine_63 : decode cX3_readLine 63 = .ok (.iload_n 2, 1) := by decide +kernel
theorem dX3_readLine_64 : decode cX3_readLine 64 = .ok (.iaload, 1) := by decide +kernel
theorem dX3_readLine_65 : decode cX3_readLine 65 = .ok (.getstatic 55, 3) := by decide +kernel
theorem dX3_readLine_68 : decode cX3_readLine 68 = .ok (.iload_n 2, 1) := by decide +kernel
theorem dX3_readLine_69 : decode cX3_readLine 69 = .ok (.iaload, 1) := by decide +kernel
theorem dX3_readLine_70 : decode cX3_readLine 70 = .ok (.invokestatic 58, 3) := by decide +kernel
theorem dX3_readLine_73 : decode cX3_readLine 73 = .ok (.ifCond .ne 9, 3) := by decide +kernel
theorem dX3_readLine_76 : decode cX3_readLine 76 = .ok (.aload_n 0, 1) := by decide +kernel
theorem dX3_readLine_77 : decode cX3_readLine 77 = .ok (.iconst 3, 1) := by decide +kernel
theorem dX3_readLine_78 : decode cX3_readLine 78 = .ok (.putfield 25, 3) := by decide +kernel
theorem dX3_readLine_81 : decode cX3_readLine 81 = .ok (.return_, 1) := by decide +kernel
theorem dX3_readLine_82 : decode cX3_readLine 82 = .ok (.aload_n 1, 1) := by decide +kernel
theorem dX3_readLine_83 : decode cX3_readLine 83 = .ok (.iload_n 2, 1) := by decide +kernel
theorem dX3_readLine_84 : decode cX3_readLine 84 = .ok (.aload_n 0, 1) := by decide +kernel
theorem dX3_readLine_85 : decode cX3_readLine 85 = .ok (.getfield 45, 3) := by decide +kernel
theorem dX3_readLine_88 : decode cX3_readLine 88 = .ok (.iastore, 1) := by decide +kernel
theorem dX3_readLine_89 : decode cX3_readLine 89 = .ok (.aload_n 0, 1) := by decide +kernel
theorem dX3_readLine_90 : decode cX3_readLine 90 = .ok (.invokevirtual 28, 3) := by decide +kernel
theorem dX3_readLine_93 : decode cX3_readLine 93 = .ok (.aload_n 0, 1) := by decide +kernel
theorem dX3_readLine_94 : decode cX3_readLine 94 = .ok (.iconst 3, 1) := by decide +kernel
theorem dX3_readLine_95 : decode cX3_readLine 95 = .ok (.invokevirtual 41, 3) := by decide +kernel
theorem dX3_readLine_98 : decode cX3_readLine 98 = .ok (.pop, 1) := by decide +kernel
theorem dX3_readLine_99 : decode cX3_readLine 99 = .ok (.return_, 1) := by decide +kernel
theorem dX3_stands_0 : decode cX3_stands 0 = .ok (.aload_n 0, 1) := by decide +kernel
theorem dX3_stands_1 : decode cX3_stands 1 = .ok (.getfield 25, 3) := by decide +kernel
theorem dX3_stands_4 : decode cX3_stands 4 = .ok (.ifCond .ne 16, 3) := by decide +kernel
theorem dX3_stands_7 : decode cX3_stands 7 = .ok (.aload_n 0, 1) := by decide +kernel
theorem dX3_stands_8 : decode cX3_stands 8 = .ok (.getfield 31, 3) := by decide +kernel
theorem dX3_stands_11 : decode cX3_stands 11 = .ok (.iload_n 1, 1) := by decide +kernel
theorem dX3_stands_12 : decode cX3_stands 12 = .ok (.if_icmp .eq 8, 3) := by decide +kernel
theorem dX3_stands_15 : decode cX3_stands 15 = .ok (.aload_n 0, 1) := by decide +kernel
theorem dX3_stands_16 : decode cX3_stands 16 = .ok (.iconst 2, 1) := by decide +kernel
theorem dX3_stands_17 : decode cX3_stands 17 = .ok (.putfield 25, 3) := by decide +kernel
theorem dX3_stands_20 : decode cX3_stands 20 = .ok (.aload_n 0, 1) := by decide +kernel
theorem dX3_stands_21 : decode cX3_stands 21 = .ok (.getfield 25, 3) := by decide +kernel
theorem dX3_stands_24 : decode cX3_stands 24 = .ok (.ifCond .ne 7, 3) := by decide +kernel
theorem dX3_stands_27 : decode cX3_stands 27 = .ok (.iconst 1, 1) := by decide +kernel
theorem dX3_stands_28 : decode cX3_stands 28 = .ok (.goto 4, 3) := by decide +kernel
theorem dX3_stands_31 : decode cX3_stands 31 = .ok (.iconst 0, 1) := by decide +kernel
theorem dX3_stands_32 : decode cX3_stands 32 = .ok (.ireturn, 1) := by decide +kernel
theorem dX3_readToken_0 : decode cX3_readToken 0 = .ok (.aload_n 0, 1) := by decide +kernel
theorem dX3_readToken_1 : decode cX3_readToken 1 = .ok (.getfield 19, 3) := by decide +kernel
theorem dX3_readToken_4 : decode cX3_readToken 4 = .ok (.aload_n 0, 1) := by decide +kernel
theorem dX3_readToken_5 : decode cX3_readToken 5 = .ok (.getfield 15, 3) := by decide +kernel
theorem dX3_readToken_8 : decode cX3_readToken 8 = .ok (.if_icmp .ge 30, 3) := by decide +kernel
theorem dX3_readToken_11 : decode cX3_readToken 11 = .ok (.aload_n 0, 1) := by decide +kernel
theorem dX3_readToken_12 : decode cX3_readToken 12 = .ok (.getfield 11, 3) := by decide +kernel
theorem dX3_readToken_15 : decode cX3_readToken 15 = .ok (.aload_n 0, 1) := by decide +kernel
theorem dX3_readToken_16 : decode cX3_readToken 16 = .ok (.getfield 19, 3) := by decide +kernel
theorem dX3_readToken_19 : decode cX3_readToken 19 = .ok (.iaload, 1) := by decide +kernel
theorem dX3_readToken_20 : decode cX3_readToken 20 = .ok (.bipush 32, 2) := by decide +kernel
theorem dX3_readToken_22 : decode cX3_readToken 22 = .ok (.if_icmp .ne 16, 3) := by decide +kernel
theorem dX3_readToken_25 : decode cX3_readToken 25 = .ok (.aload_n 0, 1) := by decide +kernel
theorem dX3_readToken_26 : decode cX3_readToken 26 = .ok (.dup, 1) := by decide +kernel
theorem dX3_readToken_27 : decode cX3_readToken 27 = .ok (.getfield 19, 3) := by decide +kernel
theorem dX3_readToken_30 : decode cX3_readToken 30 = .ok (.iconst 1, 1) := by decide +kernel
theorem dX3_readToken_31 : decode cX3_readToken 31 = .ok (.iadd, 1) := by decide +kernel
theorem dX3_readToken_32 : decode cX3_readToken 32 = .ok (.putfield 19, 3) := by decide +kernel
theorem dX3_readToken_35 : decode cX3_readToken 35 = .ok (.goto (-35), 3) := by decide +kernel
theorem dX3_readToken_38 : decode cX3_readToken 38 = .ok (.aload_n 0, 1) := by decide +kernel
theorem dX3_readToken_39 : decode cX3_readToken 39 = .ok (.aload_n 0, 1) := by decide +kernel
theorem dX3_readToken_40 : decode cX3_readToken 40 = .ok (.getfield 19, 3) := by decide +kernel
theorem dX3_readToken_43 : decode cX3_readToken 43 = .ok (.putfield 38, 3) := by decide +kernel
theorem dX3_readToken_46 : decode cX3_readToken 46 = .ok (.aload_n 0, 1) := by decide +kernel
theorem dX3_readToken_47 : decode cX3_readToken 47 = .ok (.getfield 19, 3) := by decide +kernel
theorem dX3_readToken_50 : decode cX3_readToken 50 = .ok (.aload_n 0, 1) := by decide +kernel
theorem dX3_readToken_51 : decode cX3_readToken 51 = .ok (.getfield 15, 3) := by decide +kernel
theorem dX3_readToken_54 : decode cX3_readToken 54 = .ok (.if_icmp .lt 11, 3) := by decide +kernel
theorem dX3_readToken_57 : decode cX3_readToken 57 = .ok (.aload_n 0, 1) := by decide +kernel
theorem dX3_readToken_58 : decode cX3_readToken 58 = .ok (.iconst 0, 1) := by decide +kernel
theorem dX3_readToken_59 : decode cX3_readToken 59 = .ok (.putfield 31, 3) := by decide +kernel
theorem dX3_readToken_62 : decode cX3_readToken 62 = .ok (.goto 76, 3) := by decide +kernel
theorem dX3_readToken_65 : decode cX3_readToken 65 = .ok (.aload_n 0, 1) := by decide +kernel
theorem dX3_readToken_66 : decode cX3_readToken 66 = .ok (.aload_n 0, 1) := by decide +kernel
theorem dX3_readToken_67 : decode cX3_readToken 67 = .ok (.getfield 19, 3) := by decide +kernel
theorem dX3_readToken_70 : decode cX3_readToken 70 = .ok (.invokevirtual 62, 3) := by decide +kernel
theorem dX3_readToken_73 : decode cX3_readToken 73 = .ok (.ifCond .eq 10, 3) := by decide +kernel
theorem dX3_readToken_76 : decode cX3_readToken 76 = .ok (.aload_n 0, 1) := by decide +kernel
theorem dX3_readToken_77 : decode cX3_readToken 77 = .ok (.invokevirtual 65, 3) := by decide +kernel
theorem dX3_readToken_80 : decode cX3_readToken 80 = .ok (.goto 58, 3) := by decide +kernel
theorem dX3_readToken_83 : decode cX3_readToken 83 = .ok (.aload_n 0, 1) := by decide +kernel
theorem dX3_readToken_84 : decode cX3_readToken 84 = .ok (.aload_n 0, 1) := by decide +kernel
theorem dX3_readToken_85 : decode cX3_readToken 85 = .ok (.getfield 19, 3) := by decide +kernel
theorem dX3_readToken_88 : decode cX3_readToken 88 = .ok (.invokevirtual 68, 3) := by decide +kernel
theorem dX3_readToken_91 : decode cX3_readToken 91 = .ok (.ifCond .eq 10, 3) := by decide +kernel
theorem dX3_readToken_94 : decode cX3_readToken 94 = .ok (.aload_n 0, 1) := by decide +kernel
theorem dX3_readToken_95 : decode cX3_readToken 95 = .ok (.invokevirtual 71, 3) := by decide +kernel
theorem dX3_readToken_98 : decode cX3_readToken 98 = .ok (.goto 40, 3) := by decide +kernel
theorem dX3_readToken_101 : decode cX3_readToken 101 = .ok (.aload_n 0, 1) := by decide +kernel
theorem dX3_readToken_102 : decode cX3_readToken 102 = .ok (.getfield 11, 3) := by decide +kernel
theorem dX3_readToken_105 : decode cX3_readToken 105 = .ok (.aload_n 0, 1) := by decide +kernel
theorem dX3_readToken_106 : decode cX3_readToken 106 = .ok (.getfield 19, 3) := by decide +kernel
theorem dX3_readToken_109 : decode cX3_readToken 109 = .ok (.iaload, 1) := by decide +kernel
theorem dX3_readToken_110 : decode cX3_readToken 110 = .ok (.bipush 59, 2) := by decide +kernel
theorem dX3_readToken_112 : decode cX3_readToken 112 = .ok (.if_icmp .ne 21, 3) := by decide +kernel
theorem dX3_readToken_115 : decode cX3_readToken 115 = .ok (.aload_n 0, 1) := by decide +kernel
theorem dX3_readToken_116 : decode cX3_readToken 116 = .ok (.iconst 3, 1) := by decide +kernel
theorem dX3_readToken_117 : decode cX3_readToken 117 = .ok (.putfield 31, 3) := by decide +kernel
theorem dX3_readToken_120 : decode cX3_readToken 120 = .ok (.aload_n 0, 1) := by decide +kernel
theorem dX3_readToken_121 : decode cX3_readToken 121 = .ok (.dup, 1) := by decide +kernel
theorem dX3_readToken_122 : decode cX3_readToken 122 = .ok (.getfield 19, 3) := by decide +kernel
theorem dX3_readToken_125 : decode cX3_readToken 125 = .ok (.iconst 1, 1) := by decide +kernel
theorem dX3_readToken_126 : decode cX3_readToken 126 = .ok (.iadd, 1) := by decide +kernel
theorem dX3_readToken_127 : decode cX3_readToken 127 = .ok (.putfield 19, 3) := by decide +kernel
theorem dX3_readToken_130 : decode cX3_readToken 130 = .ok (.goto 8, 3) := by decide +kernel
theorem dX3_readToken_133 : decode cX3_readToken 133 = .ok (.aload_n 0, 1) := by decide +kernel
theorem dX3_readToken_134 : decode cX3_readToken 134 = .ok (.iconst 1, 1) := by decide +kernel
theorem dX3_readToken_135 : decode cX3_readToken 135 = .ok (.putfield 25, 3) := by decide +kernel
theorem dX3_readToken_138 : decode cX3_readToken 138 = .ok (.return_, 1) := by decide +kernel
theorem dX3_isLetter_0 : decode cX3_isLetter 0 = .ok (.aload_n 0, 1) := by decide +kernel
theorem dX3_isLetter_1 : decode cX3_isLetter 1 = .ok (.getfield 11, 3) := by decide +kernel
theorem dX3_isLetter_4 : decode cX3_isLetter 4 = .ok (.iload_n 1, 1) := by decide +kernel
theorem dX3_isLetter_5 : decode cX3_isLetter 5 = .ok (.iaload, 1) := by decide +kernel
theorem dX3_isLetter_6 : decode cX3_isLetter 6 = .ok (.bipush 97, 2) := by decide +kernel
theorem dX3_isLetter_8 : decode cX3_isLetter 8 = .ok (.bipush 122, 2) := by decide +kernel
theorem dX3_isLetter_10 : decode cX3_isLetter 10 = .ok (.invokestatic 58, 3) := by decide +kernel
theorem dX3_isLetter_13 : decode cX3_isLetter 13 = .ok (.ireturn, 1) := by decide +kernel
theorem dX3_isFigure_0 : decode cX3_isFigure 0 = .ok (.aload_n 0, 1) := by decide +kernel
theorem dX3_isFigure_1 : decode cX3_isFigure 1 = .ok (.getfield 11, 3) := by decide +kernel
theorem dX3_isFigure_4 : decode cX3_isFigure 4 = .ok (.iload_n 1, 1) := by decide +kernel
theorem dX3_isFigure_5 : decode cX3_isFigure 5 = .ok (.iaload, 1) := by decide +kernel
theorem dX3_isFigure_6 : decode cX3_isFigure 6 = .ok (.bipush 48, 2) := by decide +kernel
theorem dX3_isFigure_8 : decode cX3_isFigure 8 = .ok (.bipush 57, 2) := by decide +kernel
theorem dX3_isFigure_10 : decode cX3_isFigure 10 = .ok (.invokestatic 58, 3) := by decide +kernel
theorem dX3_isFigure_13 : decode cX3_isFigure 13 = .ok (.ireturn, 1) := by decide +kernel
theorem dX3_readRule_0 : decode cX3_readRule 0 = .ok (.aload_n 0, 1) := by decide +kernel
theorem dX3_readRule_1 : decode cX3_readRule 1 = .ok (.getfield 19, 3) := by decide +kernel
theorem dX3_readRule_4 : decode cX3_readRule 4 = .ok (.aload_n 0, 1) := by decide +kernel
theorem dX3_readRule_5 : decode cX3_readRule 5 = .ok (.getfield 15, 3) := by decide +kernel
theorem dX3_readRule_8 : decode cX3_readRule 8 = .ok (.if_icmp .ge 27, 3) := by decide +kernel
theorem dX3_readRule_11 : decode cX3_readRule 11 = .ok (.aload_n 0, 1) := by decide +kernel
theorem dX3_readRule_12 : decode cX3_readRule 12 = .ok (.aload_n 0, 1) := by decide +kernel
theorem dX3_readRule_13 : decode cX3_readRule 13 = .ok (.getfield 19, 3) := by decide +kernel
theorem dX3_readRule_16 : decode cX3_readRule 16 = .ok (.invokevirtual 62, 3) := by decide +kernel
theorem dX3_readRule_19 : decode cX3_readRule 19 = .ok (.ifCond .eq 16, 3) := by decide +kernel
theorem dX3_readRule_22 : decode cX3_readRule 22 = .ok (.aload_n 0, 1) := by decide +kernel
theorem dX3_readRule_23 : decode cX3_readRule 23 = .ok (.dup, 1) := by decide +kernel
theorem dX3_readRule_24 : decode cX3_readRule 24 = .ok (.getfield 19, 3) := by decide +kernel
theorem dX3_readRule_27 : decode cX3_readRule 27 = .ok (.iconst 1, 1) := by decide +kernel
theorem dX3_readRule_28 : decode cX3_readRule 28 = .ok (.iadd, 1) := by decide +kernel
theorem dX3_readRule_29 : decode cX3_readRule 29 = .ok (.putfield 19, 3) := by decide +kernel
theorem dX3_readRule_32 : decode cX3_readRule 32 = .ok (.goto (-32), 3) := by decide +kernel
theorem dX3_readRule_35 : decode cX3_readRule 35 = .ok (.aload_n 0, 1) := by decide +kernel
theorem dX3_readRule_36 : decode cX3_readRule 36 = .ok (.iconst 1, 1) := by decide +kernel
theorem dX3_readRule_37 : decode cX3_readRule 37 = .ok (.putfield 31, 3) := by decide +kernel
theorem dX3_readRule_40 : decode cX3_readRule 40 = .ok (.iconst 0, 1) := by decide +kernel
theorem dX3_readRule_41 : decode cX3_readRule 41 = .ok (.istore_n 1, 1) := by decide +kernel
theorem dX3_readRule_42 : decode cX3_readRule 42 = .ok (.iload_n 1, 1) := by decide +kernel
theorem dX3_readRule_43 : decode cX3_readRule 43 = .ok (.bipush 10, 2) := by decide +kernel
theorem dX3_readRule_45 : decode cX3_readRule 45 = .ok (.if_icmp .ge 26, 3) := by decide +kernel
theorem dX3_readRule_48 : decode cX3_readRule 48 = .ok (.aload_n 0, 1) := by decide +kernel
theorem dX3_readRule_49 : decode cX3_readRule 49 = .ok (.iload_n 1, 1) := by decide +kernel
theorem dX3_readRule_50 : decode cX3_readRule 50 = .ok (.invokestatic 74, 3) := by decide +kernel
theorem dX3_readRule_53 : decode cX3_readRule 53 = .ok (.invokevirtual 78, 3) := by decide +kernel
theorem dX3_readRule_56 : decode cX3_readRule 56 = .ok (.ifCond .eq 9, 3) := by decide +kernel
theorem dX3_readRule_59 : decode cX3_readRule 59 = .ok (.aload_n 0, 1) := by decide +kernel
theorem dX3_readRule_60 : decode cX3_readRule 60 = .ok (.iload_n 1, 1) := by decide +kernel
theorem dX3_readRule_61 : decode cX3_readRule 61 = .ok (.putfield 45, 3) := by decide +kernel
theorem dX3_readRule_64 : decode cX3_readRule 64 = .ok (.return_, 1) := by decide +kernel
theorem dX3_readRule_65 : decode cX3_readRule 65 = .ok (.iinc 1 1, 3) := by decide +kernel
theorem dX3_readRule_68 : decode cX3_readRule 68 = .ok (.goto (-26), 3) := by decide +kernel
theorem dX3_readRule_71 : decode cX3_readRule 71 = .ok (.aload_n 0, 1) := by decide +kernel
theorem dX3_readRule_72 : decode cX3_readRule 72 = .ok (.iconst 1, 1) := by decide +kernel
theorem dX3_readRule_73 : decode cX3_readRule 73 = .ok (.putfield 25, 3) := by decide +kernel
theorem dX3_readRule_76 : decode cX3_readRule 76 = .ok (.return_, 1) := by decide +kernel
theorem dX3_readNumber_0 : decode cX3_readNumber 0 = .ok (.aload_n 0, 1) := by decide +kernel
theorem dX3_readNumber_1 : decode cX3_readNumber 1 = .ok (.iconst 2, 1) := by decide +kernel
theorem dX3_readNumber_2 : decode cX3_readNumber 2 = .ok (.putfield 31, 3) := by decide +kernel
theorem dX3_readNumber_5 : decode cX3_readNumber 5 = .ok (.aload_n 0, 1) := by decide +kernel
theorem dX3_readNumber_6 : decode cX3_readNumber 6 = .ok (.iconst 0, 1) := by decide +kernel
theorem dX3_readNumber_7 : decode cX3_readNumber 7 = .ok (.putfield 45, 3) := by decide +kernel
theorem dX3_readNumber_10 : decode cX3_readNumber 10 = .ok (.aload_n 0, 1) := by decide +kernel
theorem dX3_readNumber_11 : decode cX3_readNumber 11 = .ok (.getfield 19, 3) := by decide +kernel
theorem dX3_readNumber_14 : decode cX3_readNumber 14 = .ok (.aload_n 0, 1) := by decide +kernel
theorem dX3_readNumber_15 : decode cX3_readNumber 15 = .ok (.getfield 15, 3) := by decide +kernel
theorem dX3_readNumber_18 : decode cX3_readNumber 18 = .ok (.if_icmp .ge 71, 3) := by decide +kernel
theorem dX3_readNumber_21 : decode cX3_readNumber 21 = .ok (.aload_n 0, 1) := by decide +kernel
theorem dX3_readNumber_22 : decode cX3_readNumber 22 = .ok (.aload_n 0, 1) := by decide +kernel
theorem dX3_readNumber_23 : decode cX3_readNumber 23 = .ok (.getfield 19, 3) := by decide +kernel
theorem dX3_readNumber_26 : decode cX3_readNumber 26 = .ok (.invokevirtual 68, 3) := by decide +kernel
theorem dX3_readNumber_29 : decode cX3_readNumber 29 = .ok (.ifCond .eq 60, 3) := by decide +kernel
theorem dX3_readNumber_32 : decode cX3_readNumber 32 = .ok (.aload_n 0, 1) := by decide +kernel
theorem dX3_readNumber_33 : decode cX3_readNumber 33 = .ok (.aload_n 0, 1) := by decide +kernel
theorem dX3_readNumber_34 : decode cX3_readNumber 34 = .ok (.getfield 19, 3) := by decide +kernel
theorem dX3_readNumber_37 : decode cX3_readNumber 37 = .ok (.aload_n 0, 1) := by decide +kernel
theorem dX3_readNumber_38 : decode cX3_readNumber 38 = .ok (.getfield 38, 3) := by decide +kernel
theorem dX3_readNumber_41 : decode cX3_readNumber 41 = .ok (.isub, 1) := by decide +kernel
theorem dX3_readNumber_42 : decode cX3_readNumber 42 = .ok (.iconst 4, 1) := by decide +kernel
theorem dX3_readNumber_43 : decode cX3_readNumber 43 = .ok (.if_icmp .ge 26, 3) := by decide +kernel
theorem dX3_readNumber_46 : decode cX3_readNumber 46 = .ok (.bipush 10, 2) := by decide +kernel
theorem dX3_readNumber_48 : decode cX3_readNumber 48 = .ok (.aload_n 0, 1) := by decide +kernel
theorem dX3_readNumber_49 : decode cX3_readNumber 49 = .ok (.getfield 45, 3) := by decide +kernel
theorem dX3_readNumber_52 : decode cX3_readNumber 52 = .ok (.imul, 1) := by decide +kernel
theorem dX3_readNumber_53 : decode cX3_readNumber 53 = .ok (.aload_n 0, 1) := by decide +kernel
theorem dX3_readNumber_54 : decode cX3_readNumber 54 = .ok (.getfield 11, 3) := by decide +kernel
theorem dX3_readNumber_57 : decode cX3_readNumber 57 = .ok (.aload_n 0, 1) := by decide +kernel
theorem dX3_readNumber_58 : decode cX3_readNumber 58 = .ok (.getfield 19, 3) := by decide +kernel
theorem dX3_readNumber_61 : decode cX3_readNumber 61 = .ok (.iaload, 1) := by decide +kernel
theorem dX3_readNumber_62 : decode cX3_readNumber 62 = .ok (.iadd, 1) := by decide +kernel
theorem dX3_readNumber_63 : decode cX3_readNumber 63 = .ok (.bipush 48, 2) := by decide +kernel
theorem dX3_readNumber_65 : decode cX3_readNumber 65 = .ok (.isub, 1) := by decide +kernel
theorem dX3_readNumber_66 : decode cX3_readNumber 66 = .ok (.goto 7, 3) := by decide +kernel
theorem dX3_readNumber_69 : decode cX3_readNumber 69 = .ok (.aload_n 0, 1) := by decide +kernel
theorem dX3_readNumber_70 : decode cX3_readNumber 70 = .ok (.getfield 45, 3) := by decide +kernel
theorem dX3_readNumber_73 : decode cX3_readNumber 73 = .ok (.putfield 45, 3) := by decide +kernel
theorem dX3_readNumber_76 : decode cX3_readNumber 76 = .ok (.aload_n 0, 1) := by decide +kernel
theorem dX3_readNumber_77 : decode cX3_readNumber 77 = .ok (.dup, 1) := by decide +kernel
theorem dX3_readNumber_78 : decode cX3_readNumber 78 = .ok (.getfield 19, 3) := by decide +kernel
theorem dX3_readNumber_81 : decode cX3_readNumber 81 = .ok (.iconst 1, 1) := by decide +kernel
theorem dX3_readNumber_82 : decode cX3_readNumber 82 = .ok (.iadd, 1) := by decide +kernel
theorem dX3_readNumber_83 : decode cX3_readNumber 83 = .ok (.putfield 19, 3) := by decide +kernel
theorem dX3_readNumber_86 : decode cX3_readNumber 86 = .ok (.goto (-76), 3) := by decide +kernel
theorem dX3_readNumber_89 : decode cX3_readNumber 89 = .ok (.aload_n 0, 1) := by decide +kernel
theorem dX3_readNumber_90 : decode cX3_readNumber 90 = .ok (.getfield 19, 3) := by decide +kernel
theorem dX3_readNumber_93 : decode cX3_readNumber 93 = .ok (.aload_n 0, 1) := by decide +kernel
theorem dX3_readNumber_94 : decode cX3_readNumber 94 = .ok (.getfield 38, 3) := by decide +kernel
theorem dX3_readNumber_97 : decode cX3_readNumber 97 = .ok (.isub, 1) := by decide +kernel
theorem dX3_readNumber_98 : decode cX3_readNumber 98 = .ok (.iconst 4, 1) := by decide +kernel
theorem dX3_readNumber_99 : decode cX3_readNumber 99 = .ok (.if_icmp .le 8, 3) := by decide +kernel
theorem dX3_readNumber_102 : decode cX3_readNumber 102 = .ok (.aload_n 0, 1) := by decide +kernel
theorem dX3_readNumber_103 : decode cX3_readNumber 103 = .ok (.iconst 1, 1) := by decide +kernel
theorem dX3_readNumber_104 : decode cX3_readNumber 104 = .ok (.putfield 25, 3) := by decide +kernel
theorem dX3_readNumber_107 : decode cX3_readNumber 107 = .ok (.return_, 1) := by decide +kernel
theorem dX3_isText_0 : decode cX3_isText 0 = .ok (.aload_n 1, 1) := by decide +kernel
theorem dX3_isText_1 : decode cX3_isText 1 = .ok (.invokevirtual 82, 3) := by decide +kernel
theorem dX3_isText_4 : decode cX3_isText 4 = .ok (.aload_n 0, 1) := by decide +kernel
theorem dX3_isText_5 : decode cX3_isText 5 = .ok (.getfield 19, 3) := by decide +kernel
theorem dX3_isText_8 : decode cX3_isText 8 = .ok (.aload_n 0, 1) := by decide +kernel
theorem dX3_isText_9 : decode cX3_isText 9 = .ok (.getfield 38, 3) := by decide +kernel
theorem dX3_isText_12 : decode cX3_isText 12 = .ok (.isub, 1) := by decide +kernel
theorem dX3_isText_13 : decode cX3_isText 13 = .ok (.if_icmp .eq 5, 3) := by decide +kernel
theorem dX3_isText_16 : decode cX3_isText 16 = .ok (.iconst 0, 1) := by decide +kernel
theorem dX3_isText_17 : decode cX3_isText 17 = .ok (.ireturn, 1) := by decide +kernel
theorem dX3_isText_18 : decode cX3_isText 18 = .ok (.iconst 0, 1) := by decide +kernel
theorem dX3_isText_19 : decode cX3_isText 19 = .ok (.istore_n 2, 1) := by decide +kernel
theorem dX3_isText_20 : decode cX3_isText 20 = .ok (.iload_n 2, 1) := by decide +kernel
theorem dX3_isText_21 : decode cX3_isText 21 = .ok (.aload_n 1, 1) := by decide +kernel
theorem dX3_isText_22 : decode cX3_isText 22 = .ok (.invokevirtual 82, 3) := by decide +kernel
theorem dX3_isText_25 : decode cX3_isText 25 = .ok (.if_icmp .ge 30, 3) := by decide +kernel
theorem dX3_isText_28 : decode cX3_isText 28 = .ok (.aload_n 1, 1) := by decide +kernel
theorem dX3_isText_29 : decode cX3_isText 29 = .ok (.iload_n 2, 1) := by decide +kernel
theorem dX3_isText_30 : decode cX3_isText 30 = .ok (.invokevirtual 87, 3) := by decide +kernel
theorem dX3_isText_33 : decode cX3_isText 33 = .ok (.aload_n 0, 1) := by decide +kernel
theorem dX3_isText_34 : decode cX3_isText 34 = .ok (.getfield 11, 3) := by decide +kernel
theorem dX3_isText_37 : decode cX3_isText 37 = .ok (.aload_n 0, 1) := by decide +kernel
theorem dX3_isText_38 : decode cX3_isText 38 = .ok (.getfield 38, 3) := by decide +kernel
theorem dX3_isText_41 : decode cX3_isText 41 = .ok (.iload_n 2, 1) := by decide +kernel
theorem dX3_isText_42 : decode cX3_isText 42 = .ok (.iadd, 1) := by decide +kernel
theorem dX3_isText_43 : decode cX3_isText 43 = .ok (.iaload, 1) := by decide +kernel
theorem dX3_isText_44 : decode cX3_isText 44 = .ok (.if_icmp .eq 5, 3) := by decide +kernel
theorem dX3_isText_47 : decode cX3_isText 47 = .ok (.iconst 0, 1) := by decide +kernel
theorem dX3_isText_48 : decode cX3_isText 48 = .ok (.ireturn, 1) := by decide +kernel
theorem dX3_isText_49 : decode cX3_isText 49 = .ok (.iinc 2 1, 3) := by decide +kernel
theorem dX3_isText_52 : decode cX3_isText 52 = .ok (.goto (-32), 3) := by decide +kernel
theorem dX3_isText_55 : decode cX3_isText 55 = .ok (.iconst 1, 1) := by decide +kernel
theorem dX3_isText_56 : decode cX3_isText 56 = .ok (.ireturn, 1) := by decide +kernel
theorem dX3_textOf_0 : decode cX3_textOf 0 = .ok (.iload_n 0, 1) := by decide +kernel
theorem dX3_textOf_1 : decode cX3_textOf 1 = .ok (.tableswitch 85 0 9 #[55, 58, 61, 64, 67, 70, 73, 76, 79, 82], 55) := by decide +kernel
theorem dX3_textOf_56 : decode cX3_textOf 56 = .ok (.ldc 91, 2) := by decide +kernel
theorem dX3_textOf_58 : decode cX3_textOf 58 = .ok (.areturn, 1) := by decide +kernel
theorem dX3_textOf_59 : decode cX3_textOf 59 = .ok (.ldc 93, 2) := by decide +kernel
theorem dX3_textOf_61 : decode cX3_textOf 61 = .ok (.areturn, 1) := by decide +kernel
theorem dX3_textOf_62 : decode cX3_textOf 62 = .ok (.ldc 95, 2) := by decide +kernel
theorem dX3_textOf_64 : decode cX3_textOf 64 = .ok (.areturn, 1) := by decide +kernel
theorem dX3_textOf_65 : decode cX3_textOf 65 = .ok (.ldc 97, 2) := by decide +kernel
theorem dX3_textOf_67 : decode cX3_textOf 67 = .ok (.areturn, 1) := by decide +kernel
theorem dX3_textOf_68 : decode cX3_textOf 68 = .ok (.ldc 99, 2) := by decide +kernel
theorem dX3_textOf_70 : decode cX3_textOf 70 = .ok (.areturn, 1) := by decide +kernel
theorem dX3_textOf_71 : decode cX3_textOf 71 = .ok (.ldc 101, 2) := by decide +kernel
theorem dX3_textOf_73 : decode cX3_textOf 73 = .ok (.areturn, 1) := by decide +kernel
theorem dX3_textOf_74 : decode cX3_textOf 74 = .ok (.ldc 103, 2) := by decide +kernel
theorem dX3_textOf_76 : decode cX3_textOf 76 = .ok (.areturn, 1) := by decide +kernel
theorem dX3_textOf_77 : decode cX3_textOf 77 = .ok (.ldc 105, 2) := by decide +kernel
theorem dX3_textOf_79 : decode cX3_textOf 79 = .ok (.areturn, 1) := by decide +kernel
theorem dX3_textOf_80 : decode cX3_textOf 80 = .ok (.ldc 107, 2) := by decide +kernel
theorem dX3_textOf_82 : decode cX3_textOf 82 = .ok (.areturn, 1) := by decide +kernel
theorem dX3_textOf_83 : decode cX3_textOf 83 = .ok (.ldc 109, 2) := by decide +kernel
theorem dX3_textOf_85 : decode cX3_textOf 85 = .ok (.areturn, 1) := by decide +kernel
theorem dX3_textOf_86 : decode cX3_textOf 86 = .ok (.ldc 111, 2) := by decide +kernel
theorem dX3_textOf_88 : decode cX3_textOf 88 = .ok (.areturn, 1) := by decide +kernel
theorem dX4_init_0 : decode cX4_init 0 = .ok (.aload_n 0, 1) := by decide +kernel
theorem dX4_init_1 : decode cX4_init 1 = .ok (.invokespecial 3, 3) := by decide +kernel
theorem dX4_init_4 : decode cX4_init 4 = .ok (.aload_n 0, 1) := by decide +kernel
theorem dX4_init_5 : decode cX4_init 5 = .ok (.bipush 24, 2) := by decide +kernel
theorem dX4_init_7 : decode cX4_init 7 = .ok (.newarray .int, 2) := by decide +kernel
theorem dX4_init_9 : decode cX4_init 9 = .ok (.putfield 9, 3) := by decide +kernel
theorem dX4_init_12 : decode cX4_init 12 = .ok (.aload_n 0, 1) := by decide +kernel
theorem dX4_init_13 : decode cX4_init 13 = .ok (.bipush 24, 2) := by decide +kernel
theorem dX4_init_15 : decode cX4_init 15 = .ok (.newarray .int, 2) := by decide +kernel
theorem dX4_init_17 : decode cX4_init 17 = .ok (.putfield 15, 3) := by decide +kernel
theorem dX4_init_20 : decode cX4_init 20 = .ok (.aload_n 0, 1) := by decide +kernel
theorem dX4_init_21 : decode cX4_init 21 = .ok (.bipush 24, 2) := by decide +kernel
theorem dX4_init_23 : decode cX4_init 23 = .ok (.newarray .int, 2) := by decide +kernel
theorem dX4_init_25 : decode cX4_init 25 = .ok (.putfield 18, 3) := by decide +kernel
theorem dX4_init_28 : decode cX4_init 28 = .ok (.aload_n 0, 1) := by decide +kernel
theorem dX4_init_29 : decode cX4_init 29 = .ok (.bipush 24, 2) := by decide +kernel
theorem dX4_init_31 : decode cX4_init 31 = .ok (.newarray .int, 2) := by decide +kernel
theorem dX4_init_33 : decode cX4_init 33 = .ok (.putfield 21, 3) := by decide +kernel
theorem dX4_init_36 : decode cX4_init 36 = .ok (.aload_n 0, 1) := by decide +kernel
theorem dX4_init_37 : decode cX4_init 37 = .ok (.bipush 24, 2) := by decide +kernel
theorem dX4_init_39 : decode cX4_init 39 = .ok (.newarray .int, 2) := by decide +kernel
theorem dX4_init_41 : decode cX4_init 41 = .ok (.putfield 24, 3) := by decide +kernel
theorem dX4_init_44 : decode cX4_init 44 = .ok (.return_, 1) := by decide +kernel
theorem dX4_enter_0 : decode cX4_enter 0 = .ok (.aload_n 0, 1) := by decide +kernel
theorem dX4_enter_1 : decode cX4_enter 1 = .ok (.getfield 27, 3) := by decide +kernel
theorem dX4_enter_4 : decode cX4_enter 4 = .ok (.bipush 24, 2) := by decide +kernel
theorem dX4_enter_6 : decode cX4_enter 6 = .ok (.if_icmp .lt 6, 3) := by decide +kernel
theorem dX4_enter_9 : decode cX4_enter 9 = .ok (.bipush (-3), 2) := by decide +kernel
theorem dX4_enter_11 : decode cX4_enter 11 = .ok (.ireturn, 1) := by decide +kernel
theorem dX4_enter_12 : decode cX4_enter 12 = .ok (.aload_n 0, 1) := by decide +kernel
theorem dX4_enter_13 : decode cX4_enter 13 = .ok (.getfield 9, 3) := by decide +kernel
theorem dX4_enter_16 : decode cX4_enter 16 = .ok (.aload_n 0, 1) := by decide +kernel
theorem dX4_enter_17 : decode cX4_enter 17 = .ok (.getfield 27, 3) := by decide +kernel
theorem dX4_enter_20 : decode cX4_enter 20 = .ok (.iload_n 1, 1) := by decide +kernel
theorem dX4_enter_21 : decode cX4_enter 21 = .ok (.iastore, 1) := by decide +kernel
theorem dX4_enter_22 : decode cX4_enter 22 = .ok (.aload_n 0, 1) := by decide +kernel
theorem dX4_enter_23 : decode cX4_enter 23 = .ok (.getfield 15, 3) := by decide +kernel
theorem dX4_enter_26 : decode cX4_enter 26 = .ok (.aload_n 0, 1) := by decide +kernel
theorem dX4_enter_27 : decode cX4_enter 27 = .ok (.getfield 27, 3) := by decide +kernel
theorem dX4_enter_30 : decode cX4_enter 30 = .ok (.iload_n 2, 1) := by decide +kernel
theorem dX4_enter_31 : decode cX4_enter 31 = .ok (.iastore, 1) := by decide +kernel
theorem dX4_enter_32 : decode cX4_enter 32 = .ok (.aload_n 0, 1) := by decide +kernel
theorem dX4_enter_33 : decode cX4_enter 33 = .ok (.getfield 18, 3) := by decide +kernel
theorem dX4_enter_36 : decode cX4_enter 36 = .ok (.aload_n 0, 1) := by decide +kernel
theorem dX4_enter_37 : decode cX4_enter 37 = .ok (.getfield 27, 3) := by decide +kernel
theorem dX4_enter_40 : decode cX4_enter 40 = .ok (.iload_n 3, 1) := by decide +kernel
theorem dX4_enter_41 : decode cX4_enter 41 = .ok (.iastore, 1) := by decide +kernel
theorem dX4_enter_42 : decode cX4_enter 42 = .ok (.aload_n 0, 1) := by decide +kernel
theorem dX4_enter_43 : decode cX4_enter 43 = .ok (.getfield 21, 3) := by decide +kernel
theorem dX4_enter_46 : decode cX4_enter 46 = .ok (.aload_n 0, 1) := by decide +kernel
theorem dX4_enter_47 : decode cX4_enter 47 = .ok (.getfield 27, 3) := by decide +kernel
theorem dX4_enter_50 : decode cX4_enter 50 = .ok (.iload 4, 2) := by decide +kernel
theorem dX4_enter_52 : decode cX4_enter 52 = .ok (.iastore, 1) := by decide +kernel
theorem dX4_enter_53 : decode cX4_enter 53 = .ok (.aload_n 0, 1) := by decide +kernel
theorem dX4_enter_54 : decode cX4_enter 54 = .ok (.getfield 24, 3) := by decide +kernel
theorem dX4_enter_57 : decode cX4_enter 57 = .ok (.aload_n 0, 1) := by decide +kernel
theorem dX4_enter_58 : decode cX4_enter 58 = .ok (.getfield 27, 3) := by decide +kernel
theorem dX4_enter_61 : decode cX4_enter 61 = .ok (.iload 5, 2) := by decide +kernel
theorem dX4_enter_63 : decode cX4_enter 63 = .ok (.iastore, 1) := by decide +kernel
theorem dX4_enter_64 : decode cX4_enter 64 = .ok (.aload_n 0, 1) := by decide +kernel
theorem dX4_enter_65 : decode cX4_enter 65 = .ok (.dup, 1) := by decide +kernel
theorem dX4_enter_66 : decode cX4_enter 66 = .ok (.getfield 27, 3) := by decide +kernel
theorem dX4_enter_69 : decode cX4_enter 69 = .ok (.dup_x1, 1) := by decide +kernel
theorem dX4_enter_70 : decode cX4_enter 70 = .ok (.iconst 1, 1) := by decide +kernel
theorem dX4_enter_71 : decode cX4_enter 71 = .ok (.iadd, 1) := by decide +kernel
theorem dX4_enter_72 : decode cX4_enter 72 = .ok (.putfield 27, 3) := by decide +kernel
theorem dX4_enter_75 : decode cX4_enter 75 = .ok (.ireturn, 1) := by decide +kernel
theorem dX5_init_0 : decode cX5_init 0 = .ok (.aload_n 0, 1) := by decide +kernel
theorem dX5_init_1 : decode cX5_init 1 = .ok (.invokespecial 3, 3) := by decide +kernel
theorem dX5_init_4 : decode cX5_init 4 = .ok (.aload_n 0, 1) := by decide +kernel
theorem dX5_init_5 : decode cX5_init 5 = .ok (.bipush 24, 2) := by decide +kernel
theorem dX5_init_7 : decode cX5_init 7 = .ok (.newarray .int, 2) := by decide +kernel
theorem dX5_init_9 : decode cX5_init 9 = .ok (.putfield 9, 3) := by decide +kernel
theorem dX5_init_12 : decode cX5_init 12 = .ok (.aload_n 0, 1) := by decide +kernel
theorem dX5_init_13 : decode cX5_init 13 = .ok (.bipush 24, 2) := by decide +kernel
theorem dX5_init_15 : decode cX5_init 15 = .ok (.newarray .int, 2) := by decide +kernel
theorem dX5_init_17 : decode cX5_init 17 = .ok (.putfield 15, 3) := by decide +kernel
theorem dX5_init_20 : decode cX5_init 20 = .ok (.aload_n 0, 1) := by decide +kernel
theorem dX5_init_21 : decode cX5_init 21 = .ok (.bipush 24, 2) := by decide +kernel
theorem dX5_init_23 : decode cX5_init 23 = .ok (.newarray .int, 2) := by decide +kernel
theorem dX5_init_25 : decode cX5_init 25 = .ok (.putfield 18, 3) := by decide +kernel
theorem dX5_init_28 : decode cX5_init 28 = .ok (.aload_n 0, 1) := by decide +kernel
theorem dX5_init_29 : decode cX5_init 29 = .ok (.bipush 24, 2) := by decide +kernel
theorem dX5_init_31 : decode cX5_init 31 = .ok (.newarray .int, 2) := by decide +kernel
theorem dX5_init_33 : decode cX5_init 33 = .ok (.putfield 21, 3) := by decide +kernel
theorem dX5_init_36 : decode cX5_init 36 = .ok (.aload_n 0, 1) := by decide +kernel
theorem dX5_init_37 : decode cX5_init 37 = .ok (.bipush 24, 2) := by decide +kernel
theorem dX5_init_39 : decode cX5_init 39 = .ok (.newarray .int, 2) := by decide +kernel
theorem dX5_init_41 : decode cX5_init 41 = .ok (.putfield 24, 3) := by decide +kernel
theorem dX5_init_44 : decode cX5_init 44 = .ok (.aload_n 0, 1) := by decide +kernel
theorem dX5_init_45 : decode cX5_init 45 = .ok (.bipush 24, 2) := by decide +kernel
theorem dX5_init_47 : decode cX5_init 47 = .ok (.newarray .int, 2) := by decide +kernel
theorem dX5_init_49 : decode cX5_init 49 = .ok (.putfield 27, 3) := by decide +kernel
theorem dX5_init_52 : decode cX5_init 52 = .ok (.aload_n 0, 1) := by decide +kernel
theorem dX5_init_53 : decode cX5_init 53 = .ok (.bipush 24, 2) := by decide +kernel
theorem dX5_init_55 : decode cX5_init 55 = .ok (.newarray .boolean, 2) := by decide +kernel
theorem dX5_init_57 : decode cX5_init 57 = .ok (.putfield 30, 3) := by decide +kernel
theorem dX5_init_60 : decode cX5_init 60 = .ok (.return_, 1) := by decide +kernel
theorem dX5_enter_0 : decode cX5_enter 0 = .ok (.aload_n 0, 1) := by decide +kernel
theorem dX5_enter_1 : decode cX5_enter 1 = .ok (.getfield 34, 3) := by decide +kernel
theorem dX5_enter_4 : decode cX5_enter 4 = .ok (.bipush 24, 2) := by decide +kernel
theorem dX5_enter_6 : decode cX5_enter 6 = .ok (.if_icmp .lt 6, 3) := by decide +kernel
theorem dX5_enter_9 : decode cX5_enter 9 = .ok (.bipush (-3), 2) := by decide +kernel
theorem dX5_enter_11 : decode cX5_enter 11 = .ok (.ireturn, 1) := by decide +kernel
theorem dX5_enter_12 : decode cX5_enter 12 = .ok (.aload_n 0, 1) := by decide +kernel
theorem dX5_enter_13 : decode cX5_enter 13 = .ok (.getfield 30, 3) := by decide +kernel
theorem dX5_enter_16 : decode cX5_enter 16 = .ok (.aload_n 0, 1) := by decide +kernel
theorem dX5_enter_17 : decode cX5_enter 17 = .ok (.getfield 34, 3) := by decide +kernel
theorem dX5_enter_20 : decode cX5_enter 20 = .ok (.aload_n 0, 1) := by decide +kernel
theorem dX5_enter_21 : decode cX5_enter 21 = .ok (.iload_n 3, 1) := by decide +kernel
theorem dX5_enter_22 : decode cX5_enter 22 = .ok (.invokevirtual 38, 3) := by decide +kernel
theorem dX5_enter_25 : decode cX5_enter 25 = .ok (.bastore, 1) := by decide +kernel
theorem dX5_enter_26 : decode cX5_enter 26 = .ok (.aload_n 0, 1) := by decide +kernel
theorem dX5_enter_27 : decode cX5_enter 27 = .ok (.getfield 9, 3) := by decide +kernel
theorem dX5_enter_30 : decode cX5_enter 30 = .ok (.aload_n 0, 1) := by decide +kernel
theorem dX5_enter_31 : decode cX5_enter 31 = .ok (.getfield 34, 3) := by decide +kernel
theorem dX5_enter_34 : decode cX5_enter 34 = .ok (.iload_n 1, 1) := by decide +kernel
theorem dX5_enter_35 : decode cX5_enter 35 = .ok (.iastore, 1) := by decide +kernel
theorem dX5_enter_36 : decode cX5_enter 36 = .ok (.aload_n 0, 1) := by decide +kernel
theorem dX5_enter_37 : decode cX5_enter 37 = .ok (.getfield 15, 3) := by decide +kernel
theorem dX5_enter_40 : decode cX5_enter 40 = .ok (.aload_n 0, 1) := by decide +kernel
theorem dX5_enter_41 : decode cX5_enter 41 = .ok (.getfield 34, 3) := by decide +kernel
theorem dX5_enter_44 : decode cX5_enter 44 = .ok (.iload_n 2, 1) := by decide +kernel
theorem dX5_enter_45 : decode cX5_enter 45 = .ok (.iastore, 1) := by decide +kernel
theorem dX5_enter_46 : decode cX5_enter 46 = .ok (.aload_n 0, 1) := by decide +kernel
theorem dX5_enter_47 : decode cX5_enter 47 = .ok (.getfield 27, 3) := by decide +kernel
theorem dX5_enter_50 : decode cX5_enter 50 = .ok (.aload_n 0, 1) := by decide +kernel
theorem dX5_enter_51 : decode cX5_enter 51 = .ok (.getfield 34, 3) := by decide +kernel
theorem dX5_enter_54 : decode cX5_enter 54 = .ok (.iconst 1, 1) := by decide +kernel
theorem dX5_enter_55 : decode cX5_enter 55 = .ok (.iload_n 1, 1) := by decide +kernel
theorem dX5_enter_56 : decode cX5_enter 56 = .ok (.ishl, 1) := by decide +kernel
theorem dX5_enter_57 : decode cX5_enter 57 = .ok (.iconst 1, 1) := by decide +kernel
theorem dX5_enter_58 : decode cX5_enter 58 = .ok (.iload_n 2, 1) := by decide +kernel
theorem dX5_enter_59 : decode cX5_enter 59 = .ok (.ishl, 1) := by decide +kernel
theorem dX5_enter_60 : decode cX5_enter 60 = .ok (.ior, 1) := by decide +kernel
theorem dX5_enter_61 : decode cX5_enter 61 = .ok (.iastore, 1) := by decide +kernel
theorem dX5_enter_62 : decode cX5_enter 62 = .ok (.aload_n 0, 1) := by decide +kernel
theorem dX5_enter_63 : decode cX5_enter 63 = .ok (.getfield 18, 3) := by decide +kernel
theorem dX5_enter_66 : decode cX5_enter 66 = .ok (.aload_n 0, 1) := by decide +kernel
theorem dX5_enter_67 : decode cX5_enter 67 = .ok (.getfield 34, 3) := by decide +kernel
theorem dX5_enter_70 : decode cX5_enter 70 = .ok (.iload_n 3, 1) := by decide +kernel
theorem dX5_enter_71 : decode cX5_enter 71 = .ok (.iastore, 1) := by decide +kernel
theorem dX5_enter_72 : decode cX5_enter 72 = .ok (.aload_n 0, 1) := by decide +kernel
theorem dX5_enter_73 : decode cX5_enter 73 = .ok (.getfield 21, 3) := by decide +kernel
theorem dX5_enter_76 : decode cX5_enter 76 = .ok (.aload_n 0, 1) := by decide +kernel
theorem dX5_enter_77 : decode cX5_enter 77 = .ok (.getfield 34, 3) := by decide +kernel
theorem dX5_enter_80 : decode cX5_enter 80 = .ok (.iload 4, 2) := by decide +kernel
theorem dX5_enter_82 : decode cX5_enter 82 = .ok (.iastore, 1) := by decide +kernel
theorem dX5_enter_83 : decode cX5_enter 83 = .ok (.aload_n 0, 1) := by decide +kernel
theorem dX5_enter_84 : decode cX5_enter 84 = .ok (.getfield 24, 3) := by decide +kernel
theorem dX5_enter_87 : decode cX5_enter 87 = .ok (.aload_n 0, 1) := by decide +kernel
theorem dX5_enter_88 : decode cX5_enter 88 = .ok (.getfield 34, 3) := by decide +kernel
theorem dX5_enter_91 : decode cX5_enter 91 = .ok (.iload 5, 2) := by decide +kernel
theorem dX5_enter_93 : decode cX5_enter 93 = .ok (.iastore, 1) := by decide +kernel
theorem dX5_enter_94 : decode cX5_enter 94 = .ok (.aload_n 0, 1) := by decide +kernel
theorem dX5_enter_95 : decode cX5_enter 95 = .ok (.dup, 1) := by decide +kernel
theorem dX5_enter_96 : decode cX5_enter 96 = .ok (.getfield 34, 3) := by decide +kernel
theorem dX5_enter_99 : decode cX5_enter 99 = .ok (.dup_x1, 1) := by decide +kernel
theorem dX5_enter_100 : decode cX5_enter 100 = .ok (.iconst 1, 1) := by decide +kernel
theorem dX5_enter_101 : decode cX5_enter 101 = .ok (.iadd, 1) := by decide +kernel
theorem dX5_enter_102 : decode cX5_enter 102 = .ok (.putfield 34, 3) := by decide +kernel
theorem dX5_enter_105 : decode cX5_enter 105 = .ok (.ireturn, 1) := by decide +kernel
theorem dX5_isNewDeal_0 : decode cX5_isNewDeal 0 = .ok (.iconst 0, 1) := by decide +kernel
theorem dX5_isNewDeal_1 : decode cX5_isNewDeal 1 = .ok (.istore_n 2, 1) := by decide +kernel
theorem dX5_isNewDeal_2 : decode cX5_isNewDeal 2 = .ok (.iload_n 2, 1) := by decide +kernel
theorem dX5_isNewDeal_3 : decode cX5_isNewDeal 3 = .ok (.aload_n 0, 1) := by decide +kernel
theorem dX5_isNewDeal_4 : decode cX5_isNewDeal 4 = .ok (.getfield 34, 3) := by decide +kernel
theorem dX5_isNewDeal_7 : decode cX5_isNewDeal 7 = .ok (.if_icmp .ge 21, 3) := by decide +kernel
theorem dX5_isNewDeal_10 : decode cX5_isNewDeal 10 = .ok (.aload_n 0, 1) := by decide +kernel
theorem dX5_isNewDeal_11 : decode cX5_isNewDeal 11 = .ok (.getfield 18, 3) := by decide +kernel
theorem dX5_isNewDeal_14 : decode cX5_isNewDeal 14 = .ok (.iload_n 2, 1) := by decide +kernel
theorem dX5_isNewDeal_15 : decode cX5_isNewDeal 15 = .ok (.iaload, 1) := by decide +kernel
theorem dX5_isNewDeal_16 : decode cX5_isNewDeal 16 = .ok (.iload_n 1, 1) := by decide +kernel
theorem dX5_isNewDeal_17 : decode cX5_isNewDeal 17 = .ok (.if_icmp .ne 5, 3) := by decide +kernel
theorem dX5_isNewDeal_20 : decode cX5_isNewDeal 20 = .ok (.iconst 0, 1) := by decide +kernel
theorem dX5_isNewDeal_21 : decode cX5_isNewDeal 21 = .ok (.ireturn, 1) := by decide +kernel
theorem dX5_isNewDeal_22 : decode cX5_isNewDeal 22 = .ok (.iinc 2 1, 3) := by decide +kernel
theorem dX5_isNewDeal_25 : decode cX5_isNewDeal 25 = .ok (.goto (-23), 3) := by decide +kernel
theorem dX5_isNewDeal_28 : decode cX5_isNewDeal 28 = .ok (.iconst 1, 1) := by decide +kernel
theorem dX5_isNewDeal_29 : decode cX5_isNewDeal 29 = .ok (.ireturn, 1) := by decide +kernel
theorem dX5_countingOf_0 : decode cX5_countingOf 0 = .ok (.aload_n 0, 1) := by decide +kernel
theorem dX5_countingOf_1 : decode cX5_countingOf 1 = .ok (.getfield 34, 3) := by decide +kernel
theorem dX5_countingOf_4 : decode cX5_countingOf 4 = .ok (.iconst 1, 1) := by decide +kernel
theorem dX5_countingOf_5 : decode cX5_countingOf 5 = .ok (.isub, 1) := by decide +kernel
theorem dX5_countingOf_6 : decode cX5_countingOf 6 = .ok (.istore_n 3, 1) := by decide +kernel
theorem dX5_countingOf_7 : decode cX5_countingOf 7 = .ok (.iload_n 3, 1) := by decide +kernel
theorem dX5_countingOf_8 : decode cX5_countingOf 8 = .ok (.ifCond .lt 40, 3) := by decide +kernel
theorem dX5_countingOf_11 : decode cX5_countingOf 11 = .ok (.aload_n 0, 1) := by decide +kernel
theorem dX5_countingOf_12 : decode cX5_countingOf 12 = .ok (.getfield 30, 3) := by decide +kernel
theorem dX5_countingOf_15 : decode cX5_countingOf 15 = .ok (.iload_n 3, 1) := by decide +kernel
theorem dX5_countingOf_16 : decode cX5_countingOf 16 = .ok (.baload, 1) := by decide +kernel
theorem dX5_countingOf_17 : decode cX5_countingOf 17 = .ok (.ifCond .eq 25, 3) := by decide +kernel
theorem dX5_countingOf_20 : decode cX5_countingOf 20 = .ok (.aload_n 0, 1) := by decide +kernel
theorem dX5_countingOf_21 : decode cX5_countingOf 21 = .ok (.getfield 9, 3) := by decide +kernel
theorem dX5_countingOf_24 : decode cX5_countingOf 24 = .ok (.iload_n 3, 1) := by decide +kernel
theorem dX5_countingOf_25 : decode cX5_countingOf 25 = .ok (.iaload, 1) := by decide +kernel
theorem dX5_countingOf_26 : decode cX5_countingOf 26 = .ok (.iload_n 1, 1) := by decide +kernel
theorem dX5_countingOf_27 : decode cX5_countingOf 27 = .ok (.if_icmp .ne 15, 3) := by decide +kernel
theorem dX5_countingOf_30 : decode cX5_countingOf 30 = .ok (.aload_n 0, 1) := by decide +kernel
theorem dX5_countingOf_31 : decode cX5_countingOf 31 = .ok (.getfield 15, 3) := by decide +kernel
theorem dX5_countingOf_34 : decode cX5_countingOf 34 = .ok (.iload_n 3, 1) := by decide +kernel
theorem dX5_countingOf_35 : decode cX5_countingOf 35 = .ok (.iaload, 1) := by decide +kernel
theorem dX5_countingOf_36 : decode cX5_countingOf 36 = .ok (.iload_n 2, 1) := by decide +kernel
theorem dX5_countingOf_37 : decode cX5_countingOf 37 = .ok (.if_icmp .ne 5, 3) := by decide +kernel
theorem dX5_countingOf_40 : decode cX5_countingOf 40 = .ok (.iload_n 3, 1) := by decide +kernel
theorem dX5_countingOf_41 : decode cX5_countingOf 41 = .ok (.ireturn, 1) := by decide +kernel
theorem dX5_countingOf_42 : decode cX5_countingOf 42 = .ok (.iinc 3 (-1), 3) := by decide +kernel
theorem dX5_countingOf_45 : decode cX5_countingOf 45 = .ok (.goto (-38), 3) := by decide +kernel
theorem dX5_countingOf_48 : decode cX5_countingOf 48 = .ok (.bipush (-4), 2) := by decide +kernel
theorem dX5_countingOf_50 : decode cX5_countingOf 50 = .ok (.ireturn, 1) := by decide +kernel
theorem dX5_doesCount_0 : decode cX5_doesCount 0 = .ok (.aload_n 0, 1) := by decide +kernel
theorem dX5_doesCount_1 : decode cX5_doesCount 1 = .ok (.aload_n 0, 1) := by decide +kernel
theorem dX5_doesCount_2 : decode cX5_doesCount 2 = .ok (.getfield 9, 3) := by decide +kernel
theorem dX5_doesCount_5 : decode cX5_doesCount 5 = .ok (.iload_n 1, 1) := by decide +kernel
theorem dX5_doesCount_6 : decode cX5_doesCount 6 = .ok (.iaload, 1) := by decide +kernel
theorem dX5_doesCount_7 : decode cX5_doesCount 7 = .ok (.aload_n 0, 1) := by decide +kernel
theorem dX5_doesCount_8 : decode cX5_doesCount 8 = .ok (.getfield 15, 3) := by decide +kernel
theorem dX5_doesCount_11 : decode cX5_doesCount 11 = .ok (.iload_n 1, 1) := by decide +kernel
theorem dX5_doesCount_12 : decode cX5_doesCount 12 = .ok (.iaload, 1) := by decide +kernel
theorem dX5_doesCount_13 : decode cX5_doesCount 13 = .ok (.invokevirtual 42, 3) := by decide +kernel
theorem dX5_doesCount_16 : decode cX5_doesCount 16 = .ok (.iload_n 1, 1) := by decide +kernel
theorem dX5_doesCount_17 : decode cX5_doesCount 17 = .ok (.if_icmp .ne 7, 3) := by decide +kernel
theorem dX5_doesCount_20 : decode cX5_doesCount 20 = .ok (.iconst 1, 1) := by decide +kernel
theorem dX5_doesCount_21 : decode cX5_doesCount 21 = .ok (.goto 4, 3) := by decide +kernel
theorem dX5_doesCount_24 : decode cX5_doesCount 24 = .ok (.iconst 0, 1) := by decide +kernel
theorem dX5_doesCount_25 : decode cX5_doesCount 25 = .ok (.ireturn, 1) := by decide +kernel
theorem dX5_countingOnes_0 : decode cX5_countingOnes 0 = .ok (.iconst 0, 1) := by decide +kernel
theorem dX5_countingOnes_1 : decode cX5_countingOnes 1 = .ok (.istore_n 1, 1) := by decide +kernel
theorem dX5_countingOnes_2 : decode cX5_countingOnes 2 = .ok (.iconst 0, 1) := by decide +kernel
theorem dX5_countingOnes_3 : decode cX5_countingOnes 3 = .ok (.istore_n 2, 1) := by decide +kernel
theorem dX5_countingOnes_4 : decode cX5_countingOnes 4 = .ok (.iload_n 2, 1) := by decide +kernel
theorem dX5_countingOnes_5 : decode cX5_countingOnes 5 = .ok (.aload_n 0, 1) := by decide +kernel
theorem dX5_countingOnes_6 : decode cX5_countingOnes 6 = .ok (.getfield 34, 3) := by decide +kernel
theorem dX5_countingOnes_9 : decode cX5_countingOnes 9 = .ok (.if_icmp .ge 20, 3) := by decide +kernel
theorem dX5_countingOnes_12 : decode cX5_countingOnes 12 = .ok (.iload_n 1, 1) := by decide +kernel
theorem dX5_countingOnes_13 : decode cX5_countingOnes 13 = .ok (.aload_n 0, 1) := by decide +kernel
theorem dX5_countingOnes_14 : decode cX5_countingOnes 14 = .ok (.iload_n 2, 1) := by decide +kernel
theorem dX5_countingOnes_15 : decode cX5_countingOnes 15 = .ok (.invokevirtual 46, 3) := by decide +kernel
theorem dX5_countingOnes_18 : decode cX5_countingOnes 18 = .ok (.invokestatic 49, 3) := by decide +kernel
theorem dX5_countingOnes_21 : decode cX5_countingOnes 21 = .ok (.iadd, 1) := by decide +kernel
theorem dX5_countingOnes_22 : decode cX5_countingOnes 22 = .ok (.istore_n 1, 1) := by decide +kernel
theorem dX5_countingOnes_23 : decode cX5_countingOnes 23 = .ok (.iinc 2 1, 3) := by decide +kernel
theorem dX5_countingOnes_26 : decode cX5_countingOnes 26 = .ok (.goto (-22), 3) := by decide +kernel
theorem dX5_countingOnes_29 : decode cX5_countingOnes 29 = .ok (.iload_n 1, 1) := by decide +kernel
theorem dX5_countingOnes_30 : decode cX5_countingOnes 30 = .ok (.ireturn, 1) := by decide +kernel
theorem dX6_init_0 : decode cX6_init 0 = .ok (.aload_n 0, 1) := by decide +kernel
theorem dX6_init_1 : decode cX6_init 1 = .ok (.invokespecial 3, 3) := by decide +kernel
theorem dX6_init_4 : decode cX6_init 4 = .ok (.aload_n 0, 1) := by decide +kernel
theorem dX6_init_5 : decode cX6_init 5 = .ok (.new 9, 3) := by decide +kernel
theorem dX6_init_8 : decode cX6_init 8 = .ok (.dup, 1) := by decide +kernel
theorem dX6_init_9 : decode cX6_init 9 = .ok (.invokespecial 11, 3) := by decide +kernel
theorem dX6_init_12 : decode cX6_init 12 = .ok (.putfield 12, 3) := by decide +kernel
theorem dX6_init_15 : decode cX6_init 15 = .ok (.aload_n 0, 1) := by decide +kernel
theorem dX6_init_16 : decode cX6_init 16 = .ok (.new 16, 3) := by decide +kernel
theorem dX6_init_19 : decode cX6_init 19 = .ok (.dup, 1) := by decide +kernel
theorem dX6_init_20 : decode cX6_init 20 = .ok (.invokespecial 18, 3) := by decide +kernel
theorem dX6_init_23 : decode cX6_init 23 = .ok (.putfield 19, 3) := by decide +kernel
theorem dX6_init_26 : decode cX6_init 26 = .ok (.aload_n 0, 1) := by decide +kernel
theorem dX6_init_27 : decode cX6_init 27 = .ok (.new 23, 3) := by decide +kernel
theorem dX6_init_30 : decode cX6_init 30 = .ok (.dup, 1) := by decide +kernel
theorem dX6_init_31 : decode cX6_init 31 = .ok (.invokespecial 25, 3) := by decide +kernel
theorem dX6_init_34 : decode cX6_init 34 = .ok (.putfield 26, 3) := by decide +kernel
theorem dX6_init_37 : decode cX6_init 37 = .ok (.aload_n 0, 1) := by decide +kernel
theorem dX6_init_38 : decode cX6_init 38 = .ok (.new 30, 3) := by decide +kernel
theorem dX6_init_41 : decode cX6_init 41 = .ok (.dup, 1) := by decide +kernel
theorem dX6_init_42 : decode cX6_init 42 = .ok (.invokespecial 32, 3) := by decide +kernel
theorem dX6_init_45 : decode cX6_init 45 = .ok (.putfield 33, 3) := by decide +kernel
theorem dX6_init_48 : decode cX6_init 48 = .ok (.aload_n 0, 1) := by decide +kernel
theorem dX6_init_49 : decode cX6_init 49 = .ok (.new 37, 3) := by decide +kernel
theorem dX6_init_52 : decode cX6_init 52 = .ok (.dup, 1) := by decide +kernel
theorem dX6_init_53 : decode cX6_init 53 = .ok (.invokespecial 39, 3) := by decide +kernel
theorem dX6_init_56 : decode cX6_init 56 = .ok (.putfield 40, 3) := by decide +kernel
theorem dX6_init_59 : decode cX6_init 59 = .ok (.aload_n 0, 1) := by decide +kernel
theorem dX6_init_60 : decode cX6_init 60 = .ok (.iconst 4, 1) := by decide +kernel
theorem dX6_init_61 : decode cX6_init 61 = .ok (.anewarray 44, 3) := by decide +kernel
theorem dX6_init_64 : decode cX6_init 64 = .ok (.putfield 46, 3) := by decide +kernel
theorem dX6_init_67 : decode cX6_init 67 = .ok (.aload_n 0, 1) := by decide +kernel
theorem dX6_init_68 : decode cX6_init 68 = .ok (.bipush 10, 2) := by decide +kernel
theorem dX6_init_70 : decode cX6_init 70 = .ok (.newarray .int, 2) := by decide +kernel
theorem dX6_init_72 : decode cX6_init 72 = .ok (.putfield 50, 3) := by decide +kernel
theorem dX6_init_75 : decode cX6_init 75 = .ok (.aload_n 0, 1) := by decide +kernel
theorem dX6_init_76 : decode cX6_init 76 = .ok (.bipush 10, 2) := by decide +kernel
theorem dX6_init_78 : decode cX6_init 78 = .ok (.newarray .int, 2) := by decide +kernel
theorem dX6_init_80 : decode cX6_init 80 = .ok (.putfield 54, 3) := by decide +kernel
theorem dX6_init_83 : decode cX6_init 83 = .ok (.aload_n 0, 1) := by decide +kernel
theorem dX6_init_84 : decode cX6_init 84 = .ok (.bipush 12, 2) := by decide +kernel
theorem dX6_init_86 : decode cX6_init 86 = .ok (.newarray .int, 2) := by decide +kernel
theorem dX6_init_88 : decode cX6_init 88 = .ok (.putfield 57, 3) := by decide +kernel
theorem dX6_init_91 : decode cX6_init 91 = .ok (.aload_n 0, 1) := by decide +kernel
theorem dX6_init_92 : decode cX6_init 92 = .ok (.bipush 12, 2) := by decide +kernel
theorem dX6_init_94 : decode cX6_init 94 = .ok (.newarray .int, 2) := by decide +kernel
theorem dX6_init_96 : decode cX6_init 96 = .ok (.putfield 60, 3) := by decide +kernel
theorem dX6_init_99 : decode cX6_init 99 = .ok (.aload_n 0, 1) := by decide +kernel
theorem dX6_init_100 : decode cX6_init 100 = .ok (.bipush 12, 2) := by decide +kernel
theorem dX6_init_102 : decode cX6_init 102 = .ok (.newarray .int, 2) := by decide +kernel
theorem dX6_init_104 : decode cX6_init 104 = .ok (.putfield 63, 3) := by decide +kernel
theorem dX6_init_107 : decode cX6_init 107 = .ok (.getstatic 66, 3) := by decide +kernel
theorem dX6_init_110 : decode cX6_init 110 = .ok (.iconst 0, 1) := by decide +kernel
theorem dX6_init_111 : decode cX6_init 111 = .ok (.aload_n 0, 1) := by decide +kernel
theorem dX6_init_112 : decode cX6_init 112 = .ok (.getfield 50, 3) := by decide +kernel
theorem dX6_init_115 : decode cX6_init 115 = .ok (.iconst 0, 1) := by decide +kernel
theorem dX6_init_116 : decode cX6_init 116 = .ok (.bipush 10, 2) := by decide +kernel
theorem dX6_init_118 : decode cX6_init 118 = .ok (.invokestatic 69, 3) := by decide +kernel
theorem dX6_init_121 : decode cX6_init 121 = .ok (.iconst 0, 1) := by decide +kernel
theorem dX6_init_122 : decode cX6_init 122 = .ok (.istore_n 1, 1) := by decide +kernel
theorem dX6_init_123 : decode cX6_init 123 = .ok (.iload_n 1, 1) := by decide +kernel
theorem dX6_init_124 : decode cX6_init 124 = .ok (.iconst 4, 1) := by decide +kernel
theorem dX6_init_125 : decode cX6_init 125 = .ok (.if_icmp .ge 22, 3) := by decide +kernel
theorem dX6_init_128 : decode cX6_init 128 = .ok (.aload_n 0, 1) := by decide +kernel
theorem dX6_init_129 : decode cX6_init 129 = .ok (.getfield 46, 3) := by decide +kernel
theorem dX6_init_132 : decode cX6_init 132 = .ok (.iload_n 1, 1) := by decide +kernel
theorem dX6_init_133 : decode cX6_init 133 = .ok (.new 44, 3) := by decide +kernel
theorem dX6_init_136 : decode cX6_init 136 = .ok (.dup, 1) := by decide +kernel
theorem dX6_init_137 : decode cX6_init 137 = .ok (.invokespecial 75, 3) := by decide +kernel
theorem dX6_init_140 : decode cX6_init 140 = .ok (.aastore, 1) := by decide +kernel
theorem dX6_init_141 : decode cX6_init 141 = .ok (.iinc 1 1, 3) := by decide +kernel
theorem dX6_init_144 : decode cX6_init 144 = .ok (.goto (-21), 3) := by decide +kernel
theorem dX6_init_147 : decode cX6_init 147 = .ok (.return_, 1) := by decide +kernel
theorem dX6_name_0 : decode cX6_name 0 = .ok (.iload_n 1, 1) := by decide +kernel
theorem dX6_name_1 : decode cX6_name 1 = .ok (.iconst 0, 1) := by decide +kernel
theorem dX6_name_2 : decode cX6_name 2 = .ok (.sipush 999, 3) := by decide +kernel
theorem dX6_name_5 : decode cX6_name 5 = .ok (.invokestatic 76, 3) := by decide +kernel
theorem dX6_name_8 : decode cX6_name 8 = .ok (.ifCond .ne 5, 3) := by decide +kernel
theorem dX6_name_11 : decode cX6_name 11 = .ok (.iconst (-1), 1) := by decide +kernel
theorem dX6_name_12 : decode cX6_name 12 = .ok (.ireturn, 1) := by decide +kernel
theorem dX6_name_13 : decode cX6_name 13 = .ok (.aload_n 0, 1) := by decide +kernel
theorem dX6_name_14 : decode cX6_name 14 = .ok (.getfield 12, 3) := by decide +kernel
theorem dX6_name_17 : decode cX6_name 17 = .ok (.iload_n 1, 1) := by decide +kernel
theorem dX6_name_18 : decode cX6_name 18 = .ok (.invokevirtual 80, 3) := by decide +kernel
theorem dX6_name_21 : decode cX6_name 21 = .ok (.ireturn, 1) := by decide +kernel
theorem dX6_seed_0 : decode cX6_seed 0 = .ok (.aload_n 0, 1) := by decide +kernel
theorem dX6_seed_1 : decode cX6_seed 1 = .ok (.iload_n 1, 1) := by decide +kernel
theorem dX6_seed_2 : decode cX6_seed 2 = .ok (.invokevirtual 84, 3) := by decide +kernel
theorem dX6_seed_5 : decode cX6_seed 5 = .ok (.ifCond .ne 5, 3) := by decide +kernel
theorem dX6_seed_8 : decode cX6_seed 8 = .ok (.iconst (-1), 1) := by decide +kernel
theorem dX6_seed_9 : decode cX6_seed 9 = .ok (.ireturn, 1) := by decide +kernel
theorem dX6_seed_10 : decode cX6_seed 10 = .ok (.aload_n 0, 1) := by decide +kernel
theorem dX6_seed_11 : decode cX6_seed 11 = .ok (.getfield 12, 3) := by decide +kernel
theorem dX6_seed_14 : decode cX6_seed 14 = .ok (.getfield 88, 3) := by decide +kernel
theorem dX6_seed_17 : decode cX6_seed 17 = .ok (.iload_n 1, 1) := by decide +kernel
theorem dX6_seed_18 : decode cX6_seed 18 = .ok (.baload, 1) := by decide +kernel
theorem dX6_seed_19 : decode cX6_seed 19 = .ok (.invokestatic 92, 3) := by decide +kernel
theorem dX6_seed_22 : decode cX6_seed 22 = .ok (.istore_n 3, 1) := by decide +kernel
theorem dX6_seed_23 : decode cX6_seed 23 = .ok (.aload_n 0, 1) := by decide +kernel
theorem dX6_seed_24 : decode cX6_seed 24 = .ok (.getfield 12, 3) := by decide +kernel
theorem dX6_seed_27 : decode cX6_seed 27 = .ok (.getfield 88, 3) := by decide +kernel
theorem dX6_seed_30 : decode cX6_seed 30 = .ok (.iload_n 1, 1) := by decide +kernel
theorem dX6_seed_31 : decode cX6_seed 31 = .ok (.iload_n 2, 1) := by decide +kernel
theorem dX6_seed_32 : decode cX6_seed 32 = .ok (.bastore, 1) := by decide +kernel
theorem dX6_seed_33 : decode cX6_seed 33 = .ok (.iload_n 3, 1) := by decide +kernel
theorem dX6_seed_34 : decode cX6_seed 34 = .ok (.ireturn, 1) := by decide +kernel
theorem dX6_pledge_0 : decode cX6_pledge 0 = .ok (.aload_n 0, 1) := by decide +kernel
theorem dX6_pledge_1 : decode cX6_pledge 1 = .ok (.iload_n 1, 1) := by decide +kernel
theorem dX6_pledge_2 : decode cX6_pledge 2 = .ok (.invokevirtual 84, 3) := by decide +kernel
theorem dX6_pledge_5 : decode cX6_pledge 5 = .ok (.ifCond .eq 14, 3) := by decide +kernel
theorem dX6_pledge_8 : decode cX6_pledge 8 = .ok (.iload_n 2, 1) := by decide +kernel
theorem dX6_pledge_9 : decode cX6_pledge 9 = .ok (.iconst 1, 1) := by decide +kernel
theorem dX6_pledge_10 : decode cX6_pledge 10 = .ok (.sipush 999, 3) := by decide +kernel
theorem dX6_pledge_13 : decode cX6_pledge 13 = .ok (.invokestatic 76, 3) := by decide +kernel
theorem dX6_pledge_16 : decode cX6_pledge 16 = .ok (.ifCond .ne 5, 3) := by decide +kernel
theorem dX6_pledge_19 : decode cX6_pledge 19 = .ok (.iconst (-1), 1) := by decide +kernel
theorem dX6_pledge_20 : decode cX6_pledge 20 = .ok (.ireturn, 1) := by decide +kernel
theorem dX6_pledge_21 : decode cX6_pledge 21 = .ok (.aload_n 0, 1) := by decide +kernel
theorem dX6_pledge_22 : decode cX6_pledge 22 = .ok (.getfield 12, 3) := by decide +kernel
theorem dX6_pledge_25 : decode cX6_pledge 25 = .ok (.getfield 96, 3) := by decide +kernel
theorem dX6_pledge_28 : decode cX6_pledge 28 = .ok (.iload_n 1, 1) := by decide +kernel
theorem dX6_pledge_29 : decode cX6_pledge 29 = .ok (.baload, 1) := by decide +kernel
theorem dX6_pledge_30 : decode cX6_pledge 30 = .ok (.ifCond .eq 6, 3) := by decide +kernel
theorem dX6_pledge_33 : decode cX6_pledge 33 = .ok (.bipush (-2), 2) := by decide +kernel
theorem dX6_pledge_35 : decode cX6_pledge 35 = .ok (.ireturn, 1) := by decide +kernel
theorem dX6_pledge_36 : decode cX6_pledge 36 = .ok (.aload_n 0, 1) := by decide +kernel
theorem dX6_pledge_37 : decode cX6_pledge 37 = .ok (.getfield 12, 3) := by decide +kernel
theorem dX6_pledge_40 : decode cX6_pledge 40 = .ok (.getfield 99, 3) := by decide +kernel
theorem dX6_pledge_43 : decode cX6_pledge 43 = .ok (.iload_n 1, 1) := by decide +kernel
theorem dX6_pledge_44 : decode cX6_pledge 44 = .ok (.dup2, 1) := by decide +kernel
theorem dX6_pledge_45 : decode cX6_pledge 45 = .ok (.iaload, 1) := by decide +kernel
theorem dX6_pledge_46 : decode cX6_pledge 46 = .ok (.iload_n 2, 1) := by decide +kernel
theorem dX6_pledge_47 : decode cX6_pledge 47 = .ok (.iadd, 1) := by decide +kernel
theorem dX6_pledge_48 : decode cX6_pledge 48 = .ok (.iastore, 1) := by decide +kernel
theorem dX6_pledge_49 : decode cX6_pledge 49 = .ok (.aload_n 0, 1) := by decide +kernel
theorem dX6_pledge_50 : decode cX6_pledge 50 = .ok (.iload_n 1, 1) := by decide +kernel
theorem dX6_pledge_51 : decode cX6_pledge 51 = .ok (.invokevirtual 102, 3) := by decide +kernel
theorem dX6_pledge_54 : decode cX6_pledge 54 = .ok (.ireturn, 1) := by decide +kernel
theorem dX6_tie_0 : decode cX6_tie 0 = .ok (.aload_n 0, 1) := by decide +kernel
theorem dX6_tie_1 : decode cX6_tie 1 = .ok (.iload_n 1, 1) := by decide +kernel
theorem dX6_tie_2 : decode cX6_tie 2 = .ok (.iload_n 2, 1) := by decide +kernel
theorem dX6_tie_3 : decode cX6_tie 3 = .ok (.invokevirtual 105, 3) := by decide +kernel
theorem dX6_tie_6 : decode cX6_tie 6 = .ok (.ifCond .eq 24, 3) := by decide +kernel
theorem dX6_tie_9 : decode cX6_tie 9 = .ok (.iload_n 3, 1) := by decide +kernel
theorem dX6_tie_10 : decode cX6_tie 10 = .ok (.iconst 1, 1) := by decide +kernel
theorem dX6_tie_11 : decode cX6_tie 11 = .ok (.sipush 999, 3) := by decide +kernel
theorem dX6_tie_14 : decode cX6_tie 14 = .ok (.invokestatic 76, 3) := by decide +kernel
theorem dX6_tie_17 : decode cX6_tie 17 = .ok (.ifCond .eq 13, 3) := by decide +kernel
theorem dX6_tie_20 : decode cX6_tie 20 = .ok (.iload 4, 2) := by decide +kernel
theorem dX6_tie_22 : decode cX6_tie 22 = .ok (.iconst 0, 1) := by decide +kernel
theorem dX6_tie_23 : decode cX6_tie 23 = .ok (.iconst 3, 1) := by decide +kernel
theorem dX6_tie_24 : decode cX6_tie 24 = .ok (.invokestatic 76, 3) := by decide +kernel
theorem dX6_tie_27 : decode cX6_tie 27 = .ok (.ifCond .ne 5, 3) := by decide +kernel
theorem dX6_tie_30 : decode cX6_tie 30 = .ok (.iconst (-1), 1) := by decide +kernel
theorem dX6_tie_31 : decode cX6_tie 31 = .ok (.ireturn, 1) := by decide +kernel
theorem dX6_tie_32 : decode cX6_tie 32 = .ok (.aload_n 0, 1) := by decide +kernel
theorem dX6_tie_33 : decode cX6_tie 33 = .ok (.getfield 19, 3) := by decide +kernel
theorem dX6_tie_36 : decode cX6_tie 36 = .ok (.getfield 109, 3) := by decide +kernel
theorem dX6_tie_39 : decode cX6_tie 39 = .ok (.bipush 24, 2) := by decide +kernel
theorem dX6_tie_41 : decode cX6_tie 41 = .ok (.if_icmp .lt 6, 3) := by decide +kernel
theorem dX6_tie_44 : decode cX6_tie 44 = .ok (.bipush (-3), 2) := by decide +kernel
theorem dX6_tie_46 : decode cX6_tie 46 = .ok (.ireturn, 1) := by decide +kernel
theorem dX6_tie_47 : decode cX6_tie 47 = .ok (.aload_n 0, 1) := by decide +kernel
theorem dX6_tie_48 : decode cX6_tie 48 = .ok (.getfield 12, 3) := by decide +kernel
theorem dX6_tie_51 : decode cX6_tie 51 = .ok (.getfield 96, 3) := by decide +kernel
theorem dX6_tie_54 : decode cX6_tie 54 = .ok (.iload_n 1, 1) := by decide +kernel
theorem dX6_tie_55 : decode cX6_tie 55 = .ok (.baload, 1) := by decide +kernel
theorem dX6_tie_56 : decode cX6_tie 56 = .ok (.ifCond .ne 15, 3) := by decide +kernel
theorem dX6_tie_59 : decode cX6_tie 59 = .ok (.aload_n 0, 1) := by decide +kernel
theorem dX6_tie_60 : decode cX6_tie 60 = .ok (.getfield 12, 3) := by decide +kernel
theorem dX6_tie_63 : decode cX6_tie 63 = .ok (.getfield 96, 3) := by decide +kernel
theorem dX6_tie_66 : decode cX6_tie 66 = .ok (.iload_n 2, 1) := by decide +kernel
theorem dX6_tie_67 : decode cX6_tie 67 = .ok (.baload, 1) := by decide +kernel
theorem dX6_tie_68 : decode cX6_tie 68 = .ok (.ifCond .eq 6, 3) := by decide +kernel
theorem dX6_tie_71 : decode cX6_tie 71 = .ok (.bipush (-2), 2) := by decide +kernel
theorem dX6_tie_73 : decode cX6_tie 73 = .ok (.ireturn, 1) := by decide +kernel
theorem dX6_tie_74 : decode cX6_tie 74 = .ok (.aload_n 0, 1) := by decide +kernel
theorem dX6_tie_75 : decode cX6_tie 75 = .ok (.getfield 19, 3) := by decide +kernel
theorem dX6_tie_78 : decode cX6_tie 78 = .ok (.iload_n 1, 1) := by decide +kernel
theorem dX6_tie_79 : decode cX6_tie 79 = .ok (.iload_n 2, 1) := by decide +kernel
theorem dX6_tie_80 : decode cX6_tie 80 = .ok (.iload_n 3, 1) := by decide +kernel
theorem dX6_tie_81 : decode cX6_tie 81 = .ok (.iload 4, 2) := by decide +kernel
theorem dX6_tie_83 : decode cX6_tie 83 = .ok (.aload_n 0, 1) := by decide +kernel
theorem dX6_tie_84 : decode cX6_tie 84 = .ok (.getfield 113, 3) := by decide +kernel
theorem dX6_tie_87 : decode cX6_tie 87 = .ok (.invokevirtual 116, 3) := by decide +kernel
theorem dX6_tie_90 : decode cX6_tie 90 = .ok (.ireturn, 1) := by decide +kernel
theorem dX6_tieOf_0 : decode cX6_tieOf 0 = .ok (.aload_n 0, 1) := by decide +kernel
theorem dX6_tieOf_1 : decode cX6_tieOf 1 = .ok (.iload_n 1, 1) := by decide +kernel
theorem dX6_tieOf_2 : decode cX6_tieOf 2 = .ok (.invokevirtual 119, 3) := by decide +kernel
theorem dX6_tieOf_5 : decode cX6_tieOf 5 = .ok (.ifCond .ne 5, 3) := by decide +kernel
theorem dX6_tieOf_8 : decode cX6_tieOf 8 = .ok (.iconst (-1), 1) := by decide +kernel
theorem dX6_tieOf_9 : decode cX6_tieOf 9 = .ok (.ireturn, 1) := by decide +kernel
theorem dX6_tieOf_10 : decode cX6_tieOf 10 = .ok (.iload_n 2, 1) := by decide +kernel
theorem dX6_tieOf_11 : decode cX6_tieOf 11 = .ok (.tableswitch 93 0 5 #[37, 47, 57, 67, 77, 87], 37) := by decide +kernel
theorem dX6_tieOf_48 : decode cX6_tieOf 48 = .ok (.aload_n 0, 1) := by decide +kernel
theorem dX6_tieOf_49 : decode cX6_tieOf 49 = .ok (.getfield 19, 3) := by decide +kernel
theorem dX6_tieOf_52 : decode cX6_tieOf 52 = .ok (.getfield 122, 3) := by decide +kernel
theorem dX6_tieOf_55 : decode cX6_tieOf 55 = .ok (.iload_n 1, 1) := by decide +kernel
theorem dX6_tieOf_56 : decode cX6_tieOf 56 = .ok (.iaload, 1) := by decide +kernel
theorem dX6_tieOf_57 : decode cX6_tieOf 57 = .ok (.ireturn, 1) := by decide +kernel
theorem dX6_tieOf_58 : decode cX6_tieOf 58 = .ok (.aload_n 0, 1) := by decide +kernel
theorem dX6_tieOf_59 : decode cX6_tieOf 59 = .ok (.getfield 19, 3) := by decide +kernel
theorem dX6_tieOf_62 : decode cX6_tieOf 62 = .ok (.getfield 125, 3) := by decide +kernel
theorem dX6_tieOf_65 : decode cX6_tieOf 65 = .ok (.iload_n 1, 1) := by decide +kernel
theorem dX6_tieOf_66 : decode cX6_tieOf 66 = .ok (.iaload, 1) := by decide +kernel
theorem dX6_tieOf_67 : decode cX6_tieOf 67 = .ok (.ireturn, 1) := by decide +kernel
theorem dX6_tieOf_68 : decode cX6_tieOf 68 = .ok (.aload_n 0, 1) := by decide +kernel
theorem dX6_tieOf_69 : decode cX6_tieOf 69 = .ok (.getfield 19, 3) := by decide +kernel
theorem dX6_tieOf_72 : decode cX6_tieOf 72 = .ok (.getfield 128, 3) := by decide +kernel
theorem dX6_tieOf_75 : decode cX6_tieOf 75 = .ok (.iload_n 1, 1) := by decide +kernel
theorem dX6_tieOf_76 : decode cX6_tieOf 76 = .ok (.iaload, 1) := by decide +kernel
theorem dX6_tieOf_77 : decode cX6_tieOf 77 = .ok (.ireturn, 1) := by decide +kernel
theorem dX6_tieOf_78 : decode cX6_tieOf 78 = .ok (.aload_n 0, 1) := by decide +kernel
theorem dX6_tieOf_79 : decode cX6_tieOf 79 = .ok (.getfield 19, 3) := by decide +kernel
theorem dX6_tieOf_82 : decode cX6_tieOf 82 = .ok (.getfield 131, 3) := by decide +kernel
theorem dX6_tieOf_85 : decode cX6_tieOf 85 = .ok (.iload_n 1, 1) := by decide +kernel
theorem dX6_tieOf_86 : decode cX6_tieOf 86 = .ok (.iaload, 1) := by decide +kernel
theorem dX6_tieOf_87 : decode cX6_tieOf 87 = .ok (.ireturn, 1) := by decide +kernel
theorem dX6_tieOf_88 : decode cX6_tieOf 88 = .ok (.aload_n 0, 1) := by decide +kernel
theorem dX6_tieOf_89 : decode cX6_tieOf 89 = .ok (.getfield 19, 3) := by decide +kernel
theorem dX6_tieOf_92 : decode cX6_tieOf 92 = .ok (.getfield 134, 3) := by decide +kernel
theorem dX6_tieOf_95 : decode cX6_tieOf 95 = .ok (.iload_n 1, 1) := by decide +kernel
theorem dX6_tieOf_96 : decode cX6_tieOf 96 = .ok (.iaload, 1) := by decide +kernel
theorem dX6_tieOf_97 : decode cX6_tieOf 97 = .ok (.ireturn, 1) := by decide +kernel
theorem dX6_tieOf_98 : decode cX6_tieOf 98 = .ok (.aload_n 0, 1) := by decide +kernel
theorem dX6_tieOf_99 : decode cX6_tieOf 99 = .ok (.iload_n 1, 1) := by decide +kernel
theorem dX6_tieOf_100 : decode cX6_tieOf 100 = .ok (.invokevirtual 137, 3) := by decide +kernel
theorem dX6_tieOf_103 : decode cX6_tieOf 103 = .ok (.ireturn, 1) := by decide +kernel
theorem dX6_tieOf_104 : decode cX6_tieOf 104 = .ok (.iconst (-1), 1) := by decide +kernel
theorem dX6_tieOf_105 : decode cX6_tieOf 105 = .ok (.ireturn, 1) := by decide +kernel
theorem dX6_renew_0 : decode cX6_renew 0 = .ok (.aload_n 0, 1) := by decide +kernel
theorem dX6_renew_1 : decode cX6_renew 1 = .ok (.iload_n 1, 1) := by decide +kernel
theorem dX6_renew_2 : decode cX6_renew 2 = .ok (.invokevirtual 119, 3) := by decide +kernel
theorem dX6_renew_5 : decode cX6_renew 5 = .ok (.ifCond .ne 5, 3) := by decide +kernel
theorem dX6_renew_8 : decode cX6_renew 8 = .ok (.iconst (-1), 1) := by decide +kernel
theorem dX6_renew_9 : decode cX6_renew 9 = .ok (.ireturn, 1) := by decide +kernel
theorem dX6_renew_10 : decode cX6_renew 10 = .ok (.aload_n 0, 1) := by decide +kernel
theorem dX6_renew_11 : decode cX6_renew 11 = .ok (.iload_n 1, 1) := by decide +kernel
theorem dX6_renew_12 : decode cX6_renew 12 = .ok (.invokevirtual 140, 3) := by decide +kernel
theorem dX6_renew_15 : decode cX6_renew 15 = .ok (.ifCond .eq 6, 3) := by decide +kernel
theorem dX6_renew_18 : decode cX6_renew 18 = .ok (.bipush (-2), 2) := by decide +kernel
theorem dX6_renew_20 : decode cX6_renew 20 = .ok (.ireturn, 1) := by decide +kernel
theorem dX6_renew_21 : decode cX6_renew 21 = .ok (.aload_n 0, 1) := by decide +kernel
theorem dX6_renew_22 : decode cX6_renew 22 = .ok (.getfield 113, 3) := by decide +kernel
theorem dX6_renew_25 : decode cX6_renew 25 = .ok (.aload_n 0, 1) := by decide +kernel
theorem dX6_renew_26 : decode cX6_renew 26 = .ok (.getfield 19, 3) := by decide +kernel
theorem dX6_renew_29 : decode cX6_renew 29 = .ok (.getfield 134, 3) := by decide +kernel
theorem dX6_renew_32 : decode cX6_renew 32 = .ok (.iload_n 1, 1) := by decide +kernel
theorem dX6_renew_33 : decode cX6_renew 33 = .ok (.iaload, 1) := by decide +kernel
theorem dX6_renew_34 : decode cX6_renew 34 = .ok (.isub, 1) := by decide +kernel
theorem dX6_renew_35 : decode cX6_renew 35 = .ok (.istore_n 2, 1) := by decide +kernel
theorem dX6_renew_36 : decode cX6_renew 36 = .ok (.aload_n 0, 1) := by decide +kernel
theorem dX6_renew_37 : decode cX6_renew 37 = .ok (.getfield 19, 3) := by decide +kernel
theorem dX6_renew_40 : decode cX6_renew 40 = .ok (.getfield 134, 3) := by decide +kernel
theorem dX6_renew_43 : decode cX6_renew 43 = .ok (.iload_n 1, 1) := by decide +kernel
theorem dX6_renew_44 : decode cX6_renew 44 = .ok (.aload_n 0, 1) := by decide +kernel
theorem dX6_renew_45 : decode cX6_renew 45 = .ok (.getfield 113, 3) := by decide +kernel
theorem dX6_renew_48 : decode cX6_renew 48 = .ok (.iastore, 1) := by decide +kernel
theorem dX6_renew_49 : decode cX6_renew 49 = .ok (.iload_n 2, 1) := by decide +kernel
theorem dX6_renew_50 : decode cX6_renew 50 = .ok (.ireturn, 1) := by decide +kernel
theorem dX6_of_0 : decode cX6_of 0 = .ok (.aload_n 0, 1) := by decide +kernel
theorem dX6_of_1 : decode cX6_of 1 = .ok (.iload_n 1, 1) := by decide +kernel
theorem dX6_of_2 : decode cX6_of 2 = .ok (.invokevirtual 84, 3) := by decide +kernel
theorem dX6_of_5 : decode cX6_of 5 = .ok (.ifCond .ne 5, 3) := by decide +kernel
theorem dX6_of_8 : decode cX6_of 8 = .ok (.iconst (-1), 1) := by decide +kernel
theorem dX6_of_9 : decode cX6_of 9 = .ok (.ireturn, 1) := by decide +kernel
theorem dX6_of_10 : decode cX6_of 10 = .ok (.iload_n 2, 1) := by decide +kernel
theorem dX6_of_11 : decode cX6_of 11 = .ok (.tableswitch 110 0 6 #[41, 51, 64, 77, 86, 96, 102], 41) := by decide +kernel
theorem dX6_of_52 : decode cX6_of 52 = .ok (.aload_n 0, 1) := by decide +kernel
theorem dX6_of_53 : decode cX6_of 53 = .ok (.getfield 12, 3) := by decide +kernel
theorem dX6_of_56 : decode cX6_of 56 = .ok (.getfield 143, 3) := by decide +kernel
theorem dX6_of_59 : decode cX6_of 59 = .ok (.iload_n 1, 1) := by decide +kernel
theorem dX6_of_60 : decode cX6_of 60 = .ok (.iaload, 1) := by decide +kernel
theorem dX6_of_61 : decode cX6_of 61 = .ok (.ireturn, 1) := by decide +kernel
theorem dX6_of_62 : decode cX6_of 62 = .ok (.aload_n 0, 1) := by decide +kernel
theorem dX6_of_63 : decode cX6_of 63 = .ok (.getfield 12, 3) := by decide +kernel
theorem dX6_of_66 : decode cX6_of 66 = .ok (.getfield 88, 3) := by decide +kernel
theorem dX6_of_69 : decode cX6_of 69 = .ok (.iload_n 1, 1) := by decide +kernel
theorem dX6_of_70 : decode cX6_of 70 = .ok (.baload, 1) := by decide +kernel
theorem dX6_of_71 : decode cX6_of 71 = .ok (.invokestatic 92, 3) := by decide +kernel
theorem dX6_of_74 : decode cX6_of 74 = .ok (.ireturn, 1) := by decide +kernel
theorem dX6_of_75 : decode cX6_of 75 = .ok (.aload_n 0, 1) := by decide +kernel
theorem dX6_of_76 : decode cX6_of 76 = .ok (.getfield 12, 3) := by decide +kernel
theorem dX6_of_79 : decode cX6_of 79 = .ok (.getfield 96, 3) := by decide +kernel
theorem dX6_of_82 : decode cX6_of 82 = .ok (.iload_n 1, 1) := by decide +kernel
theorem dX6_of_83 : decode cX6_of 83 = .ok (.baload, 1) := by decide +kernel
theorem dX6_of_84 : decode cX6_of 84 = .ok (.invokestatic 92, 3) := by decide +kernel
theorem dX6_of_87 : decode cX6_of 87 = .ok (.ireturn, 1) := by decide +kernel
theorem dX6_of_88 : decode cX6_of 88 = .ok (.aload_n 0, 1) := by decide +kernel
theorem dX6_of_89 : decode cX6_of 89 = .ok (.iload_n 1, 1) := by decide +kernel
theorem dX6_of_90 : decode cX6_of 90 = .ok (.invokevirtual 146, 3) := by decide +kernel
theorem dX6_of_93 : decode cX6_of 93 = .ok (.invokestatic 92, 3) := by decide +kernel
theorem dX6_of_96 : decode cX6_of 96 = .ok (.ireturn, 1) := by decide +kernel
theorem dX6_of_97 : decode cX6_of 97 = .ok (.aload_n 0, 1) := by decide +kernel
theorem dX6_of_98 : decode cX6_of 98 = .ok (.getfield 12, 3) := by decide +kernel
theorem dX6_of_101 : decode cX6_of 101 = .ok (.getfield 149, 3) := by decide +kernel
theorem dX6_of_104 : decode cX6_of 104 = .ok (.iload_n 1, 1) := by decide +kernel
theorem dX6_of_105 : decode cX6_of 105 = .ok (.iaload, 1) := by decide +kernel
theorem dX6_of_106 : decode cX6_of 106 = .ok (.ireturn, 1) := by decide +kernel
theorem dX6_of_107 : decode cX6_of 107 = .ok (.aload_n 0, 1) := by decide +kernel
theorem dX6_of_108 : decode cX6_of 108 = .ok (.iload_n 1, 1) := by decide +kernel
theorem dX6_of_109 : decode cX6_of 109 = .ok (.invokevirtual 152, 3) := by decide +kernel
theorem dX6_of_112 : decode cX6_of 112 = .ok (.ireturn, 1) := by decide +kernel
theorem dX6_of_113 : decode cX6_of 113 = .ok (.aload_n 0, 1) := by decide +kernel
theorem dX6_of_114 : decode cX6_of 114 = .ok (.iconst 1, 1) := by decide +kernel
theorem dX6_of_115 : decode cX6_of 115 = .ok (.iload_n 1, 1) := by decide +kernel
theorem dX6_of_116 : decode cX6_of 116 = .ok (.ishl, 1) := by decide +kernel
theorem dX6_of_117 : decode cX6_of 117 = .ok (.invokevirtual 155, 3) := by decide +kernel
theorem dX6_of_120 : decode cX6_of 120 = .ok (.ireturn, 1) := by decide +kernel
theorem dX6_of_121 : decode cX6_of 121 = .ok (.iconst (-1), 1) := by decide +kernel
theorem dX6_of_122 : decode cX6_of 122 = .ok (.ireturn, 1) := by decide +kernel
theorem dX6_made_0 : decode cX6_made 0 = .ok (.aload_n 0, 1) := by decide +kernel
theorem dX6_made_1 : decode cX6_made 1 = .ok (.iload_n 1, 1) := by decide +kernel
theorem dX6_made_2 : decode cX6_made 2 = .ok (.invokevirtual 84, 3) := by decide +kernel
theorem dX6_made_5 : decode cX6_made 5 = .ok (.ifCond .ne 5, 3) := by decide +kernel
theorem dX6_made_8 : decode cX6_made 8 = .ok (.iconst (-1), 1) := by decide +kernel
theorem dX6_made_9 : decode cX6_made 9 = .ok (.ireturn, 1) := by decide +kernel
theorem dX6_made_10 : decode cX6_made 10 = .ok (.aload_n 0, 1) := by decide +kernel
theorem dX6_made_11 : decode cX6_made 11 = .ok (.getfield 12, 3) := by decide +kernel
theorem dX6_made_14 : decode cX6_made 14 = .ok (.getfield 96, 3) := by decide +kernel
theorem dX6_made_17 : decode cX6_made 17 = .ok (.iload_n 1, 1) := by decide +kernel
theorem dX6_made_18 : decode cX6_made 18 = .ok (.baload, 1) := by decide +kernel
theorem dX6_made_19 : decode cX6_made 19 = .ok (.ifCond .eq 6, 3) := by decide +kernel
theorem dX6_made_22 : decode cX6_made 22 = .ok (.bipush (-2), 2) := by decide +kernel
theorem dX6_made_24 : decode cX6_made 24 = .ok (.ireturn, 1) := by decide +kernel
theorem dX6_made_25 : decode cX6_made 25 = .ok (.aload_n 0, 1) := by decide +kernel
theorem dX6_made_26 : decode cX6_made 26 = .ok (.getfield 12, 3) := by decide +kernel
theorem dX6_made_29 : decode cX6_made 29 = .ok (.getfield 96, 3) := by decide +kernel
theorem dX6_made_32 : decode cX6_made 32 = .ok (.iload_n 1, 1) := by decide +kernel
theorem dX6_made_33 : decode cX6_made 33 = .ok (.iconst 1, 1) := by decide +kernel
theorem dX6_made_34 : decode cX6_made 34 = .ok (.bastore, 1) := by decide +kernel
theorem dX6_made_35 : decode cX6_made 35 = .ok (.aload_n 0, 1) := by decide +kernel
theorem dX6_made_36 : decode cX6_made 36 = .ok (.iload_n 1, 1) := by decide +kernel
theorem dX6_made_37 : decode cX6_made 37 = .ok (.invokevirtual 158, 3) := by decide +kernel
theorem dX6_made_40 : decode cX6_made 40 = .ok (.istore_n 2, 1) := by decide +kernel
theorem dX6_made_41 : decode cX6_made 41 = .ok (.iconst 0, 1) := by decide +kernel
theorem dX6_made_42 : decode cX6_made 42 = .ok (.istore_n 3, 1) := by decide +kernel
theorem dX6_made_43 : decode cX6_made 43 = .ok (.iload_n 3, 1) := by decide +kernel
theorem dX6_made_44 : decode cX6_made 44 = .ok (.aload_n 0, 1) := by decide +kernel
theorem dX6_made_45 : decode cX6_made 45 = .ok (.getfield 12, 3) := by decide +kernel
theorem dX6_made_48 : decode cX6_made 48 = .ok (.getfield 161, 3) := by decide +kernel
theorem dX6_made_51 : decode cX6_made 51 = .ok (.if_icmp .ge 50, 3) := by decide +kernel
theorem dX6_made_54 : decode cX6_made 54 = .ok (.iload_n 2, 1) := by decide +kernel
theorem dX6_made_55 : decode cX6_made 55 = .ok (.iload_n 3, 1) := by decide +kernel
theorem dX6_made_56 : decode cX6_made 56 = .ok (.invokestatic 162, 3) := by decide +kernel
theorem dX6_made_59 : decode cX6_made 59 = .ok (.ifCond .eq 36, 3) := by decide +kernel
theorem dX6_made_62 : decode cX6_made 62 = .ok (.aload_n 0, 1) := by decide +kernel
theorem dX6_made_63 : decode cX6_made 63 = .ok (.getfield 12, 3) := by decide +kernel
theorem dX6_made_66 : decode cX6_made 66 = .ok (.getfield 149, 3) := by decide +kernel
theorem dX6_made_69 : decode cX6_made 69 = .ok (.iload_n 3, 1) := by decide +kernel
theorem dX6_made_70 : decode cX6_made 70 = .ok (.aload_n 0, 1) := by decide +kernel
theorem dX6_made_71 : decode cX6_made 71 = .ok (.getfield 12, 3) := by decide +kernel
theorem dX6_made_74 : decode cX6_made 74 = .ok (.getfield 149, 3) := by decide +kernel
theorem dX6_made_77 : decode cX6_made 77 = .ok (.iload_n 3, 1) := by decide +kernel
theorem dX6_made_78 : decode cX6_made 78 = .ok (.iaload, 1) := by decide +kernel
theorem dX6_made_79 : decode cX6_made 79 = .ok (.aload_n 0, 1) := by decide +kernel
theorem dX6_made_80 : decode cX6_made 80 = .ok (.getfield 113, 3) := by decide +kernel
theorem dX6_made_83 : decode cX6_made 83 = .ok (.aload_n 0, 1) := by decide +kernel
theorem dX6_made_84 : decode cX6_made 84 = .ok (.getfield 50, 3) := by decide +kernel
theorem dX6_made_87 : decode cX6_made 87 = .ok (.bipush 8, 2) := by decide +kernel
theorem dX6_made_89 : decode cX6_made 89 = .ok (.iaload, 1) := by decide +kernel
theorem dX6_made_90 : decode cX6_made 90 = .ok (.iadd, 1) := by decide +kernel
theorem dX6_made_91 : decode cX6_made 91 = .ok (.invokestatic 165, 3) := by decide +kernel
theorem dX6_made_94 : decode cX6_made 94 = .ok (.iastore, 1) := by decide +kernel
theorem dX6_made_95 : decode cX6_made 95 = .ok (.iinc 3 1, 3) := by decide +kernel
theorem dX6_made_98 : decode cX6_made 98 = .ok (.goto (-55), 3) := by decide +kernel
theorem dX6_made_101 : decode cX6_made 101 = .ok (.iload_n 2, 1) := by decide +kernel
theorem dX6_made_102 : decode cX6_made 102 = .ok (.invokestatic 171, 3) := by decide +kernel
theorem dX6_made_105 : decode cX6_made 105 = .ok (.ireturn, 1) := by decide +kernel
theorem dX6_day_0 : decode cX6_day 0 = .ok (.iload_n 1, 1) := by decide +kernel
theorem dX6_day_1 : decode cX6_day 1 = .ok (.aload_n 0, 1) := by decide +kernel
theorem dX6_day_2 : decode cX6_day 2 = .ok (.getfield 113, 3) := by decide +kernel
theorem dX6_day_5 : decode cX6_day 5 = .ok (.sipush 9999, 3) := by decide +kernel
theorem dX6_day_8 : decode cX6_day 8 = .ok (.invokestatic 76, 3) := by decide +kernel
theorem dX6_day_11 : decode cX6_day 11 = .ok (.ifCond .ne 5, 3) := by decide +kernel
theorem dX6_day_14 : decode cX6_day 14 = .ok (.iconst (-1), 1) := by decide +kernel
theorem dX6_day_15 : decode cX6_day 15 = .ok (.ireturn, 1) := by decide +kernel
theorem dX6_day_16 : decode cX6_day 16 = .ok (.aload_n 0, 1) := by decide +kernel
theorem dX6_day_17 : decode cX6_day 17 = .ok (.getfield 113, 3) := by decide +kernel
theorem dX6_day_20 : decode cX6_day 20 = .ok (.istore_n 2, 1) := by decide +kernel
theorem dX6_day_21 : decode cX6_day 21 = .ok (.aload_n 0, 1) := by decide +kernel
theorem dX6_day_22 : decode cX6_day 22 = .ok (.iload_n 1, 1) := by decide +kernel
theorem dX6_day_23 : decode cX6_day 23 = .ok (.putfield 113, 3) := by decide +kernel
theorem dX6_day_26 : decode cX6_day 26 = .ok (.iload_n 2, 1) := by decide +kernel
theorem dX6_day_27 : decode cX6_day 27 = .ok (.ireturn, 1) := by decide +kernel
theorem dX6_feed_0 : decode cX6_feed 0 = .ok (.aload_n 0, 1) := by decide +kernel
theorem dX6_feed_1 : decode cX6_feed 1 = .ok (.getfield 33, 3) := by decide +kernel
theorem dX6_feed_4 : decode cX6_feed 4 = .ok (.lload_n 1, 1) := by decide +kernel
theorem dX6_feed_5 : decode cX6_feed 5 = .ok (.invokevirtual 176, 3) := by decide +kernel
theorem dX6_feed_8 : decode cX6_feed 8 = .ok (.ireturn, 1) := by decide +kernel
theorem dX6_end_0 : decode cX6_end 0 = .ok (.iload_n 1, 1) := by decide +kernel
theorem dX6_end_1 : decode cX6_end 1 = .ok (.iconst 0, 1) := by decide +kernel
theorem dX6_end_2 : decode cX6_end 2 = .ok (.aload_n 0, 1) := by decide +kernel
theorem dX6_end_3 : decode cX6_end 3 = .ok (.getfield 33, 3) := by decide +kernel
theorem dX6_end_6 : decode cX6_end 6 = .ok (.getfield 180, 3) := by decide +kernel
theorem dX6_end_9 : decode cX6_end 9 = .ok (.invokestatic 76, 3) := by decide +kernel
theorem dX6_end_12 : decode cX6_end 12 = .ok (.ifCond .ne 5, 3) := by decide +kernel
theorem dX6_end_15 : decode cX6_end 15 = .ok (.iconst (-1), 1) := by decide +kernel
theorem dX6_end_16 : decode cX6_end 16 = .ok (.ireturn, 1) := by decide +kernel
theorem dX6_end_17 : decode cX6_end 17 = .ok (.aload_n 0, 1) := by decide +kernel
theorem dX6_end_18 : decode cX6_end 18 = .ok (.getfield 33, 3) := by decide +kernel
theorem dX6_end_21 : decode cX6_end 21 = .ok (.getfield 180, 3) := by decide +kernel
theorem dX6_end_24 : decode cX6_end 24 = .ok (.istore_n 2, 1) := by decide +kernel
theorem dX6_end_25 : decode cX6_end 25 = .ok (.aload_n 0, 1) := by decide +kernel
theorem dX6_end_26 : decode cX6_end 26 = .ok (.getfield 33, 3) := by decide +kernel
theorem dX6_end_29 : decode cX6_end 29 = .ok (.iload_n 1, 1) := by decide +kernel
theorem dX6_end_30 : decode cX6_end 30 = .ok (.putfield 180, 3) := by decide +kernel
theorem dX6_end_33 : decode cX6_end 33 = .ok (.iload_n 2, 1) := by decide +kernel
theorem dX6_end_34 : decode cX6_end 34 = .ok (.ireturn, 1) := by decide +kernel
theorem dX6_rules_0 : decode cX6_rules 0 = .ok (.getstatic 66, 3) := by decide +kernel
theorem dX6_rules_3 : decode cX6_rules 3 = .ok (.iconst 0, 1) := by decide +kernel
theorem dX6_rules_4 : decode cX6_rules 4 = .ok (.aload_n 0, 1) := by decide +kernel
theorem dX6_rules_5 : decode cX6_rules 5 = .ok (.getfield 54, 3) := by decide +kernel
theorem dX6_rules_8 : decode cX6_rules 8 = .ok (.iconst 0, 1) := by decide +kernel
theorem dX6_rules_9 : decode cX6_rules 9 = .ok (.bipush 10, 2) := by decide +kernel
theorem dX6_rules_11 : decode cX6_rules 11 = .ok (.invokestatic 69, 3) := by decide +kernel
theorem dX6_rules_14 : decode cX6_rules 14 = .ok (.aload_n 0, 1) := by decide +kernel
theorem dX6_rules_15 : decode cX6_rules 15 = .ok (.getfield 33, 3) := by decide +kernel
theorem dX6_rules_18 : decode cX6_rules 18 = .ok (.aload_n 0, 1) := by decide +kernel
theorem dX6_rules_19 : decode cX6_rules 19 = .ok (.getfield 54, 3) := by decide +kernel
theorem dX6_rules_22 : decode cX6_rules 22 = .ok (.invokevirtual 183, 3) := by decide +kernel
theorem dX6_rules_25 : decode cX6_rules 25 = .ok (.istore_n 1, 1) := by decide +kernel
theorem dX6_rules_26 : decode cX6_rules 26 = .ok (.aload_n 0, 1) := by decide +kernel
theorem dX6_rules_27 : decode cX6_rules 27 = .ok (.getfield 33, 3) := by decide +kernel
theorem dX6_rules_30 : decode cX6_rules 30 = .ok (.getfield 187, 3) := by decide +kernel
theorem dX6_rules_33 : decode cX6_rules 33 = .ok (.ifCond .ne 18, 3) := by decide +kernel
theorem dX6_rules_36 : decode cX6_rules 36 = .ok (.aload_n 0, 1) := by decide +kernel
theorem dX6_rules_37 : decode cX6_rules 37 = .ok (.getfield 54, 3) := by decide +kernel
theorem dX6_rules_40 : decode cX6_rules 40 = .ok (.iconst 0, 1) := by decide +kernel
theorem dX6_rules_41 : decode cX6_rules 41 = .ok (.aload_n 0, 1) := by decide +kernel
theorem dX6_rules_42 : decode cX6_rules 42 = .ok (.getfield 50, 3) := by decide +kernel
theorem dX6_rules_45 : decode cX6_rules 45 = .ok (.iconst 0, 1) := by decide +kernel
theorem dX6_rules_46 : decode cX6_rules 46 = .ok (.bipush 10, 2) := by decide +kernel
theorem dX6_rules_48 : decode cX6_rules 48 = .ok (.invokestatic 69, 3) := by decide +kernel
theorem dX6_rules_51 : decode cX6_rules 51 = .ok (.aload_n 0, 1) := by decide +kernel
theorem dX6_rules_52 : decode cX6_rules 52 = .ok (.getfield 33, 3) := by decide +kernel
theorem dX6_rules_55 : decode cX6_rules 55 = .ok (.iconst 0, 1) := by decide +kernel
theorem dX6_rules_56 : decode cX6_rules 56 = .ok (.putfield 180, 3) := by decide +kernel
theorem dX6_rules_59 : decode cX6_rules 59 = .ok (.iload_n 1, 1) := by decide +kernel
theorem dX6_rules_60 : decode cX6_rules 60 = .ok (.ireturn, 1) := by decide +kernel
theorem dX6_fault_0 : decode cX6_fault 0 = .ok (.aload_n 0, 1) := by decide +kernel
theorem dX6_fault_1 : decode cX6_fault 1 = .ok (.getfield 33, 3) := by decide +kernel
theorem dX6_fault_4 : decode cX6_fault 4 = .ok (.getfield 187, 3) := by decide +kernel
theorem dX6_fault_7 : decode cX6_fault 7 = .ok (.ireturn, 1) := by decide +kernel
theorem dX6_rule_0 : decode cX6_rule 0 = .ok (.iload_n 1, 1) := by decide +kernel
theorem dX6_rule_1 : decode cX6_rule 1 = .ok (.iconst 0, 1) := by decide +kernel
theorem dX6_rule_2 : decode cX6_rule 2 = .ok (.bipush 9, 2) := by decide +kernel
theorem dX6_rule_4 : decode cX6_rule 4 = .ok (.invokestatic 76, 3) := by decide +kernel
theorem dX6_rule_7 : decode cX6_rule 7 = .ok (.ifCond .eq 12, 3) := by decide +kernel
theorem dX6_rule_10 : decode cX6_rule 10 = .ok (.aload_n 0, 1) := by decide +kernel
theorem dX6_rule_11 : decode cX6_rule 11 = .ok (.getfield 50, 3) := by decide +kernel
theorem dX6_rule_14 : decode cX6_rule 14 = .ok (.iload_n 1, 1) := by decide +kernel
theorem dX6_rule_15 : decode cX6_rule 15 = .ok (.iaload, 1) := by decide +kernel
theorem dX6_rule_16 : decode cX6_rule 16 = .ok (.goto 4, 3) := by decide +kernel
theorem dX6_rule_19 : decode cX6_rule 19 = .ok (.iconst (-1), 1) := by decide +kernel
theorem dX6_rule_20 : decode cX6_rule 20 = .ok (.ireturn, 1) := by decide +kernel
theorem dX6_trust_0 : decode cX6_trust 0 = .ok (.aload_n 0, 1) := by decide +kernel
theorem dX6_trust_1 : decode cX6_trust 1 = .ok (.iload_n 1, 1) := by decide +kernel
theorem dX6_trust_2 : decode cX6_trust 2 = .ok (.invokevirtual 84, 3) := by decide +kernel
theorem dX6_trust_5 : decode cX6_trust 5 = .ok (.ifCond .ne 5, 3) := by decide +kernel
theorem dX6_trust_8 : decode cX6_trust 8 = .ok (.iconst (-1), 1) := by decide +kernel
theorem dX6_trust_9 : decode cX6_trust 9 = .ok (.ireturn, 1) := by decide +kernel
theorem dX6_trust_10 : decode cX6_trust 10 = .ok (.aload_n 0, 1) := by decide +kernel
theorem dX6_trust_11 : decode cX6_trust 11 = .ok (.invokevirtual 190, 3) := by decide +kernel
theorem dX6_trust_14 : decode cX6_trust 14 = .ok (.aload_n 0, 1) := by decide +kernel
theorem dX6_trust_15 : decode cX6_trust 15 = .ok (.getfield 40, 3) := by decide +kernel
theorem dX6_trust_18 : decode cX6_trust 18 = .ok (.iconst 1, 1) := by decide +kernel
theorem dX6_trust_19 : decode cX6_trust 19 = .ok (.iload_n 1, 1) := by decide +kernel
theorem dX6_trust_20 : decode cX6_trust 20 = .ok (.ishl, 1) := by decide +kernel
theorem dX6_trust_21 : decode cX6_trust 21 = .ok (.invokevirtual 193, 3) := by decide +kernel
theorem dX6_trust_24 : decode cX6_trust 24 = .ok (.ireturn, 1) := by decide +kernel
theorem dX6_heap_0 : decode cX6_heap 0 = .ok (.aload_n 0, 1) := by decide +kernel
theorem dX6_heap_1 : decode cX6_heap 1 = .ok (.iload_n 1, 1) := by decide +kernel
theorem dX6_heap_2 : decode cX6_heap 2 = .ok (.invokevirtual 196, 3) := by decide +kernel
theorem dX6_heap_5 : decode cX6_heap 5 = .ok (.ifCond .ne 5, 3) := by decide +kernel
theorem dX6_heap_8 : decode cX6_heap 8 = .ok (.iconst (-1), 1) := by decide +kernel
theorem dX6_heap_9 : decode cX6_heap 9 = .ok (.ireturn, 1) := by decide +kernel
theorem dX6_heap_10 : decode cX6_heap 10 = .ok (.aload_n 0, 1) := by decide +kernel
theorem dX6_heap_11 : decode cX6_heap 11 = .ok (.invokevirtual 190, 3) := by decide +kernel
theorem dX6_heap_14 : decode cX6_heap 14 = .ok (.aload_n 0, 1) := by decide +kernel
theorem dX6_heap_15 : decode cX6_heap 15 = .ok (.getfield 40, 3) := by decide +kernel
theorem dX6_heap_18 : decode cX6_heap 18 = .ok (.iload_n 1, 1) := by decide +kernel
theorem dX6_heap_19 : decode cX6_heap 19 = .ok (.invokevirtual 193, 3) := by decide +kernel
theorem dX6_heap_22 : decode cX6_heap 22 = .ok (.ireturn, 1) := by decide +kernel
theorem dX6_cut_0 : decode cX6_cut 0 = .ok (.aload_n 0, 1) := by decide +kernel
theorem dX6_cut_1 : decode cX6_cut 1 = .ok (.iload_n 1, 1) := by decide +kernel
theorem dX6_cut_2 : decode cX6_cut 2 = .ok (.invokevirtual 196, 3) := by decide +kernel
theorem dX6_cut_5 : decode cX6_cut 5 = .ok (.ifCond .eq 16, 3) := by decide +kernel
theorem dX6_cut_8 : decode cX6_cut 8 = .ok (.iload_n 1, 1) := by decide +kernel
theorem dX6_cut_9 : decode cX6_cut 9 = .ok (.ifCond .eq 12, 3) := by decide +kernel
theorem dX6_cut_12 : decode cX6_cut 12 = .ok (.iload_n 2, 1) := by decide +kernel
theorem dX6_cut_13 : decode cX6_cut 13 = .ok (.iconst 0, 1) := by decide +kernel
theorem dX6_cut_14 : decode cX6_cut 14 = .ok (.iconst 2, 1) := by decide +kernel
theorem dX6_cut_15 : decode cX6_cut 15 = .ok (.invokestatic 76, 3) := by decide +kernel
theorem dX6_cut_18 : decode cX6_cut 18 = .ok (.ifCond .ne 5, 3) := by decide +kernel
theorem dX6_cut_21 : decode cX6_cut 21 = .ok (.iconst (-1), 1) := by decide +kernel
theorem dX6_cut_22 : decode cX6_cut 22 = .ok (.ireturn, 1) := by decide +kernel
theorem dX6_cut_23 : decode cX6_cut 23 = .ok (.aload_n 0, 1) := by decide +kernel
theorem dX6_cut_24 : decode cX6_cut 24 = .ok (.invokevirtual 190, 3) := by decide +kernel
theorem dX6_cut_27 : decode cX6_cut 27 = .ok (.aload_n 0, 1) := by decide +kernel
theorem dX6_cut_28 : decode cX6_cut 28 = .ok (.getfield 40, 3) := by decide +kernel
theorem dX6_cut_31 : decode cX6_cut 31 = .ok (.iload_n 1, 1) := by decide +kernel
theorem dX6_cut_32 : decode cX6_cut 32 = .ok (.invokevirtual 193, 3) := by decide +kernel
theorem dX6_cut_35 : decode cX6_cut 35 = .ok (.pop, 1) := by decide +kernel
theorem dX6_cut_36 : decode cX6_cut 36 = .ok (.aload_n 0, 1) := by decide +kernel
theorem dX6_cut_37 : decode cX6_cut 37 = .ok (.getfield 40, 3) := by decide +kernel
theorem dX6_cut_40 : decode cX6_cut 40 = .ok (.getfield 199, 3) := by decide +kernel
theorem dX6_cut_43 : decode cX6_cut 43 = .ok (.sipush 4095, 3) := by decide +kernel
theorem dX6_cut_46 : decode cX6_cut 46 = .ok (.iand, 1) := by decide +kernel
theorem dX6_cut_47 : decode cX6_cut 47 = .ok (.istore_n 3, 1) := by decide +kernel
theorem dX6_cut_48 : decode cX6_cut 48 = .ok (.iload_n 2, 1) := by decide +kernel
theorem dX6_cut_49 : decode cX6_cut 49 = .ok (.lookupswitch 35 #[(0, 27), (1, 29)], 27) := by decide +kernel
theorem dX6_cut_76 : decode cX6_cut 76 = .ok (.iload_n 3, 1) := by decide +kernel
theorem dX6_cut_77 : decode cX6_cut 77 = .ok (.ireturn, 1) := by decide +kernel
theorem dX6_cut_78 : decode cX6_cut 78 = .ok (.aload_n 0, 1) := by decide +kernel
theorem dX6_cut_79 : decode cX6_cut 79 = .ok (.iload_n 3, 1) := by decide +kernel
theorem dX6_cut_80 : decode cX6_cut 80 = .ok (.invokevirtual 202, 3) := by decide +kernel
theorem dX6_cut_83 : decode cX6_cut 83 = .ok (.ireturn, 1) := by decide +kernel
theorem dX6_cut_84 : decode cX6_cut 84 = .ok (.aload_n 0, 1) := by decide +kernel
theorem dX6_cut_85 : decode cX6_cut 85 = .ok (.iload_n 3, 1) := by decide +kernel
theorem dX6_cut_86 : decode cX6_cut 86 = .ok (.invokevirtual 205, 3) := by decide +kernel
theorem dX6_cut_89 : decode cX6_cut 89 = .ok (.ireturn, 1) := by decide +kernel
theorem dX6_low_0 : decode cX6_low 0 = .ok (.iload_n 1, 1) := by decide +kernel
theorem dX6_low_1 : decode cX6_low 1 = .ok (.iconst 0, 1) := by decide +kernel
theorem dX6_low_2 : decode cX6_low 2 = .ok (.iconst 1, 1) := by decide +kernel
theorem dX6_low_3 : decode cX6_low 3 = .ok (.invokestatic 76, 3) := by decide +kernel
theorem dX6_low_6 : decode cX6_low 6 = .ok (.ifCond .ne 5, 3) := by decide +kernel
theorem dX6_low_9 : decode cX6_low 9 = .ok (.iconst (-1), 1) := by decide +kernel
theorem dX6_low_10 : decode cX6_low 10 = .ok (.ireturn, 1) := by decide +kernel
theorem dX6_low_11 : decode cX6_low 11 = .ok (.aload_n 0, 1) := by decide +kernel
theorem dX6_low_12 : decode cX6_low 12 = .ok (.invokevirtual 190, 3) := by decide +kernel
theorem dX6_low_15 : decode cX6_low 15 = .ok (.bipush (-4), 2) := by decide +kernel
theorem dX6_low_17 : decode cX6_low 17 = .ok (.istore_n 2, 1) := by decide +kernel
theorem dX6_low_18 : decode cX6_low 18 = .ok (.iconst 0, 1) := by decide +kernel
theorem dX6_low_19 : decode cX6_low 19 = .ok (.istore_n 3, 1) := by decide +kernel
theorem dX6_low_20 : decode cX6_low 20 = .ok (.iconst 0, 1) := by decide +kernel
theorem dX6_low_21 : decode cX6_low 21 = .ok (.istore 4, 2) := by decide +kernel
theorem dX6_low_23 : decode cX6_low 23 = .ok (.iload 4, 2) := by decide +kernel
theorem dX6_low_25 : decode cX6_low 25 = .ok (.aload_n 0, 1) := by decide +kernel
theorem dX6_low_26 : decode cX6_low 26 = .ok (.getfield 12, 3) := by decide +kernel
theorem dX6_low_29 : decode cX6_low 29 = .ok (.getfield 161, 3) := by decide +kernel
theorem dX6_low_32 : decode cX6_low 32 = .ok (.if_icmp .ge 52, 3) := by decide +kernel
theorem dX6_low_35 : decode cX6_low 35 = .ok (.aload_n 0, 1) := by decide +kernel
theorem dX6_low_36 : decode cX6_low 36 = .ok (.iload 4, 2) := by decide +kernel
theorem dX6_low_38 : decode cX6_low 38 = .ok (.invokevirtual 208, 3) := by decide +kernel
theorem dX6_low_41 : decode cX6_low 41 = .ok (.ifCond .ne 6, 3) := by decide +kernel
theorem dX6_low_44 : decode cX6_low 44 = .ok (.goto 34, 3) := by decide +kernel
theorem dX6_low_47 : decode cX6_low 47 = .ok (.aload_n 0, 1) := by decide +kernel
theorem dX6_low_48 : decode cX6_low 48 = .ok (.getfield 40, 3) := by decide +kernel
theorem dX6_low_51 : decode cX6_low 51 = .ok (.iconst 1, 1) := by decide +kernel
theorem dX6_low_52 : decode cX6_low 52 = .ok (.iload 4, 2) := by decide +kernel
theorem dX6_low_54 : decode cX6_low 54 = .ok (.ishl, 1) := by decide +kernel
theorem dX6_low_55 : decode cX6_low 55 = .ok (.invokevirtual 193, 3) := by decide +kernel
theorem dX6_low_58 : decode cX6_low 58 = .ok (.istore 5, 2) := by decide +kernel
theorem dX6_low_60 : decode cX6_low 60 = .ok (.iload_n 2, 1) := by decide +kernel
theorem dX6_low_61 : decode cX6_low 61 = .ok (.bipush (-4), 2) := by decide +kernel
theorem dX6_low_63 : decode cX6_low 63 = .ok (.if_icmp .eq 9, 3) := by decide +kernel
theorem dX6_low_66 : decode cX6_low 66 = .ok (.iload 5, 2) := by decide +kernel
theorem dX6_low_68 : decode cX6_low 68 = .ok (.iload_n 3, 1) := by decide +kernel
theorem dX6_low_69 : decode cX6_low 69 = .ok (.if_icmp .ge 9, 3) := by decide +kernel
theorem dX6_low_72 : decode cX6_low 72 = .ok (.iload 4, 2) := by decide +kernel
theorem dX6_low_74 : decode cX6_low 74 = .ok (.istore_n 2, 1) := by decide +kernel
theorem dX6_low_75 : decode cX6_low 75 = .ok (.iload 5, 2) := by decide +kernel
theorem dX6_low_77 : decode cX6_low 77 = .ok (.istore_n 3, 1) := by decide +kernel
theorem dX6_low_78 : decode cX6_low 78 = .ok (.iinc 4 1, 3) := by decide +kernel
theorem dX6_low_81 : decode cX6_low 81 = .ok (.goto (-58), 3) := by decide +kernel
theorem dX6_low_84 : decode cX6_low 84 = .ok (.iload_n 1, 1) := by decide +kernel
theorem dX6_low_85 : decode cX6_low 85 = .ok (.ifCond .eq 9, 3) := by decide +kernel
theorem dX6_low_88 : decode cX6_low 88 = .ok (.iload_n 2, 1) := by decide +kernel
theorem dX6_low_89 : decode cX6_low 89 = .ok (.bipush (-4), 2) := by decide +kernel
theorem dX6_low_91 : decode cX6_low 91 = .ok (.if_icmp .ne 7, 3) := by decide +kernel
theorem dX6_low_94 : decode cX6_low 94 = .ok (.iload_n 2, 1) := by decide +kernel
theorem dX6_low_95 : decode cX6_low 95 = .ok (.goto 4, 3) := by decide +kernel
theorem dX6_low_98 : decode cX6_low 98 = .ok (.iload_n 3, 1) := by decide +kernel
theorem dX6_low_99 : decode cX6_low 99 = .ok (.ireturn, 1) := by decide +kernel
theorem dX6_twins_0 : decode cX6_twins 0 = .ok (.iload_n 1, 1) := by decide +kernel
theorem dX6_twins_1 : decode cX6_twins 1 = .ok (.iconst 0, 1) := by decide +kernel
theorem dX6_twins_2 : decode cX6_twins 2 = .ok (.iconst 1, 1) := by decide +kernel
theorem dX6_twins_3 : decode cX6_twins 3 = .ok (.invokestatic 76, 3) := by decide +kernel
theorem dX6_twins_6 : decode cX6_twins 6 = .ok (.ifCond .ne 5, 3) := by decide +kernel
theorem dX6_twins_9 : decode cX6_twins 9 = .ok (.iconst (-1), 1) := by decide +kernel
theorem dX6_twins_10 : decode cX6_twins 10 = .ok (.ireturn, 1) := by decide +kernel
theorem dX6_twins_11 : decode cX6_twins 11 = .ok (.aload_n 0, 1) := by decide +kernel
theorem dX6_twins_12 : decode cX6_twins 12 = .ok (.invokevirtual 211, 3) := by decide +kernel
theorem dX6_twins_15 : decode cX6_twins 15 = .ok (.bipush (-4), 2) := by decide +kernel
theorem dX6_twins_17 : decode cX6_twins 17 = .ok (.istore_n 2, 1) := by decide +kernel
theorem dX6_twins_18 : decode cX6_twins 18 = .ok (.iconst 0, 1) := by decide +kernel
theorem dX6_twins_19 : decode cX6_twins 19 = .ok (.istore_n 3, 1) := by decide +kernel
theorem dX6_twins_20 : decode cX6_twins 20 = .ok (.iconst 0, 1) := by decide +kernel
theorem dX6_twins_21 : decode cX6_twins 21 = .ok (.istore 4, 2) := by decide +kernel
theorem dX6_twins_23 : decode cX6_twins 23 = .ok (.iload 4, 2) := by decide +kernel
theorem dX6_twins_25 : decode cX6_twins 25 = .ok (.aload_n 0, 1) := by decide +kernel
theorem dX6_twins_26 : decode cX6_twins 26 = .ok (.getfield 12, 3) := by decide +kernel
theorem dX6_twins_29 : decode cX6_twins 29 = .ok (.getfield 161, 3) := by decide +kernel
theorem dX6_twins_32 : decode cX6_twins 32 = .ok (.if_icmp .ge 106, 3) := by decide +kernel
theorem dX6_twins_35 : decode cX6_twins 35 = .ok (.iload 4, 2) := by decide +kernel
theorem dX6_twins_37 : decode cX6_twins 37 = .ok (.iconst 1, 1) := by decide +kernel
theorem dX6_twins_38 : decode cX6_twins 38 = .ok (.iadd, 1) := by decide +kernel
theorem dX6_twins_39 : decode cX6_twins 39 = .ok (.istore 5, 2) := by decide +kernel
theorem dX6_twins_41 : decode cX6_twins 41 = .ok (.iload 5, 2) := by decide +kernel
theorem dX6_twins_43 : decode cX6_twins 43 = .ok (.aload_n 0, 1) := by decide +kernel
theorem dX6_twins_44 : decode cX6_twins 44 = .ok (.getfield 12, 3) := by decide +kernel
theorem dX6_twins_47 : decode cX6_twins 47 = .ok (.getfield 161, 3) := by decide +kernel
theorem dX6_twins_50 : decode cX6_twins 50 = .ok (.if_icmp .ge 82, 3) := by decide +kernel
theorem dX6_twins_53 : decode cX6_twins 53 = .ok (.aload_n 0, 1) := by decide +kernel
theorem dX6_twins_54 : decode cX6_twins 54 = .ok (.iload 4, 2) := by decide +kernel
theorem dX6_twins_56 : decode cX6_twins 56 = .ok (.invokevirtual 208, 3) := by decide +kernel
theorem dX6_twins_59 : decode cX6_twins 59 = .ok (.ifCond .eq 67, 3) := by decide +kernel
theorem dX6_twins_62 : decode cX6_twins 62 = .ok (.aload_n 0, 1) := by decide +kernel
theorem dX6_twins_63 : decode cX6_twins 63 = .ok (.iload 5, 2) := by decide +kernel
theorem dX6_twins_65 : decode cX6_twins 65 = .ok (.invokevirtual 208, 3) := by decide +kernel
theorem dX6_twins_68 : decode cX6_twins 68 = .ok (.ifCond .ne 6, 3) := by decide +kernel
theorem dX6_twins_71 : decode cX6_twins 71 = .ok (.goto 55, 3) := by decide +kernel
theorem dX6_twins_74 : decode cX6_twins 74 = .ok (.aload_n 0, 1) := by decide +kernel
theorem dX6_twins_75 : decode cX6_twins 75 = .ok (.getfield 63, 3) := by decide +kernel
theorem dX6_twins_78 : decode cX6_twins 78 = .ok (.iload 4, 2) := by decide +kernel
theorem dX6_twins_80 : decode cX6_twins 80 = .ok (.iaload, 1) := by decide +kernel
theorem dX6_twins_81 : decode cX6_twins 81 = .ok (.aload_n 0, 1) := by decide +kernel
theorem dX6_twins_82 : decode cX6_twins 82 = .ok (.getfield 63, 3) := by decide +kernel
theorem dX6_twins_85 : decode cX6_twins 85 = .ok (.iload 5, 2) := by decide +kernel
theorem dX6_twins_87 : decode cX6_twins 87 = .ok (.iaload, 1) := by decide +kernel
theorem dX6_twins_88 : decode cX6_twins 88 = .ok (.iadd, 1) := by decide +kernel
theorem dX6_twins_89 : decode cX6_twins 89 = .ok (.aload_n 0, 1) := by decide +kernel
theorem dX6_twins_90 : decode cX6_twins 90 = .ok (.getfield 40, 3) := by decide +kernel
theorem dX6_twins_93 : decode cX6_twins 93 = .ok (.iconst 1, 1) := by decide +kernel
theorem dX6_twins_94 : decode cX6_twins 94 = .ok (.iload 4, 2) := by decide +kernel
theorem dX6_twins_96 : decode cX6_twins 96 = .ok (.ishl, 1) := by decide +kernel
theorem dX6_twins_97 : decode cX6_twins 97 = .ok (.iconst 1, 1) := by decide +kernel
theorem dX6_twins_98 : decode cX6_twins 98 = .ok (.iload 5, 2) := by decide +kernel
theorem dX6_twins_100 : decode cX6_twins 100 = .ok (.ishl, 1) := by decide +kernel
theorem dX6_twins_101 : decode cX6_twins 101 = .ok (.ior, 1) := by decide +kernel
theorem dX6_twins_102 : decode cX6_twins 102 = .ok (.invokevirtual 193, 3) := by decide +kernel
theorem dX6_twins_105 : decode cX6_twins 105 = .ok (.isub, 1) := by decide +kernel
theorem dX6_twins_106 : decode cX6_twins 106 = .ok (.istore 6, 2) := by decide +kernel
theorem dX6_twins_108 : decode cX6_twins 108 = .ok (.iload 6, 2) := by decide +kernel
theorem dX6_twins_110 : decode cX6_twins 110 = .ok (.iload_n 3, 1) := by decide +kernel
theorem dX6_twins_111 : decode cX6_twins 111 = .ok (.if_icmp .le 15, 3) := by decide +kernel
theorem dX6_twins_114 : decode cX6_twins 114 = .ok (.bipush 16, 2) := by decide +kernel
theorem dX6_twins_116 : decode cX6_twins 116 = .ok (.iload 4, 2) := by decide +kernel
theorem dX6_twins_118 : decode cX6_twins 118 = .ok (.imul, 1) := by decide +kernel
theorem dX6_twins_119 : decode cX6_twins 119 = .ok (.iload 5, 2) := by decide +kernel
theorem dX6_twins_121 : decode cX6_twins 121 = .ok (.iadd, 1) := by decide +kernel
theorem dX6_twins_122 : decode cX6_twins 122 = .ok (.istore_n 2, 1) := by decide +kernel
theorem dX6_twins_123 : decode cX6_twins 123 = .ok (.iload 6, 2) := by decide +kernel
theorem dX6_twins_125 : decode cX6_twins 125 = .ok (.istore_n 3, 1) := by decide +kernel
theorem dX6_twins_126 : decode cX6_twins 126 = .ok (.iinc 5 1, 3) := by decide +kernel
theorem dX6_twins_129 : decode cX6_twins 129 = .ok (.goto (-88), 3) := by decide +kernel
theorem dX6_twins_132 : decode cX6_twins 132 = .ok (.iinc 4 1, 3) := by decide +kernel
theorem dX6_twins_135 : decode cX6_twins 135 = .ok (.goto (-112), 3) := by decide +kernel
theorem dX6_twins_138 : decode cX6_twins 138 = .ok (.iload_n 1, 1) := by decide +kernel
theorem dX6_twins_139 : decode cX6_twins 139 = .ok (.ifCond .eq 9, 3) := by decide +kernel
theorem dX6_twins_142 : decode cX6_twins 142 = .ok (.iload_n 2, 1) := by decide +kernel
theorem dX6_twins_143 : decode cX6_twins 143 = .ok (.bipush (-4), 2) := by decide +kernel
theorem dX6_twins_145 : decode cX6_twins 145 = .ok (.if_icmp .ne 7, 3) := by decide +kernel
theorem dX6_twins_148 : decode cX6_twins 148 = .ok (.iload_n 2, 1) := by decide +kernel
theorem dX6_twins_149 : decode cX6_twins 149 = .ok (.goto 4, 3) := by decide +kernel
theorem dX6_twins_152 : decode cX6_twins 152 = .ok (.iload_n 3, 1) := by decide +kernel
theorem dX6_twins_153 : decode cX6_twins 153 = .ok (.ireturn, 1) := by decide +kernel
theorem dX6_word_0 : decode cX6_word 0 = .ok (.aload_n 0, 1) := by decide +kernel
theorem dX6_word_1 : decode cX6_word 1 = .ok (.iload_n 1, 1) := by decide +kernel
theorem dX6_word_2 : decode cX6_word 2 = .ok (.iload_n 2, 1) := by decide +kernel
theorem dX6_word_3 : decode cX6_word 3 = .ok (.iload_n 3, 1) := by decide +kernel
theorem dX6_word_4 : decode cX6_word 4 = .ok (.iload 4, 2) := by decide +kernel
theorem dX6_word_6 : decode cX6_word 6 = .ok (.iconst 0, 1) := by decide +kernel
theorem dX6_word_7 : decode cX6_word 7 = .ok (.invokevirtual 214, 3) := by decide +kernel
theorem dX6_word_10 : decode cX6_word 10 = .ok (.istore 5, 2) := by decide +kernel
theorem dX6_word_12 : decode cX6_word 12 = .ok (.iload 5, 2) := by decide +kernel
theorem dX6_word_14 : decode cX6_word 14 = .ok (.ifCond .eq 8, 3) := by decide +kernel
theorem dX6_word_17 : decode cX6_word 17 = .ok (.iload 5, 2) := by decide +kernel
theorem dX6_word_19 : decode cX6_word 19 = .ok (.goto 19, 3) := by decide +kernel
theorem dX6_word_22 : decode cX6_word 22 = .ok (.aload_n 0, 1) := by decide +kernel
theorem dX6_word_23 : decode cX6_word 23 = .ok (.getfield 26, 3) := by decide +kernel
theorem dX6_word_26 : decode cX6_word 26 = .ok (.iload_n 1, 1) := by decide +kernel
theorem dX6_word_27 : decode cX6_word 27 = .ok (.iload_n 2, 1) := by decide +kernel
theorem dX6_word_28 : decode cX6_word 28 = .ok (.iload_n 3, 1) := by decide +kernel
theorem dX6_word_29 : decode cX6_word 29 = .ok (.iload 4, 2) := by decide +kernel
theorem dX6_word_31 : decode cX6_word 31 = .ok (.aload_n 0, 1) := by decide +kernel
theorem dX6_word_32 : decode cX6_word 32 = .ok (.getfield 113, 3) := by decide +kernel
theorem dX6_word_35 : decode cX6_word 35 = .ok (.invokevirtual 217, 3) := by decide +kernel
theorem dX6_word_38 : decode cX6_word 38 = .ok (.ireturn, 1) := by decide +kernel
theorem dX6_wordOf_0 : decode cX6_wordOf 0 = .ok (.aload_n 0, 1) := by decide +kernel
theorem dX6_wordOf_1 : decode cX6_wordOf 1 = .ok (.iload_n 1, 1) := by decide +kernel
theorem dX6_wordOf_2 : decode cX6_wordOf 2 = .ok (.invokevirtual 218, 3) := by decide +kernel
theorem dX6_wordOf_5 : decode cX6_wordOf 5 = .ok (.ifCond .ne 5, 3) := by decide +kernel
theorem dX6_wordOf_8 : decode cX6_wordOf 8 = .ok (.iconst (-1), 1) := by decide +kernel
theorem dX6_wordOf_9 : decode cX6_wordOf 9 = .ok (.ireturn, 1) := by decide +kernel
theorem dX6_wordOf_10 : decode cX6_wordOf 10 = .ok (.iload_n 2, 1) := by decide +kernel
theorem dX6_wordOf_11 : decode cX6_wordOf 11 = .ok (.tableswitch 99 0 5 #[37, 47, 57, 67, 77, 87], 37) := by decide +kernel
theorem dX6_wordOf_48 : decode cX6_wordOf 48 = .ok (.aload_n 0, 1) := by decide +kernel
theorem dX6_wordOf_49 : decode cX6_wordOf 49 = .ok (.getfield 26, 3) := by decide +kernel
theorem dX6_wordOf_52 : decode cX6_wordOf 52 = .ok (.getfield 221, 3) := by decide +kernel
theorem dX6_wordOf_55 : decode cX6_wordOf 55 = .ok (.iload_n 1, 1) := by decide +kernel
theorem dX6_wordOf_56 : decode cX6_wordOf 56 = .ok (.iaload, 1) := by decide +kernel
theorem dX6_wordOf_57 : decode cX6_wordOf 57 = .ok (.ireturn, 1) := by decide +kernel
theorem dX6_wordOf_58 : decode cX6_wordOf 58 = .ok (.aload_n 0, 1) := by decide +kernel
theorem dX6_wordOf_59 : decode cX6_wordOf 59 = .ok (.getfield 26, 3) := by decide +kernel
theorem dX6_wordOf_62 : decode cX6_wordOf 62 = .ok (.getfield 224, 3) := by decide +kernel
theorem dX6_wordOf_65 : decode cX6_wordOf 65 = .ok (.iload_n 1, 1) := by decide +kernel
theorem dX6_wordOf_66 : decode cX6_wordOf 66 = .ok (.iaload, 1) := by decide +kernel
theorem dX6_wordOf_67 : decode cX6_wordOf 67 = .ok (.ireturn, 1) := by decide +kernel
theorem dX6_wordOf_68 : decode cX6_wordOf 68 = .ok (.aload_n 0, 1) := by decide +kernel
theorem dX6_wordOf_69 : decode cX6_wordOf 69 = .ok (.getfield 26, 3) := by decide +kernel
theorem dX6_wordOf_72 : decode cX6_wordOf 72 = .ok (.getfield 227, 3) := by decide +kernel
theorem dX6_wordOf_75 : decode cX6_wordOf 75 = .ok (.iload_n 1, 1) := by decide +kernel
theorem dX6_wordOf_76 : decode cX6_wordOf 76 = .ok (.iaload, 1) := by decide +kernel
theorem dX6_wordOf_77 : decode cX6_wordOf 77 = .ok (.ireturn, 1) := by decide +kernel
theorem dX6_wordOf_78 : decode cX6_wordOf 78 = .ok (.aload_n 0, 1) := by decide +kernel
theorem dX6_wordOf_79 : decode cX6_wordOf 79 = .ok (.getfield 26, 3) := by decide +kernel
theorem dX6_wordOf_82 : decode cX6_wordOf 82 = .ok (.getfield 230, 3) := by decide +kernel
theorem dX6_wordOf_85 : decode cX6_wordOf 85 = .ok (.iload_n 1, 1) := by decide +kernel
theorem dX6_wordOf_86 : decode cX6_wordOf 86 = .ok (.iaload, 1) := by decide +kernel
theorem dX6_wordOf_87 : decode cX6_wordOf 87 = .ok (.ireturn, 1) := by decide +kernel
theorem dX6_wordOf_88 : decode cX6_wordOf 88 = .ok (.aload_n 0, 1) := by decide +kernel
theorem dX6_wordOf_89 : decode cX6_wordOf 89 = .ok (.getfield 26, 3) := by decide +kernel
theorem dX6_wordOf_92 : decode cX6_wordOf 92 = .ok (.getfield 233, 3) := by decide +kernel
theorem dX6_wordOf_95 : decode cX6_wordOf 95 = .ok (.iload_n 1, 1) := by decide +kernel
theorem dX6_wordOf_96 : decode cX6_wordOf 96 = .ok (.iaload, 1) := by decide +kernel
theorem dX6_wordOf_97 : decode cX6_wordOf 97 = .ok (.ireturn, 1) := by decide +kernel
theorem dX6_wordOf_98 : decode cX6_wordOf 98 = .ok (.aload_n 0, 1) := by decide +kernel
theorem dX6_wordOf_99 : decode cX6_wordOf 99 = .ok (.getfield 26, 3) := by decide +kernel
theorem dX6_wordOf_102 : decode cX6_wordOf 102 = .ok (.iload_n 1, 1) := by decide +kernel
theorem dX6_wordOf_103 : decode cX6_wordOf 103 = .ok (.invokevirtual 234, 3) := by decide +kernel
theorem dX6_wordOf_106 : decode cX6_wordOf 106 = .ok (.invokestatic 92, 3) := by decide +kernel
theorem dX6_wordOf_109 : decode cX6_wordOf 109 = .ok (.ireturn, 1) := by decide +kernel
theorem dX6_wordOf_110 : decode cX6_wordOf 110 = .ok (.iconst (-1), 1) := by decide +kernel
theorem dX6_wordOf_111 : decode cX6_wordOf 111 = .ok (.ireturn, 1) := by decide +kernel
theorem dX6_weight_0 : decode cX6_weight 0 = .ok (.aload_n 0, 1) := by decide +kernel
theorem dX6_weight_1 : decode cX6_weight 1 = .ok (.iload_n 1, 1) := by decide +kernel
theorem dX6_weight_2 : decode cX6_weight 2 = .ok (.iload_n 2, 1) := by decide +kernel
theorem dX6_weight_3 : decode cX6_weight 3 = .ok (.invokevirtual 105, 3) := by decide +kernel
theorem dX6_weight_6 : decode cX6_weight 6 = .ok (.ifCond .ne 5, 3) := by decide +kernel
theorem dX6_weight_9 : decode cX6_weight 9 = .ok (.iconst (-1), 1) := by decide +kernel
theorem dX6_weight_10 : decode cX6_weight 10 = .ok (.ireturn, 1) := by decide +kernel
theorem dX6_weight_11 : decode cX6_weight 11 = .ok (.aload_n 0, 1) := by decide +kernel
theorem dX6_weight_12 : decode cX6_weight 12 = .ok (.iload_n 1, 1) := by decide +kernel
theorem dX6_weight_13 : decode cX6_weight 13 = .ok (.invokevirtual 237, 3) := by decide +kernel
theorem dX6_weight_16 : decode cX6_weight 16 = .ok (.iload_n 2, 1) := by decide +kernel
theorem dX6_weight_17 : decode cX6_weight 17 = .ok (.invokestatic 162, 3) := by decide +kernel
theorem dX6_weight_20 : decode cX6_weight 20 = .ok (.ifCond .ne 6, 3) := by decide +kernel
theorem dX6_weight_23 : decode cX6_weight 23 = .ok (.bipush (-4), 2) := by decide +kernel
theorem dX6_weight_25 : decode cX6_weight 25 = .ok (.ireturn, 1) := by decide +kernel
theorem dX6_weight_26 : decode cX6_weight 26 = .ok (.aload_n 0, 1) := by decide +kernel
theorem dX6_weight_27 : decode cX6_weight 27 = .ok (.iload_n 1, 1) := by decide +kernel
theorem dX6_weight_28 : decode cX6_weight 28 = .ok (.invokevirtual 240, 3) := by decide +kernel
theorem dX6_weight_31 : decode cX6_weight 31 = .ok (.pop, 1) := by decide +kernel
theorem dX6_weight_32 : decode cX6_weight 32 = .ok (.aload_n 0, 1) := by decide +kernel
theorem dX6_weight_33 : decode cX6_weight 33 = .ok (.getfield 57, 3) := by decide +kernel
theorem dX6_weight_36 : decode cX6_weight 36 = .ok (.iload_n 2, 1) := by decide +kernel
theorem dX6_weight_37 : decode cX6_weight 37 = .ok (.iaload, 1) := by decide +kernel
theorem dX6_weight_38 : decode cX6_weight 38 = .ok (.ireturn, 1) := by decide +kernel
theorem dX6_sayers_0 : decode cX6_sayers 0 = .ok (.aload_n 0, 1) := by decide +kernel
theorem dX6_sayers_1 : decode cX6_sayers 1 = .ok (.iload_n 1, 1) := by decide +kernel
theorem dX6_sayers_2 : decode cX6_sayers 2 = .ok (.invokevirtual 84, 3) := by decide +kernel
theorem dX6_sayers_5 : decode cX6_sayers 5 = .ok (.ifCond .eq 11, 3) := by decide +kernel
theorem dX6_sayers_8 : decode cX6_sayers 8 = .ok (.aload_n 0, 1) := by decide +kernel
theorem dX6_sayers_9 : decode cX6_sayers 9 = .ok (.iload_n 1, 1) := by decide +kernel
theorem dX6_sayers_10 : decode cX6_sayers 10 = .ok (.invokevirtual 237, 3) := by decide +kernel
theorem dX6_sayers_13 : decode cX6_sayers 13 = .ok (.goto 4, 3) := by decide +kernel
theorem dX6_sayers_16 : decode cX6_sayers 16 = .ok (.iconst (-1), 1) := by decide +kernel
theorem dX6_sayers_17 : decode cX6_sayers 17 = .ok (.ireturn, 1) := by decide +kernel
theorem dX6_mark_0 : decode cX6_mark 0 = .ok (.aload_n 0, 1) := by decide +kernel
theorem dX6_mark_1 : decode cX6_mark 1 = .ok (.iload_n 1, 1) := by decide +kernel
theorem dX6_mark_2 : decode cX6_mark 2 = .ok (.invokevirtual 84, 3) := by decide +kernel
theorem dX6_mark_5 : decode cX6_mark 5 = .ok (.ifCond .eq 12, 3) := by decide +kernel
theorem dX6_mark_8 : decode cX6_mark 8 = .ok (.iload_n 2, 1) := by decide +kernel
theorem dX6_mark_9 : decode cX6_mark 9 = .ok (.iconst 0, 1) := by decide +kernel
theorem dX6_mark_10 : decode cX6_mark 10 = .ok (.iconst 1, 1) := by decide +kernel
theorem dX6_mark_11 : decode cX6_mark 11 = .ok (.invokestatic 76, 3) := by decide +kernel
theorem dX6_mark_14 : decode cX6_mark 14 = .ok (.ifCond .ne 5, 3) := by decide +kernel
theorem dX6_mark_17 : decode cX6_mark 17 = .ok (.iconst (-1), 1) := by decide +kernel
theorem dX6_mark_18 : decode cX6_mark 18 = .ok (.ireturn, 1) := by decide +kernel
theorem dX6_mark_19 : decode cX6_mark 19 = .ok (.aload_n 0, 1) := by decide +kernel
theorem dX6_mark_20 : decode cX6_mark 20 = .ok (.iload_n 1, 1) := by decide +kernel
theorem dX6_mark_21 : decode cX6_mark 21 = .ok (.invokevirtual 240, 3) := by decide +kernel
theorem dX6_mark_24 : decode cX6_mark 24 = .ok (.istore_n 3, 1) := by decide +kernel
theorem dX6_mark_25 : decode cX6_mark 25 = .ok (.iload_n 3, 1) := by decide +kernel
theorem dX6_mark_26 : decode cX6_mark 26 = .ok (.ifCond .ne 6, 3) := by decide +kernel
theorem dX6_mark_29 : decode cX6_mark 29 = .ok (.bipush (-4), 2) := by decide +kernel
theorem dX6_mark_31 : decode cX6_mark 31 = .ok (.ireturn, 1) := by decide +kernel
theorem dX6_mark_32 : decode cX6_mark 32 = .ok (.aload_n 0, 1) := by decide +kernel
theorem dX6_mark_33 : decode cX6_mark 33 = .ok (.invokevirtual 243, 3) := by decide +kernel
theorem dX6_mark_36 : decode cX6_mark 36 = .ok (.i2l, 1) := by decide +kernel
theorem dX6_mark_37 : decode cX6_mark 37 = .ok (.iload_n 3, 1) := by decide +kernel
theorem dX6_mark_38 : decode cX6_mark 38 = .ok (.i2l, 1) := by decide +kernel
theorem dX6_mark_39 : decode cX6_mark 39 = .ok (.iload_n 2, 1) := by decide +kernel
theorem dX6_mark_40 : decode cX6_mark 40 = .ok (.ifCond .ne 7, 3) := by decide +kernel
theorem dX6_mark_43 : decode cX6_mark 43 = .ok (.iconst 1, 1) := by decide +kernel
theorem dX6_mark_44 : decode cX6_mark 44 = .ok (.goto 4, 3) := by decide +kernel
theorem dX6_mark_47 : decode cX6_mark 47 = .ok (.iconst 0, 1) := by decide +kernel
theorem dX6_mark_48 : decode cX6_mark 48 = .ok (.invokestatic 247, 3) := by decide +kernel
theorem dX6_mark_51 : decode cX6_mark 51 = .ok (.l2i, 1) := by decide +kernel
theorem dX6_mark_52 : decode cX6_mark 52 = .ok (.ireturn, 1) := by decide +kernel
theorem dX6_span_0 : decode cX6_span 0 = .ok (.aload_n 0, 1) := by decide +kernel
theorem dX6_span_1 : decode cX6_span 1 = .ok (.iload_n 1, 1) := by decide +kernel
theorem dX6_span_2 : decode cX6_span 2 = .ok (.invokevirtual 84, 3) := by decide +kernel
theorem dX6_span_5 : decode cX6_span 5 = .ok (.ifCond .eq 21, 3) := by decide +kernel
theorem dX6_span_8 : decode cX6_span 8 = .ok (.iload_n 2, 1) := by decide +kernel
theorem dX6_span_9 : decode cX6_span 9 = .ok (.iconst 0, 1) := by decide +kernel
theorem dX6_span_10 : decode cX6_span 10 = .ok (.iconst 3, 1) := by decide +kernel
theorem dX6_span_11 : decode cX6_span 11 = .ok (.invokestatic 76, 3) := by decide +kernel
theorem dX6_span_14 : decode cX6_span 14 = .ok (.ifCond .eq 12, 3) := by decide +kernel
theorem dX6_span_17 : decode cX6_span 17 = .ok (.iload_n 3, 1) := by decide +kernel
theorem dX6_span_18 : decode cX6_span 18 = .ok (.iconst 0, 1) := by decide +kernel
theorem dX6_span_19 : decode cX6_span 19 = .ok (.iconst 3, 1) := by decide +kernel
theorem dX6_span_20 : decode cX6_span 20 = .ok (.invokestatic 76, 3) := by decide +kernel
theorem dX6_span_23 : decode cX6_span 23 = .ok (.ifCond .ne 5, 3) := by decide +kernel
theorem dX6_span_26 : decode cX6_span 26 = .ok (.iconst (-1), 1) := by decide +kernel
theorem dX6_span_27 : decode cX6_span 27 = .ok (.ireturn, 1) := by decide +kernel
theorem dX6_span_28 : decode cX6_span 28 = .ok (.aload_n 0, 1) := by decide +kernel
theorem dX6_span_29 : decode cX6_span 29 = .ok (.iload_n 1, 1) := by decide +kernel
theorem dX6_span_30 : decode cX6_span 30 = .ok (.invokevirtual 240, 3) := by decide +kernel
theorem dX6_span_33 : decode cX6_span 33 = .ok (.istore 4, 2) := by decide +kernel
theorem dX6_span_35 : decode cX6_span 35 = .ok (.iload 4, 2) := by decide +kernel
theorem dX6_span_37 : decode cX6_span 37 = .ok (.ifCond .ne 6, 3) := by decide +kernel
theorem dX6_span_40 : decode cX6_span 40 = .ok (.bipush (-4), 2) := by decide +kernel
theorem dX6_span_42 : decode cX6_span 42 = .ok (.ireturn, 1) := by decide +kernel
theorem dX6_span_43 : decode cX6_span 43 = .ok (.iload_n 3, 1) := by decide +kernel
theorem dX6_span_44 : decode cX6_span 44 = .ok (.iconst 2, 1) := by decide +kernel
theorem dX6_span_45 : decode cX6_span 45 = .ok (.if_icmp .lt 7, 3) := by decide +kernel
theorem dX6_span_48 : decode cX6_span 48 = .ok (.iconst 1, 1) := by decide +kernel
theorem dX6_span_49 : decode cX6_span 49 = .ok (.goto 4, 3) := by decide +kernel
theorem dX6_span_52 : decode cX6_span 52 = .ok (.iconst 0, 1) := by decide +kernel
theorem dX6_span_53 : decode cX6_span 53 = .ok (.istore 5, 2) := by decide +kernel
theorem dX6_span_55 : decode cX6_span 55 = .ok (.aload_n 0, 1) := by decide +kernel
theorem dX6_span_56 : decode cX6_span 56 = .ok (.iload_n 2, 1) := by decide +kernel
theorem dX6_span_57 : decode cX6_span 57 = .ok (.iload 5, 2) := by decide +kernel
theorem dX6_span_59 : decode cX6_span 59 = .ok (.invokevirtual 251, 3) := by decide +kernel
theorem dX6_span_62 : decode cX6_span 62 = .ok (.istore 6, 2) := by decide +kernel
theorem dX6_span_64 : decode cX6_span 64 = .ok (.iload 5, 2) := by decide +kernel
theorem dX6_span_66 : decode cX6_span 66 = .ok (.ifCond .eq 13, 3) := by decide +kernel
theorem dX6_span_69 : decode cX6_span 69 = .ok (.aload_n 0, 1) := by decide +kernel
theorem dX6_span_70 : decode cX6_span 70 = .ok (.invokevirtual 243, 3) := by decide +kernel
theorem dX6_span_73 : decode cX6_span 73 = .ok (.iload 6, 2) := by decide +kernel
theorem dX6_span_75 : decode cX6_span 75 = .ok (.iadd, 1) := by decide +kernel
theorem dX6_span_76 : decode cX6_span 76 = .ok (.goto 10, 3) := by decide +kernel
theorem dX6_span_79 : decode cX6_span 79 = .ok (.aload_n 0, 1) := by decide +kernel
theorem dX6_span_80 : decode cX6_span 80 = .ok (.invokevirtual 243, 3) := by decide +kernel
theorem dX6_span_83 : decode cX6_span 83 = .ok (.iload 6, 2) := by decide +kernel
theorem dX6_span_85 : decode cX6_span 85 = .ok (.isub, 1) := by decide +kernel
theorem dX6_span_86 : decode cX6_span 86 = .ok (.istore 7, 2) := by decide +kernel
theorem dX6_span_88 : decode cX6_span 88 = .ok (.iload 7, 2) := by decide +kernel
theorem dX6_span_90 : decode cX6_span 90 = .ok (.i2l, 1) := by decide +kernel
theorem dX6_span_91 : decode cX6_span 91 = .ok (.iload 4, 2) := by decide +kernel
theorem dX6_span_93 : decode cX6_span 93 = .ok (.i2l, 1) := by decide +kernel
theorem dX6_span_94 : decode cX6_span 94 = .ok (.iload_n 3, 1) := by decide +kernel
theorem dX6_span_95 : decode cX6_span 95 = .ok (.iconst 2, 1) := by decide +kernel
theorem dX6_span_96 : decode cX6_span 96 = .ok (.irem, 1) := by decide +kernel
theorem dX6_span_97 : decode cX6_span 97 = .ok (.ifCond .ne 7, 3) := by decide +kernel
theorem dX6_span_100 : decode cX6_span 100 = .ok (.iconst 1, 1) := by decide +kernel
theorem dX6_span_101 : decode cX6_span 101 = .ok (.goto 4, 3) := by decide +kernel
theorem dX6_span_104 : decode cX6_span 104 = .ok (.iconst 0, 1) := by decide +kernel
theorem dX6_span_105 : decode cX6_span 105 = .ok (.invokestatic 247, 3) := by decide +kernel
theorem dX6_span_108 : decode cX6_span 108 = .ok (.l2i, 1) := by decide +kernel
theorem dX6_span_109 : decode cX6_span 109 = .ok (.ireturn, 1) := by decide +kernel
theorem dX6_ring_0 : decode cX6_ring 0 = .ok (.aload_n 0, 1) := by decide +kernel
theorem dX6_ring_1 : decode cX6_ring 1 = .ok (.iload_n 1, 1) := by decide +kernel
theorem dX6_ring_2 : decode cX6_ring 2 = .ok (.invokevirtual 196, 3) := by decide +kernel
theorem dX6_ring_5 : decode cX6_ring 5 = .ok (.ifCond .ne 5, 3) := by decide +kernel
theorem dX6_ring_8 : decode cX6_ring 8 = .ok (.iconst (-1), 1) := by decide +kernel
theorem dX6_ring_9 : decode cX6_ring 9 = .ok (.ireturn, 1) := by decide +kernel
theorem dX6_ring_10 : decode cX6_ring 10 = .ok (.iload_n 2, 1) := by decide +kernel
theorem dX6_ring_11 : decode cX6_ring 11 = .ok (.tableswitch 60 0 3 #[29, 37, 44, 53], 29) := by decide +kernel
theorem dX6_ring_40 : decode cX6_ring 40 = .ok (.aload_n 0, 1) := by decide +kernel
theorem dX6_ring_41 : decode cX6_ring 41 = .ok (.getfield 26, 3) := by decide +kernel
theorem dX6_ring_44 : decode cX6_ring 44 = .ok (.getfield 255, 3) := by decide +kernel
theorem dX6_ring_47 : decode cX6_ring 47 = .ok (.ireturn, 1) := by decide +kernel
theorem dX6_ring_48 : decode cX6_ring 48 = .ok (.aload_n 0, 1) := by decide +kernel
theorem dX6_ring_49 : decode cX6_ring 49 = .ok (.iload_n 1, 1) := by decide +kernel
theorem dX6_ring_50 : decode cX6_ring 50 = .ok (.iconst 0, 1) := by decide +kernel
theorem dX6_ring_51 : decode cX6_ring 51 = .ok (.invokevirtual 256, 3) := by decide +kernel
theorem dX6_ring_54 : decode cX6_ring 54 = .ok (.ireturn, 1) := by decide +kernel
theorem dX6_ring_55 : decode cX6_ring 55 = .ok (.aload_n 0, 1) := by decide +kernel
theorem dX6_ring_56 : decode cX6_ring 56 = .ok (.sipush 4095, 3) := by decide +kernel
theorem dX6_ring_59 : decode cX6_ring 59 = .ok (.iconst 1, 1) := by decide +kernel
theorem dX6_ring_60 : decode cX6_ring 60 = .ok (.invokevirtual 256, 3) := by decide +kernel
theorem dX6_ring_63 : decode cX6_ring 63 = .ok (.ireturn, 1) := by decide +kernel
theorem dX6_ring_64 : decode cX6_ring 64 = .ok (.aload_n 0, 1) := by decide +kernel
theorem dX6_ring_65 : decode cX6_ring 65 = .ok (.iload_n 1, 1) := by decide +kernel
theorem dX6_ring_66 : decode cX6_ring 66 = .ok (.iconst 1, 1) := by decide +kernel
theorem dX6_ring_67 : decode cX6_ring 67 = .ok (.invokevirtual 256, 3) := by decide +kernel
theorem dX6_ring_70 : decode cX6_ring 70 = .ok (.ireturn, 1) := by decide +kernel
theorem dX6_ring_71 : decode cX6_ring 71 = .ok (.iconst (-1), 1) := by decide +kernel
theorem dX6_ring_72 : decode cX6_ring 72 = .ok (.ireturn, 1) := by decide +kernel
theorem dX6_odds_0 : decode cX6_odds 0 = .ok (.aload_n 0, 1) := by decide +kernel
theorem dX6_odds_1 : decode cX6_odds 1 = .ok (.iload_n 1, 1) := by decide +kernel
theorem dX6_odds_2 : decode cX6_odds 2 = .ok (.invokevirtual 196, 3) := by decide +kernel
theorem dX6_odds_5 : decode cX6_odds 5 = .ok (.ifCond .eq 12, 3) := by decide +kernel
theorem dX6_odds_8 : decode cX6_odds 8 = .ok (.iload_n 2, 1) := by decide +kernel
theorem dX6_odds_9 : decode cX6_odds 9 = .ok (.iconst 0, 1) := by decide +kernel
theorem dX6_odds_10 : decode cX6_odds 10 = .ok (.iconst 1, 1) := by decide +kernel
theorem dX6_odds_11 : decode cX6_odds 11 = .ok (.invokestatic 76, 3) := by decide +kernel
theorem dX6_odds_14 : decode cX6_odds 14 = .ok (.ifCond .ne 7, 3) := by decide +kernel
theorem dX6_odds_17 : decode cX6_odds 17 = .ok (.ldc2_w 259, 3) := by decide +kernel
theorem dX6_odds_20 : decode cX6_odds 20 = .ok (.lreturn, 1) := by decide +kernel
theorem dX6_odds_21 : decode cX6_odds 21 = .ok (.aload_n 0, 1) := by decide +kernel
theorem dX6_odds_22 : decode cX6_odds 22 = .ok (.sipush 4095, 3) := by decide +kernel
theorem dX6_odds_25 : decode cX6_odds 25 = .ok (.iconst 1, 1) := by decide +kernel
theorem dX6_odds_26 : decode cX6_odds 26 = .ok (.invokevirtual 256, 3) := by decide +kernel
theorem dX6_odds_29 : decode cX6_odds 29 = .ok (.istore_n 3, 1) := by decide +kernel
theorem dX6_odds_30 : decode cX6_odds 30 = .ok (.aload_n 0, 1) := by decide +kernel
theorem dX6_odds_31 : decode cX6_odds 31 = .ok (.iload_n 1, 1) := by decide +kernel
theorem dX6_odds_32 : decode cX6_odds 32 = .ok (.iload_n 3, 1) := by decide +kernel
theorem dX6_odds_33 : decode cX6_odds 33 = .ok (.invokevirtual 261, 3) := by decide +kernel
theorem dX6_odds_36 : decode cX6_odds 36 = .ok (.aload_n 0, 1) := by decide +kernel
theorem dX6_odds_37 : decode cX6_odds 37 = .ok (.getfield 26, 3) := by decide +kernel
theorem dX6_odds_40 : decode cX6_odds 40 = .ok (.getfield 255, 3) := by decide +kernel
theorem dX6_odds_43 : decode cX6_odds 43 = .ok (.iload_n 3, 1) := by decide +kernel
theorem dX6_odds_44 : decode cX6_odds 44 = .ok (.invokestatic 265, 3) := by decide +kernel
theorem dX6_odds_47 : decode cX6_odds 47 = .ok (.iload_n 2, 1) := by decide +kernel
theorem dX6_odds_48 : decode cX6_odds 48 = .ok (.ifCond .ne 7, 3) := by decide +kernel
theorem dX6_odds_51 : decode cX6_odds 51 = .ok (.iconst 1, 1) := by decide +kernel
theorem dX6_odds_52 : decode cX6_odds 52 = .ok (.goto 4, 3) := by decide +kernel
theorem dX6_odds_55 : decode cX6_odds 55 = .ok (.iconst 0, 1) := by decide +kernel
theorem dX6_odds_56 : decode cX6_odds 56 = .ok (.invokestatic 247, 3) := by decide +kernel
theorem dX6_odds_59 : decode cX6_odds 59 = .ok (.lreturn, 1) := by decide +kernel
theorem dX6_oddest_0 : decode cX6_oddest 0 = .ok (.iload_n 1, 1) := by decide +kernel
theorem dX6_oddest_1 : decode cX6_oddest 1 = .ok (.iconst 0, 1) := by decide +kernel
theorem dX6_oddest_2 : decode cX6_oddest 2 = .ok (.iconst 2, 1) := by decide +kernel
theorem dX6_oddest_3 : decode cX6_oddest 3 = .ok (.invokestatic 76, 3) := by decide +kernel
theorem dX6_oddest_6 : decode cX6_oddest 6 = .ok (.ifCond .ne 7, 3) := by decide +kernel
theorem dX6_oddest_9 : decode cX6_oddest 9 = .ok (.ldc2_w 259, 3) := by decide +kernel
theorem dX6_oddest_12 : decode cX6_oddest 12 = .ok (.lreturn, 1) := by decide +kernel
theorem dX6_oddest_13 : decode cX6_oddest 13 = .ok (.aload_n 0, 1) := by decide +kernel
theorem dX6_oddest_14 : decode cX6_oddest 14 = .ok (.sipush 4095, 3) := by decide +kernel
theorem dX6_oddest_17 : decode cX6_oddest 17 = .ok (.iconst 1, 1) := by decide +kernel
theorem dX6_oddest_18 : decode cX6_oddest 18 = .ok (.invokevirtual 256, 3) := by decide +kernel
theorem dX6_oddest_21 : decode cX6_oddest 21 = .ok (.istore_n 2, 1) := by decide +kernel
theorem dX6_oddest_22 : decode cX6_oddest 22 = .ok (.aload_n 0, 1) := by decide +kernel
theorem dX6_oddest_23 : decode cX6_oddest 23 = .ok (.getfield 26, 3) := by decide +kernel
theorem dX6_oddest_26 : decode cX6_oddest 26 = .ok (.getfield 255, 3) := by decide +kernel
theorem dX6_oddest_29 : decode cX6_oddest 29 = .ok (.iload_n 2, 1) := by decide +kernel
theorem dX6_oddest_30 : decode cX6_oddest 30 = .ok (.invokestatic 265, 3) := by decide +kernel
theorem dX6_oddest_33 : decode cX6_oddest 33 = .ok (.lstore_n 3, 1) := by decide +kernel
theorem dX6_oddest_34 : decode cX6_oddest 34 = .ok (.lload_n 3, 1) := by decide +kernel
theorem dX6_oddest_35 : decode cX6_oddest 35 = .ok (.lstore 5, 2) := by decide +kernel
theorem dX6_oddest_37 : decode cX6_oddest 37 = .ok (.iconst 0, 1) := by decide +kernel
theorem dX6_oddest_38 : decode cX6_oddest 38 = .ok (.istore 7, 2) := by decide +kernel
theorem dX6_oddest_40 : decode cX6_oddest 40 = .ok (.iconst 0, 1) := by decide +kernel
theorem dX6_oddest_41 : decode cX6_oddest 41 = .ok (.istore 8, 2) := by decide +kernel
theorem dX6_oddest_43 : decode cX6_oddest 43 = .ok (.iload 8, 2) := by decide +kernel
theorem dX6_oddest_45 : decode cX6_oddest 45 = .ok (.iconst 1, 1) := by decide +kernel
theorem dX6_oddest_46 : decode cX6_oddest 46 = .ok (.aload_n 0, 1) := by decide +kernel
theorem dX6_oddest_47 : decode cX6_oddest 47 = .ok (.getfield 12, 3) := by decide +kernel
theorem dX6_oddest_50 : decode cX6_oddest 50 = .ok (.getfield 161, 3) := by decide +kernel
theorem dX6_oddest_53 : decode cX6_oddest 53 = .ok (.ishl, 1) := by decide +kernel
theorem dX6_oddest_54 : decode cX6_oddest 54 = .ok (.if_icmp .ge 50, 3) := by decide +kernel
theorem dX6_oddest_57 : decode cX6_oddest 57 = .ok (.iload 8, 2) := by decide +kernel
theorem dX6_oddest_59 : decode cX6_oddest 59 = .ok (.invokestatic 171, 3) := by decide +kernel
theorem dX6_oddest_62 : decode cX6_oddest 62 = .ok (.iconst 3, 1) := by decide +kernel
theorem dX6_oddest_63 : decode cX6_oddest 63 = .ok (.iconst 4, 1) := by decide +kernel
theorem dX6_oddest_64 : decode cX6_oddest 64 = .ok (.invokestatic 76, 3) := by decide +kernel
theorem dX6_oddest_67 : decode cX6_oddest 67 = .ok (.ifCond .ne 6, 3) := by decide +kernel
theorem dX6_oddest_70 : decode cX6_oddest 70 = .ok (.goto 28, 3) := by decide +kernel
theorem dX6_oddest_73 : decode cX6_oddest 73 = .ok (.aload_n 0, 1) := by decide +kernel
theorem dX6_oddest_74 : decode cX6_oddest 74 = .ok (.iload 8, 2) := by decide +kernel
theorem dX6_oddest_76 : decode cX6_oddest 76 = .ok (.iload_n 2, 1) := by decide +kernel
theorem dX6_oddest_77 : decode cX6_oddest 77 = .ok (.invokevirtual 261, 3) := by decide +kernel
theorem dX6_oddest_80 : decode cX6_oddest 80 = .ok (.lstore 9, 2) := by decide +kernel
theorem dX6_oddest_82 : decode cX6_oddest 82 = .ok (.lload 9, 2) := by decide +kernel
theorem dX6_oddest_84 : decode cX6_oddest 84 = .ok (.lload 5, 2) := by decide +kernel
theorem dX6_oddest_86 : decode cX6_oddest 86 = .ok (.lcmp, 1) := by decide +kernel
theorem dX6_oddest_87 : decode cX6_oddest 87 = .ok (.ifCond .ge 11, 3) := by decide +kernel
theorem dX6_oddest_90 : decode cX6_oddest 90 = .ok (.lload 9, 2) := by decide +kernel
theorem dX6_oddest_92 : decode cX6_oddest 92 = .ok (.lstore 5, 2) := by decide +kernel
theorem dX6_oddest_94 : decode cX6_oddest 94 = .ok (.iload 8, 2) := by decide +kernel
theorem dX6_oddest_96 : decode cX6_oddest 96 = .ok (.istore 7, 2) := by decide +kernel
theorem dX6_oddest_98 : decode cX6_oddest 98 = .ok (.iinc 8 1, 3) := by decide +kernel
theorem dX6_oddest_101 : decode cX6_oddest 101 = .ok (.goto (-58), 3) := by decide +kernel
theorem dX6_oddest_104 : decode cX6_oddest 104 = .ok (.iload 7, 2) := by decide +kernel
theorem dX6_oddest_106 : decode cX6_oddest 106 = .ok (.ifCond .ne 7, 3) := by decide +kernel
theorem dX6_oddest_109 : decode cX6_oddest 109 = .ok (.ldc2_w 268, 3) := by decide +kernel
theorem dX6_oddest_112 : decode cX6_oddest 112 = .ok (.lreturn, 1) := by decide +kernel
theorem dX6_oddest_113 : decode cX6_oddest 113 = .ok (.iload_n 1, 1) := by decide +kernel
theorem dX6_oddest_114 : decode cX6_oddest 114 = .ok (.ifCond .ne 9, 3) := by decide +kernel
theorem dX6_oddest_117 : decode cX6_oddest 117 = .ok (.iload 7, 2) := by decide +kernel
theorem dX6_oddest_119 : decode cX6_oddest 119 = .ok (.i2l, 1) := by decide +kernel
theorem dX6_oddest_120 : decode cX6_oddest 120 = .ok (.goto 19, 3) := by decide +kernel
theorem dX6_oddest_123 : decode cX6_oddest 123 = .ok (.lload 5, 2) := by decide +kernel
theorem dX6_oddest_125 : decode cX6_oddest 125 = .ok (.lload_n 3, 1) := by decide +kernel
theorem dX6_oddest_126 : decode cX6_oddest 126 = .ok (.iload_n 1, 1) := by decide +kernel
theorem dX6_oddest_127 : decode cX6_oddest 127 = .ok (.iconst 1, 1) := by decide +kernel
theorem dX6_oddest_128 : decode cX6_oddest 128 = .ok (.if_icmp .ne 7, 3) := by decide +kernel
theorem dX6_oddest_131 : decode cX6_oddest 131 = .ok (.iconst 1, 1) := by decide +kernel
theorem dX6_oddest_132 : decode cX6_oddest 132 = .ok (.goto 4, 3) := by decide +kernel
theorem dX6_oddest_135 : decode cX6_oddest 135 = .ok (.iconst 0, 1) := by decide +kernel
theorem dX6_oddest_136 : decode cX6_oddest 136 = .ok (.invokestatic 247, 3) := by decide +kernel
theorem dX6_oddest_139 : decode cX6_oddest 139 = .ok (.lreturn, 1) := by decide +kernel
theorem dX6_gain_0 : decode cX6_gain 0 = .ok (.aload_n 0, 1) := by decide +kernel
theorem dX6_gain_1 : decode cX6_gain 1 = .ok (.iload_n 1, 1) := by decide +kernel
theorem dX6_gain_2 : decode cX6_gain 2 = .ok (.invokevirtual 196, 3) := by decide +kernel
theorem dX6_gain_5 : decode cX6_gain 5 = .ok (.ifCond .eq 22, 3) := by decide +kernel
theorem dX6_gain_8 : decode cX6_gain 8 = .ok (.iload_n 2, 1) := by decide +kernel
theorem dX6_gain_9 : decode cX6_gain 9 = .ok (.iload_n 3, 1) := by decide +kernel
theorem dX6_gain_10 : decode cX6_gain 10 = .ok (.invokestatic 270, 3) := by decide +kernel
theorem dX6_gain_13 : decode cX6_gain 13 = .ok (.ifCond .eq 14, 3) := by decide +kernel
theorem dX6_gain_16 : decode cX6_gain 16 = .ok (.iload_n 1, 1) := by decide +kernel
theorem dX6_gain_17 : decode cX6_gain 17 = .ok (.aload_n 0, 1) := by decide +kernel
theorem dX6_gain_18 : decode cX6_gain 18 = .ok (.invokevirtual 273, 3) := by decide +kernel
theorem dX6_gain_21 : decode cX6_gain 21 = .ok (.iconst (-1), 1) := by decide +kernel
theorem dX6_gain_22 : decode cX6_gain 22 = .ok (.ixor, 1) := by decide +kernel
theorem dX6_gain_23 : decode cX6_gain 23 = .ok (.iand, 1) := by decide +kernel
theorem dX6_gain_24 : decode cX6_gain 24 = .ok (.ifCond .eq 7, 3) := by decide +kernel
theorem dX6_gain_27 : decode cX6_gain 27 = .ok (.ldc_w 276, 3) := by decide +kernel
theorem dX6_gain_30 : decode cX6_gain 30 = .ok (.ireturn, 1) := by decide +kernel
theorem dX6_gain_31 : decode cX6_gain 31 = .ok (.aload_n 0, 1) := by decide +kernel
theorem dX6_gain_32 : decode cX6_gain 32 = .ok (.invokevirtual 190, 3) := by decide +kernel
theorem dX6_gain_35 : decode cX6_gain 35 = .ok (.aload_n 0, 1) := by decide +kernel
theorem dX6_gain_36 : decode cX6_gain 36 = .ok (.iload_n 1, 1) := by decide +kernel
theorem dX6_gain_37 : decode cX6_gain 37 = .ok (.aload_n 0, 1) := by decide +kernel
theorem dX6_gain_38 : decode cX6_gain 38 = .ok (.iload_n 2, 1) := by decide +kernel
theorem dX6_gain_39 : decode cX6_gain 39 = .ok (.invokevirtual 277, 3) := by decide +kernel
theorem dX6_gain_42 : decode cX6_gain 42 = .ok (.iload_n 3, 1) := by decide +kernel
theorem dX6_gain_43 : decode cX6_gain 43 = .ok (.invokevirtual 280, 3) := by decide +kernel
theorem dX6_gain_46 : decode cX6_gain 46 = .ok (.ireturn, 1) := by decide +kernel
theorem dX6_best_0 : decode cX6_best 0 = .ok (.iload_n 1, 1) := by decide +kernel
theorem dX6_best_1 : decode cX6_best 1 = .ok (.iload_n 2, 1) := by decide +kernel
theorem dX6_best_2 : decode cX6_best 2 = .ok (.invokestatic 270, 3) := by decide +kernel
theorem dX6_best_5 : decode cX6_best 5 = .ok (.ifCond .eq 12, 3) := by decide +kernel
theorem dX6_best_8 : decode cX6_best 8 = .ok (.iload_n 3, 1) := by decide +kernel
theorem dX6_best_9 : decode cX6_best 9 = .ok (.iconst 0, 1) := by decide +kernel
theorem dX6_best_10 : decode cX6_best 10 = .ok (.iconst 1, 1) := by decide +kernel
theorem dX6_best_11 : decode cX6_best 11 = .ok (.invokestatic 76, 3) := by decide +kernel
theorem dX6_best_14 : decode cX6_best 14 = .ok (.ifCond .ne 5, 3) := by decide +kernel
theorem dX6_best_17 : decode cX6_best 17 = .ok (.iconst (-1), 1) := by decide +kernel
theorem dX6_best_18 : decode cX6_best 18 = .ok (.ireturn, 1) := by decide +kernel
theorem dX6_best_19 : decode cX6_best 19 = .ok (.aload_n 0, 1) := by decide +kernel
theorem dX6_best_20 : decode cX6_best 20 = .ok (.invokevirtual 273, 3) := by decide +kernel
theorem dX6_best_23 : decode cX6_best 23 = .ok (.istore 4, 2) := by decide +kernel
theorem dX6_best_25 : decode cX6_best 25 = .ok (.iload 4, 2) := by decide +kernel
theorem dX6_best_27 : decode cX6_best 27 = .ok (.invokestatic 171, 3) := by decide +kernel
theorem dX6_best_30 : decode cX6_best 30 = .ok (.bipush 8, 2) := by decide +kernel
theorem dX6_best_32 : decode cX6_best 32 = .ok (.if_icmp .le 6, 3) := by decide +kernel
theorem dX6_best_35 : decode cX6_best 35 = .ok (.bipush (-2), 2) := by decide +kernel
theorem dX6_best_37 : decode cX6_best 37 = .ok (.ireturn, 1) := by decide +kernel
theorem dX6_best_38 : decode cX6_best 38 = .ok (.aload_n 0, 1) := by decide +kernel
theorem dX6_best_39 : decode cX6_best 39 = .ok (.invokevirtual 190, 3) := by decide +kernel
theorem dX6_best_42 : decode cX6_best 42 = .ok (.aload_n 0, 1) := by decide +kernel
theorem dX6_best_43 : decode cX6_best 43 = .ok (.iload_n 1, 1) := by decide +kernel
theorem dX6_best_44 : decode cX6_best 44 = .ok (.invokevirtual 277, 3) := by decide +kernel
theorem dX6_best_47 : decode cX6_best 47 = .ok (.istore 5, 2) := by decide +kernel
theorem dX6_best_49 : decode cX6_best 49 = .ok (.iconst 0, 1) := by decide +kernel
theorem dX6_best_50 : decode cX6_best 50 = .ok (.istore 6, 2) := by decide +kernel
theorem dX6_best_52 : decode cX6_best 52 = .ok (.iconst 0, 1) := by decide +kernel
theorem dX6_best_53 : decode cX6_best 53 = .ok (.istore 7, 2) := by decide +kernel
theorem dX6_best_55 : decode cX6_best 55 = .ok (.iconst 1, 1) := by decide +kernel
theorem dX6_best_56 : decode cX6_best 56 = .ok (.istore 8, 2) := by decide +kernel
theorem dX6_best_58 : decode cX6_best 58 = .ok (.iload 8, 2) := by decide +kernel
theorem dX6_best_60 : decode cX6_best 60 = .ok (.iconst 1, 1) := by decide +kernel
theorem dX6_best_61 : decode cX6_best 61 = .ok (.aload_n 0, 1) := by decide +kernel
theorem dX6_best_62 : decode cX6_best 62 = .ok (.getfield 12, 3) := by decide +kernel
theorem dX6_best_65 : decode cX6_best 65 = .ok (.getfield 161, 3) := by decide +kernel
theorem dX6_best_68 : decode cX6_best 68 = .ok (.ishl, 1) := by decide +kernel
theorem dX6_best_69 : decode cX6_best 69 = .ok (.if_icmp .ge 49, 3) := by decide +kernel
theorem dX6_best_72 : decode cX6_best 72 = .ok (.iload 8, 2) := by decide +kernel
theorem dX6_best_74 : decode cX6_best 74 = .ok (.iload 4, 2) := by decide +kernel
theorem dX6_best_76 : decode cX6_best 76 = .ok (.iconst (-1), 1) := by decide +kernel
theorem dX6_best_77 : decode cX6_best 77 = .ok (.ixor, 1) := by decide +kernel
theorem dX6_best_78 : decode cX6_best 78 = .ok (.iand, 1) := by decide +kernel
theorem dX6_best_79 : decode cX6_best 79 = .ok (.ifCond .ne 15, 3) := by decide +kernel
theorem dX6_best_82 : decode cX6_best 82 = .ok (.aload_n 0, 1) := by decide +kernel
theorem dX6_best_83 : decode cX6_best 83 = .ok (.iload 8, 2) := by decide +kernel
theorem dX6_best_85 : decode cX6_best 85 = .ok (.iload 5, 2) := by decide +kernel
theorem dX6_best_87 : decode cX6_best 87 = .ok (.iload_n 2, 1) := by decide +kernel
theorem dX6_best_88 : decode cX6_best 88 = .ok (.invokevirtual 280, 3) := by decide +kernel
theorem dX6_best_91 : decode cX6_best 91 = .ok (.goto 4, 3) := by decide +kernel
theorem dX6_best_94 : decode cX6_best 94 = .ok (.iconst 0, 1) := by decide +kernel
theorem dX6_best_95 : decode cX6_best 95 = .ok (.istore 9, 2) := by decide +kernel
theorem dX6_best_97 : decode cX6_best 97 = .ok (.iload 9, 2) := by decide +kernel
theorem dX6_best_99 : decode cX6_best 99 = .ok (.iload 6, 2) := by decide +kernel
theorem dX6_best_101 : decode cX6_best 101 = .ok (.if_icmp .le 11, 3) := by decide +kernel
theorem dX6_best_104 : decode cX6_best 104 = .ok (.iload 9, 2) := by decide +kernel
theorem dX6_best_106 : decode cX6_best 106 = .ok (.istore 6, 2) := by decide +kernel
theorem dX6_best_108 : decode cX6_best 108 = .ok (.iload 8, 2) := by decide +kernel
theorem dX6_best_110 : decode cX6_best 110 = .ok (.istore 7, 2) := by decide +kernel
theorem dX6_best_112 : decode cX6_best 112 = .ok (.iinc 8 1, 3) := by decide +kernel
theorem dX6_best_115 : decode cX6_best 115 = .ok (.goto (-57), 3) := by decide +kernel
theorem dX6_best_118 : decode cX6_best 118 = .ok (.iload_n 3, 1) := by decide +kernel
theorem dX6_best_119 : decode cX6_best 119 = .ok (.ifCond .ne 8, 3) := by decide +kernel
theorem dX6_best_122 : decode cX6_best 122 = .ok (.iload 6, 2) := by decide +kernel
theorem dX6_best_124 : decode cX6_best 124 = .ok (.goto 5, 3) := by decide +kernel
theorem dX6_best_127 : decode cX6_best 127 = .ok (.iload 7, 2) := by decide +kernel
theorem dX6_best_129 : decode cX6_best 129 = .ok (.ireturn, 1) := by decide +kernel
theorem dX6_sheet_0 : decode cX6_sheet 0 = .ok (.iload_n 1, 1) := by decide +kernel
theorem dX6_sheet_1 : decode cX6_sheet 1 = .ok (.invokestatic 284, 3) := by decide +kernel
theorem dX6_sheet_4 : decode cX6_sheet 4 = .ok (.ifCond .eq 16, 3) := by decide +kernel
theorem dX6_sheet_7 : decode cX6_sheet 7 = .ok (.iload_n 2, 1) := by decide +kernel
theorem dX6_sheet_8 : decode cX6_sheet 8 = .ok (.invokestatic 287, 3) := by decide +kernel
theorem dX6_sheet_11 : decode cX6_sheet 11 = .ok (.ifCond .eq 9, 3) := by decide +kernel
theorem dX6_sheet_14 : decode cX6_sheet 14 = .ok (.iload_n 3, 1) := by decide +kernel
theorem dX6_sheet_15 : decode cX6_sheet 15 = .ok (.bipush 48, 2) := by decide +kernel
theorem dX6_sheet_17 : decode cX6_sheet 17 = .ok (.if_icmp .le 5, 3) := by decide +kernel
theorem dX6_sheet_20 : decode cX6_sheet 20 = .ok (.iconst (-1), 1) := by decide +kernel
theorem dX6_sheet_21 : decode cX6_sheet 21 = .ok (.ireturn, 1) := by decide +kernel
theorem dX6_sheet_22 : decode cX6_sheet 22 = .ok (.iload_n 3, 1) := by decide +kernel
theorem dX6_sheet_23 : decode cX6_sheet 23 = .ok (.ifCond .ge 6, 3) := by decide +kernel
theorem dX6_sheet_26 : decode cX6_sheet 26 = .ok (.bipush (-14), 2) := by decide +kernel
theorem dX6_sheet_28 : decode cX6_sheet 28 = .ok (.ireturn, 1) := by decide +kernel
theorem dX6_sheet_29 : decode cX6_sheet 29 = .ok (.aload_n 0, 1) := by decide +kernel
theorem dX6_sheet_30 : decode cX6_sheet 30 = .ok (.getfield 46, 3) := by decide +kernel
theorem dX6_sheet_33 : decode cX6_sheet 33 = .ok (.iload_n 1, 1) := by decide +kernel
theorem dX6_sheet_34 : decode cX6_sheet 34 = .ok (.aaload, 1) := by decide +kernel
theorem dX6_sheet_35 : decode cX6_sheet 35 = .ok (.iload_n 2, 1) := by decide +kernel
theorem dX6_sheet_36 : decode cX6_sheet 36 = .ok (.iload_n 3, 1) := by decide +kernel
theorem dX6_sheet_37 : decode cX6_sheet 37 = .ok (.invokevirtual 290, 3) := by decide +kernel
theorem dX6_sheet_40 : decode cX6_sheet 40 = .ok (.iconst 1, 1) := by decide +kernel
theorem dX6_sheet_41 : decode cX6_sheet 41 = .ok (.ireturn, 1) := by decide +kernel
theorem dX6_lay_0 : decode cX6_lay 0 = .ok (.iload_n 1, 1) := by decide +kernel
theorem dX6_lay_1 : decode cX6_lay 1 = .ok (.invokestatic 284, 3) := by decide +kernel
theorem dX6_lay_4 : decode cX6_lay 4 = .ok (.ifCond .ne 5, 3) := by decide +kernel
theorem dX6_lay_7 : decode cX6_lay 7 = .ok (.iconst (-1), 1) := by decide +kernel
theorem dX6_lay_8 : decode cX6_lay 8 = .ok (.ireturn, 1) := by decide +kernel
theorem dX6_lay_9 : decode cX6_lay 9 = .ok (.aload_n 0, 1) := by decide +kernel
theorem dX6_lay_10 : decode cX6_lay 10 = .ok (.getfield 46, 3) := by decide +kernel
theorem dX6_lay_13 : decode cX6_lay 13 = .ok (.iload_n 1, 1) := by decide +kernel
theorem dX6_lay_14 : decode cX6_lay 14 = .ok (.aaload, 1) := by decide +kernel
theorem dX6_lay_15 : decode cX6_lay 15 = .ok (.iload_n 2, 1) := by decide +kernel
theorem dX6_lay_16 : decode cX6_lay 16 = .ok (.invokevirtual 294, 3) := by decide +kernel
theorem dX6_lay_19 : decode cX6_lay 19 = .ok (.istore 4, 2) := by decide +kernel
theorem dX6_lay_21 : decode cX6_lay 21 = .ok (.iload 4, 2) := by decide +kernel
theorem dX6_lay_23 : decode cX6_lay 23 = .ok (.ifCond .eq 9, 3) := by decide +kernel
theorem dX6_lay_26 : decode cX6_lay 26 = .ok (.bipush (-10), 2) := by decide +kernel
theorem dX6_lay_28 : decode cX6_lay 28 = .ok (.iload 4, 2) := by decide +kernel
theorem dX6_lay_30 : decode cX6_lay 30 = .ok (.isub, 1) := by decide +kernel
theorem dX6_lay_31 : decode cX6_lay 31 = .ok (.ireturn, 1) := by decide +kernel
theorem dX6_lay_32 : decode cX6_lay 32 = .ok (.aload_n 0, 1) := by decide +kernel
theorem dX6_lay_33 : decode cX6_lay 33 = .ok (.getfield 46, 3) := by decide +kernel
theorem dX6_lay_36 : decode cX6_lay 36 = .ok (.iload_n 1, 1) := by decide +kernel
theorem dX6_lay_37 : decode cX6_lay 37 = .ok (.aaload, 1) := by decide +kernel
theorem dX6_lay_38 : decode cX6_lay 38 = .ok (.iload_n 2, 1) := by decide +kernel
theorem dX6_lay_39 : decode cX6_lay 39 = .ok (.iload_n 3, 1) := by decide +kernel
theorem dX6_lay_40 : decode cX6_lay 40 = .ok (.invokevirtual 297, 3) := by decide +kernel
theorem dX6_lay_43 : decode cX6_lay 43 = .ok (.iconst 1, 1) := by decide +kernel
theorem dX6_lay_44 : decode cX6_lay 44 = .ok (.ireturn, 1) := by decide +kernel
theorem dX6_read_0 : decode cX6_read 0 = .ok (.iload_n 1, 1) := by decide +kernel
theorem dX6_read_1 : decode cX6_read 1 = .ok (.invokestatic 284, 3) := by decide +kernel
theorem dX6_read_4 : decode cX6_read 4 = .ok (.ifCond .eq 21, 3) := by decide +kernel
theorem dX6_read_7 : decode cX6_read 7 = .ok (.iload_n 2, 1) := by decide +kernel
theorem dX6_read_8 : decode cX6_read 8 = .ok (.invokestatic 287, 3) := by decide +kernel
theorem dX6_read_11 : decode cX6_read 11 = .ok (.ifCond .eq 14, 3) := by decide +kernel
theorem dX6_read_14 : decode cX6_read 14 = .ok (.iload 4, 2) := by decide +kernel
theorem dX6_read_16 : decode cX6_read 16 = .ok (.iconst 0, 1) := by decide +kernel
theorem dX6_read_17 : decode cX6_read 17 = .ok (.bipush 12, 2) := by decide +kernel
theorem dX6_read_19 : decode cX6_read 19 = .ok (.invokestatic 76, 3) := by decide +kernel
theorem dX6_read_22 : decode cX6_read 22 = .ok (.ifCond .ne 5, 3) := by decide +kernel
theorem dX6_read_25 : decode cX6_read 25 = .ok (.iconst (-1), 1) := by decide +kernel
theorem dX6_read_26 : decode cX6_read 26 = .ok (.ireturn, 1) := by decide +kernel
theorem dX6_read_27 : decode cX6_read 27 = .ok (.aload_n 0, 1) := by decide +kernel
theorem dX6_read_28 : decode cX6_read 28 = .ok (.getfield 46, 3) := by decide +kernel
theorem dX6_read_31 : decode cX6_read 31 = .ok (.iload_n 1, 1) := by decide +kernel
theorem dX6_read_32 : decode cX6_read 32 = .ok (.aaload, 1) := by decide +kernel
theorem dX6_read_33 : decode cX6_read 33 = .ok (.astore 5, 2) := by decide +kernel
theorem dX6_read_35 : decode cX6_read 35 = .ok (.aload 5, 2) := by decide +kernel
theorem dX6_read_37 : decode cX6_read 37 = .ok (.iload_n 2, 1) := by decide +kernel
theorem dX6_read_38 : decode cX6_read 38 = .ok (.iload_n 3, 1) := by decide +kernel
theorem dX6_read_39 : decode cX6_read 39 = .ok (.iload 4, 2) := by decide +kernel
theorem dX6_read_41 : decode cX6_read 41 = .ok (.invokevirtual 300, 3) := by decide +kernel
theorem dX6_read_44 : decode cX6_read 44 = .ok (.istore 6, 2) := by decide +kernel
theorem dX6_read_46 : decode cX6_read 46 = .ok (.iconst 0, 1) := by decide +kernel
theorem dX6_read_47 : decode cX6_read 47 = .ok (.istore 7, 2) := by decide +kernel
theorem dX6_read_49 : decode cX6_read 49 = .ok (.iload 7, 2) := by decide +kernel
theorem dX6_read_51 : decode cX6_read 51 = .ok (.iload 6, 2) := by decide +kernel
theorem dX6_read_53 : decode cX6_read 53 = .ok (.if_icmp .ge 86, 3) := by decide +kernel
theorem dX6_read_56 : decode cX6_read 56 = .ok (.iload_n 3, 1) := by decide +kernel
theorem dX6_read_57 : decode cX6_read 57 = .ok (.iconst 4, 1) := by decide +kernel
theorem dX6_read_58 : decode cX6_read 58 = .ok (.iload 7, 2) := by decide +kernel
theorem dX6_read_60 : decode cX6_read 60 = .ok (.imul, 1) := by decide +kernel
theorem dX6_read_61 : decode cX6_read 61 = .ok (.iadd, 1) := by decide +kernel
theorem dX6_read_62 : decode cX6_read 62 = .ok (.istore 8, 2) := by decide +kernel
theorem dX6_read_64 : decode cX6_read 64 = .ok (.aload_n 0, 1) := by decide +kernel
theorem dX6_read_65 : decode cX6_read 65 = .ok (.aload 5, 2) := by decide +kernel
theorem dX6_read_67 : decode cX6_read 67 = .ok (.getfield 303, 3) := by decide +kernel
theorem dX6_read_70 : decode cX6_read 70 = .ok (.iload 8, 2) := by decide +kernel
theorem dX6_read_72 : decode cX6_read 72 = .ok (.iaload, 1) := by decide +kernel
theorem dX6_read_73 : decode cX6_read 73 = .ok (.aload 5, 2) := by decide +kernel
theorem dX6_read_75 : decode cX6_read 75 = .ok (.getfield 303, 3) := by decide +kernel
theorem dX6_read_78 : decode cX6_read 78 = .ok (.iload 8, 2) := by decide +kernel
theorem dX6_read_80 : decode cX6_read 80 = .ok (.iconst 1, 1) := by decide +kernel
theorem dX6_read_81 : decode cX6_read 81 = .ok (.iadd, 1) := by decide +kernel
theorem dX6_read_82 : decode cX6_read 82 = .ok (.iaload, 1) := by decide +kernel
theorem dX6_read_83 : decode cX6_read 83 = .ok (.aload 5, 2) := by decide +kernel
theorem dX6_read_85 : decode cX6_read 85 = .ok (.getfield 303, 3) := by decide +kernel
theorem dX6_read_88 : decode cX6_read 88 = .ok (.iload 8, 2) := by decide +kernel
theorem dX6_read_90 : decode cX6_read 90 = .ok (.iconst 2, 1) := by decide +kernel
theorem dX6_read_91 : decode cX6_read 91 = .ok (.iadd, 1) := by decide +kernel
theorem dX6_read_92 : decode cX6_read 92 = .ok (.iaload, 1) := by decide +kernel
theorem dX6_read_93 : decode cX6_read 93 = .ok (.aload 5, 2) := by decide +kernel
theorem dX6_read_95 : decode cX6_read 95 = .ok (.getfield 303, 3) := by decide +kernel
theorem dX6_read_98 : decode cX6_read 98 = .ok (.iload 8, 2) := by decide +kernel
theorem dX6_read_100 : decode cX6_read 100 = .ok (.iconst 3, 1) := by decide +kernel
theorem dX6_read_101 : decode cX6_read 101 = .ok (.iadd, 1) := by decide +kernel
theorem dX6_read_102 : decode cX6_read 102 = .ok (.iaload, 1) := by decide +kernel
theorem dX6_read_103 : decode cX6_read 103 = .ok (.iload 7, 2) := by decide +kernel
theorem dX6_read_105 : decode cX6_read 105 = .ok (.invokevirtual 214, 3) := by decide +kernel
theorem dX6_read_108 : decode cX6_read 108 = .ok (.istore 9, 2) := by decide +kernel
theorem dX6_read_110 : decode cX6_read 110 = .ok (.iload 9, 2) := by decide +kernel
theorem dX6_read_112 : decode cX6_read 112 = .ok (.ifCond .eq 21, 3) := by decide +kernel
theorem dX6_read_115 : decode cX6_read 115 = .ok (.iload 9, 2) := by decide +kernel
theorem dX6_read_117 : decode cX6_read 117 = .ok (.bipush (-3), 2) := by decide +kernel
theorem dX6_read_119 : decode cX6_read 119 = .ok (.if_icmp .ne 8, 3) := by decide +kernel
theorem dX6_read_122 : decode cX6_read 122 = .ok (.bipush (-3), 2) := by decide +kernel
theorem dX6_read_124 : decode cX6_read 124 = .ok (.goto 8, 3) := by decide +kernel
theorem dX6_read_127 : decode cX6_read 127 = .ok (.bipush (-20), 2) := by decide +kernel
theorem dX6_read_129 : decode cX6_read 129 = .ok (.iload 7, 2) := by decide +kernel
theorem dX6_read_131 : decode cX6_read 131 = .ok (.isub, 1) := by decide +kernel
theorem dX6_read_132 : decode cX6_read 132 = .ok (.ireturn, 1) := by decide +kernel
theorem dX6_read_133 : decode cX6_read 133 = .ok (.iinc 7 1, 3) := by decide +kernel
theorem dX6_read_136 : decode cX6_read 136 = .ok (.goto (-87), 3) := by decide +kernel
theorem dX6_read_139 : decode cX6_read 139 = .ok (.iconst 0, 1) := by decide +kernel
theorem dX6_read_140 : decode cX6_read 140 = .ok (.istore 7, 2) := by decide +kernel
theorem dX6_read_142 : decode cX6_read 142 = .ok (.iload 7, 2) := by decide +kernel
theorem dX6_read_144 : decode cX6_read 144 = .ok (.iload 6, 2) := by decide +kernel
theorem dX6_read_146 : decode cX6_read 146 = .ok (.if_icmp .ge 67, 3) := by decide +kernel
theorem dX6_read_149 : decode cX6_read 149 = .ok (.iload_n 3, 1) := by decide +kernel
theorem dX6_read_150 : decode cX6_read 150 = .ok (.iconst 4, 1) := by decide +kernel
theorem dX6_read_151 : decode cX6_read 151 = .ok (.iload 7, 2) := by decide +kernel
theorem dX6_read_153 : decode cX6_read 153 = .ok (.imul, 1) := by decide +kernel
theorem dX6_read_154 : decode cX6_read 154 = .ok (.iadd, 1) := by decide +kernel
theorem dX6_read_155 : decode cX6_read 155 = .ok (.istore 8, 2) := by decide +kernel
theorem dX6_read_157 : decode cX6_read 157 = .ok (.aload_n 0, 1) := by decide +kernel
theorem dX6_read_158 : decode cX6_read 158 = .ok (.getfield 26, 3) := by decide +kernel
theorem dX6_read_161 : decode cX6_read 161 = .ok (.aload 5, 2) := by decide +kernel
theorem dX6_read_163 : decode cX6_read 163 = .ok (.getfield 303, 3) := by decide +kernel
theorem dX6_read_166 : decode cX6_read 166 = .ok (.iload 8, 2) := by decide +kernel
theorem dX6_read_168 : decode cX6_read 168 = .ok (.iaload, 1) := by decide +kernel
theorem dX6_read_169 : decode cX6_read 169 = .ok (.aload 5, 2) := by decide +kernel
theorem dX6_read_171 : decode cX6_read 171 = .ok (.getfield 303, 3) := by decide +kernel
theorem dX6_read_174 : decode cX6_read 174 = .ok (.iload 8, 2) := by decide +kernel
theorem dX6_read_176 : decode cX6_read 176 = .ok (.iconst 1, 1) := by decide +kernel
theorem dX6_read_177 : decode cX6_read 177 = .ok (.iadd, 1) := by decide +kernel
theorem dX6_read_178 : decode cX6_read 178 = .ok (.iaload, 1) := by decide +kernel
theorem dX6_read_179 : decode cX6_read 179 = .ok (.aload 5, 2) := by decide +kernel
theorem dX6_read_181 : decode cX6_read 181 = .ok (.getfield 303, 3) := by decide +kernel
theorem dX6_read_184 : decode cX6_read 184 = .ok (.iload 8, 2) := by decide +kernel
theorem dX6_read_186 : decode cX6_read 186 = .ok (.iconst 2, 1) := by decide +kernel
theorem dX6_read_187 : decode cX6_read 187 = .ok (.iadd, 1) := by decide +kernel
theorem dX6_read_188 : decode cX6_read 188 = .ok (.iaload, 1) := by decide +kernel
theorem dX6_read_189 : decode cX6_read 189 = .ok (.aload 5, 2) := by decide +kernel
theorem dX6_read_191 : decode cX6_read 191 = .ok (.getfield 303, 3) := by decide +kernel
theorem dX6_read_194 : decode cX6_read 194 = .ok (.iload 8, 2) := by decide +kernel
theorem dX6_read_196 : decode cX6_read 196 = .ok (.iconst 3, 1) := by decide +kernel
theorem dX6_read_197 : decode cX6_read 197 = .ok (.iadd, 1) := by decide +kernel
theorem dX6_read_198 : decode cX6_read 198 = .ok (.iaload, 1) := by decide +kernel
theorem dX6_read_199 : decode cX6_read 199 = .ok (.aload_n 0, 1) := by decide +kernel
theorem dX6_read_200 : decode cX6_read 200 = .ok (.getfield 113, 3) := by decide +kernel
theorem dX6_read_203 : decode cX6_read 203 = .ok (.invokevirtual 217, 3) := by decide +kernel
theorem dX6_read_206 : decode cX6_read 206 = .ok (.pop, 1) := by decide +kernel
theorem dX6_read_207 : decode cX6_read 207 = .ok (.iinc 7 1, 3) := by decide +kernel
theorem dX6_read_210 : decode cX6_read 210 = .ok (.goto (-68), 3) := by decide +kernel
theorem dX6_read_213 : decode cX6_read 213 = .ok (.aload_n 0, 1) := by decide +kernel
theorem dX6_read_214 : decode cX6_read 214 = .ok (.aload 5, 2) := by decide +kernel
theorem dX6_read_216 : decode cX6_read 216 = .ok (.iload_n 2, 1) := by decide +kernel
theorem dX6_read_217 : decode cX6_read 217 = .ok (.iload 4, 2) := by decide +kernel
theorem dX6_read_219 : decode cX6_read 219 = .ok (.iload 6, 2) := by decide +kernel
theorem dX6_read_221 : decode cX6_read 221 = .ok (.invokevirtual 306, 3) := by decide +kernel
theorem dX6_read_224 : decode cX6_read 224 = .ok (.putfield 309, 3) := by decide +kernel
theorem dX6_read_227 : decode cX6_read 227 = .ok (.iload 6, 2) := by decide +kernel
theorem dX6_read_229 : decode cX6_read 229 = .ok (.ireturn, 1) := by decide +kernel
theorem dX6_lost_0 : decode cX6_lost 0 = .ok (.aload_n 0, 1) := by decide +kernel
theorem dX6_lost_1 : decode cX6_lost 1 = .ok (.getfield 309, 3) := by decide +kernel
theorem dX6_lost_4 : decode cX6_lost 4 = .ok (.ireturn, 1) := by decide +kernel
theorem dX6_count_0 : decode cX6_count 0 = .ok (.iload_n 1, 1) := by decide +kernel
theorem dX6_count_1 : decode cX6_count 1 = .ok (.tableswitch 168 0 10 #[59, 67, 79, 91, 96, 104, 112, 120, 128, 133, 141], 59) := by decide +kernel
theorem dX6_count_60 : decode cX6_count 60 = .ok (.aload_n 0, 1) := by decide +kernel
theorem dX6_count_61 : decode cX6_count 61 = .ok (.getfield 12, 3) := by decide +kernel
theorem dX6_count_64 : decode cX6_count 64 = .ok (.getfield 161, 3) := by decide +kernel
theorem dX6_count_67 : decode cX6_count 67 = .ok (.ireturn, 1) := by decide +kernel
theorem dX6_count_68 : decode cX6_count 68 = .ok (.aload_n 0, 1) := by decide +kernel
theorem dX6_count_69 : decode cX6_count 69 = .ok (.aload_n 0, 1) := by decide +kernel
theorem dX6_count_70 : decode cX6_count 70 = .ok (.getfield 12, 3) := by decide +kernel
theorem dX6_count_73 : decode cX6_count 73 = .ok (.getfield 88, 3) := by decide +kernel
theorem dX6_count_76 : decode cX6_count 76 = .ok (.invokevirtual 312, 3) := by decide +kernel
theorem dX6_count_79 : decode cX6_count 79 = .ok (.ireturn, 1) := by decide +kernel
theorem dX6_count_80 : decode cX6_count 80 = .ok (.aload_n 0, 1) := by decide +kernel
theorem dX6_count_81 : decode cX6_count 81 = .ok (.aload_n 0, 1) := by decide +kernel
theorem dX6_count_82 : decode cX6_count 82 = .ok (.getfield 12, 3) := by decide +kernel
theorem dX6_count_85 : decode cX6_count 85 = .ok (.getfield 96, 3) := by decide +kernel
theorem dX6_count_88 : decode cX6_count 88 = .ok (.invokevirtual 312, 3) := by decide +kernel
theorem dX6_count_91 : decode cX6_count 91 = .ok (.ireturn, 1) := by decide +kernel
theorem dX6_count_92 : decode cX6_count 92 = .ok (.aload_n 0, 1) := by decide +kernel
theorem dX6_count_93 : decode cX6_count 93 = .ok (.invokevirtual 316, 3) := by decide +kernel
theorem dX6_count_96 : decode cX6_count 96 = .ok (.ireturn, 1) := by decide +kernel
theorem dX6_count_97 : decode cX6_count 97 = .ok (.aload_n 0, 1) := by decide +kernel
theorem dX6_count_98 : decode cX6_count 98 = .ok (.getfield 19, 3) := by decide +kernel
theorem dX6_count_101 : decode cX6_count 101 = .ok (.getfield 109, 3) := by decide +kernel
theorem dX6_count_104 : decode cX6_count 104 = .ok (.ireturn, 1) := by decide +kernel
theorem dX6_count_105 : decode cX6_count 105 = .ok (.aload_n 0, 1) := by decide +kernel
theorem dX6_count_106 : decode cX6_count 106 = .ok (.sipush 4095, 3) := by decide +kernel
theorem dX6_count_109 : decode cX6_count 109 = .ok (.invokevirtual 155, 3) := by decide +kernel
theorem dX6_count_112 : decode cX6_count 112 = .ok (.ireturn, 1) := by decide +kernel
