theorem dX5_splitBusiest_22 : decode cX5_splitBusiest 22 = .ok (.iload_n 1, 1) := by decide +kernel
theorem dX5_splitBusiest_23 : decode cX5_splitBusiest 23 = .ok (.iaload, 1) := by decide +kernel
theorem dX5_splitBusiest_24 : decode cX5_splitBusiest 24 = .ok (.if_icmp .le 5, 3) := by decide +kernel
theorem dX5_splitBusiest_27 : decode cX5_splitBusiest 27 = .ok (.iload_n 2, 1) := by decide +kernel
theorem dX5_splitBusiest_28 : decode cX5_splitBusiest 28 = .ok (.istore_n 1, 1) := by decide +kernel
theorem dX5_splitBusiest_29 : decode cX5_splitBusiest 29 = .ok (.iinc 2 1, 3) := by decide +kernel
theorem dX5_splitBusiest_32 : decode cX5_splitBusiest 32 = .ok (.goto (-28), 3) := by decide +kernel
theorem dX5_splitBusiest_35 : decode cX5_splitBusiest 35 = .ok (.aload_n 0, 1) := by decide +kernel
theorem dX5_splitBusiest_36 : decode cX5_splitBusiest 36 = .ok (.getfield 18, 3) := by decide +kernel
theorem dX5_splitBusiest_39 : decode cX5_splitBusiest 39 = .ok (.iload_n 1, 1) := by decide +kernel
theorem dX5_splitBusiest_40 : decode cX5_splitBusiest 40 = .ok (.iaload, 1) := by decide +kernel
theorem dX5_splitBusiest_41 : decode cX5_splitBusiest 41 = .ok (.iconst 2, 1) := by decide +kernel
theorem dX5_splitBusiest_42 : decode cX5_splitBusiest 42 = .ok (.aload_n 0, 1) := by decide +kernel
theorem dX5_splitBusiest_43 : decode cX5_splitBusiest 43 = .ok (.invokevirtual 35, 3) := by decide +kernel
theorem dX5_splitBusiest_46 : decode cX5_splitBusiest 46 = .ok (.imul, 1) := by decide +kernel
theorem dX5_splitBusiest_47 : decode cX5_splitBusiest 47 = .ok (.if_icmp .le 21, 3) := by decide +kernel
theorem dX5_splitBusiest_50 : decode cX5_splitBusiest 50 = .ok (.aload_n 0, 1) := by decide +kernel
theorem dX5_splitBusiest_51 : decode cX5_splitBusiest 51 = .ok (.iload_n 1, 1) := by decide +kernel
theorem dX5_splitBusiest_52 : decode cX5_splitBusiest 52 = .ok (.invokevirtual 31, 3) := by decide +kernel
theorem dX5_splitBusiest_55 : decode cX5_splitBusiest 55 = .ok (.iconst 2, 1) := by decide +kernel
theorem dX5_splitBusiest_56 : decode cX5_splitBusiest 56 = .ok (.if_icmp .lt 12, 3) := by decide +kernel
theorem dX5_splitBusiest_59 : decode cX5_splitBusiest 59 = .ok (.aload_n 0, 1) := by decide +kernel
theorem dX5_splitBusiest_60 : decode cX5_splitBusiest 60 = .ok (.getfield 21, 3) := by decide +kernel
theorem dX5_splitBusiest_63 : decode cX5_splitBusiest 63 = .ok (.bipush 8, 2) := by decide +kernel
theorem dX5_splitBusiest_65 : decode cX5_splitBusiest 65 = .ok (.if_icmp .lt 5, 3) := by decide +kernel
theorem dX5_splitBusiest_68 : decode cX5_splitBusiest 68 = .ok (.iconst 0, 1) := by decide +kernel
theorem dX5_splitBusiest_69 : decode cX5_splitBusiest 69 = .ok (.ireturn, 1) := by decide +kernel
theorem dX5_splitBusiest_70 : decode cX5_splitBusiest 70 = .ok (.aload_n 0, 1) := by decide +kernel
theorem dX5_splitBusiest_71 : decode cX5_splitBusiest 71 = .ok (.iload_n 1, 1) := by decide +kernel
theorem dX5_splitBusiest_72 : decode cX5_splitBusiest 72 = .ok (.invokevirtual 39, 3) := by decide +kernel
theorem dX5_splitBusiest_75 : decode cX5_splitBusiest 75 = .ok (.iconst 1, 1) := by decide +kernel
theorem dX5_splitBusiest_76 : decode cX5_splitBusiest 76 = .ok (.ireturn, 1) := by decide +kernel
theorem dX5_joinIdle_0 : decode cX5_joinIdle 0 = .ok (.aload_n 0, 1) := by decide +kernel
theorem dX5_joinIdle_1 : decode cX5_joinIdle 1 = .ok (.invokevirtual 35, 3) := by decide +kernel
theorem dX5_joinIdle_4 : decode cX5_joinIdle 4 = .ok (.iconst 2, 1) := by decide +kernel
theorem dX5_joinIdle_5 : decode cX5_joinIdle 5 = .ok (.idiv, 1) := by decide +kernel
theorem dX5_joinIdle_6 : decode cX5_joinIdle 6 = .ok (.istore_n 1, 1) := by decide +kernel
theorem dX5_joinIdle_7 : decode cX5_joinIdle 7 = .ok (.iconst 0, 1) := by decide +kernel
theorem dX5_joinIdle_8 : decode cX5_joinIdle 8 = .ok (.istore_n 2, 1) := by decide +kernel
theorem dX5_joinIdle_9 : decode cX5_joinIdle 9 = .ok (.iload_n 2, 1) := by decide +kernel
theorem dX5_joinIdle_10 : decode cX5_joinIdle 10 = .ok (.iconst 1, 1) := by decide +kernel
theorem dX5_joinIdle_11 : decode cX5_joinIdle 11 = .ok (.iadd, 1) := by decide +kernel
theorem dX5_joinIdle_12 : decode cX5_joinIdle 12 = .ok (.aload_n 0, 1) := by decide +kernel
theorem dX5_joinIdle_13 : decode cX5_joinIdle 13 = .ok (.getfield 21, 3) := by decide +kernel
theorem dX5_joinIdle_16 : decode cX5_joinIdle 16 = .ok (.if_icmp .ge 35, 3) := by decide +kernel
theorem dX5_joinIdle_19 : decode cX5_joinIdle 19 = .ok (.aload_n 0, 1) := by decide +kernel
theorem dX5_joinIdle_20 : decode cX5_joinIdle 20 = .ok (.getfield 18, 3) := by decide +kernel
theorem dX5_joinIdle_23 : decode cX5_joinIdle 23 = .ok (.iload_n 2, 1) := by decide +kernel
theorem dX5_joinIdle_24 : decode cX5_joinIdle 24 = .ok (.iaload, 1) := by decide +kernel
theorem dX5_joinIdle_25 : decode cX5_joinIdle 25 = .ok (.aload_n 0, 1) := by decide +kernel
theorem dX5_joinIdle_26 : decode cX5_joinIdle 26 = .ok (.getfield 18, 3) := by decide +kernel
theorem dX5_joinIdle_29 : decode cX5_joinIdle 29 = .ok (.iload_n 2, 1) := by decide +kernel
theorem dX5_joinIdle_30 : decode cX5_joinIdle 30 = .ok (.iconst 1, 1) := by decide +kernel
theorem dX5_joinIdle_31 : decode cX5_joinIdle 31 = .ok (.iadd, 1) := by decide +kernel
theorem dX5_joinIdle_32 : decode cX5_joinIdle 32 = .ok (.iaload, 1) := by decide +kernel
theorem dX5_joinIdle_33 : decode cX5_joinIdle 33 = .ok (.iadd, 1) := by decide +kernel
theorem dX5_joinIdle_34 : decode cX5_joinIdle 34 = .ok (.iload_n 1, 1) := by decide +kernel
theorem dX5_joinIdle_35 : decode cX5_joinIdle 35 = .ok (.if_icmp .ge 10, 3) := by decide +kernel
theorem dX5_joinIdle_38 : decode cX5_joinIdle 38 = .ok (.aload_n 0, 1) := by decide +kernel
theorem dX5_joinIdle_39 : decode cX5_joinIdle 39 = .ok (.iload_n 2, 1) := by decide +kernel
theorem dX5_joinIdle_40 : decode cX5_joinIdle 40 = .ok (.invokevirtual 43, 3) := by decide +kernel
theorem dX5_joinIdle_43 : decode cX5_joinIdle 43 = .ok (.iconst 1, 1) := by decide +kernel
theorem dX5_joinIdle_44 : decode cX5_joinIdle 44 = .ok (.ireturn, 1) := by decide +kernel
theorem dX5_joinIdle_45 : decode cX5_joinIdle 45 = .ok (.iinc 2 1, 3) := by decide +kernel
theorem dX5_joinIdle_48 : decode cX5_joinIdle 48 = .ok (.goto (-39), 3) := by decide +kernel
theorem dX5_joinIdle_51 : decode cX5_joinIdle 51 = .ok (.iconst 0, 1) := by decide +kernel
theorem dX5_joinIdle_52 : decode cX5_joinIdle 52 = .ok (.ireturn, 1) := by decide +kernel
theorem dX5_meanWork_0 : decode cX5_meanWork 0 = .ok (.aload_n 0, 1) := by decide +kernel
theorem dX5_meanWork_1 : decode cX5_meanWork 1 = .ok (.getfield 18, 3) := by decide +kernel
theorem dX5_meanWork_4 : decode cX5_meanWork 4 = .ok (.aload_n 0, 1) := by decide +kernel
theorem dX5_meanWork_5 : decode cX5_meanWork 5 = .ok (.getfield 21, 3) := by decide +kernel
theorem dX5_meanWork_8 : decode cX5_meanWork 8 = .ok (.invokestatic 46, 3) := by decide +kernel
theorem dX5_meanWork_11 : decode cX5_meanWork 11 = .ok (.aload_n 0, 1) := by decide +kernel
theorem dX5_meanWork_12 : decode cX5_meanWork 12 = .ok (.getfield 21, 3) := by decide +kernel
theorem dX5_meanWork_15 : decode cX5_meanWork 15 = .ok (.idiv, 1) := by decide +kernel
theorem dX5_meanWork_16 : decode cX5_meanWork 16 = .ok (.ireturn, 1) := by decide +kernel
theorem dX5_split_0 : decode cX5_split 0 = .ok (.aload_n 0, 1) := by decide +kernel
theorem dX5_split_1 : decode cX5_split 1 = .ok (.getfield 21, 3) := by decide +kernel
theorem dX5_split_4 : decode cX5_split 4 = .ok (.istore_n 2, 1) := by decide +kernel
theorem dX5_split_5 : decode cX5_split 5 = .ok (.iload_n 2, 1) := by decide +kernel
theorem dX5_split_6 : decode cX5_split 6 = .ok (.iload_n 1, 1) := by decide +kernel
theorem dX5_split_7 : decode cX5_split 7 = .ok (.if_icmp .le 17, 3) := by decide +kernel
theorem dX5_split_10 : decode cX5_split 10 = .ok (.aload_n 0, 1) := by decide +kernel
theorem dX5_split_11 : decode cX5_split 11 = .ok (.iload_n 2, 1) := by decide +kernel
theorem dX5_split_12 : decode cX5_split 12 = .ok (.iconst 1, 1) := by decide +kernel
theorem dX5_split_13 : decode cX5_split 13 = .ok (.isub, 1) := by decide +kernel
theorem dX5_split_14 : decode cX5_split 14 = .ok (.iload_n 2, 1) := by decide +kernel
theorem dX5_split_15 : decode cX5_split 15 = .ok (.invokevirtual 50, 3) := by decide +kernel
theorem dX5_split_18 : decode cX5_split 18 = .ok (.iinc 2 (-1), 3) := by decide +kernel
theorem dX5_split_21 : decode cX5_split 21 = .ok (.goto (-16), 3) := by decide +kernel
theorem dX5_split_24 : decode cX5_split 24 = .ok (.aload_n 0, 1) := by decide +kernel
theorem dX5_split_25 : decode cX5_split 25 = .ok (.dup, 1) := by decide +kernel
theorem dX5_split_26 : decode cX5_split 26 = .ok (.getfield 21, 3) := by decide +kernel
theorem dX5_split_29 : decode cX5_split 29 = .ok (.iconst 1, 1) := by decide +kernel
theorem dX5_split_30 : decode cX5_split 30 = .ok (.iadd, 1) := by decide +kernel
theorem dX5_split_31 : decode cX5_split 31 = .ok (.putfield 21, 3) := by decide +kernel
theorem dX5_split_34 : decode cX5_split 34 = .ok (.aload_n 0, 1) := by decide +kernel
theorem dX5_split_35 : decode cX5_split 35 = .ok (.getfield 15, 3) := by decide +kernel
theorem dX5_split_38 : decode cX5_split 38 = .ok (.iload_n 1, 1) := by decide +kernel
theorem dX5_split_39 : decode cX5_split 39 = .ok (.aload_n 0, 1) := by decide +kernel
theorem dX5_split_40 : decode cX5_split 40 = .ok (.getfield 9, 3) := by decide +kernel
theorem dX5_split_43 : decode cX5_split 43 = .ok (.iload_n 1, 1) := by decide +kernel
theorem dX5_split_44 : decode cX5_split 44 = .ok (.iaload, 1) := by decide +kernel
theorem dX5_split_45 : decode cX5_split 45 = .ok (.aload_n 0, 1) := by decide +kernel
theorem dX5_split_46 : decode cX5_split 46 = .ok (.iload_n 1, 1) := by decide +kernel
theorem dX5_split_47 : decode cX5_split 47 = .ok (.invokevirtual 31, 3) := by decide +kernel
theorem dX5_split_50 : decode cX5_split 50 = .ok (.iconst 2, 1) := by decide +kernel
theorem dX5_split_51 : decode cX5_split 51 = .ok (.idiv, 1) := by decide +kernel
theorem dX5_split_52 : decode cX5_split 52 = .ok (.iadd, 1) := by decide +kernel
theorem dX5_split_53 : decode cX5_split 53 = .ok (.iconst 1, 1) := by decide +kernel
theorem dX5_split_54 : decode cX5_split 54 = .ok (.isub, 1) := by decide +kernel
theorem dX5_split_55 : decode cX5_split 55 = .ok (.iastore, 1) := by decide +kernel
theorem dX5_split_56 : decode cX5_split 56 = .ok (.aload_n 0, 1) := by decide +kernel
theorem dX5_split_57 : decode cX5_split 57 = .ok (.getfield 9, 3) := by decide +kernel
theorem dX5_split_60 : decode cX5_split 60 = .ok (.iload_n 1, 1) := by decide +kernel
theorem dX5_split_61 : decode cX5_split 61 = .ok (.iconst 1, 1) := by decide +kernel
theorem dX5_split_62 : decode cX5_split 62 = .ok (.iadd, 1) := by decide +kernel
theorem dX5_split_63 : decode cX5_split 63 = .ok (.aload_n 0, 1) := by decide +kernel
theorem dX5_split_64 : decode cX5_split 64 = .ok (.getfield 15, 3) := by decide +kernel
theorem dX5_split_67 : decode cX5_split 67 = .ok (.iload_n 1, 1) := by decide +kernel
theorem dX5_split_68 : decode cX5_split 68 = .ok (.iaload, 1) := by decide +kernel
theorem dX5_split_69 : decode cX5_split 69 = .ok (.iconst 1, 1) := by decide +kernel
theorem dX5_split_70 : decode cX5_split 70 = .ok (.iadd, 1) := by decide +kernel
theorem dX5_split_71 : decode cX5_split 71 = .ok (.iastore, 1) := by decide +kernel
theorem dX5_split_72 : decode cX5_split 72 = .ok (.aload_n 0, 1) := by decide +kernel
theorem dX5_split_73 : decode cX5_split 73 = .ok (.getfield 18, 3) := by decide +kernel
theorem dX5_split_76 : decode cX5_split 76 = .ok (.iload_n 1, 1) := by decide +kernel
theorem dX5_split_77 : decode cX5_split 77 = .ok (.iconst 0, 1) := by decide +kernel
theorem dX5_split_78 : decode cX5_split 78 = .ok (.iastore, 1) := by decide +kernel
theorem dX5_split_79 : decode cX5_split 79 = .ok (.aload_n 0, 1) := by decide +kernel
theorem dX5_split_80 : decode cX5_split 80 = .ok (.getfield 18, 3) := by decide +kernel
theorem dX5_split_83 : decode cX5_split 83 = .ok (.iload_n 1, 1) := by decide +kernel
theorem dX5_split_84 : decode cX5_split 84 = .ok (.iconst 1, 1) := by decide +kernel
theorem dX5_split_85 : decode cX5_split 85 = .ok (.iadd, 1) := by decide +kernel
theorem dX5_split_86 : decode cX5_split 86 = .ok (.iconst 0, 1) := by decide +kernel
theorem dX5_split_87 : decode cX5_split 87 = .ok (.iastore, 1) := by decide +kernel
theorem dX5_split_88 : decode cX5_split 88 = .ok (.return_, 1) := by decide +kernel
theorem dX5_join_0 : decode cX5_join 0 = .ok (.aload_n 0, 1) := by decide +kernel
theorem dX5_join_1 : decode cX5_join 1 = .ok (.getfield 15, 3) := by decide +kernel
theorem dX5_join_4 : decode cX5_join 4 = .ok (.iload_n 1, 1) := by decide +kernel
theorem dX5_join_5 : decode cX5_join 5 = .ok (.aload_n 0, 1) := by decide +kernel
theorem dX5_join_6 : decode cX5_join 6 = .ok (.getfield 15, 3) := by decide +kernel
theorem dX5_join_9 : decode cX5_join 9 = .ok (.iload_n 1, 1) := by decide +kernel
theorem dX5_join_10 : decode cX5_join 10 = .ok (.iconst 1, 1) := by decide +kernel
theorem dX5_join_11 : decode cX5_join 11 = .ok (.iadd, 1) := by decide +kernel
theorem dX5_join_12 : decode cX5_join 12 = .ok (.iaload, 1) := by decide +kernel
theorem dX5_join_13 : decode cX5_join 13 = .ok (.iastore, 1) := by decide +kernel
theorem dX5_join_14 : decode cX5_join 14 = .ok (.aload_n 0, 1) := by decide +kernel
theorem dX5_join_15 : decode cX5_join 15 = .ok (.getfield 18, 3) := by decide +kernel
theorem dX5_join_18 : decode cX5_join 18 = .ok (.iload_n 1, 1) := by decide +kernel
theorem dX5_join_19 : decode cX5_join 19 = .ok (.iconst 0, 1) := by decide +kernel
theorem dX5_join_20 : decode cX5_join 20 = .ok (.iastore, 1) := by decide +kernel
theorem dX5_join_21 : decode cX5_join 21 = .ok (.iload_n 1, 1) := by decide +kernel
theorem dX5_join_22 : decode cX5_join 22 = .ok (.iconst 2, 1) := by decide +kernel
theorem dX5_join_23 : decode cX5_join 23 = .ok (.iadd, 1) := by decide +kernel
theorem dX5_join_24 : decode cX5_join 24 = .ok (.istore_n 2, 1) := by decide +kernel
theorem dX5_join_25 : decode cX5_join 25 = .ok (.iload_n 2, 1) := by decide +kernel
theorem dX5_join_26 : decode cX5_join 26 = .ok (.aload_n 0, 1) := by decide +kernel
theorem dX5_join_27 : decode cX5_join 27 = .ok (.getfield 21, 3) := by decide +kernel
theorem dX5_join_30 : decode cX5_join 30 = .ok (.if_icmp .ge 17, 3) := by decide +kernel
theorem dX5_join_33 : decode cX5_join 33 = .ok (.aload_n 0, 1) := by decide +kernel
theorem dX5_join_34 : decode cX5_join 34 = .ok (.iload_n 2, 1) := by decide +kernel
theorem dX5_join_35 : decode cX5_join 35 = .ok (.iload_n 2, 1) := by decide +kernel
theorem dX5_join_36 : decode cX5_join 36 = .ok (.iconst 1, 1) := by decide +kernel
theorem dX5_join_37 : decode cX5_join 37 = .ok (.isub, 1) := by decide +kernel
theorem dX5_join_38 : decode cX5_join 38 = .ok (.invokevirtual 50, 3) := by decide +kernel
theorem dX5_join_41 : decode cX5_join 41 = .ok (.iinc 2 1, 3) := by decide +kernel
theorem dX5_join_44 : decode cX5_join 44 = .ok (.goto (-19), 3) := by decide +kernel
theorem dX5_join_47 : decode cX5_join 47 = .ok (.aload_n 0, 1) := by decide +kernel
theorem dX5_join_48 : decode cX5_join 48 = .ok (.dup, 1) := by decide +kernel
theorem dX5_join_49 : decode cX5_join 49 = .ok (.getfield 21, 3) := by decide +kernel
theorem dX5_join_52 : decode cX5_join 52 = .ok (.iconst 1, 1) := by decide +kernel
theorem dX5_join_53 : decode cX5_join 53 = .ok (.isub, 1) := by decide +kernel
theorem dX5_join_54 : decode cX5_join 54 = .ok (.putfield 21, 3) := by decide +kernel
theorem dX5_join_57 : decode cX5_join 57 = .ok (.return_, 1) := by decide +kernel
theorem dX5_move_0 : decode cX5_move 0 = .ok (.aload_n 0, 1) := by decide +kernel
theorem dX5_move_1 : decode cX5_move 1 = .ok (.getfield 9, 3) := by decide +kernel
theorem dX5_move_4 : decode cX5_move 4 = .ok (.iload_n 2, 1) := by decide +kernel
theorem dX5_move_5 : decode cX5_move 5 = .ok (.aload_n 0, 1) := by decide +kernel
theorem dX5_move_6 : decode cX5_move 6 = .ok (.getfield 9, 3) := by decide +kernel
theorem dX5_move_9 : decode cX5_move 9 = .ok (.iload_n 1, 1) := by decide +kernel
theorem dX5_move_10 : decode cX5_move 10 = .ok (.iaload, 1) := by decide +kernel
theorem dX5_move_11 : decode cX5_move 11 = .ok (.iastore, 1) := by decide +kernel
theorem dX5_move_12 : decode cX5_move 12 = .ok (.aload_n 0, 1) := by decide +kernel
theorem dX5_move_13 : decode cX5_move 13 = .ok (.getfield 15, 3) := by decide +kernel
theorem dX5_move_16 : decode cX5_move 16 = .ok (.iload_n 2, 1) := by decide +kernel
theorem dX5_move_17 : decode cX5_move 17 = .ok (.aload_n 0, 1) := by decide +kernel
theorem dX5_move_18 : decode cX5_move 18 = .ok (.getfield 15, 3) := by decide +kernel
theorem dX5_move_21 : decode cX5_move 21 = .ok (.iload_n 1, 1) := by decide +kernel
theorem dX5_move_22 : decode cX5_move 22 = .ok (.iaload, 1) := by decide +kernel
theorem dX5_move_23 : decode cX5_move 23 = .ok (.iastore, 1) := by decide +kernel
theorem dX5_move_24 : decode cX5_move 24 = .ok (.aload_n 0, 1) := by decide +kernel
theorem dX5_move_25 : decode cX5_move 25 = .ok (.getfield 18, 3) := by decide +kernel
theorem dX5_move_28 : decode cX5_move 28 = .ok (.iload_n 2, 1) := by decide +kernel
theorem dX5_move_29 : decode cX5_move 29 = .ok (.aload_n 0, 1) := by decide +kernel
theorem dX5_move_30 : decode cX5_move 30 = .ok (.getfield 18, 3) := by decide +kernel
theorem dX5_move_33 : decode cX5_move 33 = .ok (.iload_n 1, 1) := by decide +kernel
theorem dX5_move_34 : decode cX5_move 34 = .ok (.iaload, 1) := by decide +kernel
theorem dX5_move_35 : decode cX5_move 35 = .ok (.iastore, 1) := by decide +kernel
theorem dX5_move_36 : decode cX5_move 36 = .ok (.return_, 1) := by decide +kernel
theorem dX6_init_0 : decode cX6_init 0 = .ok (.aload_n 0, 1) := by decide +kernel
theorem dX6_init_1 : decode cX6_init 1 = .ok (.invokespecial 3, 3) := by decide +kernel
theorem dX6_init_4 : decode cX6_init 4 = .ok (.aload_n 0, 1) := by decide +kernel
theorem dX6_init_5 : decode cX6_init 5 = .ok (.bipush 16, 2) := by decide +kernel
theorem dX6_init_7 : decode cX6_init 7 = .ok (.newarray .int, 2) := by decide +kernel
theorem dX6_init_9 : decode cX6_init 9 = .ok (.putfield 9, 3) := by decide +kernel
theorem dX6_init_12 : decode cX6_init 12 = .ok (.aload_n 0, 1) := by decide +kernel
theorem dX6_init_13 : decode cX6_init 13 = .ok (.bipush 48, 2) := by decide +kernel
theorem dX6_init_15 : decode cX6_init 15 = .ok (.newarray .int, 2) := by decide +kernel
theorem dX6_init_17 : decode cX6_init 17 = .ok (.putfield 15, 3) := by decide +kernel
theorem dX6_init_20 : decode cX6_init 20 = .ok (.aload_n 0, 1) := by decide +kernel
theorem dX6_init_21 : decode cX6_init 21 = .ok (.iconst 0, 1) := by decide +kernel
theorem dX6_init_22 : decode cX6_init 22 = .ok (.putfield 18, 3) := by decide +kernel
theorem dX6_init_25 : decode cX6_init 25 = .ok (.return_, 1) := by decide +kernel
theorem dX6_add_0 : decode cX6_add 0 = .ok (.aload_n 0, 1) := by decide +kernel
theorem dX6_add_1 : decode cX6_add 1 = .ok (.getfield 9, 3) := by decide +kernel
theorem dX6_add_4 : decode cX6_add 4 = .ok (.aload_n 0, 1) := by decide +kernel
theorem dX6_add_5 : decode cX6_add 5 = .ok (.getfield 18, 3) := by decide +kernel
theorem dX6_add_8 : decode cX6_add 8 = .ok (.iload_n 1, 1) := by decide +kernel
theorem dX6_add_9 : decode cX6_add 9 = .ok (.iastore, 1) := by decide +kernel
theorem dX6_add_10 : decode cX6_add 10 = .ok (.aload_n 0, 1) := by decide +kernel
theorem dX6_add_11 : decode cX6_add 11 = .ok (.getfield 18, 3) := by decide +kernel
theorem dX6_add_14 : decode cX6_add 14 = .ok (.iconst 3, 1) := by decide +kernel
theorem dX6_add_15 : decode cX6_add 15 = .ok (.imul, 1) := by decide +kernel
theorem dX6_add_16 : decode cX6_add 16 = .ok (.istore 5, 2) := by decide +kernel
theorem dX6_add_18 : decode cX6_add 18 = .ok (.aload_n 0, 1) := by decide +kernel
theorem dX6_add_19 : decode cX6_add 19 = .ok (.getfield 15, 3) := by decide +kernel
theorem dX6_add_22 : decode cX6_add 22 = .ok (.iload 5, 2) := by decide +kernel
theorem dX6_add_24 : decode cX6_add 24 = .ok (.iconst 0, 1) := by decide +kernel
theorem dX6_add_25 : decode cX6_add 25 = .ok (.iadd, 1) := by decide +kernel
theorem dX6_add_26 : decode cX6_add 26 = .ok (.iload_n 2, 1) := by decide +kernel
theorem dX6_add_27 : decode cX6_add 27 = .ok (.iastore, 1) := by decide +kernel
theorem dX6_add_28 : decode cX6_add 28 = .ok (.aload_n 0, 1) := by decide +kernel
theorem dX6_add_29 : decode cX6_add 29 = .ok (.getfield 15, 3) := by decide +kernel
theorem dX6_add_32 : decode cX6_add 32 = .ok (.iload 5, 2) := by decide +kernel
theorem dX6_add_34 : decode cX6_add 34 = .ok (.iconst 1, 1) := by decide +kernel
theorem dX6_add_35 : decode cX6_add 35 = .ok (.iadd, 1) := by decide +kernel
theorem dX6_add_36 : decode cX6_add 36 = .ok (.iload_n 3, 1) := by decide +kernel
theorem dX6_add_37 : decode cX6_add 37 = .ok (.iastore, 1) := by decide +kernel
theorem dX6_add_38 : decode cX6_add 38 = .ok (.aload_n 0, 1) := by decide +kernel
theorem dX6_add_39 : decode cX6_add 39 = .ok (.getfield 15, 3) := by decide +kernel
theorem dX6_add_42 : decode cX6_add 42 = .ok (.iload 5, 2) := by decide +kernel
theorem dX6_add_44 : decode cX6_add 44 = .ok (.iconst 2, 1) := by decide +kernel
theorem dX6_add_45 : decode cX6_add 45 = .ok (.iadd, 1) := by decide +kernel
theorem dX6_add_46 : decode cX6_add 46 = .ok (.iload 4, 2) := by decide +kernel
theorem dX6_add_48 : decode cX6_add 48 = .ok (.iastore, 1) := by decide +kernel
theorem dX6_add_49 : decode cX6_add 49 = .ok (.aload_n 0, 1) := by decide +kernel
theorem dX6_add_50 : decode cX6_add 50 = .ok (.dup, 1) := by decide +kernel
theorem dX6_add_51 : decode cX6_add 51 = .ok (.getfield 18, 3) := by decide +kernel
theorem dX6_add_54 : decode cX6_add 54 = .ok (.iconst 1, 1) := by decide +kernel
theorem dX6_add_55 : decode cX6_add 55 = .ok (.iadd, 1) := by decide +kernel
theorem dX6_add_56 : decode cX6_add 56 = .ok (.putfield 18, 3) := by decide +kernel
theorem dX6_add_59 : decode cX6_add 59 = .ok (.return_, 1) := by decide +kernel
theorem dX6_entryOf_0 : decode cX6_entryOf 0 = .ok (.bipush (-6), 2) := by decide +kernel
theorem dX6_entryOf_2 : decode cX6_entryOf 2 = .ok (.istore_n 2, 1) := by decide +kernel
theorem dX6_entryOf_3 : decode cX6_entryOf 3 = .ok (.iconst 0, 1) := by decide +kernel
theorem dX6_entryOf_4 : decode cX6_entryOf 4 = .ok (.istore_n 3, 1) := by decide +kernel
theorem dX6_entryOf_5 : decode cX6_entryOf 5 = .ok (.iload_n 3, 1) := by decide +kernel
theorem dX6_entryOf_6 : decode cX6_entryOf 6 = .ok (.aload_n 0, 1) := by decide +kernel
theorem dX6_entryOf_7 : decode cX6_entryOf 7 = .ok (.getfield 18, 3) := by decide +kernel
theorem dX6_entryOf_10 : decode cX6_entryOf 10 = .ok (.if_icmp .ge 42, 3) := by decide +kernel
theorem dX6_entryOf_13 : decode cX6_entryOf 13 = .ok (.aload_n 0, 1) := by decide +kernel
theorem dX6_entryOf_14 : decode cX6_entryOf 14 = .ok (.getfield 9, 3) := by decide +kernel
theorem dX6_entryOf_17 : decode cX6_entryOf 17 = .ok (.iload_n 3, 1) := by decide +kernel
theorem dX6_entryOf_18 : decode cX6_entryOf 18 = .ok (.iaload, 1) := by decide +kernel
theorem dX6_entryOf_19 : decode cX6_entryOf 19 = .ok (.iload_n 1, 1) := by decide +kernel
theorem dX6_entryOf_20 : decode cX6_entryOf 20 = .ok (.if_icmp .gt 26, 3) := by decide +kernel
theorem dX6_entryOf_23 : decode cX6_entryOf 23 = .ok (.iload_n 2, 1) := by decide +kernel
theorem dX6_entryOf_24 : decode cX6_entryOf 24 = .ok (.bipush (-6), 2) := by decide +kernel
theorem dX6_entryOf_26 : decode cX6_entryOf 26 = .ok (.if_icmp .eq 18, 3) := by decide +kernel
theorem dX6_entryOf_29 : decode cX6_entryOf 29 = .ok (.aload_n 0, 1) := by decide +kernel
theorem dX6_entryOf_30 : decode cX6_entryOf 30 = .ok (.getfield 9, 3) := by decide +kernel
theorem dX6_entryOf_33 : decode cX6_entryOf 33 = .ok (.iload_n 3, 1) := by decide +kernel
theorem dX6_entryOf_34 : decode cX6_entryOf 34 = .ok (.iaload, 1) := by decide +kernel
theorem dX6_entryOf_35 : decode cX6_entryOf 35 = .ok (.aload_n 0, 1) := by decide +kernel
theorem dX6_entryOf_36 : decode cX6_entryOf 36 = .ok (.getfield 9, 3) := by decide +kernel
theorem dX6_entryOf_39 : decode cX6_entryOf 39 = .ok (.iload_n 2, 1) := by decide +kernel
theorem dX6_entryOf_40 : decode cX6_entryOf 40 = .ok (.iaload, 1) := by decide +kernel
theorem dX6_entryOf_41 : decode cX6_entryOf 41 = .ok (.if_icmp .lt 5, 3) := by decide +kernel
theorem dX6_entryOf_44 : decode cX6_entryOf 44 = .ok (.iload_n 3, 1) := by decide +kernel
theorem dX6_entryOf_45 : decode cX6_entryOf 45 = .ok (.istore_n 2, 1) := by decide +kernel
theorem dX6_entryOf_46 : decode cX6_entryOf 46 = .ok (.iinc 3 1, 3) := by decide +kernel
theorem dX6_entryOf_49 : decode cX6_entryOf 49 = .ok (.goto (-44), 3) := by decide +kernel
theorem dX6_entryOf_52 : decode cX6_entryOf 52 = .ok (.iload_n 2, 1) := by decide +kernel
theorem dX6_entryOf_53 : decode cX6_entryOf 53 = .ok (.ireturn, 1) := by decide +kernel
theorem dX6_read_0 : decode cX6_read 0 = .ok (.iload_n 1, 1) := by decide +kernel
theorem dX6_read_1 : decode cX6_read 1 = .ok (.bipush (-6), 2) := by decide +kernel
theorem dX6_read_3 : decode cX6_read 3 = .ok (.if_icmp .ne 7, 3) := by decide +kernel
theorem dX6_read_6 : decode cX6_read 6 = .ok (.iconst 0, 1) := by decide +kernel
theorem dX6_read_7 : decode cX6_read 7 = .ok (.goto 13, 3) := by decide +kernel
theorem dX6_read_10 : decode cX6_read 10 = .ok (.aload_n 0, 1) := by decide +kernel
theorem dX6_read_11 : decode cX6_read 11 = .ok (.getfield 15, 3) := by decide +kernel
theorem dX6_read_14 : decode cX6_read 14 = .ok (.iload_n 1, 1) := by decide +kernel
theorem dX6_read_15 : decode cX6_read 15 = .ok (.iconst 3, 1) := by decide +kernel
theorem dX6_read_16 : decode cX6_read 16 = .ok (.imul, 1) := by decide +kernel
theorem dX6_read_17 : decode cX6_read 17 = .ok (.iload_n 2, 1) := by decide +kernel
theorem dX6_read_18 : decode cX6_read 18 = .ok (.iadd, 1) := by decide +kernel
theorem dX6_read_19 : decode cX6_read 19 = .ok (.iaload, 1) := by decide +kernel
theorem dX6_read_20 : decode cX6_read 20 = .ok (.ireturn, 1) := by decide +kernel
theorem dX7_init_0 : decode cX7_init 0 = .ok (.aload_n 0, 1) := by decide +kernel
theorem dX7_init_1 : decode cX7_init 1 = .ok (.invokespecial 3, 3) := by decide +kernel
theorem dX7_init_4 : decode cX7_init 4 = .ok (.aload_n 0, 1) := by decide +kernel
theorem dX7_init_5 : decode cX7_init 5 = .ok (.new 9, 3) := by decide +kernel
theorem dX7_init_8 : decode cX7_init 8 = .ok (.dup, 1) := by decide +kernel
theorem dX7_init_9 : decode cX7_init 9 = .ok (.invokespecial 11, 3) := by decide +kernel
theorem dX7_init_12 : decode cX7_init 12 = .ok (.putfield 12, 3) := by decide +kernel
theorem dX7_init_15 : decode cX7_init 15 = .ok (.aload_n 0, 1) := by decide +kernel
theorem dX7_init_16 : decode cX7_init 16 = .ok (.new 16, 3) := by decide +kernel
theorem dX7_init_19 : decode cX7_init 19 = .ok (.dup, 1) := by decide +kernel
theorem dX7_init_20 : decode cX7_init 20 = .ok (.invokespecial 18, 3) := by decide +kernel
theorem dX7_init_23 : decode cX7_init 23 = .ok (.putfield 19, 3) := by decide +kernel
theorem dX7_init_26 : decode cX7_init 26 = .ok (.aload_n 0, 1) := by decide +kernel
theorem dX7_init_27 : decode cX7_init 27 = .ok (.new 23, 3) := by decide +kernel
theorem dX7_init_30 : decode cX7_init 30 = .ok (.dup, 1) := by decide +kernel
theorem dX7_init_31 : decode cX7_init 31 = .ok (.invokespecial 25, 3) := by decide +kernel
theorem dX7_init_34 : decode cX7_init 34 = .ok (.putfield 26, 3) := by decide +kernel
theorem dX7_init_37 : decode cX7_init 37 = .ok (.aload_n 0, 1) := by decide +kernel
theorem dX7_init_38 : decode cX7_init 38 = .ok (.new 30, 3) := by decide +kernel
theorem dX7_init_41 : decode cX7_init 41 = .ok (.dup, 1) := by decide +kernel
theorem dX7_init_42 : decode cX7_init 42 = .ok (.invokespecial 32, 3) := by decide +kernel
theorem dX7_init_45 : decode cX7_init 45 = .ok (.putfield 33, 3) := by decide +kernel
theorem dX7_init_48 : decode cX7_init 48 = .ok (.aload_n 0, 1) := by decide +kernel
theorem dX7_init_49 : decode cX7_init 49 = .ok (.new 37, 3) := by decide +kernel
theorem dX7_init_52 : decode cX7_init 52 = .ok (.dup, 1) := by decide +kernel
theorem dX7_init_53 : decode cX7_init 53 = .ok (.invokespecial 39, 3) := by decide +kernel
theorem dX7_init_56 : decode cX7_init 56 = .ok (.putfield 40, 3) := by decide +kernel
theorem dX7_init_59 : decode cX7_init 59 = .ok (.aload_n 0, 1) := by decide +kernel
theorem dX7_init_60 : decode cX7_init 60 = .ok (.new 37, 3) := by decide +kernel
theorem dX7_init_63 : decode cX7_init 63 = .ok (.dup, 1) := by decide +kernel
theorem dX7_init_64 : decode cX7_init 64 = .ok (.invokespecial 39, 3) := by decide +kernel
theorem dX7_init_67 : decode cX7_init 67 = .ok (.putfield 44, 3) := by decide +kernel
theorem dX7_init_70 : decode cX7_init 70 = .ok (.aload_n 0, 1) := by decide +kernel
theorem dX7_init_71 : decode cX7_init 71 = .ok (.iconst 3, 1) := by decide +kernel
theorem dX7_init_72 : decode cX7_init 72 = .ok (.anewarray 37, 3) := by decide +kernel
theorem dX7_init_75 : decode cX7_init 75 = .ok (.putfield 47, 3) := by decide +kernel
theorem dX7_init_78 : decode cX7_init 78 = .ok (.aload_n 0, 1) := by decide +kernel
theorem dX7_init_79 : decode cX7_init 79 = .ok (.iconst 3, 1) := by decide +kernel
theorem dX7_init_80 : decode cX7_init 80 = .ok (.newarray .int, 2) := by decide +kernel
theorem dX7_init_82 : decode cX7_init 82 = .ok (.putfield 51, 3) := by decide +kernel
theorem dX7_init_85 : decode cX7_init 85 = .ok (.aload_n 0, 1) := by decide +kernel
theorem dX7_init_86 : decode cX7_init 86 = .ok (.iconst 0, 1) := by decide +kernel
theorem dX7_init_87 : decode cX7_init 87 = .ok (.putfield 55, 3) := by decide +kernel
theorem dX7_init_90 : decode cX7_init 90 = .ok (.aload_n 0, 1) := by decide +kernel
theorem dX7_init_91 : decode cX7_init 91 = .ok (.iconst 0, 1) := by decide +kernel
theorem dX7_init_92 : decode cX7_init 92 = .ok (.putfield 59, 3) := by decide +kernel
theorem dX7_init_95 : decode cX7_init 95 = .ok (.iconst 0, 1) := by decide +kernel
theorem dX7_init_96 : decode cX7_init 96 = .ok (.istore_n 1, 1) := by decide +kernel
theorem dX7_init_97 : decode cX7_init 97 = .ok (.iload_n 1, 1) := by decide +kernel
theorem dX7_init_98 : decode cX7_init 98 = .ok (.iconst 3, 1) := by decide +kernel
theorem dX7_init_99 : decode cX7_init 99 = .ok (.if_icmp .ge 30, 3) := by decide +kernel
theorem dX7_init_102 : decode cX7_init 102 = .ok (.aload_n 0, 1) := by decide +kernel
theorem dX7_init_103 : decode cX7_init 103 = .ok (.getfield 47, 3) := by decide +kernel
theorem dX7_init_106 : decode cX7_init 106 = .ok (.iload_n 1, 1) := by decide +kernel
theorem dX7_init_107 : decode cX7_init 107 = .ok (.new 37, 3) := by decide +kernel
theorem dX7_init_110 : decode cX7_init 110 = .ok (.dup, 1) := by decide +kernel
theorem dX7_init_111 : decode cX7_init 111 = .ok (.invokespecial 39, 3) := by decide +kernel
theorem dX7_init_114 : decode cX7_init 114 = .ok (.aastore, 1) := by decide +kernel
theorem dX7_init_115 : decode cX7_init 115 = .ok (.aload_n 0, 1) := by decide +kernel
theorem dX7_init_116 : decode cX7_init 116 = .ok (.getfield 51, 3) := by decide +kernel
theorem dX7_init_119 : decode cX7_init 119 = .ok (.iload_n 1, 1) := by decide +kernel
theorem dX7_init_120 : decode cX7_init 120 = .ok (.bipush (-6), 2) := by decide +kernel
theorem dX7_init_122 : decode cX7_init 122 = .ok (.iastore, 1) := by decide +kernel
theorem dX7_init_123 : decode cX7_init 123 = .ok (.iinc 1 1, 3) := by decide +kernel
theorem dX7_init_126 : decode cX7_init 126 = .ok (.goto (-29), 3) := by decide +kernel
theorem dX7_init_129 : decode cX7_init 129 = .ok (.return_, 1) := by decide +kernel
theorem dX7_grid_0 : decode cX7_grid 0 = .ok (.iload_n 1, 1) := by decide +kernel
theorem dX7_grid_1 : decode cX7_grid 1 = .ok (.iconst 2, 1) := by decide +kernel
theorem dX7_grid_2 : decode cX7_grid 2 = .ok (.bipush 16, 2) := by decide +kernel
theorem dX7_grid_4 : decode cX7_grid 4 = .ok (.invokestatic 63, 3) := by decide +kernel
theorem dX7_grid_7 : decode cX7_grid 7 = .ok (.ifCond .eq 13, 3) := by decide +kernel
theorem dX7_grid_10 : decode cX7_grid 10 = .ok (.iload_n 2, 1) := by decide +kernel
theorem dX7_grid_11 : decode cX7_grid 11 = .ok (.iconst 2, 1) := by decide +kernel
theorem dX7_grid_12 : decode cX7_grid 12 = .ok (.bipush 16, 2) := by decide +kernel
theorem dX7_grid_14 : decode cX7_grid 14 = .ok (.invokestatic 63, 3) := by decide +kernel
theorem dX7_grid_17 : decode cX7_grid 17 = .ok (.ifCond .ne 6, 3) := by decide +kernel
theorem dX7_grid_20 : decode cX7_grid 20 = .ok (.bipush (-2), 2) := by decide +kernel
theorem dX7_grid_22 : decode cX7_grid 22 = .ok (.ireturn, 1) := by decide +kernel
theorem dX7_grid_23 : decode cX7_grid 23 = .ok (.aload_n 0, 1) := by decide +kernel
theorem dX7_grid_24 : decode cX7_grid 24 = .ok (.getfield 40, 3) := by decide +kernel
theorem dX7_grid_27 : decode cX7_grid 27 = .ok (.getfield 67, 3) := by decide +kernel
theorem dX7_grid_30 : decode cX7_grid 30 = .ok (.ifCond .le 6, 3) := by decide +kernel
theorem dX7_grid_33 : decode cX7_grid 33 = .ok (.bipush (-3), 2) := by decide +kernel
theorem dX7_grid_35 : decode cX7_grid 35 = .ok (.ireturn, 1) := by decide +kernel
theorem dX7_grid_36 : decode cX7_grid 36 = .ok (.aload_n 0, 1) := by decide +kernel
theorem dX7_grid_37 : decode cX7_grid 37 = .ok (.getfield 12, 3) := by decide +kernel
theorem dX7_grid_40 : decode cX7_grid 40 = .ok (.iload_n 1, 1) := by decide +kernel
theorem dX7_grid_41 : decode cX7_grid 41 = .ok (.iload_n 2, 1) := by decide +kernel
theorem dX7_grid_42 : decode cX7_grid 42 = .ok (.invokevirtual 70, 3) := by decide +kernel
theorem dX7_grid_45 : decode cX7_grid 45 = .ok (.aload_n 0, 1) := by decide +kernel
theorem dX7_grid_46 : decode cX7_grid 46 = .ok (.getfield 19, 3) := by decide +kernel
theorem dX7_grid_49 : decode cX7_grid 49 = .ok (.iconst 0, 1) := by decide +kernel
theorem dX7_grid_50 : decode cX7_grid 50 = .ok (.putfield 74, 3) := by decide +kernel
theorem dX7_grid_53 : decode cX7_grid 53 = .ok (.aload_n 0, 1) := by decide +kernel
theorem dX7_grid_54 : decode cX7_grid 54 = .ok (.getfield 26, 3) := by decide +kernel
theorem dX7_grid_57 : decode cX7_grid 57 = .ok (.iconst 0, 1) := by decide +kernel
theorem dX7_grid_58 : decode cX7_grid 58 = .ok (.putfield 77, 3) := by decide +kernel
theorem dX7_grid_61 : decode cX7_grid 61 = .ok (.aload_n 0, 1) := by decide +kernel
theorem dX7_grid_62 : decode cX7_grid 62 = .ok (.getfield 40, 3) := by decide +kernel
theorem dX7_grid_65 : decode cX7_grid 65 = .ok (.aload_n 0, 1) := by decide +kernel
theorem dX7_grid_66 : decode cX7_grid 66 = .ok (.getfield 12, 3) := by decide +kernel
theorem dX7_grid_69 : decode cX7_grid 69 = .ok (.invokevirtual 78, 3) := by decide +kernel
theorem dX7_grid_72 : decode cX7_grid 72 = .ok (.aload_n 0, 1) := by decide +kernel
theorem dX7_grid_73 : decode cX7_grid 73 = .ok (.getfield 12, 3) := by decide +kernel
theorem dX7_grid_76 : decode cX7_grid 76 = .ok (.getfield 82, 3) := by decide +kernel
theorem dX7_grid_79 : decode cX7_grid 79 = .ok (.ireturn, 1) := by decide +kernel
theorem dX7_cell_0 : decode cX7_cell 0 = .ok (.aload_n 0, 1) := by decide +kernel
theorem dX7_cell_1 : decode cX7_cell 1 = .ok (.getfield 12, 3) := by decide +kernel
theorem dX7_cell_4 : decode cX7_cell 4 = .ok (.iload_n 1, 1) := by decide +kernel
theorem dX7_cell_5 : decode cX7_cell 5 = .ok (.invokevirtual 85, 3) := by decide +kernel
theorem dX7_cell_8 : decode cX7_cell 8 = .ok (.ifCond .ne 5, 3) := by decide +kernel
theorem dX7_cell_11 : decode cX7_cell 11 = .ok (.iconst (-1), 1) := by decide +kernel
theorem dX7_cell_12 : decode cX7_cell 12 = .ok (.ireturn, 1) := by decide +kernel
theorem dX7_cell_13 : decode cX7_cell 13 = .ok (.iload_n 2, 1) := by decide +kernel
theorem dX7_cell_14 : decode cX7_cell 14 = .ok (.iconst 0, 1) := by decide +kernel
theorem dX7_cell_15 : decode cX7_cell 15 = .ok (.iconst 5, 1) := by decide +kernel
theorem dX7_cell_16 : decode cX7_cell 16 = .ok (.invokestatic 63, 3) := by decide +kernel
theorem dX7_cell_19 : decode cX7_cell 19 = .ok (.ifCond .eq 49, 3) := by decide +kernel
theorem dX7_cell_22 : decode cX7_cell 22 = .ok (.iload_n 3, 1) := by decide +kernel
theorem dX7_cell_23 : decode cX7_cell 23 = .ok (.iconst 0, 1) := by decide +kernel
theorem dX7_cell_24 : decode cX7_cell 24 = .ok (.sipush 200, 3) := by decide +kernel
theorem dX7_cell_27 : decode cX7_cell 27 = .ok (.invokestatic 63, 3) := by decide +kernel
theorem dX7_cell_30 : decode cX7_cell 30 = .ok (.ifCond .eq 38, 3) := by decide +kernel
theorem dX7_cell_33 : decode cX7_cell 33 = .ok (.iload 4, 2) := by decide +kernel
theorem dX7_cell_35 : decode cX7_cell 35 = .ok (.iconst 0, 1) := by decide +kernel
theorem dX7_cell_36 : decode cX7_cell 36 = .ok (.bipush 100, 2) := by decide +kernel
theorem dX7_cell_38 : decode cX7_cell 38 = .ok (.invokestatic 63, 3) := by decide +kernel
theorem dX7_cell_41 : decode cX7_cell 41 = .ok (.ifCond .eq 27, 3) := by decide +kernel
theorem dX7_cell_44 : decode cX7_cell 44 = .ok (.iload 5, 2) := by decide +kernel
theorem dX7_cell_46 : decode cX7_cell 46 = .ok (.iconst 0, 1) := by decide +kernel
theorem dX7_cell_47 : decode cX7_cell 47 = .ok (.bipush 50, 2) := by decide +kernel
theorem dX7_cell_49 : decode cX7_cell 49 = .ok (.invokestatic 63, 3) := by decide +kernel
theorem dX7_cell_52 : decode cX7_cell 52 = .ok (.ifCond .eq 16, 3) := by decide +kernel
theorem dX7_cell_55 : decode cX7_cell 55 = .ok (.iload_n 3, 1) := by decide +kernel
theorem dX7_cell_56 : decode cX7_cell 56 = .ok (.ifCond .eq 15, 3) := by decide +kernel
theorem dX7_cell_59 : decode cX7_cell 59 = .ok (.iload_n 2, 1) := by decide +kernel
theorem dX7_cell_60 : decode cX7_cell 60 = .ok (.ifCond .eq 8, 3) := by decide +kernel
theorem dX7_cell_63 : decode cX7_cell 63 = .ok (.iload_n 2, 1) := by decide +kernel
theorem dX7_cell_64 : decode cX7_cell 64 = .ok (.iconst 5, 1) := by decide +kernel
theorem dX7_cell_65 : decode cX7_cell 65 = .ok (.if_icmp .ne 6, 3) := by decide +kernel
theorem dX7_cell_68 : decode cX7_cell 68 = .ok (.bipush (-2), 2) := by decide +kernel
theorem dX7_cell_70 : decode cX7_cell 70 = .ok (.ireturn, 1) := by decide +kernel
theorem dX7_cell_71 : decode cX7_cell 71 = .ok (.aload_n 0, 1) := by decide +kernel
theorem dX7_cell_72 : decode cX7_cell 72 = .ok (.getfield 40, 3) := by decide +kernel
theorem dX7_cell_75 : decode cX7_cell 75 = .ok (.getfield 67, 3) := by decide +kernel
theorem dX7_cell_78 : decode cX7_cell 78 = .ok (.ifCond .le 6, 3) := by decide +kernel
theorem dX7_cell_81 : decode cX7_cell 81 = .ok (.bipush (-3), 2) := by decide +kernel
theorem dX7_cell_83 : decode cX7_cell 83 = .ok (.ireturn, 1) := by decide +kernel
theorem dX7_cell_84 : decode cX7_cell 84 = .ok (.aload_n 0, 1) := by decide +kernel
theorem dX7_cell_85 : decode cX7_cell 85 = .ok (.getfield 12, 3) := by decide +kernel
theorem dX7_cell_88 : decode cX7_cell 88 = .ok (.iload_n 1, 1) := by decide +kernel
theorem dX7_cell_89 : decode cX7_cell 89 = .ok (.iload_n 2, 1) := by decide +kernel
theorem dX7_cell_90 : decode cX7_cell 90 = .ok (.iload_n 3, 1) := by decide +kernel
theorem dX7_cell_91 : decode cX7_cell 91 = .ok (.iload 4, 2) := by decide +kernel
theorem dX7_cell_93 : decode cX7_cell 93 = .ok (.iload 5, 2) := by decide +kernel
theorem dX7_cell_95 : decode cX7_cell 95 = .ok (.invokevirtual 89, 3) := by decide +kernel
theorem dX7_cell_98 : decode cX7_cell 98 = .ok (.aload_n 0, 1) := by decide +kernel
theorem dX7_cell_99 : decode cX7_cell 99 = .ok (.getfield 40, 3) := by decide +kernel
theorem dX7_cell_102 : decode cX7_cell 102 = .ok (.aload_n 0, 1) := by decide +kernel
theorem dX7_cell_103 : decode cX7_cell 103 = .ok (.getfield 12, 3) := by decide +kernel
theorem dX7_cell_106 : decode cX7_cell 106 = .ok (.iload_n 1, 1) := by decide +kernel
theorem dX7_cell_107 : decode cX7_cell 107 = .ok (.invokevirtual 93, 3) := by decide +kernel
theorem dX7_cell_110 : decode cX7_cell 110 = .ok (.iconst 1, 1) := by decide +kernel
theorem dX7_cell_111 : decode cX7_cell 111 = .ok (.ireturn, 1) := by decide +kernel
theorem dX7_weather_0 : decode cX7_weather 0 = .ok (.iload_n 1, 1) := by decide +kernel
theorem dX7_weather_1 : decode cX7_weather 1 = .ok (.iconst 0, 1) := by decide +kernel
theorem dX7_weather_2 : decode cX7_weather 2 = .ok (.sipush 10000, 3) := by decide +kernel
theorem dX7_weather_5 : decode cX7_weather 5 = .ok (.invokestatic 63, 3) := by decide +kernel
theorem dX7_weather_8 : decode cX7_weather 8 = .ok (.ifCond .eq 33, 3) := by decide +kernel
theorem dX7_weather_11 : decode cX7_weather 11 = .ok (.iload_n 2, 1) := by decide +kernel
theorem dX7_weather_12 : decode cX7_weather 12 = .ok (.iconst 0, 1) := by decide +kernel
theorem dX7_weather_13 : decode cX7_weather 13 = .ok (.bipush 7, 2) := by decide +kernel
theorem dX7_weather_15 : decode cX7_weather 15 = .ok (.invokestatic 63, 3) := by decide +kernel
theorem dX7_weather_18 : decode cX7_weather 18 = .ok (.ifCond .eq 23, 3) := by decide +kernel
theorem dX7_weather_21 : decode cX7_weather 21 = .ok (.iload_n 3, 1) := by decide +kernel
theorem dX7_weather_22 : decode cX7_weather 22 = .ok (.iconst 0, 1) := by decide +kernel
theorem dX7_weather_23 : decode cX7_weather 23 = .ok (.iconst 4, 1) := by decide +kernel
theorem dX7_weather_24 : decode cX7_weather 24 = .ok (.invokestatic 63, 3) := by decide +kernel
theorem dX7_weather_27 : decode cX7_weather 27 = .ok (.ifCond .eq 14, 3) := by decide +kernel
theorem dX7_weather_30 : decode cX7_weather 30 = .ok (.iload 4, 2) := by decide +kernel
theorem dX7_weather_32 : decode cX7_weather 32 = .ok (.iconst 0, 1) := by decide +kernel
theorem dX7_weather_33 : decode cX7_weather 33 = .ok (.bipush 9, 2) := by decide +kernel
theorem dX7_weather_35 : decode cX7_weather 35 = .ok (.invokestatic 63, 3) := by decide +kernel
theorem dX7_weather_38 : decode cX7_weather 38 = .ok (.ifCond .ne 6, 3) := by decide +kernel
theorem dX7_weather_41 : decode cX7_weather 41 = .ok (.bipush (-2), 2) := by decide +kernel
theorem dX7_weather_43 : decode cX7_weather 43 = .ok (.ireturn, 1) := by decide +kernel
theorem dX7_weather_44 : decode cX7_weather 44 = .ok (.aload_n 0, 1) := by decide +kernel
theorem dX7_weather_45 : decode cX7_weather 45 = .ok (.getfield 19, 3) := by decide +kernel
theorem dX7_weather_48 : decode cX7_weather 48 = .ok (.getfield 74, 3) := by decide +kernel
theorem dX7_weather_51 : decode cX7_weather 51 = .ok (.bipush 16, 2) := by decide +kernel
theorem dX7_weather_53 : decode cX7_weather 53 = .ok (.if_icmp .lt 6, 3) := by decide +kernel
theorem dX7_weather_56 : decode cX7_weather 56 = .ok (.bipush (-4), 2) := by decide +kernel
theorem dX7_weather_58 : decode cX7_weather 58 = .ok (.ireturn, 1) := by decide +kernel
theorem dX7_weather_59 : decode cX7_weather 59 = .ok (.aload_n 0, 1) := by decide +kernel
theorem dX7_weather_60 : decode cX7_weather 60 = .ok (.getfield 19, 3) := by decide +kernel
theorem dX7_weather_63 : decode cX7_weather 63 = .ok (.iload_n 1, 1) := by decide +kernel
theorem dX7_weather_64 : decode cX7_weather 64 = .ok (.iload_n 2, 1) := by decide +kernel
theorem dX7_weather_65 : decode cX7_weather 65 = .ok (.iload_n 3, 1) := by decide +kernel
theorem dX7_weather_66 : decode cX7_weather 66 = .ok (.iload 4, 2) := by decide +kernel
theorem dX7_weather_68 : decode cX7_weather 68 = .ok (.invokevirtual 97, 3) := by decide +kernel
theorem dX7_weather_71 : decode cX7_weather 71 = .ok (.aload_n 0, 1) := by decide +kernel
theorem dX7_weather_72 : decode cX7_weather 72 = .ok (.getfield 19, 3) := by decide +kernel
theorem dX7_weather_75 : decode cX7_weather 75 = .ok (.getfield 74, 3) := by decide +kernel
theorem dX7_weather_78 : decode cX7_weather 78 = .ok (.ireturn, 1) := by decide +kernel
theorem dX7_seed_0 : decode cX7_seed 0 = .ok (.aload_n 0, 1) := by decide +kernel
theorem dX7_seed_1 : decode cX7_seed 1 = .ok (.getfield 55, 3) := by decide +kernel
theorem dX7_seed_4 : decode cX7_seed 4 = .ok (.istore_n 2, 1) := by decide +kernel
theorem dX7_seed_5 : decode cX7_seed 5 = .ok (.aload_n 0, 1) := by decide +kernel
theorem dX7_seed_6 : decode cX7_seed 6 = .ok (.iload_n 1, 1) := by decide +kernel
theorem dX7_seed_7 : decode cX7_seed 7 = .ok (.putfield 55, 3) := by decide +kernel
theorem dX7_seed_10 : decode cX7_seed 10 = .ok (.iload_n 2, 1) := by decide +kernel
theorem dX7_seed_11 : decode cX7_seed 11 = .ok (.ireturn, 1) := by decide +kernel
theorem dX7_light_0 : decode cX7_light 0 = .ok (.aload_n 0, 1) := by decide +kernel
theorem dX7_light_1 : decode cX7_light 1 = .ok (.getfield 12, 3) := by decide +kernel
theorem dX7_light_4 : decode cX7_light 4 = .ok (.iload_n 1, 1) := by decide +kernel
theorem dX7_light_5 : decode cX7_light 5 = .ok (.invokevirtual 85, 3) := by decide +kernel
theorem dX7_light_8 : decode cX7_light 8 = .ok (.ifCond .ne 5, 3) := by decide +kernel
theorem dX7_light_11 : decode cX7_light 11 = .ok (.iconst (-1), 1) := by decide +kernel
theorem dX7_light_12 : decode cX7_light 12 = .ok (.ireturn, 1) := by decide +kernel
theorem dX7_light_13 : decode cX7_light 13 = .ok (.iload_n 2, 1) := by decide +kernel
theorem dX7_light_14 : decode cX7_light 14 = .ok (.iconst 0, 1) := by decide +kernel
theorem dX7_light_15 : decode cX7_light 15 = .ok (.sipush 10000, 3) := by decide +kernel
theorem dX7_light_18 : decode cX7_light 18 = .ok (.invokestatic 63, 3) := by decide +kernel
theorem dX7_light_21 : decode cX7_light 21 = .ok (.ifCond .ne 6, 3) := by decide +kernel
theorem dX7_light_24 : decode cX7_light 24 = .ok (.bipush (-2), 2) := by decide +kernel
theorem dX7_light_26 : decode cX7_light 26 = .ok (.ireturn, 1) := by decide +kernel
theorem dX7_light_27 : decode cX7_light 27 = .ok (.aload_n 0, 1) := by decide +kernel
theorem dX7_light_28 : decode cX7_light 28 = .ok (.getfield 26, 3) := by decide +kernel
theorem dX7_light_31 : decode cX7_light 31 = .ok (.getfield 77, 3) := by decide +kernel
theorem dX7_light_34 : decode cX7_light 34 = .ok (.bipush 20, 2) := by decide +kernel
theorem dX7_light_36 : decode cX7_light 36 = .ok (.if_icmp .lt 6, 3) := by decide +kernel
theorem dX7_light_39 : decode cX7_light 39 = .ok (.bipush (-4), 2) := by decide +kernel
theorem dX7_light_41 : decode cX7_light 41 = .ok (.ireturn, 1) := by decide +kernel
theorem dX7_light_42 : decode cX7_light 42 = .ok (.aload_n 0, 1) := by decide +kernel
theorem dX7_light_43 : decode cX7_light 43 = .ok (.getfield 26, 3) := by decide +kernel
theorem dX7_light_46 : decode cX7_light 46 = .ok (.iload_n 1, 1) := by decide +kernel
theorem dX7_light_47 : decode cX7_light 47 = .ok (.iload_n 2, 1) := by decide +kernel
theorem dX7_light_48 : decode cX7_light 48 = .ok (.invokevirtual 101, 3) := by decide +kernel
theorem dX7_light_51 : decode cX7_light 51 = .ok (.aload_n 0, 1) := by decide +kernel
theorem dX7_light_52 : decode cX7_light 52 = .ok (.getfield 26, 3) := by decide +kernel
theorem dX7_light_55 : decode cX7_light 55 = .ok (.getfield 77, 3) := by decide +kernel
theorem dX7_light_58 : decode cX7_light 58 = .ok (.ireturn, 1) := by decide +kernel
theorem dX7_clear_0 : decode cX7_clear 0 = .ok (.aload_n 0, 1) := by decide +kernel
theorem dX7_clear_1 : decode cX7_clear 1 = .ok (.getfield 40, 3) := by decide +kernel
theorem dX7_clear_4 : decode cX7_clear 4 = .ok (.getfield 67, 3) := by decide +kernel
theorem dX7_clear_7 : decode cX7_clear 7 = .ok (.istore_n 1, 1) := by decide +kernel
theorem dX7_clear_8 : decode cX7_clear 8 = .ok (.aload_n 0, 1) := by decide +kernel
theorem dX7_clear_9 : decode cX7_clear 9 = .ok (.getfield 40, 3) := by decide +kernel
theorem dX7_clear_12 : decode cX7_clear 12 = .ok (.aload_n 0, 1) := by decide +kernel
theorem dX7_clear_13 : decode cX7_clear 13 = .ok (.getfield 12, 3) := by decide +kernel
theorem dX7_clear_16 : decode cX7_clear 16 = .ok (.invokevirtual 78, 3) := by decide +kernel
theorem dX7_clear_19 : decode cX7_clear 19 = .ok (.iload_n 1, 1) := by decide +kernel
theorem dX7_clear_20 : decode cX7_clear 20 = .ok (.ireturn, 1) := by decide +kernel
theorem dX7_step_0 : decode cX7_step 0 = .ok (.iload_n 1, 1) := by decide +kernel
theorem dX7_step_1 : decode cX7_step 1 = .ok (.iconst 0, 1) := by decide +kernel
theorem dX7_step_2 : decode cX7_step 2 = .ok (.sipush 500, 3) := by decide +kernel
theorem dX7_step_5 : decode cX7_step 5 = .ok (.invokestatic 63, 3) := by decide +kernel
theorem dX7_step_8 : decode cX7_step 8 = .ok (.ifCond .ne 6, 3) := by decide +kernel
theorem dX7_step_11 : decode cX7_step 11 = .ok (.bipush (-2), 2) := by decide +kernel
theorem dX7_step_13 : decode cX7_step 13 = .ok (.ireturn, 1) := by decide +kernel
theorem dX7_step_14 : decode cX7_step 14 = .ok (.iconst 0, 1) := by decide +kernel
theorem dX7_step_15 : decode cX7_step 15 = .ok (.istore_n 2, 1) := by decide +kernel
theorem dX7_step_16 : decode cX7_step 16 = .ok (.iload_n 2, 1) := by decide +kernel
theorem dX7_step_17 : decode cX7_step 17 = .ok (.iload_n 1, 1) := by decide +kernel
theorem dX7_step_18 : decode cX7_step 18 = .ok (.if_icmp .ge 17, 3) := by decide +kernel
theorem dX7_step_21 : decode cX7_step 21 = .ok (.aload_n 0, 1) := by decide +kernel
theorem dX7_step_22 : decode cX7_step 22 = .ok (.aload_n 0, 1) := by decide +kernel
theorem dX7_step_23 : decode cX7_step 23 = .ok (.getfield 40, 3) := by decide +kernel
theorem dX7_step_26 : decode cX7_step 26 = .ok (.invokevirtual 103, 3) := by decide +kernel
theorem dX7_step_29 : decode cX7_step 29 = .ok (.iinc 2 1, 3) := by decide +kernel
theorem dX7_step_32 : decode cX7_step 32 = .ok (.goto (-16), 3) := by decide +kernel
theorem dX7_step_35 : decode cX7_step 35 = .ok (.aload_n 0, 1) := by decide +kernel
theorem dX7_step_36 : decode cX7_step 36 = .ok (.getfield 40, 3) := by decide +kernel
theorem dX7_step_39 : decode cX7_step 39 = .ok (.getfield 67, 3) := by decide +kernel
theorem dX7_step_42 : decode cX7_step 42 = .ok (.ireturn, 1) := by decide +kernel
theorem dX7_about_0 : decode cX7_about 0 = .ok (.aload_n 0, 1) := by decide +kernel
theorem dX7_about_1 : decode cX7_about 1 = .ok (.getfield 12, 3) := by decide +kernel
theorem dX7_about_4 : decode cX7_about 4 = .ok (.iload_n 1, 1) := by decide +kernel
theorem dX7_about_5 : decode cX7_about 5 = .ok (.invokevirtual 85, 3) := by decide +kernel
theorem dX7_about_8 : decode cX7_about 8 = .ok (.ifCond .ne 5, 3) := by decide +kernel
theorem dX7_about_11 : decode cX7_about 11 = .ok (.iconst (-1), 1) := by decide +kernel
theorem dX7_about_12 : decode cX7_about 12 = .ok (.ireturn, 1) := by decide +kernel
theorem dX7_about_13 : decode cX7_about 13 = .ok (.iload_n 2, 1) := by decide +kernel
theorem dX7_about_14 : decode cX7_about 14 = .ok (.tableswitch 126 0 7 #[46, 56, 66, 76, 86, 96, 106, 116], 46) := by decide +kernel
theorem dX7_about_60 : decode cX7_about 60 = .ok (.aload_n 0, 1) := by decide +kernel
theorem dX7_about_61 : decode cX7_about 61 = .ok (.getfield 40, 3) := by decide +kernel
theorem dX7_about_64 : decode cX7_about 64 = .ok (.getfield 107, 3) := by decide +kernel
theorem dX7_about_67 : decode cX7_about 67 = .ok (.iload_n 1, 1) := by decide +kernel
theorem dX7_about_68 : decode cX7_about 68 = .ok (.iaload, 1) := by decide +kernel
theorem dX7_about_69 : decode cX7_about 69 = .ok (.ireturn, 1) := by decide +kernel
theorem dX7_about_70 : decode cX7_about 70 = .ok (.aload_n 0, 1) := by decide +kernel
theorem dX7_about_71 : decode cX7_about 71 = .ok (.getfield 40, 3) := by decide +kernel
theorem dX7_about_74 : decode cX7_about 74 = .ok (.getfield 110, 3) := by decide +kernel
theorem dX7_about_77 : decode cX7_about 77 = .ok (.iload_n 1, 1) := by decide +kernel
theorem dX7_about_78 : decode cX7_about 78 = .ok (.iaload, 1) := by decide +kernel
theorem dX7_about_79 : decode cX7_about 79 = .ok (.ireturn, 1) := by decide +kernel
theorem dX7_about_80 : decode cX7_about 80 = .ok (.aload_n 0, 1) := by decide +kernel
theorem dX7_about_81 : decode cX7_about 81 = .ok (.getfield 40, 3) := by decide +kernel
theorem dX7_about_84 : decode cX7_about 84 = .ok (.getfield 113, 3) := by decide +kernel
theorem dX7_about_87 : decode cX7_about 87 = .ok (.iload_n 1, 1) := by decide +kernel
theorem dX7_about_88 : decode cX7_about 88 = .ok (.iaload, 1) := by decide +kernel
theorem dX7_about_89 : decode cX7_about 89 = .ok (.ireturn, 1) := by decide +kernel
theorem dX7_about_90 : decode cX7_about 90 = .ok (.aload_n 0, 1) := by decide +kernel
theorem dX7_about_91 : decode cX7_about 91 = .ok (.getfield 40, 3) := by decide +kernel
theorem dX7_about_94 : decode cX7_about 94 = .ok (.getfield 116, 3) := by decide +kernel
theorem dX7_about_97 : decode cX7_about 97 = .ok (.iload_n 1, 1) := by decide +kernel
theorem dX7_about_98 : decode cX7_about 98 = .ok (.iaload, 1) := by decide +kernel
theorem dX7_about_99 : decode cX7_about 99 = .ok (.ireturn, 1) := by decide +kernel
theorem dX7_about_100 : decode cX7_about 100 = .ok (.aload_n 0, 1) := by decide +kernel
theorem dX7_about_101 : decode cX7_about 101 = .ok (.getfield 40, 3) := by decide +kernel
theorem dX7_about_104 : decode cX7_about 104 = .ok (.getfield 119, 3) := by decide +kernel
theorem dX7_about_107 : decode cX7_about 107 = .ok (.iload_n 1, 1) := by decide +kernel
theorem dX7_about_108 : decode cX7_about 108 = .ok (.iaload, 1) := by decide +kernel
theorem dX7_about_109 : decode cX7_about 109 = .ok (.ireturn, 1) := by decide +kernel
theorem dX7_about_110 : decode cX7_about 110 = .ok (.aload_n 0, 1) := by decide +kernel
theorem dX7_about_111 : decode cX7_about 111 = .ok (.getfield 12, 3) := by decide +kernel
theorem dX7_about_114 : decode cX7_about 114 = .ok (.getfield 122, 3) := by decide +kernel
theorem dX7_about_117 : decode cX7_about 117 = .ok (.iload_n 1, 1) := by decide +kernel
theorem dX7_about_118 : decode cX7_about 118 = .ok (.iaload, 1) := by decide +kernel
theorem dX7_about_119 : decode cX7_about 119 = .ok (.ireturn, 1) := by decide +kernel
theorem dX7_about_120 : decode cX7_about 120 = .ok (.aload_n 0, 1) := by decide +kernel
theorem dX7_about_121 : decode cX7_about 121 = .ok (.getfield 12, 3) := by decide +kernel
theorem dX7_about_124 : decode cX7_about 124 = .ok (.getfield 125, 3) := by decide +kernel
theorem dX7_about_127 : decode cX7_about 127 = .ok (.iload_n 1, 1) := by decide +kernel
theorem dX7_about_128 : decode cX7_about 128 = .ok (.iaload, 1) := by decide +kernel
theorem dX7_about_129 : decode cX7_about 129 = .ok (.ireturn, 1) := by decide +kernel
theorem dX7_about_130 : decode cX7_about 130 = .ok (.aload_n 0, 1) := by decide +kernel
theorem dX7_about_131 : decode cX7_about 131 = .ok (.getfield 40, 3) := by decide +kernel
theorem dX7_about_134 : decode cX7_about 134 = .ok (.getfield 128, 3) := by decide +kernel
theorem dX7_about_137 : decode cX7_about 137 = .ok (.iload_n 1, 1) := by decide +kernel
theorem dX7_about_138 : decode cX7_about 138 = .ok (.iaload, 1) := by decide +kernel
theorem dX7_about_139 : decode cX7_about 139 = .ok (.ireturn, 1) := by decide +kernel
theorem dX7_about_140 : decode cX7_about 140 = .ok (.bipush (-2), 2) := by decide +kernel
theorem dX7_about_142 : decode cX7_about 142 = .ok (.ireturn, 1) := by decide +kernel
theorem dX7_many_0 : decode cX7_many 0 = .ok (.iload_n 1, 1) := by decide +kernel
theorem dX7_many_1 : decode cX7_many 1 = .ok (.iconst 0, 1) := by decide +kernel
theorem dX7_many_2 : decode cX7_many 2 = .ok (.iconst 5, 1) := by decide +kernel
theorem dX7_many_3 : decode cX7_many 3 = .ok (.invokestatic 63, 3) := by decide +kernel
theorem dX7_many_6 : decode cX7_many 6 = .ok (.ifCond .ne 6, 3) := by decide +kernel
theorem dX7_many_9 : decode cX7_many 9 = .ok (.bipush (-2), 2) := by decide +kernel
theorem dX7_many_11 : decode cX7_many 11 = .ok (.ireturn, 1) := by decide +kernel
theorem dX7_many_12 : decode cX7_many 12 = .ok (.iconst 0, 1) := by decide +kernel
theorem dX7_many_13 : decode cX7_many 13 = .ok (.istore_n 2, 1) := by decide +kernel
theorem dX7_many_14 : decode cX7_many 14 = .ok (.iconst 0, 1) := by decide +kernel
theorem dX7_many_15 : decode cX7_many 15 = .ok (.istore_n 3, 1) := by decide +kernel
theorem dX7_many_16 : decode cX7_many 16 = .ok (.iload_n 3, 1) := by decide +kernel
theorem dX7_many_17 : decode cX7_many 17 = .ok (.aload_n 0, 1) := by decide +kernel
theorem dX7_many_18 : decode cX7_many 18 = .ok (.getfield 12, 3) := by decide +kernel
theorem dX7_many_21 : decode cX7_many 21 = .ok (.getfield 82, 3) := by decide +kernel
theorem dX7_many_24 : decode cX7_many 24 = .ok (.if_icmp .ge 25, 3) := by decide +kernel
theorem dX7_many_27 : decode cX7_many 27 = .ok (.aload_n 0, 1) := by decide +kernel
theorem dX7_many_28 : decode cX7_many 28 = .ok (.getfield 40, 3) := by decide +kernel
theorem dX7_many_31 : decode cX7_many 31 = .ok (.getfield 107, 3) := by decide +kernel
theorem dX7_many_34 : decode cX7_many 34 = .ok (.iload_n 3, 1) := by decide +kernel
theorem dX7_many_35 : decode cX7_many 35 = .ok (.iaload, 1) := by decide +kernel
theorem dX7_many_36 : decode cX7_many 36 = .ok (.iload_n 1, 1) := by decide +kernel
theorem dX7_many_37 : decode cX7_many 37 = .ok (.if_icmp .ne 6, 3) := by decide +kernel
theorem dX7_many_40 : decode cX7_many 40 = .ok (.iinc 2 1, 3) := by decide +kernel
theorem dX7_many_43 : decode cX7_many 43 = .ok (.iinc 3 1, 3) := by decide +kernel
theorem dX7_many_46 : decode cX7_many 46 = .ok (.goto (-30), 3) := by decide +kernel
theorem dX7_many_49 : decode cX7_many 49 = .ok (.iload_n 2, 1) := by decide +kernel
theorem dX7_many_50 : decode cX7_many 50 = .ok (.ireturn, 1) := by decide +kernel
theorem dX7_told_0 : decode cX7_told 0 = .ok (.iload_n 1, 1) := by decide +kernel
theorem dX7_told_1 : decode cX7_told 1 = .ok (.tableswitch 216 0 13 #[71, 79, 87, 95, 103, 111, 122, 140, 158, 176, 184, 192, 200, 208], 71) := by decide +kernel
theorem dX7_told_72 : decode cX7_told 72 = .ok (.aload_n 0, 1) := by decide +kernel
theorem dX7_told_73 : decode cX7_told 73 = .ok (.getfield 12, 3) := by decide +kernel
theorem dX7_told_76 : decode cX7_told 76 = .ok (.getfield 131, 3) := by decide +kernel
theorem dX7_told_79 : decode cX7_told 79 = .ok (.ireturn, 1) := by decide +kernel
theorem dX7_told_80 : decode cX7_told 80 = .ok (.aload_n 0, 1) := by decide +kernel
theorem dX7_told_81 : decode cX7_told 81 = .ok (.getfield 12, 3) := by decide +kernel
theorem dX7_told_84 : decode cX7_told 84 = .ok (.getfield 134, 3) := by decide +kernel
theorem dX7_told_87 : decode cX7_told 87 = .ok (.ireturn, 1) := by decide +kernel
theorem dX7_told_88 : decode cX7_told 88 = .ok (.aload_n 0, 1) := by decide +kernel
theorem dX7_told_89 : decode cX7_told 89 = .ok (.getfield 40, 3) := by decide +kernel
theorem dX7_told_92 : decode cX7_told 92 = .ok (.getfield 67, 3) := by decide +kernel
theorem dX7_told_95 : decode cX7_told 95 = .ok (.ireturn, 1) := by decide +kernel
theorem dX7_told_96 : decode cX7_told 96 = .ok (.aload_n 0, 1) := by decide +kernel
theorem dX7_told_97 : decode cX7_told 97 = .ok (.getfield 19, 3) := by decide +kernel
theorem dX7_told_100 : decode cX7_told 100 = .ok (.getfield 74, 3) := by decide +kernel
theorem dX7_told_103 : decode cX7_told 103 = .ok (.ireturn, 1) := by decide +kernel
theorem dX7_told_104 : decode cX7_told 104 = .ok (.aload_n 0, 1) := by decide +kernel
theorem dX7_told_105 : decode cX7_told 105 = .ok (.getfield 40, 3) := by decide +kernel
theorem dX7_told_108 : decode cX7_told 108 = .ok (.getfield 137, 3) := by decide +kernel
theorem dX7_told_111 : decode cX7_told 111 = .ok (.ireturn, 1) := by decide +kernel
theorem dX7_told_112 : decode cX7_told 112 = .ok (.aload_n 0, 1) := by decide +kernel
theorem dX7_told_113 : decode cX7_told 113 = .ok (.getfield 40, 3) := by decide +kernel
theorem dX7_told_116 : decode cX7_told 116 = .ok (.getfield 140, 3) := by decide +kernel
theorem dX7_told_119 : decode cX7_told 119 = .ok (.getfield 144, 3) := by decide +kernel
theorem dX7_told_122 : decode cX7_told 122 = .ok (.ireturn, 1) := by decide +kernel
theorem dX7_told_123 : decode cX7_told 123 = .ok (.aload_n 0, 1) := by decide +kernel
theorem dX7_told_124 : decode cX7_told 124 = .ok (.getfield 40, 3) := by decide +kernel
theorem dX7_told_127 : decode cX7_told 127 = .ok (.getfield 110, 3) := by decide +kernel
theorem dX7_told_130 : decode cX7_told 130 = .ok (.aload_n 0, 1) := by decide +kernel
theorem dX7_told_131 : decode cX7_told 131 = .ok (.getfield 12, 3) := by decide +kernel
theorem dX7_told_134 : decode cX7_told 134 = .ok (.getfield 82, 3) := by decide +kernel
theorem dX7_told_137 : decode cX7_told 137 = .ok (.invokestatic 147, 3) := by decide +kernel
theorem dX7_told_140 : decode cX7_told 140 = .ok (.ireturn, 1) := by decide +kernel
theorem dX7_told_141 : decode cX7_told 141 = .ok (.aload_n 0, 1) := by decide +kernel
theorem dX7_told_142 : decode cX7_told 142 = .ok (.getfield 40, 3) := by decide +kernel
theorem dX7_told_145 : decode cX7_told 145 = .ok (.getfield 116, 3) := by decide +kernel
theorem dX7_told_148 : decode cX7_told 148 = .ok (.aload_n 0, 1) := by decide +kernel
theorem dX7_told_149 : decode cX7_told 149 = .ok (.getfield 12, 3) := by decide +kernel
theorem dX7_told_152 : decode cX7_told 152 = .ok (.getfield 82, 3) := by decide +kernel
theorem dX7_told_155 : decode cX7_told 155 = .ok (.invokestatic 147, 3) := by decide +kernel
theorem dX7_told_158 : decode cX7_told 158 = .ok (.ireturn, 1) := by decide +kernel
theorem dX7_told_159 : decode cX7_told 159 = .ok (.aload_n 0, 1) := by decide +kernel
theorem dX7_told_160 : decode cX7_told 160 = .ok (.getfield 40, 3) := by decide +kernel
theorem dX7_told_163 : decode cX7_told 163 = .ok (.getfield 119, 3) := by decide +kernel
theorem dX7_told_166 : decode cX7_told 166 = .ok (.aload_n 0, 1) := by decide +kernel
theorem dX7_told_167 : decode cX7_told 167 = .ok (.getfield 12, 3) := by decide +kernel
theorem dX7_told_170 : decode cX7_told 170 = .ok (.getfield 82, 3) := by decide +kernel
theorem dX7_told_173 : decode cX7_told 173 = .ok (.invokestatic 147, 3) := by decide +kernel
theorem dX7_told_176 : decode cX7_told 176 = .ok (.ireturn, 1) := by decide +kernel
theorem dX7_told_177 : decode cX7_told 177 = .ok (.aload_n 0, 1) := by decide +kernel
theorem dX7_told_178 : decode cX7_told 178 = .ok (.getfield 40, 3) := by decide +kernel
theorem dX7_told_181 : decode cX7_told 181 = .ok (.getfield 151, 3) := by decide +kernel
theorem dX7_told_184 : decode cX7_told 184 = .ok (.ireturn, 1) := by decide +kernel
theorem dX7_told_185 : decode cX7_told 185 = .ok (.aload_n 0, 1) := by decide +kernel
theorem dX7_told_186 : decode cX7_told 186 = .ok (.getfield 40, 3) := by decide +kernel
theorem dX7_told_189 : decode cX7_told 189 = .ok (.getfield 154, 3) := by decide +kernel
theorem dX7_told_192 : decode cX7_told 192 = .ok (.ireturn, 1) := by decide +kernel
theorem dX7_told_193 : decode cX7_told 193 = .ok (.aload_n 0, 1) := by decide +kernel
theorem dX7_told_194 : decode cX7_told 194 = .ok (.getfield 40, 3) := by decide +kernel
theorem dX7_told_197 : decode cX7_told 197 = .ok (.getfield 157, 3) := by decide +kernel
theorem dX7_told_200 : decode cX7_told 200 = .ok (.ireturn, 1) := by decide +kernel
theorem dX7_told_201 : decode cX7_told 201 = .ok (.aload_n 0, 1) := by decide +kernel
theorem dX7_told_202 : decode cX7_told 202 = .ok (.getfield 40, 3) := by decide +kernel
theorem dX7_told_205 : decode cX7_told 205 = .ok (.getfield 160, 3) := by decide +kernel
theorem dX7_told_208 : decode cX7_told 208 = .ok (.ireturn, 1) := by decide +kernel
theorem dX7_told_209 : decode cX7_told 209 = .ok (.aload_n 0, 1) := by decide +kernel
theorem dX7_told_210 : decode cX7_told 210 = .ok (.getfield 40, 3) := by decide +kernel
theorem dX7_told_213 : decode cX7_told 213 = .ok (.getfield 163, 3) := by decide +kernel
theorem dX7_told_216 : decode cX7_told 216 = .ok (.ireturn, 1) := by decide +kernel
theorem dX7_told_217 : decode cX7_told 217 = .ok (.bipush (-2), 2) := by decide +kernel
theorem dX7_told_219 : decode cX7_told 219 = .ok (.ireturn, 1) := by decide +kernel
theorem dX7_sky_0 : decode cX7_sky 0 = .ok (.iload_n 1, 1) := by decide +kernel
theorem dX7_sky_1 : decode cX7_sky 1 = .ok (.ifCond .lt 12, 3) := by decide +kernel
theorem dX7_sky_4 : decode cX7_sky 4 = .ok (.iload_n 2, 1) := by decide +kernel
theorem dX7_sky_5 : decode cX7_sky 5 = .ok (.iconst 0, 1) := by decide +kernel
theorem dX7_sky_6 : decode cX7_sky 6 = .ok (.iconst 2, 1) := by decide +kernel
theorem dX7_sky_7 : decode cX7_sky 7 = .ok (.invokestatic 63, 3) := by decide +kernel
theorem dX7_sky_10 : decode cX7_sky 10 = .ok (.ifCond .ne 6, 3) := by decide +kernel
theorem dX7_sky_13 : decode cX7_sky 13 = .ok (.bipush (-2), 2) := by decide +kernel
theorem dX7_sky_15 : decode cX7_sky 15 = .ok (.ireturn, 1) := by decide +kernel
theorem dX7_sky_16 : decode cX7_sky 16 = .ok (.aload_n 0, 1) := by decide +kernel
theorem dX7_sky_17 : decode cX7_sky 17 = .ok (.getfield 19, 3) := by decide +kernel
theorem dX7_sky_20 : decode cX7_sky 20 = .ok (.aload_n 0, 1) := by decide +kernel
theorem dX7_sky_21 : decode cX7_sky 21 = .ok (.getfield 19, 3) := by decide +kernel
theorem dX7_sky_24 : decode cX7_sky 24 = .ok (.iload_n 1, 1) := by decide +kernel
theorem dX7_sky_25 : decode cX7_sky 25 = .ok (.invokevirtual 166, 3) := by decide +kernel
theorem dX7_sky_28 : decode cX7_sky 28 = .ok (.iload_n 2, 1) := by decide +kernel
theorem dX7_sky_29 : decode cX7_sky 29 = .ok (.invokevirtual 170, 3) := by decide +kernel
theorem dX7_sky_32 : decode cX7_sky 32 = .ok (.ireturn, 1) := by decide +kernel
theorem dX7_front_0 : decode cX7_front 0 = .ok (.iconst 0, 1) := by decide +kernel
theorem dX7_front_1 : decode cX7_front 1 = .ok (.istore_n 2, 1) := by decide +kernel
theorem dX7_front_2 : decode cX7_front 2 = .ok (.iconst 0, 1) := by decide +kernel
theorem dX7_front_3 : decode cX7_front 3 = .ok (.istore_n 3, 1) := by decide +kernel
theorem dX7_front_4 : decode cX7_front 4 = .ok (.iload_n 3, 1) := by decide +kernel
theorem dX7_front_5 : decode cX7_front 5 = .ok (.aload_n 0, 1) := by decide +kernel
theorem dX7_front_6 : decode cX7_front 6 = .ok (.getfield 12, 3) := by decide +kernel
theorem dX7_front_9 : decode cX7_front 9 = .ok (.getfield 82, 3) := by decide +kernel
theorem dX7_front_12 : decode cX7_front 12 = .ok (.if_icmp .ge 40, 3) := by decide +kernel
theorem dX7_front_15 : decode cX7_front 15 = .ok (.aload_n 0, 1) := by decide +kernel
theorem dX7_front_16 : decode cX7_front 16 = .ok (.getfield 40, 3) := by decide +kernel
theorem dX7_front_19 : decode cX7_front 19 = .ok (.getfield 107, 3) := by decide +kernel
theorem dX7_front_22 : decode cX7_front 22 = .ok (.iload_n 3, 1) := by decide +kernel
theorem dX7_front_23 : decode cX7_front 23 = .ok (.iaload, 1) := by decide +kernel
theorem dX7_front_24 : decode cX7_front 24 = .ok (.iconst 1, 1) := by decide +kernel
theorem dX7_front_25 : decode cX7_front 25 = .ok (.if_icmp .ne 21, 3) := by decide +kernel
theorem dX7_front_28 : decode cX7_front 28 = .ok (.aload_n 0, 1) := by decide +kernel
theorem dX7_front_29 : decode cX7_front 29 = .ok (.iload_n 3, 1) := by decide +kernel
theorem dX7_front_30 : decode cX7_front 30 = .ok (.invokevirtual 174, 3) := by decide +kernel
theorem dX7_front_33 : decode cX7_front 33 = .ok (.ifCond .eq 13, 3) := by decide +kernel
theorem dX7_front_36 : decode cX7_front 36 = .ok (.iload_n 2, 1) := by decide +kernel
theorem dX7_front_37 : decode cX7_front 37 = .ok (.iload_n 1, 1) := by decide +kernel
theorem dX7_front_38 : decode cX7_front 38 = .ok (.if_icmp .ne 5, 3) := by decide +kernel
theorem dX7_front_41 : decode cX7_front 41 = .ok (.iload_n 3, 1) := by decide +kernel
theorem dX7_front_42 : decode cX7_front 42 = .ok (.ireturn, 1) := by decide +kernel
theorem dX7_front_43 : decode cX7_front 43 = .ok (.iinc 2 1, 3) := by decide +kernel
theorem dX7_front_46 : decode cX7_front 46 = .ok (.iinc 3 1, 3) := by decide +kernel
theorem dX7_front_49 : decode cX7_front 49 = .ok (.goto (-45), 3) := by decide +kernel
theorem dX7_front_52 : decode cX7_front 52 = .ok (.bipush (-6), 2) := by decide +kernel
theorem dX7_front_54 : decode cX7_front 54 = .ok (.ireturn, 1) := by decide +kernel
theorem dX7_crew_0 : decode cX7_crew 0 = .ok (.aload_n 0, 1) := by decide +kernel
theorem dX7_crew_1 : decode cX7_crew 1 = .ok (.getfield 12, 3) := by decide +kernel
theorem dX7_crew_4 : decode cX7_crew 4 = .ok (.iload_n 1, 1) := by decide +kernel
theorem dX7_crew_5 : decode cX7_crew 5 = .ok (.invokevirtual 85, 3) := by decide +kernel
theorem dX7_crew_8 : decode cX7_crew 8 = .ok (.ifCond .ne 5, 3) := by decide +kernel
theorem dX7_crew_11 : decode cX7_crew 11 = .ok (.iconst (-1), 1) := by decide +kernel
theorem dX7_crew_12 : decode cX7_crew 12 = .ok (.ireturn, 1) := by decide +kernel
theorem dX7_crew_13 : decode cX7_crew 13 = .ok (.aload_n 0, 1) := by decide +kernel
theorem dX7_crew_14 : decode cX7_crew 14 = .ok (.getfield 40, 3) := by decide +kernel
theorem dX7_crew_17 : decode cX7_crew 17 = .ok (.getfield 137, 3) := by decide +kernel
theorem dX7_crew_20 : decode cX7_crew 20 = .ok (.bipush 8, 2) := by decide +kernel
theorem dX7_crew_22 : decode cX7_crew 22 = .ok (.if_icmp .lt 6, 3) := by decide +kernel
theorem dX7_crew_25 : decode cX7_crew 25 = .ok (.bipush (-4), 2) := by decide +kernel
theorem dX7_crew_27 : decode cX7_crew 27 = .ok (.ireturn, 1) := by decide +kernel
theorem dX7_crew_28 : decode cX7_crew 28 = .ok (.aload_n 0, 1) := by decide +kernel
theorem dX7_crew_29 : decode cX7_crew 29 = .ok (.getfield 12, 3) := by decide +kernel
theorem dX7_crew_32 : decode cX7_crew 32 = .ok (.getfield 122, 3) := by decide +kernel
theorem dX7_crew_35 : decode cX7_crew 35 = .ok (.iload_n 1, 1) := by decide +kernel
theorem dX7_crew_36 : decode cX7_crew 36 = .ok (.iaload, 1) := by decide +kernel
theorem dX7_crew_37 : decode cX7_crew 37 = .ok (.ifCond .eq 16, 3) := by decide +kernel
theorem dX7_crew_40 : decode cX7_crew 40 = .ok (.aload_n 0, 1) := by decide +kernel
theorem dX7_crew_41 : decode cX7_crew 41 = .ok (.getfield 40, 3) := by decide +kernel
theorem dX7_crew_44 : decode cX7_crew 44 = .ok (.getfield 107, 3) := by decide +kernel
theorem dX7_crew_47 : decode cX7_crew 47 = .ok (.iload_n 1, 1) := by decide +kernel
theorem dX7_crew_48 : decode cX7_crew 48 = .ok (.iaload, 1) := by decide +kernel
theorem dX7_crew_49 : decode cX7_crew 49 = .ok (.iconst 2, 1) := by decide +kernel
theorem dX7_crew_50 : decode cX7_crew 50 = .ok (.if_icmp .ne 6, 3) := by decide +kernel
theorem dX7_crew_53 : decode cX7_crew 53 = .ok (.bipush (-5), 2) := by decide +kernel
theorem dX7_crew_55 : decode cX7_crew 55 = .ok (.ireturn, 1) := by decide +kernel
theorem dX7_crew_56 : decode cX7_crew 56 = .ok (.aload_n 0, 1) := by decide +kernel
theorem dX7_crew_57 : decode cX7_crew 57 = .ok (.getfield 40, 3) := by decide +kernel
theorem dX7_crew_60 : decode cX7_crew 60 = .ok (.getfield 177, 3) := by decide +kernel
theorem dX7_crew_63 : decode cX7_crew 63 = .ok (.aload_n 0, 1) := by decide +kernel
theorem dX7_crew_64 : decode cX7_crew 64 = .ok (.getfield 40, 3) := by decide +kernel
theorem dX7_crew_67 : decode cX7_crew 67 = .ok (.getfield 137, 3) := by decide +kernel
theorem dX7_crew_70 : decode cX7_crew 70 = .ok (.aaload, 1) := by decide +kernel
theorem dX7_crew_71 : decode cX7_crew 71 = .ok (.iload_n 1, 1) := by decide +kernel
theorem dX7_crew_72 : decode cX7_crew 72 = .ok (.invokevirtual 181, 3) := by decide +kernel
theorem dX7_crew_75 : decode cX7_crew 75 = .ok (.aload_n 0, 1) := by decide +kernel
theorem dX7_crew_76 : decode cX7_crew 76 = .ok (.getfield 40, 3) := by decide +kernel
theorem dX7_crew_79 : decode cX7_crew 79 = .ok (.dup, 1) := by decide +kernel
theorem dX7_crew_80 : decode cX7_crew 80 = .ok (.getfield 137, 3) := by decide +kernel
theorem dX7_crew_83 : decode cX7_crew 83 = .ok (.iconst 1, 1) := by decide +kernel
theorem dX7_crew_84 : decode cX7_crew 84 = .ok (.iadd, 1) := by decide +kernel
theorem dX7_crew_85 : decode cX7_crew 85 = .ok (.putfield 137, 3) := by decide +kernel
theorem dX7_crew_88 : decode cX7_crew 88 = .ok (.aload_n 0, 1) := by decide +kernel
theorem dX7_crew_89 : decode cX7_crew 89 = .ok (.getfield 40, 3) := by decide +kernel
theorem dX7_crew_92 : decode cX7_crew 92 = .ok (.getfield 137, 3) := by decide +kernel
theorem dX7_crew_95 : decode cX7_crew 95 = .ok (.iconst 1, 1) := by decide +kernel
theorem dX7_crew_96 : decode cX7_crew 96 = .ok (.isub, 1) := by decide +kernel
theorem dX7_crew_97 : decode cX7_crew 97 = .ok (.ireturn, 1) := by decide +kernel
theorem dX7_plan_0 : decode cX7_plan 0 = .ok (.aload_n 0, 1) := by decide +kernel
theorem dX7_plan_1 : decode cX7_plan 1 = .ok (.iload_n 1, 1) := by decide +kernel
theorem dX7_plan_2 : decode cX7_plan 2 = .ok (.invokevirtual 186, 3) := by decide +kernel
theorem dX7_plan_5 : decode cX7_plan 5 = .ok (.ifCond .eq 19, 3) := by decide +kernel
theorem dX7_plan_8 : decode cX7_plan 8 = .ok (.iload_n 2, 1) := by decide +kernel
theorem dX7_plan_9 : decode cX7_plan 9 = .ok (.iconst 1, 1) := by decide +kernel
theorem dX7_plan_10 : decode cX7_plan 10 = .ok (.if_icmp .ne 16, 3) := by decide +kernel
theorem dX7_plan_13 : decode cX7_plan 13 = .ok (.aload_n 0, 1) := by decide +kernel
theorem dX7_plan_14 : decode cX7_plan 14 = .ok (.getfield 12, 3) := by decide +kernel
theorem dX7_plan_17 : decode cX7_plan 17 = .ok (.iload_n 3, 1) := by decide +kernel
theorem dX7_plan_18 : decode cX7_plan 18 = .ok (.invokevirtual 85, 3) := by decide +kernel
theorem dX7_plan_21 : decode cX7_plan 21 = .ok (.ifCond .ne 5, 3) := by decide +kernel
theorem dX7_plan_24 : decode cX7_plan 24 = .ok (.iconst (-1), 1) := by decide +kernel
theorem dX7_plan_25 : decode cX7_plan 25 = .ok (.ireturn, 1) := by decide +kernel
theorem dX7_plan_26 : decode cX7_plan 26 = .ok (.iload_n 2, 1) := by decide +kernel
theorem dX7_plan_27 : decode cX7_plan 27 = .ok (.iconst 0, 1) := by decide +kernel
theorem dX7_plan_28 : decode cX7_plan 28 = .ok (.iconst 5, 1) := by decide +kernel
theorem dX7_plan_29 : decode cX7_plan 29 = .ok (.invokestatic 63, 3) := by decide +kernel
theorem dX7_plan_32 : decode cX7_plan 32 = .ok (.ifCond .eq 17, 3) := by decide +kernel
theorem dX7_plan_35 : decode cX7_plan 35 = .ok (.iload_n 2, 1) := by decide +kernel
theorem dX7_plan_36 : decode cX7_plan 36 = .ok (.ifCond .ne 16, 3) := by decide +kernel
theorem dX7_plan_39 : decode cX7_plan 39 = .ok (.iload_n 3, 1) := by decide +kernel
theorem dX7_plan_40 : decode cX7_plan 40 = .ok (.iconst 1, 1) := by decide +kernel
theorem dX7_plan_41 : decode cX7_plan 41 = .ok (.bipush 100, 2) := by decide +kernel
theorem dX7_plan_43 : decode cX7_plan 43 = .ok (.invokestatic 63, 3) := by decide +kernel
theorem dX7_plan_46 : decode cX7_plan 46 = .ok (.ifCond .ne 6, 3) := by decide +kernel
theorem dX7_plan_49 : decode cX7_plan 49 = .ok (.bipush (-2), 2) := by decide +kernel
theorem dX7_plan_51 : decode cX7_plan 51 = .ok (.ireturn, 1) := by decide +kernel
theorem dX7_plan_52 : decode cX7_plan 52 = .ok (.aload_n 0, 1) := by decide +kernel
theorem dX7_plan_53 : decode cX7_plan 53 = .ok (.getfield 40, 3) := by decide +kernel
theorem dX7_plan_56 : decode cX7_plan 56 = .ok (.getfield 177, 3) := by decide +kernel
theorem dX7_plan_59 : decode cX7_plan 59 = .ok (.iload_n 1, 1) := by decide +kernel
theorem dX7_plan_60 : decode cX7_plan 60 = .ok (.aaload, 1) := by decide +kernel
theorem dX7_plan_61 : decode cX7_plan 61 = .ok (.astore 4, 2) := by decide +kernel
theorem dX7_plan_63 : decode cX7_plan 63 = .ok (.aload 4, 2) := by decide +kernel
theorem dX7_plan_65 : decode cX7_plan 65 = .ok (.getfield 189, 3) := by decide +kernel
theorem dX7_plan_68 : decode cX7_plan 68 = .ok (.ifCond .eq 6, 3) := by decide +kernel
theorem dX7_plan_71 : decode cX7_plan 71 = .ok (.bipush (-3), 2) := by decide +kernel
theorem dX7_plan_73 : decode cX7_plan 73 = .ok (.ireturn, 1) := by decide +kernel
theorem dX7_plan_74 : decode cX7_plan 74 = .ok (.aload 4, 2) := by decide +kernel
theorem dX7_plan_76 : decode cX7_plan 76 = .ok (.getfield 192, 3) := by decide +kernel
theorem dX7_plan_79 : decode cX7_plan 79 = .ok (.bipush 12, 2) := by decide +kernel
theorem dX7_plan_81 : decode cX7_plan 81 = .ok (.if_icmp .lt 6, 3) := by decide +kernel
theorem dX7_plan_84 : decode cX7_plan 84 = .ok (.bipush (-4), 2) := by decide +kernel
theorem dX7_plan_86 : decode cX7_plan 86 = .ok (.ireturn, 1) := by decide +kernel
theorem dX7_plan_87 : decode cX7_plan 87 = .ok (.aload 4, 2) := by decide +kernel
theorem dX7_plan_89 : decode cX7_plan 89 = .ok (.iload_n 2, 1) := by decide +kernel
theorem dX7_plan_90 : decode cX7_plan 90 = .ok (.iload_n 3, 1) := by decide +kernel
theorem dX7_plan_91 : decode cX7_plan 91 = .ok (.invokevirtual 195, 3) := by decide +kernel
theorem dX7_plan_94 : decode cX7_plan 94 = .ok (.aload 4, 2) := by decide +kernel
theorem dX7_plan_96 : decode cX7_plan 96 = .ok (.getfield 192, 3) := by decide +kernel
theorem dX7_plan_99 : decode cX7_plan 99 = .ok (.ireturn, 1) := by decide +kernel
theorem dX7_halt_0 : decode cX7_halt 0 = .ok (.aload_n 0, 1) := by decide +kernel
theorem dX7_halt_1 : decode cX7_halt 1 = .ok (.iload_n 1, 1) := by decide +kernel
theorem dX7_halt_2 : decode cX7_halt 2 = .ok (.invokevirtual 186, 3) := by decide +kernel
theorem dX7_halt_5 : decode cX7_halt 5 = .ok (.ifCond .ne 5, 3) := by decide +kernel
theorem dX7_halt_8 : decode cX7_halt 8 = .ok (.iconst (-1), 1) := by decide +kernel
theorem dX7_halt_9 : decode cX7_halt 9 = .ok (.ireturn, 1) := by decide +kernel
theorem dX7_halt_10 : decode cX7_halt 10 = .ok (.aload_n 0, 1) := by decide +kernel
theorem dX7_halt_11 : decode cX7_halt 11 = .ok (.getfield 40, 3) := by decide +kernel
theorem dX7_halt_14 : decode cX7_halt 14 = .ok (.getfield 177, 3) := by decide +kernel
theorem dX7_halt_17 : decode cX7_halt 17 = .ok (.iload_n 1, 1) := by decide +kernel
theorem dX7_halt_18 : decode cX7_halt 18 = .ok (.aaload, 1) := by decide +kernel
theorem dX7_halt_19 : decode cX7_halt 19 = .ok (.astore_n 2, 1) := by decide +kernel
theorem dX7_halt_20 : decode cX7_halt 20 = .ok (.aload_n 2, 1) := by decide +kernel
theorem dX7_halt_21 : decode cX7_halt 21 = .ok (.getfield 189, 3) := by decide +kernel
theorem dX7_halt_24 : decode cX7_halt 24 = .ok (.ifCond .eq 6, 3) := by decide +kernel
theorem dX7_halt_27 : decode cX7_halt 27 = .ok (.bipush (-3), 2) := by decide +kernel
theorem dX7_halt_29 : decode cX7_halt 29 = .ok (.ireturn, 1) := by decide +kernel
theorem dX7_halt_30 : decode cX7_halt 30 = .ok (.aload_n 2, 1) := by decide +kernel
theorem dX7_halt_31 : decode cX7_halt 31 = .ok (.getfield 192, 3) := by decide +kernel
theorem dX7_halt_34 : decode cX7_halt 34 = .ok (.istore_n 3, 1) := by decide +kernel
theorem dX7_halt_35 : decode cX7_halt 35 = .ok (.aload_n 2, 1) := by decide +kernel
theorem dX7_halt_36 : decode cX7_halt 36 = .ok (.invokevirtual 198, 3) := by decide +kernel
theorem dX7_halt_39 : decode cX7_halt 39 = .ok (.iload_n 3, 1) := by decide +kernel
theorem dX7_halt_40 : decode cX7_halt 40 = .ok (.ireturn, 1) := by decide +kernel
theorem dX7_ofCrew_0 : decode cX7_ofCrew 0 = .ok (.aload_n 0, 1) := by decide +kernel
theorem dX7_ofCrew_1 : decode cX7_ofCrew 1 = .ok (.iload_n 1, 1) := by decide +kernel
theorem dX7_ofCrew_2 : decode cX7_ofCrew 2 = .ok (.invokevirtual 186, 3) := by decide +kernel
theorem dX7_ofCrew_5 : decode cX7_ofCrew 5 = .ok (.ifCond .ne 5, 3) := by decide +kernel
theorem dX7_ofCrew_8 : decode cX7_ofCrew 8 = .ok (.iconst (-1), 1) := by decide +kernel
theorem dX7_ofCrew_9 : decode cX7_ofCrew 9 = .ok (.ireturn, 1) := by decide +kernel
theorem dX7_ofCrew_10 : decode cX7_ofCrew 10 = .ok (.aload_n 0, 1) := by decide +kernel
theorem dX7_ofCrew_11 : decode cX7_ofCrew 11 = .ok (.getfield 40, 3) := by decide +kernel
theorem dX7_ofCrew_14 : decode cX7_ofCrew 14 = .ok (.getfield 177, 3) := by decide +kernel
theorem dX7_ofCrew_17 : decode cX7_ofCrew 17 = .ok (.iload_n 1, 1) := by decide +kernel
theorem dX7_ofCrew_18 : decode cX7_ofCrew 18 = .ok (.aaload, 1) := by decide +kernel
theorem dX7_ofCrew_19 : decode cX7_ofCrew 19 = .ok (.astore_n 3, 1) := by decide +kernel
theorem dX7_ofCrew_20 : decode cX7_ofCrew 20 = .ok (.iload_n 2, 1) := by decide +kernel
theorem dX7_ofCrew_21 : decode cX7_ofCrew 21 = .ok (.tableswitch 109 0 7 #[47, 52, 57, 76, 81, 94, 99, 104], 47) := by decide +kernel
theorem dX7_ofCrew_68 : decode cX7_ofCrew 68 = .ok (.aload_n 3, 1) := by decide +kernel
theorem dX7_ofCrew_69 : decode cX7_ofCrew 69 = .ok (.getfield 201, 3) := by decide +kernel
theorem dX7_ofCrew_72 : decode cX7_ofCrew 72 = .ok (.ireturn, 1) := by decide +kernel
theorem dX7_ofCrew_73 : decode cX7_ofCrew 73 = .ok (.aload_n 3, 1) := by decide +kernel
theorem dX7_ofCrew_74 : decode cX7_ofCrew 74 = .ok (.getfield 204, 3) := by decide +kernel
theorem dX7_ofCrew_77 : decode cX7_ofCrew 77 = .ok (.ireturn, 1) := by decide +kernel
theorem dX7_ofCrew_78 : decode cX7_ofCrew 78 = .ok (.aload_n 3, 1) := by decide +kernel
theorem dX7_ofCrew_79 : decode cX7_ofCrew 79 = .ok (.getfield 192, 3) := by decide +kernel
theorem dX7_ofCrew_82 : decode cX7_ofCrew 82 = .ok (.ifCond .le 12, 3) := by decide +kernel
theorem dX7_ofCrew_85 : decode cX7_ofCrew 85 = .ok (.aload_n 3, 1) := by decide +kernel
theorem dX7_ofCrew_86 : decode cX7_ofCrew 86 = .ok (.getfield 207, 3) := by decide +kernel
theorem dX7_ofCrew_89 : decode cX7_ofCrew 89 = .ok (.iconst 0, 1) := by decide +kernel
theorem dX7_ofCrew_90 : decode cX7_ofCrew 90 = .ok (.iaload, 1) := by decide +kernel
theorem dX7_ofCrew_91 : decode cX7_ofCrew 91 = .ok (.goto 5, 3) := by decide +kernel
theorem dX7_ofCrew_94 : decode cX7_ofCrew 94 = .ok (.bipush (-6), 2) := by decide +kernel
theorem dX7_ofCrew_96 : decode cX7_ofCrew 96 = .ok (.ireturn, 1) := by decide +kernel
theorem dX7_ofCrew_97 : decode cX7_ofCrew 97 = .ok (.aload_n 3, 1) := by decide +kernel
theorem dX7_ofCrew_98 : decode cX7_ofCrew 98 = .ok (.getfield 192, 3) := by decide +kernel
theorem dX7_ofCrew_101 : decode cX7_ofCrew 101 = .ok (.ireturn, 1) := by decide +kernel
theorem dX7_ofCrew_102 : decode cX7_ofCrew 102 = .ok (.aload_n 3, 1) := by decide +kernel
theorem dX7_ofCrew_103 : decode cX7_ofCrew 103 = .ok (.getfield 189, 3) := by decide +kernel
theorem dX7_ofCrew_106 : decode cX7_ofCrew 106 = .ok (.ifCond .eq 7, 3) := by decide +kernel
theorem dX7_ofCrew_109 : decode cX7_ofCrew 109 = .ok (.iconst 1, 1) := by decide +kernel
theorem dX7_ofCrew_110 : decode cX7_ofCrew 110 = .ok (.goto 4, 3) := by decide +kernel
theorem dX7_ofCrew_113 : decode cX7_ofCrew 113 = .ok (.iconst 0, 1) := by decide +kernel
theorem dX7_ofCrew_114 : decode cX7_ofCrew 114 = .ok (.ireturn, 1) := by decide +kernel
theorem dX7_ofCrew_115 : decode cX7_ofCrew 115 = .ok (.aload_n 3, 1) := by decide +kernel
theorem dX7_ofCrew_116 : decode cX7_ofCrew 116 = .ok (.getfield 210, 3) := by decide +kernel
theorem dX7_ofCrew_119 : decode cX7_ofCrew 119 = .ok (.ireturn, 1) := by decide +kernel
theorem dX7_ofCrew_120 : decode cX7_ofCrew 120 = .ok (.aload_n 3, 1) := by decide +kernel
theorem dX7_ofCrew_121 : decode cX7_ofCrew 121 = .ok (.getfield 213, 3) := by decide +kernel
theorem dX7_ofCrew_124 : decode cX7_ofCrew 124 = .ok (.ireturn, 1) := by decide +kernel
theorem dX7_ofCrew_125 : decode cX7_ofCrew 125 = .ok (.aload_n 3, 1) := by decide +kernel
theorem dX7_ofCrew_126 : decode cX7_ofCrew 126 = .ok (.getfield 216, 3) := by decide +kernel
theorem dX7_ofCrew_129 : decode cX7_ofCrew 129 = .ok (.ireturn, 1) := by decide +kernel
theorem dX7_ofCrew_130 : decode cX7_ofCrew 130 = .ok (.bipush (-2), 2) := by decide +kernel
theorem dX7_ofCrew_132 : decode cX7_ofCrew 132 = .ok (.ireturn, 1) := by decide +kernel
theorem dX7_strips_0 : decode cX7_strips 0 = .ok (.iload_n 1, 1) := by decide +kernel
theorem dX7_strips_1 : decode cX7_strips 1 = .ok (.iconst 1, 1) := by decide +kernel
theorem dX7_strips_2 : decode cX7_strips 2 = .ok (.bipush 8, 2) := by decide +kernel
theorem dX7_strips_4 : decode cX7_strips 4 = .ok (.invokestatic 63, 3) := by decide +kernel
theorem dX7_strips_7 : decode cX7_strips 7 = .ok (.ifCond .eq 14, 3) := by decide +kernel
theorem dX7_strips_10 : decode cX7_strips 10 = .ok (.iload_n 1, 1) := by decide +kernel
theorem dX7_strips_11 : decode cX7_strips 11 = .ok (.aload_n 0, 1) := by decide +kernel
theorem dX7_strips_12 : decode cX7_strips 12 = .ok (.getfield 12, 3) := by decide +kernel
theorem dX7_strips_15 : decode cX7_strips 15 = .ok (.getfield 131, 3) := by decide +kernel
theorem dX7_strips_18 : decode cX7_strips 18 = .ok (.if_icmp .le 6, 3) := by decide +kernel
theorem dX7_strips_21 : decode cX7_strips 21 = .ok (.bipush (-2), 2) := by decide +kernel
theorem dX7_strips_23 : decode cX7_strips 23 = .ok (.ireturn, 1) := by decide +kernel
theorem dX7_strips_24 : decode cX7_strips 24 = .ok (.aload_n 0, 1) := by decide +kernel
theorem dX7_strips_25 : decode cX7_strips 25 = .ok (.getfield 40, 3) := by decide +kernel
theorem dX7_strips_28 : decode cX7_strips 28 = .ok (.getfield 140, 3) := by decide +kernel
theorem dX7_strips_31 : decode cX7_strips 31 = .ok (.aload_n 0, 1) := by decide +kernel
theorem dX7_strips_32 : decode cX7_strips 32 = .ok (.getfield 12, 3) := by decide +kernel
theorem dX7_strips_35 : decode cX7_strips 35 = .ok (.getfield 131, 3) := by decide +kernel
theorem dX7_strips_38 : decode cX7_strips 38 = .ok (.iload_n 1, 1) := by decide +kernel
theorem dX7_strips_39 : decode cX7_strips 39 = .ok (.invokevirtual 219, 3) := by decide +kernel
theorem dX7_strips_42 : decode cX7_strips 42 = .ok (.aload_n 0, 1) := by decide +kernel
theorem dX7_strips_43 : decode cX7_strips 43 = .ok (.getfield 40, 3) := by decide +kernel
theorem dX7_strips_46 : decode cX7_strips 46 = .ok (.getfield 140, 3) := by decide +kernel
theorem dX7_strips_49 : decode cX7_strips 49 = .ok (.iconst 0, 1) := by decide +kernel
theorem dX7_strips_50 : decode cX7_strips 50 = .ok (.invokevirtual 222, 3) := by decide +kernel
theorem dX7_strips_53 : decode cX7_strips 53 = .ok (.ireturn, 1) := by decide +kernel
theorem dX7_balanced_0 : decode cX7_balanced 0 = .ok (.aload_n 0, 1) := by decide +kernel
theorem dX7_balanced_1 : decode cX7_balanced 1 = .ok (.getfield 59, 3) := by decide +kernel
theorem dX7_balanced_4 : decode cX7_balanced 4 = .ok (.ifCond .eq 7, 3) := by decide +kernel
theorem dX7_balanced_7 : decode cX7_balanced 7 = .ok (.iconst 1, 1) := by decide +kernel
theorem dX7_balanced_8 : decode cX7_balanced 8 = .ok (.goto 4, 3) := by decide +kernel
theorem dX7_balanced_11 : decode cX7_balanced 11 = .ok (.iconst 0, 1) := by decide +kernel
theorem dX7_balanced_12 : decode cX7_balanced 12 = .ok (.istore_n 2, 1) := by decide +kernel
theorem dX7_balanced_13 : decode cX7_balanced 13 = .ok (.aload_n 0, 1) := by decide +kernel
theorem dX7_balanced_14 : decode cX7_balanced 14 = .ok (.iload_n 1, 1) := by decide +kernel
theorem dX7_balanced_15 : decode cX7_balanced 15 = .ok (.putfield 59, 3) := by decide +kernel
theorem dX7_balanced_18 : decode cX7_balanced 18 = .ok (.iload_n 2, 1) := by decide +kernel
theorem dX7_balanced_19 : decode cX7_balanced 19 = .ok (.ireturn, 1) := by decide +kernel
theorem dX7_strip_0 : decode cX7_strip 0 = .ok (.iload_n 1, 1) := by decide +kernel
theorem dX7_strip_1 : decode cX7_strip 1 = .ok (.ifCond .lt 17, 3) := by decide +kernel
theorem dX7_strip_4 : decode cX7_strip 4 = .ok (.iload_n 1, 1) := by decide +kernel
theorem dX7_strip_5 : decode cX7_strip 5 = .ok (.aload_n 0, 1) := by decide +kernel
theorem dX7_strip_6 : decode cX7_strip 6 = .ok (.getfield 40, 3) := by decide +kernel
theorem dX7_strip_9 : decode cX7_strip 9 = .ok (.getfield 140, 3) := by decide +kernel
theorem dX7_strip_12 : decode cX7_strip 12 = .ok (.getfield 144, 3) := by decide +kernel
theorem dX7_strip_15 : decode cX7_strip 15 = .ok (.if_icmp .lt 5, 3) := by decide +kernel
theorem dX7_strip_18 : decode cX7_strip 18 = .ok (.iconst (-1), 1) := by decide +kernel
theorem dX7_strip_19 : decode cX7_strip 19 = .ok (.ireturn, 1) := by decide +kernel
theorem dX7_strip_20 : decode cX7_strip 20 = .ok (.iload_n 2, 1) := by decide +kernel
theorem dX7_strip_21 : decode cX7_strip 21 = .ok (.tableswitch 66 0 2 #[27, 40, 53], 27) := by decide +kernel
theorem dX7_strip_48 : decode cX7_strip 48 = .ok (.aload_n 0, 1) := by decide +kernel
theorem dX7_strip_49 : decode cX7_strip 49 = .ok (.getfield 40, 3) := by decide +kernel
theorem dX7_strip_52 : decode cX7_strip 52 = .ok (.getfield 140, 3) := by decide +kernel
theorem dX7_strip_55 : decode cX7_strip 55 = .ok (.getfield 225, 3) := by decide +kernel
theorem dX7_strip_58 : decode cX7_strip 58 = .ok (.iload_n 1, 1) := by decide +kernel
theorem dX7_strip_59 : decode cX7_strip 59 = .ok (.iaload, 1) := by decide +kernel
theorem dX7_strip_60 : decode cX7_strip 60 = .ok (.ireturn, 1) := by decide +kernel
theorem dX7_strip_61 : decode cX7_strip 61 = .ok (.aload_n 0, 1) := by decide +kernel
theorem dX7_strip_62 : decode cX7_strip 62 = .ok (.getfield 40, 3) := by decide +kernel
theorem dX7_strip_65 : decode cX7_strip 65 = .ok (.getfield 140, 3) := by decide +kernel
theorem dX7_strip_68 : decode cX7_strip 68 = .ok (.getfield 228, 3) := by decide +kernel
theorem dX7_strip_71 : decode cX7_strip 71 = .ok (.iload_n 1, 1) := by decide +kernel
theorem dX7_strip_72 : decode cX7_strip 72 = .ok (.iaload, 1) := by decide +kernel
theorem dX7_strip_73 : decode cX7_strip 73 = .ok (.ireturn, 1) := by decide +kernel
theorem dX7_strip_74 : decode cX7_strip 74 = .ok (.aload_n 0, 1) := by decide +kernel
theorem dX7_strip_75 : decode cX7_strip 75 = .ok (.getfield 40, 3) := by decide +kernel
theorem dX7_strip_78 : decode cX7_strip 78 = .ok (.getfield 140, 3) := by decide +kernel
theorem dX7_strip_81 : decode cX7_strip 81 = .ok (.getfield 231, 3) := by decide +kernel
theorem dX7_strip_84 : decode cX7_strip 84 = .ok (.iload_n 1, 1) := by decide +kernel
theorem dX7_strip_85 : decode cX7_strip 85 = .ok (.iaload, 1) := by decide +kernel
theorem dX7_strip_86 : decode cX7_strip 86 = .ok (.ireturn, 1) := by decide +kernel
theorem dX7_strip_87 : decode cX7_strip 87 = .ok (.bipush (-2), 2) := by decide +kernel
theorem dX7_strip_89 : decode cX7_strip 89 = .ok (.ireturn, 1) := by decide +kernel
theorem dX7_keep_0 : decode cX7_keep 0 = .ok (.iload_n 1, 1) := by decide +kernel
theorem dX7_keep_1 : decode cX7_keep 1 = .ok (.invokestatic 233, 3) := by decide +kernel
theorem dX7_keep_4 : decode cX7_keep 4 = .ok (.ifCond .ne 5, 3) := by decide +kernel
theorem dX7_keep_7 : decode cX7_keep 7 = .ok (.iconst (-1), 1) := by decide +kernel
theorem dX7_keep_8 : decode cX7_keep 8 = .ok (.ireturn, 1) := by decide +kernel
theorem dX7_keep_9 : decode cX7_keep 9 = .ok (.aload_n 0, 1) := by decide +kernel
theorem dX7_keep_10 : decode cX7_keep 10 = .ok (.getfield 47, 3) := by decide +kernel
theorem dX7_keep_13 : decode cX7_keep 13 = .ok (.iload_n 1, 1) := by decide +kernel
theorem dX7_keep_14 : decode cX7_keep 14 = .ok (.aaload, 1) := by decide +kernel
theorem dX7_keep_15 : decode cX7_keep 15 = .ok (.aload_n 0, 1) := by decide +kernel
theorem dX7_keep_16 : decode cX7_keep 16 = .ok (.getfield 40, 3) := by decide +kernel
theorem dX7_keep_19 : decode cX7_keep 19 = .ok (.invokevirtual 236, 3) := by decide +kernel
theorem dX7_keep_22 : decode cX7_keep 22 = .ok (.aload_n 0, 1) := by decide +kernel
theorem dX7_keep_23 : decode cX7_keep 23 = .ok (.getfield 51, 3) := by decide +kernel
theorem dX7_keep_26 : decode cX7_keep 26 = .ok (.iload_n 1, 1) := by decide +kernel
theorem dX7_keep_27 : decode cX7_keep 27 = .ok (.aload_n 0, 1) := by decide +kernel
theorem dX7_keep_28 : decode cX7_keep 28 = .ok (.getfield 12, 3) := by decide +kernel
theorem dX7_keep_31 : decode cX7_keep 31 = .ok (.getfield 239, 3) := by decide +kernel
theorem dX7_keep_34 : decode cX7_keep 34 = .ok (.iastore, 1) := by decide +kernel
theorem dX7_keep_35 : decode cX7_keep 35 = .ok (.aload_n 0, 1) := by decide +kernel
theorem dX7_keep_36 : decode cX7_keep 36 = .ok (.getfield 40, 3) := by decide +kernel
theorem dX7_keep_39 : decode cX7_keep 39 = .ok (.getfield 67, 3) := by decide +kernel
theorem dX7_keep_42 : decode cX7_keep 42 = .ok (.ireturn, 1) := by decide +kernel
theorem dX7_back_0 : decode cX7_back 0 = .ok (.iload_n 1, 1) := by decide +kernel
theorem dX7_back_1 : decode cX7_back 1 = .ok (.invokestatic 233, 3) := by decide +kernel
theorem dX7_back_4 : decode cX7_back 4 = .ok (.ifCond .eq 14, 3) := by decide +kernel
theorem dX7_back_7 : decode cX7_back 7 = .ok (.aload_n 0, 1) := by decide +kernel
theorem dX7_back_8 : decode cX7_back 8 = .ok (.getfield 51, 3) := by decide +kernel
theorem dX7_back_11 : decode cX7_back 11 = .ok (.iload_n 1, 1) := by decide +kernel
theorem dX7_back_12 : decode cX7_back 12 = .ok (.iaload, 1) := by decide +kernel
theorem dX7_back_13 : decode cX7_back 13 = .ok (.bipush (-6), 2) := by decide +kernel
theorem dX7_back_15 : decode cX7_back 15 = .ok (.if_icmp .ne 5, 3) := by decide +kernel
theorem dX7_back_18 : decode cX7_back 18 = .ok (.iconst (-1), 1) := by decide +kernel
theorem dX7_back_19 : decode cX7_back 19 = .ok (.ireturn, 1) := by decide +kernel
theorem dX7_back_20 : decode cX7_back 20 = .ok (.aload_n 0, 1) := by decide +kernel
theorem dX7_back_21 : decode cX7_back 21 = .ok (.getfield 51, 3) := by decide +kernel
theorem dX7_back_24 : decode cX7_back 24 = .ok (.iload_n 1, 1) := by decide +kernel
theorem dX7_back_25 : decode cX7_back 25 = .ok (.iaload, 1) := by decide +kernel
theorem dX7_back_26 : decode cX7_back 26 = .ok (.aload_n 0, 1) := by decide +kernel
theorem dX7_back_27 : decode cX7_back 27 = .ok (.getfield 12, 3) := by decide +kernel
theorem dX7_back_30 : decode cX7_back 30 = .ok (.getfield 239, 3) := by decide +kernel
theorem dX7_back_33 : decode cX7_back 33 = .ok (.if_icmp .eq 6, 3) := by decide +kernel
theorem dX7_back_36 : decode cX7_back 36 = .ok (.bipush (-3), 2) := by decide +kernel
theorem dX7_back_38 : decode cX7_back 38 = .ok (.ireturn, 1) := by decide +kernel
theorem dX7_back_39 : decode cX7_back 39 = .ok (.aload_n 0, 1) := by decide +kernel
theorem dX7_back_40 : decode cX7_back 40 = .ok (.getfield 40, 3) := by decide +kernel
theorem dX7_back_43 : decode cX7_back 43 = .ok (.aload_n 0, 1) := by decide +kernel
theorem dX7_back_44 : decode cX7_back 44 = .ok (.getfield 47, 3) := by decide +kernel
theorem dX7_back_47 : decode cX7_back 47 = .ok (.iload_n 1, 1) := by decide +kernel
theorem dX7_back_48 : decode cX7_back 48 = .ok (.aaload, 1) := by decide +kernel
theorem dX7_back_49 : decode cX7_back 49 = .ok (.invokevirtual 236, 3) := by decide +kernel
theorem dX7_back_52 : decode cX7_back 52 = .ok (.aload_n 0, 1) := by decide +kernel
theorem dX7_back_53 : decode cX7_back 53 = .ok (.getfield 40, 3) := by decide +kernel
theorem dX7_back_56 : decode cX7_back 56 = .ok (.getfield 67, 3) := by decide +kernel
theorem dX7_back_59 : decode cX7_back 59 = .ok (.ireturn, 1) := by decide +kernel
theorem dX7_differs_0 : decode cX7_differs 0 = .ok (.iload_n 1, 1) := by decide +kernel
theorem dX7_differs_1 : decode cX7_differs 1 = .ok (.invokestatic 233, 3) := by decide +kernel
theorem dX7_differs_4 : decode cX7_differs 4 = .ok (.ifCond .eq 14, 3) := by decide +kernel
theorem dX7_differs_7 : decode cX7_differs 7 = .ok (.aload_n 0, 1) := by decide +kernel
theorem dX7_differs_8 : decode cX7_differs 8 = .ok (.getfield 51, 3) := by decide +kernel
theorem dX7_differs_11 : decode cX7_differs 11 = .ok (.iload_n 1, 1) := by decide +kernel
theorem dX7_differs_12 : decode cX7_differs 12 = .ok (.iaload, 1) := by decide +kernel
theorem dX7_differs_13 : decode cX7_differs 13 = .ok (.bipush (-6), 2) := by decide +kernel
theorem dX7_differs_15 : decode cX7_differs 15 = .ok (.if_icmp .ne 5, 3) := by decide +kernel
theorem dX7_differs_18 : decode cX7_differs 18 = .ok (.iconst (-1), 1) := by decide +kernel
theorem dX7_differs_19 : decode cX7_differs 19 = .ok (.ireturn, 1) := by decide +kernel
theorem dX7_differs_20 : decode cX7_differs 20 = .ok (.aload_n 0, 1) := by decide +kernel
theorem dX7_differs_21 : decode cX7_differs 21 = .ok (.getfield 51, 3) := by decide +kernel
theorem dX7_differs_24 : decode cX7_differs 24 = .ok (.iload_n 1, 1) := by decide +kernel
theorem dX7_differs_25 : decode cX7_differs 25 = .ok (.iaload, 1) := by decide +kernel
theorem dX7_differs_26 : decode cX7_differs 26 = .ok (.aload_n 0, 1) := by decide +kernel
theorem dX7_differs_27 : decode cX7_differs 27 = .ok (.getfield 12, 3) := by decide +kernel
theorem dX7_differs_30 : decode cX7_differs 30 = .ok (.getfield 239, 3) := by decide +kernel
theorem dX7_differs_33 : decode cX7_differs 33 = .ok (.if_icmp .eq 6, 3) := by decide +kernel
theorem dX7_differs_36 : decode cX7_differs 36 = .ok (.bipush (-3), 2) := by decide +kernel
theorem dX7_differs_38 : decode cX7_differs 38 = .ok (.ireturn, 1) := by decide +kernel
theorem dX7_differs_39 : decode cX7_differs 39 = .ok (.iconst 0, 1) := by decide +kernel
theorem dX7_differs_40 : decode cX7_differs 40 = .ok (.istore_n 2, 1) := by decide +kernel
theorem dX7_differs_41 : decode cX7_differs 41 = .ok (.iconst 0, 1) := by decide +kernel
theorem dX7_differs_42 : decode cX7_differs 42 = .ok (.istore_n 3, 1) := by decide +kernel
theorem dX7_differs_43 : decode cX7_differs 43 = .ok (.iload_n 3, 1) := by decide +kernel
theorem dX7_differs_44 : decode cX7_differs 44 = .ok (.aload_n 0, 1) := by decide +kernel
theorem dX7_differs_45 : decode cX7_differs 45 = .ok (.getfield 12, 3) := by decide +kernel
theorem dX7_differs_48 : decode cX7_differs 48 = .ok (.getfield 82, 3) := by decide +kernel
theorem dX7_differs_51 : decode cX7_differs 51 = .ok (.if_icmp .ge 29, 3) := by decide +kernel
theorem dX7_differs_54 : decode cX7_differs 54 = .ok (.aload_n 0, 1) := by decide +kernel
theorem dX7_differs_55 : decode cX7_differs 55 = .ok (.getfield 40, 3) := by decide +kernel
theorem dX7_differs_58 : decode cX7_differs 58 = .ok (.iload_n 3, 1) := by decide +kernel
theorem dX7_differs_59 : decode cX7_differs 59 = .ok (.aload_n 0, 1) := by decide +kernel
theorem dX7_differs_60 : decode cX7_differs 60 = .ok (.getfield 47, 3) := by decide +kernel
theorem dX7_differs_63 : decode cX7_differs 63 = .ok (.iload_n 1, 1) := by decide +kernel
theorem dX7_differs_64 : decode cX7_differs 64 = .ok (.aaload, 1) := by decide +kernel
theorem dX7_differs_65 : decode cX7_differs 65 = .ok (.invokevirtual 242, 3) := by decide +kernel
theorem dX7_differs_68 : decode cX7_differs 68 = .ok (.ifCond .ne 6, 3) := by decide +kernel
theorem dX7_differs_71 : decode cX7_differs 71 = .ok (.iinc 2 1, 3) := by decide +kernel
theorem dX7_differs_74 : decode cX7_differs 74 = .ok (.iinc 3 1, 3) := by decide +kernel
theorem dX7_differs_77 : decode cX7_differs 77 = .ok (.goto (-34), 3) := by decide +kernel
theorem dX7_differs_80 : decode cX7_differs 80 = .ok (.iload_n 2, 1) := by decide +kernel
theorem dX7_differs_81 : decode cX7_differs 81 = .ok (.ireturn, 1) := by decide +kernel
theorem dX7_ahead_0 : decode cX7_ahead 0 = .ok (.aload_n 0, 1) := by decide +kernel
theorem dX7_ahead_1 : decode cX7_ahead 1 = .ok (.getfield 12, 3) := by decide +kernel
theorem dX7_ahead_4 : decode cX7_ahead 4 = .ok (.iload_n 1, 1) := by decide +kernel
theorem dX7_ahead_5 : decode cX7_ahead 5 = .ok (.invokevirtual 85, 3) := by decide +kernel
theorem dX7_ahead_8 : decode cX7_ahead 8 = .ok (.ifCond .ne 5, 3) := by decide +kernel
theorem dX7_ahead_11 : decode cX7_ahead 11 = .ok (.iconst (-1), 1) := by decide +kernel
theorem dX7_ahead_12 : decode cX7_ahead 12 = .ok (.ireturn, 1) := by decide +kernel
theorem dX7_ahead_13 : decode cX7_ahead 13 = .ok (.iload_n 2, 1) := by decide +kernel
theorem dX7_ahead_14 : decode cX7_ahead 14 = .ok (.iconst 0, 1) := by decide +kernel
theorem dX7_ahead_15 : decode cX7_ahead 15 = .ok (.sipush 200, 3) := by decide +kernel
theorem dX7_ahead_18 : decode cX7_ahead 18 = .ok (.invokestatic 63, 3) := by decide +kernel
theorem dX7_ahead_21 : decode cX7_ahead 21 = .ok (.ifCond .ne 6, 3) := by decide +kernel
theorem dX7_ahead_24 : decode cX7_ahead 24 = .ok (.bipush (-2), 2) := by decide +kernel
theorem dX7_ahead_26 : decode cX7_ahead 26 = .ok (.ireturn, 1) := by decide +kernel
theorem dX7_ahead_27 : decode cX7_ahead 27 = .ok (.aload_n 0, 1) := by decide +kernel
theorem dX7_ahead_28 : decode cX7_ahead 28 = .ok (.getfield 40, 3) := by decide +kernel
theorem dX7_ahead_31 : decode cX7_ahead 31 = .ok (.getfield 128, 3) := by decide +kernel
theorem dX7_ahead_34 : decode cX7_ahead 34 = .ok (.iload_n 1, 1) := by decide +kernel
theorem dX7_ahead_35 : decode cX7_ahead 35 = .ok (.iaload, 1) := by decide +kernel
theorem dX7_ahead_36 : decode cX7_ahead 36 = .ok (.bipush (-6), 2) := by decide +kernel
theorem dX7_ahead_38 : decode cX7_ahead 38 = .ok (.if_icmp .eq 6, 3) := by decide +kernel
theorem dX7_ahead_41 : decode cX7_ahead 41 = .ok (.bipush (-6), 2) := by decide +kernel
theorem dX7_ahead_43 : decode cX7_ahead 43 = .ok (.ireturn, 1) := by decide +kernel
theorem dX7_ahead_44 : decode cX7_ahead 44 = .ok (.aload_n 0, 1) := by decide +kernel
theorem dX7_ahead_45 : decode cX7_ahead 45 = .ok (.getfield 44, 3) := by decide +kernel
theorem dX7_ahead_48 : decode cX7_ahead 48 = .ok (.aload_n 0, 1) := by decide +kernel
theorem dX7_ahead_49 : decode cX7_ahead 49 = .ok (.getfield 40, 3) := by decide +kernel
theorem dX7_ahead_52 : decode cX7_ahead 52 = .ok (.invokevirtual 236, 3) := by decide +kernel
theorem dX7_ahead_55 : decode cX7_ahead 55 = .ok (.iconst 0, 1) := by decide +kernel
theorem dX7_ahead_56 : decode cX7_ahead 56 = .ok (.istore_n 3, 1) := by decide +kernel
theorem dX7_ahead_57 : decode cX7_ahead 57 = .ok (.iload_n 3, 1) := by decide +kernel
theorem dX7_ahead_58 : decode cX7_ahead 58 = .ok (.iload_n 2, 1) := by decide +kernel
theorem dX7_ahead_59 : decode cX7_ahead 59 = .ok (.if_icmp .ge 31, 3) := by decide +kernel
theorem dX7_ahead_62 : decode cX7_ahead 62 = .ok (.aload_n 0, 1) := by decide +kernel
theorem dX7_ahead_63 : decode cX7_ahead 63 = .ok (.getfield 44, 3) := by decide +kernel
theorem dX7_ahead_66 : decode cX7_ahead 66 = .ok (.getfield 128, 3) := by decide +kernel
theorem dX7_ahead_69 : decode cX7_ahead 69 = .ok (.iload_n 1, 1) := by decide +kernel
theorem dX7_ahead_70 : decode cX7_ahead 70 = .ok (.iaload, 1) := by decide +kernel
theorem dX7_ahead_71 : decode cX7_ahead 71 = .ok (.bipush (-6), 2) := by decide +kernel
theorem dX7_ahead_73 : decode cX7_ahead 73 = .ok (.if_icmp .ne 17, 3) := by decide +kernel
theorem dX7_ahead_76 : decode cX7_ahead 76 = .ok (.aload_n 0, 1) := by decide +kernel
theorem dX7_ahead_77 : decode cX7_ahead 77 = .ok (.aload_n 0, 1) := by decide +kernel
theorem dX7_ahead_78 : decode cX7_ahead 78 = .ok (.getfield 44, 3) := by decide +kernel
theorem dX7_ahead_81 : decode cX7_ahead 81 = .ok (.invokevirtual 103, 3) := by decide +kernel
theorem dX7_ahead_84 : decode cX7_ahead 84 = .ok (.iinc 3 1, 3) := by decide +kernel
theorem dX7_ahead_87 : decode cX7_ahead 87 = .ok (.goto (-30), 3) := by decide +kernel
theorem dX7_ahead_90 : decode cX7_ahead 90 = .ok (.aload_n 0, 1) := by decide +kernel
theorem dX7_ahead_91 : decode cX7_ahead 91 = .ok (.getfield 44, 3) := by decide +kernel
theorem dX7_ahead_94 : decode cX7_ahead 94 = .ok (.getfield 128, 3) := by decide +kernel
theorem dX7_ahead_97 : decode cX7_ahead 97 = .ok (.iload_n 1, 1) := by decide +kernel
theorem dX7_ahead_98 : decode cX7_ahead 98 = .ok (.iaload, 1) := by decide +kernel
theorem dX7_ahead_99 : decode cX7_ahead 99 = .ok (.ireturn, 1) := by decide +kernel
theorem dX7_isWithin_0 : decode cX7_isWithin 0 = .ok (.iload_n 0, 1) := by decide +kernel
theorem dX7_isWithin_1 : decode cX7_isWithin 1 = .ok (.iload_n 1, 1) := by decide +kernel
theorem dX7_isWithin_2 : decode cX7_isWithin 2 = .ok (.if_icmp .lt 12, 3) := by decide +kernel
theorem dX7_isWithin_5 : decode cX7_isWithin 5 = .ok (.iload_n 0, 1) := by decide +kernel
theorem dX7_isWithin_6 : decode cX7_isWithin 6 = .ok (.iload_n 2, 1) := by decide +kernel
theorem dX7_isWithin_7 : decode cX7_isWithin 7 = .ok (.if_icmp .gt 7, 3) := by decide +kernel
theorem dX7_isWithin_10 : decode cX7_isWithin 10 = .ok (.iconst 1, 1) := by decide +kernel
theorem dX7_isWithin_11 : decode cX7_isWithin 11 = .ok (.goto 4, 3) := by decide +kernel
theorem dX7_isWithin_14 : decode cX7_isWithin 14 = .ok (.iconst 0, 1) := by decide +kernel
theorem dX7_isWithin_15 : decode cX7_isWithin 15 = .ok (.ireturn, 1) := by decide +kernel
theorem dX7_isPlace_0 : decode cX7_isPlace 0 = .ok (.iload_n 0, 1) := by decide +kernel
theorem dX7_isPlace_1 : decode cX7_isPlace 1 = .ok (.ifCond .lt 12, 3) := by decide +kernel
theorem dX7_isPlace_4 : decode cX7_isPlace 4 = .ok (.iload_n 0, 1) := by decide +kernel
theorem dX7_isPlace_5 : decode cX7_isPlace 5 = .ok (.iconst 3, 1) := by decide +kernel
theorem dX7_isPlace_6 : decode cX7_isPlace 6 = .ok (.if_icmp .ge 7, 3) := by decide +kernel
theorem dX7_isPlace_9 : decode cX7_isPlace 9 = .ok (.iconst 1, 1) := by decide +kernel
theorem dX7_isPlace_10 : decode cX7_isPlace 10 = .ok (.goto 4, 3) := by decide +kernel
theorem dX7_isPlace_13 : decode cX7_isPlace 13 = .ok (.iconst 0, 1) := by decide +kernel
theorem dX7_isPlace_14 : decode cX7_isPlace 14 = .ok (.ireturn, 1) := by decide +kernel
theorem dX7_sum_0 : decode cX7_sum 0 = .ok (.iconst 0, 1) := by decide +kernel
theorem dX7_sum_1 : decode cX7_sum 1 = .ok (.istore_n 2, 1) := by decide +kernel
theorem dX7_sum_2 : decode cX7_sum 2 = .ok (.iconst 0, 1) := by decide +kernel
theorem dX7_sum_3 : decode cX7_sum 3 = .ok (.istore_n 3, 1) := by decide +kernel
theorem dX7_sum_4 : decode cX7_sum 4 = .ok (.iload_n 3, 1) := by decide +kernel
theorem dX7_sum_5 : decode cX7_sum 5 = .ok (.iload_n 1, 1) := by decide +kernel
theorem dX7_sum_6 : decode cX7_sum 6 = .ok (.if_icmp .ge 15, 3) := by decide +kernel
theorem dX7_sum_9 : decode cX7_sum 9 = .ok (.iload_n 2, 1) := by decide +kernel
theorem dX7_sum_10 : decode cX7_sum 10 = .ok (.aload_n 0, 1) := by decide +kernel
theorem dX7_sum_11 : decode cX7_sum 11 = .ok (.iload_n 3, 1) := by decide +kernel
theorem dX7_sum_12 : decode cX7_sum 12 = .ok (.iaload, 1) := by decide +kernel
theorem dX7_sum_13 : decode cX7_sum 13 = .ok (.iadd, 1) := by decide +kernel
theorem dX7_sum_14 : decode cX7_sum 14 = .ok (.istore_n 2, 1) := by decide +kernel
theorem dX7_sum_15 : decode cX7_sum 15 = .ok (.iinc 3 1, 3) := by decide +kernel
theorem dX7_sum_18 : decode cX7_sum 18 = .ok (.goto (-14), 3) := by decide +kernel
theorem dX7_sum_21 : decode cX7_sum 21 = .ok (.iload_n 2, 1) := by decide +kernel
theorem dX7_sum_22 : decode cX7_sum 22 = .ok (.ireturn, 1) := by decide +kernel
theorem dX7_hasCrew_0 : decode cX7_hasCrew 0 = .ok (.iload_n 1, 1) := by decide +kernel
theorem dX7_hasCrew_1 : decode cX7_hasCrew 1 = .ok (.ifCond .lt 18, 3) := by decide +kernel
theorem dX7_hasCrew_4 : decode cX7_hasCrew 4 = .ok (.iload_n 1, 1) := by decide +kernel
theorem dX7_hasCrew_5 : decode cX7_hasCrew 5 = .ok (.aload_n 0, 1) := by decide +kernel
theorem dX7_hasCrew_6 : decode cX7_hasCrew 6 = .ok (.getfield 40, 3) := by decide +kernel
theorem dX7_hasCrew_9 : decode cX7_hasCrew 9 = .ok (.getfield 137, 3) := by decide +kernel
theorem dX7_hasCrew_12 : decode cX7_hasCrew 12 = .ok (.if_icmp .ge 7, 3) := by decide +kernel
theorem dX7_hasCrew_15 : decode cX7_hasCrew 15 = .ok (.iconst 1, 1) := by decide +kernel
theorem dX7_hasCrew_16 : decode cX7_hasCrew 16 = .ok (.goto 4, 3) := by decide +kernel
theorem dX7_hasCrew_19 : decode cX7_hasCrew 19 = .ok (.iconst 0, 1) := by decide +kernel
theorem dX7_hasCrew_20 : decode cX7_hasCrew 20 = .ok (.ireturn, 1) := by decide +kernel
theorem dX7_hasAlightNeighbour_0 : decode cX7_hasAlightNeighbour 0 = .ok (.iconst 0, 1) := by decide +kernel
theorem dX7_hasAlightNeighbour_1 : decode cX7_hasAlightNeighbour 1 = .ok (.istore_n 2, 1) := by decide +kernel
theorem dX7_hasAlightNeighbour_2 : decode cX7_hasAlightNeighbour 2 = .ok (.iload_n 2, 1) := by decide +kernel
theorem dX7_hasAlightNeighbour_3 : decode cX7_hasAlightNeighbour 3 = .ok (.bipush 8, 2) := by decide +kernel
theorem dX7_hasAlightNeighbour_5 : decode cX7_hasAlightNeighbour 5 = .ok (.if_icmp .ge 39, 3) := by decide +kernel
theorem dX7_hasAlightNeighbour_8 : decode cX7_hasAlightNeighbour 8 = .ok (.aload_n 0, 1) := by decide +kernel
theorem dX7_hasAlightNeighbour_9 : decode cX7_hasAlightNeighbour 9 = .ok (.getfield 12, 3) := by decide +kernel
theorem dX7_hasAlightNeighbour_12 : decode cX7_hasAlightNeighbour 12 = .ok (.iload_n 1, 1) := by decide +kernel
theorem dX7_hasAlightNeighbour_13 : decode cX7_hasAlightNeighbour 13 = .ok (.iload_n 2, 1) := by decide +kernel
theorem dX7_hasAlightNeighbour_14 : decode cX7_hasAlightNeighbour 14 = .ok (.iconst 1, 1) := by decide +kernel
theorem dX7_hasAlightNeighbour_15 : decode cX7_hasAlightNeighbour 15 = .ok (.invokevirtual 246, 3) := by decide +kernel
theorem dX7_hasAlightNeighbour_18 : decode cX7_hasAlightNeighbour 18 = .ok (.istore_n 3, 1) := by decide +kernel
theorem dX7_hasAlightNeighbour_19 : decode cX7_hasAlightNeighbour 19 = .ok (.iload_n 3, 1) := by decide +kernel
theorem dX7_hasAlightNeighbour_20 : decode cX7_hasAlightNeighbour 20 = .ok (.ifCond .lt 18, 3) := by decide +kernel
theorem dX7_hasAlightNeighbour_23 : decode cX7_hasAlightNeighbour 23 = .ok (.aload_n 0, 1) := by decide +kernel
theorem dX7_hasAlightNeighbour_24 : decode cX7_hasAlightNeighbour 24 = .ok (.getfield 40, 3) := by decide +kernel
theorem dX7_hasAlightNeighbour_27 : decode cX7_hasAlightNeighbour 27 = .ok (.getfield 107, 3) := by decide +kernel
theorem dX7_hasAlightNeighbour_30 : decode cX7_hasAlightNeighbour 30 = .ok (.iload_n 3, 1) := by decide +kernel
theorem dX7_hasAlightNeighbour_31 : decode cX7_hasAlightNeighbour 31 = .ok (.iaload, 1) := by decide +kernel
theorem dX7_hasAlightNeighbour_32 : decode cX7_hasAlightNeighbour 32 = .ok (.iconst 2, 1) := by decide +kernel
theorem dX7_hasAlightNeighbour_33 : decode cX7_hasAlightNeighbour 33 = .ok (.if_icmp .ne 5, 3) := by decide +kernel
theorem dX7_hasAlightNeighbour_36 : decode cX7_hasAlightNeighbour 36 = .ok (.iconst 1, 1) := by decide +kernel
theorem dX7_hasAlightNeighbour_37 : decode cX7_hasAlightNeighbour 37 = .ok (.ireturn, 1) := by decide +kernel
theorem dX7_hasAlightNeighbour_38 : decode cX7_hasAlightNeighbour 38 = .ok (.iinc 2 1, 3) := by decide +kernel
theorem dX7_hasAlightNeighbour_41 : decode cX7_hasAlightNeighbour 41 = .ok (.goto (-39), 3) := by decide +kernel
theorem dX7_hasAlightNeighbour_44 : decode cX7_hasAlightNeighbour 44 = .ok (.iconst 0, 1) := by decide +kernel
theorem dX7_hasAlightNeighbour_45 : decode cX7_hasAlightNeighbour 45 = .ok (.ireturn, 1) := by decide +kernel
theorem dX7_work_0 : decode cX7_work 0 = .ok (.aload_n 0, 1) := by decide +kernel
theorem dX7_work_1 : decode cX7_work 1 = .ok (.getfield 33, 3) := by decide +kernel
theorem dX7_work_4 : decode cX7_work 4 = .ok (.aload_n 0, 1) := by decide +kernel
theorem dX7_work_5 : decode cX7_work 5 = .ok (.getfield 19, 3) := by decide +kernel
theorem dX7_work_8 : decode cX7_work 8 = .ok (.aload_n 1, 1) := by decide +kernel
theorem dX7_work_9 : decode cX7_work 9 = .ok (.getfield 67, 3) := by decide +kernel
theorem dX7_work_12 : decode cX7_work 12 = .ok (.aload_n 0, 1) := by decide +kernel
theorem dX7_work_13 : decode cX7_work 13 = .ok (.getfield 55, 3) := by decide +kernel
theorem dX7_work_16 : decode cX7_work 16 = .ok (.invokevirtual 250, 3) := by decide +kernel
theorem dX7_work_19 : decode cX7_work 19 = .ok (.aload_n 0, 1) := by decide +kernel
theorem dX7_work_20 : decode cX7_work 20 = .ok (.getfield 26, 3) := by decide +kernel
theorem dX7_work_23 : decode cX7_work 23 = .ok (.aload_n 1, 1) := by decide +kernel
theorem dX7_work_24 : decode cX7_work 24 = .ok (.invokevirtual 254, 3) := by decide +kernel
theorem dX7_work_27 : decode cX7_work 27 = .ok (.iconst 0, 1) := by decide +kernel
theorem dX7_work_28 : decode cX7_work 28 = .ok (.istore_n 2, 1) := by decide +kernel
theorem dX7_work_29 : decode cX7_work 29 = .ok (.iload_n 2, 1) := by decide +kernel
theorem dX7_work_30 : decode cX7_work 30 = .ok (.aload_n 1, 1) := by decide +kernel
theorem dX7_work_31 : decode cX7_work 31 = .ok (.getfield 137, 3) := by decide +kernel
theorem dX7_work_34 : decode cX7_work 34 = .ok (.if_icmp .ge 23, 3) := by decide +kernel
theorem dX7_work_37 : decode cX7_work 37 = .ok (.aload_n 1, 1) := by decide +kernel
theorem dX7_work_38 : decode cX7_work 38 = .ok (.getfield 177, 3) := by decide +kernel
theorem dX7_work_41 : decode cX7_work 41 = .ok (.iload_n 2, 1) := by decide +kernel
theorem dX7_work_42 : decode cX7_work 42 = .ok (.aaload, 1) := by decide +kernel
theorem dX7_work_43 : decode cX7_work 43 = .ok (.aload_n 1, 1) := by decide +kernel
theorem dX7_work_44 : decode cX7_work 44 = .ok (.aload_n 0, 1) := by decide +kernel
theorem dX7_work_45 : decode cX7_work 45 = .ok (.getfield 12, 3) := by decide +kernel
theorem dX7_work_48 : decode cX7_work 48 = .ok (.invokevirtual 257, 3) := by decide +kernel
theorem dX7_work_51 : decode cX7_work 51 = .ok (.iinc 2 1, 3) := by decide +kernel
theorem dX7_work_54 : decode cX7_work 54 = .ok (.goto (-25), 3) := by decide +kernel
theorem dX7_work_57 : decode cX7_work 57 = .ok (.aload_n 1, 1) := by decide +kernel
theorem dX7_work_58 : decode cX7_work 58 = .ok (.invokevirtual 261, 3) := by decide +kernel
theorem dX7_work_61 : decode cX7_work 61 = .ok (.aload_n 1, 1) := by decide +kernel
theorem dX7_work_62 : decode cX7_work 62 = .ok (.getfield 140, 3) := by decide +kernel
theorem dX7_work_65 : decode cX7_work 65 = .ok (.aload_n 0, 1) := by decide +kernel
theorem dX7_work_66 : decode cX7_work 66 = .ok (.getfield 12, 3) := by decide +kernel
theorem dX7_work_69 : decode cX7_work 69 = .ok (.getfield 134, 3) := by decide +kernel
theorem dX7_work_72 : decode cX7_work 72 = .ok (.invokevirtual 264, 3) := by decide +kernel
theorem dX7_work_75 : decode cX7_work 75 = .ok (.iconst 0, 1) := by decide +kernel
theorem dX7_work_76 : decode cX7_work 76 = .ok (.istore_n 2, 1) := by decide +kernel
theorem dX7_work_77 : decode cX7_work 77 = .ok (.iload_n 2, 1) := by decide +kernel
theorem dX7_work_78 : decode cX7_work 78 = .ok (.aload_n 1, 1) := by decide +kernel
theorem dX7_work_79 : decode cX7_work 79 = .ok (.getfield 140, 3) := by decide +kernel
theorem dX7_work_82 : decode cX7_work 82 = .ok (.getfield 144, 3) := by decide +kernel
theorem dX7_work_85 : decode cX7_work 85 = .ok (.if_icmp .ge 22, 3) := by decide +kernel
theorem dX7_work_88 : decode cX7_work 88 = .ok (.aload_n 0, 1) := by decide +kernel
theorem dX7_work_89 : decode cX7_work 89 = .ok (.getfield 33, 3) := by decide +kernel
theorem dX7_work_92 : decode cX7_work 92 = .ok (.aload_n 1, 1) := by decide +kernel
theorem dX7_work_93 : decode cX7_work 93 = .ok (.aload_n 0, 1) := by decide +kernel
theorem dX7_work_94 : decode cX7_work 94 = .ok (.getfield 12, 3) := by decide +kernel
theorem dX7_work_97 : decode cX7_work 97 = .ok (.iload_n 2, 1) := by decide +kernel
theorem dX7_work_98 : decode cX7_work 98 = .ok (.invokevirtual 267, 3) := by decide +kernel
theorem dX7_work_101 : decode cX7_work 101 = .ok (.iinc 2 1, 3) := by decide +kernel
theorem dX7_work_104 : decode cX7_work 104 = .ok (.goto (-27), 3) := by decide +kernel
theorem dX7_work_107 : decode cX7_work 107 = .ok (.aload_n 0, 1) := by decide +kernel
theorem dX7_work_108 : decode cX7_work 108 = .ok (.getfield 33, 3) := by decide +kernel
theorem dX7_work_111 : decode cX7_work 111 = .ok (.aload_n 1, 1) := by decide +kernel
theorem dX7_work_112 : decode cX7_work 112 = .ok (.aload_n 0, 1) := by decide +kernel
theorem dX7_work_113 : decode cX7_work 113 = .ok (.getfield 12, 3) := by decide +kernel
theorem dX7_work_116 : decode cX7_work 116 = .ok (.invokevirtual 271, 3) := by decide +kernel
theorem dX7_work_119 : decode cX7_work 119 = .ok (.iconst 0, 1) := by decide +kernel
theorem dX7_work_120 : decode cX7_work 120 = .ok (.istore_n 2, 1) := by decide +kernel
theorem dX7_work_121 : decode cX7_work 121 = .ok (.iload_n 2, 1) := by decide +kernel
theorem dX7_work_122 : decode cX7_work 122 = .ok (.aload_n 1, 1) := by decide +kernel
theorem dX7_work_123 : decode cX7_work 123 = .ok (.getfield 140, 3) := by decide +kernel
theorem dX7_work_126 : decode cX7_work 126 = .ok (.getfield 144, 3) := by decide +kernel
theorem dX7_work_129 : decode cX7_work 129 = .ok (.if_icmp .ge 22, 3) := by decide +kernel
theorem dX7_work_132 : decode cX7_work 132 = .ok (.aload_n 0, 1) := by decide +kernel
theorem dX7_work_133 : decode cX7_work 133 = .ok (.getfield 33, 3) := by decide +kernel
theorem dX7_work_136 : decode cX7_work 136 = .ok (.aload_n 1, 1) := by decide +kernel
theorem dX7_work_137 : decode cX7_work 137 = .ok (.aload_n 0, 1) := by decide +kernel
theorem dX7_work_138 : decode cX7_work 138 = .ok (.getfield 12, 3) := by decide +kernel
theorem dX7_work_141 : decode cX7_work 141 = .ok (.iload_n 2, 1) := by decide +kernel
theorem dX7_work_142 : decode cX7_work 142 = .ok (.invokevirtual 274, 3) := by decide +kernel
theorem dX7_work_145 : decode cX7_work 145 = .ok (.iinc 2 1, 3) := by decide +kernel
theorem dX7_work_148 : decode cX7_work 148 = .ok (.goto (-27), 3) := by decide +kernel
theorem dX7_work_151 : decode cX7_work 151 = .ok (.aload_n 0, 1) := by decide +kernel
theorem dX7_work_152 : decode cX7_work 152 = .ok (.getfield 33, 3) := by decide +kernel
theorem dX7_work_155 : decode cX7_work 155 = .ok (.aload_n 1, 1) := by decide +kernel
theorem dX7_work_156 : decode cX7_work 156 = .ok (.aload_n 0, 1) := by decide +kernel
theorem dX7_work_157 : decode cX7_work 157 = .ok (.getfield 12, 3) := by decide +kernel
theorem dX7_work_160 : decode cX7_work 160 = .ok (.invokevirtual 277, 3) := by decide +kernel
theorem dX7_work_163 : decode cX7_work 163 = .ok (.aload_n 1, 1) := by decide +kernel
theorem dX7_work_164 : decode cX7_work 164 = .ok (.dup, 1) := by decide +kernel
theorem dX7_work_165 : decode cX7_work 165 = .ok (.getfield 67, 3) := by decide +kernel
theorem dX7_work_168 : decode cX7_work 168 = .ok (.iconst 1, 1) := by decide +kernel
theorem dX7_work_169 : decode cX7_work 169 = .ok (.iadd, 1) := by decide +kernel
theorem dX7_work_170 : decode cX7_work 170 = .ok (.putfield 67, 3) := by decide +kernel
theorem dX7_work_173 : decode cX7_work 173 = .ok (.aload_n 0, 1) := by decide +kernel
theorem dX7_work_174 : decode cX7_work 174 = .ok (.getfield 59, 3) := by decide +kernel
theorem dX7_work_177 : decode cX7_work 177 = .ok (.ifCond .eq 7, 3) := by decide +kernel
theorem dX7_work_180 : decode cX7_work 180 = .ok (.aload_n 1, 1) := by decide +kernel
theorem dX7_work_181 : decode cX7_work 181 = .ok (.invokevirtual 280, 3) := by decide +kernel
theorem dX7_work_184 : decode cX7_work 184 = .ok (.return_, 1) := by decide +kernel
theorem dX8_init_0 : decode cX8_init 0 = .ok (.aload_n 0, 1) := by decide +kernel
theorem dX8_init_1 : decode cX8_init 1 = .ok (.invokespecial 1, 3) := by decide +kernel
theorem dX8_init_4 : decode cX8_init 4 = .ok (.aload_n 0, 1) := by decide +kernel
theorem dX8_init_5 : decode cX8_init 5 = .ok (.iconst 2, 1) := by decide +kernel
theorem dX8_init_6 : decode cX8_init 6 = .ok (.putfield 7, 3) := by decide +kernel
theorem dX8_init_9 : decode cX8_init 9 = .ok (.aload_n 0, 1) := by decide +kernel
theorem dX8_init_10 : decode cX8_init 10 = .ok (.iconst 2, 1) := by decide +kernel
theorem dX8_init_11 : decode cX8_init 11 = .ok (.putfield 13, 3) := by decide +kernel
theorem dX8_init_14 : decode cX8_init 14 = .ok (.aload_n 0, 1) := by decide +kernel
theorem dX8_init_15 : decode cX8_init 15 = .ok (.iconst 4, 1) := by decide +kernel
theorem dX8_init_16 : decode cX8_init 16 = .ok (.putfield 16, 3) := by decide +kernel
theorem dX8_init_19 : decode cX8_init 19 = .ok (.aload_n 0, 1) := by decide +kernel
theorem dX8_init_20 : decode cX8_init 20 = .ok (.sipush 256, 3) := by decide +kernel
theorem dX8_init_23 : decode cX8_init 23 = .ok (.newarray .int, 2) := by decide +kernel
theorem dX8_init_25 : decode cX8_init 25 = .ok (.putfield 19, 3) := by decide +kernel
theorem dX8_init_28 : decode cX8_init 28 = .ok (.aload_n 0, 1) := by decide +kernel
theorem dX8_init_29 : decode cX8_init 29 = .ok (.sipush 256, 3) := by decide +kernel
theorem dX8_init_32 : decode cX8_init 32 = .ok (.newarray .int, 2) := by decide +kernel
theorem dX8_init_34 : decode cX8_init 34 = .ok (.putfield 23, 3) := by decide +kernel
theorem dX8_init_37 : decode cX8_init 37 = .ok (.aload_n 0, 1) := by decide +kernel
theorem dX8_init_38 : decode cX8_init 38 = .ok (.sipush 256, 3) := by decide +kernel
theorem dX8_init_41 : decode cX8_init 41 = .ok (.newarray .int, 2) := by decide +kernel
theorem dX8_init_43 : decode cX8_init 43 = .ok (.putfield 26, 3) := by decide +kernel
theorem dX8_init_46 : decode cX8_init 46 = .ok (.aload_n 0, 1) := by decide +kernel
theorem dX8_init_47 : decode cX8_init 47 = .ok (.sipush 256, 3) := by decide +kernel
theorem dX8_init_50 : decode cX8_init 50 = .ok (.newarray .int, 2) := by decide +kernel
theorem dX8_init_52 : decode cX8_init 52 = .ok (.putfield 29, 3) := by decide +kernel
theorem dX8_init_55 : decode cX8_init 55 = .ok (.aload_n 0, 1) := by decide +kernel
theorem dX8_init_56 : decode cX8_init 56 = .ok (.bipush 16, 2) := by decide +kernel
theorem dX8_init_58 : decode cX8_init 58 = .ok (.newarray .int, 2) := by decide +kernel
theorem dX8_init_60 : decode cX8_init 60 = .ok (.putfield 32, 3) := by decide +kernel
theorem dX8_init_63 : decode cX8_init 63 = .ok (.aload_n 0, 1) := by decide +kernel
theorem dX8_init_64 : decode cX8_init 64 = .ok (.bipush 16, 2) := by decide +kernel
theorem dX8_init_66 : decode cX8_init 66 = .ok (.newarray .int, 2) := by decide +kernel
theorem dX8_init_68 : decode cX8_init 68 = .ok (.putfield 35, 3) := by decide +kernel
theorem dX8_init_71 : decode cX8_init 71 = .ok (.aload_n 0, 1) := by decide +kernel
theorem dX8_init_72 : decode cX8_init 72 = .ok (.bipush 16, 2) := by decide +kernel
theorem dX8_init_74 : decode cX8_init 74 = .ok (.newarray .int, 2) := by decide +kernel
theorem dX8_init_76 : decode cX8_init 76 = .ok (.putfield 38, 3) := by decide +kernel
theorem dX8_init_79 : decode cX8_init 79 = .ok (.aload_n 0, 1) := by decide +kernel
theorem dX8_init_80 : decode cX8_init 80 = .ok (.bipush 16, 2) := by decide +kernel
theorem dX8_init_82 : decode cX8_init 82 = .ok (.newarray .int, 2) := by decide +kernel
theorem dX8_init_84 : decode cX8_init 84 = .ok (.putfield 41, 3) := by decide +kernel
theorem dX8_init_87 : decode cX8_init 87 = .ok (.aload_n 0, 1) := by decide +kernel
theorem dX8_init_88 : decode cX8_init 88 = .ok (.bipush 20, 2) := by decide +kernel
theorem dX8_init_90 : decode cX8_init 90 = .ok (.newarray .int, 2) := by decide +kernel
theorem dX8_init_92 : decode cX8_init 92 = .ok (.putfield 44, 3) := by decide +kernel
theorem dX8_init_95 : decode cX8_init 95 = .ok (.aload_n 0, 1) := by decide +kernel
theorem dX8_init_96 : decode cX8_init 96 = .ok (.bipush 20, 2) := by decide +kernel
theorem dX8_init_98 : decode cX8_init 98 = .ok (.newarray .int, 2) := by decide +kernel
theorem dX8_init_100 : decode cX8_init 100 = .ok (.putfield 47, 3) := by decide +kernel
theorem dX8_init_103 : decode cX8_init 103 = .ok (.aload_n 0, 1) := by decide +kernel
theorem dX8_init_104 : decode cX8_init 104 = .ok (.sipush 1824, 3) := by decide +kernel
theorem dX8_init_107 : decode cX8_init 107 = .ok (.newarray .int, 2) := by decide +kernel
theorem dX8_init_109 : decode cX8_init 109 = .ok (.putfield 50, 3) := by decide +kernel
theorem dX8_init_112 : decode cX8_init 112 = .ok (.aload_n 0, 1) := by decide +kernel
theorem dX8_init_113 : decode cX8_init 113 = .ok (.sipush 7296, 3) := by decide +kernel
theorem dX8_init_116 : decode cX8_init 116 = .ok (.newarray .int, 2) := by decide +kernel
theorem dX8_init_118 : decode cX8_init 118 = .ok (.putfield 53, 3) := by decide +kernel
theorem dX8_init_121 : decode cX8_init 121 = .ok (.aload_n 0, 1) := by decide +kernel
theorem dX8_init_122 : decode cX8_init 122 = .ok (.iconst 3, 1) := by decide +kernel
theorem dX8_init_123 : decode cX8_init 123 = .ok (.newarray .int, 2) := by decide +kernel
theorem dX8_init_125 : decode cX8_init 125 = .ok (.putfield 56, 3) := by decide +kernel
theorem dX8_init_128 : decode cX8_init 128 = .ok (.aload_n 0, 1) := by decide +kernel
theorem dX8_init_129 : decode cX8_init 129 = .ok (.iconst 1, 1) := by decide +kernel
theorem dX8_init_130 : decode cX8_init 130 = .ok (.putfield 59, 3) := by decide +kernel
theorem dX8_init_133 : decode cX8_init 133 = .ok (.aload_n 0, 1) := by decide +kernel
theorem dX8_init_134 : decode cX8_init 134 = .ok (.sipush 256, 3) := by decide +kernel
theorem dX8_init_137 : decode cX8_init 137 = .ok (.newarray .int, 2) := by decide +kernel
theorem dX8_init_139 : decode cX8_init 139 = .ok (.putfield 62, 3) := by decide +kernel
theorem dX8_init_142 : decode cX8_init 142 = .ok (.aload_n 0, 1) := by decide +kernel
theorem dX8_init_143 : decode cX8_init 143 = .ok (.sipush 256, 3) := by decide +kernel
theorem dX8_init_146 : decode cX8_init 146 = .ok (.newarray .int, 2) := by decide +kernel
theorem dX8_init_148 : decode cX8_init 148 = .ok (.putfield 65, 3) := by decide +kernel
theorem dX8_init_151 : decode cX8_init 151 = .ok (.aload_n 0, 1) := by decide +kernel
theorem dX8_init_152 : decode cX8_init 152 = .ok (.sipush 256, 3) := by decide +kernel
theorem dX8_init_155 : decode cX8_init 155 = .ok (.newarray .int, 2) := by decide +kernel
theorem dX8_init_157 : decode cX8_init 157 = .ok (.putfield 68, 3) := by decide +kernel
theorem dX8_init_160 : decode cX8_init 160 = .ok (.aload_n 0, 1) := by decide +kernel
theorem dX8_init_161 : decode cX8_init 161 = .ok (.invokevirtual 71, 3) := by decide +kernel
theorem dX8_init_164 : decode cX8_init 164 = .ok (.return_, 1) := by decide +kernel
theorem dX8_in_0 : decode cX8_in 0 = .ok (.iload_n 0, 1) := by decide +kernel
theorem dX8_in_1 : decode cX8_in 1 = .ok (.iload_n 1, 1) := by decide +kernel
theorem dX8_in_2 : decode cX8_in 2 = .ok (.if_icmp .lt 12, 3) := by decide +kernel
theorem dX8_in_5 : decode cX8_in 5 = .ok (.iload_n 0, 1) := by decide +kernel
theorem dX8_in_6 : decode cX8_in 6 = .ok (.iload_n 2, 1) := by decide +kernel
theorem dX8_in_7 : decode cX8_in 7 = .ok (.if_icmp .gt 7, 3) := by decide +kernel
theorem dX8_in_10 : decode cX8_in 10 = .ok (.iconst 1, 1) := by decide +kernel
theorem dX8_in_11 : decode cX8_in 11 = .ok (.goto 4, 3) := by decide +kernel
theorem dX8_in_14 : decode cX8_in 14 = .ok (.iconst 0, 1) := by decide +kernel
theorem dX8_in_15 : decode cX8_in 15 = .ok (.ireturn, 1) := by decide +kernel
theorem dX8_isCell_0 : decode cX8_isCell 0 = .ok (.iload_n 1, 1) := by decide +kernel
theorem dX8_isCell_1 : decode cX8_isCell 1 = .ok (.iconst 0, 1) := by decide +kernel
theorem dX8_isCell_2 : decode cX8_isCell 2 = .ok (.aload_n 0, 1) := by decide +kernel
theorem dX8_isCell_3 : decode cX8_isCell 3 = .ok (.getfield 16, 3) := by decide +kernel
theorem dX8_isCell_6 : decode cX8_isCell 6 = .ok (.iconst 1, 1) := by decide +kernel
theorem dX8_isCell_7 : decode cX8_isCell 7 = .ok (.isub, 1) := by decide +kernel
theorem dX8_isCell_8 : decode cX8_isCell 8 = .ok (.invokestatic 74, 3) := by decide +kernel
theorem dX8_isCell_11 : decode cX8_isCell 11 = .ok (.ireturn, 1) := by decide +kernel
theorem dX8_begin_0 : decode cX8_begin 0 = .ok (.iconst 0, 1) := by decide +kernel
theorem dX8_begin_1 : decode cX8_begin 1 = .ok (.istore_n 1, 1) := by decide +kernel
theorem dX8_begin_2 : decode cX8_begin 2 = .ok (.iload_n 1, 1) := by decide +kernel
theorem dX8_begin_3 : decode cX8_begin 3 = .ok (.sipush 1824, 3) := by decide +kernel
theorem dX8_begin_6 : decode cX8_begin 6 = .ok (.if_icmp .ge 16, 3) := by decide +kernel
theorem dX8_begin_9 : decode cX8_begin 9 = .ok (.aload_n 0, 1) := by decide +kernel
theorem dX8_begin_10 : decode cX8_begin 10 = .ok (.getfield 50, 3) := by decide +kernel
theorem dX8_begin_13 : decode cX8_begin 13 = .ok (.iload_n 1, 1) := by decide +kernel
theorem dX8_begin_14 : decode cX8_begin 14 = .ok (.iconst 0, 1) := by decide +kernel
theorem dX8_begin_15 : decode cX8_begin 15 = .ok (.iastore, 1) := by decide +kernel
theorem dX8_begin_16 : decode cX8_begin 16 = .ok (.iinc 1 1, 3) := by decide +kernel
theorem dX8_begin_19 : decode cX8_begin 19 = .ok (.goto (-17), 3) := by decide +kernel
theorem dX8_begin_22 : decode cX8_begin 22 = .ok (.iconst 0, 1) := by decide +kernel
theorem dX8_begin_23 : decode cX8_begin 23 = .ok (.istore_n 1, 1) := by decide +kernel
theorem dX8_begin_24 : decode cX8_begin 24 = .ok (.iload_n 1, 1) := by decide +kernel
theorem dX8_begin_25 : decode cX8_begin 25 = .ok (.sipush 256, 3) := by decide +kernel
theorem dX8_begin_28 : decode cX8_begin 28 = .ok (.if_icmp .ge 75, 3) := by decide +kernel
theorem dX8_begin_31 : decode cX8_begin 31 = .ok (.aload_n 0, 1) := by decide +kernel
theorem dX8_begin_32 : decode cX8_begin 32 = .ok (.getfield 50, 3) := by decide +kernel
theorem dX8_begin_35 : decode cX8_begin 35 = .ok (.iconst 0, 1) := by decide +kernel
theorem dX8_begin_36 : decode cX8_begin 36 = .ok (.iload_n 1, 1) := by decide +kernel
theorem dX8_begin_37 : decode cX8_begin 37 = .ok (.iadd, 1) := by decide +kernel
theorem dX8_begin_38 : decode cX8_begin 38 = .ok (.aload_n 0, 1) := by decide +kernel
theorem dX8_begin_39 : decode cX8_begin 39 = .ok (.getfield 26, 3) := by decide +kernel
theorem dX8_begin_42 : decode cX8_begin 42 = .ok (.iload_n 1, 1) := by decide +kernel
theorem dX8_begin_43 : decode cX8_begin 43 = .ok (.iaload, 1) := by decide +kernel
theorem dX8_begin_44 : decode cX8_begin 44 = .ok (.ifCond .le 7, 3) := by decide +kernel
theorem dX8_begin_47 : decode cX8_begin 47 = .ok (.iconst 1, 1) := by decide +kernel
theorem dX8_begin_48 : decode cX8_begin 48 = .ok (.goto 4, 3) := by decide +kernel
theorem dX8_begin_51 : decode cX8_begin 51 = .ok (.iconst 0, 1) := by decide +kernel
theorem dX8_begin_52 : decode cX8_begin 52 = .ok (.iastore, 1) := by decide +kernel
theorem dX8_begin_53 : decode cX8_begin 53 = .ok (.aload_n 0, 1) := by decide +kernel
theorem dX8_begin_54 : decode cX8_begin 54 = .ok (.getfield 50, 3) := by decide +kernel
theorem dX8_begin_57 : decode cX8_begin 57 = .ok (.sipush 256, 3) := by decide +kernel
theorem dX8_begin_60 : decode cX8_begin 60 = .ok (.iload_n 1, 1) := by decide +kernel
theorem dX8_begin_61 : decode cX8_begin 61 = .ok (.iadd, 1) := by decide +kernel
theorem dX8_begin_62 : decode cX8_begin 62 = .ok (.aload_n 0, 1) := by decide +kernel
theorem dX8_begin_63 : decode cX8_begin 63 = .ok (.getfield 26, 3) := by decide +kernel
theorem dX8_begin_66 : decode cX8_begin 66 = .ok (.iload_n 1, 1) := by decide +kernel
theorem dX8_begin_67 : decode cX8_begin 67 = .ok (.iaload, 1) := by decide +kernel
theorem dX8_begin_68 : decode cX8_begin 68 = .ok (.iastore, 1) := by decide +kernel
theorem dX8_begin_69 : decode cX8_begin 69 = .ok (.aload_n 0, 1) := by decide +kernel
theorem dX8_begin_70 : decode cX8_begin 70 = .ok (.getfield 50, 3) := by decide +kernel
theorem dX8_begin_73 : decode cX8_begin 73 = .ok (.sipush 512, 3) := by decide +kernel
theorem dX8_begin_76 : decode cX8_begin 76 = .ok (.iload_n 1, 1) := by decide +kernel
theorem dX8_begin_77 : decode cX8_begin 77 = .ok (.iadd, 1) := by decide +kernel
theorem dX8_begin_78 : decode cX8_begin 78 = .ok (.aload_n 0, 1) := by decide +kernel
theorem dX8_begin_79 : decode cX8_begin 79 = .ok (.getfield 29, 3) := by decide +kernel
theorem dX8_begin_82 : decode cX8_begin 82 = .ok (.iload_n 1, 1) := by decide +kernel
theorem dX8_begin_83 : decode cX8_begin 83 = .ok (.iaload, 1) := by decide +kernel
theorem dX8_begin_84 : decode cX8_begin 84 = .ok (.iastore, 1) := by decide +kernel
theorem dX8_begin_85 : decode cX8_begin 85 = .ok (.aload_n 0, 1) := by decide +kernel
theorem dX8_begin_86 : decode cX8_begin 86 = .ok (.getfield 50, 3) := by decide +kernel
theorem dX8_begin_89 : decode cX8_begin 89 = .ok (.sipush 1280, 3) := by decide +kernel
theorem dX8_begin_92 : decode cX8_begin 92 = .ok (.iload_n 1, 1) := by decide +kernel
theorem dX8_begin_93 : decode cX8_begin 93 = .ok (.iadd, 1) := by decide +kernel
theorem dX8_begin_94 : decode cX8_begin 94 = .ok (.bipush (-6), 2) := by decide +kernel
theorem dX8_begin_96 : decode cX8_begin 96 = .ok (.iastore, 1) := by decide +kernel
theorem dX8_begin_97 : decode cX8_begin 97 = .ok (.iinc 1 1, 3) := by decide +kernel
theorem dX8_begin_100 : decode cX8_begin 100 = .ok (.goto (-76), 3) := by decide +kernel
theorem dX8_begin_103 : decode cX8_begin 103 = .ok (.aload_n 0, 1) := by decide +kernel
theorem dX8_begin_104 : decode cX8_begin 104 = .ok (.getfield 50, 3) := by decide +kernel
theorem dX8_begin_107 : decode cX8_begin 107 = .ok (.sipush 1818, 3) := by decide +kernel
theorem dX8_begin_110 : decode cX8_begin 110 = .ok (.iconst 1, 1) := by decide +kernel
theorem dX8_begin_111 : decode cX8_begin 111 = .ok (.iastore, 1) := by decide +kernel
theorem dX8_begin_112 : decode cX8_begin 112 = .ok (.aload_n 0, 1) := by decide +kernel
theorem dX8_begin_113 : decode cX8_begin 113 = .ok (.getfield 50, 3) := by decide +kernel
theorem dX8_begin_116 : decode cX8_begin 116 = .ok (.sipush 1792, 3) := by decide +kernel
theorem dX8_begin_119 : decode cX8_begin 119 = .ok (.iconst 0, 1) := by decide +kernel
theorem dX8_begin_120 : decode cX8_begin 120 = .ok (.iastore, 1) := by decide +kernel
theorem dX8_begin_121 : decode cX8_begin 121 = .ok (.aload_n 0, 1) := by decide +kernel
theorem dX8_begin_122 : decode cX8_begin 122 = .ok (.getfield 50, 3) := by decide +kernel
theorem dX8_begin_125 : decode cX8_begin 125 = .ok (.sipush 1793, 3) := by decide +kernel
theorem dX8_begin_128 : decode cX8_begin 128 = .ok (.aload_n 0, 1) := by decide +kernel
theorem dX8_begin_129 : decode cX8_begin 129 = .ok (.getfield 7, 3) := by decide +kernel
theorem dX8_begin_132 : decode cX8_begin 132 = .ok (.iconst 1, 1) := by decide +kernel
theorem dX8_begin_133 : decode cX8_begin 133 = .ok (.isub, 1) := by decide +kernel
theorem dX8_begin_134 : decode cX8_begin 134 = .ok (.iastore, 1) := by decide +kernel
theorem dX8_begin_135 : decode cX8_begin 135 = .ok (.aload_n 0, 1) := by decide +kernel
theorem dX8_begin_136 : decode cX8_begin 136 = .ok (.getfield 50, 3) := by decide +kernel
theorem dX8_begin_139 : decode cX8_begin 139 = .ok (.sipush 1794, 3) := by decide +kernel
theorem dX8_begin_142 : decode cX8_begin 142 = .ok (.iconst 0, 1) := by decide +kernel
theorem dX8_begin_143 : decode cX8_begin 143 = .ok (.iastore, 1) := by decide +kernel
theorem dX8_begin_144 : decode cX8_begin 144 = .ok (.return_, 1) := by decide +kernel
theorem dX8_grid_0 : decode cX8_grid 0 = .ok (.iload_n 1, 1) := by decide +kernel
theorem dX8_grid_1 : decode cX8_grid 1 = .ok (.iconst 2, 1) := by decide +kernel
theorem dX8_grid_2 : decode cX8_grid 2 = .ok (.bipush 16, 2) := by decide +kernel
theorem dX8_grid_4 : decode cX8_grid 4 = .ok (.invokestatic 74, 3) := by decide +kernel
theorem dX8_grid_7 : decode cX8_grid 7 = .ok (.ifCond .eq 13, 3) := by decide +kernel
theorem dX8_grid_10 : decode cX8_grid 10 = .ok (.iload_n 2, 1) := by decide +kernel
theorem dX8_grid_11 : decode cX8_grid 11 = .ok (.iconst 2, 1) := by decide +kernel
theorem dX8_grid_12 : decode cX8_grid 12 = .ok (.bipush 16, 2) := by decide +kernel
theorem dX8_grid_14 : decode cX8_grid 14 = .ok (.invokestatic 74, 3) := by decide +kernel
theorem dX8_grid_17 : decode cX8_grid 17 = .ok (.ifCond .ne 6, 3) := by decide +kernel
theorem dX8_grid_20 : decode cX8_grid 20 = .ok (.bipush (-2), 2) := by decide +kernel
theorem dX8_grid_22 : decode cX8_grid 22 = .ok (.ireturn, 1) := by decide +kernel
theorem dX8_grid_23 : decode cX8_grid 23 = .ok (.aload_n 0, 1) := by decide +kernel
theorem dX8_grid_24 : decode cX8_grid 24 = .ok (.getfield 50, 3) := by decide +kernel
theorem dX8_grid_27 : decode cX8_grid 27 = .ok (.sipush 1816, 3) := by decide +kernel
theorem dX8_grid_30 : decode cX8_grid 30 = .ok (.iaload, 1) := by decide +kernel
theorem dX8_grid_31 : decode cX8_grid 31 = .ok (.ifCond .le 6, 3) := by decide +kernel
theorem dX8_grid_34 : decode cX8_grid 34 = .ok (.bipush (-3), 2) := by decide +kernel
theorem dX8_grid_36 : decode cX8_grid 36 = .ok (.ireturn, 1) := by decide +kernel
theorem dX8_grid_37 : decode cX8_grid 37 = .ok (.aload_n 0, 1) := by decide +kernel
theorem dX8_grid_38 : decode cX8_grid 38 = .ok (.iload_n 1, 1) := by decide +kernel
theorem dX8_grid_39 : decode cX8_grid 39 = .ok (.putfield 7, 3) := by decide +kernel
theorem dX8_grid_42 : decode cX8_grid 42 = .ok (.aload_n 0, 1) := by decide +kernel
theorem dX8_grid_43 : decode cX8_grid 43 = .ok (.iload_n 2, 1) := by decide +kernel
theorem dX8_grid_44 : decode cX8_grid 44 = .ok (.putfield 13, 3) := by decide +kernel
theorem dX8_grid_47 : decode cX8_grid 47 = .ok (.aload_n 0, 1) := by decide +kernel
theorem dX8_grid_48 : decode cX8_grid 48 = .ok (.iload_n 1, 1) := by decide +kernel
theorem dX8_grid_49 : decode cX8_grid 49 = .ok (.iload_n 2, 1) := by decide +kernel
theorem dX8_grid_50 : decode cX8_grid 50 = .ok (.imul, 1) := by decide +kernel
theorem dX8_grid_51 : decode cX8_grid 51 = .ok (.putfield 16, 3) := by decide +kernel
theorem dX8_grid_54 : decode cX8_grid 54 = .ok (.iconst 0, 1) := by decide +kernel
theorem dX8_grid_55 : decode cX8_grid 55 = .ok (.istore_n 3, 1) := by decide +kernel
theorem dX8_grid_56 : decode cX8_grid 56 = .ok (.iload_n 3, 1) := by decide +kernel
theorem dX8_grid_57 : decode cX8_grid 57 = .ok (.sipush 256, 3) := by decide +kernel
theorem dX8_grid_60 : decode cX8_grid 60 = .ok (.if_icmp .ge 37, 3) := by decide +kernel
theorem dX8_grid_63 : decode cX8_grid 63 = .ok (.aload_n 0, 1) := by decide +kernel
theorem dX8_grid_64 : decode cX8_grid 64 = .ok (.getfield 19, 3) := by decide +kernel
theorem dX8_grid_67 : decode cX8_grid 67 = .ok (.iload_n 3, 1) := by decide +kernel
theorem dX8_grid_68 : decode cX8_grid 68 = .ok (.iconst 0, 1) := by decide +kernel
theorem dX8_grid_69 : decode cX8_grid 69 = .ok (.iastore, 1) := by decide +kernel
theorem dX8_grid_70 : decode cX8_grid 70 = .ok (.aload_n 0, 1) := by decide +kernel
theorem dX8_grid_71 : decode cX8_grid 71 = .ok (.getfield 23, 3) := by decide +kernel
theorem dX8_grid_74 : decode cX8_grid 74 = .ok (.iload_n 3, 1) := by decide +kernel
theorem dX8_grid_75 : decode cX8_grid 75 = .ok (.iconst 0, 1) := by decide +kernel
theorem dX8_grid_76 : decode cX8_grid 76 = .ok (.iastore, 1) := by decide +kernel
theorem dX8_grid_77 : decode cX8_grid 77 = .ok (.aload_n 0, 1) := by decide +kernel
theorem dX8_grid_78 : decode cX8_grid 78 = .ok (.getfield 26, 3) := by decide +kernel
theorem dX8_grid_81 : decode cX8_grid 81 = .ok (.iload_n 3, 1) := by decide +kernel
theorem dX8_grid_82 : decode cX8_grid 82 = .ok (.iconst 0, 1) := by decide +kernel
theorem dX8_grid_83 : decode cX8_grid 83 = .ok (.iastore, 1) := by decide +kernel
theorem dX8_grid_84 : decode cX8_grid 84 = .ok (.aload_n 0, 1) := by decide +kernel
theorem dX8_grid_85 : decode cX8_grid 85 = .ok (.getfield 29, 3) := by decide +kernel
theorem dX8_grid_88 : decode cX8_grid 88 = .ok (.iload_n 3, 1) := by decide +kernel
theorem dX8_grid_89 : decode cX8_grid 89 = .ok (.iconst 0, 1) := by decide +kernel
theorem dX8_grid_90 : decode cX8_grid 90 = .ok (.iastore, 1) := by decide +kernel
theorem dX8_grid_91 : decode cX8_grid 91 = .ok (.iinc 3 1, 3) := by decide +kernel
theorem dX8_grid_94 : decode cX8_grid 94 = .ok (.goto (-38), 3) := by decide +kernel
theorem dX8_grid_97 : decode cX8_grid 97 = .ok (.aload_n 0, 1) := by decide +kernel
theorem dX8_grid_98 : decode cX8_grid 98 = .ok (.iconst 0, 1) := by decide +kernel
theorem dX8_grid_99 : decode cX8_grid 99 = .ok (.putfield 78, 3) := by decide +kernel
theorem dX8_grid_102 : decode cX8_grid 102 = .ok (.aload_n 0, 1) := by decide +kernel
theorem dX8_grid_103 : decode cX8_grid 103 = .ok (.iconst 0, 1) := by decide +kernel
theorem dX8_grid_104 : decode cX8_grid 104 = .ok (.putfield 81, 3) := by decide +kernel
theorem dX8_grid_107 : decode cX8_grid 107 = .ok (.aload_n 0, 1) := by decide +kernel
theorem dX8_grid_108 : decode cX8_grid 108 = .ok (.dup, 1) := by decide +kernel
theorem dX8_grid_109 : decode cX8_grid 109 = .ok (.getfield 59, 3) := by decide +kernel
theorem dX8_grid_112 : decode cX8_grid 112 = .ok (.iconst 1, 1) := by decide +kernel
theorem dX8_grid_113 : decode cX8_grid 113 = .ok (.iadd, 1) := by decide +kernel
theorem dX8_grid_114 : decode cX8_grid 114 = .ok (.putfield 59, 3) := by decide +kernel
theorem dX8_grid_117 : decode cX8_grid 117 = .ok (.aload_n 0, 1) := by decide +kernel
theorem dX8_grid_118 : decode cX8_grid 118 = .ok (.invokevirtual 71, 3) := by decide +kernel
theorem dX8_grid_121 : decode cX8_grid 121 = .ok (.aload_n 0, 1) := by decide +kernel
theorem dX8_grid_122 : decode cX8_grid 122 = .ok (.getfield 16, 3) := by decide +kernel
theorem dX8_grid_125 : decode cX8_grid 125 = .ok (.ireturn, 1) := by decide +kernel
theorem dX8_cell_0 : decode cX8_cell 0 = .ok (.aload_n 0, 1) := by decide +kernel
theorem dX8_cell_1 : decode cX8_cell 1 = .ok (.iload_n 1, 1) := by decide +kernel
theorem dX8_cell_2 : decode cX8_cell 2 = .ok (.invokevirtual 84, 3) := by decide +kernel
theorem dX8_cell_5 : decode cX8_cell 5 = .ok (.ifCond .ne 5, 3) := by decide +kernel
theorem dX8_cell_8 : decode cX8_cell 8 = .ok (.iconst (-1), 1) := by decide +kernel
theorem dX8_cell_9 : decode cX8_cell 9 = .ok (.ireturn, 1) := by decide +kernel
theorem dX8_cell_10 : decode cX8_cell 10 = .ok (.iload_n 2, 1) := by decide +kernel
theorem dX8_cell_11 : decode cX8_cell 11 = .ok (.ifCond .eq 8, 3) := by decide +kernel
theorem dX8_cell_14 : decode cX8_cell 14 = .ok (.iload_n 2, 1) := by decide +kernel
theorem dX8_cell_15 : decode cX8_cell 15 = .ok (.iconst 5, 1) := by decide +kernel
theorem dX8_cell_16 : decode cX8_cell 16 = .ok (.if_icmp .ne 7, 3) := by decide +kernel
theorem dX8_cell_19 : decode cX8_cell 19 = .ok (.iconst 1, 1) := by decide +kernel
theorem dX8_cell_20 : decode cX8_cell 20 = .ok (.goto 4, 3) := by decide +kernel
theorem dX8_cell_23 : decode cX8_cell 23 = .ok (.iconst 0, 1) := by decide +kernel
theorem dX8_cell_24 : decode cX8_cell 24 = .ok (.istore 6, 2) := by decide +kernel
theorem dX8_cell_26 : decode cX8_cell 26 = .ok (.iload_n 2, 1) := by decide +kernel
theorem dX8_cell_27 : decode cX8_cell 27 = .ok (.iconst 0, 1) := by decide +kernel
theorem dX8_cell_28 : decode cX8_cell 28 = .ok (.iconst 5, 1) := by decide +kernel
theorem dX8_cell_29 : decode cX8_cell 29 = .ok (.invokestatic 74, 3) := by decide +kernel
theorem dX8_cell_32 : decode cX8_cell 32 = .ok (.ifCond .eq 45, 3) := by decide +kernel
theorem dX8_cell_35 : decode cX8_cell 35 = .ok (.iload_n 3, 1) := by decide +kernel
theorem dX8_cell_36 : decode cX8_cell 36 = .ok (.iconst 0, 1) := by decide +kernel
theorem dX8_cell_37 : decode cX8_cell 37 = .ok (.iload 6, 2) := by decide +kernel
theorem dX8_cell_39 : decode cX8_cell 39 = .ok (.ifCond .eq 7, 3) := by decide +kernel
theorem dX8_cell_42 : decode cX8_cell 42 = .ok (.iconst 0, 1) := by decide +kernel
theorem dX8_cell_43 : decode cX8_cell 43 = .ok (.goto 6, 3) := by decide +kernel
theorem dX8_cell_46 : decode cX8_cell 46 = .ok (.sipush 200, 3) := by decide +kernel
theorem dX8_cell_49 : decode cX8_cell 49 = .ok (.invokestatic 74, 3) := by decide +kernel
theorem dX8_cell_52 : decode cX8_cell 52 = .ok (.ifCond .eq 25, 3) := by decide +kernel
theorem dX8_cell_55 : decode cX8_cell 55 = .ok (.iload 4, 2) := by decide +kernel
theorem dX8_cell_57 : decode cX8_cell 57 = .ok (.iconst 0, 1) := by decide +kernel
theorem dX8_cell_58 : decode cX8_cell 58 = .ok (.bipush 100, 2) := by decide +kernel
theorem dX8_cell_60 : decode cX8_cell 60 = .ok (.invokestatic 74, 3) := by decide +kernel
theorem dX8_cell_63 : decode cX8_cell 63 = .ok (.ifCond .eq 14, 3) := by decide +kernel
theorem dX8_cell_66 : decode cX8_cell 66 = .ok (.iload 5, 2) := by decide +kernel
theorem dX8_cell_68 : decode cX8_cell 68 = .ok (.iconst 0, 1) := by decide +kernel
theorem dX8_cell_69 : decode cX8_cell 69 = .ok (.bipush 50, 2) := by decide +kernel
theorem dX8_cell_71 : decode cX8_cell 71 = .ok (.invokestatic 74, 3) := by decide +kernel
theorem dX8_cell_74 : decode cX8_cell 74 = .ok (.ifCond .ne 6, 3) := by decide +kernel
theorem dX8_cell_77 : decode cX8_cell 77 = .ok (.bipush (-2), 2) := by decide +kernel
theorem dX8_cell_79 : decode cX8_cell 79 = .ok (.ireturn, 1) := by decide +kernel
theorem dX8_cell_80 : decode cX8_cell 80 = .ok (.aload_n 0, 1) := by decide +kernel
theorem dX8_cell_81 : decode cX8_cell 81 = .ok (.getfield 50, 3) := by decide +kernel
theorem dX8_cell_84 : decode cX8_cell 84 = .ok (.sipush 1816, 3) := by decide +kernel
theorem dX8_cell_87 : decode cX8_cell 87 = .ok (.iaload, 1) := by decide +kernel
theorem dX8_cell_88 : decode cX8_cell 88 = .ok (.ifCond .le 6, 3) := by decide +kernel
theorem dX8_cell_91 : decode cX8_cell 91 = .ok (.bipush (-3), 2) := by decide +kernel
theorem dX8_cell_93 : decode cX8_cell 93 = .ok (.ireturn, 1) := by decide +kernel
theorem dX8_cell_94 : decode cX8_cell 94 = .ok (.aload_n 0, 1) := by decide +kernel
theorem dX8_cell_95 : decode cX8_cell 95 = .ok (.getfield 19, 3) := by decide +kernel
theorem dX8_cell_98 : decode cX8_cell 98 = .ok (.iload_n 1, 1) := by decide +kernel
theorem dX8_cell_99 : decode cX8_cell 99 = .ok (.iload_n 2, 1) := by decide +kernel
theorem dX8_cell_100 : decode cX8_cell 100 = .ok (.iastore, 1) := by decide +kernel
theorem dX8_cell_101 : decode cX8_cell 101 = .ok (.aload_n 0, 1) := by decide +kernel
theorem dX8_cell_102 : decode cX8_cell 102 = .ok (.getfield 23, 3) := by decide +kernel
theorem dX8_cell_105 : decode cX8_cell 105 = .ok (.iload_n 1, 1) := by decide +kernel
theorem dX8_cell_106 : decode cX8_cell 106 = .ok (.iload 5, 2) := by decide +kernel
theorem dX8_cell_108 : decode cX8_cell 108 = .ok (.iastore, 1) := by decide +kernel
theorem dX8_cell_109 : decode cX8_cell 109 = .ok (.aload_n 0, 1) := by decide +kernel
theorem dX8_cell_110 : decode cX8_cell 110 = .ok (.getfield 26, 3) := by decide +kernel
theorem dX8_cell_113 : decode cX8_cell 113 = .ok (.iload_n 1, 1) := by decide +kernel
theorem dX8_cell_114 : decode cX8_cell 114 = .ok (.iload_n 3, 1) := by decide +kernel
theorem dX8_cell_115 : decode cX8_cell 115 = .ok (.iastore, 1) := by decide +kernel
theorem dX8_cell_116 : decode cX8_cell 116 = .ok (.aload_n 0, 1) := by decide +kernel
theorem dX8_cell_117 : decode cX8_cell 117 = .ok (.getfield 29, 3) := by decide +kernel
theorem dX8_cell_120 : decode cX8_cell 120 = .ok (.iload_n 1, 1) := by decide +kernel
theorem dX8_cell_121 : decode cX8_cell 121 = .ok (.iload 4, 2) := by decide +kernel
theorem dX8_cell_123 : decode cX8_cell 123 = .ok (.iastore, 1) := by decide +kernel
theorem dX8_cell_124 : decode cX8_cell 124 = .ok (.aload_n 0, 1) := by decide +kernel
theorem dX8_cell_125 : decode cX8_cell 125 = .ok (.getfield 50, 3) := by decide +kernel
theorem dX8_cell_128 : decode cX8_cell 128 = .ok (.iconst 0, 1) := by decide +kernel
theorem dX8_cell_129 : decode cX8_cell 129 = .ok (.iload_n 1, 1) := by decide +kernel
theorem dX8_cell_130 : decode cX8_cell 130 = .ok (.iadd, 1) := by decide +kernel
theorem dX8_cell_131 : decode cX8_cell 131 = .ok (.iload_n 3, 1) := by decide +kernel
theorem dX8_cell_132 : decode cX8_cell 132 = .ok (.ifCond .le 7, 3) := by decide +kernel
theorem dX8_cell_135 : decode cX8_cell 135 = .ok (.iconst 1, 1) := by decide +kernel
theorem dX8_cell_136 : decode cX8_cell 136 = .ok (.goto 4, 3) := by decide +kernel
theorem dX8_cell_139 : decode cX8_cell 139 = .ok (.iconst 0, 1) := by decide +kernel
theorem dX8_cell_140 : decode cX8_cell 140 = .ok (.iastore, 1) := by decide +kernel
theorem dX8_cell_141 : decode cX8_cell 141 = .ok (.aload_n 0, 1) := by decide +kernel
theorem dX8_cell_142 : decode cX8_cell 142 = .ok (.getfield 50, 3) := by decide +kernel
theorem dX8_cell_145 : decode cX8_cell 145 = .ok (.sipush 256, 3) := by decide +kernel
theorem dX8_cell_148 : decode cX8_cell 148 = .ok (.iload_n 1, 1) := by decide +kernel
theorem dX8_cell_149 : decode cX8_cell 149 = .ok (.iadd, 1) := by decide +kernel
theorem dX8_cell_150 : decode cX8_cell 150 = .ok (.iload_n 3, 1) := by decide +kernel
theorem dX8_cell_151 : decode cX8_cell 151 = .ok (.iastore, 1) := by decide +kernel
theorem dX8_cell_152 : decode cX8_cell 152 = .ok (.aload_n 0, 1) := by decide +kernel
theorem dX8_cell_153 : decode cX8_cell 153 = .ok (.getfield 50, 3) := by decide +kernel
theorem dX8_cell_156 : decode cX8_cell 156 = .ok (.sipush 512, 3) := by decide +kernel
theorem dX8_cell_159 : decode cX8_cell 159 = .ok (.iload_n 1, 1) := by decide +kernel
theorem dX8_cell_160 : decode cX8_cell 160 = .ok (.iadd, 1) := by decide +kernel
theorem dX8_cell_161 : decode cX8_cell 161 = .ok (.iload 4, 2) := by decide +kernel
theorem dX8_cell_163 : decode cX8_cell 163 = .ok (.iastore, 1) := by decide +kernel
theorem dX8_cell_164 : decode cX8_cell 164 = .ok (.aload_n 0, 1) := by decide +kernel
theorem dX8_cell_165 : decode cX8_cell 165 = .ok (.dup, 1) := by decide +kernel
theorem dX8_cell_166 : decode cX8_cell 166 = .ok (.getfield 59, 3) := by decide +kernel
theorem dX8_cell_169 : decode cX8_cell 169 = .ok (.iconst 1, 1) := by decide +kernel
theorem dX8_cell_170 : decode cX8_cell 170 = .ok (.iadd, 1) := by decide +kernel
theorem dX8_cell_171 : decode cX8_cell 171 = .ok (.putfield 59, 3) := by decide +kernel
theorem dX8_cell_174 : decode cX8_cell 174 = .ok (.iconst 1, 1) := by decide +kernel
theorem dX8_cell_175 : decode cX8_cell 175 = .ok (.ireturn, 1) := by decide +kernel
theorem dX8_weather_0 : decode cX8_weather 0 = .ok (.iload_n 1, 1) := by decide +kernel
theorem dX8_weather_1 : decode cX8_weather 1 = .ok (.iconst 0, 1) := by decide +kernel
theorem dX8_weather_2 : decode cX8_weather 2 = .ok (.sipush 10000, 3) := by decide +kernel
theorem dX8_weather_5 : decode cX8_weather 5 = .ok (.invokestatic 74, 3) := by decide +kernel
theorem dX8_weather_8 : decode cX8_weather 8 = .ok (.ifCond .eq 33, 3) := by decide +kernel
theorem dX8_weather_11 : decode cX8_weather 11 = .ok (.iload_n 2, 1) := by decide +kernel
theorem dX8_weather_12 : decode cX8_weather 12 = .ok (.iconst 0, 1) := by decide +kernel
theorem dX8_weather_13 : decode cX8_weather 13 = .ok (.bipush 7, 2) := by decide +kernel
theorem dX8_weather_15 : decode cX8_weather 15 = .ok (.invokestatic 74, 3) := by decide +kernel
theorem dX8_weather_18 : decode cX8_weather 18 = .ok (.ifCond .eq 23, 3) := by decide +kernel
theorem dX8_weather_21 : decode cX8_weather 21 = .ok (.iload_n 3, 1) := by decide +kernel
theorem dX8_weather_22 : decode cX8_weather 22 = .ok (.iconst 0, 1) := by decide +kernel
theorem dX8_weather_23 : decode cX8_weather 23 = .ok (.iconst 4, 1) := by decide +kernel
theorem dX8_weather_24 : decode cX8_weather 24 = .ok (.invokestatic 74, 3) := by decide +kernel
theorem dX8_weather_27 : decode cX8_weather 27 = .ok (.ifCond .eq 14, 3) := by decide +kernel
theorem dX8_weather_30 : decode cX8_weather 30 = .ok (.iload 4, 2) := by decide +kernel
theorem dX8_weather_32 : decode cX8_weather 32 = .ok (.iconst 0, 1) := by decide +kernel
theorem dX8_weather_33 : decode cX8_weather 33 = .ok (.bipush 9, 2) := by decide +kernel
theorem dX8_weather_35 : decode cX8_weather 35 = .ok (.invokestatic 74, 3) := by decide +kernel
theorem dX8_weather_38 : decode cX8_weather 38 = .ok (.ifCond .ne 6, 3) := by decide +kernel
theorem dX8_weather_41 : decode cX8_weather 41 = .ok (.bipush (-2), 2) := by decide +kernel
theorem dX8_weather_43 : decode cX8_weather 43 = .ok (.ireturn, 1) := by decide +kernel
theorem dX8_weather_44 : decode cX8_weather 44 = .ok (.aload_n 0, 1) := by decide +kernel
theorem dX8_weather_45 : decode cX8_weather 45 = .ok (.getfield 78, 3) := by decide +kernel
theorem dX8_weather_48 : decode cX8_weather 48 = .ok (.bipush 16, 2) := by decide +kernel
theorem dX8_weather_50 : decode cX8_weather 50 = .ok (.if_icmp .ne 6, 3) := by decide +kernel
theorem dX8_weather_53 : decode cX8_weather 53 = .ok (.bipush (-4), 2) := by decide +kernel
theorem dX8_weather_55 : decode cX8_weather 55 = .ok (.ireturn, 1) := by decide +kernel
theorem dX8_weather_56 : decode cX8_weather 56 = .ok (.aload_n 0, 1) := by decide +kernel
theorem dX8_weather_57 : decode cX8_weather 57 = .ok (.getfield 32, 3) := by decide +kernel
theorem dX8_weather_60 : decode cX8_weather 60 = .ok (.aload_n 0, 1) := by decide +kernel
theorem dX8_weather_61 : decode cX8_weather 61 = .ok (.getfield 78, 3) := by decide +kernel
theorem dX8_weather_64 : decode cX8_weather 64 = .ok (.iload_n 1, 1) := by decide +kernel
theorem dX8_weather_65 : decode cX8_weather 65 = .ok (.iastore, 1) := by decide +kernel
theorem dX8_weather_66 : decode cX8_weather 66 = .ok (.aload_n 0, 1) := by decide +kernel
theorem dX8_weather_67 : decode cX8_weather 67 = .ok (.getfield 35, 3) := by decide +kernel
theorem dX8_weather_70 : decode cX8_weather 70 = .ok (.aload_n 0, 1) := by decide +kernel
theorem dX8_weather_71 : decode cX8_weather 71 = .ok (.getfield 78, 3) := by decide +kernel
theorem dX8_weather_74 : decode cX8_weather 74 = .ok (.iload_n 2, 1) := by decide +kernel
theorem dX8_weather_75 : decode cX8_weather 75 = .ok (.iastore, 1) := by decide +kernel
theorem dX8_weather_76 : decode cX8_weather 76 = .ok (.aload_n 0, 1) := by decide +kernel
theorem dX8_weather_77 : decode cX8_weather 77 = .ok (.getfield 38, 3) := by decide +kernel
theorem dX8_weather_80 : decode cX8_weather 80 = .ok (.aload_n 0, 1) := by decide +kernel
theorem dX8_weather_81 : decode cX8_weather 81 = .ok (.getfield 78, 3) := by decide +kernel
theorem dX8_weather_84 : decode cX8_weather 84 = .ok (.iload_n 3, 1) := by decide +kernel
theorem dX8_weather_85 : decode cX8_weather 85 = .ok (.iastore, 1) := by decide +kernel
theorem dX8_weather_86 : decode cX8_weather 86 = .ok (.aload_n 0, 1) := by decide +kernel
theorem dX8_weather_87 : decode cX8_weather 87 = .ok (.getfield 41, 3) := by decide +kernel
theorem dX8_weather_90 : decode cX8_weather 90 = .ok (.aload_n 0, 1) := by decide +kernel
theorem dX8_weather_91 : decode cX8_weather 91 = .ok (.getfield 78, 3) := by decide +kernel
theorem dX8_weather_94 : decode cX8_weather 94 = .ok (.iload 4, 2) := by decide +kernel
theorem dX8_weather_96 : decode cX8_weather 96 = .ok (.iastore, 1) := by decide +kernel
theorem dX8_weather_97 : decode cX8_weather 97 = .ok (.aload_n 0, 1) := by decide +kernel
theorem dX8_weather_98 : decode cX8_weather 98 = .ok (.dup, 1) := by decide +kernel
theorem dX8_weather_99 : decode cX8_weather 99 = .ok (.getfield 78, 3) := by decide +kernel
theorem dX8_weather_102 : decode cX8_weather 102 = .ok (.iconst 1, 1) := by decide +kernel
theorem dX8_weather_103 : decode cX8_weather 103 = .ok (.iadd, 1) := by decide +kernel
theorem dX8_weather_104 : decode cX8_weather 104 = .ok (.putfield 78, 3) := by decide +kernel
theorem dX8_weather_107 : decode cX8_weather 107 = .ok (.aload_n 0, 1) := by decide +kernel
theorem dX8_weather_108 : decode cX8_weather 108 = .ok (.getfield 78, 3) := by decide +kernel
theorem dX8_weather_111 : decode cX8_weather 111 = .ok (.ireturn, 1) := by decide +kernel
theorem dX8_seed_0 : decode cX8_seed 0 = .ok (.aload_n 0, 1) := by decide +kernel
theorem dX8_seed_1 : decode cX8_seed 1 = .ok (.getfield 88, 3) := by decide +kernel
theorem dX8_seed_4 : decode cX8_seed 4 = .ok (.istore_n 2, 1) := by decide +kernel
theorem dX8_seed_5 : decode cX8_seed 5 = .ok (.aload_n 0, 1) := by decide +kernel
theorem dX8_seed_6 : decode cX8_seed 6 = .ok (.iload_n 1, 1) := by decide +kernel
theorem dX8_seed_7 : decode cX8_seed 7 = .ok (.putfield 88, 3) := by decide +kernel
theorem dX8_seed_10 : decode cX8_seed 10 = .ok (.iload_n 2, 1) := by decide +kernel
theorem dX8_seed_11 : decode cX8_seed 11 = .ok (.ireturn, 1) := by decide +kernel
theorem dX8_light_0 : decode cX8_light 0 = .ok (.aload_n 0, 1) := by decide +kernel
theorem dX8_light_1 : decode cX8_light 1 = .ok (.iload_n 1, 1) := by decide +kernel
theorem dX8_light_2 : decode cX8_light 2 = .ok (.invokevirtual 84, 3) := by decide +kernel
theorem dX8_light_5 : decode cX8_light 5 = .ok (.ifCond .ne 5, 3) := by decide +kernel
theorem dX8_light_8 : decode cX8_light 8 = .ok (.iconst (-1), 1) := by decide +kernel
theorem dX8_light_9 : decode cX8_light 9 = .ok (.ireturn, 1) := by decide +kernel
theorem dX8_light_10 : decode cX8_light 10 = .ok (.iload_n 2, 1) := by decide +kernel
theorem dX8_light_11 : decode cX8_light 11 = .ok (.iconst 0, 1) := by decide +kernel
theorem dX8_light_12 : decode cX8_light 12 = .ok (.sipush 10000, 3) := by decide +kernel
theorem dX8_light_15 : decode cX8_light 15 = .ok (.invokestatic 74, 3) := by decide +kernel
theorem dX8_light_18 : decode cX8_light 18 = .ok (.ifCond .ne 6, 3) := by decide +kernel
theorem dX8_light_21 : decode cX8_light 21 = .ok (.bipush (-2), 2) := by decide +kernel
theorem dX8_light_23 : decode cX8_light 23 = .ok (.ireturn, 1) := by decide +kernel
theorem dX8_light_24 : decode cX8_light 24 = .ok (.aload_n 0, 1) := by decide +kernel
theorem dX8_light_25 : decode cX8_light 25 = .ok (.getfield 81, 3) := by decide +kernel
theorem dX8_light_28 : decode cX8_light 28 = .ok (.bipush 20, 2) := by decide +kernel
theorem dX8_light_30 : decode cX8_light 30 = .ok (.if_icmp .ne 6, 3) := by decide +kernel
theorem dX8_light_33 : decode cX8_light 33 = .ok (.bipush (-4), 2) := by decide +kernel
theorem dX8_light_35 : decode cX8_light 35 = .ok (.ireturn, 1) := by decide +kernel
theorem dX8_light_36 : decode cX8_light 36 = .ok (.aload_n 0, 1) := by decide +kernel
theorem dX8_light_37 : decode cX8_light 37 = .ok (.getfield 44, 3) := by decide +kernel
theorem dX8_light_40 : decode cX8_light 40 = .ok (.aload_n 0, 1) := by decide +kernel
