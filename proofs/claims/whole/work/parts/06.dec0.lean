theorem dX0_init_0 : decode cX0_init 0 = .ok (.aload_n 0, 1) := by decide +kernel
theorem dX0_init_1 : decode cX0_init 1 = .ok (.invokespecial 3, 3) := by decide +kernel
theorem dX0_init_4 : decode cX0_init 4 = .ok (.aload_n 0, 1) := by decide +kernel
theorem dX0_init_5 : decode cX0_init 5 = .ok (.bipush 12, 2) := by decide +kernel
theorem dX0_init_7 : decode cX0_init 7 = .ok (.newarray .int, 2) := by decide +kernel
theorem dX0_init_9 : decode cX0_init 9 = .ok (.putfield 9, 3) := by decide +kernel
theorem dX0_init_12 : decode cX0_init 12 = .ok (.aload_n 0, 1) := by decide +kernel
theorem dX0_init_13 : decode cX0_init 13 = .ok (.bipush 12, 2) := by decide +kernel
theorem dX0_init_15 : decode cX0_init 15 = .ok (.newarray .int, 2) := by decide +kernel
theorem dX0_init_17 : decode cX0_init 17 = .ok (.putfield 15, 3) := by decide +kernel
theorem dX0_init_20 : decode cX0_init 20 = .ok (.aload_n 0, 1) := by decide +kernel
theorem dX0_init_21 : decode cX0_init 21 = .ok (.iconst 0, 1) := by decide +kernel
theorem dX0_init_22 : decode cX0_init 22 = .ok (.putfield 18, 3) := by decide +kernel
theorem dX0_init_25 : decode cX0_init 25 = .ok (.aload_n 0, 1) := by decide +kernel
theorem dX0_init_26 : decode cX0_init 26 = .ok (.iconst 0, 1) := by decide +kernel
theorem dX0_init_27 : decode cX0_init 27 = .ok (.putfield 22, 3) := by decide +kernel
theorem dX0_init_30 : decode cX0_init 30 = .ok (.aload_n 0, 1) := by decide +kernel
theorem dX0_init_31 : decode cX0_init 31 = .ok (.iconst 0, 1) := by decide +kernel
theorem dX0_init_32 : decode cX0_init 32 = .ok (.putfield 25, 3) := by decide +kernel
theorem dX0_init_35 : decode cX0_init 35 = .ok (.aload_n 0, 1) := by decide +kernel
theorem dX0_init_36 : decode cX0_init 36 = .ok (.iconst 0, 1) := by decide +kernel
theorem dX0_init_37 : decode cX0_init 37 = .ok (.putfield 28, 3) := by decide +kernel
theorem dX0_init_40 : decode cX0_init 40 = .ok (.aload_n 0, 1) := by decide +kernel
theorem dX0_init_41 : decode cX0_init 41 = .ok (.iconst 0, 1) := by decide +kernel
theorem dX0_init_42 : decode cX0_init 42 = .ok (.putfield 31, 3) := by decide +kernel
theorem dX0_init_45 : decode cX0_init 45 = .ok (.aload_n 0, 1) := by decide +kernel
theorem dX0_init_46 : decode cX0_init 46 = .ok (.iconst 0, 1) := by decide +kernel
theorem dX0_init_47 : decode cX0_init 47 = .ok (.putfield 34, 3) := by decide +kernel
theorem dX0_init_50 : decode cX0_init 50 = .ok (.aload_n 0, 1) := by decide +kernel
theorem dX0_init_51 : decode cX0_init 51 = .ok (.iconst 0, 1) := by decide +kernel
theorem dX0_init_52 : decode cX0_init 52 = .ok (.putfield 37, 3) := by decide +kernel
theorem dX0_init_55 : decode cX0_init 55 = .ok (.aload_n 0, 1) := by decide +kernel
theorem dX0_init_56 : decode cX0_init 56 = .ok (.iconst 0, 1) := by decide +kernel
theorem dX0_init_57 : decode cX0_init 57 = .ok (.putfield 40, 3) := by decide +kernel
theorem dX0_init_60 : decode cX0_init 60 = .ok (.return_, 1) := by decide +kernel
theorem dX0_begin_0 : decode cX0_begin 0 = .ok (.aload_n 0, 1) := by decide +kernel
theorem dX0_begin_1 : decode cX0_begin 1 = .ok (.invokevirtual 44, 3) := by decide +kernel
theorem dX0_begin_4 : decode cX0_begin 4 = .ok (.aload_n 0, 1) := by decide +kernel
theorem dX0_begin_5 : decode cX0_begin 5 = .ok (.iload_n 1, 1) := by decide +kernel
theorem dX0_begin_6 : decode cX0_begin 6 = .ok (.putfield 25, 3) := by decide +kernel
theorem dX0_begin_9 : decode cX0_begin 9 = .ok (.aload_n 0, 1) := by decide +kernel
theorem dX0_begin_10 : decode cX0_begin 10 = .ok (.bipush 10, 2) := by decide +kernel
theorem dX0_begin_12 : decode cX0_begin 12 = .ok (.putfield 28, 3) := by decide +kernel
theorem dX0_begin_15 : decode cX0_begin 15 = .ok (.aload_n 0, 1) := by decide +kernel
theorem dX0_begin_16 : decode cX0_begin 16 = .ok (.iconst 0, 1) := by decide +kernel
theorem dX0_begin_17 : decode cX0_begin 17 = .ok (.putfield 31, 3) := by decide +kernel
theorem dX0_begin_20 : decode cX0_begin 20 = .ok (.aload_n 0, 1) := by decide +kernel
theorem dX0_begin_21 : decode cX0_begin 21 = .ok (.iconst 0, 1) := by decide +kernel
theorem dX0_begin_22 : decode cX0_begin 22 = .ok (.putfield 34, 3) := by decide +kernel
theorem dX0_begin_25 : decode cX0_begin 25 = .ok (.aload_n 0, 1) := by decide +kernel
theorem dX0_begin_26 : decode cX0_begin 26 = .ok (.iconst 0, 1) := by decide +kernel
theorem dX0_begin_27 : decode cX0_begin 27 = .ok (.putfield 37, 3) := by decide +kernel
theorem dX0_begin_30 : decode cX0_begin 30 = .ok (.aload_n 0, 1) := by decide +kernel
theorem dX0_begin_31 : decode cX0_begin 31 = .ok (.iconst 0, 1) := by decide +kernel
theorem dX0_begin_32 : decode cX0_begin 32 = .ok (.putfield 40, 3) := by decide +kernel
theorem dX0_begin_35 : decode cX0_begin 35 = .ok (.return_, 1) := by decide +kernel
theorem dX0_copyFrom_0 : decode cX0_copyFrom 0 = .ok (.aload_n 1, 1) := by decide +kernel
theorem dX0_copyFrom_1 : decode cX0_copyFrom 1 = .ok (.getfield 9, 3) := by decide +kernel
theorem dX0_copyFrom_4 : decode cX0_copyFrom 4 = .ok (.iconst 0, 1) := by decide +kernel
theorem dX0_copyFrom_5 : decode cX0_copyFrom 5 = .ok (.aload_n 0, 1) := by decide +kernel
theorem dX0_copyFrom_6 : decode cX0_copyFrom 6 = .ok (.getfield 9, 3) := by decide +kernel
theorem dX0_copyFrom_9 : decode cX0_copyFrom 9 = .ok (.iconst 0, 1) := by decide +kernel
theorem dX0_copyFrom_10 : decode cX0_copyFrom 10 = .ok (.bipush 12, 2) := by decide +kernel
theorem dX0_copyFrom_12 : decode cX0_copyFrom 12 = .ok (.invokestatic 47, 3) := by decide +kernel
theorem dX0_copyFrom_15 : decode cX0_copyFrom 15 = .ok (.aload_n 1, 1) := by decide +kernel
theorem dX0_copyFrom_16 : decode cX0_copyFrom 16 = .ok (.getfield 15, 3) := by decide +kernel
theorem dX0_copyFrom_19 : decode cX0_copyFrom 19 = .ok (.iconst 0, 1) := by decide +kernel
theorem dX0_copyFrom_20 : decode cX0_copyFrom 20 = .ok (.aload_n 0, 1) := by decide +kernel
theorem dX0_copyFrom_21 : decode cX0_copyFrom 21 = .ok (.getfield 15, 3) := by decide +kernel
theorem dX0_copyFrom_24 : decode cX0_copyFrom 24 = .ok (.iconst 0, 1) := by decide +kernel
theorem dX0_copyFrom_25 : decode cX0_copyFrom 25 = .ok (.bipush 12, 2) := by decide +kernel
theorem dX0_copyFrom_27 : decode cX0_copyFrom 27 = .ok (.invokestatic 47, 3) := by decide +kernel
theorem dX0_copyFrom_30 : decode cX0_copyFrom 30 = .ok (.aload_n 0, 1) := by decide +kernel
theorem dX0_copyFrom_31 : decode cX0_copyFrom 31 = .ok (.aload_n 1, 1) := by decide +kernel
theorem dX0_copyFrom_32 : decode cX0_copyFrom 32 = .ok (.getfield 18, 3) := by decide +kernel
theorem dX0_copyFrom_35 : decode cX0_copyFrom 35 = .ok (.putfield 18, 3) := by decide +kernel
theorem dX0_copyFrom_38 : decode cX0_copyFrom 38 = .ok (.aload_n 0, 1) := by decide +kernel
theorem dX0_copyFrom_39 : decode cX0_copyFrom 39 = .ok (.aload_n 1, 1) := by decide +kernel
theorem dX0_copyFrom_40 : decode cX0_copyFrom 40 = .ok (.getfield 22, 3) := by decide +kernel
theorem dX0_copyFrom_43 : decode cX0_copyFrom 43 = .ok (.putfield 22, 3) := by decide +kernel
theorem dX0_copyFrom_46 : decode cX0_copyFrom 46 = .ok (.aload_n 0, 1) := by decide +kernel
theorem dX0_copyFrom_47 : decode cX0_copyFrom 47 = .ok (.aload_n 1, 1) := by decide +kernel
theorem dX0_copyFrom_48 : decode cX0_copyFrom 48 = .ok (.getfield 25, 3) := by decide +kernel
theorem dX0_copyFrom_51 : decode cX0_copyFrom 51 = .ok (.putfield 25, 3) := by decide +kernel
theorem dX0_copyFrom_54 : decode cX0_copyFrom 54 = .ok (.aload_n 0, 1) := by decide +kernel
theorem dX0_copyFrom_55 : decode cX0_copyFrom 55 = .ok (.aload_n 1, 1) := by decide +kernel
theorem dX0_copyFrom_56 : decode cX0_copyFrom 56 = .ok (.getfield 28, 3) := by decide +kernel
theorem dX0_copyFrom_59 : decode cX0_copyFrom 59 = .ok (.putfield 28, 3) := by decide +kernel
theorem dX0_copyFrom_62 : decode cX0_copyFrom 62 = .ok (.aload_n 0, 1) := by decide +kernel
theorem dX0_copyFrom_63 : decode cX0_copyFrom 63 = .ok (.aload_n 1, 1) := by decide +kernel
theorem dX0_copyFrom_64 : decode cX0_copyFrom 64 = .ok (.getfield 31, 3) := by decide +kernel
theorem dX0_copyFrom_67 : decode cX0_copyFrom 67 = .ok (.putfield 31, 3) := by decide +kernel
theorem dX0_copyFrom_70 : decode cX0_copyFrom 70 = .ok (.aload_n 0, 1) := by decide +kernel
theorem dX0_copyFrom_71 : decode cX0_copyFrom 71 = .ok (.aload_n 1, 1) := by decide +kernel
theorem dX0_copyFrom_72 : decode cX0_copyFrom 72 = .ok (.getfield 34, 3) := by decide +kernel
theorem dX0_copyFrom_75 : decode cX0_copyFrom 75 = .ok (.putfield 34, 3) := by decide +kernel
theorem dX0_copyFrom_78 : decode cX0_copyFrom 78 = .ok (.aload_n 0, 1) := by decide +kernel
theorem dX0_copyFrom_79 : decode cX0_copyFrom 79 = .ok (.aload_n 1, 1) := by decide +kernel
theorem dX0_copyFrom_80 : decode cX0_copyFrom 80 = .ok (.getfield 37, 3) := by decide +kernel
theorem dX0_copyFrom_83 : decode cX0_copyFrom 83 = .ok (.putfield 37, 3) := by decide +kernel
theorem dX0_copyFrom_86 : decode cX0_copyFrom 86 = .ok (.aload_n 0, 1) := by decide +kernel
theorem dX0_copyFrom_87 : decode cX0_copyFrom 87 = .ok (.aload_n 1, 1) := by decide +kernel
theorem dX0_copyFrom_88 : decode cX0_copyFrom 88 = .ok (.getfield 40, 3) := by decide +kernel
theorem dX0_copyFrom_91 : decode cX0_copyFrom 91 = .ok (.putfield 40, 3) := by decide +kernel
theorem dX0_copyFrom_94 : decode cX0_copyFrom 94 = .ok (.return_, 1) := by decide +kernel
theorem dX0_addAct_0 : decode cX0_addAct 0 = .ok (.aload_n 0, 1) := by decide +kernel
theorem dX0_addAct_1 : decode cX0_addAct 1 = .ok (.getfield 9, 3) := by decide +kernel
theorem dX0_addAct_4 : decode cX0_addAct 4 = .ok (.aload_n 0, 1) := by decide +kernel
theorem dX0_addAct_5 : decode cX0_addAct 5 = .ok (.getfield 18, 3) := by decide +kernel
theorem dX0_addAct_8 : decode cX0_addAct 8 = .ok (.iload_n 1, 1) := by decide +kernel
theorem dX0_addAct_9 : decode cX0_addAct 9 = .ok (.iastore, 1) := by decide +kernel
theorem dX0_addAct_10 : decode cX0_addAct 10 = .ok (.aload_n 0, 1) := by decide +kernel
theorem dX0_addAct_11 : decode cX0_addAct 11 = .ok (.getfield 15, 3) := by decide +kernel
theorem dX0_addAct_14 : decode cX0_addAct 14 = .ok (.aload_n 0, 1) := by decide +kernel
theorem dX0_addAct_15 : decode cX0_addAct 15 = .ok (.getfield 18, 3) := by decide +kernel
theorem dX0_addAct_18 : decode cX0_addAct 18 = .ok (.iload_n 2, 1) := by decide +kernel
theorem dX0_addAct_19 : decode cX0_addAct 19 = .ok (.iastore, 1) := by decide +kernel
theorem dX0_addAct_20 : decode cX0_addAct 20 = .ok (.aload_n 0, 1) := by decide +kernel
theorem dX0_addAct_21 : decode cX0_addAct 21 = .ok (.dup, 1) := by decide +kernel
theorem dX0_addAct_22 : decode cX0_addAct 22 = .ok (.getfield 18, 3) := by decide +kernel
theorem dX0_addAct_25 : decode cX0_addAct 25 = .ok (.iconst 1, 1) := by decide +kernel
theorem dX0_addAct_26 : decode cX0_addAct 26 = .ok (.iadd, 1) := by decide +kernel
theorem dX0_addAct_27 : decode cX0_addAct 27 = .ok (.putfield 18, 3) := by decide +kernel
theorem dX0_addAct_30 : decode cX0_addAct 30 = .ok (.return_, 1) := by decide +kernel
theorem dX0_dropPlan_0 : decode cX0_dropPlan 0 = .ok (.aload_n 0, 1) := by decide +kernel
theorem dX0_dropPlan_1 : decode cX0_dropPlan 1 = .ok (.iconst 0, 1) := by decide +kernel
theorem dX0_dropPlan_2 : decode cX0_dropPlan 2 = .ok (.putfield 18, 3) := by decide +kernel
theorem dX0_dropPlan_5 : decode cX0_dropPlan 5 = .ok (.aload_n 0, 1) := by decide +kernel
theorem dX0_dropPlan_6 : decode cX0_dropPlan 6 = .ok (.iconst 0, 1) := by decide +kernel
theorem dX0_dropPlan_7 : decode cX0_dropPlan 7 = .ok (.putfield 22, 3) := by decide +kernel
theorem dX0_dropPlan_10 : decode cX0_dropPlan 10 = .ok (.return_, 1) := by decide +kernel
theorem dX0_act_0 : decode cX0_act 0 = .ok (.aload_n 0, 1) := by decide +kernel
theorem dX0_act_1 : decode cX0_act 1 = .ok (.getfield 18, 3) := by decide +kernel
theorem dX0_act_4 : decode cX0_act 4 = .ok (.ifCond .ne 4, 3) := by decide +kernel
theorem dX0_act_7 : decode cX0_act 7 = .ok (.return_, 1) := by decide +kernel
theorem dX0_act_8 : decode cX0_act 8 = .ok (.aload_n 0, 1) := by decide +kernel
theorem dX0_act_9 : decode cX0_act 9 = .ok (.dup, 1) := by decide +kernel
theorem dX0_act_10 : decode cX0_act 10 = .ok (.getfield 22, 3) := by decide +kernel
theorem dX0_act_13 : decode cX0_act 13 = .ok (.iconst 1, 1) := by decide +kernel
theorem dX0_act_14 : decode cX0_act 14 = .ok (.iadd, 1) := by decide +kernel
theorem dX0_act_15 : decode cX0_act 15 = .ok (.putfield 22, 3) := by decide +kernel
theorem dX0_act_18 : decode cX0_act 18 = .ok (.aload_n 0, 1) := by decide +kernel
theorem dX0_act_19 : decode cX0_act 19 = .ok (.aload_n 1, 1) := by decide +kernel
theorem dX0_act_20 : decode cX0_act 20 = .ok (.aload_n 2, 1) := by decide +kernel
theorem dX0_act_21 : decode cX0_act 21 = .ok (.invokevirtual 53, 3) := by decide +kernel
theorem dX0_act_24 : decode cX0_act 24 = .ok (.ifCond .eq 7, 3) := by decide +kernel
theorem dX0_act_27 : decode cX0_act 27 = .ok (.aload_n 0, 1) := by decide +kernel
theorem dX0_act_28 : decode cX0_act 28 = .ok (.invokevirtual 57, 3) := by decide +kernel
theorem dX0_act_31 : decode cX0_act 31 = .ok (.return_, 1) := by decide +kernel
theorem dX0_isOver_0 : decode cX0_isOver 0 = .ok (.aload_n 0, 1) := by decide +kernel
theorem dX0_isOver_1 : decode cX0_isOver 1 = .ok (.getfield 9, 3) := by decide +kernel
theorem dX0_isOver_4 : decode cX0_isOver 4 = .ok (.iconst 0, 1) := by decide +kernel
theorem dX0_isOver_5 : decode cX0_isOver 5 = .ok (.iaload, 1) := by decide +kernel
theorem dX0_isOver_6 : decode cX0_isOver 6 = .ok (.tableswitch 81 0 4 #[34, 53, 60, 66, 74], 34) := by decide +kernel
theorem dX0_isOver_40 : decode cX0_isOver 40 = .ok (.aload_n 0, 1) := by decide +kernel
theorem dX0_isOver_41 : decode cX0_isOver 41 = .ok (.getfield 22, 3) := by decide +kernel
theorem dX0_isOver_44 : decode cX0_isOver 44 = .ok (.aload_n 0, 1) := by decide +kernel
theorem dX0_isOver_45 : decode cX0_isOver 45 = .ok (.getfield 15, 3) := by decide +kernel
theorem dX0_isOver_48 : decode cX0_isOver 48 = .ok (.iconst 0, 1) := by decide +kernel
theorem dX0_isOver_49 : decode cX0_isOver 49 = .ok (.iaload, 1) := by decide +kernel
theorem dX0_isOver_50 : decode cX0_isOver 50 = .ok (.if_icmp .lt 7, 3) := by decide +kernel
theorem dX0_isOver_53 : decode cX0_isOver 53 = .ok (.iconst 1, 1) := by decide +kernel
theorem dX0_isOver_54 : decode cX0_isOver 54 = .ok (.goto 4, 3) := by decide +kernel
theorem dX0_isOver_57 : decode cX0_isOver 57 = .ok (.iconst 0, 1) := by decide +kernel
theorem dX0_isOver_58 : decode cX0_isOver 58 = .ok (.ireturn, 1) := by decide +kernel
theorem dX0_isOver_59 : decode cX0_isOver 59 = .ok (.aload_n 0, 1) := by decide +kernel
theorem dX0_isOver_60 : decode cX0_isOver 60 = .ok (.aload_n 1, 1) := by decide +kernel
theorem dX0_isOver_61 : decode cX0_isOver 61 = .ok (.aload_n 2, 1) := by decide +kernel
theorem dX0_isOver_62 : decode cX0_isOver 62 = .ok (.invokevirtual 60, 3) := by decide +kernel
theorem dX0_isOver_65 : decode cX0_isOver 65 = .ok (.ireturn, 1) := by decide +kernel
theorem dX0_isOver_66 : decode cX0_isOver 66 = .ok (.aload_n 0, 1) := by decide +kernel
theorem dX0_isOver_67 : decode cX0_isOver 67 = .ok (.aload_n 1, 1) := by decide +kernel
theorem dX0_isOver_68 : decode cX0_isOver 68 = .ok (.invokevirtual 63, 3) := by decide +kernel
theorem dX0_isOver_71 : decode cX0_isOver 71 = .ok (.ireturn, 1) := by decide +kernel
theorem dX0_isOver_72 : decode cX0_isOver 72 = .ok (.aload_n 0, 1) := by decide +kernel
theorem dX0_isOver_73 : decode cX0_isOver 73 = .ok (.aload_n 1, 1) := by decide +kernel
theorem dX0_isOver_74 : decode cX0_isOver 74 = .ok (.aload_n 2, 1) := by decide +kernel
theorem dX0_isOver_75 : decode cX0_isOver 75 = .ok (.invokevirtual 67, 3) := by decide +kernel
theorem dX0_isOver_78 : decode cX0_isOver 78 = .ok (.iconst 1, 1) := by decide +kernel
theorem dX0_isOver_79 : decode cX0_isOver 79 = .ok (.ireturn, 1) := by decide +kernel
theorem dX0_isOver_80 : decode cX0_isOver 80 = .ok (.aload_n 0, 1) := by decide +kernel
theorem dX0_isOver_81 : decode cX0_isOver 81 = .ok (.aload_n 2, 1) := by decide +kernel
theorem dX0_isOver_82 : decode cX0_isOver 82 = .ok (.invokevirtual 71, 3) := by decide +kernel
theorem dX0_isOver_85 : decode cX0_isOver 85 = .ok (.iconst 1, 1) := by decide +kernel
theorem dX0_isOver_86 : decode cX0_isOver 86 = .ok (.ireturn, 1) := by decide +kernel
theorem dX0_isOver_87 : decode cX0_isOver 87 = .ok (.aload_n 1, 1) := by decide +kernel
theorem dX0_isOver_88 : decode cX0_isOver 88 = .ok (.aload_n 0, 1) := by decide +kernel
theorem dX0_isOver_89 : decode cX0_isOver 89 = .ok (.getfield 25, 3) := by decide +kernel
theorem dX0_isOver_92 : decode cX0_isOver 92 = .ok (.invokevirtual 75, 3) := by decide +kernel
theorem dX0_isOver_95 : decode cX0_isOver 95 = .ok (.iconst 1, 1) := by decide +kernel
theorem dX0_isOver_96 : decode cX0_isOver 96 = .ok (.ireturn, 1) := by decide +kernel
theorem dX0_endAct_0 : decode cX0_endAct 0 = .ok (.iconst 1, 1) := by decide +kernel
theorem dX0_endAct_1 : decode cX0_endAct 1 = .ok (.istore_n 1, 1) := by decide +kernel
theorem dX0_endAct_2 : decode cX0_endAct 2 = .ok (.iload_n 1, 1) := by decide +kernel
theorem dX0_endAct_3 : decode cX0_endAct 3 = .ok (.aload_n 0, 1) := by decide +kernel
theorem dX0_endAct_4 : decode cX0_endAct 4 = .ok (.getfield 18, 3) := by decide +kernel
theorem dX0_endAct_7 : decode cX0_endAct 7 = .ok (.if_icmp .ge 37, 3) := by decide +kernel
theorem dX0_endAct_10 : decode cX0_endAct 10 = .ok (.aload_n 0, 1) := by decide +kernel
theorem dX0_endAct_11 : decode cX0_endAct 11 = .ok (.getfield 9, 3) := by decide +kernel
theorem dX0_endAct_14 : decode cX0_endAct 14 = .ok (.iload_n 1, 1) := by decide +kernel
theorem dX0_endAct_15 : decode cX0_endAct 15 = .ok (.iconst 1, 1) := by decide +kernel
theorem dX0_endAct_16 : decode cX0_endAct 16 = .ok (.isub, 1) := by decide +kernel
theorem dX0_endAct_17 : decode cX0_endAct 17 = .ok (.aload_n 0, 1) := by decide +kernel
theorem dX0_endAct_18 : decode cX0_endAct 18 = .ok (.getfield 9, 3) := by decide +kernel
theorem dX0_endAct_21 : decode cX0_endAct 21 = .ok (.iload_n 1, 1) := by decide +kernel
theorem dX0_endAct_22 : decode cX0_endAct 22 = .ok (.iaload, 1) := by decide +kernel
theorem dX0_endAct_23 : decode cX0_endAct 23 = .ok (.iastore, 1) := by decide +kernel
theorem dX0_endAct_24 : decode cX0_endAct 24 = .ok (.aload_n 0, 1) := by decide +kernel
theorem dX0_endAct_25 : decode cX0_endAct 25 = .ok (.getfield 15, 3) := by decide +kernel
theorem dX0_endAct_28 : decode cX0_endAct 28 = .ok (.iload_n 1, 1) := by decide +kernel
theorem dX0_endAct_29 : decode cX0_endAct 29 = .ok (.iconst 1, 1) := by decide +kernel
theorem dX0_endAct_30 : decode cX0_endAct 30 = .ok (.isub, 1) := by decide +kernel
theorem dX0_endAct_31 : decode cX0_endAct 31 = .ok (.aload_n 0, 1) := by decide +kernel
theorem dX0_endAct_32 : decode cX0_endAct 32 = .ok (.getfield 15, 3) := by decide +kernel
theorem dX0_endAct_35 : decode cX0_endAct 35 = .ok (.iload_n 1, 1) := by decide +kernel
theorem dX0_endAct_36 : decode cX0_endAct 36 = .ok (.iaload, 1) := by decide +kernel
theorem dX0_endAct_37 : decode cX0_endAct 37 = .ok (.iastore, 1) := by decide +kernel
theorem dX0_endAct_38 : decode cX0_endAct 38 = .ok (.iinc 1 1, 3) := by decide +kernel
theorem dX0_endAct_41 : decode cX0_endAct 41 = .ok (.goto (-39), 3) := by decide +kernel
theorem dX0_endAct_44 : decode cX0_endAct 44 = .ok (.aload_n 0, 1) := by decide +kernel
theorem dX0_endAct_45 : decode cX0_endAct 45 = .ok (.dup, 1) := by decide +kernel
theorem dX0_endAct_46 : decode cX0_endAct 46 = .ok (.getfield 18, 3) := by decide +kernel
theorem dX0_endAct_49 : decode cX0_endAct 49 = .ok (.iconst 1, 1) := by decide +kernel
theorem dX0_endAct_50 : decode cX0_endAct 50 = .ok (.isub, 1) := by decide +kernel
theorem dX0_endAct_51 : decode cX0_endAct 51 = .ok (.putfield 18, 3) := by decide +kernel
theorem dX0_endAct_54 : decode cX0_endAct 54 = .ok (.aload_n 0, 1) := by decide +kernel
theorem dX0_endAct_55 : decode cX0_endAct 55 = .ok (.iconst 0, 1) := by decide +kernel
theorem dX0_endAct_56 : decode cX0_endAct 56 = .ok (.putfield 22, 3) := by decide +kernel
theorem dX0_endAct_59 : decode cX0_endAct 59 = .ok (.return_, 1) := by decide +kernel
theorem dX0_goOn_0 : decode cX0_goOn 0 = .ok (.aload_n 2, 1) := by decide +kernel
theorem dX0_goOn_1 : decode cX0_goOn 1 = .ok (.aload_n 0, 1) := by decide +kernel
theorem dX0_goOn_2 : decode cX0_goOn 2 = .ok (.getfield 25, 3) := by decide +kernel
theorem dX0_goOn_5 : decode cX0_goOn 5 = .ok (.aload_n 0, 1) := by decide +kernel
theorem dX0_goOn_6 : decode cX0_goOn 6 = .ok (.getfield 15, 3) := by decide +kernel
theorem dX0_goOn_9 : decode cX0_goOn 9 = .ok (.iconst 0, 1) := by decide +kernel
theorem dX0_goOn_10 : decode cX0_goOn 10 = .ok (.iaload, 1) := by decide +kernel
theorem dX0_goOn_11 : decode cX0_goOn 11 = .ok (.invokevirtual 81, 3) := by decide +kernel
theorem dX0_goOn_14 : decode cX0_goOn 14 = .ok (.istore_n 3, 1) := by decide +kernel
theorem dX0_goOn_15 : decode cX0_goOn 15 = .ok (.iload_n 3, 1) := by decide +kernel
theorem dX0_goOn_16 : decode cX0_goOn 16 = .ok (.aload_n 0, 1) := by decide +kernel
theorem dX0_goOn_17 : decode cX0_goOn 17 = .ok (.getfield 25, 3) := by decide +kernel
theorem dX0_goOn_20 : decode cX0_goOn 20 = .ok (.if_icmp .ne 5, 3) := by decide +kernel
theorem dX0_goOn_23 : decode cX0_goOn 23 = .ok (.iconst 1, 1) := by decide +kernel
theorem dX0_goOn_24 : decode cX0_goOn 24 = .ok (.ireturn, 1) := by decide +kernel
theorem dX0_goOn_25 : decode cX0_goOn 25 = .ok (.aload_n 1, 1) := by decide +kernel
theorem dX0_goOn_26 : decode cX0_goOn 26 = .ok (.getfield 87, 3) := by decide +kernel
theorem dX0_goOn_29 : decode cX0_goOn 29 = .ok (.iload_n 3, 1) := by decide +kernel
theorem dX0_goOn_30 : decode cX0_goOn 30 = .ok (.iaload, 1) := by decide +kernel
theorem dX0_goOn_31 : decode cX0_goOn 31 = .ok (.iconst 2, 1) := by decide +kernel
theorem dX0_goOn_32 : decode cX0_goOn 32 = .ok (.if_icmp .eq 12, 3) := by decide +kernel
theorem dX0_goOn_35 : decode cX0_goOn 35 = .ok (.aload_n 2, 1) := by decide +kernel
theorem dX0_goOn_36 : decode cX0_goOn 36 = .ok (.getfield 90, 3) := by decide +kernel
theorem dX0_goOn_39 : decode cX0_goOn 39 = .ok (.iload_n 3, 1) := by decide +kernel
theorem dX0_goOn_40 : decode cX0_goOn 40 = .ok (.iaload, 1) := by decide +kernel
theorem dX0_goOn_41 : decode cX0_goOn 41 = .ok (.ifCond .ne 15, 3) := by decide +kernel
theorem dX0_goOn_44 : decode cX0_goOn 44 = .ok (.aload_n 0, 1) := by decide +kernel
theorem dX0_goOn_45 : decode cX0_goOn 45 = .ok (.dup, 1) := by decide +kernel
theorem dX0_goOn_46 : decode cX0_goOn 46 = .ok (.getfield 31, 3) := by decide +kernel
theorem dX0_goOn_49 : decode cX0_goOn 49 = .ok (.iconst 1, 1) := by decide +kernel
theorem dX0_goOn_50 : decode cX0_goOn 50 = .ok (.iadd, 1) := by decide +kernel
theorem dX0_goOn_51 : decode cX0_goOn 51 = .ok (.putfield 31, 3) := by decide +kernel
theorem dX0_goOn_54 : decode cX0_goOn 54 = .ok (.iconst 1, 1) := by decide +kernel
theorem dX0_goOn_55 : decode cX0_goOn 55 = .ok (.ireturn, 1) := by decide +kernel
theorem dX0_goOn_56 : decode cX0_goOn 56 = .ok (.aload_n 0, 1) := by decide +kernel
theorem dX0_goOn_57 : decode cX0_goOn 57 = .ok (.iload_n 3, 1) := by decide +kernel
theorem dX0_goOn_58 : decode cX0_goOn 58 = .ok (.putfield 25, 3) := by decide +kernel
theorem dX0_goOn_61 : decode cX0_goOn 61 = .ok (.aload_n 0, 1) := by decide +kernel
theorem dX0_goOn_62 : decode cX0_goOn 62 = .ok (.getfield 25, 3) := by decide +kernel
theorem dX0_goOn_65 : decode cX0_goOn 65 = .ok (.aload_n 0, 1) := by decide +kernel
theorem dX0_goOn_66 : decode cX0_goOn 66 = .ok (.getfield 15, 3) := by decide +kernel
theorem dX0_goOn_69 : decode cX0_goOn 69 = .ok (.iconst 0, 1) := by decide +kernel
theorem dX0_goOn_70 : decode cX0_goOn 70 = .ok (.iaload, 1) := by decide +kernel
theorem dX0_goOn_71 : decode cX0_goOn 71 = .ok (.if_icmp .ne 7, 3) := by decide +kernel
theorem dX0_goOn_74 : decode cX0_goOn 74 = .ok (.iconst 1, 1) := by decide +kernel
theorem dX0_goOn_75 : decode cX0_goOn 75 = .ok (.goto 4, 3) := by decide +kernel
theorem dX0_goOn_78 : decode cX0_goOn 78 = .ok (.iconst 0, 1) := by decide +kernel
theorem dX0_goOn_79 : decode cX0_goOn 79 = .ok (.ireturn, 1) := by decide +kernel
theorem dX0_cutOn_0 : decode cX0_cutOn 0 = .ok (.aload_n 1, 1) := by decide +kernel
theorem dX0_cutOn_1 : decode cX0_cutOn 1 = .ok (.getfield 87, 3) := by decide +kernel
theorem dX0_cutOn_4 : decode cX0_cutOn 4 = .ok (.aload_n 0, 1) := by decide +kernel
theorem dX0_cutOn_5 : decode cX0_cutOn 5 = .ok (.getfield 25, 3) := by decide +kernel
theorem dX0_cutOn_8 : decode cX0_cutOn 8 = .ok (.iaload, 1) := by decide +kernel
theorem dX0_cutOn_9 : decode cX0_cutOn 9 = .ok (.iconst 1, 1) := by decide +kernel
theorem dX0_cutOn_10 : decode cX0_cutOn 10 = .ok (.if_icmp .eq 5, 3) := by decide +kernel
theorem dX0_cutOn_13 : decode cX0_cutOn 13 = .ok (.iconst 1, 1) := by decide +kernel
theorem dX0_cutOn_14 : decode cX0_cutOn 14 = .ok (.ireturn, 1) := by decide +kernel
theorem dX0_cutOn_15 : decode cX0_cutOn 15 = .ok (.aload_n 0, 1) := by decide +kernel
theorem dX0_cutOn_16 : decode cX0_cutOn 16 = .ok (.getfield 22, 3) := by decide +kernel
theorem dX0_cutOn_19 : decode cX0_cutOn 19 = .ok (.iconst 2, 1) := by decide +kernel
theorem dX0_cutOn_20 : decode cX0_cutOn 20 = .ok (.if_icmp .ge 5, 3) := by decide +kernel
theorem dX0_cutOn_23 : decode cX0_cutOn 23 = .ok (.iconst 0, 1) := by decide +kernel
theorem dX0_cutOn_24 : decode cX0_cutOn 24 = .ok (.ireturn, 1) := by decide +kernel
theorem dX0_cutOn_25 : decode cX0_cutOn 25 = .ok (.aload_n 1, 1) := by decide +kernel
theorem dX0_cutOn_26 : decode cX0_cutOn 26 = .ok (.getfield 87, 3) := by decide +kernel
theorem dX0_cutOn_29 : decode cX0_cutOn 29 = .ok (.aload_n 0, 1) := by decide +kernel
theorem dX0_cutOn_30 : decode cX0_cutOn 30 = .ok (.getfield 25, 3) := by decide +kernel
theorem dX0_cutOn_33 : decode cX0_cutOn 33 = .ok (.iconst 4, 1) := by decide +kernel
theorem dX0_cutOn_34 : decode cX0_cutOn 34 = .ok (.iastore, 1) := by decide +kernel
theorem dX0_cutOn_35 : decode cX0_cutOn 35 = .ok (.aload_n 1, 1) := by decide +kernel
theorem dX0_cutOn_36 : decode cX0_cutOn 36 = .ok (.getfield 93, 3) := by decide +kernel
theorem dX0_cutOn_39 : decode cX0_cutOn 39 = .ok (.aload_n 0, 1) := by decide +kernel
theorem dX0_cutOn_40 : decode cX0_cutOn 40 = .ok (.getfield 25, 3) := by decide +kernel
theorem dX0_cutOn_43 : decode cX0_cutOn 43 = .ok (.iconst 0, 1) := by decide +kernel
theorem dX0_cutOn_44 : decode cX0_cutOn 44 = .ok (.iastore, 1) := by decide +kernel
theorem dX0_cutOn_45 : decode cX0_cutOn 45 = .ok (.aload_n 0, 1) := by decide +kernel
theorem dX0_cutOn_46 : decode cX0_cutOn 46 = .ok (.dup, 1) := by decide +kernel
theorem dX0_cutOn_47 : decode cX0_cutOn 47 = .ok (.getfield 34, 3) := by decide +kernel
theorem dX0_cutOn_50 : decode cX0_cutOn 50 = .ok (.iconst 1, 1) := by decide +kernel
theorem dX0_cutOn_51 : decode cX0_cutOn 51 = .ok (.iadd, 1) := by decide +kernel
theorem dX0_cutOn_52 : decode cX0_cutOn 52 = .ok (.putfield 34, 3) := by decide +kernel
theorem dX0_cutOn_55 : decode cX0_cutOn 55 = .ok (.iconst 1, 1) := by decide +kernel
theorem dX0_cutOn_56 : decode cX0_cutOn 56 = .ok (.ireturn, 1) := by decide +kernel
theorem dX0_douse_0 : decode cX0_douse 0 = .ok (.aload_n 0, 1) := by decide +kernel
theorem dX0_douse_1 : decode cX0_douse 1 = .ok (.getfield 28, 3) := by decide +kernel
theorem dX0_douse_4 : decode cX0_douse 4 = .ok (.ifCond .gt 4, 3) := by decide +kernel
theorem dX0_douse_7 : decode cX0_douse 7 = .ok (.return_, 1) := by decide +kernel
theorem dX0_douse_8 : decode cX0_douse 8 = .ok (.aload_n 0, 1) := by decide +kernel
theorem dX0_douse_9 : decode cX0_douse 9 = .ok (.aload_n 1, 1) := by decide +kernel
theorem dX0_douse_10 : decode cX0_douse 10 = .ok (.aload_n 2, 1) := by decide +kernel
theorem dX0_douse_11 : decode cX0_douse 11 = .ok (.invokevirtual 96, 3) := by decide +kernel
theorem dX0_douse_14 : decode cX0_douse 14 = .ok (.istore_n 3, 1) := by decide +kernel
theorem dX0_douse_15 : decode cX0_douse 15 = .ok (.iload_n 3, 1) := by decide +kernel
theorem dX0_douse_16 : decode cX0_douse 16 = .ok (.ifCond .ge 4, 3) := by decide +kernel
theorem dX0_douse_19 : decode cX0_douse 19 = .ok (.return_, 1) := by decide +kernel
theorem dX0_douse_20 : decode cX0_douse 20 = .ok (.aload_n 1, 1) := by decide +kernel
theorem dX0_douse_21 : decode cX0_douse 21 = .ok (.getfield 87, 3) := by decide +kernel
theorem dX0_douse_24 : decode cX0_douse 24 = .ok (.iload_n 3, 1) := by decide +kernel
theorem dX0_douse_25 : decode cX0_douse 25 = .ok (.iconst 5, 1) := by decide +kernel
theorem dX0_douse_26 : decode cX0_douse 26 = .ok (.iastore, 1) := by decide +kernel
theorem dX0_douse_27 : decode cX0_douse 27 = .ok (.aload_n 1, 1) := by decide +kernel
theorem dX0_douse_28 : decode cX0_douse 28 = .ok (.getfield 100, 3) := by decide +kernel
theorem dX0_douse_31 : decode cX0_douse 31 = .ok (.iload_n 3, 1) := by decide +kernel
theorem dX0_douse_32 : decode cX0_douse 32 = .ok (.iconst 0, 1) := by decide +kernel
theorem dX0_douse_33 : decode cX0_douse 33 = .ok (.iastore, 1) := by decide +kernel
theorem dX0_douse_34 : decode cX0_douse 34 = .ok (.aload_n 0, 1) := by decide +kernel
theorem dX0_douse_35 : decode cX0_douse 35 = .ok (.dup, 1) := by decide +kernel
theorem dX0_douse_36 : decode cX0_douse 36 = .ok (.getfield 28, 3) := by decide +kernel
theorem dX0_douse_39 : decode cX0_douse 39 = .ok (.iconst 1, 1) := by decide +kernel
theorem dX0_douse_40 : decode cX0_douse 40 = .ok (.isub, 1) := by decide +kernel
theorem dX0_douse_41 : decode cX0_douse 41 = .ok (.putfield 28, 3) := by decide +kernel
theorem dX0_douse_44 : decode cX0_douse 44 = .ok (.aload_n 0, 1) := by decide +kernel
theorem dX0_douse_45 : decode cX0_douse 45 = .ok (.dup, 1) := by decide +kernel
theorem dX0_douse_46 : decode cX0_douse 46 = .ok (.getfield 37, 3) := by decide +kernel
theorem dX0_douse_49 : decode cX0_douse 49 = .ok (.iconst 1, 1) := by decide +kernel
theorem dX0_douse_50 : decode cX0_douse 50 = .ok (.iadd, 1) := by decide +kernel
theorem dX0_douse_51 : decode cX0_douse 51 = .ok (.putfield 37, 3) := by decide +kernel
theorem dX0_douse_54 : decode cX0_douse 54 = .ok (.return_, 1) := by decide +kernel
theorem dX0_hottestAbout_0 : decode cX0_hottestAbout 0 = .ok (.iconst (-1), 1) := by decide +kernel
theorem dX0_hottestAbout_1 : decode cX0_hottestAbout 1 = .ok (.istore_n 3, 1) := by decide +kernel
theorem dX0_hottestAbout_2 : decode cX0_hottestAbout 2 = .ok (.iconst 0, 1) := by decide +kernel
theorem dX0_hottestAbout_3 : decode cX0_hottestAbout 3 = .ok (.istore 4, 2) := by decide +kernel
theorem dX0_hottestAbout_5 : decode cX0_hottestAbout 5 = .ok (.iload 4, 2) := by decide +kernel
theorem dX0_hottestAbout_7 : decode cX0_hottestAbout 7 = .ok (.bipush 8, 2) := by decide +kernel
theorem dX0_hottestAbout_9 : decode cX0_hottestAbout 9 = .ok (.if_icmp .ge 99, 3) := by decide +kernel
theorem dX0_hottestAbout_12 : decode cX0_hottestAbout 12 = .ok (.aload_n 2, 1) := by decide +kernel
theorem dX0_hottestAbout_13 : decode cX0_hottestAbout 13 = .ok (.aload_n 0, 1) := by decide +kernel
theorem dX0_hottestAbout_14 : decode cX0_hottestAbout 14 = .ok (.getfield 25, 3) := by decide +kernel
theorem dX0_hottestAbout_17 : decode cX0_hottestAbout 17 = .ok (.iload 4, 2) := by decide +kernel
theorem dX0_hottestAbout_19 : decode cX0_hottestAbout 19 = .ok (.iconst 1, 1) := by decide +kernel
theorem dX0_hottestAbout_20 : decode cX0_hottestAbout 20 = .ok (.invokevirtual 103, 3) := by decide +kernel
theorem dX0_hottestAbout_23 : decode cX0_hottestAbout 23 = .ok (.istore 5, 2) := by decide +kernel
theorem dX0_hottestAbout_25 : decode cX0_hottestAbout 25 = .ok (.iload 5, 2) := by decide +kernel
theorem dX0_hottestAbout_27 : decode cX0_hottestAbout 27 = .ok (.ifCond .lt 75, 3) := by decide +kernel
theorem dX0_hottestAbout_30 : decode cX0_hottestAbout 30 = .ok (.aload_n 1, 1) := by decide +kernel
theorem dX0_hottestAbout_31 : decode cX0_hottestAbout 31 = .ok (.getfield 87, 3) := by decide +kernel
theorem dX0_hottestAbout_34 : decode cX0_hottestAbout 34 = .ok (.iload 5, 2) := by decide +kernel
theorem dX0_hottestAbout_36 : decode cX0_hottestAbout 36 = .ok (.iaload, 1) := by decide +kernel
theorem dX0_hottestAbout_37 : decode cX0_hottestAbout 37 = .ok (.iconst 2, 1) := by decide +kernel
theorem dX0_hottestAbout_38 : decode cX0_hottestAbout 38 = .ok (.if_icmp .ne 64, 3) := by decide +kernel
theorem dX0_hottestAbout_41 : decode cX0_hottestAbout 41 = .ok (.iload_n 3, 1) := by decide +kernel
theorem dX0_hottestAbout_42 : decode cX0_hottestAbout 42 = .ok (.ifCond .lt 41, 3) := by decide +kernel
theorem dX0_hottestAbout_45 : decode cX0_hottestAbout 45 = .ok (.aload_n 1, 1) := by decide +kernel
theorem dX0_hottestAbout_46 : decode cX0_hottestAbout 46 = .ok (.getfield 100, 3) := by decide +kernel
theorem dX0_hottestAbout_49 : decode cX0_hottestAbout 49 = .ok (.iload 5, 2) := by decide +kernel
theorem dX0_hottestAbout_51 : decode cX0_hottestAbout 51 = .ok (.iaload, 1) := by decide +kernel
theorem dX0_hottestAbout_52 : decode cX0_hottestAbout 52 = .ok (.aload_n 1, 1) := by decide +kernel
theorem dX0_hottestAbout_53 : decode cX0_hottestAbout 53 = .ok (.getfield 100, 3) := by decide +kernel
theorem dX0_hottestAbout_56 : decode cX0_hottestAbout 56 = .ok (.iload_n 3, 1) := by decide +kernel
theorem dX0_hottestAbout_57 : decode cX0_hottestAbout 57 = .ok (.iaload, 1) := by decide +kernel
theorem dX0_hottestAbout_58 : decode cX0_hottestAbout 58 = .ok (.if_icmp .gt 25, 3) := by decide +kernel
theorem dX0_hottestAbout_61 : decode cX0_hottestAbout 61 = .ok (.aload_n 1, 1) := by decide +kernel
theorem dX0_hottestAbout_62 : decode cX0_hottestAbout 62 = .ok (.getfield 100, 3) := by decide +kernel
theorem dX0_hottestAbout_65 : decode cX0_hottestAbout 65 = .ok (.iload 5, 2) := by decide +kernel
theorem dX0_hottestAbout_67 : decode cX0_hottestAbout 67 = .ok (.iaload, 1) := by decide +kernel
theorem dX0_hottestAbout_68 : decode cX0_hottestAbout 68 = .ok (.aload_n 1, 1) := by decide +kernel
theorem dX0_hottestAbout_69 : decode cX0_hottestAbout 69 = .ok (.getfield 100, 3) := by decide +kernel
theorem dX0_hottestAbout_72 : decode cX0_hottestAbout 72 = .ok (.iload_n 3, 1) := by decide +kernel
theorem dX0_hottestAbout_73 : decode cX0_hottestAbout 73 = .ok (.iaload, 1) := by decide +kernel
theorem dX0_hottestAbout_74 : decode cX0_hottestAbout 74 = .ok (.if_icmp .ne 13, 3) := by decide +kernel
theorem dX0_hottestAbout_77 : decode cX0_hottestAbout 77 = .ok (.iload 5, 2) := by decide +kernel
theorem dX0_hottestAbout_79 : decode cX0_hottestAbout 79 = .ok (.iload_n 3, 1) := by decide +kernel
theorem dX0_hottestAbout_80 : decode cX0_hottestAbout 80 = .ok (.if_icmp .ge 7, 3) := by decide +kernel
theorem dX0_hottestAbout_83 : decode cX0_hottestAbout 83 = .ok (.iconst 1, 1) := by decide +kernel
theorem dX0_hottestAbout_84 : decode cX0_hottestAbout 84 = .ok (.goto 4, 3) := by decide +kernel
theorem dX0_hottestAbout_87 : decode cX0_hottestAbout 87 = .ok (.iconst 0, 1) := by decide +kernel
theorem dX0_hottestAbout_88 : decode cX0_hottestAbout 88 = .ok (.istore 6, 2) := by decide +kernel
theorem dX0_hottestAbout_90 : decode cX0_hottestAbout 90 = .ok (.iload 6, 2) := by decide +kernel
theorem dX0_hottestAbout_92 : decode cX0_hottestAbout 92 = .ok (.ifCond .eq 8, 3) := by decide +kernel
theorem dX0_hottestAbout_95 : decode cX0_hottestAbout 95 = .ok (.iload 5, 2) := by decide +kernel
theorem dX0_hottestAbout_97 : decode cX0_hottestAbout 97 = .ok (.goto 4, 3) := by decide +kernel
theorem dX0_hottestAbout_100 : decode cX0_hottestAbout 100 = .ok (.iload_n 3, 1) := by decide +kernel
theorem dX0_hottestAbout_101 : decode cX0_hottestAbout 101 = .ok (.istore_n 3, 1) := by decide +kernel
theorem dX0_hottestAbout_102 : decode cX0_hottestAbout 102 = .ok (.iinc 4 1, 3) := by decide +kernel
theorem dX0_hottestAbout_105 : decode cX0_hottestAbout 105 = .ok (.goto (-100), 3) := by decide +kernel
theorem dX0_hottestAbout_108 : decode cX0_hottestAbout 108 = .ok (.iload_n 3, 1) := by decide +kernel
theorem dX0_hottestAbout_109 : decode cX0_hottestAbout 109 = .ok (.ireturn, 1) := by decide +kernel
theorem dX0_fill_0 : decode cX0_fill 0 = .ok (.aload_n 1, 1) := by decide +kernel
theorem dX0_fill_1 : decode cX0_fill 1 = .ok (.getfield 90, 3) := by decide +kernel
theorem dX0_fill_4 : decode cX0_fill 4 = .ok (.aload_n 0, 1) := by decide +kernel
theorem dX0_fill_5 : decode cX0_fill 5 = .ok (.getfield 25, 3) := by decide +kernel
theorem dX0_fill_8 : decode cX0_fill 8 = .ok (.iaload, 1) := by decide +kernel
theorem dX0_fill_9 : decode cX0_fill 9 = .ok (.ifCond .ne 7, 3) := by decide +kernel
theorem dX0_fill_12 : decode cX0_fill 12 = .ok (.iconst 1, 1) := by decide +kernel
theorem dX0_fill_13 : decode cX0_fill 13 = .ok (.goto 4, 3) := by decide +kernel
theorem dX0_fill_16 : decode cX0_fill 16 = .ok (.iconst 0, 1) := by decide +kernel
theorem dX0_fill_17 : decode cX0_fill 17 = .ok (.istore_n 2, 1) := by decide +kernel
theorem dX0_fill_18 : decode cX0_fill 18 = .ok (.iconst 0, 1) := by decide +kernel
theorem dX0_fill_19 : decode cX0_fill 19 = .ok (.istore_n 3, 1) := by decide +kernel
theorem dX0_fill_20 : decode cX0_fill 20 = .ok (.iload_n 3, 1) := by decide +kernel
theorem dX0_fill_21 : decode cX0_fill 21 = .ok (.bipush 8, 2) := by decide +kernel
theorem dX0_fill_23 : decode cX0_fill 23 = .ok (.if_icmp .ge 46, 3) := by decide +kernel
theorem dX0_fill_26 : decode cX0_fill 26 = .ok (.aload_n 1, 1) := by decide +kernel
theorem dX0_fill_27 : decode cX0_fill 27 = .ok (.aload_n 0, 1) := by decide +kernel
theorem dX0_fill_28 : decode cX0_fill 28 = .ok (.getfield 25, 3) := by decide +kernel
theorem dX0_fill_31 : decode cX0_fill 31 = .ok (.iload_n 3, 1) := by decide +kernel
theorem dX0_fill_32 : decode cX0_fill 32 = .ok (.iconst 1, 1) := by decide +kernel
theorem dX0_fill_33 : decode cX0_fill 33 = .ok (.invokevirtual 103, 3) := by decide +kernel
theorem dX0_fill_36 : decode cX0_fill 36 = .ok (.istore 4, 2) := by decide +kernel
theorem dX0_fill_38 : decode cX0_fill 38 = .ok (.iload_n 2, 1) := by decide +kernel
theorem dX0_fill_39 : decode cX0_fill 39 = .ok (.ifCond .ne 18, 3) := by decide +kernel
theorem dX0_fill_42 : decode cX0_fill 42 = .ok (.iload 4, 2) := by decide +kernel
theorem dX0_fill_44 : decode cX0_fill 44 = .ok (.ifCond .lt 17, 3) := by decide +kernel
theorem dX0_fill_47 : decode cX0_fill 47 = .ok (.aload_n 1, 1) := by decide +kernel
theorem dX0_fill_48 : decode cX0_fill 48 = .ok (.getfield 90, 3) := by decide +kernel
theorem dX0_fill_51 : decode cX0_fill 51 = .ok (.iload 4, 2) := by decide +kernel
theorem dX0_fill_53 : decode cX0_fill 53 = .ok (.iaload, 1) := by decide +kernel
theorem dX0_fill_54 : decode cX0_fill 54 = .ok (.ifCond .ne 7, 3) := by decide +kernel
theorem dX0_fill_57 : decode cX0_fill 57 = .ok (.iconst 1, 1) := by decide +kernel
theorem dX0_fill_58 : decode cX0_fill 58 = .ok (.goto 4, 3) := by decide +kernel
theorem dX0_fill_61 : decode cX0_fill 61 = .ok (.iconst 0, 1) := by decide +kernel
theorem dX0_fill_62 : decode cX0_fill 62 = .ok (.istore_n 2, 1) := by decide +kernel
theorem dX0_fill_63 : decode cX0_fill 63 = .ok (.iinc 3 1, 3) := by decide +kernel
theorem dX0_fill_66 : decode cX0_fill 66 = .ok (.goto (-46), 3) := by decide +kernel
theorem dX0_fill_69 : decode cX0_fill 69 = .ok (.aload_n 0, 1) := by decide +kernel
theorem dX0_fill_70 : decode cX0_fill 70 = .ok (.iload_n 2, 1) := by decide +kernel
theorem dX0_fill_71 : decode cX0_fill 71 = .ok (.ifCond .eq 8, 3) := by decide +kernel
theorem dX0_fill_74 : decode cX0_fill 74 = .ok (.bipush 40, 2) := by decide +kernel
theorem dX0_fill_76 : decode cX0_fill 76 = .ok (.goto 7, 3) := by decide +kernel
theorem dX0_fill_79 : decode cX0_fill 79 = .ok (.aload_n 0, 1) := by decide +kernel
theorem dX0_fill_80 : decode cX0_fill 80 = .ok (.getfield 28, 3) := by decide +kernel
theorem dX0_fill_83 : decode cX0_fill 83 = .ok (.putfield 28, 3) := by decide +kernel
theorem dX0_fill_86 : decode cX0_fill 86 = .ok (.return_, 1) := by decide +kernel
theorem dX1_init_0 : decode cX1_init 0 = .ok (.aload_n 0, 1) := by decide +kernel
theorem dX1_init_1 : decode cX1_init 1 = .ok (.invokespecial 3, 3) := by decide +kernel
theorem dX1_init_4 : decode cX1_init 4 = .ok (.aload_n 0, 1) := by decide +kernel
theorem dX1_init_5 : decode cX1_init 5 = .ok (.sipush 256, 3) := by decide +kernel
theorem dX1_init_8 : decode cX1_init 8 = .ok (.newarray .int, 2) := by decide +kernel
theorem dX1_init_10 : decode cX1_init 10 = .ok (.putfield 9, 3) := by decide +kernel
theorem dX1_init_13 : decode cX1_init 13 = .ok (.aload_n 0, 1) := by decide +kernel
theorem dX1_init_14 : decode cX1_init 14 = .ok (.sipush 256, 3) := by decide +kernel
theorem dX1_init_17 : decode cX1_init 17 = .ok (.newarray .int, 2) := by decide +kernel
theorem dX1_init_19 : decode cX1_init 19 = .ok (.putfield 15, 3) := by decide +kernel
theorem dX1_init_22 : decode cX1_init 22 = .ok (.aload_n 0, 1) := by decide +kernel
theorem dX1_init_23 : decode cX1_init 23 = .ok (.sipush 256, 3) := by decide +kernel
theorem dX1_init_26 : decode cX1_init 26 = .ok (.newarray .int, 2) := by decide +kernel
theorem dX1_init_28 : decode cX1_init 28 = .ok (.putfield 18, 3) := by decide +kernel
theorem dX1_init_31 : decode cX1_init 31 = .ok (.aload_n 0, 1) := by decide +kernel
theorem dX1_init_32 : decode cX1_init 32 = .ok (.iconst 0, 1) := by decide +kernel
theorem dX1_init_33 : decode cX1_init 33 = .ok (.putfield 21, 3) := by decide +kernel
theorem dX1_init_36 : decode cX1_init 36 = .ok (.aload_n 0, 1) := by decide +kernel
theorem dX1_init_37 : decode cX1_init 37 = .ok (.iconst 0, 1) := by decide +kernel
theorem dX1_init_38 : decode cX1_init 38 = .ok (.putfield 25, 3) := by decide +kernel
theorem dX1_init_41 : decode cX1_init 41 = .ok (.aload_n 0, 1) := by decide +kernel
theorem dX1_init_42 : decode cX1_init 42 = .ok (.iconst 0, 1) := by decide +kernel
theorem dX1_init_43 : decode cX1_init 43 = .ok (.putfield 28, 3) := by decide +kernel
theorem dX1_init_46 : decode cX1_init 46 = .ok (.aload_n 0, 1) := by decide +kernel
theorem dX1_init_47 : decode cX1_init 47 = .ok (.iconst 0, 1) := by decide +kernel
theorem dX1_init_48 : decode cX1_init 48 = .ok (.putfield 31, 3) := by decide +kernel
theorem dX1_init_51 : decode cX1_init 51 = .ok (.aload_n 0, 1) := by decide +kernel
theorem dX1_init_52 : decode cX1_init 52 = .ok (.iconst 0, 1) := by decide +kernel
theorem dX1_init_53 : decode cX1_init 53 = .ok (.putfield 34, 3) := by decide +kernel
theorem dX1_init_56 : decode cX1_init 56 = .ok (.return_, 1) := by decide +kernel
theorem dX1_setOut_0 : decode cX1_setOut 0 = .ok (.aload_n 1, 1) := by decide +kernel
theorem dX1_setOut_1 : decode cX1_setOut 1 = .ok (.iload_n 2, 1) := by decide +kernel
theorem dX1_setOut_2 : decode cX1_setOut 2 = .ok (.invokevirtual 37, 3) := by decide +kernel
theorem dX1_setOut_5 : decode cX1_setOut 5 = .ok (.istore 4, 2) := by decide +kernel
theorem dX1_setOut_7 : decode cX1_setOut 7 = .ok (.aload_n 0, 1) := by decide +kernel
theorem dX1_setOut_8 : decode cX1_setOut 8 = .ok (.iload_n 2, 1) := by decide +kernel
theorem dX1_setOut_9 : decode cX1_setOut 9 = .ok (.putfield 21, 3) := by decide +kernel
theorem dX1_setOut_12 : decode cX1_setOut 12 = .ok (.aload_n 0, 1) := by decide +kernel
theorem dX1_setOut_13 : decode cX1_setOut 13 = .ok (.iload_n 3, 1) := by decide +kernel
theorem dX1_setOut_14 : decode cX1_setOut 14 = .ok (.putfield 25, 3) := by decide +kernel
theorem dX1_setOut_17 : decode cX1_setOut 17 = .ok (.aload_n 0, 1) := by decide +kernel
theorem dX1_setOut_18 : decode cX1_setOut 18 = .ok (.aload_n 1, 1) := by decide +kernel
theorem dX1_setOut_19 : decode cX1_setOut 19 = .ok (.iload 4, 2) := by decide +kernel
theorem dX1_setOut_21 : decode cX1_setOut 21 = .ok (.iconst 0, 1) := by decide +kernel
theorem dX1_setOut_22 : decode cX1_setOut 22 = .ok (.invokevirtual 43, 3) := by decide +kernel
theorem dX1_setOut_25 : decode cX1_setOut 25 = .ok (.putfield 28, 3) := by decide +kernel
theorem dX1_setOut_28 : decode cX1_setOut 28 = .ok (.aload_n 0, 1) := by decide +kernel
theorem dX1_setOut_29 : decode cX1_setOut 29 = .ok (.aload_n 1, 1) := by decide +kernel
theorem dX1_setOut_30 : decode cX1_setOut 30 = .ok (.iload 4, 2) := by decide +kernel
theorem dX1_setOut_32 : decode cX1_setOut 32 = .ok (.iconst 1, 1) := by decide +kernel
theorem dX1_setOut_33 : decode cX1_setOut 33 = .ok (.invokevirtual 43, 3) := by decide +kernel
theorem dX1_setOut_36 : decode cX1_setOut 36 = .ok (.putfield 31, 3) := by decide +kernel
theorem dX1_setOut_39 : decode cX1_setOut 39 = .ok (.aload_n 0, 1) := by decide +kernel
theorem dX1_setOut_40 : decode cX1_setOut 40 = .ok (.aload_n 1, 1) := by decide +kernel
theorem dX1_setOut_41 : decode cX1_setOut 41 = .ok (.iload 4, 2) := by decide +kernel
theorem dX1_setOut_43 : decode cX1_setOut 43 = .ok (.iconst 2, 1) := by decide +kernel
theorem dX1_setOut_44 : decode cX1_setOut 44 = .ok (.invokevirtual 43, 3) := by decide +kernel
theorem dX1_setOut_47 : decode cX1_setOut 47 = .ok (.putfield 34, 3) := by decide +kernel
theorem dX1_setOut_50 : decode cX1_setOut 50 = .ok (.return_, 1) := by decide +kernel
theorem dX1_burnStrip_0 : decode cX1_burnStrip 0 = .ok (.aload_n 1, 1) := by decide +kernel
theorem dX1_burnStrip_1 : decode cX1_burnStrip 1 = .ok (.getfield 47, 3) := by decide +kernel
theorem dX1_burnStrip_4 : decode cX1_burnStrip 4 = .ok (.getfield 53, 3) := by decide +kernel
theorem dX1_burnStrip_7 : decode cX1_burnStrip 7 = .ok (.iload_n 3, 1) := by decide +kernel
theorem dX1_burnStrip_8 : decode cX1_burnStrip 8 = .ok (.iaload, 1) := by decide +kernel
theorem dX1_burnStrip_9 : decode cX1_burnStrip 9 = .ok (.aload_n 2, 1) := by decide +kernel
theorem dX1_burnStrip_10 : decode cX1_burnStrip 10 = .ok (.getfield 58, 3) := by decide +kernel
theorem dX1_burnStrip_13 : decode cX1_burnStrip 13 = .ok (.imul, 1) := by decide +kernel
theorem dX1_burnStrip_14 : decode cX1_burnStrip 14 = .ok (.istore 4, 2) := by decide +kernel
theorem dX1_burnStrip_16 : decode cX1_burnStrip 16 = .ok (.aload_n 1, 1) := by decide +kernel
theorem dX1_burnStrip_17 : decode cX1_burnStrip 17 = .ok (.getfield 47, 3) := by decide +kernel
theorem dX1_burnStrip_20 : decode cX1_burnStrip 20 = .ok (.getfield 63, 3) := by decide +kernel
theorem dX1_burnStrip_23 : decode cX1_burnStrip 23 = .ok (.iload_n 3, 1) := by decide +kernel
theorem dX1_burnStrip_24 : decode cX1_burnStrip 24 = .ok (.iaload, 1) := by decide +kernel
theorem dX1_burnStrip_25 : decode cX1_burnStrip 25 = .ok (.iconst 1, 1) := by decide +kernel
theorem dX1_burnStrip_26 : decode cX1_burnStrip 26 = .ok (.iadd, 1) := by decide +kernel
theorem dX1_burnStrip_27 : decode cX1_burnStrip 27 = .ok (.aload_n 2, 1) := by decide +kernel
theorem dX1_burnStrip_28 : decode cX1_burnStrip 28 = .ok (.getfield 58, 3) := by decide +kernel
theorem dX1_burnStrip_31 : decode cX1_burnStrip 31 = .ok (.imul, 1) := by decide +kernel
theorem dX1_burnStrip_32 : decode cX1_burnStrip 32 = .ok (.istore 5, 2) := by decide +kernel
theorem dX1_burnStrip_34 : decode cX1_burnStrip 34 = .ok (.iload 4, 2) := by decide +kernel
theorem dX1_burnStrip_36 : decode cX1_burnStrip 36 = .ok (.istore 6, 2) := by decide +kernel
theorem dX1_burnStrip_38 : decode cX1_burnStrip 38 = .ok (.iload 6, 2) := by decide +kernel
theorem dX1_burnStrip_40 : decode cX1_burnStrip 40 = .ok (.iload 5, 2) := by decide +kernel
theorem dX1_burnStrip_42 : decode cX1_burnStrip 42 = .ok (.if_icmp .ge 118, 3) := by decide +kernel
theorem dX1_burnStrip_45 : decode cX1_burnStrip 45 = .ok (.aload_n 0, 1) := by decide +kernel
theorem dX1_burnStrip_46 : decode cX1_burnStrip 46 = .ok (.getfield 9, 3) := by decide +kernel
theorem dX1_burnStrip_49 : decode cX1_burnStrip 49 = .ok (.iload 6, 2) := by decide +kernel
theorem dX1_burnStrip_51 : decode cX1_burnStrip 51 = .ok (.iconst 0, 1) := by decide +kernel
theorem dX1_burnStrip_52 : decode cX1_burnStrip 52 = .ok (.iastore, 1) := by decide +kernel
theorem dX1_burnStrip_53 : decode cX1_burnStrip 53 = .ok (.aload_n 1, 1) := by decide +kernel
theorem dX1_burnStrip_54 : decode cX1_burnStrip 54 = .ok (.getfield 66, 3) := by decide +kernel
theorem dX1_burnStrip_57 : decode cX1_burnStrip 57 = .ok (.iload 6, 2) := by decide +kernel
theorem dX1_burnStrip_59 : decode cX1_burnStrip 59 = .ok (.iaload, 1) := by decide +kernel
theorem dX1_burnStrip_60 : decode cX1_burnStrip 60 = .ok (.iconst 2, 1) := by decide +kernel
theorem dX1_burnStrip_61 : decode cX1_burnStrip 61 = .ok (.if_icmp .ne 93, 3) := by decide +kernel
theorem dX1_burnStrip_64 : decode cX1_burnStrip 64 = .ok (.aload_n 1, 1) := by decide +kernel
theorem dX1_burnStrip_65 : decode cX1_burnStrip 65 = .ok (.getfield 47, 3) := by decide +kernel
theorem dX1_burnStrip_68 : decode cX1_burnStrip 68 = .ok (.getfield 69, 3) := by decide +kernel
theorem dX1_burnStrip_71 : decode cX1_burnStrip 71 = .ok (.iload_n 3, 1) := by decide +kernel
theorem dX1_burnStrip_72 : decode cX1_burnStrip 72 = .ok (.dup2, 1) := by decide +kernel
theorem dX1_burnStrip_73 : decode cX1_burnStrip 73 = .ok (.iaload, 1) := by decide +kernel
theorem dX1_burnStrip_74 : decode cX1_burnStrip 74 = .ok (.iconst 4, 1) := by decide +kernel
theorem dX1_burnStrip_75 : decode cX1_burnStrip 75 = .ok (.iadd, 1) := by decide +kernel
theorem dX1_burnStrip_76 : decode cX1_burnStrip 76 = .ok (.iastore, 1) := by decide +kernel
theorem dX1_burnStrip_77 : decode cX1_burnStrip 77 = .ok (.aload_n 0, 1) := by decide +kernel
theorem dX1_burnStrip_78 : decode cX1_burnStrip 78 = .ok (.getfield 9, 3) := by decide +kernel
theorem dX1_burnStrip_81 : decode cX1_burnStrip 81 = .ok (.iload 6, 2) := by decide +kernel
theorem dX1_burnStrip_83 : decode cX1_burnStrip 83 = .ok (.getstatic 72, 3) := by decide +kernel
theorem dX1_burnStrip_86 : decode cX1_burnStrip 86 = .ok (.aload_n 2, 1) := by decide +kernel
theorem dX1_burnStrip_87 : decode cX1_burnStrip 87 = .ok (.getfield 75, 3) := by decide +kernel
theorem dX1_burnStrip_90 : decode cX1_burnStrip 90 = .ok (.iload 6, 2) := by decide +kernel
theorem dX1_burnStrip_92 : decode cX1_burnStrip 92 = .ok (.iaload, 1) := by decide +kernel
theorem dX1_burnStrip_93 : decode cX1_burnStrip 93 = .ok (.iaload, 1) := by decide +kernel
theorem dX1_burnStrip_94 : decode cX1_burnStrip 94 = .ok (.aload_n 1, 1) := by decide +kernel
theorem dX1_burnStrip_95 : decode cX1_burnStrip 95 = .ok (.getfield 78, 3) := by decide +kernel
theorem dX1_burnStrip_98 : decode cX1_burnStrip 98 = .ok (.iload 6, 2) := by decide +kernel
theorem dX1_burnStrip_100 : decode cX1_burnStrip 100 = .ok (.iaload, 1) := by decide +kernel
theorem dX1_burnStrip_101 : decode cX1_burnStrip 101 = .ok (.invokestatic 81, 3) := by decide +kernel
theorem dX1_burnStrip_104 : decode cX1_burnStrip 104 = .ok (.iastore, 1) := by decide +kernel
theorem dX1_burnStrip_105 : decode cX1_burnStrip 105 = .ok (.aload_n 1, 1) := by decide +kernel
theorem dX1_burnStrip_106 : decode cX1_burnStrip 106 = .ok (.dup, 1) := by decide +kernel
theorem dX1_burnStrip_107 : decode cX1_burnStrip 107 = .ok (.getfield 86, 3) := by decide +kernel
theorem dX1_burnStrip_110 : decode cX1_burnStrip 110 = .ok (.aload_n 0, 1) := by decide +kernel
theorem dX1_burnStrip_111 : decode cX1_burnStrip 111 = .ok (.getfield 9, 3) := by decide +kernel
theorem dX1_burnStrip_114 : decode cX1_burnStrip 114 = .ok (.iload 6, 2) := by decide +kernel
theorem dX1_burnStrip_116 : decode cX1_burnStrip 116 = .ok (.iaload, 1) := by decide +kernel
theorem dX1_burnStrip_117 : decode cX1_burnStrip 117 = .ok (.iadd, 1) := by decide +kernel
theorem dX1_burnStrip_118 : decode cX1_burnStrip 118 = .ok (.putfield 86, 3) := by decide +kernel
theorem dX1_burnStrip_121 : decode cX1_burnStrip 121 = .ok (.aload_n 1, 1) := by decide +kernel
theorem dX1_burnStrip_122 : decode cX1_burnStrip 122 = .ok (.dup, 1) := by decide +kernel
theorem dX1_burnStrip_123 : decode cX1_burnStrip 123 = .ok (.getfield 89, 3) := by decide +kernel
theorem dX1_burnStrip_126 : decode cX1_burnStrip 126 = .ok (.aload_n 0, 1) := by decide +kernel
theorem dX1_burnStrip_127 : decode cX1_burnStrip 127 = .ok (.aload_n 2, 1) := by decide +kernel
theorem dX1_burnStrip_128 : decode cX1_burnStrip 128 = .ok (.iload 6, 2) := by decide +kernel
theorem dX1_burnStrip_130 : decode cX1_burnStrip 130 = .ok (.iload 4, 2) := by decide +kernel
theorem dX1_burnStrip_132 : decode cX1_burnStrip 132 = .ok (.iload 5, 2) := by decide +kernel
theorem dX1_burnStrip_134 : decode cX1_burnStrip 134 = .ok (.invokevirtual 92, 3) := by decide +kernel
theorem dX1_burnStrip_137 : decode cX1_burnStrip 137 = .ok (.aload_n 0, 1) := by decide +kernel
theorem dX1_burnStrip_138 : decode cX1_burnStrip 138 = .ok (.aload_n 1, 1) := by decide +kernel
theorem dX1_burnStrip_139 : decode cX1_burnStrip 139 = .ok (.aload_n 2, 1) := by decide +kernel
theorem dX1_burnStrip_140 : decode cX1_burnStrip 140 = .ok (.iload 6, 2) := by decide +kernel
theorem dX1_burnStrip_142 : decode cX1_burnStrip 142 = .ok (.iload 4, 2) := by decide +kernel
theorem dX1_burnStrip_144 : decode cX1_burnStrip 144 = .ok (.iload 5, 2) := by decide +kernel
theorem dX1_burnStrip_146 : decode cX1_burnStrip 146 = .ok (.invokevirtual 96, 3) := by decide +kernel
theorem dX1_burnStrip_149 : decode cX1_burnStrip 149 = .ok (.iadd, 1) := by decide +kernel
theorem dX1_burnStrip_150 : decode cX1_burnStrip 150 = .ok (.iadd, 1) := by decide +kernel
theorem dX1_burnStrip_151 : decode cX1_burnStrip 151 = .ok (.putfield 89, 3) := by decide +kernel
theorem dX1_burnStrip_154 : decode cX1_burnStrip 154 = .ok (.iinc 6 1, 3) := by decide +kernel
theorem dX1_burnStrip_157 : decode cX1_burnStrip 157 = .ok (.goto (-119), 3) := by decide +kernel
theorem dX1_burnStrip_160 : decode cX1_burnStrip 160 = .ok (.return_, 1) := by decide +kernel
theorem dX1_giveHeat_0 : decode cX1_giveHeat 0 = .ok (.iconst 0, 1) := by decide +kernel
theorem dX1_giveHeat_1 : decode cX1_giveHeat 1 = .ok (.istore 5, 2) := by decide +kernel
theorem dX1_giveHeat_3 : decode cX1_giveHeat 3 = .ok (.iconst 0, 1) := by decide +kernel
theorem dX1_giveHeat_4 : decode cX1_giveHeat 4 = .ok (.istore 6, 2) := by decide +kernel
theorem dX1_giveHeat_6 : decode cX1_giveHeat 6 = .ok (.iload 6, 2) := by decide +kernel
theorem dX1_giveHeat_8 : decode cX1_giveHeat 8 = .ok (.bipush 8, 2) := by decide +kernel
theorem dX1_giveHeat_10 : decode cX1_giveHeat 10 = .ok (.if_icmp .ge 131, 3) := by decide +kernel
theorem dX1_giveHeat_13 : decode cX1_giveHeat 13 = .ok (.aload_n 1, 1) := by decide +kernel
theorem dX1_giveHeat_14 : decode cX1_giveHeat 14 = .ok (.iload_n 2, 1) := by decide +kernel
theorem dX1_giveHeat_15 : decode cX1_giveHeat 15 = .ok (.iload 6, 2) := by decide +kernel
theorem dX1_giveHeat_17 : decode cX1_giveHeat 17 = .ok (.iconst 1, 1) := by decide +kernel
theorem dX1_giveHeat_18 : decode cX1_giveHeat 18 = .ok (.invokevirtual 100, 3) := by decide +kernel
theorem dX1_giveHeat_21 : decode cX1_giveHeat 21 = .ok (.istore 7, 2) := by decide +kernel
theorem dX1_giveHeat_23 : decode cX1_giveHeat 23 = .ok (.iload 7, 2) := by decide +kernel
theorem dX1_giveHeat_25 : decode cX1_giveHeat 25 = .ok (.ifCond .lt 110, 3) := by decide +kernel
theorem dX1_giveHeat_28 : decode cX1_giveHeat 28 = .ok (.bipush (-6), 2) := by decide +kernel
theorem dX1_giveHeat_30 : decode cX1_giveHeat 30 = .ok (.bipush 6, 2) := by decide +kernel
theorem dX1_giveHeat_32 : decode cX1_giveHeat 32 = .ok (.aload_n 1, 1) := by decide +kernel
theorem dX1_giveHeat_33 : decode cX1_giveHeat 33 = .ok (.getfield 104, 3) := by decide +kernel
theorem dX1_giveHeat_36 : decode cX1_giveHeat 36 = .ok (.iload 7, 2) := by decide +kernel
theorem dX1_giveHeat_38 : decode cX1_giveHeat 38 = .ok (.iaload, 1) := by decide +kernel
theorem dX1_giveHeat_39 : decode cX1_giveHeat 39 = .ok (.aload_n 1, 1) := by decide +kernel
theorem dX1_giveHeat_40 : decode cX1_giveHeat 40 = .ok (.getfield 104, 3) := by decide +kernel
theorem dX1_giveHeat_43 : decode cX1_giveHeat 43 = .ok (.iload_n 2, 1) := by decide +kernel
theorem dX1_giveHeat_44 : decode cX1_giveHeat 44 = .ok (.iaload, 1) := by decide +kernel
theorem dX1_giveHeat_45 : decode cX1_giveHeat 45 = .ok (.isub, 1) := by decide +kernel
theorem dX1_giveHeat_46 : decode cX1_giveHeat 46 = .ok (.invokestatic 81, 3) := by decide +kernel
theorem dX1_giveHeat_49 : decode cX1_giveHeat 49 = .ok (.invokestatic 107, 3) := by decide +kernel
theorem dX1_giveHeat_52 : decode cX1_giveHeat 52 = .ok (.istore 8, 2) := by decide +kernel
theorem dX1_giveHeat_54 : decode cX1_giveHeat 54 = .ok (.aload_n 0, 1) := by decide +kernel
theorem dX1_giveHeat_55 : decode cX1_giveHeat 55 = .ok (.getfield 31, 3) := by decide +kernel
theorem dX1_giveHeat_58 : decode cX1_giveHeat 58 = .ok (.getstatic 110, 3) := by decide +kernel
theorem dX1_giveHeat_61 : decode cX1_giveHeat 61 = .ok (.iload 6, 2) := by decide +kernel
theorem dX1_giveHeat_63 : decode cX1_giveHeat 63 = .ok (.aload_n 0, 1) := by decide +kernel
theorem dX1_giveHeat_64 : decode cX1_giveHeat 64 = .ok (.getfield 28, 3) := by decide +kernel
theorem dX1_giveHeat_67 : decode cX1_giveHeat 67 = .ok (.isub, 1) := by decide +kernel
theorem dX1_giveHeat_68 : decode cX1_giveHeat 68 = .ok (.bipush 7, 2) := by decide +kernel
theorem dX1_giveHeat_70 : decode cX1_giveHeat 70 = .ok (.iand, 1) := by decide +kernel
theorem dX1_giveHeat_71 : decode cX1_giveHeat 71 = .ok (.iaload, 1) := by decide +kernel
theorem dX1_giveHeat_72 : decode cX1_giveHeat 72 = .ok (.imul, 1) := by decide +kernel
theorem dX1_giveHeat_73 : decode cX1_giveHeat 73 = .ok (.istore 9, 2) := by decide +kernel
theorem dX1_giveHeat_75 : decode cX1_giveHeat 75 = .ok (.aload_n 0, 1) := by decide +kernel
theorem dX1_giveHeat_76 : decode cX1_giveHeat 76 = .ok (.getfield 9, 3) := by decide +kernel
theorem dX1_giveHeat_79 : decode cX1_giveHeat 79 = .ok (.iload_n 2, 1) := by decide +kernel
theorem dX1_giveHeat_80 : decode cX1_giveHeat 80 = .ok (.iaload, 1) := by decide +kernel
theorem dX1_giveHeat_81 : decode cX1_giveHeat 81 = .ok (.bipush 8, 2) := by decide +kernel
theorem dX1_giveHeat_83 : decode cX1_giveHeat 83 = .ok (.iload 9, 2) := by decide +kernel
theorem dX1_giveHeat_85 : decode cX1_giveHeat 85 = .ok (.iadd, 1) := by decide +kernel
theorem dX1_giveHeat_86 : decode cX1_giveHeat 86 = .ok (.iload 8, 2) := by decide +kernel
theorem dX1_giveHeat_88 : decode cX1_giveHeat 88 = .ok (.iadd, 1) := by decide +kernel
theorem dX1_giveHeat_89 : decode cX1_giveHeat 89 = .ok (.imul, 1) := by decide +kernel
theorem dX1_giveHeat_90 : decode cX1_giveHeat 90 = .ok (.bipush 8, 2) := by decide +kernel
theorem dX1_giveHeat_92 : decode cX1_giveHeat 92 = .ok (.idiv, 1) := by decide +kernel
theorem dX1_giveHeat_93 : decode cX1_giveHeat 93 = .ok (.istore 10, 2) := by decide +kernel
theorem dX1_giveHeat_95 : decode cX1_giveHeat 95 = .ok (.iload 10, 2) := by decide +kernel
theorem dX1_giveHeat_97 : decode cX1_giveHeat 97 = .ok (.ifCond .le 38, 3) := by decide +kernel
theorem dX1_giveHeat_100 : decode cX1_giveHeat 100 = .ok (.aload_n 0, 1) := by decide +kernel
theorem dX1_giveHeat_101 : decode cX1_giveHeat 101 = .ok (.getfield 15, 3) := by decide +kernel
theorem dX1_giveHeat_104 : decode cX1_giveHeat 104 = .ok (.iload 7, 2) := by decide +kernel
theorem dX1_giveHeat_106 : decode cX1_giveHeat 106 = .ok (.dup2, 1) := by decide +kernel
theorem dX1_giveHeat_107 : decode cX1_giveHeat 107 = .ok (.iaload, 1) := by decide +kernel
theorem dX1_giveHeat_108 : decode cX1_giveHeat 108 = .ok (.iload 10, 2) := by decide +kernel
theorem dX1_giveHeat_110 : decode cX1_giveHeat 110 = .ok (.iadd, 1) := by decide +kernel
theorem dX1_giveHeat_111 : decode cX1_giveHeat 111 = .ok (.iastore, 1) := by decide +kernel
theorem dX1_giveHeat_112 : decode cX1_giveHeat 112 = .ok (.iload 5, 2) := by decide +kernel
theorem dX1_giveHeat_114 : decode cX1_giveHeat 114 = .ok (.iload 7, 2) := by decide +kernel
theorem dX1_giveHeat_116 : decode cX1_giveHeat 116 = .ok (.iload_n 3, 1) := by decide +kernel
theorem dX1_giveHeat_117 : decode cX1_giveHeat 117 = .ok (.if_icmp .lt 10, 3) := by decide +kernel
theorem dX1_giveHeat_120 : decode cX1_giveHeat 120 = .ok (.iload 7, 2) := by decide +kernel
theorem dX1_giveHeat_122 : decode cX1_giveHeat 122 = .ok (.iload 4, 2) := by decide +kernel
theorem dX1_giveHeat_124 : decode cX1_giveHeat 124 = .ok (.if_icmp .lt 7, 3) := by decide +kernel
theorem dX1_giveHeat_127 : decode cX1_giveHeat 127 = .ok (.iconst 1, 1) := by decide +kernel
theorem dX1_giveHeat_128 : decode cX1_giveHeat 128 = .ok (.goto 4, 3) := by decide +kernel
theorem dX1_giveHeat_131 : decode cX1_giveHeat 131 = .ok (.iconst 0, 1) := by decide +kernel
theorem dX1_giveHeat_132 : decode cX1_giveHeat 132 = .ok (.iadd, 1) := by decide +kernel
theorem dX1_giveHeat_133 : decode cX1_giveHeat 133 = .ok (.istore 5, 2) := by decide +kernel
theorem dX1_giveHeat_135 : decode cX1_giveHeat 135 = .ok (.iinc 6 1, 3) := by decide +kernel
theorem dX1_giveHeat_138 : decode cX1_giveHeat 138 = .ok (.goto (-132), 3) := by decide +kernel
theorem dX1_giveHeat_141 : decode cX1_giveHeat 141 = .ok (.iload 5, 2) := by decide +kernel
theorem dX1_giveHeat_143 : decode cX1_giveHeat 143 = .ok (.ireturn, 1) := by decide +kernel
theorem dX1_throwEmber_0 : decode cX1_throwEmber 0 = .ok (.aload_n 2, 1) := by decide +kernel
theorem dX1_throwEmber_1 : decode cX1_throwEmber 1 = .ok (.getfield 75, 3) := by decide +kernel
theorem dX1_throwEmber_4 : decode cX1_throwEmber 4 = .ok (.iload_n 3, 1) := by decide +kernel
theorem dX1_throwEmber_5 : decode cX1_throwEmber 5 = .ok (.iaload, 1) := by decide +kernel
theorem dX1_throwEmber_6 : decode cX1_throwEmber 6 = .ok (.iconst 3, 1) := by decide +kernel
theorem dX1_throwEmber_7 : decode cX1_throwEmber 7 = .ok (.if_icmp .ne 30, 3) := by decide +kernel
theorem dX1_throwEmber_10 : decode cX1_throwEmber 10 = .ok (.aload_n 0, 1) := by decide +kernel
theorem dX1_throwEmber_11 : decode cX1_throwEmber 11 = .ok (.getfield 31, 3) := by decide +kernel
theorem dX1_throwEmber_14 : decode cX1_throwEmber 14 = .ok (.iconst 2, 1) := by decide +kernel
theorem dX1_throwEmber_15 : decode cX1_throwEmber 15 = .ok (.if_icmp .lt 22, 3) := by decide +kernel
theorem dX1_throwEmber_18 : decode cX1_throwEmber 18 = .ok (.aload_n 0, 1) := by decide +kernel
theorem dX1_throwEmber_19 : decode cX1_throwEmber 19 = .ok (.iload_n 3, 1) := by decide +kernel
theorem dX1_throwEmber_20 : decode cX1_throwEmber 20 = .ok (.iconst 0, 1) := by decide +kernel
theorem dX1_throwEmber_21 : decode cX1_throwEmber 21 = .ok (.invokevirtual 113, 3) := by decide +kernel
theorem dX1_throwEmber_24 : decode cX1_throwEmber 24 = .ok (.bipush 100, 2) := by decide +kernel
theorem dX1_throwEmber_26 : decode cX1_throwEmber 26 = .ok (.irem, 1) := by decide +kernel
theorem dX1_throwEmber_27 : decode cX1_throwEmber 27 = .ok (.bipush 6, 2) := by decide +kernel
theorem dX1_throwEmber_29 : decode cX1_throwEmber 29 = .ok (.aload_n 0, 1) := by decide +kernel
theorem dX1_throwEmber_30 : decode cX1_throwEmber 30 = .ok (.getfield 31, 3) := by decide +kernel
theorem dX1_throwEmber_33 : decode cX1_throwEmber 33 = .ok (.imul, 1) := by decide +kernel
theorem dX1_throwEmber_34 : decode cX1_throwEmber 34 = .ok (.if_icmp .lt 5, 3) := by decide +kernel
theorem dX1_throwEmber_37 : decode cX1_throwEmber 37 = .ok (.iconst 0, 1) := by decide +kernel
theorem dX1_throwEmber_38 : decode cX1_throwEmber 38 = .ok (.ireturn, 1) := by decide +kernel
theorem dX1_throwEmber_39 : decode cX1_throwEmber 39 = .ok (.aload_n 2, 1) := by decide +kernel
theorem dX1_throwEmber_40 : decode cX1_throwEmber 40 = .ok (.iload_n 3, 1) := by decide +kernel
theorem dX1_throwEmber_41 : decode cX1_throwEmber 41 = .ok (.aload_n 0, 1) := by decide +kernel
theorem dX1_throwEmber_42 : decode cX1_throwEmber 42 = .ok (.getfield 28, 3) := by decide +kernel
theorem dX1_throwEmber_45 : decode cX1_throwEmber 45 = .ok (.iconst 2, 1) := by decide +kernel
theorem dX1_throwEmber_46 : decode cX1_throwEmber 46 = .ok (.aload_n 0, 1) := by decide +kernel
theorem dX1_throwEmber_47 : decode cX1_throwEmber 47 = .ok (.iload_n 3, 1) := by decide +kernel
theorem dX1_throwEmber_48 : decode cX1_throwEmber 48 = .ok (.iconst 1, 1) := by decide +kernel
theorem dX1_throwEmber_49 : decode cX1_throwEmber 49 = .ok (.invokevirtual 113, 3) := by decide +kernel
theorem dX1_throwEmber_52 : decode cX1_throwEmber 52 = .ok (.iconst 3, 1) := by decide +kernel
theorem dX1_throwEmber_53 : decode cX1_throwEmber 53 = .ok (.irem, 1) := by decide +kernel
theorem dX1_throwEmber_54 : decode cX1_throwEmber 54 = .ok (.iadd, 1) := by decide +kernel
theorem dX1_throwEmber_55 : decode cX1_throwEmber 55 = .ok (.invokevirtual 100, 3) := by decide +kernel
theorem dX1_throwEmber_58 : decode cX1_throwEmber 58 = .ok (.istore 6, 2) := by decide +kernel
theorem dX1_throwEmber_60 : decode cX1_throwEmber 60 = .ok (.iload 6, 2) := by decide +kernel
theorem dX1_throwEmber_62 : decode cX1_throwEmber 62 = .ok (.ifCond .ge 5, 3) := by decide +kernel
theorem dX1_throwEmber_65 : decode cX1_throwEmber 65 = .ok (.iconst 0, 1) := by decide +kernel
theorem dX1_throwEmber_66 : decode cX1_throwEmber 66 = .ok (.ireturn, 1) := by decide +kernel
theorem dX1_throwEmber_67 : decode cX1_throwEmber 67 = .ok (.aload_n 0, 1) := by decide +kernel
theorem dX1_throwEmber_68 : decode cX1_throwEmber 68 = .ok (.getfield 15, 3) := by decide +kernel
theorem dX1_throwEmber_71 : decode cX1_throwEmber 71 = .ok (.iload 6, 2) := by decide +kernel
theorem dX1_throwEmber_73 : decode cX1_throwEmber 73 = .ok (.dup2, 1) := by decide +kernel
theorem dX1_throwEmber_74 : decode cX1_throwEmber 74 = .ok (.iaload, 1) := by decide +kernel
theorem dX1_throwEmber_75 : decode cX1_throwEmber 75 = .ok (.bipush 40, 2) := by decide +kernel
theorem dX1_throwEmber_77 : decode cX1_throwEmber 77 = .ok (.iadd, 1) := by decide +kernel
theorem dX1_throwEmber_78 : decode cX1_throwEmber 78 = .ok (.iastore, 1) := by decide +kernel
theorem dX1_throwEmber_79 : decode cX1_throwEmber 79 = .ok (.aload_n 1, 1) := by decide +kernel
theorem dX1_throwEmber_80 : decode cX1_throwEmber 80 = .ok (.dup, 1) := by decide +kernel
theorem dX1_throwEmber_81 : decode cX1_throwEmber 81 = .ok (.getfield 116, 3) := by decide +kernel
theorem dX1_throwEmber_84 : decode cX1_throwEmber 84 = .ok (.iconst 1, 1) := by decide +kernel
theorem dX1_throwEmber_85 : decode cX1_throwEmber 85 = .ok (.iadd, 1) := by decide +kernel
theorem dX1_throwEmber_86 : decode cX1_throwEmber 86 = .ok (.putfield 116, 3) := by decide +kernel
theorem dX1_throwEmber_89 : decode cX1_throwEmber 89 = .ok (.iload 6, 2) := by decide +kernel
theorem dX1_throwEmber_91 : decode cX1_throwEmber 91 = .ok (.iload 4, 2) := by decide +kernel
theorem dX1_throwEmber_93 : decode cX1_throwEmber 93 = .ok (.if_icmp .lt 10, 3) := by decide +kernel
theorem dX1_throwEmber_96 : decode cX1_throwEmber 96 = .ok (.iload 6, 2) := by decide +kernel
theorem dX1_throwEmber_98 : decode cX1_throwEmber 98 = .ok (.iload 5, 2) := by decide +kernel
theorem dX1_throwEmber_100 : decode cX1_throwEmber 100 = .ok (.if_icmp .lt 7, 3) := by decide +kernel
theorem dX1_throwEmber_103 : decode cX1_throwEmber 103 = .ok (.iconst 1, 1) := by decide +kernel
theorem dX1_throwEmber_104 : decode cX1_throwEmber 104 = .ok (.goto 4, 3) := by decide +kernel
theorem dX1_throwEmber_107 : decode cX1_throwEmber 107 = .ok (.iconst 0, 1) := by decide +kernel
theorem dX1_throwEmber_108 : decode cX1_throwEmber 108 = .ok (.ireturn, 1) := by decide +kernel
theorem dX1_lot_0 : decode cX1_lot 0 = .ok (.aload_n 0, 1) := by decide +kernel
theorem dX1_lot_1 : decode cX1_lot 1 = .ok (.getfield 25, 3) := by decide +kernel
theorem dX1_lot_4 : decode cX1_lot 4 = .ok (.ldc 119, 2) := by decide +kernel
theorem dX1_lot_6 : decode cX1_lot 6 = .ok (.imul, 1) := by decide +kernel
theorem dX1_lot_7 : decode cX1_lot 7 = .ok (.aload_n 0, 1) := by decide +kernel
theorem dX1_lot_8 : decode cX1_lot 8 = .ok (.getfield 21, 3) := by decide +kernel
theorem dX1_lot_11 : decode cX1_lot 11 = .ok (.ldc 120, 2) := by decide +kernel
theorem dX1_lot_13 : decode cX1_lot 13 = .ok (.imul, 1) := by decide +kernel
theorem dX1_lot_14 : decode cX1_lot 14 = .ok (.iadd, 1) := by decide +kernel
theorem dX1_lot_15 : decode cX1_lot 15 = .ok (.iload_n 1, 1) := by decide +kernel
theorem dX1_lot_16 : decode cX1_lot 16 = .ok (.ldc 121, 2) := by decide +kernel
theorem dX1_lot_18 : decode cX1_lot 18 = .ok (.imul, 1) := by decide +kernel
theorem dX1_lot_19 : decode cX1_lot 19 = .ok (.iadd, 1) := by decide +kernel
theorem dX1_lot_20 : decode cX1_lot 20 = .ok (.iload_n 2, 1) := by decide +kernel
theorem dX1_lot_21 : decode cX1_lot 21 = .ok (.sipush 9973, 3) := by decide +kernel
theorem dX1_lot_24 : decode cX1_lot 24 = .ok (.imul, 1) := by decide +kernel
theorem dX1_lot_25 : decode cX1_lot 25 = .ok (.iadd, 1) := by decide +kernel
theorem dX1_lot_26 : decode cX1_lot 26 = .ok (.istore_n 3, 1) := by decide +kernel
theorem dX1_lot_27 : decode cX1_lot 27 = .ok (.iload_n 3, 1) := by decide +kernel
theorem dX1_lot_28 : decode cX1_lot 28 = .ok (.iload_n 3, 1) := by decide +kernel
theorem dX1_lot_29 : decode cX1_lot 29 = .ok (.bipush 15, 2) := by decide +kernel
theorem dX1_lot_31 : decode cX1_lot 31 = .ok (.iushr, 1) := by decide +kernel
theorem dX1_lot_32 : decode cX1_lot 32 = .ok (.ixor, 1) := by decide +kernel
theorem dX1_lot_33 : decode cX1_lot 33 = .ok (.ldc 122, 2) := by decide +kernel
theorem dX1_lot_35 : decode cX1_lot 35 = .ok (.imul, 1) := by decide +kernel
theorem dX1_lot_36 : decode cX1_lot 36 = .ok (.istore_n 3, 1) := by decide +kernel
theorem dX1_lot_37 : decode cX1_lot 37 = .ok (.iload_n 3, 1) := by decide +kernel
theorem dX1_lot_38 : decode cX1_lot 38 = .ok (.iload_n 3, 1) := by decide +kernel
theorem dX1_lot_39 : decode cX1_lot 39 = .ok (.bipush 15, 2) := by decide +kernel
theorem dX1_lot_41 : decode cX1_lot 41 = .ok (.iushr, 1) := by decide +kernel
theorem dX1_lot_42 : decode cX1_lot 42 = .ok (.ixor, 1) := by decide +kernel
theorem dX1_lot_43 : decode cX1_lot 43 = .ok (.ldc 122, 2) := by decide +kernel
theorem dX1_lot_45 : decode cX1_lot 45 = .ok (.imul, 1) := by decide +kernel
theorem dX1_lot_46 : decode cX1_lot 46 = .ok (.istore_n 3, 1) := by decide +kernel
theorem dX1_lot_47 : decode cX1_lot 47 = .ok (.iload_n 3, 1) := by decide +kernel
theorem dX1_lot_48 : decode cX1_lot 48 = .ok (.bipush 16, 2) := by decide +kernel
theorem dX1_lot_50 : decode cX1_lot 50 = .ok (.iushr, 1) := by decide +kernel
theorem dX1_lot_51 : decode cX1_lot 51 = .ok (.ireturn, 1) := by decide +kernel
theorem dX1_settle_0 : decode cX1_settle 0 = .ok (.iconst 0, 1) := by decide +kernel
theorem dX1_settle_1 : decode cX1_settle 1 = .ok (.istore_n 3, 1) := by decide +kernel
theorem dX1_settle_2 : decode cX1_settle 2 = .ok (.iload_n 3, 1) := by decide +kernel
theorem dX1_settle_3 : decode cX1_settle 3 = .ok (.aload_n 2, 1) := by decide +kernel
theorem dX1_settle_4 : decode cX1_settle 4 = .ok (.getfield 123, 3) := by decide +kernel
theorem dX1_settle_7 : decode cX1_settle 7 = .ok (.if_icmp .ge 73, 3) := by decide +kernel
theorem dX1_settle_10 : decode cX1_settle 10 = .ok (.aload_n 1, 1) := by decide +kernel
theorem dX1_settle_11 : decode cX1_settle 11 = .ok (.getfield 126, 3) := by decide +kernel
theorem dX1_settle_14 : decode cX1_settle 14 = .ok (.iload_n 3, 1) := by decide +kernel
theorem dX1_settle_15 : decode cX1_settle 15 = .ok (.aload_n 0, 1) := by decide +kernel
theorem dX1_settle_16 : decode cX1_settle 16 = .ok (.getfield 15, 3) := by decide +kernel
theorem dX1_settle_19 : decode cX1_settle 19 = .ok (.iload_n 3, 1) := by decide +kernel
theorem dX1_settle_20 : decode cX1_settle 20 = .ok (.iaload, 1) := by decide +kernel
theorem dX1_settle_21 : decode cX1_settle 21 = .ok (.aload_n 1, 1) := by decide +kernel
theorem dX1_settle_22 : decode cX1_settle 22 = .ok (.getfield 126, 3) := by decide +kernel
theorem dX1_settle_25 : decode cX1_settle 25 = .ok (.iload_n 3, 1) := by decide +kernel
theorem dX1_settle_26 : decode cX1_settle 26 = .ok (.iaload, 1) := by decide +kernel
theorem dX1_settle_27 : decode cX1_settle 27 = .ok (.iconst 2, 1) := by decide +kernel
theorem dX1_settle_28 : decode cX1_settle 28 = .ok (.idiv, 1) := by decide +kernel
theorem dX1_settle_29 : decode cX1_settle 29 = .ok (.iadd, 1) := by decide +kernel
theorem dX1_settle_30 : decode cX1_settle 30 = .ok (.iastore, 1) := by decide +kernel
theorem dX1_settle_31 : decode cX1_settle 31 = .ok (.aload_n 1, 1) := by decide +kernel
theorem dX1_settle_32 : decode cX1_settle 32 = .ok (.getfield 66, 3) := by decide +kernel
theorem dX1_settle_35 : decode cX1_settle 35 = .ok (.iload_n 3, 1) := by decide +kernel
theorem dX1_settle_36 : decode cX1_settle 36 = .ok (.iaload, 1) := by decide +kernel
theorem dX1_settle_37 : decode cX1_settle 37 = .ok (.iconst 1, 1) := by decide +kernel
theorem dX1_settle_38 : decode cX1_settle 38 = .ok (.if_icmp .ne 13, 3) := by decide +kernel
theorem dX1_settle_41 : decode cX1_settle 41 = .ok (.aload_n 0, 1) := by decide +kernel
theorem dX1_settle_42 : decode cX1_settle 42 = .ok (.aload_n 1, 1) := by decide +kernel
theorem dX1_settle_43 : decode cX1_settle 43 = .ok (.aload_n 2, 1) := by decide +kernel
theorem dX1_settle_44 : decode cX1_settle 44 = .ok (.iload_n 3, 1) := by decide +kernel
theorem dX1_settle_45 : decode cX1_settle 45 = .ok (.invokevirtual 129, 3) := by decide +kernel
theorem dX1_settle_48 : decode cX1_settle 48 = .ok (.goto 19, 3) := by decide +kernel
theorem dX1_settle_51 : decode cX1_settle 51 = .ok (.aload_n 1, 1) := by decide +kernel
theorem dX1_settle_52 : decode cX1_settle 52 = .ok (.getfield 66, 3) := by decide +kernel
theorem dX1_settle_55 : decode cX1_settle 55 = .ok (.iload_n 3, 1) := by decide +kernel
theorem dX1_settle_56 : decode cX1_settle 56 = .ok (.iaload, 1) := by decide +kernel
theorem dX1_settle_57 : decode cX1_settle 57 = .ok (.iconst 2, 1) := by decide +kernel
theorem dX1_settle_58 : decode cX1_settle 58 = .ok (.if_icmp .ne 9, 3) := by decide +kernel
theorem dX1_settle_61 : decode cX1_settle 61 = .ok (.aload_n 0, 1) := by decide +kernel
theorem dX1_settle_62 : decode cX1_settle 62 = .ok (.aload_n 1, 1) := by decide +kernel
theorem dX1_settle_63 : decode cX1_settle 63 = .ok (.iload_n 3, 1) := by decide +kernel
theorem dX1_settle_64 : decode cX1_settle 64 = .ok (.invokevirtual 133, 3) := by decide +kernel
theorem dX1_settle_67 : decode cX1_settle 67 = .ok (.aload_n 0, 1) := by decide +kernel
theorem dX1_settle_68 : decode cX1_settle 68 = .ok (.getfield 15, 3) := by decide +kernel
theorem dX1_settle_71 : decode cX1_settle 71 = .ok (.iload_n 3, 1) := by decide +kernel
theorem dX1_settle_72 : decode cX1_settle 72 = .ok (.iconst 0, 1) := by decide +kernel
theorem dX1_settle_73 : decode cX1_settle 73 = .ok (.iastore, 1) := by decide +kernel
theorem dX1_settle_74 : decode cX1_settle 74 = .ok (.iinc 3 1, 3) := by decide +kernel
theorem dX1_settle_77 : decode cX1_settle 77 = .ok (.goto (-75), 3) := by decide +kernel
theorem dX1_settle_80 : decode cX1_settle 80 = .ok (.return_, 1) := by decide +kernel
theorem dX1_dryAndCatch_0 : decode cX1_dryAndCatch 0 = .ok (.iconst 0, 1) := by decide +kernel
theorem dX1_dryAndCatch_1 : decode cX1_dryAndCatch 1 = .ok (.aload_n 1, 1) := by decide +kernel
theorem dX1_dryAndCatch_2 : decode cX1_dryAndCatch 2 = .ok (.getfield 137, 3) := by decide +kernel
theorem dX1_dryAndCatch_5 : decode cX1_dryAndCatch 5 = .ok (.iload_n 3, 1) := by decide +kernel
theorem dX1_dryAndCatch_6 : decode cX1_dryAndCatch 6 = .ok (.iaload, 1) := by decide +kernel
theorem dX1_dryAndCatch_7 : decode cX1_dryAndCatch 7 = .ok (.aload_n 0, 1) := by decide +kernel
theorem dX1_dryAndCatch_8 : decode cX1_dryAndCatch 8 = .ok (.getfield 15, 3) := by decide +kernel
theorem dX1_dryAndCatch_11 : decode cX1_dryAndCatch 11 = .ok (.iload_n 3, 1) := by decide +kernel
theorem dX1_dryAndCatch_12 : decode cX1_dryAndCatch 12 = .ok (.iaload, 1) := by decide +kernel
theorem dX1_dryAndCatch_13 : decode cX1_dryAndCatch 13 = .ok (.iconst 4, 1) := by decide +kernel
theorem dX1_dryAndCatch_14 : decode cX1_dryAndCatch 14 = .ok (.idiv, 1) := by decide +kernel
theorem dX1_dryAndCatch_15 : decode cX1_dryAndCatch 15 = .ok (.isub, 1) := by decide +kernel
theorem dX1_dryAndCatch_16 : decode cX1_dryAndCatch 16 = .ok (.invokestatic 107, 3) := by decide +kernel
theorem dX1_dryAndCatch_19 : decode cX1_dryAndCatch 19 = .ok (.istore 4, 2) := by decide +kernel
theorem dX1_dryAndCatch_21 : decode cX1_dryAndCatch 21 = .ok (.aload_n 1, 1) := by decide +kernel
theorem dX1_dryAndCatch_22 : decode cX1_dryAndCatch 22 = .ok (.getfield 137, 3) := by decide +kernel
theorem dX1_dryAndCatch_25 : decode cX1_dryAndCatch 25 = .ok (.iload_n 3, 1) := by decide +kernel
theorem dX1_dryAndCatch_26 : decode cX1_dryAndCatch 26 = .ok (.bipush 100, 2) := by decide +kernel
theorem dX1_dryAndCatch_28 : decode cX1_dryAndCatch 28 = .ok (.iload 4, 2) := by decide +kernel
theorem dX1_dryAndCatch_30 : decode cX1_dryAndCatch 30 = .ok (.iconst 3, 1) := by decide +kernel
theorem dX1_dryAndCatch_31 : decode cX1_dryAndCatch 31 = .ok (.aload_n 0, 1) := by decide +kernel
theorem dX1_dryAndCatch_32 : decode cX1_dryAndCatch 32 = .ok (.getfield 34, 3) := by decide +kernel
theorem dX1_dryAndCatch_35 : decode cX1_dryAndCatch 35 = .ok (.imul, 1) := by decide +kernel
theorem dX1_dryAndCatch_36 : decode cX1_dryAndCatch 36 = .ok (.iadd, 1) := by decide +kernel
theorem dX1_dryAndCatch_37 : decode cX1_dryAndCatch 37 = .ok (.invokestatic 81, 3) := by decide +kernel
theorem dX1_dryAndCatch_40 : decode cX1_dryAndCatch 40 = .ok (.iastore, 1) := by decide +kernel
theorem dX1_dryAndCatch_41 : decode cX1_dryAndCatch 41 = .ok (.aload_n 1, 1) := by decide +kernel
theorem dX1_dryAndCatch_42 : decode cX1_dryAndCatch 42 = .ok (.getfield 126, 3) := by decide +kernel
theorem dX1_dryAndCatch_45 : decode cX1_dryAndCatch 45 = .ok (.iload_n 3, 1) := by decide +kernel
theorem dX1_dryAndCatch_46 : decode cX1_dryAndCatch 46 = .ok (.iaload, 1) := by decide +kernel
theorem dX1_dryAndCatch_47 : decode cX1_dryAndCatch 47 = .ok (.getstatic 140, 3) := by decide +kernel
theorem dX1_dryAndCatch_50 : decode cX1_dryAndCatch 50 = .ok (.aload_n 2, 1) := by decide +kernel
theorem dX1_dryAndCatch_51 : decode cX1_dryAndCatch 51 = .ok (.getfield 75, 3) := by decide +kernel
theorem dX1_dryAndCatch_54 : decode cX1_dryAndCatch 54 = .ok (.iload_n 3, 1) := by decide +kernel
theorem dX1_dryAndCatch_55 : decode cX1_dryAndCatch 55 = .ok (.iaload, 1) := by decide +kernel
theorem dX1_dryAndCatch_56 : decode cX1_dryAndCatch 56 = .ok (.iaload, 1) := by decide +kernel
theorem dX1_dryAndCatch_57 : decode cX1_dryAndCatch 57 = .ok (.aload_n 1, 1) := by decide +kernel
theorem dX1_dryAndCatch_58 : decode cX1_dryAndCatch 58 = .ok (.getfield 137, 3) := by decide +kernel
theorem dX1_dryAndCatch_61 : decode cX1_dryAndCatch 61 = .ok (.iload_n 3, 1) := by decide +kernel
theorem dX1_dryAndCatch_62 : decode cX1_dryAndCatch 62 = .ok (.iaload, 1) := by decide +kernel
theorem dX1_dryAndCatch_63 : decode cX1_dryAndCatch 63 = .ok (.iadd, 1) := by decide +kernel
theorem dX1_dryAndCatch_64 : decode cX1_dryAndCatch 64 = .ok (.if_icmp .lt 8, 3) := by decide +kernel
theorem dX1_dryAndCatch_67 : decode cX1_dryAndCatch 67 = .ok (.aload_n 1, 1) := by decide +kernel
theorem dX1_dryAndCatch_68 : decode cX1_dryAndCatch 68 = .ok (.iload_n 3, 1) := by decide +kernel
theorem dX1_dryAndCatch_69 : decode cX1_dryAndCatch 69 = .ok (.invokevirtual 143, 3) := by decide +kernel
theorem dX1_dryAndCatch_72 : decode cX1_dryAndCatch 72 = .ok (.return_, 1) := by decide +kernel
theorem dX1_burnDown_0 : decode cX1_burnDown 0 = .ok (.aload_n 1, 1) := by decide +kernel
theorem dX1_burnDown_1 : decode cX1_burnDown 1 = .ok (.getfield 78, 3) := by decide +kernel
theorem dX1_burnDown_4 : decode cX1_burnDown 4 = .ok (.iload_n 2, 1) := by decide +kernel
theorem dX1_burnDown_5 : decode cX1_burnDown 5 = .ok (.dup2, 1) := by decide +kernel
theorem dX1_burnDown_6 : decode cX1_burnDown 6 = .ok (.iaload, 1) := by decide +kernel
theorem dX1_burnDown_7 : decode cX1_burnDown 7 = .ok (.aload_n 0, 1) := by decide +kernel
theorem dX1_burnDown_8 : decode cX1_burnDown 8 = .ok (.getfield 9, 3) := by decide +kernel
theorem dX1_burnDown_11 : decode cX1_burnDown 11 = .ok (.iload_n 2, 1) := by decide +kernel
theorem dX1_burnDown_12 : decode cX1_burnDown 12 = .ok (.iaload, 1) := by decide +kernel
theorem dX1_burnDown_13 : decode cX1_burnDown 13 = .ok (.isub, 1) := by decide +kernel
theorem dX1_burnDown_14 : decode cX1_burnDown 14 = .ok (.iastore, 1) := by decide +kernel
theorem dX1_burnDown_15 : decode cX1_burnDown 15 = .ok (.aload_n 1, 1) := by decide +kernel
theorem dX1_burnDown_16 : decode cX1_burnDown 16 = .ok (.getfield 78, 3) := by decide +kernel
theorem dX1_burnDown_19 : decode cX1_burnDown 19 = .ok (.iload_n 2, 1) := by decide +kernel
theorem dX1_burnDown_20 : decode cX1_burnDown 20 = .ok (.iaload, 1) := by decide +kernel
theorem dX1_burnDown_21 : decode cX1_burnDown 21 = .ok (.ifCond .ne 13, 3) := by decide +kernel
theorem dX1_burnDown_24 : decode cX1_burnDown 24 = .ok (.aload_n 1, 1) := by decide +kernel
theorem dX1_burnDown_25 : decode cX1_burnDown 25 = .ok (.getfield 66, 3) := by decide +kernel
theorem dX1_burnDown_28 : decode cX1_burnDown 28 = .ok (.iload_n 2, 1) := by decide +kernel
theorem dX1_burnDown_29 : decode cX1_burnDown 29 = .ok (.iconst 3, 1) := by decide +kernel
theorem dX1_burnDown_30 : decode cX1_burnDown 30 = .ok (.iastore, 1) := by decide +kernel
theorem dX1_burnDown_31 : decode cX1_burnDown 31 = .ok (.goto 39, 3) := by decide +kernel
theorem dX1_burnDown_34 : decode cX1_burnDown 34 = .ok (.aload_n 0, 1) := by decide +kernel
theorem dX1_burnDown_35 : decode cX1_burnDown 35 = .ok (.getfield 34, 3) := by decide +kernel
theorem dX1_burnDown_38 : decode cX1_burnDown 38 = .ok (.aload_n 0, 1) := by decide +kernel
theorem dX1_burnDown_39 : decode cX1_burnDown 39 = .ok (.getfield 9, 3) := by decide +kernel
theorem dX1_burnDown_42 : decode cX1_burnDown 42 = .ok (.iload_n 2, 1) := by decide +kernel
theorem dX1_burnDown_43 : decode cX1_burnDown 43 = .ok (.iaload, 1) := by decide +kernel
theorem dX1_burnDown_44 : decode cX1_burnDown 44 = .ok (.if_icmp .le 26, 3) := by decide +kernel
theorem dX1_burnDown_47 : decode cX1_burnDown 47 = .ok (.aload_n 0, 1) := by decide +kernel
theorem dX1_burnDown_48 : decode cX1_burnDown 48 = .ok (.iload_n 2, 1) := by decide +kernel
theorem dX1_burnDown_49 : decode cX1_burnDown 49 = .ok (.iconst 2, 1) := by decide +kernel
theorem dX1_burnDown_50 : decode cX1_burnDown 50 = .ok (.invokevirtual 113, 3) := by decide +kernel
theorem dX1_burnDown_53 : decode cX1_burnDown 53 = .ok (.bipush 10, 2) := by decide +kernel
theorem dX1_burnDown_55 : decode cX1_burnDown 55 = .ok (.irem, 1) := by decide +kernel
theorem dX1_burnDown_56 : decode cX1_burnDown 56 = .ok (.aload_n 0, 1) := by decide +kernel
theorem dX1_burnDown_57 : decode cX1_burnDown 57 = .ok (.getfield 34, 3) := by decide +kernel
theorem dX1_burnDown_60 : decode cX1_burnDown 60 = .ok (.if_icmp .ge 10, 3) := by decide +kernel
theorem dX1_burnDown_63 : decode cX1_burnDown 63 = .ok (.aload_n 1, 1) := by decide +kernel
theorem dX1_burnDown_64 : decode cX1_burnDown 64 = .ok (.getfield 66, 3) := by decide +kernel
theorem dX1_burnDown_67 : decode cX1_burnDown 67 = .ok (.iload_n 2, 1) := by decide +kernel
theorem dX1_burnDown_68 : decode cX1_burnDown 68 = .ok (.iconst 5, 1) := by decide +kernel
theorem dX1_burnDown_69 : decode cX1_burnDown 69 = .ok (.iastore, 1) := by decide +kernel
theorem dX1_burnDown_70 : decode cX1_burnDown 70 = .ok (.return_, 1) := by decide +kernel
theorem dX1_blowStrip_0 : decode cX1_blowStrip 0 = .ok (.aload_n 1, 1) := by decide +kernel
theorem dX1_blowStrip_1 : decode cX1_blowStrip 1 = .ok (.getfield 47, 3) := by decide +kernel
theorem dX1_blowStrip_4 : decode cX1_blowStrip 4 = .ok (.getfield 53, 3) := by decide +kernel
theorem dX1_blowStrip_7 : decode cX1_blowStrip 7 = .ok (.iload_n 3, 1) := by decide +kernel
theorem dX1_blowStrip_8 : decode cX1_blowStrip 8 = .ok (.iaload, 1) := by decide +kernel
theorem dX1_blowStrip_9 : decode cX1_blowStrip 9 = .ok (.aload_n 2, 1) := by decide +kernel
theorem dX1_blowStrip_10 : decode cX1_blowStrip 10 = .ok (.getfield 58, 3) := by decide +kernel
theorem dX1_blowStrip_13 : decode cX1_blowStrip 13 = .ok (.imul, 1) := by decide +kernel
theorem dX1_blowStrip_14 : decode cX1_blowStrip 14 = .ok (.istore 4, 2) := by decide +kernel
theorem dX1_blowStrip_16 : decode cX1_blowStrip 16 = .ok (.aload_n 1, 1) := by decide +kernel
theorem dX1_blowStrip_17 : decode cX1_blowStrip 17 = .ok (.getfield 47, 3) := by decide +kernel
theorem dX1_blowStrip_20 : decode cX1_blowStrip 20 = .ok (.getfield 63, 3) := by decide +kernel
theorem dX1_blowStrip_23 : decode cX1_blowStrip 23 = .ok (.iload_n 3, 1) := by decide +kernel
theorem dX1_blowStrip_24 : decode cX1_blowStrip 24 = .ok (.iaload, 1) := by decide +kernel
theorem dX1_blowStrip_25 : decode cX1_blowStrip 25 = .ok (.iconst 1, 1) := by decide +kernel
theorem dX1_blowStrip_26 : decode cX1_blowStrip 26 = .ok (.iadd, 1) := by decide +kernel
theorem dX1_blowStrip_27 : decode cX1_blowStrip 27 = .ok (.aload_n 2, 1) := by decide +kernel
theorem dX1_blowStrip_28 : decode cX1_blowStrip 28 = .ok (.getfield 58, 3) := by decide +kernel
theorem dX1_blowStrip_31 : decode cX1_blowStrip 31 = .ok (.imul, 1) := by decide +kernel
theorem dX1_blowStrip_32 : decode cX1_blowStrip 32 = .ok (.istore 5, 2) := by decide +kernel
theorem dX1_blowStrip_34 : decode cX1_blowStrip 34 = .ok (.iload 4, 2) := by decide +kernel
theorem dX1_blowStrip_36 : decode cX1_blowStrip 36 = .ok (.istore 6, 2) := by decide +kernel
theorem dX1_blowStrip_38 : decode cX1_blowStrip 38 = .ok (.iload 6, 2) := by decide +kernel
theorem dX1_blowStrip_40 : decode cX1_blowStrip 40 = .ok (.iload 5, 2) := by decide +kernel
theorem dX1_blowStrip_42 : decode cX1_blowStrip 42 = .ok (.if_icmp .ge 134, 3) := by decide +kernel
theorem dX1_blowStrip_45 : decode cX1_blowStrip 45 = .ok (.aload_n 1, 1) := by decide +kernel
theorem dX1_blowStrip_46 : decode cX1_blowStrip 46 = .ok (.getfield 147, 3) := by decide +kernel
theorem dX1_blowStrip_49 : decode cX1_blowStrip 49 = .ok (.iload 6, 2) := by decide +kernel
theorem dX1_blowStrip_51 : decode cX1_blowStrip 51 = .ok (.iaload, 1) := by decide +kernel
theorem dX1_blowStrip_52 : decode cX1_blowStrip 52 = .ok (.aload_n 0, 1) := by decide +kernel
theorem dX1_blowStrip_53 : decode cX1_blowStrip 53 = .ok (.getfield 9, 3) := by decide +kernel
theorem dX1_blowStrip_56 : decode cX1_blowStrip 56 = .ok (.iload 6, 2) := by decide +kernel
theorem dX1_blowStrip_58 : decode cX1_blowStrip 58 = .ok (.iaload, 1) := by decide +kernel
theorem dX1_blowStrip_59 : decode cX1_blowStrip 59 = .ok (.iadd, 1) := by decide +kernel
theorem dX1_blowStrip_60 : decode cX1_blowStrip 60 = .ok (.istore 7, 2) := by decide +kernel
theorem dX1_blowStrip_62 : decode cX1_blowStrip 62 = .ok (.aload_n 0, 1) := by decide +kernel
theorem dX1_blowStrip_63 : decode cX1_blowStrip 63 = .ok (.getfield 31, 3) := by decide +kernel
theorem dX1_blowStrip_66 : decode cX1_blowStrip 66 = .ok (.ifCond .le 10, 3) := by decide +kernel
theorem dX1_blowStrip_69 : decode cX1_blowStrip 69 = .ok (.iload 7, 2) := by decide +kernel
theorem dX1_blowStrip_71 : decode cX1_blowStrip 71 = .ok (.iconst 2, 1) := by decide +kernel
theorem dX1_blowStrip_72 : decode cX1_blowStrip 72 = .ok (.idiv, 1) := by decide +kernel
theorem dX1_blowStrip_73 : decode cX1_blowStrip 73 = .ok (.goto 4, 3) := by decide +kernel
theorem dX1_blowStrip_76 : decode cX1_blowStrip 76 = .ok (.iconst 0, 1) := by decide +kernel
theorem dX1_blowStrip_77 : decode cX1_blowStrip 77 = .ok (.istore 8, 2) := by decide +kernel
theorem dX1_blowStrip_79 : decode cX1_blowStrip 79 = .ok (.iload 7, 2) := by decide +kernel
theorem dX1_blowStrip_81 : decode cX1_blowStrip 81 = .ok (.iload 8, 2) := by decide +kernel
theorem dX1_blowStrip_83 : decode cX1_blowStrip 83 = .ok (.isub, 1) := by decide +kernel
theorem dX1_blowStrip_84 : decode cX1_blowStrip 84 = .ok (.istore 9, 2) := by decide +kernel
theorem dX1_blowStrip_86 : decode cX1_blowStrip 86 = .ok (.aload_n 0, 1) := by decide +kernel
theorem dX1_blowStrip_87 : decode cX1_blowStrip 87 = .ok (.getfield 18, 3) := by decide +kernel
theorem dX1_blowStrip_90 : decode cX1_blowStrip 90 = .ok (.iload 6, 2) := by decide +kernel
theorem dX1_blowStrip_92 : decode cX1_blowStrip 92 = .ok (.dup2, 1) := by decide +kernel
theorem dX1_blowStrip_93 : decode cX1_blowStrip 93 = .ok (.iaload, 1) := by decide +kernel
theorem dX1_blowStrip_94 : decode cX1_blowStrip 94 = .ok (.iload 9, 2) := by decide +kernel
theorem dX1_blowStrip_96 : decode cX1_blowStrip 96 = .ok (.iload 9, 2) := by decide +kernel
theorem dX1_blowStrip_98 : decode cX1_blowStrip 98 = .ok (.iconst 4, 1) := by decide +kernel
theorem dX1_blowStrip_99 : decode cX1_blowStrip 99 = .ok (.idiv, 1) := by decide +kernel
theorem dX1_blowStrip_100 : decode cX1_blowStrip 100 = .ok (.isub, 1) := by decide +kernel
theorem dX1_blowStrip_101 : decode cX1_blowStrip 101 = .ok (.iadd, 1) := by decide +kernel
theorem dX1_blowStrip_102 : decode cX1_blowStrip 102 = .ok (.iastore, 1) := by decide +kernel
theorem dX1_blowStrip_103 : decode cX1_blowStrip 103 = .ok (.iload 8, 2) := by decide +kernel
theorem dX1_blowStrip_105 : decode cX1_blowStrip 105 = .ok (.ifCond .le 17, 3) := by decide +kernel
theorem dX1_blowStrip_108 : decode cX1_blowStrip 108 = .ok (.aload_n 2, 1) := by decide +kernel
theorem dX1_blowStrip_109 : decode cX1_blowStrip 109 = .ok (.iload 6, 2) := by decide +kernel
theorem dX1_blowStrip_111 : decode cX1_blowStrip 111 = .ok (.aload_n 0, 1) := by decide +kernel
theorem dX1_blowStrip_112 : decode cX1_blowStrip 112 = .ok (.getfield 28, 3) := by decide +kernel
theorem dX1_blowStrip_115 : decode cX1_blowStrip 115 = .ok (.iconst 1, 1) := by decide +kernel
theorem dX1_blowStrip_116 : decode cX1_blowStrip 116 = .ok (.invokevirtual 100, 3) := by decide +kernel
theorem dX1_blowStrip_119 : decode cX1_blowStrip 119 = .ok (.goto 4, 3) := by decide +kernel
theorem dX1_blowStrip_122 : decode cX1_blowStrip 122 = .ok (.iconst (-1), 1) := by decide +kernel
theorem dX1_blowStrip_123 : decode cX1_blowStrip 123 = .ok (.istore 10, 2) := by decide +kernel
theorem dX1_blowStrip_125 : decode cX1_blowStrip 125 = .ok (.iload 10, 2) := by decide +kernel
theorem dX1_blowStrip_127 : decode cX1_blowStrip 127 = .ok (.ifCond .lt 43, 3) := by decide +kernel
theorem dX1_blowStrip_130 : decode cX1_blowStrip 130 = .ok (.aload_n 0, 1) := by decide +kernel
theorem dX1_blowStrip_131 : decode cX1_blowStrip 131 = .ok (.getfield 18, 3) := by decide +kernel
theorem dX1_blowStrip_134 : decode cX1_blowStrip 134 = .ok (.iload 10, 2) := by decide +kernel
theorem dX1_blowStrip_136 : decode cX1_blowStrip 136 = .ok (.dup2, 1) := by decide +kernel
theorem dX1_blowStrip_137 : decode cX1_blowStrip 137 = .ok (.iaload, 1) := by decide +kernel
theorem dX1_blowStrip_138 : decode cX1_blowStrip 138 = .ok (.iload 8, 2) := by decide +kernel
theorem dX1_blowStrip_140 : decode cX1_blowStrip 140 = .ok (.iadd, 1) := by decide +kernel
theorem dX1_blowStrip_141 : decode cX1_blowStrip 141 = .ok (.iastore, 1) := by decide +kernel
theorem dX1_blowStrip_142 : decode cX1_blowStrip 142 = .ok (.aload_n 1, 1) := by decide +kernel
theorem dX1_blowStrip_143 : decode cX1_blowStrip 143 = .ok (.dup, 1) := by decide +kernel
theorem dX1_blowStrip_144 : decode cX1_blowStrip 144 = .ok (.getfield 89, 3) := by decide +kernel
theorem dX1_blowStrip_147 : decode cX1_blowStrip 147 = .ok (.iload 10, 2) := by decide +kernel
theorem dX1_blowStrip_149 : decode cX1_blowStrip 149 = .ok (.iload 4, 2) := by decide +kernel
theorem dX1_blowStrip_151 : decode cX1_blowStrip 151 = .ok (.if_icmp .lt 10, 3) := by decide +kernel
theorem dX1_blowStrip_154 : decode cX1_blowStrip 154 = .ok (.iload 10, 2) := by decide +kernel
theorem dX1_blowStrip_156 : decode cX1_blowStrip 156 = .ok (.iload 5, 2) := by decide +kernel
theorem dX1_blowStrip_158 : decode cX1_blowStrip 158 = .ok (.if_icmp .lt 7, 3) := by decide +kernel
theorem dX1_blowStrip_161 : decode cX1_blowStrip 161 = .ok (.iconst 1, 1) := by decide +kernel
theorem dX1_blowStrip_162 : decode cX1_blowStrip 162 = .ok (.goto 4, 3) := by decide +kernel
theorem dX1_blowStrip_165 : decode cX1_blowStrip 165 = .ok (.iconst 0, 1) := by decide +kernel
theorem dX1_blowStrip_166 : decode cX1_blowStrip 166 = .ok (.iadd, 1) := by decide +kernel
theorem dX1_blowStrip_167 : decode cX1_blowStrip 167 = .ok (.putfield 89, 3) := by decide +kernel
theorem dX1_blowStrip_170 : decode cX1_blowStrip 170 = .ok (.iinc 6 1, 3) := by decide +kernel
theorem dX1_blowStrip_173 : decode cX1_blowStrip 173 = .ok (.goto (-135), 3) := by decide +kernel
theorem dX1_blowStrip_176 : decode cX1_blowStrip 176 = .ok (.return_, 1) := by decide +kernel
theorem dX1_layDownSmoke_0 : decode cX1_layDownSmoke 0 = .ok (.iconst 0, 1) := by decide +kernel
theorem dX1_layDownSmoke_1 : decode cX1_layDownSmoke 1 = .ok (.istore_n 3, 1) := by decide +kernel
theorem dX1_layDownSmoke_2 : decode cX1_layDownSmoke 2 = .ok (.iload_n 3, 1) := by decide +kernel
theorem dX1_layDownSmoke_3 : decode cX1_layDownSmoke 3 = .ok (.aload_n 2, 1) := by decide +kernel
theorem dX1_layDownSmoke_4 : decode cX1_layDownSmoke 4 = .ok (.getfield 123, 3) := by decide +kernel
theorem dX1_layDownSmoke_7 : decode cX1_layDownSmoke 7 = .ok (.if_icmp .ge 28, 3) := by decide +kernel
theorem dX1_layDownSmoke_10 : decode cX1_layDownSmoke 10 = .ok (.aload_n 1, 1) := by decide +kernel
theorem dX1_layDownSmoke_11 : decode cX1_layDownSmoke 11 = .ok (.getfield 147, 3) := by decide +kernel
theorem dX1_layDownSmoke_14 : decode cX1_layDownSmoke 14 = .ok (.iload_n 3, 1) := by decide +kernel
theorem dX1_layDownSmoke_15 : decode cX1_layDownSmoke 15 = .ok (.aload_n 0, 1) := by decide +kernel
theorem dX1_layDownSmoke_16 : decode cX1_layDownSmoke 16 = .ok (.getfield 18, 3) := by decide +kernel
theorem dX1_layDownSmoke_19 : decode cX1_layDownSmoke 19 = .ok (.iload_n 3, 1) := by decide +kernel
theorem dX1_layDownSmoke_20 : decode cX1_layDownSmoke 20 = .ok (.iaload, 1) := by decide +kernel
theorem dX1_layDownSmoke_21 : decode cX1_layDownSmoke 21 = .ok (.iastore, 1) := by decide +kernel
theorem dX1_layDownSmoke_22 : decode cX1_layDownSmoke 22 = .ok (.aload_n 0, 1) := by decide +kernel
theorem dX1_layDownSmoke_23 : decode cX1_layDownSmoke 23 = .ok (.getfield 18, 3) := by decide +kernel
theorem dX1_layDownSmoke_26 : decode cX1_layDownSmoke 26 = .ok (.iload_n 3, 1) := by decide +kernel
theorem dX1_layDownSmoke_27 : decode cX1_layDownSmoke 27 = .ok (.iconst 0, 1) := by decide +kernel
theorem dX1_layDownSmoke_28 : decode cX1_layDownSmoke 28 = .ok (.iastore, 1) := by decide +kernel
theorem dX1_layDownSmoke_29 : decode cX1_layDownSmoke 29 = .ok (.iinc 3 1, 3) := by decide +kernel
theorem dX1_layDownSmoke_32 : decode cX1_layDownSmoke 32 = .ok (.goto (-30), 3) := by decide +kernel
theorem dX1_layDownSmoke_35 : decode cX1_layDownSmoke 35 = .ok (.return_, 1) := by decide +kernel
theorem dX2_init_0 : decode cX2_init 0 = .ok (.aload_n 0, 1) := by decide +kernel
theorem dX2_init_1 : decode cX2_init 1 = .ok (.invokespecial 3, 3) := by decide +kernel
theorem dX2_init_4 : decode cX2_init 4 = .ok (.aload_n 0, 1) := by decide +kernel
theorem dX2_init_5 : decode cX2_init 5 = .ok (.sipush 256, 3) := by decide +kernel
theorem dX2_init_8 : decode cX2_init 8 = .ok (.newarray .int, 2) := by decide +kernel
theorem dX2_init_10 : decode cX2_init 10 = .ok (.putfield 9, 3) := by decide +kernel
theorem dX2_init_13 : decode cX2_init 13 = .ok (.aload_n 0, 1) := by decide +kernel
theorem dX2_init_14 : decode cX2_init 14 = .ok (.sipush 256, 3) := by decide +kernel
theorem dX2_init_17 : decode cX2_init 17 = .ok (.newarray .int, 2) := by decide +kernel
theorem dX2_init_19 : decode cX2_init 19 = .ok (.putfield 15, 3) := by decide +kernel
theorem dX2_init_22 : decode cX2_init 22 = .ok (.aload_n 0, 1) := by decide +kernel
theorem dX2_init_23 : decode cX2_init 23 = .ok (.sipush 256, 3) := by decide +kernel
theorem dX2_init_26 : decode cX2_init 26 = .ok (.newarray .int, 2) := by decide +kernel
theorem dX2_init_28 : decode cX2_init 28 = .ok (.putfield 18, 3) := by decide +kernel
theorem dX2_init_31 : decode cX2_init 31 = .ok (.aload_n 0, 1) := by decide +kernel
theorem dX2_init_32 : decode cX2_init 32 = .ok (.sipush 256, 3) := by decide +kernel
theorem dX2_init_35 : decode cX2_init 35 = .ok (.newarray .int, 2) := by decide +kernel
theorem dX2_init_37 : decode cX2_init 37 = .ok (.putfield 21, 3) := by decide +kernel
theorem dX2_init_40 : decode cX2_init 40 = .ok (.aload_n 0, 1) := by decide +kernel
theorem dX2_init_41 : decode cX2_init 41 = .ok (.iconst 2, 1) := by decide +kernel
theorem dX2_init_42 : decode cX2_init 42 = .ok (.putfield 24, 3) := by decide +kernel
theorem dX2_init_45 : decode cX2_init 45 = .ok (.aload_n 0, 1) := by decide +kernel
theorem dX2_init_46 : decode cX2_init 46 = .ok (.iconst 2, 1) := by decide +kernel
theorem dX2_init_47 : decode cX2_init 47 = .ok (.putfield 28, 3) := by decide +kernel
theorem dX2_init_50 : decode cX2_init 50 = .ok (.aload_n 0, 1) := by decide +kernel
theorem dX2_init_51 : decode cX2_init 51 = .ok (.iconst 4, 1) := by decide +kernel
theorem dX2_init_52 : decode cX2_init 52 = .ok (.putfield 31, 3) := by decide +kernel
theorem dX2_init_55 : decode cX2_init 55 = .ok (.aload_n 0, 1) := by decide +kernel
theorem dX2_init_56 : decode cX2_init 56 = .ok (.iconst 0, 1) := by decide +kernel
theorem dX2_init_57 : decode cX2_init 57 = .ok (.putfield 34, 3) := by decide +kernel
theorem dX2_init_60 : decode cX2_init 60 = .ok (.return_, 1) := by decide +kernel
theorem dX2_has_0 : decode cX2_has 0 = .ok (.iload_n 1, 1) := by decide +kernel
theorem dX2_has_1 : decode cX2_has 1 = .ok (.ifCond .lt 15, 3) := by decide +kernel
theorem dX2_has_4 : decode cX2_has 4 = .ok (.iload_n 1, 1) := by decide +kernel
theorem dX2_has_5 : decode cX2_has 5 = .ok (.aload_n 0, 1) := by decide +kernel
theorem dX2_has_6 : decode cX2_has 6 = .ok (.getfield 31, 3) := by decide +kernel
theorem dX2_has_9 : decode cX2_has 9 = .ok (.if_icmp .ge 7, 3) := by decide +kernel
theorem dX2_has_12 : decode cX2_has 12 = .ok (.iconst 1, 1) := by decide +kernel
theorem dX2_has_13 : decode cX2_has 13 = .ok (.goto 4, 3) := by decide +kernel
theorem dX2_has_16 : decode cX2_has 16 = .ok (.iconst 0, 1) := by decide +kernel
theorem dX2_has_17 : decode cX2_has 17 = .ok (.ireturn, 1) := by decide +kernel
theorem dX2_layOut_0 : decode cX2_layOut 0 = .ok (.aload_n 0, 1) := by decide +kernel
theorem dX2_layOut_1 : decode cX2_layOut 1 = .ok (.iload_n 1, 1) := by decide +kernel
theorem dX2_layOut_2 : decode cX2_layOut 2 = .ok (.putfield 24, 3) := by decide +kernel
theorem dX2_layOut_5 : decode cX2_layOut 5 = .ok (.aload_n 0, 1) := by decide +kernel
theorem dX2_layOut_6 : decode cX2_layOut 6 = .ok (.iload_n 2, 1) := by decide +kernel
theorem dX2_layOut_7 : decode cX2_layOut 7 = .ok (.putfield 28, 3) := by decide +kernel
theorem dX2_layOut_10 : decode cX2_layOut 10 = .ok (.aload_n 0, 1) := by decide +kernel
theorem dX2_layOut_11 : decode cX2_layOut 11 = .ok (.iload_n 1, 1) := by decide +kernel
theorem dX2_layOut_12 : decode cX2_layOut 12 = .ok (.iload_n 2, 1) := by decide +kernel
theorem dX2_layOut_13 : decode cX2_layOut 13 = .ok (.imul, 1) := by decide +kernel
theorem dX2_layOut_14 : decode cX2_layOut 14 = .ok (.putfield 31, 3) := by decide +kernel
theorem dX2_layOut_17 : decode cX2_layOut 17 = .ok (.iconst 0, 1) := by decide +kernel
theorem dX2_layOut_18 : decode cX2_layOut 18 = .ok (.istore_n 3, 1) := by decide +kernel
theorem dX2_layOut_19 : decode cX2_layOut 19 = .ok (.iload_n 3, 1) := by decide +kernel
theorem dX2_layOut_20 : decode cX2_layOut 20 = .ok (.aload_n 0, 1) := by decide +kernel
theorem dX2_layOut_21 : decode cX2_layOut 21 = .ok (.getfield 31, 3) := by decide +kernel
theorem dX2_layOut_24 : decode cX2_layOut 24 = .ok (.if_icmp .ge 18, 3) := by decide +kernel
theorem dX2_layOut_27 : decode cX2_layOut 27 = .ok (.aload_n 0, 1) := by decide +kernel
theorem dX2_layOut_28 : decode cX2_layOut 28 = .ok (.iload_n 3, 1) := by decide +kernel
theorem dX2_layOut_29 : decode cX2_layOut 29 = .ok (.iconst 0, 1) := by decide +kernel
theorem dX2_layOut_30 : decode cX2_layOut 30 = .ok (.iconst 0, 1) := by decide +kernel
theorem dX2_layOut_31 : decode cX2_layOut 31 = .ok (.iconst 0, 1) := by decide +kernel
theorem dX2_layOut_32 : decode cX2_layOut 32 = .ok (.iconst 0, 1) := by decide +kernel
theorem dX2_layOut_33 : decode cX2_layOut 33 = .ok (.invokevirtual 37, 3) := by decide +kernel
theorem dX2_layOut_36 : decode cX2_layOut 36 = .ok (.iinc 3 1, 3) := by decide +kernel
theorem dX2_layOut_39 : decode cX2_layOut 39 = .ok (.goto (-20), 3) := by decide +kernel
theorem dX2_layOut_42 : decode cX2_layOut 42 = .ok (.return_, 1) := by decide +kernel
theorem dX2_tell_0 : decode cX2_tell 0 = .ok (.aload_n 0, 1) := by decide +kernel
theorem dX2_tell_1 : decode cX2_tell 1 = .ok (.getfield 9, 3) := by decide +kernel
theorem dX2_tell_4 : decode cX2_tell 4 = .ok (.iload_n 1, 1) := by decide +kernel
theorem dX2_tell_5 : decode cX2_tell 5 = .ok (.iload_n 2, 1) := by decide +kernel
theorem dX2_tell_6 : decode cX2_tell 6 = .ok (.iastore, 1) := by decide +kernel
theorem dX2_tell_7 : decode cX2_tell 7 = .ok (.aload_n 0, 1) := by decide +kernel
theorem dX2_tell_8 : decode cX2_tell 8 = .ok (.getfield 15, 3) := by decide +kernel
theorem dX2_tell_11 : decode cX2_tell 11 = .ok (.iload_n 1, 1) := by decide +kernel
theorem dX2_tell_12 : decode cX2_tell 12 = .ok (.iload_n 3, 1) := by decide +kernel
theorem dX2_tell_13 : decode cX2_tell 13 = .ok (.iastore, 1) := by decide +kernel
theorem dX2_tell_14 : decode cX2_tell 14 = .ok (.aload_n 0, 1) := by decide +kernel
theorem dX2_tell_15 : decode cX2_tell 15 = .ok (.getfield 18, 3) := by decide +kernel
theorem dX2_tell_18 : decode cX2_tell 18 = .ok (.iload_n 1, 1) := by decide +kernel
theorem dX2_tell_19 : decode cX2_tell 19 = .ok (.iload 4, 2) := by decide +kernel
theorem dX2_tell_21 : decode cX2_tell 21 = .ok (.iastore, 1) := by decide +kernel
theorem dX2_tell_22 : decode cX2_tell 22 = .ok (.aload_n 0, 1) := by decide +kernel
theorem dX2_tell_23 : decode cX2_tell 23 = .ok (.getfield 21, 3) := by decide +kernel
theorem dX2_tell_26 : decode cX2_tell 26 = .ok (.iload_n 1, 1) := by decide +kernel
theorem dX2_tell_27 : decode cX2_tell 27 = .ok (.iload 5, 2) := by decide +kernel
theorem dX2_tell_29 : decode cX2_tell 29 = .ok (.iastore, 1) := by decide +kernel
theorem dX2_tell_30 : decode cX2_tell 30 = .ok (.aload_n 0, 1) := by decide +kernel
theorem dX2_tell_31 : decode cX2_tell 31 = .ok (.dup, 1) := by decide +kernel
theorem dX2_tell_32 : decode cX2_tell 32 = .ok (.getfield 34, 3) := by decide +kernel
theorem dX2_tell_35 : decode cX2_tell 35 = .ok (.iconst 1, 1) := by decide +kernel
theorem dX2_tell_36 : decode cX2_tell 36 = .ok (.iadd, 1) := by decide +kernel
theorem dX2_tell_37 : decode cX2_tell 37 = .ok (.putfield 34, 3) := by decide +kernel
theorem dX2_tell_40 : decode cX2_tell 40 = .ok (.return_, 1) := by decide +kernel
theorem dX2_off_0 : decode cX2_off 0 = .ok (.iload_n 1, 1) := by decide +kernel
theorem dX2_off_1 : decode cX2_off 1 = .ok (.aload_n 0, 1) := by decide +kernel
theorem dX2_off_2 : decode cX2_off 2 = .ok (.getfield 28, 3) := by decide +kernel
theorem dX2_off_5 : decode cX2_off 5 = .ok (.idiv, 1) := by decide +kernel
theorem dX2_off_6 : decode cX2_off 6 = .ok (.iload_n 3, 1) := by decide +kernel
theorem dX2_off_7 : decode cX2_off 7 = .ok (.getstatic 41, 3) := by decide +kernel
theorem dX2_off_10 : decode cX2_off 10 = .ok (.iload_n 2, 1) := by decide +kernel
theorem dX2_off_11 : decode cX2_off 11 = .ok (.iaload, 1) := by decide +kernel
theorem dX2_off_12 : decode cX2_off 12 = .ok (.imul, 1) := by decide +kernel
theorem dX2_off_13 : decode cX2_off 13 = .ok (.iadd, 1) := by decide +kernel
theorem dX2_off_14 : decode cX2_off 14 = .ok (.istore 4, 2) := by decide +kernel
theorem dX2_off_16 : decode cX2_off 16 = .ok (.iload_n 1, 1) := by decide +kernel
theorem dX2_off_17 : decode cX2_off 17 = .ok (.aload_n 0, 1) := by decide +kernel
theorem dX2_off_18 : decode cX2_off 18 = .ok (.getfield 28, 3) := by decide +kernel
theorem dX2_off_21 : decode cX2_off 21 = .ok (.irem, 1) := by decide +kernel
theorem dX2_off_22 : decode cX2_off 22 = .ok (.iload_n 3, 1) := by decide +kernel
theorem dX2_off_23 : decode cX2_off 23 = .ok (.getstatic 44, 3) := by decide +kernel
theorem dX2_off_26 : decode cX2_off 26 = .ok (.iload_n 2, 1) := by decide +kernel
theorem dX2_off_27 : decode cX2_off 27 = .ok (.iaload, 1) := by decide +kernel
theorem dX2_off_28 : decode cX2_off 28 = .ok (.imul, 1) := by decide +kernel
theorem dX2_off_29 : decode cX2_off 29 = .ok (.iadd, 1) := by decide +kernel
theorem dX2_off_30 : decode cX2_off 30 = .ok (.istore 5, 2) := by decide +kernel
theorem dX2_off_32 : decode cX2_off 32 = .ok (.iload 4, 2) := by decide +kernel
theorem dX2_off_34 : decode cX2_off 34 = .ok (.ifCond .lt 26, 3) := by decide +kernel
theorem dX2_off_37 : decode cX2_off 37 = .ok (.iload 4, 2) := by decide +kernel
theorem dX2_off_39 : decode cX2_off 39 = .ok (.aload_n 0, 1) := by decide +kernel
theorem dX2_off_40 : decode cX2_off 40 = .ok (.getfield 24, 3) := by decide +kernel
theorem dX2_off_43 : decode cX2_off 43 = .ok (.if_icmp .ge 17, 3) := by decide +kernel
theorem dX2_off_46 : decode cX2_off 46 = .ok (.iload 5, 2) := by decide +kernel
theorem dX2_off_48 : decode cX2_off 48 = .ok (.ifCond .lt 12, 3) := by decide +kernel
theorem dX2_off_51 : decode cX2_off 51 = .ok (.iload 5, 2) := by decide +kernel
theorem dX2_off_53 : decode cX2_off 53 = .ok (.aload_n 0, 1) := by decide +kernel
theorem dX2_off_54 : decode cX2_off 54 = .ok (.getfield 28, 3) := by decide +kernel
theorem dX2_off_57 : decode cX2_off 57 = .ok (.if_icmp .lt 5, 3) := by decide +kernel
theorem dX2_off_60 : decode cX2_off 60 = .ok (.iconst (-1), 1) := by decide +kernel
theorem dX2_off_61 : decode cX2_off 61 = .ok (.ireturn, 1) := by decide +kernel
theorem dX2_off_62 : decode cX2_off 62 = .ok (.iload 4, 2) := by decide +kernel
theorem dX2_off_64 : decode cX2_off 64 = .ok (.aload_n 0, 1) := by decide +kernel
theorem dX2_off_65 : decode cX2_off 65 = .ok (.getfield 28, 3) := by decide +kernel
theorem dX2_off_68 : decode cX2_off 68 = .ok (.imul, 1) := by decide +kernel
theorem dX2_off_69 : decode cX2_off 69 = .ok (.iload 5, 2) := by decide +kernel
theorem dX2_off_71 : decode cX2_off 71 = .ok (.iadd, 1) := by decide +kernel
theorem dX2_off_72 : decode cX2_off 72 = .ok (.ireturn, 1) := by decide +kernel
theorem dX2_nearer_0 : decode cX2_nearer 0 = .ok (.iload_n 1, 1) := by decide +kernel
theorem dX2_nearer_1 : decode cX2_nearer 1 = .ok (.aload_n 0, 1) := by decide +kernel
theorem dX2_nearer_2 : decode cX2_nearer 2 = .ok (.getfield 28, 3) := by decide +kernel
theorem dX2_nearer_5 : decode cX2_nearer 5 = .ok (.idiv, 1) := by decide +kernel
theorem dX2_nearer_6 : decode cX2_nearer 6 = .ok (.istore_n 3, 1) := by decide +kernel
theorem dX2_nearer_7 : decode cX2_nearer 7 = .ok (.iload_n 1, 1) := by decide +kernel
theorem dX2_nearer_8 : decode cX2_nearer 8 = .ok (.aload_n 0, 1) := by decide +kernel
theorem dX2_nearer_9 : decode cX2_nearer 9 = .ok (.getfield 28, 3) := by decide +kernel
theorem dX2_nearer_12 : decode cX2_nearer 12 = .ok (.irem, 1) := by decide +kernel
theorem dX2_nearer_13 : decode cX2_nearer 13 = .ok (.istore 4, 2) := by decide +kernel
theorem dX2_nearer_15 : decode cX2_nearer 15 = .ok (.iload_n 3, 1) := by decide +kernel
theorem dX2_nearer_16 : decode cX2_nearer 16 = .ok (.iload_n 2, 1) := by decide +kernel
theorem dX2_nearer_17 : decode cX2_nearer 17 = .ok (.aload_n 0, 1) := by decide +kernel
theorem dX2_nearer_18 : decode cX2_nearer 18 = .ok (.getfield 28, 3) := by decide +kernel
theorem dX2_nearer_21 : decode cX2_nearer 21 = .ok (.idiv, 1) := by decide +kernel
theorem dX2_nearer_22 : decode cX2_nearer 22 = .ok (.iload_n 3, 1) := by decide +kernel
theorem dX2_nearer_23 : decode cX2_nearer 23 = .ok (.invokestatic 47, 3) := by decide +kernel
theorem dX2_nearer_26 : decode cX2_nearer 26 = .ok (.iadd, 1) := by decide +kernel
theorem dX2_nearer_27 : decode cX2_nearer 27 = .ok (.istore_n 3, 1) := by decide +kernel
theorem dX2_nearer_28 : decode cX2_nearer 28 = .ok (.iload 4, 2) := by decide +kernel
theorem dX2_nearer_30 : decode cX2_nearer 30 = .ok (.iload_n 2, 1) := by decide +kernel
theorem dX2_nearer_31 : decode cX2_nearer 31 = .ok (.aload_n 0, 1) := by decide +kernel
theorem dX2_nearer_32 : decode cX2_nearer 32 = .ok (.getfield 28, 3) := by decide +kernel
theorem dX2_nearer_35 : decode cX2_nearer 35 = .ok (.irem, 1) := by decide +kernel
theorem dX2_nearer_36 : decode cX2_nearer 36 = .ok (.iload 4, 2) := by decide +kernel
theorem dX2_nearer_38 : decode cX2_nearer 38 = .ok (.invokestatic 47, 3) := by decide +kernel
theorem dX2_nearer_41 : decode cX2_nearer 41 = .ok (.iadd, 1) := by decide +kernel
theorem dX2_nearer_42 : decode cX2_nearer 42 = .ok (.istore 4, 2) := by decide +kernel
theorem dX2_nearer_44 : decode cX2_nearer 44 = .ok (.iload_n 3, 1) := by decide +kernel
theorem dX2_nearer_45 : decode cX2_nearer 45 = .ok (.aload_n 0, 1) := by decide +kernel
theorem dX2_nearer_46 : decode cX2_nearer 46 = .ok (.getfield 28, 3) := by decide +kernel
theorem dX2_nearer_49 : decode cX2_nearer 49 = .ok (.imul, 1) := by decide +kernel
theorem dX2_nearer_50 : decode cX2_nearer 50 = .ok (.iload 4, 2) := by decide +kernel
theorem dX2_nearer_52 : decode cX2_nearer 52 = .ok (.iadd, 1) := by decide +kernel
theorem dX2_nearer_53 : decode cX2_nearer 53 = .ok (.ireturn, 1) := by decide +kernel
theorem dX3_init_0 : decode cX3_init 0 = .ok (.aload_n 0, 1) := by decide +kernel
theorem dX3_init_1 : decode cX3_init 1 = .ok (.invokespecial 3, 3) := by decide +kernel
theorem dX3_init_4 : decode cX3_init 4 = .ok (.aload_n 0, 1) := by decide +kernel
theorem dX3_init_5 : decode cX3_init 5 = .ok (.bipush 20, 2) := by decide +kernel
theorem dX3_init_7 : decode cX3_init 7 = .ok (.newarray .int, 2) := by decide +kernel
theorem dX3_init_9 : decode cX3_init 9 = .ok (.putfield 9, 3) := by decide +kernel
theorem dX3_init_12 : decode cX3_init 12 = .ok (.aload_n 0, 1) := by decide +kernel
theorem dX3_init_13 : decode cX3_init 13 = .ok (.bipush 20, 2) := by decide +kernel
theorem dX3_init_15 : decode cX3_init 15 = .ok (.newarray .int, 2) := by decide +kernel
theorem dX3_init_17 : decode cX3_init 17 = .ok (.putfield 15, 3) := by decide +kernel
theorem dX3_init_20 : decode cX3_init 20 = .ok (.aload_n 0, 1) := by decide +kernel
theorem dX3_init_21 : decode cX3_init 21 = .ok (.iconst 0, 1) := by decide +kernel
theorem dX3_init_22 : decode cX3_init 22 = .ok (.putfield 18, 3) := by decide +kernel
theorem dX3_init_25 : decode cX3_init 25 = .ok (.return_, 1) := by decide +kernel
theorem dX3_add_0 : decode cX3_add 0 = .ok (.aload_n 0, 1) := by decide +kernel
theorem dX3_add_1 : decode cX3_add 1 = .ok (.getfield 9, 3) := by decide +kernel
theorem dX3_add_4 : decode cX3_add 4 = .ok (.aload_n 0, 1) := by decide +kernel
theorem dX3_add_5 : decode cX3_add 5 = .ok (.getfield 18, 3) := by decide +kernel
theorem dX3_add_8 : decode cX3_add 8 = .ok (.iload_n 1, 1) := by decide +kernel
theorem dX3_add_9 : decode cX3_add 9 = .ok (.iastore, 1) := by decide +kernel
theorem dX3_add_10 : decode cX3_add 10 = .ok (.aload_n 0, 1) := by decide +kernel
theorem dX3_add_11 : decode cX3_add 11 = .ok (.getfield 15, 3) := by decide +kernel
theorem dX3_add_14 : decode cX3_add 14 = .ok (.aload_n 0, 1) := by decide +kernel
theorem dX3_add_15 : decode cX3_add 15 = .ok (.getfield 18, 3) := by decide +kernel
theorem dX3_add_18 : decode cX3_add 18 = .ok (.iload_n 2, 1) := by decide +kernel
theorem dX3_add_19 : decode cX3_add 19 = .ok (.iastore, 1) := by decide +kernel
theorem dX3_add_20 : decode cX3_add 20 = .ok (.aload_n 0, 1) := by decide +kernel
theorem dX3_add_21 : decode cX3_add 21 = .ok (.dup, 1) := by decide +kernel
theorem dX3_add_22 : decode cX3_add 22 = .ok (.getfield 18, 3) := by decide +kernel
theorem dX3_add_25 : decode cX3_add 25 = .ok (.iconst 1, 1) := by decide +kernel
theorem dX3_add_26 : decode cX3_add 26 = .ok (.iadd, 1) := by decide +kernel
theorem dX3_add_27 : decode cX3_add 27 = .ok (.putfield 18, 3) := by decide +kernel
theorem dX3_add_30 : decode cX3_add 30 = .ok (.return_, 1) := by decide +kernel
theorem dX3_kindle_0 : decode cX3_kindle 0 = .ok (.iconst 0, 1) := by decide +kernel
theorem dX3_kindle_1 : decode cX3_kindle 1 = .ok (.istore_n 2, 1) := by decide +kernel
theorem dX3_kindle_2 : decode cX3_kindle 2 = .ok (.iload_n 2, 1) := by decide +kernel
theorem dX3_kindle_3 : decode cX3_kindle 3 = .ok (.aload_n 0, 1) := by decide +kernel
theorem dX3_kindle_4 : decode cX3_kindle 4 = .ok (.getfield 18, 3) := by decide +kernel
theorem dX3_kindle_7 : decode cX3_kindle 7 = .ok (.if_icmp .ge 32, 3) := by decide +kernel
theorem dX3_kindle_10 : decode cX3_kindle 10 = .ok (.aload_n 0, 1) := by decide +kernel
theorem dX3_kindle_11 : decode cX3_kindle 11 = .ok (.getfield 15, 3) := by decide +kernel
theorem dX3_kindle_14 : decode cX3_kindle 14 = .ok (.iload_n 2, 1) := by decide +kernel
theorem dX3_kindle_15 : decode cX3_kindle 15 = .ok (.iaload, 1) := by decide +kernel
theorem dX3_kindle_16 : decode cX3_kindle 16 = .ok (.aload_n 1, 1) := by decide +kernel
theorem dX3_kindle_17 : decode cX3_kindle 17 = .ok (.getfield 22, 3) := by decide +kernel
theorem dX3_kindle_20 : decode cX3_kindle 20 = .ok (.if_icmp .ne 13, 3) := by decide +kernel
theorem dX3_kindle_23 : decode cX3_kindle 23 = .ok (.aload_n 1, 1) := by decide +kernel
theorem dX3_kindle_24 : decode cX3_kindle 24 = .ok (.aload_n 0, 1) := by decide +kernel
theorem dX3_kindle_25 : decode cX3_kindle 25 = .ok (.getfield 9, 3) := by decide +kernel
theorem dX3_kindle_28 : decode cX3_kindle 28 = .ok (.iload_n 2, 1) := by decide +kernel
theorem dX3_kindle_29 : decode cX3_kindle 29 = .ok (.iaload, 1) := by decide +kernel
theorem dX3_kindle_30 : decode cX3_kindle 30 = .ok (.invokevirtual 26, 3) := by decide +kernel
theorem dX3_kindle_33 : decode cX3_kindle 33 = .ok (.iinc 2 1, 3) := by decide +kernel
theorem dX3_kindle_36 : decode cX3_kindle 36 = .ok (.goto (-34), 3) := by decide +kernel
theorem dX3_kindle_39 : decode cX3_kindle 39 = .ok (.return_, 1) := by decide +kernel
theorem dX4_init_0 : decode cX4_init 0 = .ok (.aload_n 0, 1) := by decide +kernel
theorem dX4_init_1 : decode cX4_init 1 = .ok (.invokespecial 3, 3) := by decide +kernel
theorem dX4_init_4 : decode cX4_init 4 = .ok (.aload_n 0, 1) := by decide +kernel
theorem dX4_init_5 : decode cX4_init 5 = .ok (.sipush 256, 3) := by decide +kernel
theorem dX4_init_8 : decode cX4_init 8 = .ok (.newarray .int, 2) := by decide +kernel
theorem dX4_init_10 : decode cX4_init 10 = .ok (.putfield 9, 3) := by decide +kernel
theorem dX4_init_13 : decode cX4_init 13 = .ok (.aload_n 0, 1) := by decide +kernel
theorem dX4_init_14 : decode cX4_init 14 = .ok (.sipush 256, 3) := by decide +kernel
theorem dX4_init_17 : decode cX4_init 17 = .ok (.newarray .int, 2) := by decide +kernel
theorem dX4_init_19 : decode cX4_init 19 = .ok (.putfield 15, 3) := by decide +kernel
theorem dX4_init_22 : decode cX4_init 22 = .ok (.aload_n 0, 1) := by decide +kernel
theorem dX4_init_23 : decode cX4_init 23 = .ok (.sipush 256, 3) := by decide +kernel
theorem dX4_init_26 : decode cX4_init 26 = .ok (.newarray .int, 2) := by decide +kernel
theorem dX4_init_28 : decode cX4_init 28 = .ok (.putfield 18, 3) := by decide +kernel
theorem dX4_init_31 : decode cX4_init 31 = .ok (.aload_n 0, 1) := by decide +kernel
theorem dX4_init_32 : decode cX4_init 32 = .ok (.sipush 256, 3) := by decide +kernel
theorem dX4_init_35 : decode cX4_init 35 = .ok (.newarray .int, 2) := by decide +kernel
theorem dX4_init_37 : decode cX4_init 37 = .ok (.putfield 21, 3) := by decide +kernel
theorem dX4_init_40 : decode cX4_init 40 = .ok (.aload_n 0, 1) := by decide +kernel
theorem dX4_init_41 : decode cX4_init 41 = .ok (.sipush 256, 3) := by decide +kernel
theorem dX4_init_44 : decode cX4_init 44 = .ok (.newarray .int, 2) := by decide +kernel
theorem dX4_init_46 : decode cX4_init 46 = .ok (.putfield 24, 3) := by decide +kernel
theorem dX4_init_49 : decode cX4_init 49 = .ok (.aload_n 0, 1) := by decide +kernel
theorem dX4_init_50 : decode cX4_init 50 = .ok (.sipush 256, 3) := by decide +kernel
theorem dX4_init_53 : decode cX4_init 53 = .ok (.newarray .int, 2) := by decide +kernel
theorem dX4_init_55 : decode cX4_init 55 = .ok (.putfield 27, 3) := by decide +kernel
theorem dX4_init_58 : decode cX4_init 58 = .ok (.aload_n 0, 1) := by decide +kernel
theorem dX4_init_59 : decode cX4_init 59 = .ok (.bipush 8, 2) := by decide +kernel
theorem dX4_init_61 : decode cX4_init 61 = .ok (.anewarray 30, 3) := by decide +kernel
theorem dX4_init_64 : decode cX4_init 64 = .ok (.putfield 32, 3) := by decide +kernel
theorem dX4_init_67 : decode cX4_init 67 = .ok (.aload_n 0, 1) := by decide +kernel
theorem dX4_init_68 : decode cX4_init 68 = .ok (.new 36, 3) := by decide +kernel
theorem dX4_init_71 : decode cX4_init 71 = .ok (.dup, 1) := by decide +kernel
theorem dX4_init_72 : decode cX4_init 72 = .ok (.invokespecial 38, 3) := by decide +kernel
theorem dX4_init_75 : decode cX4_init 75 = .ok (.putfield 39, 3) := by decide +kernel
theorem dX4_init_78 : decode cX4_init 78 = .ok (.aload_n 0, 1) := by decide +kernel
theorem dX4_init_79 : decode cX4_init 79 = .ok (.iconst 0, 1) := by decide +kernel
theorem dX4_init_80 : decode cX4_init 80 = .ok (.putfield 43, 3) := by decide +kernel
theorem dX4_init_83 : decode cX4_init 83 = .ok (.aload_n 0, 1) := by decide +kernel
theorem dX4_init_84 : decode cX4_init 84 = .ok (.iconst 0, 1) := by decide +kernel
theorem dX4_init_85 : decode cX4_init 85 = .ok (.putfield 47, 3) := by decide +kernel
theorem dX4_init_88 : decode cX4_init 88 = .ok (.aload_n 0, 1) := by decide +kernel
theorem dX4_init_89 : decode cX4_init 89 = .ok (.iconst 0, 1) := by decide +kernel
theorem dX4_init_90 : decode cX4_init 90 = .ok (.putfield 50, 3) := by decide +kernel
theorem dX4_init_93 : decode cX4_init 93 = .ok (.aload_n 0, 1) := by decide +kernel
theorem dX4_init_94 : decode cX4_init 94 = .ok (.iconst 0, 1) := by decide +kernel
theorem dX4_init_95 : decode cX4_init 95 = .ok (.putfield 53, 3) := by decide +kernel
theorem dX4_init_98 : decode cX4_init 98 = .ok (.aload_n 0, 1) := by decide +kernel
theorem dX4_init_99 : decode cX4_init 99 = .ok (.iconst 0, 1) := by decide +kernel
theorem dX4_init_100 : decode cX4_init 100 = .ok (.putfield 56, 3) := by decide +kernel
theorem dX4_init_103 : decode cX4_init 103 = .ok (.aload_n 0, 1) := by decide +kernel
theorem dX4_init_104 : decode cX4_init 104 = .ok (.iconst 0, 1) := by decide +kernel
theorem dX4_init_105 : decode cX4_init 105 = .ok (.putfield 59, 3) := by decide +kernel
theorem dX4_init_108 : decode cX4_init 108 = .ok (.aload_n 0, 1) := by decide +kernel
theorem dX4_init_109 : decode cX4_init 109 = .ok (.iconst 0, 1) := by decide +kernel
theorem dX4_init_110 : decode cX4_init 110 = .ok (.putfield 62, 3) := by decide +kernel
theorem dX4_init_113 : decode cX4_init 113 = .ok (.aload_n 0, 1) := by decide +kernel
theorem dX4_init_114 : decode cX4_init 114 = .ok (.getfield 27, 3) := by decide +kernel
theorem dX4_init_117 : decode cX4_init 117 = .ok (.bipush (-6), 2) := by decide +kernel
theorem dX4_init_119 : decode cX4_init 119 = .ok (.invokestatic 65, 3) := by decide +kernel
theorem dX4_init_122 : decode cX4_init 122 = .ok (.iconst 0, 1) := by decide +kernel
theorem dX4_init_123 : decode cX4_init 123 = .ok (.istore_n 1, 1) := by decide +kernel
theorem dX4_init_124 : decode cX4_init 124 = .ok (.iload_n 1, 1) := by decide +kernel
theorem dX4_init_125 : decode cX4_init 125 = .ok (.bipush 8, 2) := by decide +kernel
theorem dX4_init_127 : decode cX4_init 127 = .ok (.if_icmp .ge 22, 3) := by decide +kernel
theorem dX4_init_130 : decode cX4_init 130 = .ok (.aload_n 0, 1) := by decide +kernel
theorem dX4_init_131 : decode cX4_init 131 = .ok (.getfield 32, 3) := by decide +kernel
theorem dX4_init_134 : decode cX4_init 134 = .ok (.iload_n 1, 1) := by decide +kernel
theorem dX4_init_135 : decode cX4_init 135 = .ok (.new 30, 3) := by decide +kernel
theorem dX4_init_138 : decode cX4_init 138 = .ok (.dup, 1) := by decide +kernel
theorem dX4_init_139 : decode cX4_init 139 = .ok (.invokespecial 71, 3) := by decide +kernel
theorem dX4_init_142 : decode cX4_init 142 = .ok (.aastore, 1) := by decide +kernel
theorem dX4_init_143 : decode cX4_init 143 = .ok (.iinc 1 1, 3) := by decide +kernel
theorem dX4_init_146 : decode cX4_init 146 = .ok (.goto (-22), 3) := by decide +kernel
theorem dX4_init_149 : decode cX4_init 149 = .ok (.return_, 1) := by decide +kernel
theorem dX4_begin_0 : decode cX4_begin 0 = .ok (.iconst 0, 1) := by decide +kernel
theorem dX4_begin_1 : decode cX4_begin 1 = .ok (.istore_n 2, 1) := by decide +kernel
theorem dX4_begin_2 : decode cX4_begin 2 = .ok (.iload_n 2, 1) := by decide +kernel
theorem dX4_begin_3 : decode cX4_begin 3 = .ok (.aload_n 1, 1) := by decide +kernel
theorem dX4_begin_4 : decode cX4_begin 4 = .ok (.getfield 72, 3) := by decide +kernel
theorem dX4_begin_7 : decode cX4_begin 7 = .ok (.if_icmp .ge 15, 3) := by decide +kernel
theorem dX4_begin_10 : decode cX4_begin 10 = .ok (.aload_n 0, 1) := by decide +kernel
theorem dX4_begin_11 : decode cX4_begin 11 = .ok (.aload_n 1, 1) := by decide +kernel
theorem dX4_begin_12 : decode cX4_begin 12 = .ok (.iload_n 2, 1) := by decide +kernel
theorem dX4_begin_13 : decode cX4_begin 13 = .ok (.invokevirtual 77, 3) := by decide +kernel
theorem dX4_begin_16 : decode cX4_begin 16 = .ok (.iinc 2 1, 3) := by decide +kernel
theorem dX4_begin_19 : decode cX4_begin 19 = .ok (.goto (-17), 3) := by decide +kernel
theorem dX4_begin_22 : decode cX4_begin 22 = .ok (.aload_n 0, 1) := by decide +kernel
theorem dX4_begin_23 : decode cX4_begin 23 = .ok (.getfield 39, 3) := by decide +kernel
theorem dX4_begin_26 : decode cX4_begin 26 = .ok (.aload_n 1, 1) := by decide +kernel
theorem dX4_begin_27 : decode cX4_begin 27 = .ok (.getfield 81, 3) := by decide +kernel
theorem dX4_begin_30 : decode cX4_begin 30 = .ok (.iconst 1, 1) := by decide +kernel
theorem dX4_begin_31 : decode cX4_begin 31 = .ok (.invokevirtual 84, 3) := by decide +kernel
theorem dX4_begin_34 : decode cX4_begin 34 = .ok (.aload_n 0, 1) := by decide +kernel
theorem dX4_begin_35 : decode cX4_begin 35 = .ok (.iconst 0, 1) := by decide +kernel
theorem dX4_begin_36 : decode cX4_begin 36 = .ok (.putfield 43, 3) := by decide +kernel
theorem dX4_begin_39 : decode cX4_begin 39 = .ok (.aload_n 0, 1) := by decide +kernel
theorem dX4_begin_40 : decode cX4_begin 40 = .ok (.iconst 0, 1) := by decide +kernel
theorem dX4_begin_41 : decode cX4_begin 41 = .ok (.putfield 47, 3) := by decide +kernel
theorem dX4_begin_44 : decode cX4_begin 44 = .ok (.aload_n 0, 1) := by decide +kernel
theorem dX4_begin_45 : decode cX4_begin 45 = .ok (.iconst 0, 1) := by decide +kernel
theorem dX4_begin_46 : decode cX4_begin 46 = .ok (.putfield 50, 3) := by decide +kernel
theorem dX4_begin_49 : decode cX4_begin 49 = .ok (.aload_n 0, 1) := by decide +kernel
theorem dX4_begin_50 : decode cX4_begin 50 = .ok (.iconst 0, 1) := by decide +kernel
theorem dX4_begin_51 : decode cX4_begin 51 = .ok (.putfield 53, 3) := by decide +kernel
theorem dX4_begin_54 : decode cX4_begin 54 = .ok (.aload_n 0, 1) := by decide +kernel
theorem dX4_begin_55 : decode cX4_begin 55 = .ok (.iconst 0, 1) := by decide +kernel
theorem dX4_begin_56 : decode cX4_begin 56 = .ok (.putfield 56, 3) := by decide +kernel
theorem dX4_begin_59 : decode cX4_begin 59 = .ok (.aload_n 0, 1) := by decide +kernel
theorem dX4_begin_60 : decode cX4_begin 60 = .ok (.iconst 0, 1) := by decide +kernel
theorem dX4_begin_61 : decode cX4_begin 61 = .ok (.putfield 59, 3) := by decide +kernel
theorem dX4_begin_64 : decode cX4_begin 64 = .ok (.aload_n 0, 1) := by decide +kernel
theorem dX4_begin_65 : decode cX4_begin 65 = .ok (.iconst 0, 1) := by decide +kernel
theorem dX4_begin_66 : decode cX4_begin 66 = .ok (.putfield 62, 3) := by decide +kernel
theorem dX4_begin_69 : decode cX4_begin 69 = .ok (.return_, 1) := by decide +kernel
theorem dX4_beginCell_0 : decode cX4_beginCell 0 = .ok (.aload_n 0, 1) := by decide +kernel
theorem dX4_beginCell_1 : decode cX4_beginCell 1 = .ok (.getfield 9, 3) := by decide +kernel
theorem dX4_beginCell_4 : decode cX4_beginCell 4 = .ok (.iload_n 2, 1) := by decide +kernel
theorem dX4_beginCell_5 : decode cX4_beginCell 5 = .ok (.aload_n 1, 1) := by decide +kernel
theorem dX4_beginCell_6 : decode cX4_beginCell 6 = .ok (.getfield 88, 3) := by decide +kernel
theorem dX4_beginCell_9 : decode cX4_beginCell 9 = .ok (.iload_n 2, 1) := by decide +kernel
theorem dX4_beginCell_10 : decode cX4_beginCell 10 = .ok (.iaload, 1) := by decide +kernel
theorem dX4_beginCell_11 : decode cX4_beginCell 11 = .ok (.ifCond .le 7, 3) := by decide +kernel
theorem dX4_beginCell_14 : decode cX4_beginCell 14 = .ok (.iconst 1, 1) := by decide +kernel
theorem dX4_beginCell_15 : decode cX4_beginCell 15 = .ok (.goto 4, 3) := by decide +kernel
theorem dX4_beginCell_18 : decode cX4_beginCell 18 = .ok (.iconst 0, 1) := by decide +kernel
theorem dX4_beginCell_19 : decode cX4_beginCell 19 = .ok (.iastore, 1) := by decide +kernel
theorem dX4_beginCell_20 : decode cX4_beginCell 20 = .ok (.aload_n 0, 1) := by decide +kernel
theorem dX4_beginCell_21 : decode cX4_beginCell 21 = .ok (.getfield 15, 3) := by decide +kernel
theorem dX4_beginCell_24 : decode cX4_beginCell 24 = .ok (.iload_n 2, 1) := by decide +kernel
theorem dX4_beginCell_25 : decode cX4_beginCell 25 = .ok (.aload_n 1, 1) := by decide +kernel
theorem dX4_beginCell_26 : decode cX4_beginCell 26 = .ok (.getfield 88, 3) := by decide +kernel
theorem dX4_beginCell_29 : decode cX4_beginCell 29 = .ok (.iload_n 2, 1) := by decide +kernel
theorem dX4_beginCell_30 : decode cX4_beginCell 30 = .ok (.iaload, 1) := by decide +kernel
theorem dX4_beginCell_31 : decode cX4_beginCell 31 = .ok (.iastore, 1) := by decide +kernel
theorem dX4_beginCell_32 : decode cX4_beginCell 32 = .ok (.aload_n 0, 1) := by decide +kernel
theorem dX4_beginCell_33 : decode cX4_beginCell 33 = .ok (.getfield 18, 3) := by decide +kernel
theorem dX4_beginCell_36 : decode cX4_beginCell 36 = .ok (.iload_n 2, 1) := by decide +kernel
theorem dX4_beginCell_37 : decode cX4_beginCell 37 = .ok (.aload_n 1, 1) := by decide +kernel
theorem dX4_beginCell_38 : decode cX4_beginCell 38 = .ok (.getfield 89, 3) := by decide +kernel
theorem dX4_beginCell_41 : decode cX4_beginCell 41 = .ok (.iload_n 2, 1) := by decide +kernel
theorem dX4_beginCell_42 : decode cX4_beginCell 42 = .ok (.iaload, 1) := by decide +kernel
theorem dX4_beginCell_43 : decode cX4_beginCell 43 = .ok (.iastore, 1) := by decide +kernel
theorem dX4_beginCell_44 : decode cX4_beginCell 44 = .ok (.aload_n 0, 1) := by decide +kernel
theorem dX4_beginCell_45 : decode cX4_beginCell 45 = .ok (.getfield 21, 3) := by decide +kernel
theorem dX4_beginCell_48 : decode cX4_beginCell 48 = .ok (.iload_n 2, 1) := by decide +kernel
theorem dX4_beginCell_49 : decode cX4_beginCell 49 = .ok (.iconst 0, 1) := by decide +kernel
theorem dX4_beginCell_50 : decode cX4_beginCell 50 = .ok (.iastore, 1) := by decide +kernel
theorem dX4_beginCell_51 : decode cX4_beginCell 51 = .ok (.aload_n 0, 1) := by decide +kernel
theorem dX4_beginCell_52 : decode cX4_beginCell 52 = .ok (.getfield 24, 3) := by decide +kernel
theorem dX4_beginCell_55 : decode cX4_beginCell 55 = .ok (.iload_n 2, 1) := by decide +kernel
theorem dX4_beginCell_56 : decode cX4_beginCell 56 = .ok (.iconst 0, 1) := by decide +kernel
theorem dX4_beginCell_57 : decode cX4_beginCell 57 = .ok (.iastore, 1) := by decide +kernel
theorem dX4_beginCell_58 : decode cX4_beginCell 58 = .ok (.aload_n 0, 1) := by decide +kernel
theorem dX4_beginCell_59 : decode cX4_beginCell 59 = .ok (.getfield 27, 3) := by decide +kernel
theorem dX4_beginCell_62 : decode cX4_beginCell 62 = .ok (.iload_n 2, 1) := by decide +kernel
theorem dX4_beginCell_63 : decode cX4_beginCell 63 = .ok (.bipush (-6), 2) := by decide +kernel
theorem dX4_beginCell_65 : decode cX4_beginCell 65 = .ok (.iastore, 1) := by decide +kernel
theorem dX4_beginCell_66 : decode cX4_beginCell 66 = .ok (.return_, 1) := by decide +kernel
theorem dX4_copyFrom_0 : decode cX4_copyFrom 0 = .ok (.aload_n 1, 1) := by decide +kernel
theorem dX4_copyFrom_1 : decode cX4_copyFrom 1 = .ok (.getfield 9, 3) := by decide +kernel
theorem dX4_copyFrom_4 : decode cX4_copyFrom 4 = .ok (.iconst 0, 1) := by decide +kernel
theorem dX4_copyFrom_5 : decode cX4_copyFrom 5 = .ok (.aload_n 0, 1) := by decide +kernel
theorem dX4_copyFrom_6 : decode cX4_copyFrom 6 = .ok (.getfield 9, 3) := by decide +kernel
theorem dX4_copyFrom_9 : decode cX4_copyFrom 9 = .ok (.iconst 0, 1) := by decide +kernel
theorem dX4_copyFrom_10 : decode cX4_copyFrom 10 = .ok (.sipush 256, 3) := by decide +kernel
theorem dX4_copyFrom_13 : decode cX4_copyFrom 13 = .ok (.invokestatic 90, 3) := by decide +kernel
theorem dX4_copyFrom_16 : decode cX4_copyFrom 16 = .ok (.aload_n 1, 1) := by decide +kernel
theorem dX4_copyFrom_17 : decode cX4_copyFrom 17 = .ok (.getfield 15, 3) := by decide +kernel
theorem dX4_copyFrom_20 : decode cX4_copyFrom 20 = .ok (.iconst 0, 1) := by decide +kernel
theorem dX4_copyFrom_21 : decode cX4_copyFrom 21 = .ok (.aload_n 0, 1) := by decide +kernel
theorem dX4_copyFrom_22 : decode cX4_copyFrom 22 = .ok (.getfield 15, 3) := by decide +kernel
theorem dX4_copyFrom_25 : decode cX4_copyFrom 25 = .ok (.iconst 0, 1) := by decide +kernel
theorem dX4_copyFrom_26 : decode cX4_copyFrom 26 = .ok (.sipush 256, 3) := by decide +kernel
theorem dX4_copyFrom_29 : decode cX4_copyFrom 29 = .ok (.invokestatic 90, 3) := by decide +kernel
theorem dX4_copyFrom_32 : decode cX4_copyFrom 32 = .ok (.aload_n 1, 1) := by decide +kernel
theorem dX4_copyFrom_33 : decode cX4_copyFrom 33 = .ok (.getfield 18, 3) := by decide +kernel
theorem dX4_copyFrom_36 : decode cX4_copyFrom 36 = .ok (.iconst 0, 1) := by decide +kernel
theorem dX4_copyFrom_37 : decode cX4_copyFrom 37 = .ok (.aload_n 0, 1) := by decide +kernel
theorem dX4_copyFrom_38 : decode cX4_copyFrom 38 = .ok (.getfield 18, 3) := by decide +kernel
theorem dX4_copyFrom_41 : decode cX4_copyFrom 41 = .ok (.iconst 0, 1) := by decide +kernel
theorem dX4_copyFrom_42 : decode cX4_copyFrom 42 = .ok (.sipush 256, 3) := by decide +kernel
theorem dX4_copyFrom_45 : decode cX4_copyFrom 45 = .ok (.invokestatic 90, 3) := by decide +kernel
theorem dX4_copyFrom_48 : decode cX4_copyFrom 48 = .ok (.aload_n 1, 1) := by decide +kernel
theorem dX4_copyFrom_49 : decode cX4_copyFrom 49 = .ok (.getfield 21, 3) := by decide +kernel
theorem dX4_copyFrom_52 : decode cX4_copyFrom 52 = .ok (.iconst 0, 1) := by decide +kernel
theorem dX4_copyFrom_53 : decode cX4_copyFrom 53 = .ok (.aload_n 0, 1) := by decide +kernel
theorem dX4_copyFrom_54 : decode cX4_copyFrom 54 = .ok (.getfield 21, 3) := by decide +kernel
theorem dX4_copyFrom_57 : decode cX4_copyFrom 57 = .ok (.iconst 0, 1) := by decide +kernel
theorem dX4_copyFrom_58 : decode cX4_copyFrom 58 = .ok (.sipush 256, 3) := by decide +kernel
theorem dX4_copyFrom_61 : decode cX4_copyFrom 61 = .ok (.invokestatic 90, 3) := by decide +kernel
theorem dX4_copyFrom_64 : decode cX4_copyFrom 64 = .ok (.aload_n 1, 1) := by decide +kernel
theorem dX4_copyFrom_65 : decode cX4_copyFrom 65 = .ok (.getfield 24, 3) := by decide +kernel
theorem dX4_copyFrom_68 : decode cX4_copyFrom 68 = .ok (.iconst 0, 1) := by decide +kernel
theorem dX4_copyFrom_69 : decode cX4_copyFrom 69 = .ok (.aload_n 0, 1) := by decide +kernel
theorem dX4_copyFrom_70 : decode cX4_copyFrom 70 = .ok (.getfield 24, 3) := by decide +kernel
theorem dX4_copyFrom_73 : decode cX4_copyFrom 73 = .ok (.iconst 0, 1) := by decide +kernel
theorem dX4_copyFrom_74 : decode cX4_copyFrom 74 = .ok (.sipush 256, 3) := by decide +kernel
theorem dX4_copyFrom_77 : decode cX4_copyFrom 77 = .ok (.invokestatic 90, 3) := by decide +kernel
theorem dX4_copyFrom_80 : decode cX4_copyFrom 80 = .ok (.aload_n 1, 1) := by decide +kernel
theorem dX4_copyFrom_81 : decode cX4_copyFrom 81 = .ok (.getfield 27, 3) := by decide +kernel
theorem dX4_copyFrom_84 : decode cX4_copyFrom 84 = .ok (.iconst 0, 1) := by decide +kernel
theorem dX4_copyFrom_85 : decode cX4_copyFrom 85 = .ok (.aload_n 0, 1) := by decide +kernel
theorem dX4_copyFrom_86 : decode cX4_copyFrom 86 = .ok (.getfield 27, 3) := by decide +kernel
theorem dX4_copyFrom_89 : decode cX4_copyFrom 89 = .ok (.iconst 0, 1) := by decide +kernel
theorem dX4_copyFrom_90 : decode cX4_copyFrom 90 = .ok (.sipush 256, 3) := by decide +kernel
theorem dX4_copyFrom_93 : decode cX4_copyFrom 93 = .ok (.invokestatic 90, 3) := by decide +kernel
theorem dX4_copyFrom_96 : decode cX4_copyFrom 96 = .ok (.iconst 0, 1) := by decide +kernel
theorem dX4_copyFrom_97 : decode cX4_copyFrom 97 = .ok (.istore_n 2, 1) := by decide +kernel
theorem dX4_copyFrom_98 : decode cX4_copyFrom 98 = .ok (.iload_n 2, 1) := by decide +kernel
theorem dX4_copyFrom_99 : decode cX4_copyFrom 99 = .ok (.aload_n 1, 1) := by decide +kernel
theorem dX4_copyFrom_100 : decode cX4_copyFrom 100 = .ok (.getfield 43, 3) := by decide +kernel
theorem dX4_copyFrom_103 : decode cX4_copyFrom 103 = .ok (.if_icmp .ge 24, 3) := by decide +kernel
theorem dX4_copyFrom_106 : decode cX4_copyFrom 106 = .ok (.aload_n 0, 1) := by decide +kernel
theorem dX4_copyFrom_107 : decode cX4_copyFrom 107 = .ok (.getfield 32, 3) := by decide +kernel
theorem dX4_copyFrom_110 : decode cX4_copyFrom 110 = .ok (.iload_n 2, 1) := by decide +kernel
theorem dX4_copyFrom_111 : decode cX4_copyFrom 111 = .ok (.aaload, 1) := by decide +kernel
theorem dX4_copyFrom_112 : decode cX4_copyFrom 112 = .ok (.aload_n 1, 1) := by decide +kernel
theorem dX4_copyFrom_113 : decode cX4_copyFrom 113 = .ok (.getfield 32, 3) := by decide +kernel
theorem dX4_copyFrom_116 : decode cX4_copyFrom 116 = .ok (.iload_n 2, 1) := by decide +kernel
theorem dX4_copyFrom_117 : decode cX4_copyFrom 117 = .ok (.aaload, 1) := by decide +kernel
theorem dX4_copyFrom_118 : decode cX4_copyFrom 118 = .ok (.invokevirtual 96, 3) := by decide +kernel
theorem dX4_copyFrom_121 : decode cX4_copyFrom 121 = .ok (.iinc 2 1, 3) := by decide +kernel
theorem dX4_copyFrom_124 : decode cX4_copyFrom 124 = .ok (.goto (-26), 3) := by decide +kernel
theorem dX4_copyFrom_127 : decode cX4_copyFrom 127 = .ok (.aload_n 0, 1) := by decide +kernel
theorem dX4_copyFrom_128 : decode cX4_copyFrom 128 = .ok (.getfield 39, 3) := by decide +kernel
theorem dX4_copyFrom_131 : decode cX4_copyFrom 131 = .ok (.aload_n 1, 1) := by decide +kernel
theorem dX4_copyFrom_132 : decode cX4_copyFrom 132 = .ok (.getfield 39, 3) := by decide +kernel
theorem dX4_copyFrom_135 : decode cX4_copyFrom 135 = .ok (.invokevirtual 100, 3) := by decide +kernel
theorem dX4_copyFrom_138 : decode cX4_copyFrom 138 = .ok (.aload_n 0, 1) := by decide +kernel
theorem dX4_copyFrom_139 : decode cX4_copyFrom 139 = .ok (.aload_n 1, 1) := by decide +kernel
theorem dX4_copyFrom_140 : decode cX4_copyFrom 140 = .ok (.getfield 43, 3) := by decide +kernel
theorem dX4_copyFrom_143 : decode cX4_copyFrom 143 = .ok (.putfield 43, 3) := by decide +kernel
theorem dX4_copyFrom_146 : decode cX4_copyFrom 146 = .ok (.aload_n 0, 1) := by decide +kernel
theorem dX4_copyFrom_147 : decode cX4_copyFrom 147 = .ok (.aload_n 1, 1) := by decide +kernel
theorem dX4_copyFrom_148 : decode cX4_copyFrom 148 = .ok (.getfield 47, 3) := by decide +kernel
theorem dX4_copyFrom_151 : decode cX4_copyFrom 151 = .ok (.putfield 47, 3) := by decide +kernel
theorem dX4_copyFrom_154 : decode cX4_copyFrom 154 = .ok (.aload_n 0, 1) := by decide +kernel
theorem dX4_copyFrom_155 : decode cX4_copyFrom 155 = .ok (.aload_n 1, 1) := by decide +kernel
theorem dX4_copyFrom_156 : decode cX4_copyFrom 156 = .ok (.getfield 50, 3) := by decide +kernel
theorem dX4_copyFrom_159 : decode cX4_copyFrom 159 = .ok (.putfield 50, 3) := by decide +kernel
theorem dX4_copyFrom_162 : decode cX4_copyFrom 162 = .ok (.aload_n 0, 1) := by decide +kernel
theorem dX4_copyFrom_163 : decode cX4_copyFrom 163 = .ok (.aload_n 1, 1) := by decide +kernel
theorem dX4_copyFrom_164 : decode cX4_copyFrom 164 = .ok (.getfield 53, 3) := by decide +kernel
theorem dX4_copyFrom_167 : decode cX4_copyFrom 167 = .ok (.putfield 53, 3) := by decide +kernel
theorem dX4_copyFrom_170 : decode cX4_copyFrom 170 = .ok (.aload_n 0, 1) := by decide +kernel
theorem dX4_copyFrom_171 : decode cX4_copyFrom 171 = .ok (.aload_n 1, 1) := by decide +kernel
theorem dX4_copyFrom_172 : decode cX4_copyFrom 172 = .ok (.getfield 56, 3) := by decide +kernel
theorem dX4_copyFrom_175 : decode cX4_copyFrom 175 = .ok (.putfield 56, 3) := by decide +kernel
theorem dX4_copyFrom_178 : decode cX4_copyFrom 178 = .ok (.aload_n 0, 1) := by decide +kernel
theorem dX4_copyFrom_179 : decode cX4_copyFrom 179 = .ok (.aload_n 1, 1) := by decide +kernel
theorem dX4_copyFrom_180 : decode cX4_copyFrom 180 = .ok (.getfield 59, 3) := by decide +kernel
theorem dX4_copyFrom_183 : decode cX4_copyFrom 183 = .ok (.putfield 59, 3) := by decide +kernel
theorem dX4_copyFrom_186 : decode cX4_copyFrom 186 = .ok (.aload_n 0, 1) := by decide +kernel
theorem dX4_copyFrom_187 : decode cX4_copyFrom 187 = .ok (.aload_n 1, 1) := by decide +kernel
theorem dX4_copyFrom_188 : decode cX4_copyFrom 188 = .ok (.getfield 62, 3) := by decide +kernel
theorem dX4_copyFrom_191 : decode cX4_copyFrom 191 = .ok (.putfield 62, 3) := by decide +kernel
theorem dX4_copyFrom_194 : decode cX4_copyFrom 194 = .ok (.return_, 1) := by decide +kernel
theorem dX4_isAlikeAt_0 : decode cX4_isAlikeAt 0 = .ok (.aload_n 0, 1) := by decide +kernel
theorem dX4_isAlikeAt_1 : decode cX4_isAlikeAt 1 = .ok (.getfield 9, 3) := by decide +kernel
theorem dX4_isAlikeAt_4 : decode cX4_isAlikeAt 4 = .ok (.iload_n 1, 1) := by decide +kernel
theorem dX4_isAlikeAt_5 : decode cX4_isAlikeAt 5 = .ok (.iaload, 1) := by decide +kernel
theorem dX4_isAlikeAt_6 : decode cX4_isAlikeAt 6 = .ok (.aload_n 2, 1) := by decide +kernel
theorem dX4_isAlikeAt_7 : decode cX4_isAlikeAt 7 = .ok (.getfield 9, 3) := by decide +kernel
theorem dX4_isAlikeAt_10 : decode cX4_isAlikeAt 10 = .ok (.iload_n 1, 1) := by decide +kernel
theorem dX4_isAlikeAt_11 : decode cX4_isAlikeAt 11 = .ok (.iaload, 1) := by decide +kernel
theorem dX4_isAlikeAt_12 : decode cX4_isAlikeAt 12 = .ok (.if_icmp .ne 67, 3) := by decide +kernel
theorem dX4_isAlikeAt_15 : decode cX4_isAlikeAt 15 = .ok (.aload_n 0, 1) := by decide +kernel
theorem dX4_isAlikeAt_16 : decode cX4_isAlikeAt 16 = .ok (.getfield 15, 3) := by decide +kernel
theorem dX4_isAlikeAt_19 : decode cX4_isAlikeAt 19 = .ok (.iload_n 1, 1) := by decide +kernel
theorem dX4_isAlikeAt_20 : decode cX4_isAlikeAt 20 = .ok (.iaload, 1) := by decide +kernel
theorem dX4_isAlikeAt_21 : decode cX4_isAlikeAt 21 = .ok (.aload_n 2, 1) := by decide +kernel
theorem dX4_isAlikeAt_22 : decode cX4_isAlikeAt 22 = .ok (.getfield 15, 3) := by decide +kernel
theorem dX4_isAlikeAt_25 : decode cX4_isAlikeAt 25 = .ok (.iload_n 1, 1) := by decide +kernel
theorem dX4_isAlikeAt_26 : decode cX4_isAlikeAt 26 = .ok (.iaload, 1) := by decide +kernel
theorem dX4_isAlikeAt_27 : decode cX4_isAlikeAt 27 = .ok (.if_icmp .ne 52, 3) := by decide +kernel
theorem dX4_isAlikeAt_30 : decode cX4_isAlikeAt 30 = .ok (.aload_n 0, 1) := by decide +kernel
theorem dX4_isAlikeAt_31 : decode cX4_isAlikeAt 31 = .ok (.getfield 18, 3) := by decide +kernel
theorem dX4_isAlikeAt_34 : decode cX4_isAlikeAt 34 = .ok (.iload_n 1, 1) := by decide +kernel
theorem dX4_isAlikeAt_35 : decode cX4_isAlikeAt 35 = .ok (.iaload, 1) := by decide +kernel
theorem dX4_isAlikeAt_36 : decode cX4_isAlikeAt 36 = .ok (.aload_n 2, 1) := by decide +kernel
theorem dX4_isAlikeAt_37 : decode cX4_isAlikeAt 37 = .ok (.getfield 18, 3) := by decide +kernel
theorem dX4_isAlikeAt_40 : decode cX4_isAlikeAt 40 = .ok (.iload_n 1, 1) := by decide +kernel
theorem dX4_isAlikeAt_41 : decode cX4_isAlikeAt 41 = .ok (.iaload, 1) := by decide +kernel
theorem dX4_isAlikeAt_42 : decode cX4_isAlikeAt 42 = .ok (.if_icmp .ne 37, 3) := by decide +kernel
theorem dX4_isAlikeAt_45 : decode cX4_isAlikeAt 45 = .ok (.aload_n 0, 1) := by decide +kernel
theorem dX4_isAlikeAt_46 : decode cX4_isAlikeAt 46 = .ok (.getfield 21, 3) := by decide +kernel
theorem dX4_isAlikeAt_49 : decode cX4_isAlikeAt 49 = .ok (.iload_n 1, 1) := by decide +kernel
theorem dX4_isAlikeAt_50 : decode cX4_isAlikeAt 50 = .ok (.iaload, 1) := by decide +kernel
theorem dX4_isAlikeAt_51 : decode cX4_isAlikeAt 51 = .ok (.aload_n 2, 1) := by decide +kernel
theorem dX4_isAlikeAt_52 : decode cX4_isAlikeAt 52 = .ok (.getfield 21, 3) := by decide +kernel
theorem dX4_isAlikeAt_55 : decode cX4_isAlikeAt 55 = .ok (.iload_n 1, 1) := by decide +kernel
theorem dX4_isAlikeAt_56 : decode cX4_isAlikeAt 56 = .ok (.iaload, 1) := by decide +kernel
theorem dX4_isAlikeAt_57 : decode cX4_isAlikeAt 57 = .ok (.if_icmp .ne 22, 3) := by decide +kernel
theorem dX4_isAlikeAt_60 : decode cX4_isAlikeAt 60 = .ok (.aload_n 0, 1) := by decide +kernel
theorem dX4_isAlikeAt_61 : decode cX4_isAlikeAt 61 = .ok (.getfield 24, 3) := by decide +kernel
theorem dX4_isAlikeAt_64 : decode cX4_isAlikeAt 64 = .ok (.iload_n 1, 1) := by decide +kernel
theorem dX4_isAlikeAt_65 : decode cX4_isAlikeAt 65 = .ok (.iaload, 1) := by decide +kernel
theorem dX4_isAlikeAt_66 : decode cX4_isAlikeAt 66 = .ok (.aload_n 2, 1) := by decide +kernel
theorem dX4_isAlikeAt_67 : decode cX4_isAlikeAt 67 = .ok (.getfield 24, 3) := by decide +kernel
theorem dX4_isAlikeAt_70 : decode cX4_isAlikeAt 70 = .ok (.iload_n 1, 1) := by decide +kernel
theorem dX4_isAlikeAt_71 : decode cX4_isAlikeAt 71 = .ok (.iaload, 1) := by decide +kernel
theorem dX4_isAlikeAt_72 : decode cX4_isAlikeAt 72 = .ok (.if_icmp .ne 7, 3) := by decide +kernel
theorem dX4_isAlikeAt_75 : decode cX4_isAlikeAt 75 = .ok (.iconst 1, 1) := by decide +kernel
theorem dX4_isAlikeAt_76 : decode cX4_isAlikeAt 76 = .ok (.goto 4, 3) := by decide +kernel
theorem dX4_isAlikeAt_79 : decode cX4_isAlikeAt 79 = .ok (.iconst 0, 1) := by decide +kernel
theorem dX4_isAlikeAt_80 : decode cX4_isAlikeAt 80 = .ok (.ireturn, 1) := by decide +kernel
theorem dX4_kindle_0 : decode cX4_kindle 0 = .ok (.aload_n 0, 1) := by decide +kernel
theorem dX4_kindle_1 : decode cX4_kindle 1 = .ok (.getfield 9, 3) := by decide +kernel
theorem dX4_kindle_4 : decode cX4_kindle 4 = .ok (.iload_n 1, 1) := by decide +kernel
theorem dX4_kindle_5 : decode cX4_kindle 5 = .ok (.iaload, 1) := by decide +kernel
theorem dX4_kindle_6 : decode cX4_kindle 6 = .ok (.iconst 1, 1) := by decide +kernel
theorem dX4_kindle_7 : decode cX4_kindle 7 = .ok (.if_icmp .ne 20, 3) := by decide +kernel
theorem dX4_kindle_10 : decode cX4_kindle 10 = .ok (.aload_n 0, 1) := by decide +kernel
theorem dX4_kindle_11 : decode cX4_kindle 11 = .ok (.getfield 9, 3) := by decide +kernel
theorem dX4_kindle_14 : decode cX4_kindle 14 = .ok (.iload_n 1, 1) := by decide +kernel
theorem dX4_kindle_15 : decode cX4_kindle 15 = .ok (.iconst 2, 1) := by decide +kernel
theorem dX4_kindle_16 : decode cX4_kindle 16 = .ok (.iastore, 1) := by decide +kernel
theorem dX4_kindle_17 : decode cX4_kindle 17 = .ok (.aload_n 0, 1) := by decide +kernel
theorem dX4_kindle_18 : decode cX4_kindle 18 = .ok (.getfield 27, 3) := by decide +kernel
theorem dX4_kindle_21 : decode cX4_kindle 21 = .ok (.iload_n 1, 1) := by decide +kernel
theorem dX4_kindle_22 : decode cX4_kindle 22 = .ok (.aload_n 0, 1) := by decide +kernel
theorem dX4_kindle_23 : decode cX4_kindle 23 = .ok (.getfield 47, 3) := by decide +kernel
theorem dX4_kindle_26 : decode cX4_kindle 26 = .ok (.iastore, 1) := by decide +kernel
theorem dX4_kindle_27 : decode cX4_kindle 27 = .ok (.return_, 1) := by decide +kernel
theorem dX4_loseCrews_0 : decode cX4_loseCrews 0 = .ok (.iconst 0, 1) := by decide +kernel
theorem dX4_loseCrews_1 : decode cX4_loseCrews 1 = .ok (.istore_n 1, 1) := by decide +kernel
theorem dX4_loseCrews_2 : decode cX4_loseCrews 2 = .ok (.iload_n 1, 1) := by decide +kernel
theorem dX4_loseCrews_3 : decode cX4_loseCrews 3 = .ok (.aload_n 0, 1) := by decide +kernel
theorem dX4_loseCrews_4 : decode cX4_loseCrews 4 = .ok (.getfield 43, 3) := by decide +kernel
theorem dX4_loseCrews_7 : decode cX4_loseCrews 7 = .ok (.if_icmp .ge 46, 3) := by decide +kernel
theorem dX4_loseCrews_10 : decode cX4_loseCrews 10 = .ok (.aload_n 0, 1) := by decide +kernel
theorem dX4_loseCrews_11 : decode cX4_loseCrews 11 = .ok (.getfield 9, 3) := by decide +kernel
theorem dX4_loseCrews_14 : decode cX4_loseCrews 14 = .ok (.aload_n 0, 1) := by decide +kernel
theorem dX4_loseCrews_15 : decode cX4_loseCrews 15 = .ok (.getfield 32, 3) := by decide +kernel
theorem dX4_loseCrews_18 : decode cX4_loseCrews 18 = .ok (.iload_n 1, 1) := by decide +kernel
theorem dX4_loseCrews_19 : decode cX4_loseCrews 19 = .ok (.aaload, 1) := by decide +kernel
theorem dX4_loseCrews_20 : decode cX4_loseCrews 20 = .ok (.getfield 103, 3) := by decide +kernel
theorem dX4_loseCrews_23 : decode cX4_loseCrews 23 = .ok (.iaload, 1) := by decide +kernel
theorem dX4_loseCrews_24 : decode cX4_loseCrews 24 = .ok (.iconst 2, 1) := by decide +kernel
theorem dX4_loseCrews_25 : decode cX4_loseCrews 25 = .ok (.if_icmp .ne 22, 3) := by decide +kernel
theorem dX4_loseCrews_28 : decode cX4_loseCrews 28 = .ok (.aload_n 0, 1) := by decide +kernel
theorem dX4_loseCrews_29 : decode cX4_loseCrews 29 = .ok (.getfield 32, 3) := by decide +kernel
theorem dX4_loseCrews_32 : decode cX4_loseCrews 32 = .ok (.iload_n 1, 1) := by decide +kernel
theorem dX4_loseCrews_33 : decode cX4_loseCrews 33 = .ok (.aaload, 1) := by decide +kernel
theorem dX4_loseCrews_34 : decode cX4_loseCrews 34 = .ok (.iconst 1, 1) := by decide +kernel
theorem dX4_loseCrews_35 : decode cX4_loseCrews 35 = .ok (.putfield 106, 3) := by decide +kernel
theorem dX4_loseCrews_38 : decode cX4_loseCrews 38 = .ok (.aload_n 0, 1) := by decide +kernel
theorem dX4_loseCrews_39 : decode cX4_loseCrews 39 = .ok (.getfield 32, 3) := by decide +kernel
theorem dX4_loseCrews_42 : decode cX4_loseCrews 42 = .ok (.iload_n 1, 1) := by decide +kernel
theorem dX4_loseCrews_43 : decode cX4_loseCrews 43 = .ok (.aaload, 1) := by decide +kernel
theorem dX4_loseCrews_44 : decode cX4_loseCrews 44 = .ok (.invokevirtual 110, 3) := by decide +kernel
theorem dX4_loseCrews_47 : decode cX4_loseCrews 47 = .ok (.iinc 1 1, 3) := by decide +kernel
theorem dX4_loseCrews_50 : decode cX4_loseCrews 50 = .ok (.goto (-48), 3) := by decide +kernel
theorem dX4_loseCrews_53 : decode cX4_loseCrews 53 = .ok (.return_, 1) := by decide +kernel
theorem dX4_balance_0 : decode cX4_balance 0 = .ok (.aload_n 0, 1) := by decide +kernel
theorem dX4_balance_1 : decode cX4_balance 1 = .ok (.getfield 39, 3) := by decide +kernel
theorem dX4_balance_4 : decode cX4_balance 4 = .ok (.getfield 113, 3) := by decide +kernel
theorem dX4_balance_7 : decode cX4_balance 7 = .ok (.iconst 2, 1) := by decide +kernel
theorem dX4_balance_8 : decode cX4_balance 8 = .ok (.if_icmp .ge 4, 3) := by decide +kernel
theorem dX4_balance_11 : decode cX4_balance 11 = .ok (.return_, 1) := by decide +kernel
theorem dX4_balance_12 : decode cX4_balance 12 = .ok (.aload_n 0, 1) := by decide +kernel
theorem dX4_balance_13 : decode cX4_balance 13 = .ok (.getfield 39, 3) := by decide +kernel
theorem dX4_balance_16 : decode cX4_balance 16 = .ok (.invokevirtual 116, 3) := by decide +kernel
theorem dX4_balance_19 : decode cX4_balance 19 = .ok (.ifCond .eq 16, 3) := by decide +kernel
theorem dX4_balance_22 : decode cX4_balance 22 = .ok (.aload_n 0, 1) := by decide +kernel
theorem dX4_balance_23 : decode cX4_balance 23 = .ok (.dup, 1) := by decide +kernel
theorem dX4_balance_24 : decode cX4_balance 24 = .ok (.getfield 59, 3) := by decide +kernel
theorem dX4_balance_27 : decode cX4_balance 27 = .ok (.iconst 1, 1) := by decide +kernel
theorem dX4_balance_28 : decode cX4_balance 28 = .ok (.iadd, 1) := by decide +kernel
theorem dX4_balance_29 : decode cX4_balance 29 = .ok (.putfield 59, 3) := by decide +kernel
theorem dX4_balance_32 : decode cX4_balance 32 = .ok (.goto 23, 3) := by decide +kernel
theorem dX4_balance_35 : decode cX4_balance 35 = .ok (.aload_n 0, 1) := by decide +kernel
theorem dX4_balance_36 : decode cX4_balance 36 = .ok (.getfield 39, 3) := by decide +kernel
theorem dX4_balance_39 : decode cX4_balance 39 = .ok (.invokevirtual 120, 3) := by decide +kernel
theorem dX4_balance_42 : decode cX4_balance 42 = .ok (.ifCond .eq 13, 3) := by decide +kernel
theorem dX4_balance_45 : decode cX4_balance 45 = .ok (.aload_n 0, 1) := by decide +kernel
theorem dX4_balance_46 : decode cX4_balance 46 = .ok (.dup, 1) := by decide +kernel
theorem dX4_balance_47 : decode cX4_balance 47 = .ok (.getfield 62, 3) := by decide +kernel
theorem dX4_balance_50 : decode cX4_balance 50 = .ok (.iconst 1, 1) := by decide +kernel
theorem dX4_balance_51 : decode cX4_balance 51 = .ok (.iadd, 1) := by decide +kernel
theorem dX4_balance_52 : decode cX4_balance 52 = .ok (.putfield 62, 3) := by decide +kernel
theorem dX4_balance_55 : decode cX4_balance 55 = .ok (.return_, 1) := by decide +kernel
theorem dX5_init_0 : decode cX5_init 0 = .ok (.aload_n 0, 1) := by decide +kernel
theorem dX5_init_1 : decode cX5_init 1 = .ok (.invokespecial 3, 3) := by decide +kernel
theorem dX5_init_4 : decode cX5_init 4 = .ok (.aload_n 0, 1) := by decide +kernel
theorem dX5_init_5 : decode cX5_init 5 = .ok (.bipush 8, 2) := by decide +kernel
theorem dX5_init_7 : decode cX5_init 7 = .ok (.newarray .int, 2) := by decide +kernel
theorem dX5_init_9 : decode cX5_init 9 = .ok (.putfield 9, 3) := by decide +kernel
theorem dX5_init_12 : decode cX5_init 12 = .ok (.aload_n 0, 1) := by decide +kernel
theorem dX5_init_13 : decode cX5_init 13 = .ok (.bipush 8, 2) := by decide +kernel
theorem dX5_init_15 : decode cX5_init 15 = .ok (.newarray .int, 2) := by decide +kernel
theorem dX5_init_17 : decode cX5_init 17 = .ok (.putfield 15, 3) := by decide +kernel
theorem dX5_init_20 : decode cX5_init 20 = .ok (.aload_n 0, 1) := by decide +kernel
theorem dX5_init_21 : decode cX5_init 21 = .ok (.bipush 8, 2) := by decide +kernel
theorem dX5_init_23 : decode cX5_init 23 = .ok (.newarray .int, 2) := by decide +kernel
theorem dX5_init_25 : decode cX5_init 25 = .ok (.putfield 18, 3) := by decide +kernel
theorem dX5_init_28 : decode cX5_init 28 = .ok (.aload_n 0, 1) := by decide +kernel
theorem dX5_init_29 : decode cX5_init 29 = .ok (.iconst 1, 1) := by decide +kernel
theorem dX5_init_30 : decode cX5_init 30 = .ok (.putfield 21, 3) := by decide +kernel
theorem dX5_init_33 : decode cX5_init 33 = .ok (.aload_n 0, 1) := by decide +kernel
theorem dX5_init_34 : decode cX5_init 34 = .ok (.getfield 15, 3) := by decide +kernel
theorem dX5_init_37 : decode cX5_init 37 = .ok (.iconst 0, 1) := by decide +kernel
theorem dX5_init_38 : decode cX5_init 38 = .ok (.iconst 1, 1) := by decide +kernel
theorem dX5_init_39 : decode cX5_init 39 = .ok (.iastore, 1) := by decide +kernel
theorem dX5_init_40 : decode cX5_init 40 = .ok (.return_, 1) := by decide +kernel
theorem dX5_copyFrom_0 : decode cX5_copyFrom 0 = .ok (.aload_n 1, 1) := by decide +kernel
theorem dX5_copyFrom_1 : decode cX5_copyFrom 1 = .ok (.getfield 9, 3) := by decide +kernel
theorem dX5_copyFrom_4 : decode cX5_copyFrom 4 = .ok (.iconst 0, 1) := by decide +kernel
theorem dX5_copyFrom_5 : decode cX5_copyFrom 5 = .ok (.aload_n 0, 1) := by decide +kernel
theorem dX5_copyFrom_6 : decode cX5_copyFrom 6 = .ok (.getfield 9, 3) := by decide +kernel
theorem dX5_copyFrom_9 : decode cX5_copyFrom 9 = .ok (.iconst 0, 1) := by decide +kernel
theorem dX5_copyFrom_10 : decode cX5_copyFrom 10 = .ok (.bipush 8, 2) := by decide +kernel
theorem dX5_copyFrom_12 : decode cX5_copyFrom 12 = .ok (.invokestatic 25, 3) := by decide +kernel
theorem dX5_copyFrom_15 : decode cX5_copyFrom 15 = .ok (.aload_n 1, 1) := by decide +kernel
theorem dX5_copyFrom_16 : decode cX5_copyFrom 16 = .ok (.getfield 15, 3) := by decide +kernel
theorem dX5_copyFrom_19 : decode cX5_copyFrom 19 = .ok (.iconst 0, 1) := by decide +kernel
theorem dX5_copyFrom_20 : decode cX5_copyFrom 20 = .ok (.aload_n 0, 1) := by decide +kernel
theorem dX5_copyFrom_21 : decode cX5_copyFrom 21 = .ok (.getfield 15, 3) := by decide +kernel
theorem dX5_copyFrom_24 : decode cX5_copyFrom 24 = .ok (.iconst 0, 1) := by decide +kernel
theorem dX5_copyFrom_25 : decode cX5_copyFrom 25 = .ok (.bipush 8, 2) := by decide +kernel
theorem dX5_copyFrom_27 : decode cX5_copyFrom 27 = .ok (.invokestatic 25, 3) := by decide +kernel
theorem dX5_copyFrom_30 : decode cX5_copyFrom 30 = .ok (.aload_n 1, 1) := by decide +kernel
theorem dX5_copyFrom_31 : decode cX5_copyFrom 31 = .ok (.getfield 18, 3) := by decide +kernel
theorem dX5_copyFrom_34 : decode cX5_copyFrom 34 = .ok (.iconst 0, 1) := by decide +kernel
theorem dX5_copyFrom_35 : decode cX5_copyFrom 35 = .ok (.aload_n 0, 1) := by decide +kernel
theorem dX5_copyFrom_36 : decode cX5_copyFrom 36 = .ok (.getfield 18, 3) := by decide +kernel
theorem dX5_copyFrom_39 : decode cX5_copyFrom 39 = .ok (.iconst 0, 1) := by decide +kernel
theorem dX5_copyFrom_40 : decode cX5_copyFrom 40 = .ok (.bipush 8, 2) := by decide +kernel
theorem dX5_copyFrom_42 : decode cX5_copyFrom 42 = .ok (.invokestatic 25, 3) := by decide +kernel
theorem dX5_copyFrom_45 : decode cX5_copyFrom 45 = .ok (.aload_n 0, 1) := by decide +kernel
theorem dX5_copyFrom_46 : decode cX5_copyFrom 46 = .ok (.aload_n 1, 1) := by decide +kernel
theorem dX5_copyFrom_47 : decode cX5_copyFrom 47 = .ok (.getfield 21, 3) := by decide +kernel
theorem dX5_copyFrom_50 : decode cX5_copyFrom 50 = .ok (.putfield 21, 3) := by decide +kernel
theorem dX5_copyFrom_53 : decode cX5_copyFrom 53 = .ok (.return_, 1) := by decide +kernel
theorem dX5_rowsOf_0 : decode cX5_rowsOf 0 = .ok (.aload_n 0, 1) := by decide +kernel
theorem dX5_rowsOf_1 : decode cX5_rowsOf 1 = .ok (.getfield 15, 3) := by decide +kernel
theorem dX5_rowsOf_4 : decode cX5_rowsOf 4 = .ok (.iload_n 1, 1) := by decide +kernel
theorem dX5_rowsOf_5 : decode cX5_rowsOf 5 = .ok (.iaload, 1) := by decide +kernel
theorem dX5_rowsOf_6 : decode cX5_rowsOf 6 = .ok (.aload_n 0, 1) := by decide +kernel
theorem dX5_rowsOf_7 : decode cX5_rowsOf 7 = .ok (.getfield 9, 3) := by decide +kernel
theorem dX5_rowsOf_10 : decode cX5_rowsOf 10 = .ok (.iload_n 1, 1) := by decide +kernel
theorem dX5_rowsOf_11 : decode cX5_rowsOf 11 = .ok (.iaload, 1) := by decide +kernel
theorem dX5_rowsOf_12 : decode cX5_rowsOf 12 = .ok (.isub, 1) := by decide +kernel
theorem dX5_rowsOf_13 : decode cX5_rowsOf 13 = .ok (.iconst 1, 1) := by decide +kernel
theorem dX5_rowsOf_14 : decode cX5_rowsOf 14 = .ok (.iadd, 1) := by decide +kernel
theorem dX5_rowsOf_15 : decode cX5_rowsOf 15 = .ok (.ireturn, 1) := by decide +kernel
theorem dX5_part_0 : decode cX5_part 0 = .ok (.iconst 0, 1) := by decide +kernel
theorem dX5_part_1 : decode cX5_part 1 = .ok (.istore_n 3, 1) := by decide +kernel
theorem dX5_part_2 : decode cX5_part 2 = .ok (.iconst 0, 1) := by decide +kernel
theorem dX5_part_3 : decode cX5_part 3 = .ok (.istore 4, 2) := by decide +kernel
theorem dX5_part_5 : decode cX5_part 5 = .ok (.iload 4, 2) := by decide +kernel
theorem dX5_part_7 : decode cX5_part 7 = .ok (.iload_n 2, 1) := by decide +kernel
theorem dX5_part_8 : decode cX5_part 8 = .ok (.if_icmp .ge 59, 3) := by decide +kernel
theorem dX5_part_11 : decode cX5_part 11 = .ok (.iload 4, 2) := by decide +kernel
theorem dX5_part_13 : decode cX5_part 13 = .ok (.iload_n 1, 1) := by decide +kernel
theorem dX5_part_14 : decode cX5_part 14 = .ok (.iload_n 2, 1) := by decide +kernel
theorem dX5_part_15 : decode cX5_part 15 = .ok (.irem, 1) := by decide +kernel
theorem dX5_part_16 : decode cX5_part 16 = .ok (.if_icmp .ge 7, 3) := by decide +kernel
theorem dX5_part_19 : decode cX5_part 19 = .ok (.iconst 1, 1) := by decide +kernel
theorem dX5_part_20 : decode cX5_part 20 = .ok (.goto 4, 3) := by decide +kernel
theorem dX5_part_23 : decode cX5_part 23 = .ok (.iconst 0, 1) := by decide +kernel
theorem dX5_part_24 : decode cX5_part 24 = .ok (.istore 5, 2) := by decide +kernel
theorem dX5_part_26 : decode cX5_part 26 = .ok (.aload_n 0, 1) := by decide +kernel
theorem dX5_part_27 : decode cX5_part 27 = .ok (.getfield 9, 3) := by decide +kernel
theorem dX5_part_30 : decode cX5_part 30 = .ok (.iload 4, 2) := by decide +kernel
theorem dX5_part_32 : decode cX5_part 32 = .ok (.iload_n 3, 1) := by decide +kernel
theorem dX5_part_33 : decode cX5_part 33 = .ok (.iastore, 1) := by decide +kernel
theorem dX5_part_34 : decode cX5_part 34 = .ok (.iload_n 3, 1) := by decide +kernel
theorem dX5_part_35 : decode cX5_part 35 = .ok (.iload_n 1, 1) := by decide +kernel
theorem dX5_part_36 : decode cX5_part 36 = .ok (.iload_n 2, 1) := by decide +kernel
theorem dX5_part_37 : decode cX5_part 37 = .ok (.idiv, 1) := by decide +kernel
theorem dX5_part_38 : decode cX5_part 38 = .ok (.iload 5, 2) := by decide +kernel
theorem dX5_part_40 : decode cX5_part 40 = .ok (.iadd, 1) := by decide +kernel
theorem dX5_part_41 : decode cX5_part 41 = .ok (.iadd, 1) := by decide +kernel
theorem dX5_part_42 : decode cX5_part 42 = .ok (.istore_n 3, 1) := by decide +kernel
theorem dX5_part_43 : decode cX5_part 43 = .ok (.aload_n 0, 1) := by decide +kernel
theorem dX5_part_44 : decode cX5_part 44 = .ok (.getfield 15, 3) := by decide +kernel
theorem dX5_part_47 : decode cX5_part 47 = .ok (.iload 4, 2) := by decide +kernel
theorem dX5_part_49 : decode cX5_part 49 = .ok (.iload_n 3, 1) := by decide +kernel
theorem dX5_part_50 : decode cX5_part 50 = .ok (.iconst 1, 1) := by decide +kernel
theorem dX5_part_51 : decode cX5_part 51 = .ok (.isub, 1) := by decide +kernel
theorem dX5_part_52 : decode cX5_part 52 = .ok (.iastore, 1) := by decide +kernel
theorem dX5_part_53 : decode cX5_part 53 = .ok (.aload_n 0, 1) := by decide +kernel
theorem dX5_part_54 : decode cX5_part 54 = .ok (.getfield 18, 3) := by decide +kernel
theorem dX5_part_57 : decode cX5_part 57 = .ok (.iload 4, 2) := by decide +kernel
theorem dX5_part_59 : decode cX5_part 59 = .ok (.iconst 0, 1) := by decide +kernel
theorem dX5_part_60 : decode cX5_part 60 = .ok (.iastore, 1) := by decide +kernel
theorem dX5_part_61 : decode cX5_part 61 = .ok (.iinc 4 1, 3) := by decide +kernel
theorem dX5_part_64 : decode cX5_part 64 = .ok (.goto (-59), 3) := by decide +kernel
theorem dX5_part_67 : decode cX5_part 67 = .ok (.aload_n 0, 1) := by decide +kernel
theorem dX5_part_68 : decode cX5_part 68 = .ok (.iload_n 2, 1) := by decide +kernel
theorem dX5_part_69 : decode cX5_part 69 = .ok (.putfield 21, 3) := by decide +kernel
theorem dX5_part_72 : decode cX5_part 72 = .ok (.return_, 1) := by decide +kernel
theorem dX5_beginWork_0 : decode cX5_beginWork 0 = .ok (.iconst 0, 1) := by decide +kernel
theorem dX5_beginWork_1 : decode cX5_beginWork 1 = .ok (.istore_n 2, 1) := by decide +kernel
theorem dX5_beginWork_2 : decode cX5_beginWork 2 = .ok (.iload_n 2, 1) := by decide +kernel
theorem dX5_beginWork_3 : decode cX5_beginWork 3 = .ok (.aload_n 0, 1) := by decide +kernel
theorem dX5_beginWork_4 : decode cX5_beginWork 4 = .ok (.getfield 21, 3) := by decide +kernel
theorem dX5_beginWork_7 : decode cX5_beginWork 7 = .ok (.if_icmp .ge 22, 3) := by decide +kernel
theorem dX5_beginWork_10 : decode cX5_beginWork 10 = .ok (.aload_n 0, 1) := by decide +kernel
theorem dX5_beginWork_11 : decode cX5_beginWork 11 = .ok (.getfield 18, 3) := by decide +kernel
theorem dX5_beginWork_14 : decode cX5_beginWork 14 = .ok (.iload_n 2, 1) := by decide +kernel
theorem dX5_beginWork_15 : decode cX5_beginWork 15 = .ok (.aload_n 0, 1) := by decide +kernel
theorem dX5_beginWork_16 : decode cX5_beginWork 16 = .ok (.iload_n 2, 1) := by decide +kernel
theorem dX5_beginWork_17 : decode cX5_beginWork 17 = .ok (.invokevirtual 31, 3) := by decide +kernel
theorem dX5_beginWork_20 : decode cX5_beginWork 20 = .ok (.iload_n 1, 1) := by decide +kernel
theorem dX5_beginWork_21 : decode cX5_beginWork 21 = .ok (.imul, 1) := by decide +kernel
theorem dX5_beginWork_22 : decode cX5_beginWork 22 = .ok (.iastore, 1) := by decide +kernel
theorem dX5_beginWork_23 : decode cX5_beginWork 23 = .ok (.iinc 2 1, 3) := by decide +kernel
theorem dX5_beginWork_26 : decode cX5_beginWork 26 = .ok (.goto (-24), 3) := by decide +kernel
theorem dX5_beginWork_29 : decode cX5_beginWork 29 = .ok (.return_, 1) := by decide +kernel
theorem dX5_splitBusiest_0 : decode cX5_splitBusiest 0 = .ok (.iconst 0, 1) := by decide +kernel
theorem dX5_splitBusiest_1 : decode cX5_splitBusiest 1 = .ok (.istore_n 1, 1) := by decide +kernel
theorem dX5_splitBusiest_2 : decode cX5_splitBusiest 2 = .ok (.iconst 1, 1) := by decide +kernel
theorem dX5_splitBusiest_3 : decode cX5_splitBusiest 3 = .ok (.istore_n 2, 1) := by decide +kernel
theorem dX5_splitBusiest_4 : decode cX5_splitBusiest 4 = .ok (.iload_n 2, 1) := by decide +kernel
theorem dX5_splitBusiest_5 : decode cX5_splitBusiest 5 = .ok (.aload_n 0, 1) := by decide +kernel
theorem dX5_splitBusiest_6 : decode cX5_splitBusiest 6 = .ok (.getfield 21, 3) := by decide +kernel
theorem dX5_splitBusiest_9 : decode cX5_splitBusiest 9 = .ok (.if_icmp .ge 26, 3) := by decide +kernel
theorem dX5_splitBusiest_12 : decode cX5_splitBusiest 12 = .ok (.aload_n 0, 1) := by decide +kernel
theorem dX5_splitBusiest_13 : decode cX5_splitBusiest 13 = .ok (.getfield 18, 3) := by decide +kernel
theorem dX5_splitBusiest_16 : decode cX5_splitBusiest 16 = .ok (.iload_n 2, 1) := by decide +kernel
theorem dX5_splitBusiest_17 : decode cX5_splitBusiest 17 = .ok (.iaload, 1) := by decide +kernel
theorem dX5_splitBusiest_18 : decode cX5_splitBusiest 18 = .ok (.aload_n 0, 1) := by decide +kernel
theorem dX5_splitBusiest_19 : decode cX5_splitBusiest 19 = .ok (.getfield 18, 3) := by decide +kernel
