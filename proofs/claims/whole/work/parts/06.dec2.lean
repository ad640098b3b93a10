theorem dX8_light_41 : decode cX8_light 41 = .ok (.getfield 81, 3) := by decide +kernel
theorem dX8_light_44 : decode cX8_light 44 = .ok (.iload_n 1, 1) := by decide +kernel
theorem dX8_light_45 : decode cX8_light 45 = .ok (.iastore, 1) := by decide +kernel
theorem dX8_light_46 : decode cX8_light 46 = .ok (.aload_n 0, 1) := by decide +kernel
theorem dX8_light_47 : decode cX8_light 47 = .ok (.getfield 47, 3) := by decide +kernel
theorem dX8_light_50 : decode cX8_light 50 = .ok (.aload_n 0, 1) := by decide +kernel
theorem dX8_light_51 : decode cX8_light 51 = .ok (.getfield 81, 3) := by decide +kernel
theorem dX8_light_54 : decode cX8_light 54 = .ok (.iload_n 2, 1) := by decide +kernel
theorem dX8_light_55 : decode cX8_light 55 = .ok (.iastore, 1) := by decide +kernel
theorem dX8_light_56 : decode cX8_light 56 = .ok (.aload_n 0, 1) := by decide +kernel
theorem dX8_light_57 : decode cX8_light 57 = .ok (.dup, 1) := by decide +kernel
theorem dX8_light_58 : decode cX8_light 58 = .ok (.getfield 81, 3) := by decide +kernel
theorem dX8_light_61 : decode cX8_light 61 = .ok (.iconst 1, 1) := by decide +kernel
theorem dX8_light_62 : decode cX8_light 62 = .ok (.iadd, 1) := by decide +kernel
theorem dX8_light_63 : decode cX8_light 63 = .ok (.putfield 81, 3) := by decide +kernel
theorem dX8_light_66 : decode cX8_light 66 = .ok (.aload_n 0, 1) := by decide +kernel
theorem dX8_light_67 : decode cX8_light 67 = .ok (.getfield 81, 3) := by decide +kernel
theorem dX8_light_70 : decode cX8_light 70 = .ok (.ireturn, 1) := by decide +kernel
theorem dX8_clear_0 : decode cX8_clear 0 = .ok (.aload_n 0, 1) := by decide +kernel
theorem dX8_clear_1 : decode cX8_clear 1 = .ok (.getfield 50, 3) := by decide +kernel
theorem dX8_clear_4 : decode cX8_clear 4 = .ok (.sipush 1816, 3) := by decide +kernel
theorem dX8_clear_7 : decode cX8_clear 7 = .ok (.iaload, 1) := by decide +kernel
theorem dX8_clear_8 : decode cX8_clear 8 = .ok (.istore_n 1, 1) := by decide +kernel
theorem dX8_clear_9 : decode cX8_clear 9 = .ok (.aload_n 0, 1) := by decide +kernel
theorem dX8_clear_10 : decode cX8_clear 10 = .ok (.invokevirtual 71, 3) := by decide +kernel
theorem dX8_clear_13 : decode cX8_clear 13 = .ok (.iload_n 1, 1) := by decide +kernel
theorem dX8_clear_14 : decode cX8_clear 14 = .ok (.ireturn, 1) := by decide +kernel
theorem dX8_skyOf_0 : decode cX8_skyOf 0 = .ok (.bipush (-6), 2) := by decide +kernel
theorem dX8_skyOf_2 : decode cX8_skyOf 2 = .ok (.istore_n 2, 1) := by decide +kernel
theorem dX8_skyOf_3 : decode cX8_skyOf 3 = .ok (.iconst 0, 1) := by decide +kernel
theorem dX8_skyOf_4 : decode cX8_skyOf 4 = .ok (.istore_n 3, 1) := by decide +kernel
theorem dX8_skyOf_5 : decode cX8_skyOf 5 = .ok (.iload_n 3, 1) := by decide +kernel
theorem dX8_skyOf_6 : decode cX8_skyOf 6 = .ok (.aload_n 0, 1) := by decide +kernel
theorem dX8_skyOf_7 : decode cX8_skyOf 7 = .ok (.getfield 78, 3) := by decide +kernel
theorem dX8_skyOf_10 : decode cX8_skyOf 10 = .ok (.if_icmp .ge 56, 3) := by decide +kernel
theorem dX8_skyOf_13 : decode cX8_skyOf 13 = .ok (.iload_n 2, 1) := by decide +kernel
theorem dX8_skyOf_14 : decode cX8_skyOf 14 = .ok (.ifCond .lt 18, 3) := by decide +kernel
theorem dX8_skyOf_17 : decode cX8_skyOf 17 = .ok (.aload_n 0, 1) := by decide +kernel
theorem dX8_skyOf_18 : decode cX8_skyOf 18 = .ok (.getfield 32, 3) := by decide +kernel
theorem dX8_skyOf_21 : decode cX8_skyOf 21 = .ok (.iload_n 3, 1) := by decide +kernel
theorem dX8_skyOf_22 : decode cX8_skyOf 22 = .ok (.iaload, 1) := by decide +kernel
theorem dX8_skyOf_23 : decode cX8_skyOf 23 = .ok (.aload_n 0, 1) := by decide +kernel
theorem dX8_skyOf_24 : decode cX8_skyOf 24 = .ok (.getfield 32, 3) := by decide +kernel
theorem dX8_skyOf_27 : decode cX8_skyOf 27 = .ok (.iload_n 2, 1) := by decide +kernel
theorem dX8_skyOf_28 : decode cX8_skyOf 28 = .ok (.iaload, 1) := by decide +kernel
theorem dX8_skyOf_29 : decode cX8_skyOf 29 = .ok (.if_icmp .lt 7, 3) := by decide +kernel
theorem dX8_skyOf_32 : decode cX8_skyOf 32 = .ok (.iconst 1, 1) := by decide +kernel
theorem dX8_skyOf_33 : decode cX8_skyOf 33 = .ok (.goto 4, 3) := by decide +kernel
theorem dX8_skyOf_36 : decode cX8_skyOf 36 = .ok (.iconst 0, 1) := by decide +kernel
theorem dX8_skyOf_37 : decode cX8_skyOf 37 = .ok (.istore 4, 2) := by decide +kernel
theorem dX8_skyOf_39 : decode cX8_skyOf 39 = .ok (.aload_n 0, 1) := by decide +kernel
theorem dX8_skyOf_40 : decode cX8_skyOf 40 = .ok (.getfield 32, 3) := by decide +kernel
theorem dX8_skyOf_43 : decode cX8_skyOf 43 = .ok (.iload_n 3, 1) := by decide +kernel
theorem dX8_skyOf_44 : decode cX8_skyOf 44 = .ok (.iaload, 1) := by decide +kernel
theorem dX8_skyOf_45 : decode cX8_skyOf 45 = .ok (.iload_n 1, 1) := by decide +kernel
theorem dX8_skyOf_46 : decode cX8_skyOf 46 = .ok (.if_icmp .gt 12, 3) := by decide +kernel
theorem dX8_skyOf_49 : decode cX8_skyOf 49 = .ok (.iload 4, 2) := by decide +kernel
theorem dX8_skyOf_51 : decode cX8_skyOf 51 = .ok (.ifCond .eq 7, 3) := by decide +kernel
theorem dX8_skyOf_54 : decode cX8_skyOf 54 = .ok (.iload_n 3, 1) := by decide +kernel
theorem dX8_skyOf_55 : decode cX8_skyOf 55 = .ok (.goto 4, 3) := by decide +kernel
theorem dX8_skyOf_58 : decode cX8_skyOf 58 = .ok (.iload_n 2, 1) := by decide +kernel
theorem dX8_skyOf_59 : decode cX8_skyOf 59 = .ok (.istore_n 2, 1) := by decide +kernel
theorem dX8_skyOf_60 : decode cX8_skyOf 60 = .ok (.iinc 3 1, 3) := by decide +kernel
theorem dX8_skyOf_63 : decode cX8_skyOf 63 = .ok (.goto (-58), 3) := by decide +kernel
theorem dX8_skyOf_66 : decode cX8_skyOf 66 = .ok (.iload_n 2, 1) := by decide +kernel
theorem dX8_skyOf_67 : decode cX8_skyOf 67 = .ok (.ireturn, 1) := by decide +kernel
theorem dX8_sky_0 : decode cX8_sky 0 = .ok (.iload_n 1, 1) := by decide +kernel
theorem dX8_sky_1 : decode cX8_sky 1 = .ok (.ifCond .lt 12, 3) := by decide +kernel
theorem dX8_sky_4 : decode cX8_sky 4 = .ok (.iload_n 2, 1) := by decide +kernel
theorem dX8_sky_5 : decode cX8_sky 5 = .ok (.iconst 0, 1) := by decide +kernel
theorem dX8_sky_6 : decode cX8_sky 6 = .ok (.iconst 2, 1) := by decide +kernel
theorem dX8_sky_7 : decode cX8_sky 7 = .ok (.invokestatic 74, 3) := by decide +kernel
theorem dX8_sky_10 : decode cX8_sky 10 = .ok (.ifCond .ne 6, 3) := by decide +kernel
theorem dX8_sky_13 : decode cX8_sky 13 = .ok (.bipush (-2), 2) := by decide +kernel
theorem dX8_sky_15 : decode cX8_sky 15 = .ok (.ireturn, 1) := by decide +kernel
theorem dX8_sky_16 : decode cX8_sky 16 = .ok (.aload_n 0, 1) := by decide +kernel
theorem dX8_sky_17 : decode cX8_sky 17 = .ok (.iload_n 1, 1) := by decide +kernel
theorem dX8_sky_18 : decode cX8_sky 18 = .ok (.invokevirtual 91, 3) := by decide +kernel
theorem dX8_sky_21 : decode cX8_sky 21 = .ok (.istore_n 3, 1) := by decide +kernel
theorem dX8_sky_22 : decode cX8_sky 22 = .ok (.iload_n 3, 1) := by decide +kernel
theorem dX8_sky_23 : decode cX8_sky 23 = .ok (.ifCond .ge 7, 3) := by decide +kernel
theorem dX8_sky_26 : decode cX8_sky 26 = .ok (.iconst 0, 1) := by decide +kernel
theorem dX8_sky_27 : decode cX8_sky 27 = .ok (.goto 36, 3) := by decide +kernel
theorem dX8_sky_30 : decode cX8_sky 30 = .ok (.iload_n 2, 1) := by decide +kernel
theorem dX8_sky_31 : decode cX8_sky 31 = .ok (.ifCond .ne 12, 3) := by decide +kernel
theorem dX8_sky_34 : decode cX8_sky 34 = .ok (.aload_n 0, 1) := by decide +kernel
theorem dX8_sky_35 : decode cX8_sky 35 = .ok (.getfield 35, 3) := by decide +kernel
theorem dX8_sky_38 : decode cX8_sky 38 = .ok (.iload_n 3, 1) := by decide +kernel
theorem dX8_sky_39 : decode cX8_sky 39 = .ok (.iaload, 1) := by decide +kernel
theorem dX8_sky_40 : decode cX8_sky 40 = .ok (.goto 23, 3) := by decide +kernel
theorem dX8_sky_43 : decode cX8_sky 43 = .ok (.iload_n 2, 1) := by decide +kernel
theorem dX8_sky_44 : decode cX8_sky 44 = .ok (.iconst 1, 1) := by decide +kernel
theorem dX8_sky_45 : decode cX8_sky 45 = .ok (.if_icmp .ne 12, 3) := by decide +kernel
theorem dX8_sky_48 : decode cX8_sky 48 = .ok (.aload_n 0, 1) := by decide +kernel
theorem dX8_sky_49 : decode cX8_sky 49 = .ok (.getfield 38, 3) := by decide +kernel
theorem dX8_sky_52 : decode cX8_sky 52 = .ok (.iload_n 3, 1) := by decide +kernel
theorem dX8_sky_53 : decode cX8_sky 53 = .ok (.iaload, 1) := by decide +kernel
theorem dX8_sky_54 : decode cX8_sky 54 = .ok (.goto 9, 3) := by decide +kernel
theorem dX8_sky_57 : decode cX8_sky 57 = .ok (.aload_n 0, 1) := by decide +kernel
theorem dX8_sky_58 : decode cX8_sky 58 = .ok (.getfield 41, 3) := by decide +kernel
theorem dX8_sky_61 : decode cX8_sky 61 = .ok (.iload_n 3, 1) := by decide +kernel
theorem dX8_sky_62 : decode cX8_sky 62 = .ok (.iaload, 1) := by decide +kernel
theorem dX8_sky_63 : decode cX8_sky 63 = .ok (.ireturn, 1) := by decide +kernel
theorem dX8_lot_0 : decode cX8_lot 0 = .ok (.aload_n 0, 1) := by decide +kernel
theorem dX8_lot_1 : decode cX8_lot 1 = .ok (.getfield 88, 3) := by decide +kernel
theorem dX8_lot_4 : decode cX8_lot 4 = .ok (.ldc 95, 2) := by decide +kernel
theorem dX8_lot_6 : decode cX8_lot 6 = .ok (.imul, 1) := by decide +kernel
theorem dX8_lot_7 : decode cX8_lot 7 = .ok (.iload_n 1, 1) := by decide +kernel
theorem dX8_lot_8 : decode cX8_lot 8 = .ok (.ldc 96, 2) := by decide +kernel
theorem dX8_lot_10 : decode cX8_lot 10 = .ok (.imul, 1) := by decide +kernel
theorem dX8_lot_11 : decode cX8_lot 11 = .ok (.iadd, 1) := by decide +kernel
theorem dX8_lot_12 : decode cX8_lot 12 = .ok (.iload_n 2, 1) := by decide +kernel
theorem dX8_lot_13 : decode cX8_lot 13 = .ok (.ldc 97, 2) := by decide +kernel
theorem dX8_lot_15 : decode cX8_lot 15 = .ok (.imul, 1) := by decide +kernel
theorem dX8_lot_16 : decode cX8_lot 16 = .ok (.iadd, 1) := by decide +kernel
theorem dX8_lot_17 : decode cX8_lot 17 = .ok (.iload_n 3, 1) := by decide +kernel
theorem dX8_lot_18 : decode cX8_lot 18 = .ok (.sipush 9973, 3) := by decide +kernel
theorem dX8_lot_21 : decode cX8_lot 21 = .ok (.imul, 1) := by decide +kernel
theorem dX8_lot_22 : decode cX8_lot 22 = .ok (.iadd, 1) := by decide +kernel
theorem dX8_lot_23 : decode cX8_lot 23 = .ok (.istore 4, 2) := by decide +kernel
theorem dX8_lot_25 : decode cX8_lot 25 = .ok (.iload 4, 2) := by decide +kernel
theorem dX8_lot_27 : decode cX8_lot 27 = .ok (.iload 4, 2) := by decide +kernel
theorem dX8_lot_29 : decode cX8_lot 29 = .ok (.bipush 15, 2) := by decide +kernel
theorem dX8_lot_31 : decode cX8_lot 31 = .ok (.iushr, 1) := by decide +kernel
theorem dX8_lot_32 : decode cX8_lot 32 = .ok (.ixor, 1) := by decide +kernel
theorem dX8_lot_33 : decode cX8_lot 33 = .ok (.ldc 98, 2) := by decide +kernel
theorem dX8_lot_35 : decode cX8_lot 35 = .ok (.imul, 1) := by decide +kernel
theorem dX8_lot_36 : decode cX8_lot 36 = .ok (.istore 4, 2) := by decide +kernel
theorem dX8_lot_38 : decode cX8_lot 38 = .ok (.iload 4, 2) := by decide +kernel
theorem dX8_lot_40 : decode cX8_lot 40 = .ok (.iload 4, 2) := by decide +kernel
theorem dX8_lot_42 : decode cX8_lot 42 = .ok (.bipush 15, 2) := by decide +kernel
theorem dX8_lot_44 : decode cX8_lot 44 = .ok (.iushr, 1) := by decide +kernel
theorem dX8_lot_45 : decode cX8_lot 45 = .ok (.ixor, 1) := by decide +kernel
theorem dX8_lot_46 : decode cX8_lot 46 = .ok (.ldc 98, 2) := by decide +kernel
theorem dX8_lot_48 : decode cX8_lot 48 = .ok (.imul, 1) := by decide +kernel
theorem dX8_lot_49 : decode cX8_lot 49 = .ok (.istore 4, 2) := by decide +kernel
theorem dX8_lot_51 : decode cX8_lot 51 = .ok (.iload 4, 2) := by decide +kernel
theorem dX8_lot_53 : decode cX8_lot 53 = .ok (.bipush 16, 2) := by decide +kernel
theorem dX8_lot_55 : decode cX8_lot 55 = .ok (.iushr, 1) := by decide +kernel
theorem dX8_lot_56 : decode cX8_lot 56 = .ok (.ireturn, 1) := by decide +kernel
theorem dX8_down_0 : decode cX8_down 0 = .ok (.iload_n 0, 1) := by decide +kernel
theorem dX8_down_1 : decode cX8_down 1 = .ok (.bipush 7, 2) := by decide +kernel
theorem dX8_down_3 : decode cX8_down 3 = .ok (.if_icmp .eq 8, 3) := by decide +kernel
theorem dX8_down_6 : decode cX8_down 6 = .ok (.iload_n 0, 1) := by decide +kernel
theorem dX8_down_7 : decode cX8_down 7 = .ok (.iconst 2, 1) := by decide +kernel
theorem dX8_down_8 : decode cX8_down 8 = .ok (.if_icmp .ge 7, 3) := by decide +kernel
theorem dX8_down_11 : decode cX8_down 11 = .ok (.iconst (-1), 1) := by decide +kernel
theorem dX8_down_12 : decode cX8_down 12 = .ok (.goto 19, 3) := by decide +kernel
theorem dX8_down_15 : decode cX8_down 15 = .ok (.iload_n 0, 1) := by decide +kernel
theorem dX8_down_16 : decode cX8_down 16 = .ok (.iconst 2, 1) := by decide +kernel
theorem dX8_down_17 : decode cX8_down 17 = .ok (.if_icmp .eq 9, 3) := by decide +kernel
theorem dX8_down_20 : decode cX8_down 20 = .ok (.iload_n 0, 1) := by decide +kernel
theorem dX8_down_21 : decode cX8_down 21 = .ok (.bipush 6, 2) := by decide +kernel
theorem dX8_down_23 : decode cX8_down 23 = .ok (.if_icmp .ne 7, 3) := by decide +kernel
theorem dX8_down_26 : decode cX8_down 26 = .ok (.iconst 0, 1) := by decide +kernel
theorem dX8_down_27 : decode cX8_down 27 = .ok (.goto 4, 3) := by decide +kernel
theorem dX8_down_30 : decode cX8_down 30 = .ok (.iconst 1, 1) := by decide +kernel
theorem dX8_down_31 : decode cX8_down 31 = .ok (.ireturn, 1) := by decide +kernel
theorem dX8_right_0 : decode cX8_right 0 = .ok (.iload_n 0, 1) := by decide +kernel
theorem dX8_right_1 : decode cX8_right 1 = .ok (.ifCond .le 12, 3) := by decide +kernel
theorem dX8_right_4 : decode cX8_right 4 = .ok (.iload_n 0, 1) := by decide +kernel
theorem dX8_right_5 : decode cX8_right 5 = .ok (.iconst 4, 1) := by decide +kernel
theorem dX8_right_6 : decode cX8_right 6 = .ok (.if_icmp .ge 7, 3) := by decide +kernel
theorem dX8_right_9 : decode cX8_right 9 = .ok (.iconst 1, 1) := by decide +kernel
theorem dX8_right_10 : decode cX8_right 10 = .ok (.goto 17, 3) := by decide +kernel
theorem dX8_right_13 : decode cX8_right 13 = .ok (.iload_n 0, 1) := by decide +kernel
theorem dX8_right_14 : decode cX8_right 14 = .ok (.ifCond .eq 8, 3) := by decide +kernel
theorem dX8_right_17 : decode cX8_right 17 = .ok (.iload_n 0, 1) := by decide +kernel
theorem dX8_right_18 : decode cX8_right 18 = .ok (.iconst 4, 1) := by decide +kernel
theorem dX8_right_19 : decode cX8_right 19 = .ok (.if_icmp .ne 7, 3) := by decide +kernel
theorem dX8_right_22 : decode cX8_right 22 = .ok (.iconst 0, 1) := by decide +kernel
theorem dX8_right_23 : decode cX8_right 23 = .ok (.goto 4, 3) := by decide +kernel
theorem dX8_right_26 : decode cX8_right 26 = .ok (.iconst (-1), 1) := by decide +kernel
theorem dX8_right_27 : decode cX8_right 27 = .ok (.ireturn, 1) := by decide +kernel
theorem dX8_off_0 : decode cX8_off 0 = .ok (.iload_n 1, 1) := by decide +kernel
theorem dX8_off_1 : decode cX8_off 1 = .ok (.aload_n 0, 1) := by decide +kernel
theorem dX8_off_2 : decode cX8_off 2 = .ok (.getfield 13, 3) := by decide +kernel
theorem dX8_off_5 : decode cX8_off 5 = .ok (.idiv, 1) := by decide +kernel
theorem dX8_off_6 : decode cX8_off 6 = .ok (.iload_n 3, 1) := by decide +kernel
theorem dX8_off_7 : decode cX8_off 7 = .ok (.iload_n 2, 1) := by decide +kernel
theorem dX8_off_8 : decode cX8_off 8 = .ok (.invokestatic 99, 3) := by decide +kernel
theorem dX8_off_11 : decode cX8_off 11 = .ok (.imul, 1) := by decide +kernel
theorem dX8_off_12 : decode cX8_off 12 = .ok (.iadd, 1) := by decide +kernel
theorem dX8_off_13 : decode cX8_off 13 = .ok (.istore 4, 2) := by decide +kernel
theorem dX8_off_15 : decode cX8_off 15 = .ok (.iload_n 1, 1) := by decide +kernel
theorem dX8_off_16 : decode cX8_off 16 = .ok (.aload_n 0, 1) := by decide +kernel
theorem dX8_off_17 : decode cX8_off 17 = .ok (.getfield 13, 3) := by decide +kernel
theorem dX8_off_20 : decode cX8_off 20 = .ok (.irem, 1) := by decide +kernel
theorem dX8_off_21 : decode cX8_off 21 = .ok (.iload_n 3, 1) := by decide +kernel
theorem dX8_off_22 : decode cX8_off 22 = .ok (.iload_n 2, 1) := by decide +kernel
theorem dX8_off_23 : decode cX8_off 23 = .ok (.invokestatic 102, 3) := by decide +kernel
theorem dX8_off_26 : decode cX8_off 26 = .ok (.imul, 1) := by decide +kernel
theorem dX8_off_27 : decode cX8_off 27 = .ok (.iadd, 1) := by decide +kernel
theorem dX8_off_28 : decode cX8_off 28 = .ok (.istore 5, 2) := by decide +kernel
theorem dX8_off_30 : decode cX8_off 30 = .ok (.iload 4, 2) := by decide +kernel
theorem dX8_off_32 : decode cX8_off 32 = .ok (.iconst 0, 1) := by decide +kernel
theorem dX8_off_33 : decode cX8_off 33 = .ok (.aload_n 0, 1) := by decide +kernel
theorem dX8_off_34 : decode cX8_off 34 = .ok (.getfield 7, 3) := by decide +kernel
theorem dX8_off_37 : decode cX8_off 37 = .ok (.iconst 1, 1) := by decide +kernel
theorem dX8_off_38 : decode cX8_off 38 = .ok (.isub, 1) := by decide +kernel
theorem dX8_off_39 : decode cX8_off 39 = .ok (.invokestatic 74, 3) := by decide +kernel
theorem dX8_off_42 : decode cX8_off 42 = .ok (.ifCond .eq 31, 3) := by decide +kernel
theorem dX8_off_45 : decode cX8_off 45 = .ok (.iload 5, 2) := by decide +kernel
theorem dX8_off_47 : decode cX8_off 47 = .ok (.iconst 0, 1) := by decide +kernel
theorem dX8_off_48 : decode cX8_off 48 = .ok (.aload_n 0, 1) := by decide +kernel
theorem dX8_off_49 : decode cX8_off 49 = .ok (.getfield 13, 3) := by decide +kernel
theorem dX8_off_52 : decode cX8_off 52 = .ok (.iconst 1, 1) := by decide +kernel
theorem dX8_off_53 : decode cX8_off 53 = .ok (.isub, 1) := by decide +kernel
theorem dX8_off_54 : decode cX8_off 54 = .ok (.invokestatic 74, 3) := by decide +kernel
theorem dX8_off_57 : decode cX8_off 57 = .ok (.ifCond .eq 16, 3) := by decide +kernel
theorem dX8_off_60 : decode cX8_off 60 = .ok (.iload 4, 2) := by decide +kernel
theorem dX8_off_62 : decode cX8_off 62 = .ok (.aload_n 0, 1) := by decide +kernel
theorem dX8_off_63 : decode cX8_off 63 = .ok (.getfield 13, 3) := by decide +kernel
theorem dX8_off_66 : decode cX8_off 66 = .ok (.imul, 1) := by decide +kernel
theorem dX8_off_67 : decode cX8_off 67 = .ok (.iload 5, 2) := by decide +kernel
theorem dX8_off_69 : decode cX8_off 69 = .ok (.iadd, 1) := by decide +kernel
theorem dX8_off_70 : decode cX8_off 70 = .ok (.goto 5, 3) := by decide +kernel
theorem dX8_off_73 : decode cX8_off 73 = .ok (.bipush (-6), 2) := by decide +kernel
theorem dX8_off_75 : decode cX8_off 75 = .ok (.ireturn, 1) := by decide +kernel
theorem dX8_rate_0 : decode cX8_rate 0 = .ok (.iload_n 0, 1) := by decide +kernel
theorem dX8_rate_1 : decode cX8_rate 1 = .ok (.iconst 1, 1) := by decide +kernel
theorem dX8_rate_2 : decode cX8_rate 2 = .ok (.if_icmp .ne 8, 3) := by decide +kernel
theorem dX8_rate_5 : decode cX8_rate 5 = .ok (.bipush 12, 2) := by decide +kernel
theorem dX8_rate_7 : decode cX8_rate 7 = .ok (.goto 24, 3) := by decide +kernel
theorem dX8_rate_10 : decode cX8_rate 10 = .ok (.iload_n 0, 1) := by decide +kernel
theorem dX8_rate_11 : decode cX8_rate 11 = .ok (.iconst 2, 1) := by decide +kernel
theorem dX8_rate_12 : decode cX8_rate 12 = .ok (.if_icmp .ne 8, 3) := by decide +kernel
theorem dX8_rate_15 : decode cX8_rate 15 = .ok (.bipush 8, 2) := by decide +kernel
theorem dX8_rate_17 : decode cX8_rate 17 = .ok (.goto 14, 3) := by decide +kernel
theorem dX8_rate_20 : decode cX8_rate 20 = .ok (.iload_n 0, 1) := by decide +kernel
theorem dX8_rate_21 : decode cX8_rate 21 = .ok (.iconst 3, 1) := by decide +kernel
theorem dX8_rate_22 : decode cX8_rate 22 = .ok (.if_icmp .ne 8, 3) := by decide +kernel
theorem dX8_rate_25 : decode cX8_rate 25 = .ok (.bipush 6, 2) := by decide +kernel
theorem dX8_rate_27 : decode cX8_rate 27 = .ok (.goto 4, 3) := by decide +kernel
theorem dX8_rate_30 : decode cX8_rate 30 = .ok (.iconst 2, 1) := by decide +kernel
theorem dX8_rate_31 : decode cX8_rate 31 = .ok (.ireturn, 1) := by decide +kernel
theorem dX8_catches_0 : decode cX8_catches 0 = .ok (.iload_n 0, 1) := by decide +kernel
theorem dX8_catches_1 : decode cX8_catches 1 = .ok (.iconst 1, 1) := by decide +kernel
theorem dX8_catches_2 : decode cX8_catches 2 = .ok (.if_icmp .ne 8, 3) := by decide +kernel
theorem dX8_catches_5 : decode cX8_catches 5 = .ok (.bipush 20, 2) := by decide +kernel
theorem dX8_catches_7 : decode cX8_catches 7 = .ok (.goto 25, 3) := by decide +kernel
theorem dX8_catches_10 : decode cX8_catches 10 = .ok (.iload_n 0, 1) := by decide +kernel
theorem dX8_catches_11 : decode cX8_catches 11 = .ok (.iconst 2, 1) := by decide +kernel
theorem dX8_catches_12 : decode cX8_catches 12 = .ok (.if_icmp .ne 8, 3) := by decide +kernel
theorem dX8_catches_15 : decode cX8_catches 15 = .ok (.bipush 30, 2) := by decide +kernel
theorem dX8_catches_17 : decode cX8_catches 17 = .ok (.goto 15, 3) := by decide +kernel
theorem dX8_catches_20 : decode cX8_catches 20 = .ok (.iload_n 0, 1) := by decide +kernel
theorem dX8_catches_21 : decode cX8_catches 21 = .ok (.iconst 3, 1) := by decide +kernel
theorem dX8_catches_22 : decode cX8_catches 22 = .ok (.if_icmp .ne 8, 3) := by decide +kernel
theorem dX8_catches_25 : decode cX8_catches 25 = .ok (.bipush 50, 2) := by decide +kernel
theorem dX8_catches_27 : decode cX8_catches 27 = .ok (.goto 5, 3) := by decide +kernel
theorem dX8_catches_30 : decode cX8_catches 30 = .ok (.bipush 40, 2) := by decide +kernel
theorem dX8_catches_32 : decode cX8_catches 32 = .ok (.ireturn, 1) := by decide +kernel
theorem dX8_stripOf_0 : decode cX8_stripOf 0 = .ok (.iload_n 1, 1) := by decide +kernel
theorem dX8_stripOf_1 : decode cX8_stripOf 1 = .ok (.aload_n 0, 1) := by decide +kernel
theorem dX8_stripOf_2 : decode cX8_stripOf 2 = .ok (.getfield 13, 3) := by decide +kernel
theorem dX8_stripOf_5 : decode cX8_stripOf 5 = .ok (.idiv, 1) := by decide +kernel
theorem dX8_stripOf_6 : decode cX8_stripOf 6 = .ok (.istore_n 2, 1) := by decide +kernel
theorem dX8_stripOf_7 : decode cX8_stripOf 7 = .ok (.iconst 0, 1) := by decide +kernel
theorem dX8_stripOf_8 : decode cX8_stripOf 8 = .ok (.istore_n 3, 1) := by decide +kernel
theorem dX8_stripOf_9 : decode cX8_stripOf 9 = .ok (.iconst 0, 1) := by decide +kernel
theorem dX8_stripOf_10 : decode cX8_stripOf 10 = .ok (.istore 4, 2) := by decide +kernel
theorem dX8_stripOf_12 : decode cX8_stripOf 12 = .ok (.iload 4, 2) := by decide +kernel
theorem dX8_stripOf_14 : decode cX8_stripOf 14 = .ok (.aload_n 0, 1) := by decide +kernel
theorem dX8_stripOf_15 : decode cX8_stripOf 15 = .ok (.getfield 50, 3) := by decide +kernel
theorem dX8_stripOf_18 : decode cX8_stripOf 18 = .ok (.sipush 1818, 3) := by decide +kernel
theorem dX8_stripOf_21 : decode cX8_stripOf 21 = .ok (.iaload, 1) := by decide +kernel
theorem dX8_stripOf_22 : decode cX8_stripOf 22 = .ok (.if_icmp .ge 51, 3) := by decide +kernel
theorem dX8_stripOf_25 : decode cX8_stripOf 25 = .ok (.iload_n 2, 1) := by decide +kernel
theorem dX8_stripOf_26 : decode cX8_stripOf 26 = .ok (.aload_n 0, 1) := by decide +kernel
theorem dX8_stripOf_27 : decode cX8_stripOf 27 = .ok (.getfield 50, 3) := by decide +kernel
theorem dX8_stripOf_30 : decode cX8_stripOf 30 = .ok (.sipush 1792, 3) := by decide +kernel
theorem dX8_stripOf_33 : decode cX8_stripOf 33 = .ok (.iconst 3, 1) := by decide +kernel
theorem dX8_stripOf_34 : decode cX8_stripOf 34 = .ok (.iload 4, 2) := by decide +kernel
theorem dX8_stripOf_36 : decode cX8_stripOf 36 = .ok (.imul, 1) := by decide +kernel
theorem dX8_stripOf_37 : decode cX8_stripOf 37 = .ok (.iadd, 1) := by decide +kernel
theorem dX8_stripOf_38 : decode cX8_stripOf 38 = .ok (.iaload, 1) := by decide +kernel
theorem dX8_stripOf_39 : decode cX8_stripOf 39 = .ok (.aload_n 0, 1) := by decide +kernel
theorem dX8_stripOf_40 : decode cX8_stripOf 40 = .ok (.getfield 50, 3) := by decide +kernel
theorem dX8_stripOf_43 : decode cX8_stripOf 43 = .ok (.sipush 1792, 3) := by decide +kernel
theorem dX8_stripOf_46 : decode cX8_stripOf 46 = .ok (.iconst 3, 1) := by decide +kernel
theorem dX8_stripOf_47 : decode cX8_stripOf 47 = .ok (.iload 4, 2) := by decide +kernel
theorem dX8_stripOf_49 : decode cX8_stripOf 49 = .ok (.imul, 1) := by decide +kernel
theorem dX8_stripOf_50 : decode cX8_stripOf 50 = .ok (.iadd, 1) := by decide +kernel
theorem dX8_stripOf_51 : decode cX8_stripOf 51 = .ok (.iconst 1, 1) := by decide +kernel
theorem dX8_stripOf_52 : decode cX8_stripOf 52 = .ok (.iadd, 1) := by decide +kernel
theorem dX8_stripOf_53 : decode cX8_stripOf 53 = .ok (.iaload, 1) := by decide +kernel
theorem dX8_stripOf_54 : decode cX8_stripOf 54 = .ok (.invokestatic 74, 3) := by decide +kernel
theorem dX8_stripOf_57 : decode cX8_stripOf 57 = .ok (.ifCond .eq 8, 3) := by decide +kernel
theorem dX8_stripOf_60 : decode cX8_stripOf 60 = .ok (.iload 4, 2) := by decide +kernel
theorem dX8_stripOf_62 : decode cX8_stripOf 62 = .ok (.goto 4, 3) := by decide +kernel
theorem dX8_stripOf_65 : decode cX8_stripOf 65 = .ok (.iload_n 3, 1) := by decide +kernel
theorem dX8_stripOf_66 : decode cX8_stripOf 66 = .ok (.istore_n 3, 1) := by decide +kernel
theorem dX8_stripOf_67 : decode cX8_stripOf 67 = .ok (.iinc 4 1, 3) := by decide +kernel
theorem dX8_stripOf_70 : decode cX8_stripOf 70 = .ok (.goto (-58), 3) := by decide +kernel
theorem dX8_stripOf_73 : decode cX8_stripOf 73 = .ok (.iload_n 3, 1) := by decide +kernel
theorem dX8_stripOf_74 : decode cX8_stripOf 74 = .ok (.ireturn, 1) := by decide +kernel
theorem dX8_passes_0 : decode cX8_passes 0 = .ok (.aload_n 0, 1) := by decide +kernel
theorem dX8_passes_1 : decode cX8_passes 1 = .ok (.getfield 50, 3) := by decide +kernel
theorem dX8_passes_4 : decode cX8_passes 4 = .ok (.sipush 1821, 3) := by decide +kernel
theorem dX8_passes_7 : decode cX8_passes 7 = .ok (.dup2, 1) := by decide +kernel
theorem dX8_passes_8 : decode cX8_passes 8 = .ok (.iaload, 1) := by decide +kernel
theorem dX8_passes_9 : decode cX8_passes 9 = .ok (.aload_n 0, 1) := by decide +kernel
theorem dX8_passes_10 : decode cX8_passes 10 = .ok (.iload_n 1, 1) := by decide +kernel
theorem dX8_passes_11 : decode cX8_passes 11 = .ok (.invokevirtual 105, 3) := by decide +kernel
theorem dX8_passes_14 : decode cX8_passes 14 = .ok (.aload_n 0, 1) := by decide +kernel
theorem dX8_passes_15 : decode cX8_passes 15 = .ok (.iload_n 2, 1) := by decide +kernel
theorem dX8_passes_16 : decode cX8_passes 16 = .ok (.invokevirtual 105, 3) := by decide +kernel
theorem dX8_passes_19 : decode cX8_passes 19 = .ok (.if_icmp .eq 7, 3) := by decide +kernel
theorem dX8_passes_22 : decode cX8_passes 22 = .ok (.iconst 1, 1) := by decide +kernel
theorem dX8_passes_23 : decode cX8_passes 23 = .ok (.goto 4, 3) := by decide +kernel
theorem dX8_passes_26 : decode cX8_passes 26 = .ok (.iconst 0, 1) := by decide +kernel
theorem dX8_passes_27 : decode cX8_passes 27 = .ok (.iadd, 1) := by decide +kernel
theorem dX8_passes_28 : decode cX8_passes 28 = .ok (.iastore, 1) := by decide +kernel
theorem dX8_passes_29 : decode cX8_passes 29 = .ok (.return_, 1) := by decide +kernel
theorem dX8_kindle_0 : decode cX8_kindle 0 = .ok (.aload_n 0, 1) := by decide +kernel
theorem dX8_kindle_1 : decode cX8_kindle 1 = .ok (.getfield 50, 3) := by decide +kernel
theorem dX8_kindle_4 : decode cX8_kindle 4 = .ok (.iconst 0, 1) := by decide +kernel
theorem dX8_kindle_5 : decode cX8_kindle 5 = .ok (.iload_n 1, 1) := by decide +kernel
theorem dX8_kindle_6 : decode cX8_kindle 6 = .ok (.iadd, 1) := by decide +kernel
theorem dX8_kindle_7 : decode cX8_kindle 7 = .ok (.iaload, 1) := by decide +kernel
theorem dX8_kindle_8 : decode cX8_kindle 8 = .ok (.iconst 1, 1) := by decide +kernel
theorem dX8_kindle_9 : decode cX8_kindle 9 = .ok (.if_icmp .ne 58, 3) := by decide +kernel
theorem dX8_kindle_12 : decode cX8_kindle 12 = .ok (.aload_n 0, 1) := by decide +kernel
theorem dX8_kindle_13 : decode cX8_kindle 13 = .ok (.getfield 50, 3) := by decide +kernel
theorem dX8_kindle_16 : decode cX8_kindle 16 = .ok (.iconst 0, 1) := by decide +kernel
theorem dX8_kindle_17 : decode cX8_kindle 17 = .ok (.iload_n 1, 1) := by decide +kernel
theorem dX8_kindle_18 : decode cX8_kindle 18 = .ok (.iadd, 1) := by decide +kernel
theorem dX8_kindle_19 : decode cX8_kindle 19 = .ok (.iconst 2, 1) := by decide +kernel
theorem dX8_kindle_20 : decode cX8_kindle 20 = .ok (.iastore, 1) := by decide +kernel
theorem dX8_kindle_21 : decode cX8_kindle 21 = .ok (.aload_n 0, 1) := by decide +kernel
theorem dX8_kindle_22 : decode cX8_kindle 22 = .ok (.getfield 50, 3) := by decide +kernel
theorem dX8_kindle_25 : decode cX8_kindle 25 = .ok (.sipush 1280, 3) := by decide +kernel
theorem dX8_kindle_28 : decode cX8_kindle 28 = .ok (.iload_n 1, 1) := by decide +kernel
theorem dX8_kindle_29 : decode cX8_kindle 29 = .ok (.iadd, 1) := by decide +kernel
theorem dX8_kindle_30 : decode cX8_kindle 30 = .ok (.aload_n 0, 1) := by decide +kernel
theorem dX8_kindle_31 : decode cX8_kindle 31 = .ok (.getfield 50, 3) := by decide +kernel
theorem dX8_kindle_34 : decode cX8_kindle 34 = .ok (.sipush 1280, 3) := by decide +kernel
theorem dX8_kindle_37 : decode cX8_kindle 37 = .ok (.iload_n 1, 1) := by decide +kernel
theorem dX8_kindle_38 : decode cX8_kindle 38 = .ok (.iadd, 1) := by decide +kernel
theorem dX8_kindle_39 : decode cX8_kindle 39 = .ok (.iaload, 1) := by decide +kernel
theorem dX8_kindle_40 : decode cX8_kindle 40 = .ok (.bipush (-6), 2) := by decide +kernel
theorem dX8_kindle_42 : decode cX8_kindle 42 = .ok (.if_icmp .ne 14, 3) := by decide +kernel
theorem dX8_kindle_45 : decode cX8_kindle 45 = .ok (.aload_n 0, 1) := by decide +kernel
theorem dX8_kindle_46 : decode cX8_kindle 46 = .ok (.getfield 50, 3) := by decide +kernel
theorem dX8_kindle_49 : decode cX8_kindle 49 = .ok (.sipush 1816, 3) := by decide +kernel
theorem dX8_kindle_52 : decode cX8_kindle 52 = .ok (.iaload, 1) := by decide +kernel
theorem dX8_kindle_53 : decode cX8_kindle 53 = .ok (.goto 13, 3) := by decide +kernel
theorem dX8_kindle_56 : decode cX8_kindle 56 = .ok (.aload_n 0, 1) := by decide +kernel
theorem dX8_kindle_57 : decode cX8_kindle 57 = .ok (.getfield 50, 3) := by decide +kernel
theorem dX8_kindle_60 : decode cX8_kindle 60 = .ok (.sipush 1280, 3) := by decide +kernel
theorem dX8_kindle_63 : decode cX8_kindle 63 = .ok (.iload_n 1, 1) := by decide +kernel
theorem dX8_kindle_64 : decode cX8_kindle 64 = .ok (.iadd, 1) := by decide +kernel
theorem dX8_kindle_65 : decode cX8_kindle 65 = .ok (.iaload, 1) := by decide +kernel
theorem dX8_kindle_66 : decode cX8_kindle 66 = .ok (.iastore, 1) := by decide +kernel
theorem dX8_kindle_67 : decode cX8_kindle 67 = .ok (.return_, 1) := by decide +kernel
theorem dX8_windOf_0 : decode cX8_windOf 0 = .ok (.iload_n 3, 1) := by decide +kernel
theorem dX8_windOf_1 : decode cX8_windOf 1 = .ok (.iload_n 1, 1) := by decide +kernel
theorem dX8_windOf_2 : decode cX8_windOf 2 = .ok (.if_icmp .le 9, 3) := by decide +kernel
theorem dX8_windOf_5 : decode cX8_windOf 5 = .ok (.iload_n 3, 1) := by decide +kernel
theorem dX8_windOf_6 : decode cX8_windOf 6 = .ok (.iload_n 1, 1) := by decide +kernel
theorem dX8_windOf_7 : decode cX8_windOf 7 = .ok (.isub, 1) := by decide +kernel
theorem dX8_windOf_8 : decode cX8_windOf 8 = .ok (.goto 6, 3) := by decide +kernel
theorem dX8_windOf_11 : decode cX8_windOf 11 = .ok (.iload_n 1, 1) := by decide +kernel
theorem dX8_windOf_12 : decode cX8_windOf 12 = .ok (.iload_n 3, 1) := by decide +kernel
theorem dX8_windOf_13 : decode cX8_windOf 13 = .ok (.isub, 1) := by decide +kernel
theorem dX8_windOf_14 : decode cX8_windOf 14 = .ok (.istore 4, 2) := by decide +kernel
theorem dX8_windOf_16 : decode cX8_windOf 16 = .ok (.iload 4, 2) := by decide +kernel
theorem dX8_windOf_18 : decode cX8_windOf 18 = .ok (.iconst 4, 1) := by decide +kernel
theorem dX8_windOf_19 : decode cX8_windOf 19 = .ok (.if_icmp .le 11, 3) := by decide +kernel
theorem dX8_windOf_22 : decode cX8_windOf 22 = .ok (.bipush 8, 2) := by decide +kernel
theorem dX8_windOf_24 : decode cX8_windOf 24 = .ok (.iload 4, 2) := by decide +kernel
theorem dX8_windOf_26 : decode cX8_windOf 26 = .ok (.isub, 1) := by decide +kernel
theorem dX8_windOf_27 : decode cX8_windOf 27 = .ok (.goto 5, 3) := by decide +kernel
theorem dX8_windOf_30 : decode cX8_windOf 30 = .ok (.iload 4, 2) := by decide +kernel
theorem dX8_windOf_32 : decode cX8_windOf 32 = .ok (.istore 4, 2) := by decide +kernel
theorem dX8_windOf_34 : decode cX8_windOf 34 = .ok (.iload_n 2, 1) := by decide +kernel
theorem dX8_windOf_35 : decode cX8_windOf 35 = .ok (.iconst 2, 1) := by decide +kernel
theorem dX8_windOf_36 : decode cX8_windOf 36 = .ok (.iload 4, 2) := by decide +kernel
theorem dX8_windOf_38 : decode cX8_windOf 38 = .ok (.isub, 1) := by decide +kernel
theorem dX8_windOf_39 : decode cX8_windOf 39 = .ok (.imul, 1) := by decide +kernel
theorem dX8_windOf_40 : decode cX8_windOf 40 = .ok (.ireturn, 1) := by decide +kernel
theorem dX8_burns_0 : decode cX8_burns 0 = .ok (.iconst 0, 1) := by decide +kernel
theorem dX8_burns_1 : decode cX8_burns 1 = .ok (.istore 4, 2) := by decide +kernel
theorem dX8_burns_3 : decode cX8_burns 3 = .ok (.iload 4, 2) := by decide +kernel
theorem dX8_burns_5 : decode cX8_burns 5 = .ok (.bipush 8, 2) := by decide +kernel
theorem dX8_burns_7 : decode cX8_burns 7 = .ok (.if_icmp .ge 121, 3) := by decide +kernel
theorem dX8_burns_10 : decode cX8_burns 10 = .ok (.aload_n 0, 1) := by decide +kernel
theorem dX8_burns_11 : decode cX8_burns 11 = .ok (.iload_n 1, 1) := by decide +kernel
theorem dX8_burns_12 : decode cX8_burns 12 = .ok (.iload 4, 2) := by decide +kernel
theorem dX8_burns_14 : decode cX8_burns 14 = .ok (.iconst 1, 1) := by decide +kernel
theorem dX8_burns_15 : decode cX8_burns 15 = .ok (.invokevirtual 108, 3) := by decide +kernel
theorem dX8_burns_18 : decode cX8_burns 18 = .ok (.istore 5, 2) := by decide +kernel
theorem dX8_burns_20 : decode cX8_burns 20 = .ok (.iload 5, 2) := by decide +kernel
theorem dX8_burns_22 : decode cX8_burns 22 = .ok (.ifCond .ge 6, 3) := by decide +kernel
theorem dX8_burns_25 : decode cX8_burns 25 = .ok (.goto 97, 3) := by decide +kernel
theorem dX8_burns_28 : decode cX8_burns 28 = .ok (.aload_n 0, 1) := by decide +kernel
theorem dX8_burns_29 : decode cX8_burns 29 = .ok (.getfield 23, 3) := by decide +kernel
theorem dX8_burns_32 : decode cX8_burns 32 = .ok (.iload 5, 2) := by decide +kernel
theorem dX8_burns_34 : decode cX8_burns 34 = .ok (.iaload, 1) := by decide +kernel
theorem dX8_burns_35 : decode cX8_burns 35 = .ok (.aload_n 0, 1) := by decide +kernel
theorem dX8_burns_36 : decode cX8_burns 36 = .ok (.getfield 23, 3) := by decide +kernel
theorem dX8_burns_39 : decode cX8_burns 39 = .ok (.iload_n 1, 1) := by decide +kernel
theorem dX8_burns_40 : decode cX8_burns 40 = .ok (.iaload, 1) := by decide +kernel
theorem dX8_burns_41 : decode cX8_burns 41 = .ok (.isub, 1) := by decide +kernel
theorem dX8_burns_42 : decode cX8_burns 42 = .ok (.istore 6, 2) := by decide +kernel
theorem dX8_burns_44 : decode cX8_burns 44 = .ok (.iload 6, 2) := by decide +kernel
theorem dX8_burns_46 : decode cX8_burns 46 = .ok (.bipush 6, 2) := by decide +kernel
theorem dX8_burns_48 : decode cX8_burns 48 = .ok (.if_icmp .le 8, 3) := by decide +kernel
theorem dX8_burns_51 : decode cX8_burns 51 = .ok (.bipush 6, 2) := by decide +kernel
theorem dX8_burns_53 : decode cX8_burns 53 = .ok (.goto 17, 3) := by decide +kernel
theorem dX8_burns_56 : decode cX8_burns 56 = .ok (.iload 6, 2) := by decide +kernel
theorem dX8_burns_58 : decode cX8_burns 58 = .ok (.bipush (-6), 2) := by decide +kernel
theorem dX8_burns_60 : decode cX8_burns 60 = .ok (.if_icmp .ge 8, 3) := by decide +kernel
theorem dX8_burns_63 : decode cX8_burns 63 = .ok (.bipush (-6), 2) := by decide +kernel
theorem dX8_burns_65 : decode cX8_burns 65 = .ok (.goto 5, 3) := by decide +kernel
theorem dX8_burns_68 : decode cX8_burns 68 = .ok (.iload 6, 2) := by decide +kernel
theorem dX8_burns_70 : decode cX8_burns 70 = .ok (.istore 6, 2) := by decide +kernel
theorem dX8_burns_72 : decode cX8_burns 72 = .ok (.aload_n 0, 1) := by decide +kernel
theorem dX8_burns_73 : decode cX8_burns 73 = .ok (.getfield 62, 3) := by decide +kernel
theorem dX8_burns_76 : decode cX8_burns 76 = .ok (.iload_n 1, 1) := by decide +kernel
theorem dX8_burns_77 : decode cX8_burns 77 = .ok (.iaload, 1) := by decide +kernel
theorem dX8_burns_78 : decode cX8_burns 78 = .ok (.bipush 8, 2) := by decide +kernel
theorem dX8_burns_80 : decode cX8_burns 80 = .ok (.aload_n 0, 1) := by decide +kernel
theorem dX8_burns_81 : decode cX8_burns 81 = .ok (.iload_n 2, 1) := by decide +kernel
theorem dX8_burns_82 : decode cX8_burns 82 = .ok (.iload_n 3, 1) := by decide +kernel
theorem dX8_burns_83 : decode cX8_burns 83 = .ok (.iload 4, 2) := by decide +kernel
theorem dX8_burns_85 : decode cX8_burns 85 = .ok (.invokevirtual 112, 3) := by decide +kernel
theorem dX8_burns_88 : decode cX8_burns 88 = .ok (.iadd, 1) := by decide +kernel
theorem dX8_burns_89 : decode cX8_burns 89 = .ok (.iload 6, 2) := by decide +kernel
theorem dX8_burns_91 : decode cX8_burns 91 = .ok (.iadd, 1) := by decide +kernel
theorem dX8_burns_92 : decode cX8_burns 92 = .ok (.imul, 1) := by decide +kernel
theorem dX8_burns_93 : decode cX8_burns 93 = .ok (.bipush 8, 2) := by decide +kernel
theorem dX8_burns_95 : decode cX8_burns 95 = .ok (.idiv, 1) := by decide +kernel
theorem dX8_burns_96 : decode cX8_burns 96 = .ok (.istore 7, 2) := by decide +kernel
theorem dX8_burns_98 : decode cX8_burns 98 = .ok (.iload 7, 2) := by decide +kernel
theorem dX8_burns_100 : decode cX8_burns 100 = .ok (.ifCond .le 22, 3) := by decide +kernel
theorem dX8_burns_103 : decode cX8_burns 103 = .ok (.aload_n 0, 1) := by decide +kernel
theorem dX8_burns_104 : decode cX8_burns 104 = .ok (.getfield 65, 3) := by decide +kernel
theorem dX8_burns_107 : decode cX8_burns 107 = .ok (.iload 5, 2) := by decide +kernel
theorem dX8_burns_109 : decode cX8_burns 109 = .ok (.dup2, 1) := by decide +kernel
theorem dX8_burns_110 : decode cX8_burns 110 = .ok (.iaload, 1) := by decide +kernel
theorem dX8_burns_111 : decode cX8_burns 111 = .ok (.iload 7, 2) := by decide +kernel
theorem dX8_burns_113 : decode cX8_burns 113 = .ok (.iadd, 1) := by decide +kernel
theorem dX8_burns_114 : decode cX8_burns 114 = .ok (.iastore, 1) := by decide +kernel
theorem dX8_burns_115 : decode cX8_burns 115 = .ok (.aload_n 0, 1) := by decide +kernel
theorem dX8_burns_116 : decode cX8_burns 116 = .ok (.iload_n 1, 1) := by decide +kernel
theorem dX8_burns_117 : decode cX8_burns 117 = .ok (.iload 5, 2) := by decide +kernel
theorem dX8_burns_119 : decode cX8_burns 119 = .ok (.invokevirtual 115, 3) := by decide +kernel
theorem dX8_burns_122 : decode cX8_burns 122 = .ok (.iinc 4 1, 3) := by decide +kernel
theorem dX8_burns_125 : decode cX8_burns 125 = .ok (.goto (-122), 3) := by decide +kernel
theorem dX8_burns_128 : decode cX8_burns 128 = .ok (.aload_n 0, 1) := by decide +kernel
theorem dX8_burns_129 : decode cX8_burns 129 = .ok (.getfield 50, 3) := by decide +kernel
theorem dX8_burns_132 : decode cX8_burns 132 = .ok (.sipush 1816, 3) := by decide +kernel
theorem dX8_burns_135 : decode cX8_burns 135 = .ok (.iaload, 1) := by decide +kernel
theorem dX8_burns_136 : decode cX8_burns 136 = .ok (.istore 4, 2) := by decide +kernel
theorem dX8_burns_138 : decode cX8_burns 138 = .ok (.aload_n 0, 1) := by decide +kernel
theorem dX8_burns_139 : decode cX8_burns 139 = .ok (.getfield 19, 3) := by decide +kernel
theorem dX8_burns_142 : decode cX8_burns 142 = .ok (.iload_n 1, 1) := by decide +kernel
theorem dX8_burns_143 : decode cX8_burns 143 = .ok (.iaload, 1) := by decide +kernel
theorem dX8_burns_144 : decode cX8_burns 144 = .ok (.iconst 3, 1) := by decide +kernel
theorem dX8_burns_145 : decode cX8_burns 145 = .ok (.if_icmp .ne 82, 3) := by decide +kernel
theorem dX8_burns_148 : decode cX8_burns 148 = .ok (.iload_n 3, 1) := by decide +kernel
theorem dX8_burns_149 : decode cX8_burns 149 = .ok (.iconst 1, 1) := by decide +kernel
theorem dX8_burns_150 : decode cX8_burns 150 = .ok (.if_icmp .le 77, 3) := by decide +kernel
theorem dX8_burns_153 : decode cX8_burns 153 = .ok (.aload_n 0, 1) := by decide +kernel
theorem dX8_burns_154 : decode cX8_burns 154 = .ok (.iload 4, 2) := by decide +kernel
theorem dX8_burns_156 : decode cX8_burns 156 = .ok (.iload_n 1, 1) := by decide +kernel
theorem dX8_burns_157 : decode cX8_burns 157 = .ok (.iconst 0, 1) := by decide +kernel
theorem dX8_burns_158 : decode cX8_burns 158 = .ok (.invokevirtual 119, 3) := by decide +kernel
theorem dX8_burns_161 : decode cX8_burns 161 = .ok (.bipush 100, 2) := by decide +kernel
theorem dX8_burns_163 : decode cX8_burns 163 = .ok (.irem, 1) := by decide +kernel
theorem dX8_burns_164 : decode cX8_burns 164 = .ok (.bipush 6, 2) := by decide +kernel
theorem dX8_burns_166 : decode cX8_burns 166 = .ok (.iload_n 3, 1) := by decide +kernel
theorem dX8_burns_167 : decode cX8_burns 167 = .ok (.imul, 1) := by decide +kernel
theorem dX8_burns_168 : decode cX8_burns 168 = .ok (.if_icmp .ge 59, 3) := by decide +kernel
theorem dX8_burns_171 : decode cX8_burns 171 = .ok (.aload_n 0, 1) := by decide +kernel
theorem dX8_burns_172 : decode cX8_burns 172 = .ok (.iload_n 1, 1) := by decide +kernel
theorem dX8_burns_173 : decode cX8_burns 173 = .ok (.iload_n 2, 1) := by decide +kernel
theorem dX8_burns_174 : decode cX8_burns 174 = .ok (.iconst 2, 1) := by decide +kernel
theorem dX8_burns_175 : decode cX8_burns 175 = .ok (.aload_n 0, 1) := by decide +kernel
theorem dX8_burns_176 : decode cX8_burns 176 = .ok (.iload 4, 2) := by decide +kernel
theorem dX8_burns_178 : decode cX8_burns 178 = .ok (.iload_n 1, 1) := by decide +kernel
theorem dX8_burns_179 : decode cX8_burns 179 = .ok (.iconst 1, 1) := by decide +kernel
theorem dX8_burns_180 : decode cX8_burns 180 = .ok (.invokevirtual 119, 3) := by decide +kernel
theorem dX8_burns_183 : decode cX8_burns 183 = .ok (.iconst 3, 1) := by decide +kernel
theorem dX8_burns_184 : decode cX8_burns 184 = .ok (.irem, 1) := by decide +kernel
theorem dX8_burns_185 : decode cX8_burns 185 = .ok (.iadd, 1) := by decide +kernel
theorem dX8_burns_186 : decode cX8_burns 186 = .ok (.invokevirtual 108, 3) := by decide +kernel
theorem dX8_burns_189 : decode cX8_burns 189 = .ok (.istore 5, 2) := by decide +kernel
theorem dX8_burns_191 : decode cX8_burns 191 = .ok (.iload 5, 2) := by decide +kernel
theorem dX8_burns_193 : decode cX8_burns 193 = .ok (.ifCond .lt 34, 3) := by decide +kernel
theorem dX8_burns_196 : decode cX8_burns 196 = .ok (.aload_n 0, 1) := by decide +kernel
theorem dX8_burns_197 : decode cX8_burns 197 = .ok (.getfield 65, 3) := by decide +kernel
theorem dX8_burns_200 : decode cX8_burns 200 = .ok (.iload 5, 2) := by decide +kernel
theorem dX8_burns_202 : decode cX8_burns 202 = .ok (.dup2, 1) := by decide +kernel
theorem dX8_burns_203 : decode cX8_burns 203 = .ok (.iaload, 1) := by decide +kernel
theorem dX8_burns_204 : decode cX8_burns 204 = .ok (.bipush 40, 2) := by decide +kernel
theorem dX8_burns_206 : decode cX8_burns 206 = .ok (.iadd, 1) := by decide +kernel
theorem dX8_burns_207 : decode cX8_burns 207 = .ok (.iastore, 1) := by decide +kernel
theorem dX8_burns_208 : decode cX8_burns 208 = .ok (.aload_n 0, 1) := by decide +kernel
theorem dX8_burns_209 : decode cX8_burns 209 = .ok (.getfield 50, 3) := by decide +kernel
theorem dX8_burns_212 : decode cX8_burns 212 = .ok (.sipush 1819, 3) := by decide +kernel
theorem dX8_burns_215 : decode cX8_burns 215 = .ok (.dup2, 1) := by decide +kernel
theorem dX8_burns_216 : decode cX8_burns 216 = .ok (.iaload, 1) := by decide +kernel
theorem dX8_burns_217 : decode cX8_burns 217 = .ok (.iconst 1, 1) := by decide +kernel
theorem dX8_burns_218 : decode cX8_burns 218 = .ok (.iadd, 1) := by decide +kernel
theorem dX8_burns_219 : decode cX8_burns 219 = .ok (.iastore, 1) := by decide +kernel
theorem dX8_burns_220 : decode cX8_burns 220 = .ok (.aload_n 0, 1) := by decide +kernel
theorem dX8_burns_221 : decode cX8_burns 221 = .ok (.iload_n 1, 1) := by decide +kernel
theorem dX8_burns_222 : decode cX8_burns 222 = .ok (.iload 5, 2) := by decide +kernel
theorem dX8_burns_224 : decode cX8_burns 224 = .ok (.invokevirtual 115, 3) := by decide +kernel
theorem dX8_burns_227 : decode cX8_burns 227 = .ok (.return_, 1) := by decide +kernel
theorem dX8_turns_0 : decode cX8_turns 0 = .ok (.aload_n 0, 1) := by decide +kernel
theorem dX8_turns_1 : decode cX8_turns 1 = .ok (.getfield 50, 3) := by decide +kernel
theorem dX8_turns_4 : decode cX8_turns 4 = .ok (.sipush 768, 3) := by decide +kernel
theorem dX8_turns_7 : decode cX8_turns 7 = .ok (.iload_n 1, 1) := by decide +kernel
theorem dX8_turns_8 : decode cX8_turns 8 = .ok (.iadd, 1) := by decide +kernel
theorem dX8_turns_9 : decode cX8_turns 9 = .ok (.aload_n 0, 1) := by decide +kernel
theorem dX8_turns_10 : decode cX8_turns 10 = .ok (.getfield 50, 3) := by decide +kernel
theorem dX8_turns_13 : decode cX8_turns 13 = .ok (.sipush 768, 3) := by decide +kernel
theorem dX8_turns_16 : decode cX8_turns 16 = .ok (.iload_n 1, 1) := by decide +kernel
theorem dX8_turns_17 : decode cX8_turns 17 = .ok (.iadd, 1) := by decide +kernel
theorem dX8_turns_18 : decode cX8_turns 18 = .ok (.iaload, 1) := by decide +kernel
theorem dX8_turns_19 : decode cX8_turns 19 = .ok (.iconst 2, 1) := by decide +kernel
theorem dX8_turns_20 : decode cX8_turns 20 = .ok (.idiv, 1) := by decide +kernel
theorem dX8_turns_21 : decode cX8_turns 21 = .ok (.aload_n 0, 1) := by decide +kernel
theorem dX8_turns_22 : decode cX8_turns 22 = .ok (.getfield 65, 3) := by decide +kernel
theorem dX8_turns_25 : decode cX8_turns 25 = .ok (.iload_n 1, 1) := by decide +kernel
theorem dX8_turns_26 : decode cX8_turns 26 = .ok (.iaload, 1) := by decide +kernel
theorem dX8_turns_27 : decode cX8_turns 27 = .ok (.iadd, 1) := by decide +kernel
theorem dX8_turns_28 : decode cX8_turns 28 = .ok (.iastore, 1) := by decide +kernel
theorem dX8_turns_29 : decode cX8_turns 29 = .ok (.aload_n 0, 1) := by decide +kernel
theorem dX8_turns_30 : decode cX8_turns 30 = .ok (.getfield 50, 3) := by decide +kernel
theorem dX8_turns_33 : decode cX8_turns 33 = .ok (.iconst 0, 1) := by decide +kernel
theorem dX8_turns_34 : decode cX8_turns 34 = .ok (.iload_n 1, 1) := by decide +kernel
theorem dX8_turns_35 : decode cX8_turns 35 = .ok (.iadd, 1) := by decide +kernel
theorem dX8_turns_36 : decode cX8_turns 36 = .ok (.iaload, 1) := by decide +kernel
theorem dX8_turns_37 : decode cX8_turns 37 = .ok (.iconst 1, 1) := by decide +kernel
theorem dX8_turns_38 : decode cX8_turns 38 = .ok (.if_icmp .ne 100, 3) := by decide +kernel
theorem dX8_turns_41 : decode cX8_turns 41 = .ok (.aload_n 0, 1) := by decide +kernel
theorem dX8_turns_42 : decode cX8_turns 42 = .ok (.getfield 50, 3) := by decide +kernel
theorem dX8_turns_45 : decode cX8_turns 45 = .ok (.sipush 512, 3) := by decide +kernel
theorem dX8_turns_48 : decode cX8_turns 48 = .ok (.iload_n 1, 1) := by decide +kernel
theorem dX8_turns_49 : decode cX8_turns 49 = .ok (.iadd, 1) := by decide +kernel
theorem dX8_turns_50 : decode cX8_turns 50 = .ok (.iaload, 1) := by decide +kernel
theorem dX8_turns_51 : decode cX8_turns 51 = .ok (.aload_n 0, 1) := by decide +kernel
theorem dX8_turns_52 : decode cX8_turns 52 = .ok (.getfield 65, 3) := by decide +kernel
theorem dX8_turns_55 : decode cX8_turns 55 = .ok (.iload_n 1, 1) := by decide +kernel
theorem dX8_turns_56 : decode cX8_turns 56 = .ok (.iaload, 1) := by decide +kernel
theorem dX8_turns_57 : decode cX8_turns 57 = .ok (.iconst 4, 1) := by decide +kernel
theorem dX8_turns_58 : decode cX8_turns 58 = .ok (.idiv, 1) := by decide +kernel
theorem dX8_turns_59 : decode cX8_turns 59 = .ok (.isub, 1) := by decide +kernel
theorem dX8_turns_60 : decode cX8_turns 60 = .ok (.istore_n 3, 1) := by decide +kernel
theorem dX8_turns_61 : decode cX8_turns 61 = .ok (.iload_n 3, 1) := by decide +kernel
theorem dX8_turns_62 : decode cX8_turns 62 = .ok (.ifCond .ge 7, 3) := by decide +kernel
theorem dX8_turns_65 : decode cX8_turns 65 = .ok (.iconst 0, 1) := by decide +kernel
theorem dX8_turns_66 : decode cX8_turns 66 = .ok (.goto 4, 3) := by decide +kernel
theorem dX8_turns_69 : decode cX8_turns 69 = .ok (.iload_n 3, 1) := by decide +kernel
theorem dX8_turns_70 : decode cX8_turns 70 = .ok (.iconst 3, 1) := by decide +kernel
theorem dX8_turns_71 : decode cX8_turns 71 = .ok (.iload_n 2, 1) := by decide +kernel
theorem dX8_turns_72 : decode cX8_turns 72 = .ok (.imul, 1) := by decide +kernel
theorem dX8_turns_73 : decode cX8_turns 73 = .ok (.iadd, 1) := by decide +kernel
theorem dX8_turns_74 : decode cX8_turns 74 = .ok (.istore_n 3, 1) := by decide +kernel
theorem dX8_turns_75 : decode cX8_turns 75 = .ok (.aload_n 0, 1) := by decide +kernel
theorem dX8_turns_76 : decode cX8_turns 76 = .ok (.getfield 50, 3) := by decide +kernel
theorem dX8_turns_79 : decode cX8_turns 79 = .ok (.sipush 512, 3) := by decide +kernel
theorem dX8_turns_82 : decode cX8_turns 82 = .ok (.iload_n 1, 1) := by decide +kernel
theorem dX8_turns_83 : decode cX8_turns 83 = .ok (.iadd, 1) := by decide +kernel
theorem dX8_turns_84 : decode cX8_turns 84 = .ok (.iload_n 3, 1) := by decide +kernel
theorem dX8_turns_85 : decode cX8_turns 85 = .ok (.bipush 100, 2) := by decide +kernel
theorem dX8_turns_87 : decode cX8_turns 87 = .ok (.if_icmp .le 8, 3) := by decide +kernel
theorem dX8_turns_90 : decode cX8_turns 90 = .ok (.bipush 100, 2) := by decide +kernel
theorem dX8_turns_92 : decode cX8_turns 92 = .ok (.goto 4, 3) := by decide +kernel
theorem dX8_turns_95 : decode cX8_turns 95 = .ok (.iload_n 3, 1) := by decide +kernel
theorem dX8_turns_96 : decode cX8_turns 96 = .ok (.iastore, 1) := by decide +kernel
theorem dX8_turns_97 : decode cX8_turns 97 = .ok (.aload_n 0, 1) := by decide +kernel
theorem dX8_turns_98 : decode cX8_turns 98 = .ok (.getfield 50, 3) := by decide +kernel
theorem dX8_turns_101 : decode cX8_turns 101 = .ok (.sipush 768, 3) := by decide +kernel
theorem dX8_turns_104 : decode cX8_turns 104 = .ok (.iload_n 1, 1) := by decide +kernel
theorem dX8_turns_105 : decode cX8_turns 105 = .ok (.iadd, 1) := by decide +kernel
theorem dX8_turns_106 : decode cX8_turns 106 = .ok (.iaload, 1) := by decide +kernel
theorem dX8_turns_107 : decode cX8_turns 107 = .ok (.aload_n 0, 1) := by decide +kernel
theorem dX8_turns_108 : decode cX8_turns 108 = .ok (.getfield 19, 3) := by decide +kernel
theorem dX8_turns_111 : decode cX8_turns 111 = .ok (.iload_n 1, 1) := by decide +kernel
theorem dX8_turns_112 : decode cX8_turns 112 = .ok (.iaload, 1) := by decide +kernel
theorem dX8_turns_113 : decode cX8_turns 113 = .ok (.invokestatic 122, 3) := by decide +kernel
theorem dX8_turns_116 : decode cX8_turns 116 = .ok (.aload_n 0, 1) := by decide +kernel
theorem dX8_turns_117 : decode cX8_turns 117 = .ok (.getfield 50, 3) := by decide +kernel
theorem dX8_turns_120 : decode cX8_turns 120 = .ok (.sipush 512, 3) := by decide +kernel
theorem dX8_turns_123 : decode cX8_turns 123 = .ok (.iload_n 1, 1) := by decide +kernel
theorem dX8_turns_124 : decode cX8_turns 124 = .ok (.iadd, 1) := by decide +kernel
theorem dX8_turns_125 : decode cX8_turns 125 = .ok (.iaload, 1) := by decide +kernel
theorem dX8_turns_126 : decode cX8_turns 126 = .ok (.iadd, 1) := by decide +kernel
theorem dX8_turns_127 : decode cX8_turns 127 = .ok (.if_icmp .lt 8, 3) := by decide +kernel
theorem dX8_turns_130 : decode cX8_turns 130 = .ok (.aload_n 0, 1) := by decide +kernel
theorem dX8_turns_131 : decode cX8_turns 131 = .ok (.iload_n 1, 1) := by decide +kernel
theorem dX8_turns_132 : decode cX8_turns 132 = .ok (.invokevirtual 125, 3) := by decide +kernel
theorem dX8_turns_135 : decode cX8_turns 135 = .ok (.goto 116, 3) := by decide +kernel
theorem dX8_turns_138 : decode cX8_turns 138 = .ok (.aload_n 0, 1) := by decide +kernel
theorem dX8_turns_139 : decode cX8_turns 139 = .ok (.getfield 50, 3) := by decide +kernel
theorem dX8_turns_142 : decode cX8_turns 142 = .ok (.iconst 0, 1) := by decide +kernel
theorem dX8_turns_143 : decode cX8_turns 143 = .ok (.iload_n 1, 1) := by decide +kernel
theorem dX8_turns_144 : decode cX8_turns 144 = .ok (.iadd, 1) := by decide +kernel
theorem dX8_turns_145 : decode cX8_turns 145 = .ok (.iaload, 1) := by decide +kernel
theorem dX8_turns_146 : decode cX8_turns 146 = .ok (.iconst 2, 1) := by decide +kernel
theorem dX8_turns_147 : decode cX8_turns 147 = .ok (.if_icmp .ne 104, 3) := by decide +kernel
theorem dX8_turns_150 : decode cX8_turns 150 = .ok (.aload_n 0, 1) := by decide +kernel
theorem dX8_turns_151 : decode cX8_turns 151 = .ok (.getfield 50, 3) := by decide +kernel
theorem dX8_turns_154 : decode cX8_turns 154 = .ok (.sipush 256, 3) := by decide +kernel
theorem dX8_turns_157 : decode cX8_turns 157 = .ok (.iload_n 1, 1) := by decide +kernel
theorem dX8_turns_158 : decode cX8_turns 158 = .ok (.iadd, 1) := by decide +kernel
theorem dX8_turns_159 : decode cX8_turns 159 = .ok (.dup2, 1) := by decide +kernel
theorem dX8_turns_160 : decode cX8_turns 160 = .ok (.iaload, 1) := by decide +kernel
theorem dX8_turns_161 : decode cX8_turns 161 = .ok (.aload_n 0, 1) := by decide +kernel
theorem dX8_turns_162 : decode cX8_turns 162 = .ok (.getfield 62, 3) := by decide +kernel
theorem dX8_turns_165 : decode cX8_turns 165 = .ok (.iload_n 1, 1) := by decide +kernel
theorem dX8_turns_166 : decode cX8_turns 166 = .ok (.iaload, 1) := by decide +kernel
theorem dX8_turns_167 : decode cX8_turns 167 = .ok (.isub, 1) := by decide +kernel
theorem dX8_turns_168 : decode cX8_turns 168 = .ok (.iastore, 1) := by decide +kernel
theorem dX8_turns_169 : decode cX8_turns 169 = .ok (.aload_n 0, 1) := by decide +kernel
theorem dX8_turns_170 : decode cX8_turns 170 = .ok (.getfield 50, 3) := by decide +kernel
theorem dX8_turns_173 : decode cX8_turns 173 = .ok (.sipush 1820, 3) := by decide +kernel
theorem dX8_turns_176 : decode cX8_turns 176 = .ok (.dup2, 1) := by decide +kernel
theorem dX8_turns_177 : decode cX8_turns 177 = .ok (.iaload, 1) := by decide +kernel
theorem dX8_turns_178 : decode cX8_turns 178 = .ok (.aload_n 0, 1) := by decide +kernel
theorem dX8_turns_179 : decode cX8_turns 179 = .ok (.getfield 62, 3) := by decide +kernel
theorem dX8_turns_182 : decode cX8_turns 182 = .ok (.iload_n 1, 1) := by decide +kernel
theorem dX8_turns_183 : decode cX8_turns 183 = .ok (.iaload, 1) := by decide +kernel
theorem dX8_turns_184 : decode cX8_turns 184 = .ok (.iadd, 1) := by decide +kernel
theorem dX8_turns_185 : decode cX8_turns 185 = .ok (.iastore, 1) := by decide +kernel
theorem dX8_turns_186 : decode cX8_turns 186 = .ok (.aload_n 0, 1) := by decide +kernel
theorem dX8_turns_187 : decode cX8_turns 187 = .ok (.getfield 50, 3) := by decide +kernel
theorem dX8_turns_190 : decode cX8_turns 190 = .ok (.sipush 256, 3) := by decide +kernel
theorem dX8_turns_193 : decode cX8_turns 193 = .ok (.iload_n 1, 1) := by decide +kernel
theorem dX8_turns_194 : decode cX8_turns 194 = .ok (.iadd, 1) := by decide +kernel
theorem dX8_turns_195 : decode cX8_turns 195 = .ok (.iaload, 1) := by decide +kernel
theorem dX8_turns_196 : decode cX8_turns 196 = .ok (.ifCond .ne 15, 3) := by decide +kernel
theorem dX8_turns_199 : decode cX8_turns 199 = .ok (.aload_n 0, 1) := by decide +kernel
theorem dX8_turns_200 : decode cX8_turns 200 = .ok (.getfield 50, 3) := by decide +kernel
theorem dX8_turns_203 : decode cX8_turns 203 = .ok (.iconst 0, 1) := by decide +kernel
theorem dX8_turns_204 : decode cX8_turns 204 = .ok (.iload_n 1, 1) := by decide +kernel
theorem dX8_turns_205 : decode cX8_turns 205 = .ok (.iadd, 1) := by decide +kernel
theorem dX8_turns_206 : decode cX8_turns 206 = .ok (.iconst 3, 1) := by decide +kernel
theorem dX8_turns_207 : decode cX8_turns 207 = .ok (.iastore, 1) := by decide +kernel
theorem dX8_turns_208 : decode cX8_turns 208 = .ok (.goto 43, 3) := by decide +kernel
theorem dX8_turns_211 : decode cX8_turns 211 = .ok (.iload_n 2, 1) := by decide +kernel
theorem dX8_turns_212 : decode cX8_turns 212 = .ok (.aload_n 0, 1) := by decide +kernel
theorem dX8_turns_213 : decode cX8_turns 213 = .ok (.getfield 62, 3) := by decide +kernel
theorem dX8_turns_216 : decode cX8_turns 216 = .ok (.iload_n 1, 1) := by decide +kernel
theorem dX8_turns_217 : decode cX8_turns 217 = .ok (.iaload, 1) := by decide +kernel
theorem dX8_turns_218 : decode cX8_turns 218 = .ok (.if_icmp .le 33, 3) := by decide +kernel
theorem dX8_turns_221 : decode cX8_turns 221 = .ok (.aload_n 0, 1) := by decide +kernel
theorem dX8_turns_222 : decode cX8_turns 222 = .ok (.aload_n 0, 1) := by decide +kernel
theorem dX8_turns_223 : decode cX8_turns 223 = .ok (.getfield 50, 3) := by decide +kernel
theorem dX8_turns_226 : decode cX8_turns 226 = .ok (.sipush 1816, 3) := by decide +kernel
theorem dX8_turns_229 : decode cX8_turns 229 = .ok (.iaload, 1) := by decide +kernel
theorem dX8_turns_230 : decode cX8_turns 230 = .ok (.iload_n 1, 1) := by decide +kernel
theorem dX8_turns_231 : decode cX8_turns 231 = .ok (.iconst 2, 1) := by decide +kernel
theorem dX8_turns_232 : decode cX8_turns 232 = .ok (.invokevirtual 119, 3) := by decide +kernel
theorem dX8_turns_235 : decode cX8_turns 235 = .ok (.bipush 10, 2) := by decide +kernel
theorem dX8_turns_237 : decode cX8_turns 237 = .ok (.irem, 1) := by decide +kernel
theorem dX8_turns_238 : decode cX8_turns 238 = .ok (.iload_n 2, 1) := by decide +kernel
theorem dX8_turns_239 : decode cX8_turns 239 = .ok (.if_icmp .ge 12, 3) := by decide +kernel
theorem dX8_turns_242 : decode cX8_turns 242 = .ok (.aload_n 0, 1) := by decide +kernel
theorem dX8_turns_243 : decode cX8_turns 243 = .ok (.getfield 50, 3) := by decide +kernel
theorem dX8_turns_246 : decode cX8_turns 246 = .ok (.iconst 0, 1) := by decide +kernel
theorem dX8_turns_247 : decode cX8_turns 247 = .ok (.iload_n 1, 1) := by decide +kernel
theorem dX8_turns_248 : decode cX8_turns 248 = .ok (.iadd, 1) := by decide +kernel
theorem dX8_turns_249 : decode cX8_turns 249 = .ok (.iconst 5, 1) := by decide +kernel
theorem dX8_turns_250 : decode cX8_turns 250 = .ok (.iastore, 1) := by decide +kernel
theorem dX8_turns_251 : decode cX8_turns 251 = .ok (.return_, 1) := by decide +kernel
theorem dX8_smokes_0 : decode cX8_smokes 0 = .ok (.iconst 0, 1) := by decide +kernel
theorem dX8_smokes_1 : decode cX8_smokes 1 = .ok (.istore_n 3, 1) := by decide +kernel
theorem dX8_smokes_2 : decode cX8_smokes 2 = .ok (.iload_n 3, 1) := by decide +kernel
theorem dX8_smokes_3 : decode cX8_smokes 3 = .ok (.aload_n 0, 1) := by decide +kernel
theorem dX8_smokes_4 : decode cX8_smokes 4 = .ok (.getfield 16, 3) := by decide +kernel
theorem dX8_smokes_7 : decode cX8_smokes 7 = .ok (.if_icmp .ge 16, 3) := by decide +kernel
theorem dX8_smokes_10 : decode cX8_smokes 10 = .ok (.aload_n 0, 1) := by decide +kernel
theorem dX8_smokes_11 : decode cX8_smokes 11 = .ok (.getfield 68, 3) := by decide +kernel
theorem dX8_smokes_14 : decode cX8_smokes 14 = .ok (.iload_n 3, 1) := by decide +kernel
theorem dX8_smokes_15 : decode cX8_smokes 15 = .ok (.iconst 0, 1) := by decide +kernel
theorem dX8_smokes_16 : decode cX8_smokes 16 = .ok (.iastore, 1) := by decide +kernel
theorem dX8_smokes_17 : decode cX8_smokes 17 = .ok (.iinc 3 1, 3) := by decide +kernel
theorem dX8_smokes_20 : decode cX8_smokes 20 = .ok (.goto (-18), 3) := by decide +kernel
theorem dX8_smokes_23 : decode cX8_smokes 23 = .ok (.iconst 0, 1) := by decide +kernel
theorem dX8_smokes_24 : decode cX8_smokes 24 = .ok (.istore_n 3, 1) := by decide +kernel
theorem dX8_smokes_25 : decode cX8_smokes 25 = .ok (.iload_n 3, 1) := by decide +kernel
theorem dX8_smokes_26 : decode cX8_smokes 26 = .ok (.aload_n 0, 1) := by decide +kernel
theorem dX8_smokes_27 : decode cX8_smokes 27 = .ok (.getfield 16, 3) := by decide +kernel
theorem dX8_smokes_30 : decode cX8_smokes 30 = .ok (.if_icmp .ge 103, 3) := by decide +kernel
theorem dX8_smokes_33 : decode cX8_smokes 33 = .ok (.aload_n 0, 1) := by decide +kernel
theorem dX8_smokes_34 : decode cX8_smokes 34 = .ok (.getfield 50, 3) := by decide +kernel
theorem dX8_smokes_37 : decode cX8_smokes 37 = .ok (.sipush 1024, 3) := by decide +kernel
theorem dX8_smokes_40 : decode cX8_smokes 40 = .ok (.iload_n 3, 1) := by decide +kernel
theorem dX8_smokes_41 : decode cX8_smokes 41 = .ok (.iadd, 1) := by decide +kernel
theorem dX8_smokes_42 : decode cX8_smokes 42 = .ok (.iaload, 1) := by decide +kernel
theorem dX8_smokes_43 : decode cX8_smokes 43 = .ok (.aload_n 0, 1) := by decide +kernel
theorem dX8_smokes_44 : decode cX8_smokes 44 = .ok (.getfield 62, 3) := by decide +kernel
theorem dX8_smokes_47 : decode cX8_smokes 47 = .ok (.iload_n 3, 1) := by decide +kernel
theorem dX8_smokes_48 : decode cX8_smokes 48 = .ok (.iaload, 1) := by decide +kernel
theorem dX8_smokes_49 : decode cX8_smokes 49 = .ok (.iadd, 1) := by decide +kernel
theorem dX8_smokes_50 : decode cX8_smokes 50 = .ok (.istore 4, 2) := by decide +kernel
theorem dX8_smokes_52 : decode cX8_smokes 52 = .ok (.iload_n 2, 1) := by decide +kernel
theorem dX8_smokes_53 : decode cX8_smokes 53 = .ok (.ifCond .le 10, 3) := by decide +kernel
theorem dX8_smokes_56 : decode cX8_smokes 56 = .ok (.iload 4, 2) := by decide +kernel
theorem dX8_smokes_58 : decode cX8_smokes 58 = .ok (.iconst 2, 1) := by decide +kernel
theorem dX8_smokes_59 : decode cX8_smokes 59 = .ok (.idiv, 1) := by decide +kernel
theorem dX8_smokes_60 : decode cX8_smokes 60 = .ok (.goto 4, 3) := by decide +kernel
theorem dX8_smokes_63 : decode cX8_smokes 63 = .ok (.iconst 0, 1) := by decide +kernel
theorem dX8_smokes_64 : decode cX8_smokes 64 = .ok (.istore 5, 2) := by decide +kernel
theorem dX8_smokes_66 : decode cX8_smokes 66 = .ok (.aload_n 0, 1) := by decide +kernel
theorem dX8_smokes_67 : decode cX8_smokes 67 = .ok (.iload_n 3, 1) := by decide +kernel
theorem dX8_smokes_68 : decode cX8_smokes 68 = .ok (.iload_n 1, 1) := by decide +kernel
theorem dX8_smokes_69 : decode cX8_smokes 69 = .ok (.iconst 1, 1) := by decide +kernel
theorem dX8_smokes_70 : decode cX8_smokes 70 = .ok (.invokevirtual 108, 3) := by decide +kernel
theorem dX8_smokes_73 : decode cX8_smokes 73 = .ok (.istore 6, 2) := by decide +kernel
theorem dX8_smokes_75 : decode cX8_smokes 75 = .ok (.iload 5, 2) := by decide +kernel
theorem dX8_smokes_77 : decode cX8_smokes 77 = .ok (.ifCond .le 27, 3) := by decide +kernel
theorem dX8_smokes_80 : decode cX8_smokes 80 = .ok (.iload 6, 2) := by decide +kernel
theorem dX8_smokes_82 : decode cX8_smokes 82 = .ok (.ifCond .lt 22, 3) := by decide +kernel
theorem dX8_smokes_85 : decode cX8_smokes 85 = .ok (.aload_n 0, 1) := by decide +kernel
theorem dX8_smokes_86 : decode cX8_smokes 86 = .ok (.getfield 68, 3) := by decide +kernel
theorem dX8_smokes_89 : decode cX8_smokes 89 = .ok (.iload 6, 2) := by decide +kernel
theorem dX8_smokes_91 : decode cX8_smokes 91 = .ok (.dup2, 1) := by decide +kernel
theorem dX8_smokes_92 : decode cX8_smokes 92 = .ok (.iaload, 1) := by decide +kernel
theorem dX8_smokes_93 : decode cX8_smokes 93 = .ok (.iload 5, 2) := by decide +kernel
theorem dX8_smokes_95 : decode cX8_smokes 95 = .ok (.iadd, 1) := by decide +kernel
theorem dX8_smokes_96 : decode cX8_smokes 96 = .ok (.iastore, 1) := by decide +kernel
theorem dX8_smokes_97 : decode cX8_smokes 97 = .ok (.aload_n 0, 1) := by decide +kernel
theorem dX8_smokes_98 : decode cX8_smokes 98 = .ok (.iload_n 3, 1) := by decide +kernel
theorem dX8_smokes_99 : decode cX8_smokes 99 = .ok (.iload 6, 2) := by decide +kernel
theorem dX8_smokes_101 : decode cX8_smokes 101 = .ok (.invokevirtual 115, 3) := by decide +kernel
theorem dX8_smokes_104 : decode cX8_smokes 104 = .ok (.aload_n 0, 1) := by decide +kernel
theorem dX8_smokes_105 : decode cX8_smokes 105 = .ok (.getfield 50, 3) := by decide +kernel
theorem dX8_smokes_108 : decode cX8_smokes 108 = .ok (.sipush 1024, 3) := by decide +kernel
theorem dX8_smokes_111 : decode cX8_smokes 111 = .ok (.iload_n 3, 1) := by decide +kernel
theorem dX8_smokes_112 : decode cX8_smokes 112 = .ok (.iadd, 1) := by decide +kernel
theorem dX8_smokes_113 : decode cX8_smokes 113 = .ok (.iload 4, 2) := by decide +kernel
theorem dX8_smokes_115 : decode cX8_smokes 115 = .ok (.iload 5, 2) := by decide +kernel
theorem dX8_smokes_117 : decode cX8_smokes 117 = .ok (.isub, 1) := by decide +kernel
theorem dX8_smokes_118 : decode cX8_smokes 118 = .ok (.iload 4, 2) := by decide +kernel
theorem dX8_smokes_120 : decode cX8_smokes 120 = .ok (.iload 5, 2) := by decide +kernel
theorem dX8_smokes_122 : decode cX8_smokes 122 = .ok (.isub, 1) := by decide +kernel
theorem dX8_smokes_123 : decode cX8_smokes 123 = .ok (.iconst 4, 1) := by decide +kernel
theorem dX8_smokes_124 : decode cX8_smokes 124 = .ok (.idiv, 1) := by decide +kernel
theorem dX8_smokes_125 : decode cX8_smokes 125 = .ok (.isub, 1) := by decide +kernel
theorem dX8_smokes_126 : decode cX8_smokes 126 = .ok (.iastore, 1) := by decide +kernel
theorem dX8_smokes_127 : decode cX8_smokes 127 = .ok (.iinc 3 1, 3) := by decide +kernel
theorem dX8_smokes_130 : decode cX8_smokes 130 = .ok (.goto (-105), 3) := by decide +kernel
theorem dX8_smokes_133 : decode cX8_smokes 133 = .ok (.iconst 0, 1) := by decide +kernel
theorem dX8_smokes_134 : decode cX8_smokes 134 = .ok (.istore_n 3, 1) := by decide +kernel
theorem dX8_smokes_135 : decode cX8_smokes 135 = .ok (.iload_n 3, 1) := by decide +kernel
theorem dX8_smokes_136 : decode cX8_smokes 136 = .ok (.aload_n 0, 1) := by decide +kernel
theorem dX8_smokes_137 : decode cX8_smokes 137 = .ok (.getfield 16, 3) := by decide +kernel
theorem dX8_smokes_140 : decode cX8_smokes 140 = .ok (.if_icmp .ge 28, 3) := by decide +kernel
theorem dX8_smokes_143 : decode cX8_smokes 143 = .ok (.aload_n 0, 1) := by decide +kernel
theorem dX8_smokes_144 : decode cX8_smokes 144 = .ok (.getfield 50, 3) := by decide +kernel
theorem dX8_smokes_147 : decode cX8_smokes 147 = .ok (.sipush 1024, 3) := by decide +kernel
theorem dX8_smokes_150 : decode cX8_smokes 150 = .ok (.iload_n 3, 1) := by decide +kernel
theorem dX8_smokes_151 : decode cX8_smokes 151 = .ok (.iadd, 1) := by decide +kernel
theorem dX8_smokes_152 : decode cX8_smokes 152 = .ok (.dup2, 1) := by decide +kernel
theorem dX8_smokes_153 : decode cX8_smokes 153 = .ok (.iaload, 1) := by decide +kernel
theorem dX8_smokes_154 : decode cX8_smokes 154 = .ok (.aload_n 0, 1) := by decide +kernel
theorem dX8_smokes_155 : decode cX8_smokes 155 = .ok (.getfield 68, 3) := by decide +kernel
theorem dX8_smokes_158 : decode cX8_smokes 158 = .ok (.iload_n 3, 1) := by decide +kernel
theorem dX8_smokes_159 : decode cX8_smokes 159 = .ok (.iaload, 1) := by decide +kernel
theorem dX8_smokes_160 : decode cX8_smokes 160 = .ok (.iadd, 1) := by decide +kernel
theorem dX8_smokes_161 : decode cX8_smokes 161 = .ok (.iastore, 1) := by decide +kernel
theorem dX8_smokes_162 : decode cX8_smokes 162 = .ok (.iinc 3 1, 3) := by decide +kernel
theorem dX8_smokes_165 : decode cX8_smokes 165 = .ok (.goto (-30), 3) := by decide +kernel
theorem dX8_smokes_168 : decode cX8_smokes 168 = .ok (.return_, 1) := by decide +kernel
theorem dX8_step1_0 : decode cX8_step1 0 = .ok (.aload_n 0, 1) := by decide +kernel
theorem dX8_step1_1 : decode cX8_step1 1 = .ok (.getfield 50, 3) := by decide +kernel
theorem dX8_step1_4 : decode cX8_step1 4 = .ok (.sipush 1816, 3) := by decide +kernel
theorem dX8_step1_7 : decode cX8_step1 7 = .ok (.iaload, 1) := by decide +kernel
theorem dX8_step1_8 : decode cX8_step1 8 = .ok (.istore_n 1, 1) := by decide +kernel
theorem dX8_step1_9 : decode cX8_step1 9 = .ok (.aload_n 0, 1) := by decide +kernel
theorem dX8_step1_10 : decode cX8_step1 10 = .ok (.iload_n 1, 1) := by decide +kernel
theorem dX8_step1_11 : decode cX8_step1 11 = .ok (.invokevirtual 91, 3) := by decide +kernel
theorem dX8_step1_14 : decode cX8_step1 14 = .ok (.istore_n 2, 1) := by decide +kernel
theorem dX8_step1_15 : decode cX8_step1 15 = .ok (.iload_n 2, 1) := by decide +kernel
theorem dX8_step1_16 : decode cX8_step1 16 = .ok (.ifCond .ge 7, 3) := by decide +kernel
theorem dX8_step1_19 : decode cX8_step1 19 = .ok (.iconst 0, 1) := by decide +kernel
theorem dX8_step1_20 : decode cX8_step1 20 = .ok (.goto 9, 3) := by decide +kernel
theorem dX8_step1_23 : decode cX8_step1 23 = .ok (.aload_n 0, 1) := by decide +kernel
theorem dX8_step1_24 : decode cX8_step1 24 = .ok (.getfield 35, 3) := by decide +kernel
theorem dX8_step1_27 : decode cX8_step1 27 = .ok (.iload_n 2, 1) := by decide +kernel
theorem dX8_step1_28 : decode cX8_step1 28 = .ok (.iaload, 1) := by decide +kernel
theorem dX8_step1_29 : decode cX8_step1 29 = .ok (.istore_n 3, 1) := by decide +kernel
theorem dX8_step1_30 : decode cX8_step1 30 = .ok (.iload_n 2, 1) := by decide +kernel
theorem dX8_step1_31 : decode cX8_step1 31 = .ok (.ifCond .ge 7, 3) := by decide +kernel
theorem dX8_step1_34 : decode cX8_step1 34 = .ok (.iconst 0, 1) := by decide +kernel
theorem dX8_step1_35 : decode cX8_step1 35 = .ok (.goto 9, 3) := by decide +kernel
theorem dX8_step1_38 : decode cX8_step1 38 = .ok (.aload_n 0, 1) := by decide +kernel
theorem dX8_step1_39 : decode cX8_step1 39 = .ok (.getfield 38, 3) := by decide +kernel
theorem dX8_step1_42 : decode cX8_step1 42 = .ok (.iload_n 2, 1) := by decide +kernel
theorem dX8_step1_43 : decode cX8_step1 43 = .ok (.iaload, 1) := by decide +kernel
theorem dX8_step1_44 : decode cX8_step1 44 = .ok (.istore 4, 2) := by decide +kernel
theorem dX8_step1_46 : decode cX8_step1 46 = .ok (.iload_n 2, 1) := by decide +kernel
theorem dX8_step1_47 : decode cX8_step1 47 = .ok (.ifCond .ge 7, 3) := by decide +kernel
theorem dX8_step1_50 : decode cX8_step1 50 = .ok (.iconst 0, 1) := by decide +kernel
theorem dX8_step1_51 : decode cX8_step1 51 = .ok (.goto 9, 3) := by decide +kernel
theorem dX8_step1_54 : decode cX8_step1 54 = .ok (.aload_n 0, 1) := by decide +kernel
theorem dX8_step1_55 : decode cX8_step1 55 = .ok (.getfield 41, 3) := by decide +kernel
theorem dX8_step1_58 : decode cX8_step1 58 = .ok (.iload_n 2, 1) := by decide +kernel
theorem dX8_step1_59 : decode cX8_step1 59 = .ok (.iaload, 1) := by decide +kernel
theorem dX8_step1_60 : decode cX8_step1 60 = .ok (.istore 5, 2) := by decide +kernel
theorem dX8_step1_62 : decode cX8_step1 62 = .ok (.iconst 0, 1) := by decide +kernel
theorem dX8_step1_63 : decode cX8_step1 63 = .ok (.istore 6, 2) := by decide +kernel
theorem dX8_step1_65 : decode cX8_step1 65 = .ok (.iload 6, 2) := by decide +kernel
theorem dX8_step1_67 : decode cX8_step1 67 = .ok (.aload_n 0, 1) := by decide +kernel
theorem dX8_step1_68 : decode cX8_step1 68 = .ok (.getfield 81, 3) := by decide +kernel
theorem dX8_step1_71 : decode cX8_step1 71 = .ok (.if_icmp .ge 31, 3) := by decide +kernel
theorem dX8_step1_74 : decode cX8_step1 74 = .ok (.aload_n 0, 1) := by decide +kernel
theorem dX8_step1_75 : decode cX8_step1 75 = .ok (.getfield 47, 3) := by decide +kernel
theorem dX8_step1_78 : decode cX8_step1 78 = .ok (.iload 6, 2) := by decide +kernel
theorem dX8_step1_80 : decode cX8_step1 80 = .ok (.iaload, 1) := by decide +kernel
theorem dX8_step1_81 : decode cX8_step1 81 = .ok (.iload_n 1, 1) := by decide +kernel
theorem dX8_step1_82 : decode cX8_step1 82 = .ok (.if_icmp .ne 14, 3) := by decide +kernel
theorem dX8_step1_85 : decode cX8_step1 85 = .ok (.aload_n 0, 1) := by decide +kernel
theorem dX8_step1_86 : decode cX8_step1 86 = .ok (.aload_n 0, 1) := by decide +kernel
theorem dX8_step1_87 : decode cX8_step1 87 = .ok (.getfield 44, 3) := by decide +kernel
theorem dX8_step1_90 : decode cX8_step1 90 = .ok (.iload 6, 2) := by decide +kernel
theorem dX8_step1_92 : decode cX8_step1 92 = .ok (.iaload, 1) := by decide +kernel
theorem dX8_step1_93 : decode cX8_step1 93 = .ok (.invokevirtual 125, 3) := by decide +kernel
theorem dX8_step1_96 : decode cX8_step1 96 = .ok (.iinc 6 1, 3) := by decide +kernel
theorem dX8_step1_99 : decode cX8_step1 99 = .ok (.goto (-34), 3) := by decide +kernel
theorem dX8_step1_102 : decode cX8_step1 102 = .ok (.iconst 0, 1) := by decide +kernel
theorem dX8_step1_103 : decode cX8_step1 103 = .ok (.istore 6, 2) := by decide +kernel
theorem dX8_step1_105 : decode cX8_step1 105 = .ok (.iload 6, 2) := by decide +kernel
theorem dX8_step1_107 : decode cX8_step1 107 = .ok (.aload_n 0, 1) := by decide +kernel
theorem dX8_step1_108 : decode cX8_step1 108 = .ok (.getfield 50, 3) := by decide +kernel
theorem dX8_step1_111 : decode cX8_step1 111 = .ok (.sipush 1817, 3) := by decide +kernel
theorem dX8_step1_114 : decode cX8_step1 114 = .ok (.iaload, 1) := by decide +kernel
theorem dX8_step1_115 : decode cX8_step1 115 = .ok (.if_icmp .ge 53, 3) := by decide +kernel
theorem dX8_step1_118 : decode cX8_step1 118 = .ok (.aload_n 0, 1) := by decide +kernel
theorem dX8_step1_119 : decode cX8_step1 119 = .ok (.getfield 50, 3) := by decide +kernel
theorem dX8_step1_122 : decode cX8_step1 122 = .ok (.sipush 1536, 3) := by decide +kernel
theorem dX8_step1_125 : decode cX8_step1 125 = .ok (.bipush 8, 2) := by decide +kernel
theorem dX8_step1_127 : decode cX8_step1 127 = .ok (.iload 6, 2) := by decide +kernel
theorem dX8_step1_129 : decode cX8_step1 129 = .ok (.imul, 1) := by decide +kernel
theorem dX8_step1_130 : decode cX8_step1 130 = .ok (.iadd, 1) := by decide +kernel
theorem dX8_step1_131 : decode cX8_step1 131 = .ok (.iconst 3, 1) := by decide +kernel
theorem dX8_step1_132 : decode cX8_step1 132 = .ok (.iadd, 1) := by decide +kernel
theorem dX8_step1_133 : decode cX8_step1 133 = .ok (.iaload, 1) := by decide +kernel
theorem dX8_step1_134 : decode cX8_step1 134 = .ok (.ifCond .ne 28, 3) := by decide +kernel
theorem dX8_step1_137 : decode cX8_step1 137 = .ok (.aload_n 0, 1) := by decide +kernel
theorem dX8_step1_138 : decode cX8_step1 138 = .ok (.getfield 50, 3) := by decide +kernel
theorem dX8_step1_141 : decode cX8_step1 141 = .ok (.sipush 1536, 3) := by decide +kernel
theorem dX8_step1_144 : decode cX8_step1 144 = .ok (.bipush 8, 2) := by decide +kernel
theorem dX8_step1_146 : decode cX8_step1 146 = .ok (.iload 6, 2) := by decide +kernel
theorem dX8_step1_148 : decode cX8_step1 148 = .ok (.imul, 1) := by decide +kernel
theorem dX8_step1_149 : decode cX8_step1 149 = .ok (.iadd, 1) := by decide +kernel
theorem dX8_step1_150 : decode cX8_step1 150 = .ok (.iconst 2, 1) := by decide +kernel
theorem dX8_step1_151 : decode cX8_step1 151 = .ok (.iadd, 1) := by decide +kernel
theorem dX8_step1_152 : decode cX8_step1 152 = .ok (.iaload, 1) := by decide +kernel
theorem dX8_step1_153 : decode cX8_step1 153 = .ok (.ifCond .le 9, 3) := by decide +kernel
theorem dX8_step1_156 : decode cX8_step1 156 = .ok (.aload_n 0, 1) := by decide +kernel
theorem dX8_step1_157 : decode cX8_step1 157 = .ok (.iload 6, 2) := by decide +kernel
theorem dX8_step1_159 : decode cX8_step1 159 = .ok (.invokevirtual 129, 3) := by decide +kernel
theorem dX8_step1_162 : decode cX8_step1 162 = .ok (.iinc 6 1, 3) := by decide +kernel
theorem dX8_step1_165 : decode cX8_step1 165 = .ok (.goto (-60), 3) := by decide +kernel
theorem dX8_step1_168 : decode cX8_step1 168 = .ok (.iconst 0, 1) := by decide +kernel
theorem dX8_step1_169 : decode cX8_step1 169 = .ok (.istore 6, 2) := by decide +kernel
theorem dX8_step1_171 : decode cX8_step1 171 = .ok (.iload 6, 2) := by decide +kernel
theorem dX8_step1_173 : decode cX8_step1 173 = .ok (.aload_n 0, 1) := by decide +kernel
theorem dX8_step1_174 : decode cX8_step1 174 = .ok (.getfield 50, 3) := by decide +kernel
theorem dX8_step1_177 : decode cX8_step1 177 = .ok (.sipush 1817, 3) := by decide +kernel
theorem dX8_step1_180 : decode cX8_step1 180 = .ok (.iaload, 1) := by decide +kernel
theorem dX8_step1_181 : decode cX8_step1 181 = .ok (.if_icmp .ge 68, 3) := by decide +kernel
theorem dX8_step1_184 : decode cX8_step1 184 = .ok (.aload_n 0, 1) := by decide +kernel
theorem dX8_step1_185 : decode cX8_step1 185 = .ok (.getfield 50, 3) := by decide +kernel
theorem dX8_step1_188 : decode cX8_step1 188 = .ok (.iconst 0, 1) := by decide +kernel
theorem dX8_step1_189 : decode cX8_step1 189 = .ok (.aload_n 0, 1) := by decide +kernel
theorem dX8_step1_190 : decode cX8_step1 190 = .ok (.getfield 50, 3) := by decide +kernel
theorem dX8_step1_193 : decode cX8_step1 193 = .ok (.sipush 1536, 3) := by decide +kernel
theorem dX8_step1_196 : decode cX8_step1 196 = .ok (.bipush 8, 2) := by decide +kernel
theorem dX8_step1_198 : decode cX8_step1 198 = .ok (.iload 6, 2) := by decide +kernel
theorem dX8_step1_200 : decode cX8_step1 200 = .ok (.imul, 1) := by decide +kernel
theorem dX8_step1_201 : decode cX8_step1 201 = .ok (.iadd, 1) := by decide +kernel
theorem dX8_step1_202 : decode cX8_step1 202 = .ok (.iaload, 1) := by decide +kernel
theorem dX8_step1_203 : decode cX8_step1 203 = .ok (.iadd, 1) := by decide +kernel
theorem dX8_step1_204 : decode cX8_step1 204 = .ok (.iaload, 1) := by decide +kernel
theorem dX8_step1_205 : decode cX8_step1 205 = .ok (.iconst 2, 1) := by decide +kernel
theorem dX8_step1_206 : decode cX8_step1 206 = .ok (.if_icmp .ne 37, 3) := by decide +kernel
theorem dX8_step1_209 : decode cX8_step1 209 = .ok (.aload_n 0, 1) := by decide +kernel
theorem dX8_step1_210 : decode cX8_step1 210 = .ok (.getfield 50, 3) := by decide +kernel
theorem dX8_step1_213 : decode cX8_step1 213 = .ok (.sipush 1536, 3) := by decide +kernel
theorem dX8_step1_216 : decode cX8_step1 216 = .ok (.bipush 8, 2) := by decide +kernel
theorem dX8_step1_218 : decode cX8_step1 218 = .ok (.iload 6, 2) := by decide +kernel
theorem dX8_step1_220 : decode cX8_step1 220 = .ok (.imul, 1) := by decide +kernel
theorem dX8_step1_221 : decode cX8_step1 221 = .ok (.iadd, 1) := by decide +kernel
theorem dX8_step1_222 : decode cX8_step1 222 = .ok (.iconst 3, 1) := by decide +kernel
theorem dX8_step1_223 : decode cX8_step1 223 = .ok (.iadd, 1) := by decide +kernel
theorem dX8_step1_224 : decode cX8_step1 224 = .ok (.iconst 1, 1) := by decide +kernel
theorem dX8_step1_225 : decode cX8_step1 225 = .ok (.iastore, 1) := by decide +kernel
theorem dX8_step1_226 : decode cX8_step1 226 = .ok (.aload_n 0, 1) := by decide +kernel
theorem dX8_step1_227 : decode cX8_step1 227 = .ok (.getfield 50, 3) := by decide +kernel
theorem dX8_step1_230 : decode cX8_step1 230 = .ok (.sipush 1536, 3) := by decide +kernel
theorem dX8_step1_233 : decode cX8_step1 233 = .ok (.bipush 8, 2) := by decide +kernel
theorem dX8_step1_235 : decode cX8_step1 235 = .ok (.iload 6, 2) := by decide +kernel
theorem dX8_step1_237 : decode cX8_step1 237 = .ok (.imul, 1) := by decide +kernel
theorem dX8_step1_238 : decode cX8_step1 238 = .ok (.iadd, 1) := by decide +kernel
theorem dX8_step1_239 : decode cX8_step1 239 = .ok (.iconst 2, 1) := by decide +kernel
theorem dX8_step1_240 : decode cX8_step1 240 = .ok (.iadd, 1) := by decide +kernel
theorem dX8_step1_241 : decode cX8_step1 241 = .ok (.iconst 0, 1) := by decide +kernel
theorem dX8_step1_242 : decode cX8_step1 242 = .ok (.iastore, 1) := by decide +kernel
theorem dX8_step1_243 : decode cX8_step1 243 = .ok (.iinc 6 1, 3) := by decide +kernel
theorem dX8_step1_246 : decode cX8_step1 246 = .ok (.goto (-75), 3) := by decide +kernel
theorem dX8_step1_249 : decode cX8_step1 249 = .ok (.iconst 0, 1) := by decide +kernel
theorem dX8_step1_250 : decode cX8_step1 250 = .ok (.istore 6, 2) := by decide +kernel
theorem dX8_step1_252 : decode cX8_step1 252 = .ok (.iload 6, 2) := by decide +kernel
theorem dX8_step1_254 : decode cX8_step1 254 = .ok (.aload_n 0, 1) := by decide +kernel
theorem dX8_step1_255 : decode cX8_step1 255 = .ok (.getfield 50, 3) := by decide +kernel
theorem dX8_step1_258 : decode cX8_step1 258 = .ok (.sipush 1818, 3) := by decide +kernel
theorem dX8_step1_261 : decode cX8_step1 261 = .ok (.iaload, 1) := by decide +kernel
theorem dX8_step1_262 : decode cX8_step1 262 = .ok (.if_icmp .ge 25, 3) := by decide +kernel
theorem dX8_step1_265 : decode cX8_step1 265 = .ok (.aload_n 0, 1) := by decide +kernel
theorem dX8_step1_266 : decode cX8_step1 266 = .ok (.getfield 50, 3) := by decide +kernel
theorem dX8_step1_269 : decode cX8_step1 269 = .ok (.sipush 1792, 3) := by decide +kernel
theorem dX8_step1_272 : decode cX8_step1 272 = .ok (.iconst 3, 1) := by decide +kernel
theorem dX8_step1_273 : decode cX8_step1 273 = .ok (.iload 6, 2) := by decide +kernel
theorem dX8_step1_275 : decode cX8_step1 275 = .ok (.imul, 1) := by decide +kernel
theorem dX8_step1_276 : decode cX8_step1 276 = .ok (.iadd, 1) := by decide +kernel
theorem dX8_step1_277 : decode cX8_step1 277 = .ok (.iconst 2, 1) := by decide +kernel
theorem dX8_step1_278 : decode cX8_step1 278 = .ok (.iadd, 1) := by decide +kernel
theorem dX8_step1_279 : decode cX8_step1 279 = .ok (.iconst 0, 1) := by decide +kernel
theorem dX8_step1_280 : decode cX8_step1 280 = .ok (.iastore, 1) := by decide +kernel
theorem dX8_step1_281 : decode cX8_step1 281 = .ok (.iinc 6 1, 3) := by decide +kernel
theorem dX8_step1_284 : decode cX8_step1 284 = .ok (.goto (-32), 3) := by decide +kernel
theorem dX8_step1_287 : decode cX8_step1 287 = .ok (.iconst 0, 1) := by decide +kernel
theorem dX8_step1_288 : decode cX8_step1 288 = .ok (.istore 6, 2) := by decide +kernel
theorem dX8_step1_290 : decode cX8_step1 290 = .ok (.iload 6, 2) := by decide +kernel
theorem dX8_step1_292 : decode cX8_step1 292 = .ok (.aload_n 0, 1) := by decide +kernel
theorem dX8_step1_293 : decode cX8_step1 293 = .ok (.getfield 16, 3) := by decide +kernel
theorem dX8_step1_296 : decode cX8_step1 296 = .ok (.if_icmp .ge 128, 3) := by decide +kernel
theorem dX8_step1_299 : decode cX8_step1 299 = .ok (.aload_n 0, 1) := by decide +kernel
theorem dX8_step1_300 : decode cX8_step1 300 = .ok (.getfield 65, 3) := by decide +kernel
theorem dX8_step1_303 : decode cX8_step1 303 = .ok (.iload 6, 2) := by decide +kernel
theorem dX8_step1_305 : decode cX8_step1 305 = .ok (.iconst 0, 1) := by decide +kernel
theorem dX8_step1_306 : decode cX8_step1 306 = .ok (.iastore, 1) := by decide +kernel
theorem dX8_step1_307 : decode cX8_step1 307 = .ok (.aload_n 0, 1) := by decide +kernel
theorem dX8_step1_308 : decode cX8_step1 308 = .ok (.getfield 50, 3) := by decide +kernel
theorem dX8_step1_311 : decode cX8_step1 311 = .ok (.iconst 0, 1) := by decide +kernel
theorem dX8_step1_312 : decode cX8_step1 312 = .ok (.iload 6, 2) := by decide +kernel
theorem dX8_step1_314 : decode cX8_step1 314 = .ok (.iadd, 1) := by decide +kernel
theorem dX8_step1_315 : decode cX8_step1 315 = .ok (.iaload, 1) := by decide +kernel
theorem dX8_step1_316 : decode cX8_step1 316 = .ok (.iconst 2, 1) := by decide +kernel
theorem dX8_step1_317 : decode cX8_step1 317 = .ok (.if_icmp .ne 7, 3) := by decide +kernel
theorem dX8_step1_320 : decode cX8_step1 320 = .ok (.iconst 1, 1) := by decide +kernel
theorem dX8_step1_321 : decode cX8_step1 321 = .ok (.goto 4, 3) := by decide +kernel
theorem dX8_step1_324 : decode cX8_step1 324 = .ok (.iconst 0, 1) := by decide +kernel
theorem dX8_step1_325 : decode cX8_step1 325 = .ok (.istore 7, 2) := by decide +kernel
theorem dX8_step1_327 : decode cX8_step1 327 = .ok (.aload_n 0, 1) := by decide +kernel
theorem dX8_step1_328 : decode cX8_step1 328 = .ok (.getfield 50, 3) := by decide +kernel
theorem dX8_step1_331 : decode cX8_step1 331 = .ok (.sipush 256, 3) := by decide +kernel
theorem dX8_step1_334 : decode cX8_step1 334 = .ok (.iload 6, 2) := by decide +kernel
theorem dX8_step1_336 : decode cX8_step1 336 = .ok (.iadd, 1) := by decide +kernel
theorem dX8_step1_337 : decode cX8_step1 337 = .ok (.iaload, 1) := by decide +kernel
theorem dX8_step1_338 : decode cX8_step1 338 = .ok (.istore 8, 2) := by decide +kernel
theorem dX8_step1_340 : decode cX8_step1 340 = .ok (.aload_n 0, 1) := by decide +kernel
theorem dX8_step1_341 : decode cX8_step1 341 = .ok (.getfield 62, 3) := by decide +kernel
theorem dX8_step1_344 : decode cX8_step1 344 = .ok (.iload 6, 2) := by decide +kernel
theorem dX8_step1_346 : decode cX8_step1 346 = .ok (.iload 7, 2) := by decide +kernel
theorem dX8_step1_348 : decode cX8_step1 348 = .ok (.ifCond .ne 7, 3) := by decide +kernel
theorem dX8_step1_351 : decode cX8_step1 351 = .ok (.iconst 0, 1) := by decide +kernel
theorem dX8_step1_352 : decode cX8_step1 352 = .ok (.goto 33, 3) := by decide +kernel
theorem dX8_step1_355 : decode cX8_step1 355 = .ok (.iload 8, 2) := by decide +kernel
theorem dX8_step1_357 : decode cX8_step1 357 = .ok (.aload_n 0, 1) := by decide +kernel
theorem dX8_step1_358 : decode cX8_step1 358 = .ok (.getfield 19, 3) := by decide +kernel
theorem dX8_step1_361 : decode cX8_step1 361 = .ok (.iload 6, 2) := by decide +kernel
theorem dX8_step1_363 : decode cX8_step1 363 = .ok (.iaload, 1) := by decide +kernel
theorem dX8_step1_364 : decode cX8_step1 364 = .ok (.invokestatic 132, 3) := by decide +kernel
theorem dX8_step1_367 : decode cX8_step1 367 = .ok (.if_icmp .ge 8, 3) := by decide +kernel
theorem dX8_step1_370 : decode cX8_step1 370 = .ok (.iload 8, 2) := by decide +kernel
theorem dX8_step1_372 : decode cX8_step1 372 = .ok (.goto 13, 3) := by decide +kernel
theorem dX8_step1_375 : decode cX8_step1 375 = .ok (.aload_n 0, 1) := by decide +kernel
theorem dX8_step1_376 : decode cX8_step1 376 = .ok (.getfield 19, 3) := by decide +kernel
theorem dX8_step1_379 : decode cX8_step1 379 = .ok (.iload 6, 2) := by decide +kernel
theorem dX8_step1_381 : decode cX8_step1 381 = .ok (.iaload, 1) := by decide +kernel
theorem dX8_step1_382 : decode cX8_step1 382 = .ok (.invokestatic 132, 3) := by decide +kernel
theorem dX8_step1_385 : decode cX8_step1 385 = .ok (.iastore, 1) := by decide +kernel
theorem dX8_step1_386 : decode cX8_step1 386 = .ok (.aload_n 0, 1) := by decide +kernel
theorem dX8_step1_387 : decode cX8_step1 387 = .ok (.getfield 50, 3) := by decide +kernel
theorem dX8_step1_390 : decode cX8_step1 390 = .ok (.sipush 1792, 3) := by decide +kernel
theorem dX8_step1_393 : decode cX8_step1 393 = .ok (.iconst 3, 1) := by decide +kernel
theorem dX8_step1_394 : decode cX8_step1 394 = .ok (.aload_n 0, 1) := by decide +kernel
theorem dX8_step1_395 : decode cX8_step1 395 = .ok (.iload 6, 2) := by decide +kernel
theorem dX8_step1_397 : decode cX8_step1 397 = .ok (.invokevirtual 105, 3) := by decide +kernel
theorem dX8_step1_400 : decode cX8_step1 400 = .ok (.imul, 1) := by decide +kernel
theorem dX8_step1_401 : decode cX8_step1 401 = .ok (.iadd, 1) := by decide +kernel
theorem dX8_step1_402 : decode cX8_step1 402 = .ok (.iconst 2, 1) := by decide +kernel
theorem dX8_step1_403 : decode cX8_step1 403 = .ok (.iadd, 1) := by decide +kernel
theorem dX8_step1_404 : decode cX8_step1 404 = .ok (.dup2, 1) := by decide +kernel
theorem dX8_step1_405 : decode cX8_step1 405 = .ok (.iaload, 1) := by decide +kernel
theorem dX8_step1_406 : decode cX8_step1 406 = .ok (.iload 7, 2) := by decide +kernel
theorem dX8_step1_408 : decode cX8_step1 408 = .ok (.ifCond .eq 7, 3) := by decide +kernel
theorem dX8_step1_411 : decode cX8_step1 411 = .ok (.iconst 5, 1) := by decide +kernel
theorem dX8_step1_412 : decode cX8_step1 412 = .ok (.goto 4, 3) := by decide +kernel
theorem dX8_step1_415 : decode cX8_step1 415 = .ok (.iconst 1, 1) := by decide +kernel
theorem dX8_step1_416 : decode cX8_step1 416 = .ok (.iadd, 1) := by decide +kernel
theorem dX8_step1_417 : decode cX8_step1 417 = .ok (.iastore, 1) := by decide +kernel
theorem dX8_step1_418 : decode cX8_step1 418 = .ok (.iinc 6 1, 3) := by decide +kernel
theorem dX8_step1_421 : decode cX8_step1 421 = .ok (.goto (-131), 3) := by decide +kernel
theorem dX8_step1_424 : decode cX8_step1 424 = .ok (.iconst 0, 1) := by decide +kernel
theorem dX8_step1_425 : decode cX8_step1 425 = .ok (.istore 6, 2) := by decide +kernel
theorem dX8_step1_427 : decode cX8_step1 427 = .ok (.iload 6, 2) := by decide +kernel
theorem dX8_step1_429 : decode cX8_step1 429 = .ok (.aload_n 0, 1) := by decide +kernel
theorem dX8_step1_430 : decode cX8_step1 430 = .ok (.getfield 16, 3) := by decide +kernel
theorem dX8_step1_433 : decode cX8_step1 433 = .ok (.if_icmp .ge 31, 3) := by decide +kernel
theorem dX8_step1_436 : decode cX8_step1 436 = .ok (.aload_n 0, 1) := by decide +kernel
theorem dX8_step1_437 : decode cX8_step1 437 = .ok (.getfield 50, 3) := by decide +kernel
theorem dX8_step1_440 : decode cX8_step1 440 = .ok (.iconst 0, 1) := by decide +kernel
theorem dX8_step1_441 : decode cX8_step1 441 = .ok (.iload 6, 2) := by decide +kernel
theorem dX8_step1_443 : decode cX8_step1 443 = .ok (.iadd, 1) := by decide +kernel
theorem dX8_step1_444 : decode cX8_step1 444 = .ok (.iaload, 1) := by decide +kernel
theorem dX8_step1_445 : decode cX8_step1 445 = .ok (.iconst 2, 1) := by decide +kernel
theorem dX8_step1_446 : decode cX8_step1 446 = .ok (.if_icmp .ne 12, 3) := by decide +kernel
theorem dX8_step1_449 : decode cX8_step1 449 = .ok (.aload_n 0, 1) := by decide +kernel
theorem dX8_step1_450 : decode cX8_step1 450 = .ok (.iload 6, 2) := by decide +kernel
theorem dX8_step1_452 : decode cX8_step1 452 = .ok (.iload_n 3, 1) := by decide +kernel
theorem dX8_step1_453 : decode cX8_step1 453 = .ok (.iload 4, 2) := by decide +kernel
theorem dX8_step1_455 : decode cX8_step1 455 = .ok (.invokevirtual 135, 3) := by decide +kernel
theorem dX8_step1_458 : decode cX8_step1 458 = .ok (.iinc 6 1, 3) := by decide +kernel
theorem dX8_step1_461 : decode cX8_step1 461 = .ok (.goto (-34), 3) := by decide +kernel
theorem dX8_step1_464 : decode cX8_step1 464 = .ok (.iconst 0, 1) := by decide +kernel
theorem dX8_step1_465 : decode cX8_step1 465 = .ok (.istore 6, 2) := by decide +kernel
theorem dX8_step1_467 : decode cX8_step1 467 = .ok (.iload 6, 2) := by decide +kernel
theorem dX8_step1_469 : decode cX8_step1 469 = .ok (.aload_n 0, 1) := by decide +kernel
theorem dX8_step1_470 : decode cX8_step1 470 = .ok (.getfield 16, 3) := by decide +kernel
theorem dX8_step1_473 : decode cX8_step1 473 = .ok (.if_icmp .ge 17, 3) := by decide +kernel
theorem dX8_step1_476 : decode cX8_step1 476 = .ok (.aload_n 0, 1) := by decide +kernel
theorem dX8_step1_477 : decode cX8_step1 477 = .ok (.iload 6, 2) := by decide +kernel
theorem dX8_step1_479 : decode cX8_step1 479 = .ok (.iload 5, 2) := by decide +kernel
theorem dX8_step1_481 : decode cX8_step1 481 = .ok (.invokevirtual 139, 3) := by decide +kernel
theorem dX8_step1_484 : decode cX8_step1 484 = .ok (.iinc 6 1, 3) := by decide +kernel
theorem dX8_step1_487 : decode cX8_step1 487 = .ok (.goto (-20), 3) := by decide +kernel
theorem dX8_step1_490 : decode cX8_step1 490 = .ok (.aload_n 0, 1) := by decide +kernel
theorem dX8_step1_491 : decode cX8_step1 491 = .ok (.iload_n 3, 1) := by decide +kernel
theorem dX8_step1_492 : decode cX8_step1 492 = .ok (.iload 4, 2) := by decide +kernel
theorem dX8_step1_494 : decode cX8_step1 494 = .ok (.invokevirtual 142, 3) := by decide +kernel
theorem dX8_step1_497 : decode cX8_step1 497 = .ok (.aload_n 0, 1) := by decide +kernel
theorem dX8_step1_498 : decode cX8_step1 498 = .ok (.getfield 145, 3) := by decide +kernel
theorem dX8_step1_501 : decode cX8_step1 501 = .ok (.ifCond .eq 7, 3) := by decide +kernel
theorem dX8_step1_504 : decode cX8_step1 504 = .ok (.aload_n 0, 1) := by decide +kernel
theorem dX8_step1_505 : decode cX8_step1 505 = .ok (.invokevirtual 149, 3) := by decide +kernel
theorem dX8_step1_508 : decode cX8_step1 508 = .ok (.aload_n 0, 1) := by decide +kernel
theorem dX8_step1_509 : decode cX8_step1 509 = .ok (.getfield 50, 3) := by decide +kernel
theorem dX8_step1_512 : decode cX8_step1 512 = .ok (.sipush 1816, 3) := by decide +kernel
theorem dX8_step1_515 : decode cX8_step1 515 = .ok (.dup2, 1) := by decide +kernel
theorem dX8_step1_516 : decode cX8_step1 516 = .ok (.iaload, 1) := by decide +kernel
theorem dX8_step1_517 : decode cX8_step1 517 = .ok (.iconst 1, 1) := by decide +kernel
theorem dX8_step1_518 : decode cX8_step1 518 = .ok (.iadd, 1) := by decide +kernel
theorem dX8_step1_519 : decode cX8_step1 519 = .ok (.iastore, 1) := by decide +kernel
theorem dX8_step1_520 : decode cX8_step1 520 = .ok (.return_, 1) := by decide +kernel
theorem dX8_step_0 : decode cX8_step 0 = .ok (.iload_n 1, 1) := by decide +kernel
theorem dX8_step_1 : decode cX8_step 1 = .ok (.iconst 0, 1) := by decide +kernel
theorem dX8_step_2 : decode cX8_step 2 = .ok (.sipush 500, 3) := by decide +kernel
theorem dX8_step_5 : decode cX8_step 5 = .ok (.invokestatic 74, 3) := by decide +kernel
theorem dX8_step_8 : decode cX8_step 8 = .ok (.ifCond .ne 6, 3) := by decide +kernel
theorem dX8_step_11 : decode cX8_step 11 = .ok (.bipush (-2), 2) := by decide +kernel
theorem dX8_step_13 : decode cX8_step 13 = .ok (.ireturn, 1) := by decide +kernel
theorem dX8_step_14 : decode cX8_step 14 = .ok (.iconst 0, 1) := by decide +kernel
theorem dX8_step_15 : decode cX8_step 15 = .ok (.istore_n 2, 1) := by decide +kernel
theorem dX8_step_16 : decode cX8_step 16 = .ok (.iload_n 2, 1) := by decide +kernel
theorem dX8_step_17 : decode cX8_step 17 = .ok (.iload_n 1, 1) := by decide +kernel
theorem dX8_step_18 : decode cX8_step 18 = .ok (.if_icmp .ge 13, 3) := by decide +kernel
theorem dX8_step_21 : decode cX8_step 21 = .ok (.aload_n 0, 1) := by decide +kernel
theorem dX8_step_22 : decode cX8_step 22 = .ok (.invokevirtual 152, 3) := by decide +kernel
theorem dX8_step_25 : decode cX8_step 25 = .ok (.iinc 2 1, 3) := by decide +kernel
theorem dX8_step_28 : decode cX8_step 28 = .ok (.goto (-12), 3) := by decide +kernel
theorem dX8_step_31 : decode cX8_step 31 = .ok (.aload_n 0, 1) := by decide +kernel
theorem dX8_step_32 : decode cX8_step 32 = .ok (.getfield 50, 3) := by decide +kernel
theorem dX8_step_35 : decode cX8_step 35 = .ok (.sipush 1816, 3) := by decide +kernel
theorem dX8_step_38 : decode cX8_step 38 = .ok (.iaload, 1) := by decide +kernel
theorem dX8_step_39 : decode cX8_step 39 = .ok (.ireturn, 1) := by decide +kernel
theorem dX8_crew_0 : decode cX8_crew 0 = .ok (.aload_n 0, 1) := by decide +kernel
theorem dX8_crew_1 : decode cX8_crew 1 = .ok (.iload_n 1, 1) := by decide +kernel
theorem dX8_crew_2 : decode cX8_crew 2 = .ok (.invokevirtual 84, 3) := by decide +kernel
theorem dX8_crew_5 : decode cX8_crew 5 = .ok (.ifCond .ne 5, 3) := by decide +kernel
theorem dX8_crew_8 : decode cX8_crew 8 = .ok (.iconst (-1), 1) := by decide +kernel
theorem dX8_crew_9 : decode cX8_crew 9 = .ok (.ireturn, 1) := by decide +kernel
theorem dX8_crew_10 : decode cX8_crew 10 = .ok (.aload_n 0, 1) := by decide +kernel
theorem dX8_crew_11 : decode cX8_crew 11 = .ok (.getfield 50, 3) := by decide +kernel
theorem dX8_crew_14 : decode cX8_crew 14 = .ok (.sipush 1817, 3) := by decide +kernel
theorem dX8_crew_17 : decode cX8_crew 17 = .ok (.iaload, 1) := by decide +kernel
theorem dX8_crew_18 : decode cX8_crew 18 = .ok (.bipush 8, 2) := by decide +kernel
theorem dX8_crew_20 : decode cX8_crew 20 = .ok (.if_icmp .ne 6, 3) := by decide +kernel
theorem dX8_crew_23 : decode cX8_crew 23 = .ok (.bipush (-4), 2) := by decide +kernel
theorem dX8_crew_25 : decode cX8_crew 25 = .ok (.ireturn, 1) := by decide +kernel
theorem dX8_crew_26 : decode cX8_crew 26 = .ok (.aload_n 0, 1) := by decide +kernel
theorem dX8_crew_27 : decode cX8_crew 27 = .ok (.getfield 19, 3) := by decide +kernel
theorem dX8_crew_30 : decode cX8_crew 30 = .ok (.iload_n 1, 1) := by decide +kernel
theorem dX8_crew_31 : decode cX8_crew 31 = .ok (.iaload, 1) := by decide +kernel
theorem dX8_crew_32 : decode cX8_crew 32 = .ok (.ifCond .eq 15, 3) := by decide +kernel
theorem dX8_crew_35 : decode cX8_crew 35 = .ok (.aload_n 0, 1) := by decide +kernel
theorem dX8_crew_36 : decode cX8_crew 36 = .ok (.getfield 50, 3) := by decide +kernel
theorem dX8_crew_39 : decode cX8_crew 39 = .ok (.iconst 0, 1) := by decide +kernel
theorem dX8_crew_40 : decode cX8_crew 40 = .ok (.iload_n 1, 1) := by decide +kernel
theorem dX8_crew_41 : decode cX8_crew 41 = .ok (.iadd, 1) := by decide +kernel
theorem dX8_crew_42 : decode cX8_crew 42 = .ok (.iaload, 1) := by decide +kernel
theorem dX8_crew_43 : decode cX8_crew 43 = .ok (.iconst 2, 1) := by decide +kernel
theorem dX8_crew_44 : decode cX8_crew 44 = .ok (.if_icmp .ne 6, 3) := by decide +kernel
theorem dX8_crew_47 : decode cX8_crew 47 = .ok (.bipush (-5), 2) := by decide +kernel
theorem dX8_crew_49 : decode cX8_crew 49 = .ok (.ireturn, 1) := by decide +kernel
theorem dX8_crew_50 : decode cX8_crew 50 = .ok (.sipush 1536, 3) := by decide +kernel
theorem dX8_crew_53 : decode cX8_crew 53 = .ok (.bipush 8, 2) := by decide +kernel
theorem dX8_crew_55 : decode cX8_crew 55 = .ok (.aload_n 0, 1) := by decide +kernel
theorem dX8_crew_56 : decode cX8_crew 56 = .ok (.getfield 50, 3) := by decide +kernel
theorem dX8_crew_59 : decode cX8_crew 59 = .ok (.sipush 1817, 3) := by decide +kernel
theorem dX8_crew_62 : decode cX8_crew 62 = .ok (.iaload, 1) := by decide +kernel
theorem dX8_crew_63 : decode cX8_crew 63 = .ok (.imul, 1) := by decide +kernel
theorem dX8_crew_64 : decode cX8_crew 64 = .ok (.iadd, 1) := by decide +kernel
theorem dX8_crew_65 : decode cX8_crew 65 = .ok (.istore_n 2, 1) := by decide +kernel
theorem dX8_crew_66 : decode cX8_crew 66 = .ok (.iconst 0, 1) := by decide +kernel
theorem dX8_crew_67 : decode cX8_crew 67 = .ok (.istore_n 3, 1) := by decide +kernel
theorem dX8_crew_68 : decode cX8_crew 68 = .ok (.iload_n 3, 1) := by decide +kernel
theorem dX8_crew_69 : decode cX8_crew 69 = .ok (.bipush 8, 2) := by decide +kernel
theorem dX8_crew_71 : decode cX8_crew 71 = .ok (.if_icmp .ge 18, 3) := by decide +kernel
theorem dX8_crew_74 : decode cX8_crew 74 = .ok (.aload_n 0, 1) := by decide +kernel
theorem dX8_crew_75 : decode cX8_crew 75 = .ok (.getfield 50, 3) := by decide +kernel
theorem dX8_crew_78 : decode cX8_crew 78 = .ok (.iload_n 2, 1) := by decide +kernel
theorem dX8_crew_79 : decode cX8_crew 79 = .ok (.iload_n 3, 1) := by decide +kernel
theorem dX8_crew_80 : decode cX8_crew 80 = .ok (.iadd, 1) := by decide +kernel
theorem dX8_crew_81 : decode cX8_crew 81 = .ok (.iconst 0, 1) := by decide +kernel
theorem dX8_crew_82 : decode cX8_crew 82 = .ok (.iastore, 1) := by decide +kernel
theorem dX8_crew_83 : decode cX8_crew 83 = .ok (.iinc 3 1, 3) := by decide +kernel
theorem dX8_crew_86 : decode cX8_crew 86 = .ok (.goto (-18), 3) := by decide +kernel
theorem dX8_crew_89 : decode cX8_crew 89 = .ok (.aload_n 0, 1) := by decide +kernel
theorem dX8_crew_90 : decode cX8_crew 90 = .ok (.getfield 50, 3) := by decide +kernel
theorem dX8_crew_93 : decode cX8_crew 93 = .ok (.iload_n 2, 1) := by decide +kernel
theorem dX8_crew_94 : decode cX8_crew 94 = .ok (.iload_n 1, 1) := by decide +kernel
theorem dX8_crew_95 : decode cX8_crew 95 = .ok (.iastore, 1) := by decide +kernel
theorem dX8_crew_96 : decode cX8_crew 96 = .ok (.aload_n 0, 1) := by decide +kernel
theorem dX8_crew_97 : decode cX8_crew 97 = .ok (.getfield 50, 3) := by decide +kernel
theorem dX8_crew_100 : decode cX8_crew 100 = .ok (.iload_n 2, 1) := by decide +kernel
theorem dX8_crew_101 : decode cX8_crew 101 = .ok (.iconst 1, 1) := by decide +kernel
theorem dX8_crew_102 : decode cX8_crew 102 = .ok (.iadd, 1) := by decide +kernel
theorem dX8_crew_103 : decode cX8_crew 103 = .ok (.bipush 10, 2) := by decide +kernel
theorem dX8_crew_105 : decode cX8_crew 105 = .ok (.iastore, 1) := by decide +kernel
theorem dX8_crew_106 : decode cX8_crew 106 = .ok (.aload_n 0, 1) := by decide +kernel
theorem dX8_crew_107 : decode cX8_crew 107 = .ok (.getfield 50, 3) := by decide +kernel
theorem dX8_crew_110 : decode cX8_crew 110 = .ok (.sipush 1817, 3) := by decide +kernel
theorem dX8_crew_113 : decode cX8_crew 113 = .ok (.dup2, 1) := by decide +kernel
theorem dX8_crew_114 : decode cX8_crew 114 = .ok (.iaload, 1) := by decide +kernel
theorem dX8_crew_115 : decode cX8_crew 115 = .ok (.iconst 1, 1) := by decide +kernel
theorem dX8_crew_116 : decode cX8_crew 116 = .ok (.iadd, 1) := by decide +kernel
theorem dX8_crew_117 : decode cX8_crew 117 = .ok (.iastore, 1) := by decide +kernel
theorem dX8_crew_118 : decode cX8_crew 118 = .ok (.aload_n 0, 1) := by decide +kernel
theorem dX8_crew_119 : decode cX8_crew 119 = .ok (.getfield 50, 3) := by decide +kernel
theorem dX8_crew_122 : decode cX8_crew 122 = .ok (.sipush 1817, 3) := by decide +kernel
theorem dX8_crew_125 : decode cX8_crew 125 = .ok (.iaload, 1) := by decide +kernel
theorem dX8_crew_126 : decode cX8_crew 126 = .ok (.iconst 1, 1) := by decide +kernel
theorem dX8_crew_127 : decode cX8_crew 127 = .ok (.isub, 1) := by decide +kernel
theorem dX8_crew_128 : decode cX8_crew 128 = .ok (.ireturn, 1) := by decide +kernel
theorem dX8_isCrew_0 : decode cX8_isCrew 0 = .ok (.iload_n 1, 1) := by decide +kernel
theorem dX8_isCrew_1 : decode cX8_isCrew 1 = .ok (.iconst 0, 1) := by decide +kernel
theorem dX8_isCrew_2 : decode cX8_isCrew 2 = .ok (.aload_n 0, 1) := by decide +kernel
theorem dX8_isCrew_3 : decode cX8_isCrew 3 = .ok (.getfield 50, 3) := by decide +kernel
theorem dX8_isCrew_6 : decode cX8_isCrew 6 = .ok (.sipush 1817, 3) := by decide +kernel
theorem dX8_isCrew_9 : decode cX8_isCrew 9 = .ok (.iaload, 1) := by decide +kernel
theorem dX8_isCrew_10 : decode cX8_isCrew 10 = .ok (.iconst 1, 1) := by decide +kernel
theorem dX8_isCrew_11 : decode cX8_isCrew 11 = .ok (.isub, 1) := by decide +kernel
theorem dX8_isCrew_12 : decode cX8_isCrew 12 = .ok (.invokestatic 74, 3) := by decide +kernel
theorem dX8_isCrew_15 : decode cX8_isCrew 15 = .ok (.ireturn, 1) := by decide +kernel
theorem dX8_plan_0 : decode cX8_plan 0 = .ok (.aload_n 0, 1) := by decide +kernel
theorem dX8_plan_1 : decode cX8_plan 1 = .ok (.iload_n 1, 1) := by decide +kernel
theorem dX8_plan_2 : decode cX8_plan 2 = .ok (.invokevirtual 155, 3) := by decide +kernel
theorem dX8_plan_5 : decode cX8_plan 5 = .ok (.ifCond .eq 16, 3) := by decide +kernel
theorem dX8_plan_8 : decode cX8_plan 8 = .ok (.iload_n 2, 1) := by decide +kernel
theorem dX8_plan_9 : decode cX8_plan 9 = .ok (.iconst 1, 1) := by decide +kernel
theorem dX8_plan_10 : decode cX8_plan 10 = .ok (.if_icmp .ne 13, 3) := by decide +kernel
theorem dX8_plan_13 : decode cX8_plan 13 = .ok (.aload_n 0, 1) := by decide +kernel
theorem dX8_plan_14 : decode cX8_plan 14 = .ok (.iload_n 3, 1) := by decide +kernel
theorem dX8_plan_15 : decode cX8_plan 15 = .ok (.invokevirtual 84, 3) := by decide +kernel
theorem dX8_plan_18 : decode cX8_plan 18 = .ok (.ifCond .ne 5, 3) := by decide +kernel
theorem dX8_plan_21 : decode cX8_plan 21 = .ok (.iconst (-1), 1) := by decide +kernel
theorem dX8_plan_22 : decode cX8_plan 22 = .ok (.ireturn, 1) := by decide +kernel
theorem dX8_plan_23 : decode cX8_plan 23 = .ok (.iload_n 2, 1) := by decide +kernel
theorem dX8_plan_24 : decode cX8_plan 24 = .ok (.iconst 0, 1) := by decide +kernel
theorem dX8_plan_25 : decode cX8_plan 25 = .ok (.iconst 5, 1) := by decide +kernel
theorem dX8_plan_26 : decode cX8_plan 26 = .ok (.invokestatic 74, 3) := by decide +kernel
theorem dX8_plan_29 : decode cX8_plan 29 = .ok (.ifCond .eq 17, 3) := by decide +kernel
theorem dX8_plan_32 : decode cX8_plan 32 = .ok (.iload_n 2, 1) := by decide +kernel
theorem dX8_plan_33 : decode cX8_plan 33 = .ok (.ifCond .ne 16, 3) := by decide +kernel
theorem dX8_plan_36 : decode cX8_plan 36 = .ok (.iload_n 3, 1) := by decide +kernel
theorem dX8_plan_37 : decode cX8_plan 37 = .ok (.iconst 1, 1) := by decide +kernel
theorem dX8_plan_38 : decode cX8_plan 38 = .ok (.bipush 100, 2) := by decide +kernel
theorem dX8_plan_40 : decode cX8_plan 40 = .ok (.invokestatic 74, 3) := by decide +kernel
theorem dX8_plan_43 : decode cX8_plan 43 = .ok (.ifCond .ne 6, 3) := by decide +kernel
theorem dX8_plan_46 : decode cX8_plan 46 = .ok (.bipush (-2), 2) := by decide +kernel
theorem dX8_plan_48 : decode cX8_plan 48 = .ok (.ireturn, 1) := by decide +kernel
theorem dX8_plan_49 : decode cX8_plan 49 = .ok (.sipush 1536, 3) := by decide +kernel
theorem dX8_plan_52 : decode cX8_plan 52 = .ok (.bipush 8, 2) := by decide +kernel
theorem dX8_plan_54 : decode cX8_plan 54 = .ok (.iload_n 1, 1) := by decide +kernel
theorem dX8_plan_55 : decode cX8_plan 55 = .ok (.imul, 1) := by decide +kernel
theorem dX8_plan_56 : decode cX8_plan 56 = .ok (.iadd, 1) := by decide +kernel
theorem dX8_plan_57 : decode cX8_plan 57 = .ok (.istore 4, 2) := by decide +kernel
theorem dX8_plan_59 : decode cX8_plan 59 = .ok (.aload_n 0, 1) := by decide +kernel
theorem dX8_plan_60 : decode cX8_plan 60 = .ok (.getfield 50, 3) := by decide +kernel
theorem dX8_plan_63 : decode cX8_plan 63 = .ok (.iload 4, 2) := by decide +kernel
theorem dX8_plan_65 : decode cX8_plan 65 = .ok (.iconst 3, 1) := by decide +kernel
theorem dX8_plan_66 : decode cX8_plan 66 = .ok (.iadd, 1) := by decide +kernel
theorem dX8_plan_67 : decode cX8_plan 67 = .ok (.iaload, 1) := by decide +kernel
theorem dX8_plan_68 : decode cX8_plan 68 = .ok (.iconst 1, 1) := by decide +kernel
theorem dX8_plan_69 : decode cX8_plan 69 = .ok (.if_icmp .ne 6, 3) := by decide +kernel
theorem dX8_plan_72 : decode cX8_plan 72 = .ok (.bipush (-3), 2) := by decide +kernel
theorem dX8_plan_74 : decode cX8_plan 74 = .ok (.ireturn, 1) := by decide +kernel
theorem dX8_plan_75 : decode cX8_plan 75 = .ok (.aload_n 0, 1) := by decide +kernel
theorem dX8_plan_76 : decode cX8_plan 76 = .ok (.getfield 50, 3) := by decide +kernel
theorem dX8_plan_79 : decode cX8_plan 79 = .ok (.iload 4, 2) := by decide +kernel
theorem dX8_plan_81 : decode cX8_plan 81 = .ok (.iconst 2, 1) := by decide +kernel
theorem dX8_plan_82 : decode cX8_plan 82 = .ok (.iadd, 1) := by decide +kernel
theorem dX8_plan_83 : decode cX8_plan 83 = .ok (.iaload, 1) := by decide +kernel
theorem dX8_plan_84 : decode cX8_plan 84 = .ok (.bipush 12, 2) := by decide +kernel
theorem dX8_plan_86 : decode cX8_plan 86 = .ok (.if_icmp .ne 6, 3) := by decide +kernel
theorem dX8_plan_89 : decode cX8_plan 89 = .ok (.bipush (-4), 2) := by decide +kernel
theorem dX8_plan_91 : decode cX8_plan 91 = .ok (.ireturn, 1) := by decide +kernel
theorem dX8_plan_92 : decode cX8_plan 92 = .ok (.sipush 1600, 3) := by decide +kernel
theorem dX8_plan_95 : decode cX8_plan 95 = .ok (.bipush 24, 2) := by decide +kernel
theorem dX8_plan_97 : decode cX8_plan 97 = .ok (.iload_n 1, 1) := by decide +kernel
theorem dX8_plan_98 : decode cX8_plan 98 = .ok (.imul, 1) := by decide +kernel
theorem dX8_plan_99 : decode cX8_plan 99 = .ok (.iadd, 1) := by decide +kernel
theorem dX8_plan_100 : decode cX8_plan 100 = .ok (.iconst 2, 1) := by decide +kernel
theorem dX8_plan_101 : decode cX8_plan 101 = .ok (.aload_n 0, 1) := by decide +kernel
theorem dX8_plan_102 : decode cX8_plan 102 = .ok (.getfield 50, 3) := by decide +kernel
theorem dX8_plan_105 : decode cX8_plan 105 = .ok (.iload 4, 2) := by decide +kernel
theorem dX8_plan_107 : decode cX8_plan 107 = .ok (.iconst 2, 1) := by decide +kernel
theorem dX8_plan_108 : decode cX8_plan 108 = .ok (.iadd, 1) := by decide +kernel
theorem dX8_plan_109 : decode cX8_plan 109 = .ok (.iaload, 1) := by decide +kernel
theorem dX8_plan_110 : decode cX8_plan 110 = .ok (.imul, 1) := by decide +kernel
theorem dX8_plan_111 : decode cX8_plan 111 = .ok (.iadd, 1) := by decide +kernel
theorem dX8_plan_112 : decode cX8_plan 112 = .ok (.istore 5, 2) := by decide +kernel
theorem dX8_plan_114 : decode cX8_plan 114 = .ok (.aload_n 0, 1) := by decide +kernel
theorem dX8_plan_115 : decode cX8_plan 115 = .ok (.getfield 50, 3) := by decide +kernel
theorem dX8_plan_118 : decode cX8_plan 118 = .ok (.iload 5, 2) := by decide +kernel
theorem dX8_plan_120 : decode cX8_plan 120 = .ok (.iload_n 2, 1) := by decide +kernel
theorem dX8_plan_121 : decode cX8_plan 121 = .ok (.iastore, 1) := by decide +kernel
theorem dX8_plan_122 : decode cX8_plan 122 = .ok (.aload_n 0, 1) := by decide +kernel
theorem dX8_plan_123 : decode cX8_plan 123 = .ok (.getfield 50, 3) := by decide +kernel
theorem dX8_plan_126 : decode cX8_plan 126 = .ok (.iload 5, 2) := by decide +kernel
theorem dX8_plan_128 : decode cX8_plan 128 = .ok (.iconst 1, 1) := by decide +kernel
theorem dX8_plan_129 : decode cX8_plan 129 = .ok (.iadd, 1) := by decide +kernel
theorem dX8_plan_130 : decode cX8_plan 130 = .ok (.iload_n 3, 1) := by decide +kernel
theorem dX8_plan_131 : decode cX8_plan 131 = .ok (.iastore, 1) := by decide +kernel
theorem dX8_plan_132 : decode cX8_plan 132 = .ok (.aload_n 0, 1) := by decide +kernel
theorem dX8_plan_133 : decode cX8_plan 133 = .ok (.getfield 50, 3) := by decide +kernel
theorem dX8_plan_136 : decode cX8_plan 136 = .ok (.iload 4, 2) := by decide +kernel
theorem dX8_plan_138 : decode cX8_plan 138 = .ok (.iconst 2, 1) := by decide +kernel
theorem dX8_plan_139 : decode cX8_plan 139 = .ok (.iadd, 1) := by decide +kernel
theorem dX8_plan_140 : decode cX8_plan 140 = .ok (.dup2, 1) := by decide +kernel
theorem dX8_plan_141 : decode cX8_plan 141 = .ok (.iaload, 1) := by decide +kernel
theorem dX8_plan_142 : decode cX8_plan 142 = .ok (.iconst 1, 1) := by decide +kernel
theorem dX8_plan_143 : decode cX8_plan 143 = .ok (.iadd, 1) := by decide +kernel
theorem dX8_plan_144 : decode cX8_plan 144 = .ok (.iastore, 1) := by decide +kernel
theorem dX8_plan_145 : decode cX8_plan 145 = .ok (.aload_n 0, 1) := by decide +kernel
theorem dX8_plan_146 : decode cX8_plan 146 = .ok (.getfield 50, 3) := by decide +kernel
theorem dX8_plan_149 : decode cX8_plan 149 = .ok (.iload 4, 2) := by decide +kernel
theorem dX8_plan_151 : decode cX8_plan 151 = .ok (.iconst 2, 1) := by decide +kernel
theorem dX8_plan_152 : decode cX8_plan 152 = .ok (.iadd, 1) := by decide +kernel
theorem dX8_plan_153 : decode cX8_plan 153 = .ok (.iaload, 1) := by decide +kernel
theorem dX8_plan_154 : decode cX8_plan 154 = .ok (.ireturn, 1) := by decide +kernel
theorem dX8_halt_0 : decode cX8_halt 0 = .ok (.aload_n 0, 1) := by decide +kernel
theorem dX8_halt_1 : decode cX8_halt 1 = .ok (.iload_n 1, 1) := by decide +kernel
theorem dX8_halt_2 : decode cX8_halt 2 = .ok (.invokevirtual 155, 3) := by decide +kernel
theorem dX8_halt_5 : decode cX8_halt 5 = .ok (.ifCond .ne 5, 3) := by decide +kernel
theorem dX8_halt_8 : decode cX8_halt 8 = .ok (.iconst (-1), 1) := by decide +kernel
theorem dX8_halt_9 : decode cX8_halt 9 = .ok (.ireturn, 1) := by decide +kernel
theorem dX8_halt_10 : decode cX8_halt 10 = .ok (.sipush 1536, 3) := by decide +kernel
theorem dX8_halt_13 : decode cX8_halt 13 = .ok (.bipush 8, 2) := by decide +kernel
theorem dX8_halt_15 : decode cX8_halt 15 = .ok (.iload_n 1, 1) := by decide +kernel
theorem dX8_halt_16 : decode cX8_halt 16 = .ok (.imul, 1) := by decide +kernel
theorem dX8_halt_17 : decode cX8_halt 17 = .ok (.iadd, 1) := by decide +kernel
theorem dX8_halt_18 : decode cX8_halt 18 = .ok (.istore_n 2, 1) := by decide +kernel
theorem dX8_halt_19 : decode cX8_halt 19 = .ok (.aload_n 0, 1) := by decide +kernel
theorem dX8_halt_20 : decode cX8_halt 20 = .ok (.getfield 50, 3) := by decide +kernel
theorem dX8_halt_23 : decode cX8_halt 23 = .ok (.iload_n 2, 1) := by decide +kernel
theorem dX8_halt_24 : decode cX8_halt 24 = .ok (.iconst 3, 1) := by decide +kernel
theorem dX8_halt_25 : decode cX8_halt 25 = .ok (.iadd, 1) := by decide +kernel
theorem dX8_halt_26 : decode cX8_halt 26 = .ok (.iaload, 1) := by decide +kernel
theorem dX8_halt_27 : decode cX8_halt 27 = .ok (.iconst 1, 1) := by decide +kernel
theorem dX8_halt_28 : decode cX8_halt 28 = .ok (.if_icmp .ne 6, 3) := by decide +kernel
theorem dX8_halt_31 : decode cX8_halt 31 = .ok (.bipush (-3), 2) := by decide +kernel
theorem dX8_halt_33 : decode cX8_halt 33 = .ok (.ireturn, 1) := by decide +kernel
theorem dX8_halt_34 : decode cX8_halt 34 = .ok (.aload_n 0, 1) := by decide +kernel
theorem dX8_halt_35 : decode cX8_halt 35 = .ok (.getfield 50, 3) := by decide +kernel
theorem dX8_halt_38 : decode cX8_halt 38 = .ok (.iload_n 2, 1) := by decide +kernel
theorem dX8_halt_39 : decode cX8_halt 39 = .ok (.iconst 2, 1) := by decide +kernel
theorem dX8_halt_40 : decode cX8_halt 40 = .ok (.iadd, 1) := by decide +kernel
theorem dX8_halt_41 : decode cX8_halt 41 = .ok (.iaload, 1) := by decide +kernel
theorem dX8_halt_42 : decode cX8_halt 42 = .ok (.istore_n 3, 1) := by decide +kernel
theorem dX8_halt_43 : decode cX8_halt 43 = .ok (.aload_n 0, 1) := by decide +kernel
theorem dX8_halt_44 : decode cX8_halt 44 = .ok (.getfield 50, 3) := by decide +kernel
theorem dX8_halt_47 : decode cX8_halt 47 = .ok (.iload_n 2, 1) := by decide +kernel
theorem dX8_halt_48 : decode cX8_halt 48 = .ok (.iconst 2, 1) := by decide +kernel
theorem dX8_halt_49 : decode cX8_halt 49 = .ok (.iadd, 1) := by decide +kernel
theorem dX8_halt_50 : decode cX8_halt 50 = .ok (.iconst 0, 1) := by decide +kernel
theorem dX8_halt_51 : decode cX8_halt 51 = .ok (.iastore, 1) := by decide +kernel
theorem dX8_halt_52 : decode cX8_halt 52 = .ok (.aload_n 0, 1) := by decide +kernel
theorem dX8_halt_53 : decode cX8_halt 53 = .ok (.getfield 50, 3) := by decide +kernel
theorem dX8_halt_56 : decode cX8_halt 56 = .ok (.iload_n 2, 1) := by decide +kernel
theorem dX8_halt_57 : decode cX8_halt 57 = .ok (.bipush 7, 2) := by decide +kernel
theorem dX8_halt_59 : decode cX8_halt 59 = .ok (.iadd, 1) := by decide +kernel
theorem dX8_halt_60 : decode cX8_halt 60 = .ok (.iconst 0, 1) := by decide +kernel
theorem dX8_halt_61 : decode cX8_halt 61 = .ok (.iastore, 1) := by decide +kernel
theorem dX8_halt_62 : decode cX8_halt 62 = .ok (.iload_n 3, 1) := by decide +kernel
theorem dX8_halt_63 : decode cX8_halt 63 = .ok (.ireturn, 1) := by decide +kernel
theorem dX8_over_0 : decode cX8_over 0 = .ok (.sipush 1536, 3) := by decide +kernel
theorem dX8_over_3 : decode cX8_over 3 = .ok (.bipush 8, 2) := by decide +kernel
theorem dX8_over_5 : decode cX8_over 5 = .ok (.iload_n 1, 1) := by decide +kernel
theorem dX8_over_6 : decode cX8_over 6 = .ok (.imul, 1) := by decide +kernel
theorem dX8_over_7 : decode cX8_over 7 = .ok (.iadd, 1) := by decide +kernel
theorem dX8_over_8 : decode cX8_over 8 = .ok (.istore_n 2, 1) := by decide +kernel
theorem dX8_over_9 : decode cX8_over 9 = .ok (.aload_n 0, 1) := by decide +kernel
theorem dX8_over_10 : decode cX8_over 10 = .ok (.getfield 50, 3) := by decide +kernel
theorem dX8_over_13 : decode cX8_over 13 = .ok (.iload_n 2, 1) := by decide +kernel
theorem dX8_over_14 : decode cX8_over 14 = .ok (.iconst 2, 1) := by decide +kernel
theorem dX8_over_15 : decode cX8_over 15 = .ok (.iadd, 1) := by decide +kernel
theorem dX8_over_16 : decode cX8_over 16 = .ok (.dup2, 1) := by decide +kernel
theorem dX8_over_17 : decode cX8_over 17 = .ok (.iaload, 1) := by decide +kernel
theorem dX8_over_18 : decode cX8_over 18 = .ok (.iconst 1, 1) := by decide +kernel
theorem dX8_over_19 : decode cX8_over 19 = .ok (.isub, 1) := by decide +kernel
theorem dX8_over_20 : decode cX8_over 20 = .ok (.iastore, 1) := by decide +kernel
theorem dX8_over_21 : decode cX8_over 21 = .ok (.aload_n 0, 1) := by decide +kernel
theorem dX8_over_22 : decode cX8_over 22 = .ok (.getfield 50, 3) := by decide +kernel
theorem dX8_over_25 : decode cX8_over 25 = .ok (.iload_n 2, 1) := by decide +kernel
theorem dX8_over_26 : decode cX8_over 26 = .ok (.bipush 7, 2) := by decide +kernel
theorem dX8_over_28 : decode cX8_over 28 = .ok (.iadd, 1) := by decide +kernel
theorem dX8_over_29 : decode cX8_over 29 = .ok (.iconst 0, 1) := by decide +kernel
theorem dX8_over_30 : decode cX8_over 30 = .ok (.iastore, 1) := by decide +kernel
theorem dX8_over_31 : decode cX8_over 31 = .ok (.iconst 0, 1) := by decide +kernel
theorem dX8_over_32 : decode cX8_over 32 = .ok (.istore_n 3, 1) := by decide +kernel
theorem dX8_over_33 : decode cX8_over 33 = .ok (.iload_n 3, 1) := by decide +kernel
theorem dX8_over_34 : decode cX8_over 34 = .ok (.iconst 2, 1) := by decide +kernel
theorem dX8_over_35 : decode cX8_over 35 = .ok (.aload_n 0, 1) := by decide +kernel
theorem dX8_over_36 : decode cX8_over 36 = .ok (.getfield 50, 3) := by decide +kernel
theorem dX8_over_39 : decode cX8_over 39 = .ok (.iload_n 2, 1) := by decide +kernel
theorem dX8_over_40 : decode cX8_over 40 = .ok (.iconst 2, 1) := by decide +kernel
theorem dX8_over_41 : decode cX8_over 41 = .ok (.iadd, 1) := by decide +kernel
theorem dX8_over_42 : decode cX8_over 42 = .ok (.iaload, 1) := by decide +kernel
theorem dX8_over_43 : decode cX8_over 43 = .ok (.imul, 1) := by decide +kernel
theorem dX8_over_44 : decode cX8_over 44 = .ok (.if_icmp .ge 41, 3) := by decide +kernel
theorem dX8_over_47 : decode cX8_over 47 = .ok (.aload_n 0, 1) := by decide +kernel
theorem dX8_over_48 : decode cX8_over 48 = .ok (.getfield 50, 3) := by decide +kernel
theorem dX8_over_51 : decode cX8_over 51 = .ok (.sipush 1600, 3) := by decide +kernel
theorem dX8_over_54 : decode cX8_over 54 = .ok (.bipush 24, 2) := by decide +kernel
theorem dX8_over_56 : decode cX8_over 56 = .ok (.iload_n 1, 1) := by decide +kernel
theorem dX8_over_57 : decode cX8_over 57 = .ok (.imul, 1) := by decide +kernel
theorem dX8_over_58 : decode cX8_over 58 = .ok (.iadd, 1) := by decide +kernel
theorem dX8_over_59 : decode cX8_over 59 = .ok (.iload_n 3, 1) := by decide +kernel
theorem dX8_over_60 : decode cX8_over 60 = .ok (.iadd, 1) := by decide +kernel
theorem dX8_over_61 : decode cX8_over 61 = .ok (.aload_n 0, 1) := by decide +kernel
theorem dX8_over_62 : decode cX8_over 62 = .ok (.getfield 50, 3) := by decide +kernel
theorem dX8_over_65 : decode cX8_over 65 = .ok (.sipush 1600, 3) := by decide +kernel
theorem dX8_over_68 : decode cX8_over 68 = .ok (.bipush 24, 2) := by decide +kernel
theorem dX8_over_70 : decode cX8_over 70 = .ok (.iload_n 1, 1) := by decide +kernel
theorem dX8_over_71 : decode cX8_over 71 = .ok (.imul, 1) := by decide +kernel
theorem dX8_over_72 : decode cX8_over 72 = .ok (.iadd, 1) := by decide +kernel
theorem dX8_over_73 : decode cX8_over 73 = .ok (.iconst 2, 1) := by decide +kernel
theorem dX8_over_74 : decode cX8_over 74 = .ok (.iadd, 1) := by decide +kernel
theorem dX8_over_75 : decode cX8_over 75 = .ok (.iload_n 3, 1) := by decide +kernel
theorem dX8_over_76 : decode cX8_over 76 = .ok (.iadd, 1) := by decide +kernel
theorem dX8_over_77 : decode cX8_over 77 = .ok (.iaload, 1) := by decide +kernel
theorem dX8_over_78 : decode cX8_over 78 = .ok (.iastore, 1) := by decide +kernel
theorem dX8_over_79 : decode cX8_over 79 = .ok (.iinc 3 1, 3) := by decide +kernel
theorem dX8_over_82 : decode cX8_over 82 = .ok (.goto (-49), 3) := by decide +kernel
theorem dX8_over_85 : decode cX8_over 85 = .ok (.return_, 1) := by decide +kernel
theorem dX8_goes_0 : decode cX8_goes 0 = .ok (.sipush 1536, 3) := by decide +kernel
theorem dX8_goes_3 : decode cX8_goes 3 = .ok (.bipush 8, 2) := by decide +kernel
theorem dX8_goes_5 : decode cX8_goes 5 = .ok (.iload_n 1, 1) := by decide +kernel
theorem dX8_goes_6 : decode cX8_goes 6 = .ok (.imul, 1) := by decide +kernel
theorem dX8_goes_7 : decode cX8_goes 7 = .ok (.iadd, 1) := by decide +kernel
theorem dX8_goes_8 : decode cX8_goes 8 = .ok (.istore_n 3, 1) := by decide +kernel
theorem dX8_goes_9 : decode cX8_goes 9 = .ok (.aload_n 0, 1) := by decide +kernel
theorem dX8_goes_10 : decode cX8_goes 10 = .ok (.getfield 50, 3) := by decide +kernel
theorem dX8_goes_13 : decode cX8_goes 13 = .ok (.iload_n 3, 1) := by decide +kernel
theorem dX8_goes_14 : decode cX8_goes 14 = .ok (.iaload, 1) := by decide +kernel
theorem dX8_goes_15 : decode cX8_goes 15 = .ok (.istore 4, 2) := by decide +kernel
theorem dX8_goes_17 : decode cX8_goes 17 = .ok (.iload 4, 2) := by decide +kernel
theorem dX8_goes_19 : decode cX8_goes 19 = .ok (.iload_n 2, 1) := by decide +kernel
theorem dX8_goes_20 : decode cX8_goes 20 = .ok (.if_icmp .ne 9, 3) := by decide +kernel
theorem dX8_goes_23 : decode cX8_goes 23 = .ok (.aload_n 0, 1) := by decide +kernel
theorem dX8_goes_24 : decode cX8_goes 24 = .ok (.iload_n 1, 1) := by decide +kernel
theorem dX8_goes_25 : decode cX8_goes 25 = .ok (.invokevirtual 158, 3) := by decide +kernel
theorem dX8_goes_28 : decode cX8_goes 28 = .ok (.return_, 1) := by decide +kernel
theorem dX8_goes_29 : decode cX8_goes 29 = .ok (.iload 4, 2) := by decide +kernel
theorem dX8_goes_31 : decode cX8_goes 31 = .ok (.aload_n 0, 1) := by decide +kernel
theorem dX8_goes_32 : decode cX8_goes 32 = .ok (.getfield 13, 3) := by decide +kernel
theorem dX8_goes_35 : decode cX8_goes 35 = .ok (.idiv, 1) := by decide +kernel
theorem dX8_goes_36 : decode cX8_goes 36 = .ok (.istore 5, 2) := by decide +kernel
theorem dX8_goes_38 : decode cX8_goes 38 = .ok (.iload 4, 2) := by decide +kernel
theorem dX8_goes_40 : decode cX8_goes 40 = .ok (.aload_n 0, 1) := by decide +kernel
theorem dX8_goes_41 : decode cX8_goes 41 = .ok (.getfield 13, 3) := by decide +kernel
theorem dX8_goes_44 : decode cX8_goes 44 = .ok (.irem, 1) := by decide +kernel
theorem dX8_goes_45 : decode cX8_goes 45 = .ok (.istore 6, 2) := by decide +kernel
theorem dX8_goes_47 : decode cX8_goes 47 = .ok (.iload 5, 2) := by decide +kernel
theorem dX8_goes_49 : decode cX8_goes 49 = .ok (.iload_n 2, 1) := by decide +kernel
theorem dX8_goes_50 : decode cX8_goes 50 = .ok (.aload_n 0, 1) := by decide +kernel
theorem dX8_goes_51 : decode cX8_goes 51 = .ok (.getfield 13, 3) := by decide +kernel
theorem dX8_goes_54 : decode cX8_goes 54 = .ok (.idiv, 1) := by decide +kernel
theorem dX8_goes_55 : decode cX8_goes 55 = .ok (.iload 5, 2) := by decide +kernel
theorem dX8_goes_57 : decode cX8_goes 57 = .ok (.if_icmp .le 7, 3) := by decide +kernel
theorem dX8_goes_60 : decode cX8_goes 60 = .ok (.iconst 1, 1) := by decide +kernel
theorem dX8_goes_61 : decode cX8_goes 61 = .ok (.goto 19, 3) := by decide +kernel
theorem dX8_goes_64 : decode cX8_goes 64 = .ok (.iload_n 2, 1) := by decide +kernel
theorem dX8_goes_65 : decode cX8_goes 65 = .ok (.aload_n 0, 1) := by decide +kernel
theorem dX8_goes_66 : decode cX8_goes 66 = .ok (.getfield 13, 3) := by decide +kernel
theorem dX8_goes_69 : decode cX8_goes 69 = .ok (.idiv, 1) := by decide +kernel
theorem dX8_goes_70 : decode cX8_goes 70 = .ok (.iload 5, 2) := by decide +kernel
theorem dX8_goes_72 : decode cX8_goes 72 = .ok (.if_icmp .ge 7, 3) := by decide +kernel
theorem dX8_goes_75 : decode cX8_goes 75 = .ok (.iconst (-1), 1) := by decide +kernel
theorem dX8_goes_76 : decode cX8_goes 76 = .ok (.goto 4, 3) := by decide +kernel
theorem dX8_goes_79 : decode cX8_goes 79 = .ok (.iconst 0, 1) := by decide +kernel
theorem dX8_goes_80 : decode cX8_goes 80 = .ok (.iadd, 1) := by decide +kernel
theorem dX8_goes_81 : decode cX8_goes 81 = .ok (.istore 5, 2) := by decide +kernel
theorem dX8_goes_83 : decode cX8_goes 83 = .ok (.iload 6, 2) := by decide +kernel
theorem dX8_goes_85 : decode cX8_goes 85 = .ok (.iload_n 2, 1) := by decide +kernel
theorem dX8_goes_86 : decode cX8_goes 86 = .ok (.aload_n 0, 1) := by decide +kernel
theorem dX8_goes_87 : decode cX8_goes 87 = .ok (.getfield 13, 3) := by decide +kernel
theorem dX8_goes_90 : decode cX8_goes 90 = .ok (.irem, 1) := by decide +kernel
theorem dX8_goes_91 : decode cX8_goes 91 = .ok (.iload 6, 2) := by decide +kernel
theorem dX8_goes_93 : decode cX8_goes 93 = .ok (.if_icmp .le 7, 3) := by decide +kernel
theorem dX8_goes_96 : decode cX8_goes 96 = .ok (.iconst 1, 1) := by decide +kernel
theorem dX8_goes_97 : decode cX8_goes 97 = .ok (.goto 19, 3) := by decide +kernel
theorem dX8_goes_100 : decode cX8_goes 100 = .ok (.iload_n 2, 1) := by decide +kernel
theorem dX8_goes_101 : decode cX8_goes 101 = .ok (.aload_n 0, 1) := by decide +kernel
theorem dX8_goes_102 : decode cX8_goes 102 = .ok (.getfield 13, 3) := by decide +kernel
theorem dX8_goes_105 : decode cX8_goes 105 = .ok (.irem, 1) := by decide +kernel
theorem dX8_goes_106 : decode cX8_goes 106 = .ok (.iload 6, 2) := by decide +kernel
theorem dX8_goes_108 : decode cX8_goes 108 = .ok (.if_icmp .ge 7, 3) := by decide +kernel
theorem dX8_goes_111 : decode cX8_goes 111 = .ok (.iconst (-1), 1) := by decide +kernel
theorem dX8_goes_112 : decode cX8_goes 112 = .ok (.goto 4, 3) := by decide +kernel
theorem dX8_goes_115 : decode cX8_goes 115 = .ok (.iconst 0, 1) := by decide +kernel
theorem dX8_goes_116 : decode cX8_goes 116 = .ok (.iadd, 1) := by decide +kernel
theorem dX8_goes_117 : decode cX8_goes 117 = .ok (.istore 6, 2) := by decide +kernel
theorem dX8_goes_119 : decode cX8_goes 119 = .ok (.iload 5, 2) := by decide +kernel
theorem dX8_goes_121 : decode cX8_goes 121 = .ok (.aload_n 0, 1) := by decide +kernel
theorem dX8_goes_122 : decode cX8_goes 122 = .ok (.getfield 13, 3) := by decide +kernel
theorem dX8_goes_125 : decode cX8_goes 125 = .ok (.imul, 1) := by decide +kernel
theorem dX8_goes_126 : decode cX8_goes 126 = .ok (.iload 6, 2) := by decide +kernel
theorem dX8_goes_128 : decode cX8_goes 128 = .ok (.iadd, 1) := by decide +kernel
theorem dX8_goes_129 : decode cX8_goes 129 = .ok (.istore 7, 2) := by decide +kernel
theorem dX8_goes_131 : decode cX8_goes 131 = .ok (.aload_n 0, 1) := by decide +kernel
theorem dX8_goes_132 : decode cX8_goes 132 = .ok (.getfield 50, 3) := by decide +kernel
theorem dX8_goes_135 : decode cX8_goes 135 = .ok (.iconst 0, 1) := by decide +kernel
theorem dX8_goes_136 : decode cX8_goes 136 = .ok (.iload 7, 2) := by decide +kernel
theorem dX8_goes_138 : decode cX8_goes 138 = .ok (.iadd, 1) := by decide +kernel
theorem dX8_goes_139 : decode cX8_goes 139 = .ok (.iaload, 1) := by decide +kernel
theorem dX8_goes_140 : decode cX8_goes 140 = .ok (.iconst 2, 1) := by decide +kernel
theorem dX8_goes_141 : decode cX8_goes 141 = .ok (.if_icmp .eq 13, 3) := by decide +kernel
theorem dX8_goes_144 : decode cX8_goes 144 = .ok (.aload_n 0, 1) := by decide +kernel
theorem dX8_goes_145 : decode cX8_goes 145 = .ok (.getfield 19, 3) := by decide +kernel
theorem dX8_goes_148 : decode cX8_goes 148 = .ok (.iload 7, 2) := by decide +kernel
theorem dX8_goes_150 : decode cX8_goes 150 = .ok (.iaload, 1) := by decide +kernel
theorem dX8_goes_151 : decode cX8_goes 151 = .ok (.ifCond .ne 21, 3) := by decide +kernel
theorem dX8_goes_154 : decode cX8_goes 154 = .ok (.aload_n 0, 1) := by decide +kernel
theorem dX8_goes_155 : decode cX8_goes 155 = .ok (.getfield 50, 3) := by decide +kernel
theorem dX8_goes_158 : decode cX8_goes 158 = .ok (.iload_n 3, 1) := by decide +kernel
theorem dX8_goes_159 : decode cX8_goes 159 = .ok (.iconst 4, 1) := by decide +kernel
theorem dX8_goes_160 : decode cX8_goes 160 = .ok (.iadd, 1) := by decide +kernel
theorem dX8_goes_161 : decode cX8_goes 161 = .ok (.dup2, 1) := by decide +kernel
theorem dX8_goes_162 : decode cX8_goes 162 = .ok (.iaload, 1) := by decide +kernel
theorem dX8_goes_163 : decode cX8_goes 163 = .ok (.iconst 1, 1) := by decide +kernel
theorem dX8_goes_164 : decode cX8_goes 164 = .ok (.iadd, 1) := by decide +kernel
theorem dX8_goes_165 : decode cX8_goes 165 = .ok (.iastore, 1) := by decide +kernel
theorem dX8_goes_166 : decode cX8_goes 166 = .ok (.aload_n 0, 1) := by decide +kernel
theorem dX8_goes_167 : decode cX8_goes 167 = .ok (.iload_n 1, 1) := by decide +kernel
theorem dX8_goes_168 : decode cX8_goes 168 = .ok (.invokevirtual 158, 3) := by decide +kernel
theorem dX8_goes_171 : decode cX8_goes 171 = .ok (.return_, 1) := by decide +kernel
theorem dX8_goes_172 : decode cX8_goes 172 = .ok (.aload_n 0, 1) := by decide +kernel
theorem dX8_goes_173 : decode cX8_goes 173 = .ok (.getfield 50, 3) := by decide +kernel
theorem dX8_goes_176 : decode cX8_goes 176 = .ok (.iload_n 3, 1) := by decide +kernel
theorem dX8_goes_177 : decode cX8_goes 177 = .ok (.iload 7, 2) := by decide +kernel
theorem dX8_goes_179 : decode cX8_goes 179 = .ok (.iastore, 1) := by decide +kernel
theorem dX8_goes_180 : decode cX8_goes 180 = .ok (.iload 7, 2) := by decide +kernel
theorem dX8_goes_182 : decode cX8_goes 182 = .ok (.iload_n 2, 1) := by decide +kernel
theorem dX8_goes_183 : decode cX8_goes 183 = .ok (.if_icmp .ne 8, 3) := by decide +kernel
theorem dX8_goes_186 : decode cX8_goes 186 = .ok (.aload_n 0, 1) := by decide +kernel
theorem dX8_goes_187 : decode cX8_goes 187 = .ok (.iload_n 1, 1) := by decide +kernel
theorem dX8_goes_188 : decode cX8_goes 188 = .ok (.invokevirtual 158, 3) := by decide +kernel
theorem dX8_goes_191 : decode cX8_goes 191 = .ok (.return_, 1) := by decide +kernel
theorem dX8_douses_0 : decode cX8_douses 0 = .ok (.sipush 1536, 3) := by decide +kernel
theorem dX8_douses_3 : decode cX8_douses 3 = .ok (.bipush 8, 2) := by decide +kernel
theorem dX8_douses_5 : decode cX8_douses 5 = .ok (.iload_n 1, 1) := by decide +kernel
theorem dX8_douses_6 : decode cX8_douses 6 = .ok (.imul, 1) := by decide +kernel
theorem dX8_douses_7 : decode cX8_douses 7 = .ok (.iadd, 1) := by decide +kernel
theorem dX8_douses_8 : decode cX8_douses 8 = .ok (.istore_n 2, 1) := by decide +kernel
theorem dX8_douses_9 : decode cX8_douses 9 = .ok (.bipush (-6), 2) := by decide +kernel
theorem dX8_douses_11 : decode cX8_douses 11 = .ok (.istore_n 3, 1) := by decide +kernel
theorem dX8_douses_12 : decode cX8_douses 12 = .ok (.iconst 0, 1) := by decide +kernel
theorem dX8_douses_13 : decode cX8_douses 13 = .ok (.istore 4, 2) := by decide +kernel
theorem dX8_douses_15 : decode cX8_douses 15 = .ok (.iload 4, 2) := by decide +kernel
theorem dX8_douses_17 : decode cX8_douses 17 = .ok (.aload_n 0, 1) := by decide +kernel
theorem dX8_douses_18 : decode cX8_douses 18 = .ok (.getfield 16, 3) := by decide +kernel
theorem dX8_douses_21 : decode cX8_douses 21 = .ok (.if_icmp .ge 95, 3) := by decide +kernel
theorem dX8_douses_24 : decode cX8_douses 24 = .ok (.aload_n 0, 1) := by decide +kernel
theorem dX8_douses_25 : decode cX8_douses 25 = .ok (.getfield 50, 3) := by decide +kernel
theorem dX8_douses_28 : decode cX8_douses 28 = .ok (.iload_n 2, 1) := by decide +kernel
theorem dX8_douses_29 : decode cX8_douses 29 = .ok (.iconst 1, 1) := by decide +kernel
theorem dX8_douses_30 : decode cX8_douses 30 = .ok (.iadd, 1) := by decide +kernel
theorem dX8_douses_31 : decode cX8_douses 31 = .ok (.iaload, 1) := by decide +kernel
theorem dX8_douses_32 : decode cX8_douses 32 = .ok (.ifCond .le 84, 3) := by decide +kernel
theorem dX8_douses_35 : decode cX8_douses 35 = .ok (.aload_n 0, 1) := by decide +kernel
theorem dX8_douses_36 : decode cX8_douses 36 = .ok (.getfield 50, 3) := by decide +kernel
theorem dX8_douses_39 : decode cX8_douses 39 = .ok (.iconst 0, 1) := by decide +kernel
theorem dX8_douses_40 : decode cX8_douses 40 = .ok (.iload 4, 2) := by decide +kernel
theorem dX8_douses_42 : decode cX8_douses 42 = .ok (.iadd, 1) := by decide +kernel
theorem dX8_douses_43 : decode cX8_douses 43 = .ok (.iaload, 1) := by decide +kernel
theorem dX8_douses_44 : decode cX8_douses 44 = .ok (.iconst 2, 1) := by decide +kernel
theorem dX8_douses_45 : decode cX8_douses 45 = .ok (.if_icmp .ne 22, 3) := by decide +kernel
theorem dX8_douses_48 : decode cX8_douses 48 = .ok (.aload_n 0, 1) := by decide +kernel
theorem dX8_douses_49 : decode cX8_douses 49 = .ok (.aload_n 0, 1) := by decide +kernel
theorem dX8_douses_50 : decode cX8_douses 50 = .ok (.getfield 50, 3) := by decide +kernel
theorem dX8_douses_53 : decode cX8_douses 53 = .ok (.iload_n 2, 1) := by decide +kernel
theorem dX8_douses_54 : decode cX8_douses 54 = .ok (.iaload, 1) := by decide +kernel
theorem dX8_douses_55 : decode cX8_douses 55 = .ok (.iload 4, 2) := by decide +kernel
theorem dX8_douses_57 : decode cX8_douses 57 = .ok (.invokevirtual 161, 3) := by decide +kernel
theorem dX8_douses_60 : decode cX8_douses 60 = .ok (.ifCond .eq 7, 3) := by decide +kernel
theorem dX8_douses_63 : decode cX8_douses 63 = .ok (.iconst 1, 1) := by decide +kernel
theorem dX8_douses_64 : decode cX8_douses 64 = .ok (.goto 4, 3) := by decide +kernel
theorem dX8_douses_67 : decode cX8_douses 67 = .ok (.iconst 0, 1) := by decide +kernel
theorem dX8_douses_68 : decode cX8_douses 68 = .ok (.istore 5, 2) := by decide +kernel
theorem dX8_douses_70 : decode cX8_douses 70 = .ok (.iload 5, 2) := by decide +kernel
theorem dX8_douses_72 : decode cX8_douses 72 = .ok (.ifCond .eq 36, 3) := by decide +kernel
theorem dX8_douses_75 : decode cX8_douses 75 = .ok (.iload_n 3, 1) := by decide +kernel
theorem dX8_douses_76 : decode cX8_douses 76 = .ok (.ifCond .lt 27, 3) := by decide +kernel
theorem dX8_douses_79 : decode cX8_douses 79 = .ok (.aload_n 0, 1) := by decide +kernel
theorem dX8_douses_80 : decode cX8_douses 80 = .ok (.getfield 50, 3) := by decide +kernel
theorem dX8_douses_83 : decode cX8_douses 83 = .ok (.sipush 768, 3) := by decide +kernel
theorem dX8_douses_86 : decode cX8_douses 86 = .ok (.iload 4, 2) := by decide +kernel
theorem dX8_douses_88 : decode cX8_douses 88 = .ok (.iadd, 1) := by decide +kernel
theorem dX8_douses_89 : decode cX8_douses 89 = .ok (.iaload, 1) := by decide +kernel
theorem dX8_douses_90 : decode cX8_douses 90 = .ok (.aload_n 0, 1) := by decide +kernel
theorem dX8_douses_91 : decode cX8_douses 91 = .ok (.getfield 50, 3) := by decide +kernel
theorem dX8_douses_94 : decode cX8_douses 94 = .ok (.sipush 768, 3) := by decide +kernel
theorem dX8_douses_97 : decode cX8_douses 97 = .ok (.iload_n 3, 1) := by decide +kernel
theorem dX8_douses_98 : decode cX8_douses 98 = .ok (.iadd, 1) := by decide +kernel
theorem dX8_douses_99 : decode cX8_douses 99 = .ok (.iaload, 1) := by decide +kernel
theorem dX8_douses_100 : decode cX8_douses 100 = .ok (.if_icmp .le 8, 3) := by decide +kernel
theorem dX8_douses_103 : decode cX8_douses 103 = .ok (.iload 4, 2) := by decide +kernel
theorem dX8_douses_105 : decode cX8_douses 105 = .ok (.goto 4, 3) := by decide +kernel
theorem dX8_douses_108 : decode cX8_douses 108 = .ok (.iload_n 3, 1) := by decide +kernel
theorem dX8_douses_109 : decode cX8_douses 109 = .ok (.istore_n 3, 1) := by decide +kernel
theorem dX8_douses_110 : decode cX8_douses 110 = .ok (.iinc 4 1, 3) := by decide +kernel
theorem dX8_douses_113 : decode cX8_douses 113 = .ok (.goto (-98), 3) := by decide +kernel
theorem dX8_douses_116 : decode cX8_douses 116 = .ok (.iload_n 3, 1) := by decide +kernel
theorem dX8_douses_117 : decode cX8_douses 117 = .ok (.ifCond .lt 48, 3) := by decide +kernel
theorem dX8_douses_120 : decode cX8_douses 120 = .ok (.aload_n 0, 1) := by decide +kernel
theorem dX8_douses_121 : decode cX8_douses 121 = .ok (.getfield 50, 3) := by decide +kernel
theorem dX8_douses_124 : decode cX8_douses 124 = .ok (.iconst 0, 1) := by decide +kernel
theorem dX8_douses_125 : decode cX8_douses 125 = .ok (.iload_n 3, 1) := by decide +kernel
theorem dX8_douses_126 : decode cX8_douses 126 = .ok (.iadd, 1) := by decide +kernel
theorem dX8_douses_127 : decode cX8_douses 127 = .ok (.iconst 5, 1) := by decide +kernel
theorem dX8_douses_128 : decode cX8_douses 128 = .ok (.iastore, 1) := by decide +kernel
theorem dX8_douses_129 : decode cX8_douses 129 = .ok (.aload_n 0, 1) := by decide +kernel
theorem dX8_douses_130 : decode cX8_douses 130 = .ok (.getfield 50, 3) := by decide +kernel
theorem dX8_douses_133 : decode cX8_douses 133 = .ok (.sipush 768, 3) := by decide +kernel
theorem dX8_douses_136 : decode cX8_douses 136 = .ok (.iload_n 3, 1) := by decide +kernel
theorem dX8_douses_137 : decode cX8_douses 137 = .ok (.iadd, 1) := by decide +kernel
theorem dX8_douses_138 : decode cX8_douses 138 = .ok (.iconst 0, 1) := by decide +kernel
theorem dX8_douses_139 : decode cX8_douses 139 = .ok (.iastore, 1) := by decide +kernel
theorem dX8_douses_140 : decode cX8_douses 140 = .ok (.aload_n 0, 1) := by decide +kernel
theorem dX8_douses_141 : decode cX8_douses 141 = .ok (.getfield 50, 3) := by decide +kernel
theorem dX8_douses_144 : decode cX8_douses 144 = .ok (.iload_n 2, 1) := by decide +kernel
theorem dX8_douses_145 : decode cX8_douses 145 = .ok (.iconst 1, 1) := by decide +kernel
theorem dX8_douses_146 : decode cX8_douses 146 = .ok (.iadd, 1) := by decide +kernel
theorem dX8_douses_147 : decode cX8_douses 147 = .ok (.dup2, 1) := by decide +kernel
theorem dX8_douses_148 : decode cX8_douses 148 = .ok (.iaload, 1) := by decide +kernel
theorem dX8_douses_149 : decode cX8_douses 149 = .ok (.iconst 1, 1) := by decide +kernel
theorem dX8_douses_150 : decode cX8_douses 150 = .ok (.isub, 1) := by decide +kernel
theorem dX8_douses_151 : decode cX8_douses 151 = .ok (.iastore, 1) := by decide +kernel
theorem dX8_douses_152 : decode cX8_douses 152 = .ok (.aload_n 0, 1) := by decide +kernel
theorem dX8_douses_153 : decode cX8_douses 153 = .ok (.getfield 50, 3) := by decide +kernel
theorem dX8_douses_156 : decode cX8_douses 156 = .ok (.iload_n 2, 1) := by decide +kernel
theorem dX8_douses_157 : decode cX8_douses 157 = .ok (.bipush 6, 2) := by decide +kernel
theorem dX8_douses_159 : decode cX8_douses 159 = .ok (.iadd, 1) := by decide +kernel
theorem dX8_douses_160 : decode cX8_douses 160 = .ok (.dup2, 1) := by decide +kernel
theorem dX8_douses_161 : decode cX8_douses 161 = .ok (.iaload, 1) := by decide +kernel
theorem dX8_douses_162 : decode cX8_douses 162 = .ok (.iconst 1, 1) := by decide +kernel
theorem dX8_douses_163 : decode cX8_douses 163 = .ok (.iadd, 1) := by decide +kernel
theorem dX8_douses_164 : decode cX8_douses 164 = .ok (.iastore, 1) := by decide +kernel
theorem dX8_douses_165 : decode cX8_douses 165 = .ok (.aload_n 0, 1) := by decide +kernel
theorem dX8_douses_166 : decode cX8_douses 166 = .ok (.iload_n 1, 1) := by decide +kernel
theorem dX8_douses_167 : decode cX8_douses 167 = .ok (.invokevirtual 158, 3) := by decide +kernel
theorem dX8_douses_170 : decode cX8_douses 170 = .ok (.return_, 1) := by decide +kernel
theorem dX8_isAbout_0 : decode cX8_isAbout 0 = .ok (.iload_n 1, 1) := by decide +kernel
theorem dX8_isAbout_1 : decode cX8_isAbout 1 = .ok (.aload_n 0, 1) := by decide +kernel
theorem dX8_isAbout_2 : decode cX8_isAbout 2 = .ok (.getfield 13, 3) := by decide +kernel
theorem dX8_isAbout_5 : decode cX8_isAbout 5 = .ok (.idiv, 1) := by decide +kernel
theorem dX8_isAbout_6 : decode cX8_isAbout 6 = .ok (.iload_n 2, 1) := by decide +kernel
theorem dX8_isAbout_7 : decode cX8_isAbout 7 = .ok (.aload_n 0, 1) := by decide +kernel
theorem dX8_isAbout_8 : decode cX8_isAbout 8 = .ok (.getfield 13, 3) := by decide +kernel
theorem dX8_isAbout_11 : decode cX8_isAbout 11 = .ok (.idiv, 1) := by decide +kernel
theorem dX8_isAbout_12 : decode cX8_isAbout 12 = .ok (.isub, 1) := by decide +kernel
theorem dX8_isAbout_13 : decode cX8_isAbout 13 = .ok (.istore_n 3, 1) := by decide +kernel
theorem dX8_isAbout_14 : decode cX8_isAbout 14 = .ok (.iload_n 1, 1) := by decide +kernel
theorem dX8_isAbout_15 : decode cX8_isAbout 15 = .ok (.aload_n 0, 1) := by decide +kernel
theorem dX8_isAbout_16 : decode cX8_isAbout 16 = .ok (.getfield 13, 3) := by decide +kernel
theorem dX8_isAbout_19 : decode cX8_isAbout 19 = .ok (.irem, 1) := by decide +kernel
theorem dX8_isAbout_20 : decode cX8_isAbout 20 = .ok (.iload_n 2, 1) := by decide +kernel
theorem dX8_isAbout_21 : decode cX8_isAbout 21 = .ok (.aload_n 0, 1) := by decide +kernel
theorem dX8_isAbout_22 : decode cX8_isAbout 22 = .ok (.getfield 13, 3) := by decide +kernel
theorem dX8_isAbout_25 : decode cX8_isAbout 25 = .ok (.irem, 1) := by decide +kernel
theorem dX8_isAbout_26 : decode cX8_isAbout 26 = .ok (.isub, 1) := by decide +kernel
theorem dX8_isAbout_27 : decode cX8_isAbout 27 = .ok (.istore 4, 2) := by decide +kernel
theorem dX8_isAbout_29 : decode cX8_isAbout 29 = .ok (.iload_n 1, 1) := by decide +kernel
theorem dX8_isAbout_30 : decode cX8_isAbout 30 = .ok (.iload_n 2, 1) := by decide +kernel
theorem dX8_isAbout_31 : decode cX8_isAbout 31 = .ok (.if_icmp .eq 26, 3) := by decide +kernel
theorem dX8_isAbout_34 : decode cX8_isAbout 34 = .ok (.iload_n 3, 1) := by decide +kernel
theorem dX8_isAbout_35 : decode cX8_isAbout 35 = .ok (.iconst (-1), 1) := by decide +kernel
theorem dX8_isAbout_36 : decode cX8_isAbout 36 = .ok (.iconst 1, 1) := by decide +kernel
theorem dX8_isAbout_37 : decode cX8_isAbout 37 = .ok (.invokestatic 74, 3) := by decide +kernel
theorem dX8_isAbout_40 : decode cX8_isAbout 40 = .ok (.ifCond .eq 17, 3) := by decide +kernel
theorem dX8_isAbout_43 : decode cX8_isAbout 43 = .ok (.iload 4, 2) := by decide +kernel
theorem dX8_isAbout_45 : decode cX8_isAbout 45 = .ok (.iconst (-1), 1) := by decide +kernel
theorem dX8_isAbout_46 : decode cX8_isAbout 46 = .ok (.iconst 1, 1) := by decide +kernel
theorem dX8_isAbout_47 : decode cX8_isAbout 47 = .ok (.invokestatic 74, 3) := by decide +kernel
theorem dX8_isAbout_50 : decode cX8_isAbout 50 = .ok (.ifCond .eq 7, 3) := by decide +kernel
theorem dX8_isAbout_53 : decode cX8_isAbout 53 = .ok (.iconst 1, 1) := by decide +kernel
theorem dX8_isAbout_54 : decode cX8_isAbout 54 = .ok (.goto 4, 3) := by decide +kernel
theorem dX8_isAbout_57 : decode cX8_isAbout 57 = .ok (.iconst 0, 1) := by decide +kernel
theorem dX8_isAbout_58 : decode cX8_isAbout 58 = .ok (.ireturn, 1) := by decide +kernel
theorem dX8_fills_0 : decode cX8_fills 0 = .ok (.sipush 1536, 3) := by decide +kernel
theorem dX8_fills_3 : decode cX8_fills 3 = .ok (.bipush 8, 2) := by decide +kernel
theorem dX8_fills_5 : decode cX8_fills 5 = .ok (.iload_n 1, 1) := by decide +kernel
theorem dX8_fills_6 : decode cX8_fills 6 = .ok (.imul, 1) := by decide +kernel
theorem dX8_fills_7 : decode cX8_fills 7 = .ok (.iadd, 1) := by decide +kernel
theorem dX8_fills_8 : decode cX8_fills 8 = .ok (.istore_n 2, 1) := by decide +kernel
theorem dX8_fills_9 : decode cX8_fills 9 = .ok (.aload_n 0, 1) := by decide +kernel
theorem dX8_fills_10 : decode cX8_fills 10 = .ok (.getfield 19, 3) := by decide +kernel
theorem dX8_fills_13 : decode cX8_fills 13 = .ok (.aload_n 0, 1) := by decide +kernel
theorem dX8_fills_14 : decode cX8_fills 14 = .ok (.getfield 50, 3) := by decide +kernel
theorem dX8_fills_17 : decode cX8_fills 17 = .ok (.iload_n 2, 1) := by decide +kernel
theorem dX8_fills_18 : decode cX8_fills 18 = .ok (.iaload, 1) := by decide +kernel
theorem dX8_fills_19 : decode cX8_fills 19 = .ok (.iaload, 1) := by decide +kernel
theorem dX8_fills_20 : decode cX8_fills 20 = .ok (.ifCond .ne 7, 3) := by decide +kernel
theorem dX8_fills_23 : decode cX8_fills 23 = .ok (.iconst 1, 1) := by decide +kernel
theorem dX8_fills_24 : decode cX8_fills 24 = .ok (.goto 4, 3) := by decide +kernel
theorem dX8_fills_27 : decode cX8_fills 27 = .ok (.iconst 0, 1) := by decide +kernel
theorem dX8_fills_28 : decode cX8_fills 28 = .ok (.istore_n 3, 1) := by decide +kernel
theorem dX8_fills_29 : decode cX8_fills 29 = .ok (.iconst 0, 1) := by decide +kernel
theorem dX8_fills_30 : decode cX8_fills 30 = .ok (.istore 4, 2) := by decide +kernel
theorem dX8_fills_32 : decode cX8_fills 32 = .ok (.iload 4, 2) := by decide +kernel
theorem dX8_fills_34 : decode cX8_fills 34 = .ok (.aload_n 0, 1) := by decide +kernel
theorem dX8_fills_35 : decode cX8_fills 35 = .ok (.getfield 16, 3) := by decide +kernel
theorem dX8_fills_38 : decode cX8_fills 38 = .ok (.if_icmp .ge 44, 3) := by decide +kernel
theorem dX8_fills_41 : decode cX8_fills 41 = .ok (.iload_n 3, 1) := by decide +kernel
theorem dX8_fills_42 : decode cX8_fills 42 = .ok (.ifCond .ne 28, 3) := by decide +kernel
theorem dX8_fills_45 : decode cX8_fills 45 = .ok (.aload_n 0, 1) := by decide +kernel
theorem dX8_fills_46 : decode cX8_fills 46 = .ok (.getfield 19, 3) := by decide +kernel
theorem dX8_fills_49 : decode cX8_fills 49 = .ok (.iload 4, 2) := by decide +kernel
theorem dX8_fills_51 : decode cX8_fills 51 = .ok (.iaload, 1) := by decide +kernel
theorem dX8_fills_52 : decode cX8_fills 52 = .ok (.ifCond .ne 22, 3) := by decide +kernel
theorem dX8_fills_55 : decode cX8_fills 55 = .ok (.aload_n 0, 1) := by decide +kernel
theorem dX8_fills_56 : decode cX8_fills 56 = .ok (.aload_n 0, 1) := by decide +kernel
theorem dX8_fills_57 : decode cX8_fills 57 = .ok (.getfield 50, 3) := by decide +kernel
theorem dX8_fills_60 : decode cX8_fills 60 = .ok (.iload_n 2, 1) := by decide +kernel
theorem dX8_fills_61 : decode cX8_fills 61 = .ok (.iaload, 1) := by decide +kernel
theorem dX8_fills_62 : decode cX8_fills 62 = .ok (.iload 4, 2) := by decide +kernel
theorem dX8_fills_64 : decode cX8_fills 64 = .ok (.invokevirtual 161, 3) := by decide +kernel
theorem dX8_fills_67 : decode cX8_fills 67 = .ok (.ifCond .eq 7, 3) := by decide +kernel
theorem dX8_fills_70 : decode cX8_fills 70 = .ok (.iconst 1, 1) := by decide +kernel
theorem dX8_fills_71 : decode cX8_fills 71 = .ok (.goto 4, 3) := by decide +kernel
theorem dX8_fills_74 : decode cX8_fills 74 = .ok (.iconst 0, 1) := by decide +kernel
theorem dX8_fills_75 : decode cX8_fills 75 = .ok (.istore_n 3, 1) := by decide +kernel
theorem dX8_fills_76 : decode cX8_fills 76 = .ok (.iinc 4 1, 3) := by decide +kernel
theorem dX8_fills_79 : decode cX8_fills 79 = .ok (.goto (-47), 3) := by decide +kernel
theorem dX8_fills_82 : decode cX8_fills 82 = .ok (.aload_n 0, 1) := by decide +kernel
theorem dX8_fills_83 : decode cX8_fills 83 = .ok (.getfield 50, 3) := by decide +kernel
theorem dX8_fills_86 : decode cX8_fills 86 = .ok (.iload_n 2, 1) := by decide +kernel
theorem dX8_fills_87 : decode cX8_fills 87 = .ok (.iconst 1, 1) := by decide +kernel
theorem dX8_fills_88 : decode cX8_fills 88 = .ok (.iadd, 1) := by decide +kernel
theorem dX8_fills_89 : decode cX8_fills 89 = .ok (.iload_n 3, 1) := by decide +kernel
theorem dX8_fills_90 : decode cX8_fills 90 = .ok (.ifCond .eq 8, 3) := by decide +kernel
theorem dX8_fills_93 : decode cX8_fills 93 = .ok (.bipush 40, 2) := by decide +kernel
theorem dX8_fills_95 : decode cX8_fills 95 = .ok (.goto 11, 3) := by decide +kernel
theorem dX8_fills_98 : decode cX8_fills 98 = .ok (.aload_n 0, 1) := by decide +kernel
theorem dX8_fills_99 : decode cX8_fills 99 = .ok (.getfield 50, 3) := by decide +kernel
theorem dX8_fills_102 : decode cX8_fills 102 = .ok (.iload_n 2, 1) := by decide +kernel
theorem dX8_fills_103 : decode cX8_fills 103 = .ok (.iconst 1, 1) := by decide +kernel
theorem dX8_fills_104 : decode cX8_fills 104 = .ok (.iadd, 1) := by decide +kernel
theorem dX8_fills_105 : decode cX8_fills 105 = .ok (.iaload, 1) := by decide +kernel
theorem dX8_fills_106 : decode cX8_fills 106 = .ok (.iastore, 1) := by decide +kernel
theorem dX8_fills_107 : decode cX8_fills 107 = .ok (.aload_n 0, 1) := by decide +kernel
theorem dX8_fills_108 : decode cX8_fills 108 = .ok (.iload_n 1, 1) := by decide +kernel
theorem dX8_fills_109 : decode cX8_fills 109 = .ok (.invokevirtual 158, 3) := by decide +kernel
theorem dX8_fills_112 : decode cX8_fills 112 = .ok (.return_, 1) := by decide +kernel
theorem dX8_acts_0 : decode cX8_acts 0 = .ok (.sipush 1536, 3) := by decide +kernel
theorem dX8_acts_3 : decode cX8_acts 3 = .ok (.bipush 8, 2) := by decide +kernel
theorem dX8_acts_5 : decode cX8_acts 5 = .ok (.iload_n 1, 1) := by decide +kernel
theorem dX8_acts_6 : decode cX8_acts 6 = .ok (.imul, 1) := by decide +kernel
theorem dX8_acts_7 : decode cX8_acts 7 = .ok (.iadd, 1) := by decide +kernel
theorem dX8_acts_8 : decode cX8_acts 8 = .ok (.istore_n 2, 1) := by decide +kernel
theorem dX8_acts_9 : decode cX8_acts 9 = .ok (.aload_n 0, 1) := by decide +kernel
theorem dX8_acts_10 : decode cX8_acts 10 = .ok (.getfield 50, 3) := by decide +kernel
theorem dX8_acts_13 : decode cX8_acts 13 = .ok (.iload_n 2, 1) := by decide +kernel
theorem dX8_acts_14 : decode cX8_acts 14 = .ok (.iaload, 1) := by decide +kernel
theorem dX8_acts_15 : decode cX8_acts 15 = .ok (.istore_n 3, 1) := by decide +kernel
theorem dX8_acts_16 : decode cX8_acts 16 = .ok (.aload_n 0, 1) := by decide +kernel
theorem dX8_acts_17 : decode cX8_acts 17 = .ok (.getfield 50, 3) := by decide +kernel
theorem dX8_acts_20 : decode cX8_acts 20 = .ok (.sipush 1600, 3) := by decide +kernel
theorem dX8_acts_23 : decode cX8_acts 23 = .ok (.bipush 24, 2) := by decide +kernel
theorem dX8_acts_25 : decode cX8_acts 25 = .ok (.iload_n 1, 1) := by decide +kernel
theorem dX8_acts_26 : decode cX8_acts 26 = .ok (.imul, 1) := by decide +kernel
theorem dX8_acts_27 : decode cX8_acts 27 = .ok (.iadd, 1) := by decide +kernel
theorem dX8_acts_28 : decode cX8_acts 28 = .ok (.iconst 1, 1) := by decide +kernel
theorem dX8_acts_29 : decode cX8_acts 29 = .ok (.iadd, 1) := by decide +kernel
theorem dX8_acts_30 : decode cX8_acts 30 = .ok (.iaload, 1) := by decide +kernel
theorem dX8_acts_31 : decode cX8_acts 31 = .ok (.istore 4, 2) := by decide +kernel
theorem dX8_acts_33 : decode cX8_acts 33 = .ok (.aload_n 0, 1) := by decide +kernel
theorem dX8_acts_34 : decode cX8_acts 34 = .ok (.getfield 50, 3) := by decide +kernel
theorem dX8_acts_37 : decode cX8_acts 37 = .ok (.sipush 1600, 3) := by decide +kernel
theorem dX8_acts_40 : decode cX8_acts 40 = .ok (.bipush 24, 2) := by decide +kernel
theorem dX8_acts_42 : decode cX8_acts 42 = .ok (.iload_n 1, 1) := by decide +kernel
theorem dX8_acts_43 : decode cX8_acts 43 = .ok (.imul, 1) := by decide +kernel
theorem dX8_acts_44 : decode cX8_acts 44 = .ok (.iadd, 1) := by decide +kernel
theorem dX8_acts_45 : decode cX8_acts 45 = .ok (.iaload, 1) := by decide +kernel
theorem dX8_acts_46 : decode cX8_acts 46 = .ok (.tableswitch 180 0 4 #[34, 69, 79, 164, 172], 34) := by decide +kernel
theorem dX8_acts_80 : decode cX8_acts 80 = .ok (.aload_n 0, 1) := by decide +kernel
theorem dX8_acts_81 : decode cX8_acts 81 = .ok (.getfield 50, 3) := by decide +kernel
theorem dX8_acts_84 : decode cX8_acts 84 = .ok (.iload_n 2, 1) := by decide +kernel
theorem dX8_acts_85 : decode cX8_acts 85 = .ok (.bipush 7, 2) := by decide +kernel
theorem dX8_acts_87 : decode cX8_acts 87 = .ok (.iadd, 1) := by decide +kernel
theorem dX8_acts_88 : decode cX8_acts 88 = .ok (.dup2, 1) := by decide +kernel
theorem dX8_acts_89 : decode cX8_acts 89 = .ok (.iaload, 1) := by decide +kernel
theorem dX8_acts_90 : decode cX8_acts 90 = .ok (.iconst 1, 1) := by decide +kernel
theorem dX8_acts_91 : decode cX8_acts 91 = .ok (.iadd, 1) := by decide +kernel
theorem dX8_acts_92 : decode cX8_acts 92 = .ok (.iastore, 1) := by decide +kernel
theorem dX8_acts_93 : decode cX8_acts 93 = .ok (.aload_n 0, 1) := by decide +kernel
theorem dX8_acts_94 : decode cX8_acts 94 = .ok (.getfield 50, 3) := by decide +kernel
theorem dX8_acts_97 : decode cX8_acts 97 = .ok (.iload_n 2, 1) := by decide +kernel
theorem dX8_acts_98 : decode cX8_acts 98 = .ok (.bipush 7, 2) := by decide +kernel
theorem dX8_acts_100 : decode cX8_acts 100 = .ok (.iadd, 1) := by decide +kernel
theorem dX8_acts_101 : decode cX8_acts 101 = .ok (.iaload, 1) := by decide +kernel
theorem dX8_acts_102 : decode cX8_acts 102 = .ok (.iload 4, 2) := by decide +kernel
theorem dX8_acts_104 : decode cX8_acts 104 = .ok (.if_icmp .ne 132, 3) := by decide +kernel
theorem dX8_acts_107 : decode cX8_acts 107 = .ok (.aload_n 0, 1) := by decide +kernel
theorem dX8_acts_108 : decode cX8_acts 108 = .ok (.iload_n 1, 1) := by decide +kernel
theorem dX8_acts_109 : decode cX8_acts 109 = .ok (.invokevirtual 158, 3) := by decide +kernel
theorem dX8_acts_112 : decode cX8_acts 112 = .ok (.goto 124, 3) := by decide +kernel
theorem dX8_acts_115 : decode cX8_acts 115 = .ok (.aload_n 0, 1) := by decide +kernel
theorem dX8_acts_116 : decode cX8_acts 116 = .ok (.iload_n 1, 1) := by decide +kernel
theorem dX8_acts_117 : decode cX8_acts 117 = .ok (.iload 4, 2) := by decide +kernel
theorem dX8_acts_119 : decode cX8_acts 119 = .ok (.invokevirtual 165, 3) := by decide +kernel
theorem dX8_acts_122 : decode cX8_acts 122 = .ok (.goto 114, 3) := by decide +kernel
theorem dX8_acts_125 : decode cX8_acts 125 = .ok (.aload_n 0, 1) := by decide +kernel
theorem dX8_acts_126 : decode cX8_acts 126 = .ok (.getfield 50, 3) := by decide +kernel
theorem dX8_acts_129 : decode cX8_acts 129 = .ok (.iconst 0, 1) := by decide +kernel
theorem dX8_acts_130 : decode cX8_acts 130 = .ok (.iload_n 3, 1) := by decide +kernel
theorem dX8_acts_131 : decode cX8_acts 131 = .ok (.iadd, 1) := by decide +kernel
theorem dX8_acts_132 : decode cX8_acts 132 = .ok (.iaload, 1) := by decide +kernel
theorem dX8_acts_133 : decode cX8_acts 133 = .ok (.iconst 1, 1) := by decide +kernel
theorem dX8_acts_134 : decode cX8_acts 134 = .ok (.if_icmp .eq 11, 3) := by decide +kernel
theorem dX8_acts_137 : decode cX8_acts 137 = .ok (.aload_n 0, 1) := by decide +kernel
theorem dX8_acts_138 : decode cX8_acts 138 = .ok (.iload_n 1, 1) := by decide +kernel
theorem dX8_acts_139 : decode cX8_acts 139 = .ok (.invokevirtual 158, 3) := by decide +kernel
theorem dX8_acts_142 : decode cX8_acts 142 = .ok (.goto 94, 3) := by decide +kernel
theorem dX8_acts_145 : decode cX8_acts 145 = .ok (.aload_n 0, 1) := by decide +kernel
theorem dX8_acts_146 : decode cX8_acts 146 = .ok (.getfield 50, 3) := by decide +kernel
theorem dX8_acts_149 : decode cX8_acts 149 = .ok (.iload_n 2, 1) := by decide +kernel
theorem dX8_acts_150 : decode cX8_acts 150 = .ok (.bipush 7, 2) := by decide +kernel
theorem dX8_acts_152 : decode cX8_acts 152 = .ok (.iadd, 1) := by decide +kernel
theorem dX8_acts_153 : decode cX8_acts 153 = .ok (.iaload, 1) := by decide +kernel
theorem dX8_acts_154 : decode cX8_acts 154 = .ok (.ifCond .ne 16, 3) := by decide +kernel
theorem dX8_acts_157 : decode cX8_acts 157 = .ok (.aload_n 0, 1) := by decide +kernel
theorem dX8_acts_158 : decode cX8_acts 158 = .ok (.getfield 50, 3) := by decide +kernel
theorem dX8_acts_161 : decode cX8_acts 161 = .ok (.iload_n 2, 1) := by decide +kernel
theorem dX8_acts_162 : decode cX8_acts 162 = .ok (.bipush 7, 2) := by decide +kernel
theorem dX8_acts_164 : decode cX8_acts 164 = .ok (.iadd, 1) := by decide +kernel
theorem dX8_acts_165 : decode cX8_acts 165 = .ok (.iconst 1, 1) := by decide +kernel
theorem dX8_acts_166 : decode cX8_acts 166 = .ok (.iastore, 1) := by decide +kernel
theorem dX8_acts_167 : decode cX8_acts 167 = .ok (.goto 69, 3) := by decide +kernel
theorem dX8_acts_170 : decode cX8_acts 170 = .ok (.aload_n 0, 1) := by decide +kernel
theorem dX8_acts_171 : decode cX8_acts 171 = .ok (.getfield 50, 3) := by decide +kernel
theorem dX8_acts_174 : decode cX8_acts 174 = .ok (.iconst 0, 1) := by decide +kernel
theorem dX8_acts_175 : decode cX8_acts 175 = .ok (.iload_n 3, 1) := by decide +kernel
theorem dX8_acts_176 : decode cX8_acts 176 = .ok (.iadd, 1) := by decide +kernel
theorem dX8_acts_177 : decode cX8_acts 177 = .ok (.iconst 4, 1) := by decide +kernel
theorem dX8_acts_178 : decode cX8_acts 178 = .ok (.iastore, 1) := by decide +kernel
theorem dX8_acts_179 : decode cX8_acts 179 = .ok (.aload_n 0, 1) := by decide +kernel
theorem dX8_acts_180 : decode cX8_acts 180 = .ok (.getfield 50, 3) := by decide +kernel
theorem dX8_acts_183 : decode cX8_acts 183 = .ok (.sipush 256, 3) := by decide +kernel
theorem dX8_acts_186 : decode cX8_acts 186 = .ok (.iload_n 3, 1) := by decide +kernel
theorem dX8_acts_187 : decode cX8_acts 187 = .ok (.iadd, 1) := by decide +kernel
theorem dX8_acts_188 : decode cX8_acts 188 = .ok (.iconst 0, 1) := by decide +kernel
theorem dX8_acts_189 : decode cX8_acts 189 = .ok (.iastore, 1) := by decide +kernel
theorem dX8_acts_190 : decode cX8_acts 190 = .ok (.aload_n 0, 1) := by decide +kernel
theorem dX8_acts_191 : decode cX8_acts 191 = .ok (.getfield 50, 3) := by decide +kernel
theorem dX8_acts_194 : decode cX8_acts 194 = .ok (.iload_n 2, 1) := by decide +kernel
theorem dX8_acts_195 : decode cX8_acts 195 = .ok (.iconst 5, 1) := by decide +kernel
theorem dX8_acts_196 : decode cX8_acts 196 = .ok (.iadd, 1) := by decide +kernel
theorem dX8_acts_197 : decode cX8_acts 197 = .ok (.dup2, 1) := by decide +kernel
theorem dX8_acts_198 : decode cX8_acts 198 = .ok (.iaload, 1) := by decide +kernel
theorem dX8_acts_199 : decode cX8_acts 199 = .ok (.iconst 1, 1) := by decide +kernel
theorem dX8_acts_200 : decode cX8_acts 200 = .ok (.iadd, 1) := by decide +kernel
theorem dX8_acts_201 : decode cX8_acts 201 = .ok (.iastore, 1) := by decide +kernel
theorem dX8_acts_202 : decode cX8_acts 202 = .ok (.aload_n 0, 1) := by decide +kernel
theorem dX8_acts_203 : decode cX8_acts 203 = .ok (.iload_n 1, 1) := by decide +kernel
theorem dX8_acts_204 : decode cX8_acts 204 = .ok (.invokevirtual 158, 3) := by decide +kernel
