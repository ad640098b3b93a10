theorem iq_5_4 : ((5 : Int32) = 4) = False := by decide +kernel
theorem iq_5_3 : ((5 : Int32) = 3) = False := by decide +kernel
theorem iq_5_2 : ((5 : Int32) = 2) = False := by decide +kernel
theorem iq_5_1 : ((5 : Int32) = 1) = False := by decide +kernel
theorem iq_5_0 : ((5 : Int32) = 0) = False := by decide +kernel
theorem iq_5_m1 : ((5 : Int32) = -1) = False := by decide +kernel
theorem iq_5_m2 : ((5 : Int32) = -2) = False := by decide +kernel
theorem iq_5_m3 : ((5 : Int32) = -3) = False := by decide +kernel
theorem iq_5_m4 : ((5 : Int32) = -4) = False := by decide +kernel
theorem iq_5_m5 : ((5 : Int32) = -5) = False := by decide +kernel
theorem iq_5_m6 : ((5 : Int32) = -6) = False := by decide +kernel
theorem iq_4_5 : ((4 : Int32) = 5) = False := by decide +kernel
theorem iq_4_3 : ((4 : Int32) = 3) = False := by decide +kernel
theorem iq_4_2 : ((4 : Int32) = 2) = False := by decide +kernel
theorem iq_4_1 : ((4 : Int32) = 1) = False := by decide +kernel
theorem iq_4_0 : ((4 : Int32) = 0) = False := by decide +kernel
theorem iq_4_m1 : ((4 : Int32) = -1) = False := by decide +kernel
theorem iq_4_m2 : ((4 : Int32) = -2) = False := by decide +kernel
theorem iq_4_m3 : ((4 : Int32) = -3) = False := by decide +kernel
theorem iq_4_m4 : ((4 : Int32) = -4) = False := by decide +kernel
theorem iq_4_m5 : ((4 : Int32) = -5) = False := by decide +kernel
theorem iq_4_m6 : ((4 : Int32) = -6) = False := by decide +kernel
theorem iq_3_5 : ((3 : Int32) = 5) = False := by decide +kernel
theorem iq_3_4 : ((3 : Int32) = 4) = False := by decide +kernel
theorem iq_3_2 : ((3 : Int32) = 2) = False := by decide +kernel
theorem iq_3_1 : ((3 : Int32) = 1) = False := by decide +kernel
theorem iq_3_0 : ((3 : Int32) = 0) = False := by decide +kernel
theorem iq_3_m1 : ((3 : Int32) = -1) = False := by decide +kernel
theorem iq_3_m2 : ((3 : Int32) = -2) = False := by decide +kernel
theorem iq_3_m3 : ((3 : Int32) = -3) = False := by decide +kernel
theorem iq_3_m4 : ((3 : Int32) = -4) = False := by decide +kernel
theorem iq_3_m5 : ((3 : Int32) = -5) = False := by decide +kernel
theorem iq_3_m6 : ((3 : Int32) = -6) = False := by decide +kernel
theorem iq_2_5 : ((2 : Int32) = 5) = False := by decide +kernel
theorem iq_2_4 : ((2 : Int32) = 4) = False := by decide +kernel
theorem iq_2_3 : ((2 : Int32) = 3) = False := by decide +kernel
theorem iq_2_1 : ((2 : Int32) = 1) = False := by decide +kernel
theorem iq_2_0 : ((2 : Int32) = 0) = False := by decide +kernel
theorem iq_2_m1 : ((2 : Int32) = -1) = False := by decide +kernel
theorem iq_2_m2 : ((2 : Int32) = -2) = False := by decide +kernel
theorem iq_2_m3 : ((2 : Int32) = -3) = False := by decide +kernel
theorem iq_2_m4 : ((2 : Int32) = -4) = False := by decide +kernel
theorem iq_2_m5 : ((2 : Int32) = -5) = False := by decide +kernel
theorem iq_2_m6 : ((2 : Int32) = -6) = False := by decide +kernel
theorem iq_1_5 : ((1 : Int32) = 5) = False := by decide +kernel
theorem iq_1_4 : ((1 : Int32) = 4) = False := by decide +kernel
theorem iq_1_3 : ((1 : Int32) = 3) = False := by decide +kernel
theorem iq_1_2 : ((1 : Int32) = 2) = False := by decide +kernel
theorem iq_1_0 : ((1 : Int32) = 0) = False := by decide +kernel
theorem iq_1_m1 : ((1 : Int32) = -1) = False := by decide +kernel
theorem iq_1_m2 : ((1 : Int32) = -2) = False := by decide +kernel
theorem iq_1_m3 : ((1 : Int32) = -3) = False := by decide +kernel
theorem iq_1_m4 : ((1 : Int32) = -4) = False := by decide +kernel
theorem iq_1_m5 : ((1 : Int32) = -5) = False := by decide +kernel
theorem iq_1_m6 : ((1 : Int32) = -6) = False := by decide +kernel
theorem iq_0_5 : ((0 : Int32) = 5) = False := by decide +kernel
theorem iq_0_4 : ((0 : Int32) = 4) = False := by decide +kernel
theorem iq_0_3 : ((0 : Int32) = 3) = False := by decide +kernel
theorem iq_0_2 : ((0 : Int32) = 2) = False := by decide +kernel
theorem iq_0_1 : ((0 : Int32) = 1) = False := by decide +kernel
theorem iq_0_m1 : ((0 : Int32) = -1) = False := by decide +kernel
theorem iq_0_m2 : ((0 : Int32) = -2) = False := by decide +kernel
theorem iq_0_m3 : ((0 : Int32) = -3) = False := by decide +kernel
theorem iq_0_m4 : ((0 : Int32) = -4) = False := by decide +kernel
theorem iq_0_m5 : ((0 : Int32) = -5) = False := by decide +kernel
theorem iq_0_m6 : ((0 : Int32) = -6) = False := by decide +kernel
theorem iq_m1_5 : ((-1 : Int32) = 5) = False := by decide +kernel
theorem iq_m1_4 : ((-1 : Int32) = 4) = False := by decide +kernel
theorem iq_m1_3 : ((-1 : Int32) = 3) = False := by decide +kernel
theorem iq_m1_2 : ((-1 : Int32) = 2) = False := by decide +kernel
theorem iq_m1_1 : ((-1 : Int32) = 1) = False := by decide +kernel
theorem iq_m1_0 : ((-1 : Int32) = 0) = False := by decide +kernel
theorem iq_m1_m2 : ((-1 : Int32) = -2) = False := by decide +kernel
theorem iq_m1_m3 : ((-1 : Int32) = -3) = False := by decide +kernel
theorem iq_m1_m4 : ((-1 : Int32) = -4) = False := by decide +kernel
theorem iq_m1_m5 : ((-1 : Int32) = -5) = False := by decide +kernel
theorem iq_m1_m6 : ((-1 : Int32) = -6) = False := by decide +kernel
theorem iq_m2_5 : ((-2 : Int32) = 5) = False := by decide +kernel
theorem iq_m2_4 : ((-2 : Int32) = 4) = False := by decide +kernel
theorem iq_m2_3 : ((-2 : Int32) = 3) = False := by decide +kernel
theorem iq_m2_2 : ((-2 : Int32) = 2) = False := by decide +kernel
theorem iq_m2_1 : ((-2 : Int32) = 1) = False := by decide +kernel
theorem iq_m2_0 : ((-2 : Int32) = 0) = False := by decide +kernel
theorem iq_m2_m1 : ((-2 : Int32) = -1) = False := by decide +kernel
theorem iq_m2_m3 : ((-2 : Int32) = -3) = False := by decide +kernel
theorem iq_m2_m4 : ((-2 : Int32) = -4) = False := by decide +kernel
theorem iq_m2_m5 : ((-2 : Int32) = -5) = False := by decide +kernel
theorem iq_m2_m6 : ((-2 : Int32) = -6) = False := by decide +kernel
theorem iq_m3_5 : ((-3 : Int32) = 5) = False := by decide +kernel
theorem iq_m3_4 : ((-3 : Int32) = 4) = False := by decide +kernel
theorem iq_m3_3 : ((-3 : Int32) = 3) = False := by decide +kernel
theorem iq_m3_2 : ((-3 : Int32) = 2) = False := by decide +kernel
theorem iq_m3_1 : ((-3 : Int32) = 1) = False := by decide +kernel
theorem iq_m3_0 : ((-3 : Int32) = 0) = False := by decide +kernel
theorem iq_m3_m1 : ((-3 : Int32) = -1) = False := by decide +kernel
theorem iq_m3_m2 : ((-3 : Int32) = -2) = False := by decide +kernel
theorem iq_m3_m4 : ((-3 : Int32) = -4) = False := by decide +kernel
theorem iq_m3_m5 : ((-3 : Int32) = -5) = False := by decide +kernel
theorem iq_m3_m6 : ((-3 : Int32) = -6) = False := by decide +kernel
theorem iq_m4_5 : ((-4 : Int32) = 5) = False := by decide +kernel
theorem iq_m4_4 : ((-4 : Int32) = 4) = False := by decide +kernel
theorem iq_m4_3 : ((-4 : Int32) = 3) = False := by decide +kernel
theorem iq_m4_2 : ((-4 : Int32) = 2) = False := by decide +kernel
theorem iq_m4_1 : ((-4 : Int32) = 1) = False := by decide +kernel
theorem iq_m4_0 : ((-4 : Int32) = 0) = False := by decide +kernel
theorem iq_m4_m1 : ((-4 : Int32) = -1) = False := by decide +kernel
theorem iq_m4_m2 : ((-4 : Int32) = -2) = False := by decide +kernel
theorem iq_m4_m3 : ((-4 : Int32) = -3) = False := by decide +kernel
theorem iq_m4_m5 : ((-4 : Int32) = -5) = False := by decide +kernel
theorem iq_m4_m6 : ((-4 : Int32) = -6) = False := by decide +kernel
theorem iq_m5_5 : ((-5 : Int32) = 5) = False := by decide +kernel
theorem iq_m5_4 : ((-5 : Int32) = 4) = False := by decide +kernel
theorem iq_m5_3 : ((-5 : Int32) = 3) = False := by decide +kernel
theorem iq_m5_2 : ((-5 : Int32) = 2) = False := by decide +kernel
theorem iq_m5_1 : ((-5 : Int32) = 1) = False := by decide +kernel
theorem iq_m5_0 : ((-5 : Int32) = 0) = False := by decide +kernel
theorem iq_m5_m1 : ((-5 : Int32) = -1) = False := by decide +kernel
theorem iq_m5_m2 : ((-5 : Int32) = -2) = False := by decide +kernel
theorem iq_m5_m3 : ((-5 : Int32) = -3) = False := by decide +kernel
theorem iq_m5_m4 : ((-5 : Int32) = -4) = False := by decide +kernel
theorem iq_m5_m6 : ((-5 : Int32) = -6) = False := by decide +kernel
theorem iq_m6_5 : ((-6 : Int32) = 5) = False := by decide +kernel
theorem iq_m6_4 : ((-6 : Int32) = 4) = False := by decide +kernel
theorem iq_m6_3 : ((-6 : Int32) = 3) = False := by decide +kernel
theorem iq_m6_2 : ((-6 : Int32) = 2) = False := by decide +kernel
theorem iq_m6_1 : ((-6 : Int32) = 1) = False := by decide +kernel
theorem iq_m6_0 : ((-6 : Int32) = 0) = False := by decide +kernel
theorem iq_m6_m1 : ((-6 : Int32) = -1) = False := by decide +kernel
theorem iq_m6_m2 : ((-6 : Int32) = -2) = False := by decide +kernel
theorem iq_m6_m3 : ((-6 : Int32) = -3) = False := by decide +kernel
theorem iq_m6_m4 : ((-6 : Int32) = -4) = False := by decide +kernel
theorem iq_m6_m5 : ((-6 : Int32) = -5) = False := by decide +kernel
theorem lk_6 : hf_kd 6 = 10 := by decide +kernel
theorem lr_6_0 : hf_rf 6 0 = some 7 := by decide +kernel
theorem lr_6_1 : hf_rf 6 1 = some 12 := by decide +kernel
theorem lr_6_2 : hf_rf 6 2 = some 15 := by decide +kernel
theorem lr_6_3 : hf_rf 6 3 = some 18 := by decide +kernel
theorem lr_6_4 : hf_rf 6 4 = some 22 := by decide +kernel
theorem lr_6_5 : hf_rf 6 5 = some 58 := by decide +kernel
theorem lr_6_6 : hf_rf 6 6 = some 94 := by decide +kernel
theorem lr_6_7 : hf_rf 6 7 = some 95 := by decide +kernel
theorem lk_7 : hf_kd 7 = 5 := by decide +kernel
theorem lr_7_0 : hf_rf 7 0 = some 8 := by decide +kernel
theorem lr_7_1 : hf_rf 7 1 = some 9 := by decide +kernel
theorem lr_7_2 : hf_rf 7 2 = some 10 := by decide +kernel
theorem lr_7_3 : hf_rf 7 3 = some 11 := by decide +kernel
theorem lk_8 : hf_kd 8 = 0 := by decide +kernel
theorem la_8 : hf_al 8 = 256 := by decide +kernel
theorem lz_8 : hf_ln 8 = 256 := by decide +kernel
theorem lk_9 : hf_kd 9 = 0 := by decide +kernel
theorem la_9 : hf_al 9 = 256 := by decide +kernel
theorem lz_9 : hf_ln 9 = 256 := by decide +kernel
theorem lk_10 : hf_kd 10 = 0 := by decide +kernel
theorem la_10 : hf_al 10 = 256 := by decide +kernel
theorem lz_10 : hf_ln 10 = 256 := by decide +kernel
theorem lk_11 : hf_kd 11 = 0 := by decide +kernel
theorem la_11 : hf_al 11 = 256 := by decide +kernel
theorem lz_11 : hf_ln 11 = 256 := by decide +kernel
theorem lk_12 : hf_kd 12 = 9 := by decide +kernel
theorem lr_12_0 : hf_rf 12 0 = some 13 := by decide +kernel
theorem lr_12_1 : hf_rf 12 1 = some 14 := by decide +kernel
theorem lk_13 : hf_kd 13 = 0 := by decide +kernel
theorem la_13 : hf_al 13 = 16 := by decide +kernel
theorem lz_13 : hf_ln 13 = 16 := by decide +kernel
theorem lk_14 : hf_kd 14 = 0 := by decide +kernel
theorem la_14 : hf_al 14 = 48 := by decide +kernel
theorem lz_14 : hf_ln 14 = 48 := by decide +kernel
theorem lk_15 : hf_kd 15 = 6 := by decide +kernel
theorem lr_15_0 : hf_rf 15 0 = some 16 := by decide +kernel
theorem lr_15_1 : hf_rf 15 1 = some 17 := by decide +kernel
theorem lk_16 : hf_kd 16 = 0 := by decide +kernel
theorem la_16 : hf_al 16 = 20 := by decide +kernel
theorem lz_16 : hf_ln 16 = 20 := by decide +kernel
theorem lk_17 : hf_kd 17 = 0 := by decide +kernel
theorem la_17 : hf_al 17 = 20 := by decide +kernel
theorem lz_17 : hf_ln 17 = 20 := by decide +kernel
theorem lk_18 : hf_kd 18 = 4 := by decide +kernel
theorem lr_18_0 : hf_rf 18 0 = some 19 := by decide +kernel
theorem lr_18_1 : hf_rf 18 1 = some 20 := by decide +kernel
theorem lr_18_2 : hf_rf 18 2 = some 21 := by decide +kernel
theorem lk_19 : hf_kd 19 = 0 := by decide +kernel
theorem la_19 : hf_al 19 = 256 := by decide +kernel
theorem lz_19 : hf_ln 19 = 256 := by decide +kernel
theorem lk_20 : hf_kd 20 = 0 := by decide +kernel
theorem la_20 : hf_al 20 = 256 := by decide +kernel
theorem lz_20 : hf_ln 20 = 256 := by decide +kernel
theorem lk_21 : hf_kd 21 = 0 := by decide +kernel
theorem la_21 : hf_al 21 = 256 := by decide +kernel
theorem lz_21 : hf_ln 21 = 256 := by decide +kernel
theorem lk_22 : hf_kd 22 = 7 := by decide +kernel
theorem lr_22_0 : hf_rf 22 0 = some 23 := by decide +kernel
theorem lr_22_1 : hf_rf 22 1 = some 24 := by decide +kernel
theorem lr_22_2 : hf_rf 22 2 = some 25 := by decide +kernel
theorem lr_22_3 : hf_rf 22 3 = some 26 := by decide +kernel
theorem lr_22_4 : hf_rf 22 4 = some 27 := by decide +kernel
theorem lr_22_5 : hf_rf 22 5 = some 28 := by decide +kernel
theorem lr_22_6 : hf_rf 22 6 = some 29 := by decide +kernel
theorem lr_22_7 : hf_rf 22 7 = some 30 := by decide +kernel
theorem lk_23 : hf_kd 23 = 0 := by decide +kernel
theorem la_23 : hf_al 23 = 256 := by decide +kernel
theorem lz_23 : hf_ln 23 = 256 := by decide +kernel
theorem lk_24 : hf_kd 24 = 0 := by decide +kernel
theorem la_24 : hf_al 24 = 256 := by decide +kernel
theorem lz_24 : hf_ln 24 = 256 := by decide +kernel
theorem lk_25 : hf_kd 25 = 0 := by decide +kernel
theorem la_25 : hf_al 25 = 256 := by decide +kernel
theorem lz_25 : hf_ln 25 = 256 := by decide +kernel
theorem lk_26 : hf_kd 26 = 0 := by decide +kernel
theorem la_26 : hf_al 26 = 256 := by decide +kernel
theorem lz_26 : hf_ln 26 = 256 := by decide +kernel
theorem lk_27 : hf_kd 27 = 0 := by decide +kernel
theorem la_27 : hf_al 27 = 256 := by decide +kernel
theorem lz_27 : hf_ln 27 = 256 := by decide +kernel
theorem lk_28 : hf_kd 28 = 0 := by decide +kernel
theorem la_28 : hf_al 28 = 256 := by decide +kernel
theorem lz_28 : hf_ln 28 = 256 := by decide +kernel
theorem lk_29 : hf_kd 29 = 2 := by decide +kernel
theorem lz_29 : hf_ln 29 = 8 := by decide +kernel
theorem lr_29_0 : hf_rf 29 0 = some 34 := by decide +kernel
theorem lr_29_1 : hf_rf 29 1 = some 37 := by decide +kernel
theorem lr_29_2 : hf_rf 29 2 = some 40 := by decide +kernel
theorem lr_29_3 : hf_rf 29 3 = some 43 := by decide +kernel
theorem lr_29_4 : hf_rf 29 4 = some 46 := by decide +kernel
theorem lr_29_5 : hf_rf 29 5 = some 49 := by decide +kernel
theorem lr_29_6 : hf_rf 29 6 = some 52 := by decide +kernel
theorem lr_29_7 : hf_rf 29 7 = some 55 := by decide +kernel
theorem lk_30 : hf_kd 30 = 8 := by decide +kernel
theorem lr_30_0 : hf_rf 30 0 = some 31 := by decide +kernel
theorem lr_30_1 : hf_rf 30 1 = some 32 := by decide +kernel
theorem lr_30_2 : hf_rf 30 2 = some 33 := by decide +kernel
theorem lk_31 : hf_kd 31 = 0 := by decide +kernel
theorem la_31 : hf_al 31 = 8 := by decide +kernel
theorem lz_31 : hf_ln 31 = 8 := by decide +kernel
theorem lk_32 : hf_kd 32 = 0 := by decide +kernel
theorem la_32 : hf_al 32 = 8 := by decide +kernel
theorem lz_32 : hf_ln 32 = 8 := by decide +kernel
theorem lk_33 : hf_kd 33 = 0 := by decide +kernel
theorem la_33 : hf_al 33 = 8 := by decide +kernel
theorem lz_33 : hf_ln 33 = 8 := by decide +kernel
theorem lk_34 : hf_kd 34 = 3 := by decide +kernel
theorem lr_34_0 : hf_rf 34 0 = some 35 := by decide +kernel
theorem lr_34_1 : hf_rf 34 1 = some 36 := by decide +kernel
theorem lk_35 : hf_kd 35 = 0 := by decide +kernel
theorem la_35 : hf_al 35 = 12 := by decide +kernel
theorem lz_35 : hf_ln 35 = 12 := by decide +kernel
theorem lk_36 : hf_kd 36 = 0 := by decide +kernel
theorem la_36 : hf_al 36 = 12 := by decide +kernel
theorem lz_36 : hf_ln 36 = 12 := by decide +kernel
theorem lk_37 : hf_kd 37 = 3 := by decide +kernel
theorem lr_37_0 : hf_rf 37 0 = some 38 := by decide +kernel
theorem lr_37_1 : hf_rf 37 1 = some 39 := by decide +kernel
theorem lk_38 : hf_kd 38 = 0 := by decide +kernel
theorem la_38 : hf_al 38 = 12 := by decide +kernel
theorem lz_38 : hf_ln 38 = 12 := by decide +kernel
theorem lk_39 : hf_kd 39 = 0 := by decide +kernel
theorem la_39 : hf_al 39 = 12 := by decide +kernel
theorem lz_39 : hf_ln 39 = 12 := by decide +kernel
theorem lk_40 : hf_kd 40 = 3 := by decide +kernel
theorem lr_40_0 : hf_rf 40 0 = some 41 := by decide +kernel
theorem lr_40_1 : hf_rf 40 1 = some 42 := by decide +kernel
theorem lk_41 : hf_kd 41 = 0 := by decide +kernel
theorem la_41 : hf_al 41 = 12 := by decide +kernel
theorem lz_41 : hf_ln 41 = 12 := by decide +kernel
theorem lk_42 : hf_kd 42 = 0 := by decide +kernel
theorem la_42 : hf_al 42 = 12 := by decide +kernel
theorem lz_42 : hf_ln 42 = 12 := by decide +kernel
theorem lk_43 : hf_kd 43 = 3 := by decide +kernel
theorem lr_43_0 : hf_rf 43 0 = some 44 := by decide +kernel
theorem lr_43_1 : hf_rf 43 1 = some 45 := by decide +kernel
theorem lk_44 : hf_kd 44 = 0 := by decide +kernel
theorem la_44 : hf_al 44 = 12 := by decide +kernel
theorem lz_44 : hf_ln 44 = 12 := by decide +kernel
theorem lk_45 : hf_kd 45 = 0 := by decide +kernel
theorem la_45 : hf_al 45 = 12 := by decide +kernel
theorem lz_45 : hf_ln 45 = 12 := by decide +kernel
theorem lk_46 : hf_kd 46 = 3 := by decide +kernel
theorem lr_46_0 : hf_rf 46 0 = some 47 := by decide +kernel
theorem lr_46_1 : hf_rf 46 1 = some 48 := by decide +kernel
theorem lk_47 : hf_kd 47 = 0 := by decide +kernel
theorem la_47 : hf_al 47 = 12 := by decide +kernel
theorem lz_47 : hf_ln 47 = 12 := by decide +kernel
theorem lk_48 : hf_kd 48 = 0 := by decide +kernel
theorem la_48 : hf_al 48 = 12 := by decide +kernel
theorem lz_48 : hf_ln 48 = 12 := by decide +kernel
theorem lk_49 : hf_kd 49 = 3 := by decide +kernel
theorem lr_49_0 : hf_rf 49 0 = some 50 := by decide +kernel
theorem lr_49_1 : hf_rf 49 1 = some 51 := by decide +kernel
theorem lk_50 : hf_kd 50 = 0 := by decide +kernel
theorem la_50 : hf_al 50 = 12 := by decide +kernel
theorem lz_50 : hf_ln 50 = 12 := by decide +kernel
theorem lk_51 : hf_kd 51 = 0 := by decide +kernel
theorem la_51 : hf_al 51 = 12 := by decide +kernel
theorem lz_51 : hf_ln 51 = 12 := by decide +kernel
theorem lk_52 : hf_kd 52 = 3 := by decide +kernel
theorem lr_52_0 : hf_rf 52 0 = some 53 := by decide +kernel
theorem lr_52_1 : hf_rf 52 1 = some 54 := by decide +kernel
theorem lk_53 : hf_kd 53 = 0 := by decide +kernel
theorem la_53 : hf_al 53 = 12 := by decide +kernel
theorem lz_53 : hf_ln 53 = 12 := by decide +kernel
theorem lk_54 : hf_kd 54 = 0 := by decide +kernel
theorem la_54 : hf_al 54 = 12 := by decide +kernel
theorem lz_54 : hf_ln 54 = 12 := by decide +kernel
theorem lk_55 : hf_kd 55 = 3 := by decide +kernel
theorem lr_55_0 : hf_rf 55 0 = some 56 := by decide +kernel
theorem lr_55_1 : hf_rf 55 1 = some 57 := by decide +kernel
theorem lk_56 : hf_kd 56 = 0 := by decide +kernel
theorem la_56 : hf_al 56 = 12 := by decide +kernel
theorem lz_56 : hf_ln 56 = 12 := by decide +kernel
theorem lk_57 : hf_kd 57 = 0 := by decide +kernel
theorem la_57 : hf_al 57 = 12 := by decide +kernel
theorem lz_57 : hf_ln 57 = 12 := by decide +kernel
theorem lk_58 : hf_kd 58 = 7 := by decide +kernel
theorem lr_58_0 : hf_rf 58 0 = some 59 := by decide +kernel
theorem lr_58_1 : hf_rf 58 1 = some 60 := by decide +kernel
theorem lr_58_2 : hf_rf 58 2 = some 61 := by decide +kernel
theorem lr_58_3 : hf_rf 58 3 = some 62 := by decide +kernel
theorem lr_58_4 : hf_rf 58 4 = some 63 := by decide +kernel
theorem lr_58_5 : hf_rf 58 5 = some 64 := by decide +kernel
theorem lr_58_6 : hf_rf 58 6 = some 65 := by decide +kernel
theorem lr_58_7 : hf_rf 58 7 = some 66 := by decide +kernel
theorem lk_59 : hf_kd 59 = 0 := by decide +kernel
theorem la_59 : hf_al 59 = 256 := by decide +kernel
theorem lz_59 : hf_ln 59 = 256 := by decide +kernel
theorem lk_60 : hf_kd 60 = 0 := by decide +kernel
theorem la_60 : hf_al 60 = 256 := by decide +kernel
theorem lz_60 : hf_ln 60 = 256 := by decide +kernel
theorem lk_61 : hf_kd 61 = 0 := by decide +kernel
theorem la_61 : hf_al 61 = 256 := by decide +kernel
theorem lz_61 : hf_ln 61 = 256 := by decide +kernel
theorem lk_62 : hf_kd 62 = 0 := by decide +kernel
theorem la_62 : hf_al 62 = 256 := by decide +kernel
theorem lz_62 : hf_ln 62 = 256 := by decide +kernel
theorem lk_63 : hf_kd 63 = 0 := by decide +kernel
theorem la_63 : hf_al 63 = 256 := by decide +kernel
theorem lz_63 : hf_ln 63 = 256 := by decide +kernel
theorem lk_64 : hf_kd 64 = 0 := by decide +kernel
theorem la_64 : hf_al 64 = 256 := by decide +kernel
theorem lz_64 : hf_ln 64 = 256 := by decide +kernel
theorem lk_65 : hf_kd 65 = 2 := by decide +kernel
theorem lz_65 : hf_ln 65 = 8 := by decide +kernel
theorem lr_65_0 : hf_rf 65 0 = some 70 := by decide +kernel
theorem lr_65_1 : hf_rf 65 1 = some 73 := by decide +kernel
theorem lr_65_2 : hf_rf 65 2 = some 76 := by decide +kernel
theorem lr_65_3 : hf_rf 65 3 = some 79 := by decide +kernel
theorem lr_65_4 : hf_rf 65 4 = some 82 := by decide +kernel
theorem lr_65_5 : hf_rf 65 5 = some 85 := by decide +kernel
theorem lr_65_6 : hf_rf 65 6 = some 88 := by decide +kernel
theorem lr_65_7 : hf_rf 65 7 = some 91 := by decide +kernel
theorem lk_66 : hf_kd 66 = 8 := by decide +kernel
theorem lr_66_0 : hf_rf 66 0 = some 67 := by decide +kernel
theorem lr_66_1 : hf_rf 66 1 = some 68 := by decide +kernel
theorem lr_66_2 : hf_rf 66 2 = some 69 := by decide +kernel
theorem lk_67 : hf_kd 67 = 0 := by decide +kernel
theorem la_67 : hf_al 67 = 8 := by decide +kernel
theorem lz_67 : hf_ln 67 = 8 := by decide +kernel
theorem lk_68 : hf_kd 68 = 0 := by decide +kernel
theorem la_68 : hf_al 68 = 8 := by decide +kernel
theorem lz_68 : hf_ln 68 = 8 := by decide +kernel
theorem lk_69 : hf_kd 69 = 0 := by decide +kernel
theorem la_69 : hf_al 69 = 8 := by decide +kernel
theorem lz_69 : hf_ln 69 = 8 := by decide +kernel
theorem lk_70 : hf_kd 70 = 3 := by decide +kernel
theorem lr_70_0 : hf_rf 70 0 = some 71 := by decide +kernel
theorem lr_70_1 : hf_rf 70 1 = some 72 := by decide +kernel
theorem lk_71 : hf_kd 71 = 0 := by decide +kernel
theorem la_71 : hf_al 71 = 12 := by decide +kernel
theorem lz_71 : hf_ln 71 = 12 := by decide +kernel
theorem lk_72 : hf_kd 72 = 0 := by decide +kernel
theorem la_72 : hf_al 72 = 12 := by decide +kernel
theorem lz_72 : hf_ln 72 = 12 := by decide +kernel
theorem lk_73 : hf_kd 73 = 3 := by decide +kernel
theorem lr_73_0 : hf_rf 73 0 = some 74 := by decide +kernel
theorem lr_73_1 : hf_rf 73 1 = some 75 := by decide +kernel
theorem lk_74 : hf_kd 74 = 0 := by decide +kernel
theorem la_74 : hf_al 74 = 12 := by decide +kernel
theorem lz_74 : hf_ln 74 = 12 := by decide +kernel
theorem lk_75 : hf_kd 75 = 0 := by decide +kernel
theorem la_75 : hf_al 75 = 12 := by decide +kernel
theorem lz_75 : hf_ln 75 = 12 := by decide +kernel
theorem lk_76 : hf_kd 76 = 3 := by decide +kernel
theorem lr_76_0 : hf_rf 76 0 = some 77 := by decide +kernel
theorem lr_76_1 : hf_rf 76 1 = some 78 := by decide +kernel
theorem lk_77 : hf_kd 77 = 0 := by decide +kernel
theorem la_77 : hf_al 77 = 12 := by decide +kernel
theorem lz_77 : hf_ln 77 = 12 := by decide +kernel
theorem lk_78 : hf_kd 78 = 0 := by decide +kernel
theorem la_78 : hf_al 78 = 12 := by decide +kernel
theorem lz_78 : hf_ln 78 = 12 := by decide +kernel
theorem lk_79 : hf_kd 79 = 3 := by decide +kernel
theorem lr_79_0 : hf_rf 79 0 = some 80 := by decide +kernel
theorem lr_79_1 : hf_rf 79 1 = some 81 := by decide +kernel
theorem lk_80 : hf_kd 80 = 0 := by decide +kernel
theorem la_80 : hf_al 80 = 12 := by decide +kernel
theorem lz_80 : hf_ln 80 = 12 := by decide +kernel
theorem lk_81 : hf_kd 81 = 0 := by decide +kernel
theorem la_81 : hf_al 81 = 12 := by decide +kernel
theorem lz_81 : hf_ln 81 = 12 := by decide +kernel
theorem lk_82 : hf_kd 82 = 3 := by decide +kernel
theorem lr_82_0 : hf_rf 82 0 = some 83 := by decide +kernel
theorem lr_82_1 : hf_rf 82 1 = some 84 := by decide +kernel
theorem lk_83 : hf_kd 83 = 0 := by decide +kernel
theorem la_83 : hf_al 83 = 12 := by decide +kernel
theorem lz_83 : hf_ln 83 = 12 := by decide +kernel
theorem lk_84 : hf_kd 84 = 0 := by decide +kernel
theorem la_84 : hf_al 84 = 12 := by decide +kernel
theorem lz_84 : hf_ln 84 = 12 := by decide +kernel
theorem lk_85 : hf_kd 85 = 3 := by decide +kernel
theorem lr_85_0 : hf_rf 85 0 = some 86 := by decide +kernel
theorem lr_85_1 : hf_rf 85 1 = some 87 := by decide +kernel
theorem lk_86 : hf_kd 86 = 0 := by decide +kernel
theorem la_86 : hf_al 86 = 12 := by decide +kernel
theorem lz_86 : hf_ln 86 = 12 := by decide +kernel
theorem lk_87 : hf_kd 87 = 0 := by decide +kernel
theorem la_87 : hf_al 87 = 12 := by decide +kernel
theorem lz_87 : hf_ln 87 = 12 := by decide +kernel
theorem lk_88 : hf_kd 88 = 3 := by decide +kernel
theorem lr_88_0 : hf_rf 88 0 = some 89 := by decide +kernel
theorem lr_88_1 : hf_rf 88 1 = some 90 := by decide +kernel
theorem lk_89 : hf_kd 89 = 0 := by decide +kernel
theorem la_89 : hf_al 89 = 12 := by decide +kernel
theorem lz_89 : hf_ln 89 = 12 := by decide +kernel
theorem lk_90 : hf_kd 90 = 0 := by decide +kernel
theorem la_90 : hf_al 90 = 12 := by decide +kernel
theorem lz_90 : hf_ln 90 = 12 := by decide +kernel
theorem lk_91 : hf_kd 91 = 3 := by decide +kernel
theorem lr_91_0 : hf_rf 91 0 = some 92 := by decide +kernel
theorem lr_91_1 : hf_rf 91 1 = some 93 := by decide +kernel
theorem lk_92 : hf_kd 92 = 0 := by decide +kernel
theorem la_92 : hf_al 92 = 12 := by decide +kernel
theorem lz_92 : hf_ln 92 = 12 := by decide +kernel
theorem lk_93 : hf_kd 93 = 0 := by decide +kernel
theorem la_93 : hf_al 93 = 12 := by decide +kernel
theorem lz_93 : hf_ln 93 = 12 := by decide +kernel
theorem lk_94 : hf_kd 94 = 1 := by decide +kernel
theorem lz_94 : hf_ln 94 = 3 := by decide +kernel
theorem lr_94_0 : hf_rf 94 0 = some 96 := by decide +kernel
theorem lr_94_1 : hf_rf 94 1 = some 132 := by decide +kernel
theorem lr_94_2 : hf_rf 94 2 = some 168 := by decide +kernel
theorem lk_95 : hf_kd 95 = 0 := by decide +kernel
theorem la_95 : hf_al 95 = 3 := by decide +kernel
theorem lz_95 : hf_ln 95 = 3 := by decide +kernel
theorem lk_96 : hf_kd 96 = 7 := by decide +kernel
theorem lr_96_0 : hf_rf 96 0 = some 97 := by decide +kernel
theorem lr_96_1 : hf_rf 96 1 = some 98 := by decide +kernel
theorem lr_96_2 : hf_rf 96 2 = some 99 := by decide +kernel
theorem lr_96_3 : hf_rf 96 3 = some 100 := by decide +kernel
theorem lr_96_4 : hf_rf 96 4 = some 101 := by decide +kernel
theorem lr_96_5 : hf_rf 96 5 = some 102 := by decide +kernel
theorem lr_96_6 : hf_rf 96 6 = some 103 := by decide +kernel
theorem lr_96_7 : hf_rf 96 7 = some 104 := by decide +kernel
theorem lk_97 : hf_kd 97 = 0 := by decide +kernel
theorem la_97 : hf_al 97 = 256 := by decide +kernel
theorem lz_97 : hf_ln 97 = 256 := by decide +kernel
theorem lk_98 : hf_kd 98 = 0 := by decide +kernel
theorem la_98 : hf_al 98 = 256 := by decide +kernel
theorem lz_98 : hf_ln 98 = 256 := by decide +kernel
theorem lk_99 : hf_kd 99 = 0 := by decide +kernel
theorem la_99 : hf_al 99 = 256 := by decide +kernel
theorem lz_99 : hf_ln 99 = 256 := by decide +kernel
theorem lk_100 : hf_kd 100 = 0 := by decide +kernel
theorem la_100 : hf_al 100 = 256 := by decide +kernel
theorem lz_100 : hf_ln 100 = 256 := by decide +kernel
theorem lk_101 : hf_kd 101 = 0 := by decide +kernel
theorem la_101 : hf_al 101 = 256 := by decide +kernel
theorem lz_101 : hf_ln 101 = 256 := by decide +kernel
theorem lk_102 : hf_kd 102 = 0 := by decide +kernel
theorem la_102 : hf_al 102 = 256 := by decide +kernel
theorem lz_102 : hf_ln 102 = 256 := by decide +kernel
theorem lk_103 : hf_kd 103 = 2 := by decide +kernel
theorem lz_103 : hf_ln 103 = 8 := by decide +kernel
theorem lr_103_0 : hf_rf 103 0 = some 108 := by decide +kernel
theorem lr_103_1 : hf_rf 103 1 = some 111 := by decide +kernel
theorem lr_103_2 : hf_rf 103 2 = some 114 := by decide +kernel
theorem lr_103_3 : hf_rf 103 3 = some 117 := by decide +kernel
theorem lr_103_4 : hf_rf 103 4 = some 120 := by decide +kernel
theorem lr_103_5 : hf_rf 103 5 = some 123 := by decide +kernel
theorem lr_103_6 : hf_rf 103 6 = some 126 := by decide +kernel
theorem lr_103_7 : hf_rf 103 7 = some 129 := by decide +kernel
theorem lk_104 : hf_kd 104 = 8 := by decide +kernel
theorem lr_104_0 : hf_rf 104 0 = some 105 := by decide +kernel
theorem lr_104_1 : hf_rf 104 1 = some 106 := by decide +kernel
theorem lr_104_2 : hf_rf 104 2 = some 107 := by decide +kernel
theorem lk_105 : hf_kd 105 = 0 := by decide +kernel
theorem la_105 : hf_al 105 = 8 := by decide +kernel
theorem lz_105 : hf_ln 105 = 8 := by decide +kernel
theorem lk_106 : hf_kd 106 = 0 := by decide +kernel
theorem la_106 : hf_al 106 = 8 := by decide +kernel
theorem lz_106 : hf_ln 106 = 8 := by decide +kernel
theorem lk_107 : hf_kd 107 = 0 := by decide +kernel
theorem la_107 : hf_al 107 = 8 := by decide +kernel
theorem lz_107 : hf_ln 107 = 8 := by decide +kernel
theorem lk_108 : hf_kd 108 = 3 := by decide +kernel
theorem lr_108_0 : hf_rf 108 0 = some 109 := by decide +kernel
theorem lr_108_1 : hf_rf 108 1 = some 110 := by decide +kernel
theorem lk_109 : hf_kd 109 = 0 := by decide +kernel
theorem la_109 : hf_al 109 = 12 := by decide +kernel
theorem lz_109 : hf_ln 109 = 12 := by decide +kernel
theorem lk_110 : hf_kd 110 = 0 := by decide +kernel
theorem la_110 : hf_al 110 = 12 := by decide +kernel
theorem lz_110 : hf_ln 110 = 12 := by decide +kernel
theorem lk_111 : hf_kd 111 = 3 := by decide +kernel
theorem lr_111_0 : hf_rf 111 0 = some 112 := by decide +kernel
theorem lr_111_1 : hf_rf 111 1 = some 113 := by decide +kernel
theorem lk_112 : hf_kd 112 = 0 := by decide +kernel
theorem la_112 : hf_al 112 = 12 := by decide +kernel
theorem lz_112 : hf_ln 112 = 12 := by decide +kernel
theorem lk_113 : hf_kd 113 = 0 := by decide +kernel
theorem la_113 : hf_al 113 = 12 := by decide +kernel
theorem lz_113 : hf_ln 113 = 12 := by decide +kernel
theorem lk_114 : hf_kd 114 = 3 := by decide +kernel
theorem lr_114_0 : hf_rf 114 0 = some 115 := by decide +kernel
theorem lr_114_1 : hf_rf 114 1 = some 116 := by decide +kernel
theorem lk_115 : hf_kd 115 = 0 := by decide +kernel
theorem la_115 : hf_al 115 = 12 := by decide +kernel
theorem lz_115 : hf_ln 115 = 12 := by decide +kernel
theorem lk_116 : hf_kd 116 = 0 := by decide +kernel
theorem la_116 : hf_al 116 = 12 := by decide +kernel
theorem lz_116 : hf_ln 116 = 12 := by decide +kernel
theorem lk_117 : hf_kd 117 = 3 := by decide +kernel
theorem lr_117_0 : hf_rf 117 0 = some 118 := by decide +kernel
theorem lr_117_1 : hf_rf 117 1 = some 119 := by decide +kernel
theorem lk_118 : hf_kd 118 = 0 := by decide +kernel
theorem la_118 : hf_al 118 = 12 := by decide +kernel
theorem lz_118 : hf_ln 118 = 12 := by decide +kernel
theorem lk_119 : hf_kd 119 = 0 := by decide +kernel
theorem la_119 : hf_al 119 = 12 := by decide +kernel
theorem lz_119 : hf_ln 119 = 12 := by decide +kernel
theorem lk_120 : hf_kd 120 = 3 := by decide +kernel
theorem lr_120_0 : hf_rf 120 0 = some 121 := by decide +kernel
theorem lr_120_1 : hf_rf 120 1 = some 122 := by decide +kernel
theorem lk_121 : hf_kd 121 = 0 := by decide +kernel
theorem la_121 : hf_al 121 = 12 := by decide +kernel
theorem lz_121 : hf_ln 121 = 12 := by decide +kernel
theorem lk_122 : hf_kd 122 = 0 := by decide +kernel
theorem la_122 : hf_al 122 = 12 := by decide +kernel
theorem lz_122 : hf_ln 122 = 12 := by decide +kernel
theorem lk_123 : hf_kd 123 = 3 := by decide +kernel
theorem lr_123_0 : hf_rf 123 0 = some 124 := by decide +kernel
theorem lr_123_1 : hf_rf 123 1 = some 125 := by decide +kernel
theorem lk_124 : hf_kd 124 = 0 := by decide +kernel
theorem la_124 : hf_al 124 = 12 := by decide +kernel
theorem lz_124 : hf_ln 124 = 12 := by decide +kernel
theorem lk_125 : hf_kd 125 = 0 := by decide +kernel
theorem la_125 : hf_al 125 = 12 := by decide +kernel
theorem lz_125 : hf_ln 125 = 12 := by decide +kernel
theorem lk_126 : hf_kd 126 = 3 := by decide +kernel
theorem lr_126_0 : hf_rf 126 0 = some 127 := by decide +kernel
theorem lr_126_1 : hf_rf 126 1 = some 128 := by decide +kernel
theorem lk_127 : hf_kd 127 = 0 := by decide +kernel
theorem la_127 : hf_al 127 = 12 := by decide +kernel
theorem lz_127 : hf_ln 127 = 12 := by decide +kernel
theorem lk_128 : hf_kd 128 = 0 := by decide +kernel
theorem la_128 : hf_al 128 = 12 := by decide +kernel
theorem lz_128 : hf_ln 128 = 12 := by decide +kernel
theorem lk_129 : hf_kd 129 = 3 := by decide +kernel
theorem lr_129_0 : hf_rf 129 0 = some 130 := by decide +kernel
theorem lr_129_1 : hf_rf 129 1 = some 131 := by decide +kernel
theorem lk_130 : hf_kd 130 = 0 := by decide +kernel
theorem la_130 : hf_al 130 = 12 := by decide +kernel
theorem lz_130 : hf_ln 130 = 12 := by decide +kernel
theorem lk_131 : hf_kd 131 = 0 := by decide +kernel
theorem la_131 : hf_al 131 = 12 := by decide +kernel
theorem lz_131 : hf_ln 131 = 12 := by decide +kernel
theorem lk_132 : hf_kd 132 = 7 := by decide +kernel
theorem lr_132_0 : hf_rf 132 0 = some 133 := by decide +kernel
theorem lr_132_1 : hf_rf 132 1 = some 134 := by decide +kernel
theorem lr_132_2 : hf_rf 132 2 = some 135 := by decide +kernel
theorem lr_132_3 : hf_rf 132 3 = some 136 := by decide +kernel
theorem lr_132_4 : hf_rf 132 4 = some 137 := by decide +kernel
theorem lr_132_5 : hf_rf 132 5 = some 138 := by decide +kernel
theorem lr_132_6 : hf_rf 132 6 = some 139 := by decide +kernel
theorem lr_132_7 : hf_rf 132 7 = some 140 := by decide +kernel
theorem lk_133 : hf_kd 133 = 0 := by decide +kernel
theorem la_133 : hf_al 133 = 256 := by decide +kernel
theorem lz_133 : hf_ln 133 = 256 := by decide +kernel
theorem lk_134 : hf_kd 134 = 0 := by decide +kernel
theorem la_134 : hf_al 134 = 256 := by decide +kernel
theorem lz_134 : hf_ln 134 = 256 := by decide +kernel
theorem lk_135 : hf_kd 135 = 0 := by decide +kernel
theorem la_135 : hf_al 135 = 256 := by decide +kernel
theorem lz_135 : hf_ln 135 = 256 := by decide +kernel
theorem lk_136 : hf_kd 136 = 0 := by decide +kernel
theorem la_136 : hf_al 136 = 256 := by decide +kernel
theorem lz_136 : hf_ln 136 = 256 := by decide +kernel
theorem lk_137 : hf_kd 137 = 0 := by decide +kernel
theorem la_137 : hf_al 137 = 256 := by decide +kernel
theorem lz_137 : hf_ln 137 = 256 := by decide +kernel
theorem lk_138 : hf_kd 138 = 0 := by decide +kernel
theorem la_138 : hf_al 138 = 256 := by decide +kernel
theorem lz_138 : hf_ln 138 = 256 := by decide +kernel
theorem lk_139 : hf_kd 139 = 2 := by decide +kernel
theorem lz_139 : hf_ln 139 = 8 := by decide +kernel
theorem lr_139_0 : hf_rf 139 0 = some 144 := by decide +kernel
theorem lr_139_1 : hf_rf 139 1 = some 147 := by decide +kernel
theorem lr_139_2 : hf_rf 139 2 = some 150 := by decide +kernel
theorem lr_139_3 : hf_rf 139 3 = some 153 := by decide +kernel
theorem lr_139_4 : hf_rf 139 4 = some 156 := by decide +kernel
theorem lr_139_5 : hf_rf 139 5 = some 159 := by decide +kernel
theorem lr_139_6 : hf_rf 139 6 = some 162 := by decide +kernel
theorem lr_139_7 : hf_rf 139 7 = some 165 := by decide +kernel
theorem lk_140 : hf_kd 140 = 8 := by decide +kernel
theorem lr_140_0 : hf_rf 140 0 = some 141 := by decide +kernel
theorem lr_140_1 : hf_rf 140 1 = some 142 := by decide +kernel
theorem lr_140_2 : hf_rf 140 2 = some 143 := by decide +kernel
theorem lk_141 : hf_kd 141 = 0 := by decide +kernel
theorem la_141 : hf_al 141 = 8 := by decide +kernel
theorem lz_141 : hf_ln 141 = 8 := by decide +kernel
theorem lk_142 : hf_kd 142 = 0 := by decide +kernel
theorem la_142 : hf_al 142 = 8 := by decide +kernel
theorem lz_142 : hf_ln 142 = 8 := by decide +kernel
theorem lk_143 : hf_kd 143 = 0 := by decide +kernel
theorem la_143 : hf_al 143 = 8 := by decide +kernel
theorem lz_143 : hf_ln 143 = 8 := by decide +kernel
theorem lk_144 : hf_kd 144 = 3 := by decide +kernel
theorem lr_144_0 : hf_rf 144 0 = some 145 := by decide +kernel
theorem lr_144_1 : hf_rf 144 1 = some 146 := by decide +kernel
theorem lk_145 : hf_kd 145 = 0 := by decide +kernel
theorem la_145 : hf_al 145 = 12 := by decide +kernel
theorem lz_145 : hf_ln 145 = 12 := by decide +kernel
theorem lk_146 : hf_kd 146 = 0 := by decide +kernel
theorem la_146 : hf_al 146 = 12 := by decide +kernel
theorem lz_146 : hf_ln 146 = 12 := by decide +kernel
theorem lk_147 : hf_kd 147 = 3 := by decide +kernel
theorem lr_147_0 : hf_rf 147 0 = some 148 := by decide +kernel
theorem lr_147_1 : hf_rf 147 1 = some 149 := by decide +kernel
theorem lk_148 : hf_kd 148 = 0 := by decide +kernel
theorem la_148 : hf_al 148 = 12 := by decide +kernel
theorem lz_148 : hf_ln 148 = 12 := by decide +kernel
theorem lk_149 : hf_kd 149 = 0 := by decide +kernel
theorem la_149 : hf_al 149 = 12 := by decide +kernel
theorem lz_149 : hf_ln 149 = 12 := by decide +kernel
theorem lk_150 : hf_kd 150 = 3 := by decide +kernel
theorem lr_150_0 : hf_rf 150 0 = some 151 := by decide +kernel
theorem lr_150_1 : hf_rf 150 1 = some 152 := by decide +kernel
theorem lk_151 : hf_kd 151 = 0 := by decide +kernel
theorem la_151 : hf_al 151 = 12 := by decide +kernel
theorem lz_151 : hf_ln 151 = 12 := by decide +kernel
theorem lk_152 : hf_kd 152 = 0 := by decide +kernel
theorem la_152 : hf_al 152 = 12 := by decide +kernel
theorem lz_152 : hf_ln 152 = 12 := by decide +kernel
theorem lk_153 : hf_kd 153 = 3 := by decide +kernel
theorem lr_153_0 : hf_rf 153 0 = some 154 := by decide +kernel
theorem lr_153_1 : hf_rf 153 1 = some 155 := by decide +kernel
theorem lk_154 : hf_kd 154 = 0 := by decide +kernel
theorem la_154 : hf_al 154 = 12 := by decide +kernel
theorem lz_154 : hf_ln 154 = 12 := by decide +kernel
theorem lk_155 : hf_kd 155 = 0 := by decide +kernel
theorem la_155 : hf_al 155 = 12 := by decide +kernel
theorem lz_155 : hf_ln 155 = 12 := by decide +kernel
theorem lk_156 : hf_kd 156 = 3 := by decide +kernel
theorem lr_156_0 : hf_rf 156 0 = some 157 := by decide +kernel
theorem lr_156_1 : hf_rf 156 1 = some 158 := by decide +kernel
theorem lk_157 : hf_kd 157 = 0 := by decide +kernel
theorem la_157 : hf_al 157 = 12 := by decide +kernel
theorem lz_157 : hf_ln 157 = 12 := by decide +kernel
theorem lk_158 : hf_kd 158 = 0 := by decide +kernel
theorem la_158 : hf_al 158 = 12 := by decide +kernel
theorem lz_158 : hf_ln 158 = 12 := by decide +kernel
theorem lk_159 : hf_kd 159 = 3 := by decide +kernel
theorem lr_159_0 : hf_rf 159 0 = some 160 := by decide +kernel
theorem lr_159_1 : hf_rf 159 1 = some 161 := by decide +kernel
theorem lk_160 : hf_kd 160 = 0 := by decide +kernel
theorem la_160 : hf_al 160 = 12 := by decide +kernel
theorem lz_160 : hf_ln 160 = 12 := by decide +kernel
theorem lk_161 : hf_kd 161 = 0 := by decide +kernel
theorem la_161 : hf_al 161 = 12 := by decide +kernel
theorem lz_161 : hf_ln 161 = 12 := by decide +kernel
theorem lk_162 : hf_kd 162 = 3 := by decide +kernel
theorem lr_162_0 : hf_rf 162 0 = some 163 := by decide +kernel
theorem lr_162_1 : hf_rf 162 1 = some 164 := by decide +kernel
theorem lk_163 : hf_kd 163 = 0 := by decide +kernel
theorem la_163 : hf_al 163 = 12 := by decide +kernel
theorem lz_163 : hf_ln 163 = 12 := by decide +kernel
theorem lk_164 : hf_kd 164 = 0 := by decide +kernel
theorem la_164 : hf_al 164 = 12 := by decide +kernel
theorem lz_164 : hf_ln 164 = 12 := by decide +kernel
theorem lk_165 : hf_kd 165 = 3 := by decide +kernel
theorem lr_165_0 : hf_rf 165 0 = some 166 := by decide +kernel
theorem lr_165_1 : hf_rf 165 1 = some 167 := by decide +kernel
theorem lk_166 : hf_kd 166 = 0 := by decide +kernel
theorem la_166 : hf_al 166 = 12 := by decide +kernel
theorem lz_166 : hf_ln 166 = 12 := by decide +kernel
theorem lk_167 : hf_kd 167 = 0 := by decide +kernel
theorem la_167 : hf_al 167 = 12 := by decide +kernel
theorem lz_167 : hf_ln 167 = 12 := by decide +kernel
theorem lk_168 : hf_kd 168 = 7 := by decide +kernel
theorem lr_168_0 : hf_rf 168 0 = some 169 := by decide +kernel
theorem lr_168_1 : hf_rf 168 1 = some 170 := by decide +kernel
theorem lr_168_2 : hf_rf 168 2 = some 171 := by decide +kernel
theorem lr_168_3 : hf_rf 168 3 = some 172 := by decide +kernel
theorem lr_168_4 : hf_rf 168 4 = some 173 := by decide +kernel
theorem lr_168_5 : hf_rf 168 5 = some 174 := by decide +kernel
theorem lr_168_6 : hf_rf 168 6 = some 175 := by decide +kernel
theorem lr_168_7 : hf_rf 168 7 = some 176 := by decide +kernel
theorem lk_169 : hf_kd 169 = 0 := by decide +kernel
theorem la_169 : hf_al 169 = 256 := by decide +kernel
theorem lz_169 : hf_ln 169 = 256 := by decide +kernel
theorem lk_170 : hf_kd 170 = 0 := by decide +kernel
theorem la_170 : hf_al 170 = 256 := by decide +kernel
theorem lz_170 : hf_ln 170 = 256 := by decide +kernel
theorem lk_171 : hf_kd 171 = 0 := by decide +kernel
theorem la_171 : hf_al 171 = 256 := by decide +kernel
theorem lz_171 : hf_ln 171 = 256 := by decide +kernel
theorem lk_172 : hf_kd 172 = 0 := by decide +kernel
theorem la_172 : hf_al 172 = 256 := by decide +kernel
theorem lz_172 : hf_ln 172 = 256 := by decide +kernel
theorem lk_173 : hf_kd 173 = 0 := by decide +kernel
theorem la_173 : hf_al 173 = 256 := by decide +kernel
theorem lz_173 : hf_ln 173 = 256 := by decide +kernel
theorem lk_174 : hf_kd 174 = 0 := by decide +kernel
theorem la_174 : hf_al 174 = 256 := by decide +kernel
theorem lz_174 : hf_ln 174 = 256 := by decide +kernel
theorem lk_175 : hf_kd 175 = 2 := by decide +kernel
theorem lz_175 : hf_ln 175 = 8 := by decide +kernel
theorem lr_175_0 : hf_rf 175 0 = some 180 := by decide +kernel
theorem lr_175_1 : hf_rf 175 1 = some 183 := by decide +kernel
theorem lr_175_2 : hf_rf 175 2 = some 186 := by decide +kernel
theorem lr_175_3 : hf_rf 175 3 = some 189 := by decide +kernel
theorem lr_175_4 : hf_rf 175 4 = some 192 := by decide +kernel
theorem lr_175_5 : hf_rf 175 5 = some 195 := by decide +kernel
theorem lr_175_6 : hf_rf 175 6 = some 198 := by decide +kernel
theorem lr_175_7 : hf_rf 175 7 = some 201 := by decide +kernel
theorem lk_176 : hf_kd 176 = 8 := by decide +kernel
theorem lr_176_0 : hf_rf 176 0 = some 177 := by decide +kernel
theorem lr_176_1 : hf_rf 176 1 = some 178 := by decide +kernel
theorem lr_176_2 : hf_rf 176 2 = some 179 := by decide +kernel
theorem lk_177 : hf_kd 177 = 0 := by decide +kernel
theorem la_177 : hf_al 177 = 8 := by decide +kernel
theorem lz_177 : hf_ln 177 = 8 := by decide +kernel
theorem lk_178 : hf_kd 178 = 0 := by decide +kernel
theorem la_178 : hf_al 178 = 8 := by decide +kernel
theorem lz_178 : hf_ln 178 = 8 := by decide +kernel
theorem lk_179 : hf_kd 179 = 0 := by decide +kernel
theorem la_179 : hf_al 179 = 8 := by decide +kernel
theorem lz_179 : hf_ln 179 = 8 := by decide +kernel
theorem lk_180 : hf_kd 180 = 3 := by decide +kernel
theorem lr_180_0 : hf_rf 180 0 = some 181 := by decide +kernel
theorem lr_180_1 : hf_rf 180 1 = some 182 := by decide +kernel
theorem lk_181 : hf_kd 181 = 0 := by decide +kernel
theorem la_181 : hf_al 181 = 12 := by decide +kernel
theorem lz_181 : hf_ln 181 = 12 := by decide +kernel
theorem lk_182 : hf_kd 182 = 0 := by decide +kernel
theorem la_182 : hf_al 182 = 12 := by decide +kernel
theorem lz_182 : hf_ln 182 = 12 := by decide +kernel
theorem lk_183 : hf_kd 183 = 3 := by decide +kernel
theorem lr_183_0 : hf_rf 183 0 = some 184 := by decide +kernel
theorem lr_183_1 : hf_rf 183 1 = some 185 := by decide +kernel
theorem lk_184 : hf_kd 184 = 0 := by decide +kernel
theorem la_184 : hf_al 184 = 12 := by decide +kernel
theorem lz_184 : hf_ln 184 = 12 := by decide +kernel
theorem lk_185 : hf_kd 185 = 0 := by decide +kernel
theorem la_185 : hf_al 185 = 12 := by decide +kernel
theorem lz_185 : hf_ln 185 = 12 := by decide +kernel
theorem lk_186 : hf_kd 186 = 3 := by decide +kernel
theorem lr_186_0 : hf_rf 186 0 = some 187 := by decide +kernel
theorem lr_186_1 : hf_rf 186 1 = some 188 := by decide +kernel
theorem lk_187 : hf_kd 187 = 0 := by decide +kernel
theorem la_187 : hf_al 187 = 12 := by decide +kernel
theorem lz_187 : hf_ln 187 = 12 := by decide +kernel
theorem lk_188 : hf_kd 188 = 0 := by decide +kernel
theorem la_188 : hf_al 188 = 12 := by decide +kernel
theorem lz_188 : hf_ln 188 = 12 := by decide +kernel
theorem lk_189 : hf_kd 189 = 3 := by decide +kernel
theorem lr_189_0 : hf_rf 189 0 = some 190 := by decide +kernel
theorem lr_189_1 : hf_rf 189 1 = some 191 := by decide +kernel
theorem lk_190 : hf_kd 190 = 0 := by decide +kernel
theorem la_190 : hf_al 190 = 12 := by decide +kernel
theorem lz_190 : hf_ln 190 = 12 := by decide +kernel
theorem lk_191 : hf_kd 191 = 0 := by decide +kernel
theorem la_191 : hf_al 191 = 12 := by decide +kernel
theorem lz_191 : hf_ln 191 = 12 := by decide +kernel
theorem lk_192 : hf_kd 192 = 3 := by decide +kernel
theorem lr_192_0 : hf_rf 192 0 = some 193 := by decide +kernel
theorem lr_192_1 : hf_rf 192 1 = some 194 := by decide +kernel
theorem lk_193 : hf_kd 193 = 0 := by decide +kernel
theorem la_193 : hf_al 193 = 12 := by decide +kernel
theorem lz_193 : hf_ln 193 = 12 := by decide +kernel
theorem lk_194 : hf_kd 194 = 0 := by decide +kernel
theorem la_194 : hf_al 194 = 12 := by decide +kernel
theorem lz_194 : hf_ln 194 = 12 := by decide +kernel
theorem lk_195 : hf_kd 195 = 3 := by decide +kernel
theorem lr_195_0 : hf_rf 195 0 = some 196 := by decide +kernel
theorem lr_195_1 : hf_rf 195 1 = some 197 := by decide +kernel
theorem lk_196 : hf_kd 196 = 0 := by decide +kernel
theorem la_196 : hf_al 196 = 12 := by decide +kernel
theorem lz_196 : hf_ln 196 = 12 := by decide +kernel
theorem lk_197 : hf_kd 197 = 0 := by decide +kernel
theorem la_197 : hf_al 197 = 12 := by decide +kernel
theorem lz_197 : hf_ln 197 = 12 := by decide +kernel
theorem lk_198 : hf_kd 198 = 3 := by decide +kernel
theorem lr_198_0 : hf_rf 198 0 = some 199 := by decide +kernel
theorem lr_198_1 : hf_rf 198 1 = some 200 := by decide +kernel
theorem lk_199 : hf_kd 199 = 0 := by decide +kernel
theorem la_199 : hf_al 199 = 12 := by decide +kernel
theorem lz_199 : hf_ln 199 = 12 := by decide +kernel
theorem lk_200 : hf_kd 200 = 0 := by decide +kernel
theorem la_200 : hf_al 200 = 12 := by decide +kernel
theorem lz_200 : hf_ln 200 = 12 := by decide +kernel
theorem lk_201 : hf_kd 201 = 3 := by decide +kernel
theorem lr_201_0 : hf_rf 201 0 = some 202 := by decide +kernel
theorem lr_201_1 : hf_rf 201 1 = some 203 := by decide +kernel
theorem lk_202 : hf_kd 202 = 0 := by decide +kernel
theorem la_202 : hf_al 202 = 12 := by decide +kernel
theorem lz_202 : hf_ln 202 = 12 := by decide +kernel
theorem lk_203 : hf_kd 203 = 0 := by decide +kernel
theorem la_203 : hf_al 203 = 12 := by decide +kernel
theorem lz_203 : hf_ln 203 = 12 := by decide +kernel
theorem lk_204 : hf_kd 204 = 11 := by decide +kernel
theorem lr_204_3 : hf_rf 204 3 = some 205 := by decide +kernel
theorem lr_204_4 : hf_rf 204 4 = some 206 := by decide +kernel
theorem lr_204_5 : hf_rf 204 5 = some 207 := by decide +kernel
theorem lr_204_6 : hf_rf 204 6 = some 208 := by decide +kernel
theorem lr_204_8 : hf_rf 204 8 = some 209 := by decide +kernel
theorem lr_204_9 : hf_rf 204 9 = some 210 := by decide +kernel
theorem lr_204_10 : hf_rf 204 10 = some 211 := by decide +kernel
theorem lr_204_11 : hf_rf 204 11 = some 212 := by decide +kernel
theorem lr_204_14 : hf_rf 204 14 = some 213 := by decide +kernel
theorem lr_204_15 : hf_rf 204 15 = some 214 := by decide +kernel
theorem lr_204_17 : hf_rf 204 17 = some 215 := by decide +kernel
theorem lr_204_18 : hf_rf 204 18 = some 216 := by decide +kernel
theorem lr_204_19 : hf_rf 204 19 = some 217 := by decide +kernel
theorem lr_204_21 : hf_rf 204 21 = some 218 := by decide +kernel
theorem lr_204_22 : hf_rf 204 22 = some 219 := by decide +kernel
theorem lr_204_23 : hf_rf 204 23 = some 220 := by decide +kernel
theorem lk_205 : hf_kd 205 = 0 := by decide +kernel
theorem la_205 : hf_al 205 = 256 := by decide +kernel
theorem lz_205 : hf_ln 205 = 256 := by decide +kernel
theorem lk_206 : hf_kd 206 = 0 := by decide +kernel
theorem la_206 : hf_al 206 = 256 := by decide +kernel
theorem lz_206 : hf_ln 206 = 256 := by decide +kernel
theorem lk_207 : hf_kd 207 = 0 := by decide +kernel
theorem la_207 : hf_al 207 = 256 := by decide +kernel
theorem lz_207 : hf_ln 207 = 256 := by decide +kernel
theorem lk_208 : hf_kd 208 = 0 := by decide +kernel
theorem la_208 : hf_al 208 = 256 := by decide +kernel
theorem lz_208 : hf_ln 208 = 256 := by decide +kernel
theorem lk_209 : hf_kd 209 = 0 := by decide +kernel
theorem la_209 : hf_al 209 = 16 := by decide +kernel
theorem lz_209 : hf_ln 209 = 16 := by decide +kernel
theorem lk_210 : hf_kd 210 = 0 := by decide +kernel
theorem la_210 : hf_al 210 = 16 := by decide +kernel
theorem lz_210 : hf_ln 210 = 16 := by decide +kernel
theorem lk_211 : hf_kd 211 = 0 := by decide +kernel
theorem la_211 : hf_al 211 = 16 := by decide +kernel
theorem lz_211 : hf_ln 211 = 16 := by decide +kernel
theorem lk_212 : hf_kd 212 = 0 := by decide +kernel
theorem la_212 : hf_al 212 = 16 := by decide +kernel
theorem lz_212 : hf_ln 212 = 16 := by decide +kernel
theorem lk_213 : hf_kd 213 = 0 := by decide +kernel
theorem la_213 : hf_al 213 = 20 := by decide +kernel
theorem lz_213 : hf_ln 213 = 20 := by decide +kernel
theorem lk_214 : hf_kd 214 = 0 := by decide +kernel
theorem la_214 : hf_al 214 = 20 := by decide +kernel
theorem lz_214 : hf_ln 214 = 20 := by decide +kernel
theorem lk_215 : hf_kd 215 = 0 := by decide +kernel
theorem la_215 : hf_al 215 = 1824 := by decide +kernel
theorem lz_215 : hf_ln 215 = 1824 := by decide +kernel
theorem lk_216 : hf_kd 216 = 0 := by decide +kernel
theorem la_216 : hf_al 216 = 7296 := by decide +kernel
theorem lz_216 : hf_ln 216 = 7296 := by decide +kernel
theorem lk_217 : hf_kd 217 = 0 := by decide +kernel
theorem la_217 : hf_al 217 = 3 := by decide +kernel
theorem lz_217 : hf_ln 217 = 3 := by decide +kernel
theorem lk_218 : hf_kd 218 = 0 := by decide +kernel
theorem la_218 : hf_al 218 = 256 := by decide +kernel
theorem lz_218 : hf_ln 218 = 256 := by decide +kernel
theorem lk_219 : hf_kd 219 = 0 := by decide +kernel
theorem la_219 : hf_al 219 = 256 := by decide +kernel
theorem lz_219 : hf_ln 219 = 256 := by decide +kernel
theorem lk_220 : hf_kd 220 = 0 := by decide +kernel
theorem la_220 : hf_al 220 = 256 := by decide +kernel
theorem lz_220 : hf_ln 220 = 256 := by decide +kernel
theorem la_1 : hf_al 1 = 8 := by decide +kernel
theorem la_2 : hf_al 2 = 8 := by decide +kernel
theorem la_3 : hf_al 3 = 8 := by decide +kernel
theorem la_4 : hf_al 4 = 6 := by decide +kernel
theorem la_5 : hf_al 5 = 6 := by decide +kernel
theorem hf_rd6 {I : hf_M} {c : Nat} (h : 6 ≤ c) : hf_rd I c = I c := by unfold hf_rd; rw [if_neg (by omega)]
theorem hw_r (I : hf_M) (c j : Nat) (v : Int32) (d : Nat) : hf_w I c j v d = if d = c then upd (I c) j v else I d := rfl
theorem hu_r (f : Nat → Int32) (k : Nat) (x : Int32) (j : Nat) : upd f k x j = if j = k then x else f j := rfl
theorem hw_s (I : hf_M) (c j : Nat) (v : Int32) : hf_w I c j v c j = v := by simp [hf_w, upd]
theorem hw_o {I : hf_M} {c j d i : Nat} {v : Int32} (h : d ≠ c ∨ i ≠ j) : hf_w I c j v d i = I d i := by
  unfold hf_w upd
  by_cases hd : d = c
  · subst hd; rw [if_pos rfl]; rcases h with h | h
    · exact absurd rfl h
    · rw [if_neg h]
  · rw [if_neg hd]
theorem hw_d {I : hf_M} {c j d : Nat} {v : Int32} (h : d ≠ c) : hf_w I c j v d = I d := by unfold hf_w; rw [if_neg h]
theorem hf_fn_ok {a n : Nat} {k : hf_K hf_M} {av : List Value} {I : hf_M} (h : (decide (av.length = a) && av.all fun v => v.category == 1) = true) : hf_fn a n k av I = k (av ++ List.replicate (n - a) (.long 0)) [] I := by
  unfold hf_fn; rw [if_pos (by simpa using h)]

theorem ni_0 : (0 : Int32) = nI 0 := id rfl
theorem ni_1 : (1 : Int32) = nI 1 := id rfl
theorem ni_2 : (2 : Int32) = nI 2 := id rfl
theorem ni_3 : (3 : Int32) = nI 3 := id rfl
theorem ni_4 : (4 : Int32) = nI 4 := id rfl
theorem ni_5 : (5 : Int32) = nI 5 := id rfl
theorem ni_6 : (6 : Int32) = nI 6 := id rfl
theorem ni_7 : (7 : Int32) = nI 7 := id rfl
theorem ni_8 : (8 : Int32) = nI 8 := id rfl
theorem ni_9 : (9 : Int32) = nI 9 := id rfl
theorem ni_10 : (10 : Int32) = nI 10 := id rfl
theorem ni_12 : (12 : Int32) = nI 12 := id rfl
theorem ni_13 : (13 : Int32) = nI 13 := id rfl
theorem ni_14 : (14 : Int32) = nI 14 := id rfl
theorem ni_15 : (15 : Int32) = nI 15 := id rfl
theorem ni_16 : (16 : Int32) = nI 16 := id rfl
theorem ni_20 : (20 : Int32) = nI 20 := id rfl
theorem ni_24 : (24 : Int32) = nI 24 := id rfl
theorem ni_30 : (30 : Int32) = nI 30 := id rfl
theorem ni_40 : (40 : Int32) = nI 40 := id rfl
theorem ni_50 : (50 : Int32) = nI 50 := id rfl
theorem ni_100 : (100 : Int32) = nI 100 := id rfl
theorem ni_200 : (200 : Int32) = nI 200 := id rfl
theorem ni_256 : (256 : Int32) = nI 256 := id rfl
theorem ni_500 : (500 : Int32) = nI 500 := id rfl
theorem ni_512 : (512 : Int32) = nI 512 := id rfl
theorem ni_768 : (768 : Int32) = nI 768 := id rfl
theorem ni_1024 : (1024 : Int32) = nI 1024 := id rfl
theorem ni_1280 : (1280 : Int32) = nI 1280 := id rfl
theorem ni_1536 : (1536 : Int32) = nI 1536 := id rfl
theorem ni_1600 : (1600 : Int32) = nI 1600 := id rfl
theorem ni_1792 : (1792 : Int32) = nI 1792 := id rfl
theorem ni_1793 : (1793 : Int32) = nI 1793 := id rfl
theorem ni_1794 : (1794 : Int32) = nI 1794 := id rfl
theorem ni_1816 : (1816 : Int32) = nI 1816 := id rfl
theorem ni_1817 : (1817 : Int32) = nI 1817 := id rfl
theorem ni_1818 : (1818 : Int32) = nI 1818 := id rfl
theorem ni_1819 : (1819 : Int32) = nI 1819 := id rfl
theorem ni_1820 : (1820 : Int32) = nI 1820 := id rfl
theorem ni_1821 : (1821 : Int32) = nI 1821 := id rfl
theorem ni_1822 : (1822 : Int32) = nI 1822 := id rfl
theorem ni_1823 : (1823 : Int32) = nI 1823 := id rfl
theorem ni_1824 : (1824 : Int32) = nI 1824 := id rfl
theorem ni_10000 : (10000 : Int32) = nI 10000 := id rfl
theorem e_in (N : Nat) (I : hf_M) (x a b : Int32) : fX8_in N [.int x, .int a, .int b] I = some (some (.int (if x < a then 0 else if b < x then 0 else 1)), I) := by
  show (if x < a then _ else if b < x then _ else _) = _
  split
  · rfl
  · split <;> rfl
theorem e_within (N : Nat) (I : hf_M) (x a b : Int32) : fX7_isWithin N [.int x, .int a, .int b] I = some (some (.int (if x < a then 0 else if b < x then 0 else 1)), I) := by
  show (if x < a then _ else if b < x then _ else _) = _
  split
  · rfl
  · split <;> rfl
theorem e_has (N : Nat) (I : hf_M) (n : Int32) : fX2_has N [.ref 7, .int n] I = some (some (.int (if n < 0 then 0 else if I 7 6 ≤ n then 0 else 1)), I) := by
  show (if n < 0 then _ else if I 7 6 ≤ n then _ else _) = _
  split
  · rfl
  · split <;> rfl
theorem e_isCell (N : Nat) (I : hf_M) (n : Int32) : fX8_isCell N [.ref 204, .int n] I = some (some (.int (if n < 0 then 0 else if I 204 2 - 1 < n then 0 else 1)), I) := by
  show (match fX8_in N [.int n, .int 0, .int (I 204 2 - 1)] I with
    | some (v, J) => _
    | none => _) = _
  rw [e_in]
  dsimp only
  split
  · rfl
  · split <;> rfl
theorem hr_read {q : Nat} {fc fm : hf_M → hf_R hf_M} (h : ∀ (r c : Nat) (I J : hf_M), hr_all r c q I J → ∃ v : Int32, fc I = some (some (.int v), I) ∧ fm J = some (some (.int v), J)) : hr_call q fc fm := by
  intro r c I J _ hR
  obtain ⟨v, h1, h2⟩ := h r c I J hR
  exact ⟨v, r, c, I, J, h1, h2, hr_all_q hR, fun _ _ => rfl, fun _ _ => rfl⟩
theorem hr_no {q r c : Nat} {fc fm : hf_M → hf_R hf_M} {I J : hf_M} (hR : hr_all r c q I J) (v : Int32) (h1 : fc I = some (some (.int v), I)) (h2 : fm J = some (some (.int v), J)) : ∃ (v : Int32) (r' c' : Nat) (I' J' : hf_M), fc I = some (some (.int v), I') ∧ fm J = some (some (.int v), J') ∧ hr_all r' c' (q + 1) I' J' ∧ (∀ d, 204 ≤ d → I' d = I d) ∧ (∀ d, d < 204 → J' d = J d) := ⟨v, r, c, I, J, h1, h2, hr_all_q hR, fun _ _ => rfl, fun _ _ => rfl⟩

theorem hw6 (I : hf_M) (c j : Nat) (v : Int32) (d i : Nat) : hf_w I c j v d i = if d = c then (if i = j then v else I c i) else I d i := by
  unfold hf_w upd
  split <;> rfl
theorem hx_lt {a b : Nat} (h : a < b) (hb : b < 2 ^ 31) : (nI a < nI b) = True := eq_true (nI_lt h hb)
theorem hx_nlt {a b : Nat} (h : b ≤ a) (hb : a < 2 ^ 31) : (nI a < nI b) = False := eq_false (nI_nlt h hb)
theorem hx_le {a b : Nat} (h : a ≤ b) (hb : b < 2 ^ 31) : (nI a ≤ nI b) = True := eq_true (nI_le h hb)
theorem hx_nle {a b : Nat} (h : b < a) (hb : a < 2 ^ 31) : (nI a ≤ nI b) = False := eq_false (nI_ge h hb)
theorem hx_ne {a b : Nat} (h : ¬ a = b) (ha : a < 2 ^ 31) (hb : b < 2 ^ 31) : (nI a = nI b) = False := eq_false (fun q => h ((nI_eq ha hb).mp q))
theorem hn_lt {a b : Nat} (h : a < b) : (a < b) = True := eq_true h
theorem hn_nlt {a b : Nat} (h : b ≤ a) : (a < b) = False := eq_false (Nat.not_lt.mpr h)
theorem hn_le {a b : Nat} (h : a ≤ b) : (a ≤ b) = True := eq_true h
theorem hn_nle {a b : Nat} (h : b < a) : (a ≤ b) = False := eq_false (Nat.not_le.mpr h)
theorem hn_ne {a b : Nat} (h : ¬ a = b) : (a = b) = False := eq_false h
theorem hr_rng {x : Int32} {n : Nat} (hn : n < 2 ^ 31) (h0 : ¬ x < 0) (h1 : ¬ nI n < x) : ∃ j, j ≤ n ∧ x = nI j := by
  obtain ⟨j, hj, rfl⟩ := nI_of h0
  refine ⟨j, ?_, rfl⟩
  rw [nI_ltI hn hj] at h1
  omega
theorem hf_inI {k n : Nat} (h : k < n) (hk : k < 2 ^ 31) : (hf_in (nI k) n) = True := eq_true ⟨nI_pos hk, by rw [nI_clamp hk]; exact h⟩
