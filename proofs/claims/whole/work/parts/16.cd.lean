/-! ===== blocks by their numbers: by program ===== -/
theorem cd_0_0 : mm_Cd 0 0 = kb_0_0 := rfl
theorem cd_0_1 : mm_Cd 0 1 = kb_0_1 := rfl
theorem cd_0_2 : mm_Cd 0 2 = kb_0_2 := rfl
theorem cd_0_3 : mm_Cd 0 3 = kb_0_3 := rfl
theorem ml_0 : mm_Ml 0 = 2 := rfl
theorem nf_0 : mm_nf 0 = (1, 2, 11) := rfl
theorem cd_1_0 : mm_Cd 1 0 = kb_1_0 := rfl
theorem cd_1_1 : mm_Cd 1 1 = kb_1_1 := rfl
theorem cd_1_2 : mm_Cd 1 2 = kb_1_2 := rfl
theorem ml_1 : mm_Ml 1 = 6 := rfl
theorem nf_1 : mm_nf 1 = (6, 1, 11) := rfl
theorem cd_2_0 : mm_Cd 2 0 = kb_2_0 := rfl
theorem cd_2_1 : mm_Cd 2 1 = kb_2_1 := rfl
theorem cd_2_2 : mm_Cd 2 2 = kb_2_2 := rfl
theorem cd_2_3 : mm_Cd 2 3 = kb_2_3 := rfl
theorem ml_2 : mm_Ml 2 = 2 := rfl
theorem nf_2 : mm_nf 2 = (2, 1, 11) := rfl
theorem cd_3_0 : mm_Cd 3 0 = kb_3_0 := rfl
theorem cd_3_1 : mm_Cd 3 1 = kb_3_1 := rfl
theorem cd_3_2 : mm_Cd 3 2 = kb_3_2 := rfl
theorem ml_3 : mm_Ml 3 = 2 := rfl
theorem nf_3 : mm_nf 3 = (1, 1, 11) := rfl
theorem cd_4_0 : mm_Cd 4 0 = kb_4_0 := rfl
theorem ml_4 : mm_Ml 4 = 1 := rfl
theorem nf_4 : mm_nf 4 = (1, 1, 11) := rfl
theorem cd_5_0 : mm_Cd 5 0 = kb_5_0 := rfl
theorem cd_5_1 : mm_Cd 5 1 = kb_5_1 := rfl
theorem cd_5_2 : mm_Cd 5 2 = kb_5_2 := rfl
theorem cd_5_3 : mm_Cd 5 3 = kb_5_3 := rfl
theorem cd_5_4 : mm_Cd 5 4 = kb_5_4 := rfl
theorem cd_5_5 : mm_Cd 5 5 = kb_5_5 := rfl
theorem cd_5_6 : mm_Cd 5 6 = kb_5_6 := rfl
theorem cd_5_7 : mm_Cd 5 7 = kb_5_7 := rfl
theorem cd_5_8 : mm_Cd 5 8 = kb_5_8 := rfl
theorem cd_5_9 : mm_Cd 5 9 = kb_5_9 := rfl
theorem cd_5_10 : mm_Cd 5 10 = kb_5_10 := rfl
theorem cd_5_11 : mm_Cd 5 11 = kb_5_11 := rfl
theorem cd_5_12 : mm_Cd 5 12 = kb_5_12 := rfl
theorem cd_5_13 : mm_Cd 5 13 = kb_5_13 := rfl
theorem cd_5_14 : mm_Cd 5 14 = kb_5_14 := rfl
theorem cd_5_15 : mm_Cd 5 15 = kb_5_15 := rfl
theorem cd_5_16 : mm_Cd 5 16 = kb_5_16 := rfl
theorem cd_5_17 : mm_Cd 5 17 = kb_5_17 := rfl
theorem cd_5_18 : mm_Cd 5 18 = kb_5_18 := rfl
theorem cd_5_19 : mm_Cd 5 19 = kb_5_19 := rfl
theorem cd_5_20 : mm_Cd 5 20 = kb_5_20 := rfl
theorem cd_5_21 : mm_Cd 5 21 = kb_5_21 := rfl
theorem cd_5_22 : mm_Cd 5 22 = kb_5_22 := rfl
theorem cd_5_23 : mm_Cd 5 23 = kb_5_23 := rfl
theorem cd_5_24 : mm_Cd 5 24 = kb_5_24 := rfl
theorem cd_5_25 : mm_Cd 5 25 = kb_5_25 := rfl
theorem cd_5_26 : mm_Cd 5 26 = kb_5_26 := rfl
theorem cd_5_27 : mm_Cd 5 27 = kb_5_27 := rfl
theorem cd_5_28 : mm_Cd 5 28 = kb_5_28 := rfl
theorem cd_5_29 : mm_Cd 5 29 = kb_5_29 := rfl
theorem cd_5_30 : mm_Cd 5 30 = kb_5_30 := rfl
theorem ml_5 : mm_Ml 5 = 3 := rfl
theorem nf_5 : mm_nf 5 = (3, 1, 11) := rfl
theorem cd_6_0 : mm_Cd 6 0 = kb_6_0 := rfl
theorem cd_6_1 : mm_Cd 6 1 = kb_6_1 := rfl
theorem cd_6_2 : mm_Cd 6 2 = kb_6_2 := rfl
theorem cd_6_3 : mm_Cd 6 3 = kb_6_3 := rfl
theorem cd_6_4 : mm_Cd 6 4 = kb_6_4 := rfl
theorem cd_6_5 : mm_Cd 6 5 = kb_6_5 := rfl
theorem cd_6_6 : mm_Cd 6 6 = kb_6_6 := rfl
theorem cd_6_7 : mm_Cd 6 7 = kb_6_7 := rfl
theorem cd_6_8 : mm_Cd 6 8 = kb_6_8 := rfl
theorem cd_6_9 : mm_Cd 6 9 = kb_6_9 := rfl
theorem cd_6_10 : mm_Cd 6 10 = kb_6_10 := rfl
theorem cd_6_11 : mm_Cd 6 11 = kb_6_11 := rfl
theorem cd_6_12 : mm_Cd 6 12 = kb_6_12 := rfl
theorem cd_6_13 : mm_Cd 6 13 = kb_6_13 := rfl
theorem cd_6_14 : mm_Cd 6 14 = kb_6_14 := rfl
theorem cd_6_15 : mm_Cd 6 15 = kb_6_15 := rfl
theorem cd_6_16 : mm_Cd 6 16 = kb_6_16 := rfl
theorem cd_6_17 : mm_Cd 6 17 = kb_6_17 := rfl
theorem cd_6_18 : mm_Cd 6 18 = kb_6_18 := rfl
theorem cd_6_19 : mm_Cd 6 19 = kb_6_19 := rfl
theorem cd_6_20 : mm_Cd 6 20 = kb_6_20 := rfl
theorem cd_6_21 : mm_Cd 6 21 = kb_6_21 := rfl
theorem ml_6 : mm_Ml 6 = 3 := rfl
theorem nf_6 : mm_nf 6 = (3, 1, 11) := rfl
theorem cd_7_0 : mm_Cd 7 0 = kb_7_0 := rfl
theorem cd_7_1 : mm_Cd 7 1 = kb_7_1 := rfl
theorem cd_7_2 : mm_Cd 7 2 = kb_7_2 := rfl
theorem cd_7_3 : mm_Cd 7 3 = kb_7_3 := rfl
theorem cd_7_4 : mm_Cd 7 4 = kb_7_4 := rfl
theorem cd_7_5 : mm_Cd 7 5 = kb_7_5 := rfl
theorem cd_7_6 : mm_Cd 7 6 = kb_7_6 := rfl
theorem cd_7_7 : mm_Cd 7 7 = kb_7_7 := rfl
theorem cd_7_8 : mm_Cd 7 8 = kb_7_8 := rfl
theorem cd_7_9 : mm_Cd 7 9 = kb_7_9 := rfl
theorem cd_7_10 : mm_Cd 7 10 = kb_7_10 := rfl
theorem cd_7_11 : mm_Cd 7 11 = kb_7_11 := rfl
theorem cd_7_12 : mm_Cd 7 12 = kb_7_12 := rfl
theorem cd_7_13 : mm_Cd 7 13 = kb_7_13 := rfl
theorem cd_7_14 : mm_Cd 7 14 = kb_7_14 := rfl
theorem cd_7_15 : mm_Cd 7 15 = kb_7_15 := rfl
theorem cd_7_16 : mm_Cd 7 16 = kb_7_16 := rfl
theorem cd_7_17 : mm_Cd 7 17 = kb_7_17 := rfl
theorem cd_7_18 : mm_Cd 7 18 = kb_7_18 := rfl
theorem cd_7_19 : mm_Cd 7 19 = kb_7_19 := rfl
theorem cd_7_20 : mm_Cd 7 20 = kb_7_20 := rfl
theorem cd_7_21 : mm_Cd 7 21 = kb_7_21 := rfl
theorem cd_7_22 : mm_Cd 7 22 = kb_7_22 := rfl
theorem cd_7_23 : mm_Cd 7 23 = kb_7_23 := rfl
theorem cd_7_24 : mm_Cd 7 24 = kb_7_24 := rfl
theorem cd_7_25 : mm_Cd 7 25 = kb_7_25 := rfl
theorem cd_7_26 : mm_Cd 7 26 = kb_7_26 := rfl
theorem cd_7_27 : mm_Cd 7 27 = kb_7_27 := rfl
theorem cd_7_28 : mm_Cd 7 28 = kb_7_28 := rfl
theorem cd_7_29 : mm_Cd 7 29 = kb_7_29 := rfl
theorem cd_7_30 : mm_Cd 7 30 = kb_7_30 := rfl
theorem cd_7_31 : mm_Cd 7 31 = kb_7_31 := rfl
theorem cd_7_32 : mm_Cd 7 32 = kb_7_32 := rfl
theorem cd_7_33 : mm_Cd 7 33 = kb_7_33 := rfl
theorem cd_7_34 : mm_Cd 7 34 = kb_7_34 := rfl
theorem cd_7_35 : mm_Cd 7 35 = kb_7_35 := rfl
theorem cd_7_36 : mm_Cd 7 36 = kb_7_36 := rfl
theorem cd_7_37 : mm_Cd 7 37 = kb_7_37 := rfl
theorem cd_7_38 : mm_Cd 7 38 = kb_7_38 := rfl
theorem ml_7 : mm_Ml 7 = 2 := rfl
theorem nf_7 : mm_nf 7 = (2, 1, 11) := rfl
theorem cd_8_0 : mm_Cd 8 0 = kb_8_0 := rfl
theorem cd_8_1 : mm_Cd 8 1 = kb_8_1 := rfl
theorem cd_8_2 : mm_Cd 8 2 = kb_8_2 := rfl
theorem cd_8_3 : mm_Cd 8 3 = kb_8_3 := rfl
theorem cd_8_4 : mm_Cd 8 4 = kb_8_4 := rfl
theorem cd_8_5 : mm_Cd 8 5 = kb_8_5 := rfl
theorem cd_8_6 : mm_Cd 8 6 = kb_8_6 := rfl
theorem ml_8 : mm_Ml 8 = 3 := rfl
theorem nf_8 : mm_nf 8 = (1, 1, 11) := rfl
theorem cd_9_0 : mm_Cd 9 0 = kb_9_0 := rfl
theorem cd_9_1 : mm_Cd 9 1 = kb_9_1 := rfl
theorem cd_9_2 : mm_Cd 9 2 = kb_9_2 := rfl
theorem cd_9_3 : mm_Cd 9 3 = kb_9_3 := rfl
theorem cd_9_4 : mm_Cd 9 4 = kb_9_4 := rfl
theorem cd_9_5 : mm_Cd 9 5 = kb_9_5 := rfl
theorem ml_9 : mm_Ml 9 = 3 := rfl
theorem nf_9 : mm_nf 9 = (1, 1, 11) := rfl
theorem cd_10_0 : mm_Cd 10 0 = kb_10_0 := rfl
theorem cd_10_1 : mm_Cd 10 1 = kb_10_1 := rfl
theorem cd_10_2 : mm_Cd 10 2 = kb_10_2 := rfl
theorem cd_10_3 : mm_Cd 10 3 = kb_10_3 := rfl
theorem cd_10_4 : mm_Cd 10 4 = kb_10_4 := rfl
theorem cd_10_5 : mm_Cd 10 5 = kb_10_5 := rfl
theorem ml_10 : mm_Ml 10 = 3 := rfl
theorem nf_10 : mm_nf 10 = (1, 1, 11) := rfl
theorem cd_11_0 : mm_Cd 11 0 = kb_11_0 := rfl
theorem cd_11_1 : mm_Cd 11 1 = kb_11_1 := rfl
theorem cd_11_2 : mm_Cd 11 2 = kb_11_2 := rfl
theorem cd_11_3 : mm_Cd 11 3 = kb_11_3 := rfl
theorem ml_11 : mm_Ml 11 = 3 := rfl
theorem nf_11 : mm_nf 11 = (1, 1, 11) := rfl
theorem cd_12_0 : mm_Cd 12 0 = kb_12_0 := rfl
theorem cd_12_1 : mm_Cd 12 1 = kb_12_1 := rfl
theorem cd_12_2 : mm_Cd 12 2 = kb_12_2 := rfl
theorem cd_12_3 : mm_Cd 12 3 = kb_12_3 := rfl
theorem cd_12_4 : mm_Cd 12 4 = kb_12_4 := rfl
theorem cd_12_5 : mm_Cd 12 5 = kb_12_5 := rfl
theorem ml_12 : mm_Ml 12 = 3 := rfl
theorem nf_12 : mm_nf 12 = (1, 1, 11) := rfl
theorem cd_13_0 : mm_Cd 13 0 = kb_13_0 := rfl
theorem cd_13_1 : mm_Cd 13 1 = kb_13_1 := rfl
theorem cd_13_2 : mm_Cd 13 2 = kb_13_2 := rfl
theorem ml_13 : mm_Ml 13 = 3 := rfl
theorem nf_13 : mm_nf 13 = (3, 1, 11) := rfl
theorem cd_14_0 : mm_Cd 14 0 = kb_14_0 := rfl
theorem cd_14_1 : mm_Cd 14 1 = kb_14_1 := rfl
theorem cd_14_2 : mm_Cd 14 2 = kb_14_2 := rfl
theorem cd_14_3 : mm_Cd 14 3 = kb_14_3 := rfl
theorem cd_14_4 : mm_Cd 14 4 = kb_14_4 := rfl
theorem ml_14 : mm_Ml 14 = 4 := rfl
theorem nf_14 : mm_nf 14 = (4, 1, 11) := rfl
theorem cd_15_0 : mm_Cd 15 0 = kb_15_0 := rfl
theorem cd_15_1 : mm_Cd 15 1 = kb_15_1 := rfl
theorem cd_15_2 : mm_Cd 15 2 = kb_15_2 := rfl
theorem cd_15_3 : mm_Cd 15 3 = kb_15_3 := rfl
theorem ml_15 : mm_Ml 15 = 3 := rfl
theorem nf_15 : mm_nf 15 = (3, 1, 11) := rfl
theorem cd_16_0 : mm_Cd 16 0 = kb_16_0 := rfl
theorem cd_16_1 : mm_Cd 16 1 = kb_16_1 := rfl
theorem cd_16_2 : mm_Cd 16 2 = kb_16_2 := rfl
theorem cd_16_3 : mm_Cd 16 3 = kb_16_3 := rfl
theorem cd_16_4 : mm_Cd 16 4 = kb_16_4 := rfl
theorem cd_16_5 : mm_Cd 16 5 = kb_16_5 := rfl
theorem cd_16_6 : mm_Cd 16 6 = kb_16_6 := rfl
theorem cd_16_7 : mm_Cd 16 7 = kb_16_7 := rfl
theorem ml_16 : mm_Ml 16 = 3 := rfl
theorem nf_16 : mm_nf 16 = (3, 1, 11) := rfl
theorem cd_17_0 : mm_Cd 17 0 = kb_17_0 := rfl
theorem cd_17_1 : mm_Cd 17 1 = kb_17_1 := rfl
theorem cd_17_2 : mm_Cd 17 2 = kb_17_2 := rfl
theorem cd_17_3 : mm_Cd 17 3 = kb_17_3 := rfl
theorem cd_17_4 : mm_Cd 17 4 = kb_17_4 := rfl
theorem ml_17 : mm_Ml 17 = 2 := rfl
theorem nf_17 : mm_nf 17 = (2, 1, 11) := rfl
theorem cd_18_0 : mm_Cd 18 0 = kb_18_0 := rfl
theorem ml_18 : mm_Ml 18 = 1 := rfl
theorem nf_18 : mm_nf 18 = (1, 1, 11) := rfl
theorem cd_19_0 : mm_Cd 19 0 = kb_19_0 := rfl
theorem cd_19_1 : mm_Cd 19 1 = kb_19_1 := rfl
theorem cd_19_2 : mm_Cd 19 2 = kb_19_2 := rfl
theorem cd_19_3 : mm_Cd 19 3 = kb_19_3 := rfl
theorem cd_19_4 : mm_Cd 19 4 = kb_19_4 := rfl
theorem cd_19_5 : mm_Cd 19 5 = kb_19_5 := rfl
theorem cd_19_6 : mm_Cd 19 6 = kb_19_6 := rfl
theorem ml_19 : mm_Ml 19 = 3 := rfl
theorem nf_19 : mm_nf 19 = (3, 1, 11) := rfl
theorem cd_20_0 : mm_Cd 20 0 = kb_20_0 := rfl
theorem cd_20_1 : mm_Cd 20 1 = kb_20_1 := rfl
theorem cd_20_2 : mm_Cd 20 2 = kb_20_2 := rfl
theorem cd_20_3 : mm_Cd 20 3 = kb_20_3 := rfl
theorem cd_20_4 : mm_Cd 20 4 = kb_20_4 := rfl
theorem cd_20_5 : mm_Cd 20 5 = kb_20_5 := rfl
theorem cd_20_6 : mm_Cd 20 6 = kb_20_6 := rfl
theorem cd_20_7 : mm_Cd 20 7 = kb_20_7 := rfl
theorem cd_20_8 : mm_Cd 20 8 = kb_20_8 := rfl
theorem cd_20_9 : mm_Cd 20 9 = kb_20_9 := rfl
theorem ml_20 : mm_Ml 20 = 6 := rfl
theorem nf_20 : mm_nf 20 = (5, 1, 11) := rfl
theorem cd_21_0 : mm_Cd 21 0 = kb_21_0 := rfl
theorem cd_21_1 : mm_Cd 21 1 = kb_21_1 := rfl
theorem cd_21_2 : mm_Cd 21 2 = kb_21_2 := rfl
theorem cd_21_3 : mm_Cd 21 3 = kb_21_3 := rfl
theorem ml_21 : mm_Ml 21 = 3 := rfl
theorem nf_21 : mm_nf 21 = (3, 1, 11) := rfl
theorem cd_22_0 : mm_Cd 22 0 = kb_22_0 := rfl
theorem cd_22_1 : mm_Cd 22 1 = kb_22_1 := rfl
theorem cd_22_2 : mm_Cd 22 2 = kb_22_2 := rfl
theorem cd_22_3 : mm_Cd 22 3 = kb_22_3 := rfl
theorem cd_22_4 : mm_Cd 22 4 = kb_22_4 := rfl
theorem cd_22_5 : mm_Cd 22 5 = kb_22_5 := rfl
theorem cd_22_6 : mm_Cd 22 6 = kb_22_6 := rfl
theorem cd_22_7 : mm_Cd 22 7 = kb_22_7 := rfl
theorem ml_22 : mm_Ml 22 = 4 := rfl
theorem nf_22 : mm_nf 22 = (2, 1, 11) := rfl
theorem cd_23_0 : mm_Cd 23 0 = kb_23_0 := rfl
theorem cd_23_1 : mm_Cd 23 1 = kb_23_1 := rfl
theorem cd_23_2 : mm_Cd 23 2 = kb_23_2 := rfl
theorem cd_23_3 : mm_Cd 23 3 = kb_23_3 := rfl
theorem cd_23_4 : mm_Cd 23 4 = kb_23_4 := rfl
theorem cd_23_5 : mm_Cd 23 5 = kb_23_5 := rfl
theorem cd_23_6 : mm_Cd 23 6 = kb_23_6 := rfl
theorem ml_23 : mm_Ml 23 = 2 := rfl
theorem nf_23 : mm_nf 23 = (2, 1, 11) := rfl
theorem cd_24_0 : mm_Cd 24 0 = kb_24_0 := rfl
theorem cd_24_1 : mm_Cd 24 1 = kb_24_1 := rfl
theorem cd_24_2 : mm_Cd 24 2 = kb_24_2 := rfl
theorem cd_24_3 : mm_Cd 24 3 = kb_24_3 := rfl
theorem cd_24_4 : mm_Cd 24 4 = kb_24_4 := rfl
theorem cd_24_5 : mm_Cd 24 5 = kb_24_5 := rfl
theorem cd_24_6 : mm_Cd 24 6 = kb_24_6 := rfl
theorem cd_24_7 : mm_Cd 24 7 = kb_24_7 := rfl
theorem cd_24_8 : mm_Cd 24 8 = kb_24_8 := rfl
theorem cd_24_9 : mm_Cd 24 9 = kb_24_9 := rfl
theorem cd_24_10 : mm_Cd 24 10 = kb_24_10 := rfl
theorem ml_24 : mm_Ml 24 = 6 := rfl
theorem nf_24 : mm_nf 24 = (3, 1, 11) := rfl
theorem cd_25_0 : mm_Cd 25 0 = kb_25_0 := rfl
theorem cd_25_1 : mm_Cd 25 1 = kb_25_1 := rfl
theorem cd_25_2 : mm_Cd 25 2 = kb_25_2 := rfl
theorem cd_25_3 : mm_Cd 25 3 = kb_25_3 := rfl
theorem cd_25_4 : mm_Cd 25 4 = kb_25_4 := rfl
theorem cd_25_5 : mm_Cd 25 5 = kb_25_5 := rfl
theorem cd_25_6 : mm_Cd 25 6 = kb_25_6 := rfl
theorem cd_25_7 : mm_Cd 25 7 = kb_25_7 := rfl
theorem cd_25_8 : mm_Cd 25 8 = kb_25_8 := rfl
theorem cd_25_9 : mm_Cd 25 9 = kb_25_9 := rfl
theorem cd_25_10 : mm_Cd 25 10 = kb_25_10 := rfl
theorem cd_25_11 : mm_Cd 25 11 = kb_25_11 := rfl
theorem cd_25_12 : mm_Cd 25 12 = kb_25_12 := rfl
theorem cd_25_13 : mm_Cd 25 13 = kb_25_13 := rfl
theorem cd_25_14 : mm_Cd 25 14 = kb_25_14 := rfl
theorem ml_25 : mm_Ml 25 = 5 := rfl
theorem nf_25 : mm_nf 25 = (3, 1, 11) := rfl
theorem cd_26_0 : mm_Cd 26 0 = kb_26_0 := rfl
theorem cd_26_1 : mm_Cd 26 1 = kb_26_1 := rfl
theorem cd_26_2 : mm_Cd 26 2 = kb_26_2 := rfl
theorem cd_26_3 : mm_Cd 26 3 = kb_26_3 := rfl
theorem ml_26 : mm_Ml 26 = 2 := rfl
theorem nf_26 : mm_nf 26 = (2, 1, 11) := rfl
theorem cd_27_0 : mm_Cd 27 0 = kb_27_0 := rfl
theorem cd_27_1 : mm_Cd 27 1 = kb_27_1 := rfl
theorem cd_27_2 : mm_Cd 27 2 = kb_27_2 := rfl
theorem cd_27_3 : mm_Cd 27 3 = kb_27_3 := rfl
theorem cd_27_4 : mm_Cd 27 4 = kb_27_4 := rfl
theorem cd_27_5 : mm_Cd 27 5 = kb_27_5 := rfl
theorem cd_27_6 : mm_Cd 27 6 = kb_27_6 := rfl
theorem cd_27_7 : mm_Cd 27 7 = kb_27_7 := rfl
theorem cd_27_8 : mm_Cd 27 8 = kb_27_8 := rfl
theorem cd_27_9 : mm_Cd 27 9 = kb_27_9 := rfl
theorem cd_27_10 : mm_Cd 27 10 = kb_27_10 := rfl
theorem ml_27 : mm_Ml 27 = 7 := rfl
theorem nf_27 : mm_nf 27 = (4, 1, 11) := rfl
theorem cd_28_0 : mm_Cd 28 0 = kb_28_0 := rfl
theorem cd_28_1 : mm_Cd 28 1 = kb_28_1 := rfl
theorem cd_28_2 : mm_Cd 28 2 = kb_28_2 := rfl
theorem cd_28_3 : mm_Cd 28 3 = kb_28_3 := rfl
theorem cd_28_4 : mm_Cd 28 4 = kb_28_4 := rfl
theorem cd_28_5 : mm_Cd 28 5 = kb_28_5 := rfl
theorem cd_28_6 : mm_Cd 28 6 = kb_28_6 := rfl
theorem cd_28_7 : mm_Cd 28 7 = kb_28_7 := rfl
theorem cd_28_8 : mm_Cd 28 8 = kb_28_8 := rfl
theorem cd_28_9 : mm_Cd 28 9 = kb_28_9 := rfl
theorem cd_28_10 : mm_Cd 28 10 = kb_28_10 := rfl
theorem ml_28 : mm_Ml 28 = 8 := rfl
theorem nf_28 : mm_nf 28 = (4, 1, 11) := rfl
theorem cd_29_0 : mm_Cd 29 0 = kb_29_0 := rfl
theorem cd_29_1 : mm_Cd 29 1 = kb_29_1 := rfl
theorem cd_29_2 : mm_Cd 29 2 = kb_29_2 := rfl
theorem cd_29_3 : mm_Cd 29 3 = kb_29_3 := rfl
theorem cd_29_4 : mm_Cd 29 4 = kb_29_4 := rfl
theorem cd_29_5 : mm_Cd 29 5 = kb_29_5 := rfl
theorem cd_29_6 : mm_Cd 29 6 = kb_29_6 := rfl
theorem cd_29_7 : mm_Cd 29 7 = kb_29_7 := rfl
theorem cd_29_8 : mm_Cd 29 8 = kb_29_8 := rfl
theorem ml_29 : mm_Ml 29 = 7 := rfl
theorem nf_29 : mm_nf 29 = (4, 1, 11) := rfl
theorem cd_30_0 : mm_Cd 30 0 = kb_30_0 := rfl
theorem cd_30_1 : mm_Cd 30 1 = kb_30_1 := rfl
theorem cd_30_2 : mm_Cd 30 2 = kb_30_2 := rfl
theorem cd_30_3 : mm_Cd 30 3 = kb_30_3 := rfl
theorem cd_30_4 : mm_Cd 30 4 = kb_30_4 := rfl
theorem cd_30_5 : mm_Cd 30 5 = kb_30_5 := rfl
theorem cd_30_6 : mm_Cd 30 6 = kb_30_6 := rfl
theorem cd_30_7 : mm_Cd 30 7 = kb_30_7 := rfl
theorem cd_30_8 : mm_Cd 30 8 = kb_30_8 := rfl
theorem cd_30_9 : mm_Cd 30 9 = kb_30_9 := rfl
theorem cd_30_10 : mm_Cd 30 10 = kb_30_10 := rfl
theorem cd_30_11 : mm_Cd 30 11 = kb_30_11 := rfl
theorem cd_30_12 : mm_Cd 30 12 = kb_30_12 := rfl
theorem cd_30_13 : mm_Cd 30 13 = kb_30_13 := rfl
theorem cd_30_14 : mm_Cd 30 14 = kb_30_14 := rfl
theorem ml_30 : mm_Ml 30 = 4 := rfl
theorem nf_30 : mm_nf 30 = (2, 1, 11) := rfl
theorem cd_31_0 : mm_Cd 31 0 = kb_31_0 := rfl
theorem cd_31_1 : mm_Cd 31 1 = kb_31_1 := rfl
theorem cd_31_2 : mm_Cd 31 2 = kb_31_2 := rfl
theorem cd_31_3 : mm_Cd 31 3 = kb_31_3 := rfl
theorem cd_31_4 : mm_Cd 31 4 = kb_31_4 := rfl
theorem cd_31_5 : mm_Cd 31 5 = kb_31_5 := rfl
theorem cd_31_6 : mm_Cd 31 6 = kb_31_6 := rfl
theorem ml_31 : mm_Ml 31 = 3 := rfl
theorem nf_31 : mm_nf 31 = (1, 1, 11) := rfl
theorem cd_32_0 : mm_Cd 32 0 = kb_32_0 := rfl
theorem cd_32_1 : mm_Cd 32 1 = kb_32_1 := rfl
theorem cd_32_2 : mm_Cd 32 2 = kb_32_2 := rfl
theorem cd_32_3 : mm_Cd 32 3 = kb_32_3 := rfl
theorem cd_32_4 : mm_Cd 32 4 = kb_32_4 := rfl
theorem cd_32_5 : mm_Cd 32 5 = kb_32_5 := rfl
theorem cd_32_6 : mm_Cd 32 6 = kb_32_6 := rfl
theorem cd_32_7 : mm_Cd 32 7 = kb_32_7 := rfl
theorem cd_32_8 : mm_Cd 32 8 = kb_32_8 := rfl
theorem cd_32_9 : mm_Cd 32 9 = kb_32_9 := rfl
theorem cd_32_10 : mm_Cd 32 10 = kb_32_10 := rfl
theorem ml_32 : mm_Ml 32 = 5 := rfl
theorem nf_32 : mm_nf 32 = (2, 1, 11) := rfl
theorem cd_33_0 : mm_Cd 33 0 = kb_33_0 := rfl
theorem cd_33_1 : mm_Cd 33 1 = kb_33_1 := rfl
theorem cd_33_2 : mm_Cd 33 2 = kb_33_2 := rfl
theorem cd_33_3 : mm_Cd 33 3 = kb_33_3 := rfl
theorem cd_33_4 : mm_Cd 33 4 = kb_33_4 := rfl
theorem cd_33_5 : mm_Cd 33 5 = kb_33_5 := rfl
theorem cd_33_6 : mm_Cd 33 6 = kb_33_6 := rfl
theorem cd_33_7 : mm_Cd 33 7 = kb_33_7 := rfl
theorem cd_33_8 : mm_Cd 33 8 = kb_33_8 := rfl
theorem cd_33_9 : mm_Cd 33 9 = kb_33_9 := rfl
theorem ml_33 : mm_Ml 33 = 5 := rfl
theorem nf_33 : mm_nf 33 = (3, 1, 11) := rfl
theorem cd_34_0 : mm_Cd 34 0 = kb_34_0 := rfl
theorem cd_34_1 : mm_Cd 34 1 = kb_34_1 := rfl
theorem cd_34_2 : mm_Cd 34 2 = kb_34_2 := rfl
theorem ml_34 : mm_Ml 34 = 2 := rfl
theorem nf_34 : mm_nf 34 = (2, 1, 11) := rfl
theorem cd_35_0 : mm_Cd 35 0 = kb_35_0 := rfl
theorem cd_35_1 : mm_Cd 35 1 = kb_35_1 := rfl
theorem cd_35_2 : mm_Cd 35 2 = kb_35_2 := rfl
theorem cd_35_3 : mm_Cd 35 3 = kb_35_3 := rfl
theorem cd_35_4 : mm_Cd 35 4 = kb_35_4 := rfl
theorem cd_35_5 : mm_Cd 35 5 = kb_35_5 := rfl
theorem cd_35_6 : mm_Cd 35 6 = kb_35_6 := rfl
theorem cd_35_7 : mm_Cd 35 7 = kb_35_7 := rfl
theorem cd_35_8 : mm_Cd 35 8 = kb_35_8 := rfl
theorem cd_35_9 : mm_Cd 35 9 = kb_35_9 := rfl
theorem cd_35_10 : mm_Cd 35 10 = kb_35_10 := rfl
theorem cd_35_11 : mm_Cd 35 11 = kb_35_11 := rfl
theorem cd_35_12 : mm_Cd 35 12 = kb_35_12 := rfl
theorem cd_35_13 : mm_Cd 35 13 = kb_35_13 := rfl
theorem cd_35_14 : mm_Cd 35 14 = kb_35_14 := rfl
theorem ml_35 : mm_Ml 35 = 4 := rfl
theorem nf_35 : mm_nf 35 = (2, 1, 11) := rfl
theorem cd_36_0 : mm_Cd 36 0 = kb_36_0 := rfl
theorem cd_36_1 : mm_Cd 36 1 = kb_36_1 := rfl
theorem cd_36_2 : mm_Cd 36 2 = kb_36_2 := rfl
theorem cd_36_3 : mm_Cd 36 3 = kb_36_3 := rfl
theorem ml_36 : mm_Ml 36 = 4 := rfl
theorem nf_36 : mm_nf 36 = (4, 1, 11) := rfl
theorem cd_37_0 : mm_Cd 37 0 = kb_37_0 := rfl
theorem cd_37_1 : mm_Cd 37 1 = kb_37_1 := rfl
theorem cd_37_2 : mm_Cd 37 2 = kb_37_2 := rfl
theorem cd_37_3 : mm_Cd 37 3 = kb_37_3 := rfl
theorem cd_37_4 : mm_Cd 37 4 = kb_37_4 := rfl
theorem cd_37_5 : mm_Cd 37 5 = kb_37_5 := rfl
theorem cd_37_6 : mm_Cd 37 6 = kb_37_6 := rfl
theorem cd_37_7 : mm_Cd 37 7 = kb_37_7 := rfl
theorem cd_37_8 : mm_Cd 37 8 = kb_37_8 := rfl
theorem cd_37_9 : mm_Cd 37 9 = kb_37_9 := rfl
theorem cd_37_10 : mm_Cd 37 10 = kb_37_10 := rfl
theorem ml_37 : mm_Ml 37 = 4 := rfl
theorem nf_37 : mm_nf 37 = (4, 1, 11) := rfl
theorem cd_38_0 : mm_Cd 38 0 = kb_38_0 := rfl
theorem cd_38_1 : mm_Cd 38 1 = kb_38_1 := rfl
theorem cd_38_2 : mm_Cd 38 2 = kb_38_2 := rfl
theorem ml_38 : mm_Ml 38 = 2 := rfl
theorem nf_38 : mm_nf 38 = (2, 1, 11) := rfl
theorem cd_39_0 : mm_Cd 39 0 = kb_39_0 := rfl
theorem cd_39_1 : mm_Cd 39 1 = kb_39_1 := rfl
theorem cd_39_2 : mm_Cd 39 2 = kb_39_2 := rfl
theorem cd_39_3 : mm_Cd 39 3 = kb_39_3 := rfl
theorem cd_39_4 : mm_Cd 39 4 = kb_39_4 := rfl
theorem cd_39_5 : mm_Cd 39 5 = kb_39_5 := rfl
theorem cd_39_6 : mm_Cd 39 6 = kb_39_6 := rfl
theorem cd_39_7 : mm_Cd 39 7 = kb_39_7 := rfl
theorem cd_39_8 : mm_Cd 39 8 = kb_39_8 := rfl
theorem cd_39_9 : mm_Cd 39 9 = kb_39_9 := rfl
theorem cd_39_10 : mm_Cd 39 10 = kb_39_10 := rfl
theorem ml_39 : mm_Ml 39 = 6 := rfl
theorem nf_39 : mm_nf 39 = (4, 1, 11) := rfl
theorem cd_40_0 : mm_Cd 40 0 = kb_40_0 := rfl
theorem cd_40_1 : mm_Cd 40 1 = kb_40_1 := rfl
theorem cd_40_2 : mm_Cd 40 2 = kb_40_2 := rfl
theorem cd_40_3 : mm_Cd 40 3 = kb_40_3 := rfl
theorem cd_40_4 : mm_Cd 40 4 = kb_40_4 := rfl
theorem ml_40 : mm_Ml 40 = 5 := rfl
theorem nf_40 : mm_nf 40 = (5, 1, 11) := rfl
theorem cd_41_0 : mm_Cd 41 0 = kb_41_0 := rfl
theorem ml_41 : mm_Ml 41 = 2 := rfl
theorem nf_41 : mm_nf 41 = (1, 1, 11) := rfl
theorem cd_42_0 : mm_Cd 42 0 = kb_42_0 := rfl
theorem cd_42_1 : mm_Cd 42 1 = kb_42_1 := rfl
theorem cd_42_2 : mm_Cd 42 2 = kb_42_2 := rfl
theorem cd_42_3 : mm_Cd 42 3 = kb_42_3 := rfl
theorem cd_42_4 : mm_Cd 42 4 = kb_42_4 := rfl
theorem cd_42_5 : mm_Cd 42 5 = kb_42_5 := rfl
theorem cd_42_6 : mm_Cd 42 6 = kb_42_6 := rfl
theorem cd_42_7 : mm_Cd 42 7 = kb_42_7 := rfl
theorem cd_42_8 : mm_Cd 42 8 = kb_42_8 := rfl
theorem ml_42 : mm_Ml 42 = 4 := rfl
theorem nf_42 : mm_nf 42 = (3, 1, 11) := rfl
theorem cd_43_0 : mm_Cd 43 0 = kb_43_0 := rfl
theorem cd_43_1 : mm_Cd 43 1 = kb_43_1 := rfl
theorem cd_43_2 : mm_Cd 43 2 = kb_43_2 := rfl
theorem cd_43_3 : mm_Cd 43 3 = kb_43_3 := rfl
theorem cd_43_4 : mm_Cd 43 4 = kb_43_4 := rfl
theorem cd_43_5 : mm_Cd 43 5 = kb_43_5 := rfl
theorem cd_43_6 : mm_Cd 43 6 = kb_43_6 := rfl
theorem cd_43_7 : mm_Cd 43 7 = kb_43_7 := rfl
theorem cd_43_8 : mm_Cd 43 8 = kb_43_8 := rfl
theorem cd_43_9 : mm_Cd 43 9 = kb_43_9 := rfl
theorem cd_43_10 : mm_Cd 43 10 = kb_43_10 := rfl
theorem cd_43_11 : mm_Cd 43 11 = kb_43_11 := rfl
theorem ml_43 : mm_Ml 43 = 7 := rfl
theorem nf_43 : mm_nf 43 = (2, 1, 11) := rfl
theorem cd_44_0 : mm_Cd 44 0 = kb_44_0 := rfl
theorem cd_44_1 : mm_Cd 44 1 = kb_44_1 := rfl
theorem cd_44_2 : mm_Cd 44 2 = kb_44_2 := rfl
theorem cd_44_3 : mm_Cd 44 3 = kb_44_3 := rfl
theorem ml_44 : mm_Ml 44 = 2 := rfl
theorem nf_44 : mm_nf 44 = (2, 1, 11) := rfl
theorem cd_45_0 : mm_Cd 45 0 = kb_45_0 := rfl
theorem cd_45_1 : mm_Cd 45 1 = kb_45_1 := rfl
theorem cd_45_2 : mm_Cd 45 2 = kb_45_2 := rfl
theorem cd_45_3 : mm_Cd 45 3 = kb_45_3 := rfl
theorem cd_45_4 : mm_Cd 45 4 = kb_45_4 := rfl
theorem ml_45 : mm_Ml 45 = 2 := rfl
theorem nf_45 : mm_nf 45 = (2, 1, 11) := rfl
theorem cd_46_0 : mm_Cd 46 0 = kb_46_0 := rfl
theorem cd_46_1 : mm_Cd 46 1 = kb_46_1 := rfl
theorem cd_46_2 : mm_Cd 46 2 = kb_46_2 := rfl
theorem cd_46_3 : mm_Cd 46 3 = kb_46_3 := rfl
theorem cd_46_4 : mm_Cd 46 4 = kb_46_4 := rfl
theorem ml_46 : mm_Ml 46 = 2 := rfl
theorem nf_46 : mm_nf 46 = (2, 1, 11) := rfl
theorem cd_47_0 : mm_Cd 47 0 = kb_47_0 := rfl
theorem cd_47_1 : mm_Cd 47 1 = kb_47_1 := rfl
theorem cd_47_2 : mm_Cd 47 2 = kb_47_2 := rfl
theorem cd_47_3 : mm_Cd 47 3 = kb_47_3 := rfl
theorem cd_47_4 : mm_Cd 47 4 = kb_47_4 := rfl
theorem ml_47 : mm_Ml 47 = 2 := rfl
theorem nf_47 : mm_nf 47 = (2, 1, 11) := rfl
theorem cd_48_0 : mm_Cd 48 0 = kb_48_0 := rfl
theorem cd_48_1 : mm_Cd 48 1 = kb_48_1 := rfl
theorem cd_48_2 : mm_Cd 48 2 = kb_48_2 := rfl
theorem cd_48_3 : mm_Cd 48 3 = kb_48_3 := rfl
theorem cd_48_4 : mm_Cd 48 4 = kb_48_4 := rfl
theorem ml_48 : mm_Ml 48 = 2 := rfl
theorem nf_48 : mm_nf 48 = (2, 1, 11) := rfl
theorem cd_49_0 : mm_Cd 49 0 = kb_49_0 := rfl
theorem cd_49_1 : mm_Cd 49 1 = kb_49_1 := rfl
theorem cd_49_2 : mm_Cd 49 2 = kb_49_2 := rfl
theorem cd_49_3 : mm_Cd 49 3 = kb_49_3 := rfl
theorem cd_49_4 : mm_Cd 49 4 = kb_49_4 := rfl
theorem ml_49 : mm_Ml 49 = 2 := rfl
theorem nf_49 : mm_nf 49 = (2, 1, 11) := rfl
theorem cd_50_0 : mm_Cd 50 0 = kb_50_0 := rfl
theorem cd_50_1 : mm_Cd 50 1 = kb_50_1 := rfl
theorem cd_50_2 : mm_Cd 50 2 = kb_50_2 := rfl
theorem cd_50_3 : mm_Cd 50 3 = kb_50_3 := rfl
theorem cd_50_4 : mm_Cd 50 4 = kb_50_4 := rfl
theorem cd_50_5 : mm_Cd 50 5 = kb_50_5 := rfl
theorem ml_50 : mm_Ml 50 = 3 := rfl
theorem nf_50 : mm_nf 50 = (3, 1, 11) := rfl
theorem cd_51_0 : mm_Cd 51 0 = kb_51_0 := rfl
theorem cd_51_1 : mm_Cd 51 1 = kb_51_1 := rfl
theorem cd_51_2 : mm_Cd 51 2 = kb_51_2 := rfl
theorem cd_51_3 : mm_Cd 51 3 = kb_51_3 := rfl
theorem cd_51_4 : mm_Cd 51 4 = kb_51_4 := rfl
theorem ml_51 : mm_Ml 51 = 2 := rfl
theorem nf_51 : mm_nf 51 = (2, 1, 11) := rfl
theorem cd_52_0 : mm_Cd 52 0 = kb_52_0 := rfl
theorem cd_52_1 : mm_Cd 52 1 = kb_52_1 := rfl
theorem cd_52_2 : mm_Cd 52 2 = kb_52_2 := rfl
theorem cd_52_3 : mm_Cd 52 3 = kb_52_3 := rfl
theorem cd_52_4 : mm_Cd 52 4 = kb_52_4 := rfl
theorem cd_52_5 : mm_Cd 52 5 = kb_52_5 := rfl
theorem ml_52 : mm_Ml 52 = 4 := rfl
theorem nf_52 : mm_nf 52 = (4, 1, 11) := rfl
theorem cd_53_0 : mm_Cd 53 0 = kb_53_0 := rfl
theorem cd_53_1 : mm_Cd 53 1 = kb_53_1 := rfl
theorem cd_53_2 : mm_Cd 53 2 = kb_53_2 := rfl
theorem cd_53_3 : mm_Cd 53 3 = kb_53_3 := rfl
theorem cd_53_4 : mm_Cd 53 4 = kb_53_4 := rfl
theorem cd_53_5 : mm_Cd 53 5 = kb_53_5 := rfl
theorem cd_53_6 : mm_Cd 53 6 = kb_53_6 := rfl
theorem ml_53 : mm_Ml 53 = 3 := rfl
theorem nf_53 : mm_nf 53 = (3, 1, 11) := rfl
theorem cd_54_0 : mm_Cd 54 0 = kb_54_0 := rfl
theorem ml_54 : mm_Ml 54 = 3 := rfl
theorem nf_54 : mm_nf 54 = (3, 1, 11) := rfl
theorem cd_55_0 : mm_Cd 55 0 = kb_55_0 := rfl
theorem ml_55 : mm_Ml 55 = 1 := rfl
theorem nf_55 : mm_nf 55 = (1, 0, 11) := rfl
theorem cd_56_0 : mm_Cd 56 0 = kb_56_0 := rfl
theorem ml_56 : mm_Ml 56 = 1 := rfl
theorem nf_56 : mm_nf 56 = (1, 2, 12) := rfl
theorem cd_57_0 : mm_Cd 57 0 = kb_57_0 := rfl
theorem cd_57_1 : mm_Cd 57 1 = kb_57_1 := rfl
theorem cd_57_2 : mm_Cd 57 2 = kb_57_2 := rfl
theorem ml_57 : mm_Ml 57 = 6 := rfl
theorem nf_57 : mm_nf 57 = (6, 1, 12) := rfl
theorem cd_58_0 : mm_Cd 58 0 = kb_58_0 := rfl
theorem cd_58_1 : mm_Cd 58 1 = kb_58_1 := rfl
theorem cd_58_2 : mm_Cd 58 2 = kb_58_2 := rfl
theorem cd_58_3 : mm_Cd 58 3 = kb_58_3 := rfl
theorem ml_58 : mm_Ml 58 = 3 := rfl
theorem nf_58 : mm_nf 58 = (2, 1, 12) := rfl
theorem cd_59_0 : mm_Cd 59 0 = kb_59_0 := rfl
theorem cd_59_1 : mm_Cd 59 1 = kb_59_1 := rfl
theorem cd_59_2 : mm_Cd 59 2 = kb_59_2 := rfl
theorem cd_59_3 : mm_Cd 59 3 = kb_59_3 := rfl
theorem ml_59 : mm_Ml 59 = 2 := rfl
theorem nf_59 : mm_nf 59 = (2, 1, 12) := rfl
theorem cd_60_0 : mm_Cd 60 0 = kb_60_0 := rfl
theorem cd_60_1 : mm_Cd 60 1 = kb_60_1 := rfl
theorem cd_60_2 : mm_Cd 60 2 = kb_60_2 := rfl
theorem cd_60_3 : mm_Cd 60 3 = kb_60_3 := rfl
theorem ml_60 : mm_Ml 60 = 2 := rfl
theorem nf_60 : mm_nf 60 = (2, 1, 12) := rfl
theorem cd_61_0 : mm_Cd 61 0 = kb_61_0 := rfl
theorem cd_61_1 : mm_Cd 61 1 = kb_61_1 := rfl
theorem cd_61_2 : mm_Cd 61 2 = kb_61_2 := rfl
theorem cd_61_3 : mm_Cd 61 3 = kb_61_3 := rfl
theorem cd_61_4 : mm_Cd 61 4 = kb_61_4 := rfl
theorem ml_61 : mm_Ml 61 = 1 := rfl
theorem nf_61 : mm_nf 61 = (1, 0, 12) := rfl
theorem cd_62_0 : mm_Cd 62 0 = kb_62_0 := rfl
theorem cd_62_1 : mm_Cd 62 1 = kb_62_1 := rfl
theorem cd_62_2 : mm_Cd 62 2 = kb_62_2 := rfl
theorem cd_62_3 : mm_Cd 62 3 = kb_62_3 := rfl
theorem cd_62_4 : mm_Cd 62 4 = kb_62_4 := rfl
theorem ml_62 : mm_Ml 62 = 1 := rfl
theorem nf_62 : mm_nf 62 = (1, 0, 12) := rfl
theorem cd_63_0 : mm_Cd 63 0 = kb_63_0 := rfl
theorem cd_63_1 : mm_Cd 63 1 = kb_63_1 := rfl
theorem cd_63_2 : mm_Cd 63 2 = kb_63_2 := rfl
theorem cd_63_3 : mm_Cd 63 3 = kb_63_3 := rfl
theorem ml_63 : mm_Ml 63 = 3 := rfl
theorem nf_63 : mm_nf 63 = (2, 0, 12) := rfl
theorem cd_64_0 : mm_Cd 64 0 = kb_64_0 := rfl
theorem ml_64 : mm_Ml 64 = 7 := rfl
theorem nf_64 : mm_nf 64 = (7, 0, 12) := rfl
theorem cd_65_0 : mm_Cd 65 0 = kb_65_0 := rfl
theorem ml_65 : mm_Ml 65 = 6 := rfl
theorem nf_65 : mm_nf 65 = (5, 1, 12) := rfl
theorem cd_66_0 : mm_Cd 66 0 = kb_66_0 := rfl
theorem cd_66_1 : mm_Cd 66 1 = kb_66_1 := rfl
theorem cd_66_2 : mm_Cd 66 2 = kb_66_2 := rfl
theorem cd_66_3 : mm_Cd 66 3 = kb_66_3 := rfl
theorem cd_66_4 : mm_Cd 66 4 = kb_66_4 := rfl
theorem cd_66_5 : mm_Cd 66 5 = kb_66_5 := rfl
theorem cd_66_6 : mm_Cd 66 6 = kb_66_6 := rfl
theorem cd_66_7 : mm_Cd 66 7 = kb_66_7 := rfl
theorem cd_66_8 : mm_Cd 66 8 = kb_66_8 := rfl
theorem cd_66_9 : mm_Cd 66 9 = kb_66_9 := rfl
theorem cd_66_10 : mm_Cd 66 10 = kb_66_10 := rfl
theorem cd_66_11 : mm_Cd 66 11 = kb_66_11 := rfl
theorem cd_66_12 : mm_Cd 66 12 = kb_66_12 := rfl
theorem cd_66_13 : mm_Cd 66 13 = kb_66_13 := rfl
theorem cd_66_14 : mm_Cd 66 14 = kb_66_14 := rfl
theorem cd_66_15 : mm_Cd 66 15 = kb_66_15 := rfl
theorem cd_66_16 : mm_Cd 66 16 = kb_66_16 := rfl
theorem cd_66_17 : mm_Cd 66 17 = kb_66_17 := rfl
theorem cd_66_18 : mm_Cd 66 18 = kb_66_18 := rfl
theorem cd_66_19 : mm_Cd 66 19 = kb_66_19 := rfl
theorem cd_66_20 : mm_Cd 66 20 = kb_66_20 := rfl
theorem cd_66_21 : mm_Cd 66 21 = kb_66_21 := rfl
theorem cd_66_22 : mm_Cd 66 22 = kb_66_22 := rfl
theorem cd_66_23 : mm_Cd 66 23 = kb_66_23 := rfl
theorem cd_66_24 : mm_Cd 66 24 = kb_66_24 := rfl
theorem cd_66_25 : mm_Cd 66 25 = kb_66_25 := rfl
theorem cd_66_26 : mm_Cd 66 26 = kb_66_26 := rfl
theorem cd_66_27 : mm_Cd 66 27 = kb_66_27 := rfl
theorem cd_66_28 : mm_Cd 66 28 = kb_66_28 := rfl
theorem cd_66_29 : mm_Cd 66 29 = kb_66_29 := rfl
theorem cd_66_30 : mm_Cd 66 30 = kb_66_30 := rfl
theorem cd_66_31 : mm_Cd 66 31 = kb_66_31 := rfl
theorem cd_66_32 : mm_Cd 66 32 = kb_66_32 := rfl
theorem cd_66_33 : mm_Cd 66 33 = kb_66_33 := rfl
theorem cd_66_34 : mm_Cd 66 34 = kb_66_34 := rfl
theorem cd_66_35 : mm_Cd 66 35 = kb_66_35 := rfl
theorem cd_66_36 : mm_Cd 66 36 = kb_66_36 := rfl
theorem cd_66_37 : mm_Cd 66 37 = kb_66_37 := rfl
theorem ml_66 : mm_Ml 66 = 8 := rfl
theorem nf_66 : mm_nf 66 = (1, 1, 12) := rfl
theorem cd_67_0 : mm_Cd 67 0 = kb_67_0 := rfl
theorem cd_67_1 : mm_Cd 67 1 = kb_67_1 := rfl
theorem cd_67_2 : mm_Cd 67 2 = kb_67_2 := rfl
theorem cd_67_3 : mm_Cd 67 3 = kb_67_3 := rfl
theorem cd_67_4 : mm_Cd 67 4 = kb_67_4 := rfl
theorem cd_67_5 : mm_Cd 67 5 = kb_67_5 := rfl
theorem cd_67_6 : mm_Cd 67 6 = kb_67_6 := rfl
theorem cd_67_7 : mm_Cd 67 7 = kb_67_7 := rfl
theorem cd_67_8 : mm_Cd 67 8 = kb_67_8 := rfl
theorem cd_67_9 : mm_Cd 67 9 = kb_67_9 := rfl
theorem cd_67_10 : mm_Cd 67 10 = kb_67_10 := rfl
theorem cd_67_11 : mm_Cd 67 11 = kb_67_11 := rfl
theorem cd_67_12 : mm_Cd 67 12 = kb_67_12 := rfl
theorem cd_67_13 : mm_Cd 67 13 = kb_67_13 := rfl
theorem cd_67_14 : mm_Cd 67 14 = kb_67_14 := rfl
theorem cd_67_15 : mm_Cd 67 15 = kb_67_15 := rfl
theorem cd_67_16 : mm_Cd 67 16 = kb_67_16 := rfl
theorem cd_67_17 : mm_Cd 67 17 = kb_67_17 := rfl
theorem cd_67_18 : mm_Cd 67 18 = kb_67_18 := rfl
theorem cd_67_19 : mm_Cd 67 19 = kb_67_19 := rfl
theorem ml_67 : mm_Ml 67 = 5 := rfl
theorem nf_67 : mm_nf 67 = (4, 1, 12) := rfl
theorem cd_68_0 : mm_Cd 68 0 = kb_68_0 := rfl
theorem cd_68_1 : mm_Cd 68 1 = kb_68_1 := rfl
theorem cd_68_2 : mm_Cd 68 2 = kb_68_2 := rfl
theorem cd_68_3 : mm_Cd 68 3 = kb_68_3 := rfl
theorem cd_68_4 : mm_Cd 68 4 = kb_68_4 := rfl
theorem ml_68 : mm_Ml 68 = 2 := rfl
theorem nf_68 : mm_nf 68 = (2, 1, 12) := rfl
theorem cd_69_0 : mm_Cd 69 0 = kb_69_0 := rfl
theorem cd_69_1 : mm_Cd 69 1 = kb_69_1 := rfl
theorem cd_69_2 : mm_Cd 69 2 = kb_69_2 := rfl
theorem ml_69 : mm_Ml 69 = 2 := rfl
theorem nf_69 : mm_nf 69 = (2, 1, 12) := rfl
theorem cd_70_0 : mm_Cd 70 0 = kb_70_0 := rfl
theorem cd_70_1 : mm_Cd 70 1 = kb_70_1 := rfl
theorem cd_70_2 : mm_Cd 70 2 = kb_70_2 := rfl
theorem cd_70_3 : mm_Cd 70 3 = kb_70_3 := rfl
theorem cd_70_4 : mm_Cd 70 4 = kb_70_4 := rfl
theorem cd_70_5 : mm_Cd 70 5 = kb_70_5 := rfl
theorem cd_70_6 : mm_Cd 70 6 = kb_70_6 := rfl
theorem ml_70 : mm_Ml 70 = 4 := rfl
theorem nf_70 : mm_nf 70 = (3, 1, 12) := rfl
theorem cd_71_0 : mm_Cd 71 0 = kb_71_0 := rfl
theorem cd_71_1 : mm_Cd 71 1 = kb_71_1 := rfl
theorem cd_71_2 : mm_Cd 71 2 = kb_71_2 := rfl
theorem cd_71_3 : mm_Cd 71 3 = kb_71_3 := rfl
theorem ml_71 : mm_Ml 71 = 1 := rfl
theorem nf_71 : mm_nf 71 = (1, 1, 12) := rfl
theorem cd_72_0 : mm_Cd 72 0 = kb_72_0 := rfl
theorem cd_72_1 : mm_Cd 72 1 = kb_72_1 := rfl
theorem cd_72_2 : mm_Cd 72 2 = kb_72_2 := rfl
theorem cd_72_3 : mm_Cd 72 3 = kb_72_3 := rfl
theorem ml_72 : mm_Ml 72 = 2 := rfl
theorem nf_72 : mm_nf 72 = (2, 1, 12) := rfl
theorem cd_73_0 : mm_Cd 73 0 = kb_73_0 := rfl
theorem cd_73_1 : mm_Cd 73 1 = kb_73_1 := rfl
theorem cd_73_2 : mm_Cd 73 2 = kb_73_2 := rfl
theorem cd_73_3 : mm_Cd 73 3 = kb_73_3 := rfl
theorem cd_73_4 : mm_Cd 73 4 = kb_73_4 := rfl
theorem cd_73_5 : mm_Cd 73 5 = kb_73_5 := rfl
theorem cd_73_6 : mm_Cd 73 6 = kb_73_6 := rfl
theorem ml_73 : mm_Ml 73 = 3 := rfl
theorem nf_73 : mm_nf 73 = (2, 1, 12) := rfl
theorem cd_74_0 : mm_Cd 74 0 = kb_74_0 := rfl
theorem cd_74_1 : mm_Cd 74 1 = kb_74_1 := rfl
theorem cd_74_2 : mm_Cd 74 2 = kb_74_2 := rfl
theorem cd_74_3 : mm_Cd 74 3 = kb_74_3 := rfl
theorem cd_74_4 : mm_Cd 74 4 = kb_74_4 := rfl
theorem cd_74_5 : mm_Cd 74 5 = kb_74_5 := rfl
theorem cd_74_6 : mm_Cd 74 6 = kb_74_6 := rfl
theorem cd_74_7 : mm_Cd 74 7 = kb_74_7 := rfl
theorem cd_74_8 : mm_Cd 74 8 = kb_74_8 := rfl
theorem cd_74_9 : mm_Cd 74 9 = kb_74_9 := rfl
theorem cd_74_10 : mm_Cd 74 10 = kb_74_10 := rfl
theorem cd_74_11 : mm_Cd 74 11 = kb_74_11 := rfl
theorem cd_74_12 : mm_Cd 74 12 = kb_74_12 := rfl
theorem cd_74_13 : mm_Cd 74 13 = kb_74_13 := rfl
theorem cd_74_14 : mm_Cd 74 14 = kb_74_14 := rfl
theorem cd_74_15 : mm_Cd 74 15 = kb_74_15 := rfl
theorem cd_74_16 : mm_Cd 74 16 = kb_74_16 := rfl
theorem cd_74_17 : mm_Cd 74 17 = kb_74_17 := rfl
theorem cd_74_18 : mm_Cd 74 18 = kb_74_18 := rfl
theorem cd_74_19 : mm_Cd 74 19 = kb_74_19 := rfl
theorem ml_74 : mm_Ml 74 = 2 := rfl
theorem nf_74 : mm_nf 74 = (1, 1, 12) := rfl
theorem cd_75_0 : mm_Cd 75 0 = kb_75_0 := rfl
theorem ml_75 : mm_Ml 75 = 1 := rfl
theorem nf_75 : mm_nf 75 = (1, 1, 12) := rfl
theorem cd_76_0 : mm_Cd 76 0 = kb_76_0 := rfl
theorem cd_76_1 : mm_Cd 76 1 = kb_76_1 := rfl
theorem cd_76_2 : mm_Cd 76 2 = kb_76_2 := rfl
theorem cd_76_3 : mm_Cd 76 3 = kb_76_3 := rfl
theorem cd_76_4 : mm_Cd 76 4 = kb_76_4 := rfl
theorem ml_76 : mm_Ml 76 = 3 := rfl
theorem nf_76 : mm_nf 76 = (3, 1, 12) := rfl
theorem cd_77_0 : mm_Cd 77 0 = kb_77_0 := rfl
theorem cd_77_1 : mm_Cd 77 1 = kb_77_1 := rfl
theorem cd_77_2 : mm_Cd 77 2 = kb_77_2 := rfl
theorem cd_77_3 : mm_Cd 77 3 = kb_77_3 := rfl
theorem cd_77_4 : mm_Cd 77 4 = kb_77_4 := rfl
theorem cd_77_5 : mm_Cd 77 5 = kb_77_5 := rfl
theorem cd_77_6 : mm_Cd 77 6 = kb_77_6 := rfl
theorem cd_77_7 : mm_Cd 77 7 = kb_77_7 := rfl
theorem cd_77_8 : mm_Cd 77 8 = kb_77_8 := rfl
theorem cd_77_9 : mm_Cd 77 9 = kb_77_9 := rfl
theorem cd_77_10 : mm_Cd 77 10 = kb_77_10 := rfl
theorem cd_77_11 : mm_Cd 77 11 = kb_77_11 := rfl
theorem cd_77_12 : mm_Cd 77 12 = kb_77_12 := rfl
theorem cd_77_13 : mm_Cd 77 13 = kb_77_13 := rfl
theorem cd_77_14 : mm_Cd 77 14 = kb_77_14 := rfl
theorem cd_77_15 : mm_Cd 77 15 = kb_77_15 := rfl
theorem cd_77_16 : mm_Cd 77 16 = kb_77_16 := rfl
theorem cd_77_17 : mm_Cd 77 17 = kb_77_17 := rfl
theorem cd_77_18 : mm_Cd 77 18 = kb_77_18 := rfl
theorem cd_77_19 : mm_Cd 77 19 = kb_77_19 := rfl
theorem cd_77_20 : mm_Cd 77 20 = kb_77_20 := rfl
theorem cd_77_21 : mm_Cd 77 21 = kb_77_21 := rfl
theorem cd_77_22 : mm_Cd 77 22 = kb_77_22 := rfl
theorem cd_77_23 : mm_Cd 77 23 = kb_77_23 := rfl
theorem cd_77_24 : mm_Cd 77 24 = kb_77_24 := rfl
theorem cd_77_25 : mm_Cd 77 25 = kb_77_25 := rfl
theorem cd_77_26 : mm_Cd 77 26 = kb_77_26 := rfl
theorem cd_77_27 : mm_Cd 77 27 = kb_77_27 := rfl
theorem cd_77_28 : mm_Cd 77 28 = kb_77_28 := rfl
theorem cd_77_29 : mm_Cd 77 29 = kb_77_29 := rfl
theorem cd_77_30 : mm_Cd 77 30 = kb_77_30 := rfl
theorem ml_77 : mm_Ml 77 = 2 := rfl
theorem nf_77 : mm_nf 77 = (1, 1, 12) := rfl
theorem cd_78_0 : mm_Cd 78 0 = kb_78_0 := rfl
theorem cd_78_1 : mm_Cd 78 1 = kb_78_1 := rfl
theorem cd_78_2 : mm_Cd 78 2 = kb_78_2 := rfl
theorem cd_78_3 : mm_Cd 78 3 = kb_78_3 := rfl
theorem cd_78_4 : mm_Cd 78 4 = kb_78_4 := rfl
theorem cd_78_5 : mm_Cd 78 5 = kb_78_5 := rfl
theorem cd_78_6 : mm_Cd 78 6 = kb_78_6 := rfl
theorem ml_78 : mm_Ml 78 = 3 := rfl
theorem nf_78 : mm_nf 78 = (1, 1, 12) := rfl
theorem cd_79_0 : mm_Cd 79 0 = kb_79_0 := rfl
theorem cd_79_1 : mm_Cd 79 1 = kb_79_1 := rfl
theorem cd_79_2 : mm_Cd 79 2 = kb_79_2 := rfl
theorem ml_79 : mm_Ml 79 = 3 := rfl
theorem nf_79 : mm_nf 79 = (3, 1, 12) := rfl
theorem cd_80_0 : mm_Cd 80 0 = kb_80_0 := rfl
theorem cd_80_1 : mm_Cd 80 1 = kb_80_1 := rfl
theorem cd_80_2 : mm_Cd 80 2 = kb_80_2 := rfl
theorem cd_80_3 : mm_Cd 80 3 = kb_80_3 := rfl
theorem cd_80_4 : mm_Cd 80 4 = kb_80_4 := rfl
theorem cd_80_5 : mm_Cd 80 5 = kb_80_5 := rfl
theorem cd_80_6 : mm_Cd 80 6 = kb_80_6 := rfl
theorem cd_80_7 : mm_Cd 80 7 = kb_80_7 := rfl
theorem cd_80_8 : mm_Cd 80 8 = kb_80_8 := rfl
theorem cd_80_9 : mm_Cd 80 9 = kb_80_9 := rfl
theorem ml_80 : mm_Ml 80 = 4 := rfl
theorem nf_80 : mm_nf 80 = (2, 1, 12) := rfl
theorem cd_81_0 : mm_Cd 81 0 = kb_81_0 := rfl
theorem cd_81_1 : mm_Cd 81 1 = kb_81_1 := rfl
theorem cd_81_2 : mm_Cd 81 2 = kb_81_2 := rfl
theorem cd_81_3 : mm_Cd 81 3 = kb_81_3 := rfl
theorem cd_81_4 : mm_Cd 81 4 = kb_81_4 := rfl
theorem cd_81_5 : mm_Cd 81 5 = kb_81_5 := rfl
theorem cd_81_6 : mm_Cd 81 6 = kb_81_6 := rfl
theorem ml_81 : mm_Ml 81 = 4 := rfl
theorem nf_81 : mm_nf 81 = (3, 1, 12) := rfl
theorem cd_82_0 : mm_Cd 82 0 = kb_82_0 := rfl
theorem cd_82_1 : mm_Cd 82 1 = kb_82_1 := rfl
theorem cd_82_2 : mm_Cd 82 2 = kb_82_2 := rfl
theorem cd_82_3 : mm_Cd 82 3 = kb_82_3 := rfl
theorem cd_82_4 : mm_Cd 82 4 = kb_82_4 := rfl
theorem cd_82_5 : mm_Cd 82 5 = kb_82_5 := rfl
theorem cd_82_6 : mm_Cd 82 6 = kb_82_6 := rfl
theorem ml_82 : mm_Ml 82 = 3 := rfl
theorem nf_82 : mm_nf 82 = (1, 1, 12) := rfl
theorem cd_83_0 : mm_Cd 83 0 = kb_83_0 := rfl
theorem cd_83_1 : mm_Cd 83 1 = kb_83_1 := rfl
theorem cd_83_2 : mm_Cd 83 2 = kb_83_2 := rfl
theorem cd_83_3 : mm_Cd 83 3 = kb_83_3 := rfl
theorem cd_83_4 : mm_Cd 83 4 = kb_83_4 := rfl
theorem ml_83 : mm_Ml 83 = 4 := rfl
theorem nf_83 : mm_nf 83 = (2, 1, 12) := rfl
theorem cd_84_0 : mm_Cd 84 0 = kb_84_0 := rfl
theorem cd_84_1 : mm_Cd 84 1 = kb_84_1 := rfl
theorem cd_84_2 : mm_Cd 84 2 = kb_84_2 := rfl
theorem cd_84_3 : mm_Cd 84 3 = kb_84_3 := rfl
theorem cd_84_4 : mm_Cd 84 4 = kb_84_4 := rfl
theorem ml_84 : mm_Ml 84 = 4 := rfl
theorem nf_84 : mm_nf 84 = (1, 1, 12) := rfl
theorem cd_85_0 : mm_Cd 85 0 = kb_85_0 := rfl
theorem cd_85_1 : mm_Cd 85 1 = kb_85_1 := rfl
theorem cd_85_2 : mm_Cd 85 2 = kb_85_2 := rfl
theorem cd_85_3 : mm_Cd 85 3 = kb_85_3 := rfl
theorem cd_85_4 : mm_Cd 85 4 = kb_85_4 := rfl
theorem cd_85_5 : mm_Cd 85 5 = kb_85_5 := rfl
theorem cd_85_6 : mm_Cd 85 6 = kb_85_6 := rfl
theorem cd_85_7 : mm_Cd 85 7 = kb_85_7 := rfl
theorem cd_85_8 : mm_Cd 85 8 = kb_85_8 := rfl
theorem cd_85_9 : mm_Cd 85 9 = kb_85_9 := rfl
theorem cd_85_10 : mm_Cd 85 10 = kb_85_10 := rfl
theorem cd_85_11 : mm_Cd 85 11 = kb_85_11 := rfl
theorem cd_85_12 : mm_Cd 85 12 = kb_85_12 := rfl
theorem ml_85 : mm_Ml 85 = 4 := rfl
theorem nf_85 : mm_nf 85 = (2, 1, 12) := rfl
theorem cd_86_0 : mm_Cd 86 0 = kb_86_0 := rfl
theorem cd_86_1 : mm_Cd 86 1 = kb_86_1 := rfl
theorem cd_86_2 : mm_Cd 86 2 = kb_86_2 := rfl
theorem ml_86 : mm_Ml 86 = 1 := rfl
theorem nf_86 : mm_nf 86 = (1, 1, 12) := rfl
theorem cd_87_0 : mm_Cd 87 0 = kb_87_0 := rfl
theorem ml_87 : mm_Ml 87 = 3 := rfl
theorem nf_87 : mm_nf 87 = (3, 1, 12) := rfl
theorem cd_88_0 : mm_Cd 88 0 = kb_88_0 := rfl
theorem cd_88_1 : mm_Cd 88 1 = kb_88_1 := rfl
theorem cd_88_2 : mm_Cd 88 2 = kb_88_2 := rfl
theorem cd_88_3 : mm_Cd 88 3 = kb_88_3 := rfl
theorem cd_88_4 : mm_Cd 88 4 = kb_88_4 := rfl
theorem cd_88_5 : mm_Cd 88 5 = kb_88_5 := rfl
theorem cd_88_6 : mm_Cd 88 6 = kb_88_6 := rfl
theorem cd_88_7 : mm_Cd 88 7 = kb_88_7 := rfl
theorem cd_88_8 : mm_Cd 88 8 = kb_88_8 := rfl
theorem cd_88_9 : mm_Cd 88 9 = kb_88_9 := rfl
theorem cd_88_10 : mm_Cd 88 10 = kb_88_10 := rfl
theorem cd_88_11 : mm_Cd 88 11 = kb_88_11 := rfl
theorem cd_88_12 : mm_Cd 88 12 = kb_88_12 := rfl
theorem cd_88_13 : mm_Cd 88 13 = kb_88_13 := rfl
theorem cd_88_14 : mm_Cd 88 14 = kb_88_14 := rfl
theorem ml_88 : mm_Ml 88 = 3 := rfl
theorem nf_88 : mm_nf 88 = (2, 1, 12) := rfl
theorem cd_89_0 : mm_Cd 89 0 = kb_89_0 := rfl
theorem cd_89_1 : mm_Cd 89 1 = kb_89_1 := rfl
theorem cd_89_2 : mm_Cd 89 2 = kb_89_2 := rfl
theorem cd_89_3 : mm_Cd 89 3 = kb_89_3 := rfl
theorem cd_89_4 : mm_Cd 89 4 = kb_89_4 := rfl
theorem cd_89_5 : mm_Cd 89 5 = kb_89_5 := rfl
theorem cd_89_6 : mm_Cd 89 6 = kb_89_6 := rfl
theorem cd_89_7 : mm_Cd 89 7 = kb_89_7 := rfl
theorem cd_89_8 : mm_Cd 89 8 = kb_89_8 := rfl
theorem cd_89_9 : mm_Cd 89 9 = kb_89_9 := rfl
theorem cd_89_10 : mm_Cd 89 10 = kb_89_10 := rfl
theorem cd_89_11 : mm_Cd 89 11 = kb_89_11 := rfl
theorem cd_89_12 : mm_Cd 89 12 = kb_89_12 := rfl
theorem cd_89_13 : mm_Cd 89 13 = kb_89_13 := rfl
theorem cd_89_14 : mm_Cd 89 14 = kb_89_14 := rfl
theorem cd_89_15 : mm_Cd 89 15 = kb_89_15 := rfl
theorem cd_89_16 : mm_Cd 89 16 = kb_89_16 := rfl
theorem cd_89_17 : mm_Cd 89 17 = kb_89_17 := rfl
theorem cd_89_18 : mm_Cd 89 18 = kb_89_18 := rfl
theorem cd_89_19 : mm_Cd 89 19 = kb_89_19 := rfl
theorem cd_89_20 : mm_Cd 89 20 = kb_89_20 := rfl
theorem cd_89_21 : mm_Cd 89 21 = kb_89_21 := rfl
theorem cd_89_22 : mm_Cd 89 22 = kb_89_22 := rfl
theorem cd_89_23 : mm_Cd 89 23 = kb_89_23 := rfl
theorem cd_89_24 : mm_Cd 89 24 = kb_89_24 := rfl
theorem cd_89_25 : mm_Cd 89 25 = kb_89_25 := rfl
theorem cd_89_26 : mm_Cd 89 26 = kb_89_26 := rfl
theorem cd_89_27 : mm_Cd 89 27 = kb_89_27 := rfl
theorem ml_89 : mm_Ml 89 = 3 := rfl
theorem nf_89 : mm_nf 89 = (1, 1, 12) := rfl
theorem cd_90_0 : mm_Cd 90 0 = kb_90_0 := rfl
theorem cd_90_1 : mm_Cd 90 1 = kb_90_1 := rfl
theorem cd_90_2 : mm_Cd 90 2 = kb_90_2 := rfl
theorem cd_90_3 : mm_Cd 90 3 = kb_90_3 := rfl
theorem cd_90_4 : mm_Cd 90 4 = kb_90_4 := rfl
theorem cd_90_5 : mm_Cd 90 5 = kb_90_5 := rfl
theorem cd_90_6 : mm_Cd 90 6 = kb_90_6 := rfl
theorem cd_90_7 : mm_Cd 90 7 = kb_90_7 := rfl
theorem ml_90 : mm_Ml 90 = 1 := rfl
theorem nf_90 : mm_nf 90 = (1, 1, 12) := rfl
theorem cd_91_0 : mm_Cd 91 0 = kb_91_0 := rfl
theorem cd_91_1 : mm_Cd 91 1 = kb_91_1 := rfl
theorem cd_91_2 : mm_Cd 91 2 = kb_91_2 := rfl
theorem cd_91_3 : mm_Cd 91 3 = kb_91_3 := rfl
theorem cd_91_4 : mm_Cd 91 4 = kb_91_4 := rfl
theorem cd_91_5 : mm_Cd 91 5 = kb_91_5 := rfl
theorem cd_91_6 : mm_Cd 91 6 = kb_91_6 := rfl
theorem cd_91_7 : mm_Cd 91 7 = kb_91_7 := rfl
theorem cd_91_8 : mm_Cd 91 8 = kb_91_8 := rfl
theorem cd_91_9 : mm_Cd 91 9 = kb_91_9 := rfl
theorem cd_91_10 : mm_Cd 91 10 = kb_91_10 := rfl
theorem cd_91_11 : mm_Cd 91 11 = kb_91_11 := rfl
theorem cd_91_12 : mm_Cd 91 12 = kb_91_12 := rfl
theorem cd_91_13 : mm_Cd 91 13 = kb_91_13 := rfl
theorem cd_91_14 : mm_Cd 91 14 = kb_91_14 := rfl
theorem cd_91_15 : mm_Cd 91 15 = kb_91_15 := rfl
theorem cd_91_16 : mm_Cd 91 16 = kb_91_16 := rfl
theorem cd_91_17 : mm_Cd 91 17 = kb_91_17 := rfl
theorem cd_91_18 : mm_Cd 91 18 = kb_91_18 := rfl
theorem cd_91_19 : mm_Cd 91 19 = kb_91_19 := rfl
theorem ml_91 : mm_Ml 91 = 8 := rfl
theorem nf_91 : mm_nf 91 = (3, 1, 12) := rfl
theorem cd_92_0 : mm_Cd 92 0 = kb_92_0 := rfl
theorem cd_92_1 : mm_Cd 92 1 = kb_92_1 := rfl
theorem cd_92_2 : mm_Cd 92 2 = kb_92_2 := rfl
theorem cd_92_3 : mm_Cd 92 3 = kb_92_3 := rfl
theorem cd_92_4 : mm_Cd 92 4 = kb_92_4 := rfl
theorem ml_92 : mm_Ml 92 = 3 := rfl
theorem nf_92 : mm_nf 92 = (3, 0, 12) := rfl
theorem cd_93_0 : mm_Cd 93 0 = kb_93_0 := rfl
theorem cd_93_1 : mm_Cd 93 1 = kb_93_1 := rfl
theorem cd_93_2 : mm_Cd 93 2 = kb_93_2 := rfl
theorem cd_93_3 : mm_Cd 93 3 = kb_93_3 := rfl
theorem cd_93_4 : mm_Cd 93 4 = kb_93_4 := rfl
theorem cd_93_5 : mm_Cd 93 5 = kb_93_5 := rfl
theorem ml_93 : mm_Ml 93 = 3 := rfl
theorem nf_93 : mm_nf 93 = (3, 0, 12) := rfl
theorem cd_94_0 : mm_Cd 94 0 = kb_94_0 := rfl
theorem cd_94_1 : mm_Cd 94 1 = kb_94_1 := rfl
theorem cd_94_2 : mm_Cd 94 2 = kb_94_2 := rfl
theorem cd_94_3 : mm_Cd 94 3 = kb_94_3 := rfl
theorem ml_94 : mm_Ml 94 = 3 := rfl
theorem nf_94 : mm_nf 94 = (1, 0, 12) := rfl
theorem cd_95_0 : mm_Cd 95 0 = kb_95_0 := rfl
theorem ml_95 : mm_Ml 95 = 2 := rfl
theorem nf_95 : mm_nf 95 = (2, 1, 12) := rfl
theorem cd_96_0 : mm_Cd 96 0 = kb_96_0 := rfl
theorem ml_96 : mm_Ml 96 = 2 := rfl
theorem nf_96 : mm_nf 96 = (2, 1, 12) := rfl
theorem cd_97_0 : mm_Cd 97 0 = kb_97_0 := rfl
theorem ml_97 : mm_Ml 97 = 2 := rfl
theorem nf_97 : mm_nf 97 = (2, 1, 12) := rfl
theorem cd_98_0 : mm_Cd 98 0 = kb_98_0 := rfl
theorem cd_98_1 : mm_Cd 98 1 = kb_98_1 := rfl
theorem cd_98_2 : mm_Cd 98 2 = kb_98_2 := rfl
theorem cd_98_3 : mm_Cd 98 3 = kb_98_3 := rfl
theorem cd_98_4 : mm_Cd 98 4 = kb_98_4 := rfl
theorem ml_98 : mm_Ml 98 = 2 := rfl
theorem nf_98 : mm_nf 98 = (2, 1, 12) := rfl
theorem cd_99_0 : mm_Cd 99 0 = kb_99_0 := rfl
theorem cd_99_1 : mm_Cd 99 1 = kb_99_1 := rfl
theorem cd_99_2 : mm_Cd 99 2 = kb_99_2 := rfl
theorem cd_99_3 : mm_Cd 99 3 = kb_99_3 := rfl
theorem cd_99_4 : mm_Cd 99 4 = kb_99_4 := rfl
theorem cd_99_5 : mm_Cd 99 5 = kb_99_5 := rfl
theorem cd_99_6 : mm_Cd 99 6 = kb_99_6 := rfl
theorem cd_99_7 : mm_Cd 99 7 = kb_99_7 := rfl
theorem cd_99_8 : mm_Cd 99 8 = kb_99_8 := rfl
theorem cd_99_9 : mm_Cd 99 9 = kb_99_9 := rfl
theorem cd_99_10 : mm_Cd 99 10 = kb_99_10 := rfl
theorem cd_99_11 : mm_Cd 99 11 = kb_99_11 := rfl
theorem cd_99_12 : mm_Cd 99 12 = kb_99_12 := rfl
theorem cd_99_13 : mm_Cd 99 13 = kb_99_13 := rfl
theorem cd_99_14 : mm_Cd 99 14 = kb_99_14 := rfl
theorem cd_99_15 : mm_Cd 99 15 = kb_99_15 := rfl
theorem ml_99 : mm_Ml 99 = 2 := rfl
theorem nf_99 : mm_nf 99 = (1, 1, 12) := rfl
theorem cd_100_0 : mm_Cd 100 0 = kb_100_0 := rfl
theorem cd_100_1 : mm_Cd 100 1 = kb_100_1 := rfl
theorem cd_100_2 : mm_Cd 100 2 = kb_100_2 := rfl
theorem cd_100_3 : mm_Cd 100 3 = kb_100_3 := rfl
theorem ml_100 : mm_Ml 100 = 2 := rfl
theorem nf_100 : mm_nf 100 = (1, 1, 12) := rfl
theorem cd_101_0 : mm_Cd 101 0 = kb_101_0 := rfl
theorem cd_101_1 : mm_Cd 101 1 = kb_101_1 := rfl
theorem cd_101_2 : mm_Cd 101 2 = kb_101_2 := rfl
theorem cd_101_3 : mm_Cd 101 3 = kb_101_3 := rfl
theorem ml_101 : mm_Ml 101 = 2 := rfl
theorem nf_101 : mm_nf 101 = (1, 1, 12) := rfl
theorem cd_102_0 : mm_Cd 102 0 = kb_102_0 := rfl
theorem ml_102 : mm_Ml 102 = 1 := rfl
theorem nf_102 : mm_nf 102 = (1, 1, 12) := rfl
theorem cd_103_0 : mm_Cd 103 0 = kb_103_0 := rfl
theorem ml_103 : mm_Ml 103 = 3 := rfl
theorem nf_103 : mm_nf 103 = (2, 0, 12) := rfl
theorem cd_104_0 : mm_Cd 104 0 = kb_104_0 := rfl
theorem ml_104 : mm_Ml 104 = 2 := rfl
theorem nf_104 : mm_nf 104 = (2, 1, 12) := rfl
theorem cd_105_0 : mm_Cd 105 0 = kb_105_0 := rfl
theorem cd_105_1 : mm_Cd 105 1 = kb_105_1 := rfl
theorem cd_105_2 : mm_Cd 105 2 = kb_105_2 := rfl
theorem cd_105_3 : mm_Cd 105 3 = kb_105_3 := rfl
theorem cd_105_4 : mm_Cd 105 4 = kb_105_4 := rfl
theorem ml_105 : mm_Ml 105 = 2 := rfl
theorem nf_105 : mm_nf 105 = (2, 1, 12) := rfl
theorem cd_106_0 : mm_Cd 106 0 = kb_106_0 := rfl
theorem cd_106_1 : mm_Cd 106 1 = kb_106_1 := rfl
theorem cd_106_2 : mm_Cd 106 2 = kb_106_2 := rfl
theorem cd_106_3 : mm_Cd 106 3 = kb_106_3 := rfl
theorem ml_106 : mm_Ml 106 = 2 := rfl
theorem nf_106 : mm_nf 106 = (2, 1, 12) := rfl
theorem cd_107_0 : mm_Cd 107 0 = kb_107_0 := rfl
theorem cd_107_1 : mm_Cd 107 1 = kb_107_1 := rfl
theorem cd_107_2 : mm_Cd 107 2 = kb_107_2 := rfl
theorem cd_107_3 : mm_Cd 107 3 = kb_107_3 := rfl
theorem cd_107_4 : mm_Cd 107 4 = kb_107_4 := rfl
theorem ml_107 : mm_Ml 107 = 2 := rfl
theorem nf_107 : mm_nf 107 = (2, 1, 12) := rfl
theorem cd_108_0 : mm_Cd 108 0 = kb_108_0 := rfl
theorem cd_108_1 : mm_Cd 108 1 = kb_108_1 := rfl
theorem cd_108_2 : mm_Cd 108 2 = kb_108_2 := rfl
theorem cd_108_3 : mm_Cd 108 3 = kb_108_3 := rfl
theorem cd_108_4 : mm_Cd 108 4 = kb_108_4 := rfl
theorem cd_108_5 : mm_Cd 108 5 = kb_108_5 := rfl
theorem cd_108_6 : mm_Cd 108 6 = kb_108_6 := rfl
theorem cd_108_7 : mm_Cd 108 7 = kb_108_7 := rfl
theorem cd_108_8 : mm_Cd 108 8 = kb_108_8 := rfl
theorem cd_108_9 : mm_Cd 108 9 = kb_108_9 := rfl
theorem ml_108 : mm_Ml 108 = 4 := rfl
theorem nf_108 : mm_nf 108 = (2, 1, 12) := rfl
theorem cd_109_0 : mm_Cd 109 0 = kb_109_0 := rfl
theorem cd_109_1 : mm_Cd 109 1 = kb_109_1 := rfl
theorem cd_109_2 : mm_Cd 109 2 = kb_109_2 := rfl
theorem cd_109_3 : mm_Cd 109 3 = kb_109_3 := rfl
theorem ml_109 : mm_Ml 109 = 3 := rfl
theorem nf_109 : mm_nf 109 = (1, 1, 12) := rfl
theorem cd_110_0 : mm_Cd 110 0 = kb_110_0 := rfl
theorem cd_110_1 : mm_Cd 110 1 = kb_110_1 := rfl
theorem cd_110_2 : mm_Cd 110 2 = kb_110_2 := rfl
theorem cd_110_3 : mm_Cd 110 3 = kb_110_3 := rfl
theorem cd_110_4 : mm_Cd 110 4 = kb_110_4 := rfl
theorem cd_110_5 : mm_Cd 110 5 = kb_110_5 := rfl
theorem cd_110_6 : mm_Cd 110 6 = kb_110_6 := rfl
theorem cd_110_7 : mm_Cd 110 7 = kb_110_7 := rfl
theorem cd_110_8 : mm_Cd 110 8 = kb_110_8 := rfl
theorem cd_110_9 : mm_Cd 110 9 = kb_110_9 := rfl
theorem cd_110_10 : mm_Cd 110 10 = kb_110_10 := rfl
theorem cd_110_11 : mm_Cd 110 11 = kb_110_11 := rfl
theorem cd_110_12 : mm_Cd 110 12 = kb_110_12 := rfl
theorem cd_110_13 : mm_Cd 110 13 = kb_110_13 := rfl
theorem cd_110_14 : mm_Cd 110 14 = kb_110_14 := rfl
theorem ml_110 : mm_Ml 110 = 7 := rfl
theorem nf_110 : mm_nf 110 = (3, 1, 12) := rfl
theorem cd_111_0 : mm_Cd 111 0 = kb_111_0 := rfl
theorem cd_111_1 : mm_Cd 111 1 = kb_111_1 := rfl
theorem cd_111_2 : mm_Cd 111 2 = kb_111_2 := rfl
theorem cd_111_3 : mm_Cd 111 3 = kb_111_3 := rfl
theorem ml_111 : mm_Ml 111 = 2 := rfl
theorem nf_111 : mm_nf 111 = (1, 1, 12) := rfl
theorem cd_112_0 : mm_Cd 112 0 = kb_112_0 := rfl
theorem cd_112_1 : mm_Cd 112 1 = kb_112_1 := rfl
theorem cd_112_2 : mm_Cd 112 2 = kb_112_2 := rfl
theorem cd_112_3 : mm_Cd 112 3 = kb_112_3 := rfl
theorem ml_112 : mm_Ml 112 = 2 := rfl
theorem nf_112 : mm_nf 112 = (2, 1, 12) := rfl
theorem cd_113_0 : mm_Cd 113 0 = kb_113_0 := rfl
theorem cd_113_1 : mm_Cd 113 1 = kb_113_1 := rfl
theorem cd_113_2 : mm_Cd 113 2 = kb_113_2 := rfl
theorem cd_113_3 : mm_Cd 113 3 = kb_113_3 := rfl
theorem ml_113 : mm_Ml 113 = 2 := rfl
theorem nf_113 : mm_nf 113 = (2, 1, 12) := rfl
theorem cd_114_0 : mm_Cd 114 0 = kb_114_0 := rfl
theorem ml_114 : mm_Ml 114 = 2 := rfl
theorem nf_114 : mm_nf 114 = (2, 1, 12) := rfl
theorem cd_115_0 : mm_Cd 115 0 = kb_115_0 := rfl
theorem ml_115 : mm_Ml 115 = 2 := rfl
theorem nf_115 : mm_nf 115 = (2, 1, 12) := rfl
theorem cd_116_0 : mm_Cd 116 0 = kb_116_0 := rfl
theorem cd_116_1 : mm_Cd 116 1 = kb_116_1 := rfl
theorem cd_116_2 : mm_Cd 116 2 = kb_116_2 := rfl
theorem cd_116_3 : mm_Cd 116 3 = kb_116_3 := rfl
theorem ml_116 : mm_Ml 116 = 2 := rfl
theorem nf_116 : mm_nf 116 = (2, 1, 12) := rfl
theorem cd_117_0 : mm_Cd 117 0 = kb_117_0 := rfl
theorem ml_117 : mm_Ml 117 = 2 := rfl
theorem nf_117 : mm_nf 117 = (2, 1, 12) := rfl
theorem cd_118_0 : mm_Cd 118 0 = kb_118_0 := rfl
theorem ml_118 : mm_Ml 118 = 2 := rfl
theorem nf_118 : mm_nf 118 = (2, 1, 12) := rfl
theorem cd_119_0 : mm_Cd 119 0 = kb_119_0 := rfl
theorem cd_119_1 : mm_Cd 119 1 = kb_119_1 := rfl
theorem cd_119_2 : mm_Cd 119 2 = kb_119_2 := rfl
theorem cd_119_3 : mm_Cd 119 3 = kb_119_3 := rfl
theorem ml_119 : mm_Ml 119 = 3 := rfl
theorem nf_119 : mm_nf 119 = (3, 1, 12) := rfl
theorem cd_120_0 : mm_Cd 120 0 = kb_120_0 := rfl
theorem cd_120_1 : mm_Cd 120 1 = kb_120_1 := rfl
theorem cd_120_2 : mm_Cd 120 2 = kb_120_2 := rfl
theorem cd_120_3 : mm_Cd 120 3 = kb_120_3 := rfl
theorem cd_120_4 : mm_Cd 120 4 = kb_120_4 := rfl
theorem cd_120_5 : mm_Cd 120 5 = kb_120_5 := rfl
theorem cd_120_6 : mm_Cd 120 6 = kb_120_6 := rfl
theorem cd_120_7 : mm_Cd 120 7 = kb_120_7 := rfl
theorem ml_120 : mm_Ml 120 = 5 := rfl
theorem nf_120 : mm_nf 120 = (2, 1, 12) := rfl
theorem cd_121_0 : mm_Cd 121 0 = kb_121_0 := rfl
theorem ml_121 : mm_Ml 121 = 2 := rfl
theorem nf_121 : mm_nf 121 = (2, 1, 12) := rfl
theorem cd_122_0 : mm_Cd 122 0 = kb_122_0 := rfl
theorem cd_122_1 : mm_Cd 122 1 = kb_122_1 := rfl
theorem cd_122_2 : mm_Cd 122 2 = kb_122_2 := rfl
theorem cd_122_3 : mm_Cd 122 3 = kb_122_3 := rfl
theorem cd_122_4 : mm_Cd 122 4 = kb_122_4 := rfl
theorem cd_122_5 : mm_Cd 122 5 = kb_122_5 := rfl
theorem cd_122_6 : mm_Cd 122 6 = kb_122_6 := rfl
theorem ml_122 : mm_Ml 122 = 4 := rfl
theorem nf_122 : mm_nf 122 = (2, 1, 12) := rfl
theorem cd_123_0 : mm_Cd 123 0 = kb_123_0 := rfl
theorem cd_123_1 : mm_Cd 123 1 = kb_123_1 := rfl
theorem cd_123_2 : mm_Cd 123 2 = kb_123_2 := rfl
theorem cd_123_3 : mm_Cd 123 3 = kb_123_3 := rfl
theorem cd_123_4 : mm_Cd 123 4 = kb_123_4 := rfl
theorem cd_123_5 : mm_Cd 123 5 = kb_123_5 := rfl
theorem cd_123_6 : mm_Cd 123 6 = kb_123_6 := rfl
theorem cd_123_7 : mm_Cd 123 7 = kb_123_7 := rfl
theorem cd_123_8 : mm_Cd 123 8 = kb_123_8 := rfl
theorem cd_123_9 : mm_Cd 123 9 = kb_123_9 := rfl
theorem cd_123_10 : mm_Cd 123 10 = kb_123_10 := rfl
theorem cd_123_11 : mm_Cd 123 11 = kb_123_11 := rfl
theorem cd_123_12 : mm_Cd 123 12 = kb_123_12 := rfl
theorem cd_123_13 : mm_Cd 123 13 = kb_123_13 := rfl
theorem cd_123_14 : mm_Cd 123 14 = kb_123_14 := rfl
theorem cd_123_15 : mm_Cd 123 15 = kb_123_15 := rfl
theorem cd_123_16 : mm_Cd 123 16 = kb_123_16 := rfl
theorem cd_123_17 : mm_Cd 123 17 = kb_123_17 := rfl
theorem cd_123_18 : mm_Cd 123 18 = kb_123_18 := rfl
theorem cd_123_19 : mm_Cd 123 19 = kb_123_19 := rfl
theorem cd_123_20 : mm_Cd 123 20 = kb_123_20 := rfl
theorem cd_123_21 : mm_Cd 123 21 = kb_123_21 := rfl
theorem cd_123_22 : mm_Cd 123 22 = kb_123_22 := rfl
theorem cd_123_23 : mm_Cd 123 23 = kb_123_23 := rfl
theorem cd_123_24 : mm_Cd 123 24 = kb_123_24 := rfl
theorem cd_123_25 : mm_Cd 123 25 = kb_123_25 := rfl
theorem cd_123_26 : mm_Cd 123 26 = kb_123_26 := rfl
theorem cd_123_27 : mm_Cd 123 27 = kb_123_27 := rfl
theorem cd_123_28 : mm_Cd 123 28 = kb_123_28 := rfl
theorem cd_123_29 : mm_Cd 123 29 = kb_123_29 := rfl
theorem cd_123_30 : mm_Cd 123 30 = kb_123_30 := rfl
theorem cd_123_31 : mm_Cd 123 31 = kb_123_31 := rfl
theorem ml_123 : mm_Ml 123 = 2 := rfl
theorem nf_123 : mm_nf 123 = (1, 1, 12) := rfl
theorem cd_124_0 : mm_Cd 124 0 = kb_124_0 := rfl
theorem cd_124_1 : mm_Cd 124 1 = kb_124_1 := rfl
theorem cd_124_2 : mm_Cd 124 2 = kb_124_2 := rfl
theorem cd_124_3 : mm_Cd 124 3 = kb_124_3 := rfl
theorem ml_124 : mm_Ml 124 = 3 := rfl
theorem nf_124 : mm_nf 124 = (2, 1, 12) := rfl
theorem cd_125_0 : mm_Cd 125 0 = kb_125_0 := rfl
theorem cd_125_1 : mm_Cd 125 1 = kb_125_1 := rfl
theorem cd_125_2 : mm_Cd 125 2 = kb_125_2 := rfl
theorem cd_125_3 : mm_Cd 125 3 = kb_125_3 := rfl
theorem cd_125_4 : mm_Cd 125 4 = kb_125_4 := rfl
theorem cd_125_5 : mm_Cd 125 5 = kb_125_5 := rfl
theorem cd_125_6 : mm_Cd 125 6 = kb_125_6 := rfl
theorem cd_125_7 : mm_Cd 125 7 = kb_125_7 := rfl
theorem cd_125_8 : mm_Cd 125 8 = kb_125_8 := rfl
theorem cd_125_9 : mm_Cd 125 9 = kb_125_9 := rfl
theorem cd_125_10 : mm_Cd 125 10 = kb_125_10 := rfl
theorem cd_125_11 : mm_Cd 125 11 = kb_125_11 := rfl
theorem cd_125_12 : mm_Cd 125 12 = kb_125_12 := rfl
theorem cd_125_13 : mm_Cd 125 13 = kb_125_13 := rfl
theorem cd_125_14 : mm_Cd 125 14 = kb_125_14 := rfl
theorem cd_125_15 : mm_Cd 125 15 = kb_125_15 := rfl
theorem cd_125_16 : mm_Cd 125 16 = kb_125_16 := rfl
theorem cd_125_17 : mm_Cd 125 17 = kb_125_17 := rfl
theorem cd_125_18 : mm_Cd 125 18 = kb_125_18 := rfl
theorem cd_125_19 : mm_Cd 125 19 = kb_125_19 := rfl
theorem cd_125_20 : mm_Cd 125 20 = kb_125_20 := rfl
theorem cd_125_21 : mm_Cd 125 21 = kb_125_21 := rfl
theorem cd_125_22 : mm_Cd 125 22 = kb_125_22 := rfl
theorem cd_125_23 : mm_Cd 125 23 = kb_125_23 := rfl
theorem cd_125_24 : mm_Cd 125 24 = kb_125_24 := rfl
theorem cd_125_25 : mm_Cd 125 25 = kb_125_25 := rfl
theorem cd_125_26 : mm_Cd 125 26 = kb_125_26 := rfl
theorem cd_125_27 : mm_Cd 125 27 = kb_125_27 := rfl
theorem ml_125 : mm_Ml 125 = 3 := rfl
theorem nf_125 : mm_nf 125 = (3, 1, 12) := rfl
theorem cd_126_0 : mm_Cd 126 0 = kb_126_0 := rfl
theorem cd_126_1 : mm_Cd 126 1 = kb_126_1 := rfl
theorem cd_126_2 : mm_Cd 126 2 = kb_126_2 := rfl
theorem cd_126_3 : mm_Cd 126 3 = kb_126_3 := rfl
theorem cd_126_4 : mm_Cd 126 4 = kb_126_4 := rfl
theorem cd_126_5 : mm_Cd 126 5 = kb_126_5 := rfl
theorem cd_126_6 : mm_Cd 126 6 = kb_126_6 := rfl
theorem cd_126_7 : mm_Cd 126 7 = kb_126_7 := rfl
theorem cd_126_8 : mm_Cd 126 8 = kb_126_8 := rfl
theorem cd_126_9 : mm_Cd 126 9 = kb_126_9 := rfl
theorem cd_126_10 : mm_Cd 126 10 = kb_126_10 := rfl
theorem cd_126_11 : mm_Cd 126 11 = kb_126_11 := rfl
theorem cd_126_12 : mm_Cd 126 12 = kb_126_12 := rfl
theorem cd_126_13 : mm_Cd 126 13 = kb_126_13 := rfl
theorem cd_126_14 : mm_Cd 126 14 = kb_126_14 := rfl
theorem cd_126_15 : mm_Cd 126 15 = kb_126_15 := rfl
theorem cd_126_16 : mm_Cd 126 16 = kb_126_16 := rfl
theorem cd_126_17 : mm_Cd 126 17 = kb_126_17 := rfl
theorem cd_126_18 : mm_Cd 126 18 = kb_126_18 := rfl
theorem ml_126 : mm_Ml 126 = 3 := rfl
theorem nf_126 : mm_nf 126 = (3, 1, 12) := rfl
theorem cd_127_0 : mm_Cd 127 0 = kb_127_0 := rfl
theorem cd_127_1 : mm_Cd 127 1 = kb_127_1 := rfl
theorem cd_127_2 : mm_Cd 127 2 = kb_127_2 := rfl
theorem cd_127_3 : mm_Cd 127 3 = kb_127_3 := rfl
theorem cd_127_4 : mm_Cd 127 4 = kb_127_4 := rfl
theorem cd_127_5 : mm_Cd 127 5 = kb_127_5 := rfl
theorem cd_127_6 : mm_Cd 127 6 = kb_127_6 := rfl
theorem cd_127_7 : mm_Cd 127 7 = kb_127_7 := rfl
theorem cd_127_8 : mm_Cd 127 8 = kb_127_8 := rfl
theorem ml_127 : mm_Ml 127 = 2 := rfl
theorem nf_127 : mm_nf 127 = (1, 1, 12) := rfl
theorem cd_128_0 : mm_Cd 128 0 = kb_128_0 := rfl
theorem cd_128_1 : mm_Cd 128 1 = kb_128_1 := rfl
theorem cd_128_2 : mm_Cd 128 2 = kb_128_2 := rfl
theorem cd_128_3 : mm_Cd 128 3 = kb_128_3 := rfl
theorem cd_128_4 : mm_Cd 128 4 = kb_128_4 := rfl
theorem cd_128_5 : mm_Cd 128 5 = kb_128_5 := rfl
theorem cd_128_6 : mm_Cd 128 6 = kb_128_6 := rfl
theorem ml_128 : mm_Ml 128 = 3 := rfl
theorem nf_128 : mm_nf 128 = (3, 1, 12) := rfl
theorem cd_129_0 : mm_Cd 129 0 = kb_129_0 := rfl
theorem ml_129 : mm_Ml 129 = 2 := rfl
theorem nf_129 : mm_nf 129 = (2, 1, 12) := rfl
theorem cd_130_0 : mm_Cd 130 0 = kb_130_0 := rfl
theorem cd_130_1 : mm_Cd 130 1 = kb_130_1 := rfl
theorem cd_130_2 : mm_Cd 130 2 = kb_130_2 := rfl
theorem ml_130 : mm_Ml 130 = 3 := rfl
theorem nf_130 : mm_nf 130 = (3, 1, 12) := rfl
theorem cd_131_0 : mm_Cd 131 0 = kb_131_0 := rfl
theorem cd_131_1 : mm_Cd 131 1 = kb_131_1 := rfl
theorem cd_131_2 : mm_Cd 131 2 = kb_131_2 := rfl
theorem cd_131_3 : mm_Cd 131 3 = kb_131_3 := rfl
theorem cd_131_4 : mm_Cd 131 4 = kb_131_4 := rfl
theorem ml_131 : mm_Ml 131 = 3 := rfl
theorem nf_131 : mm_nf 131 = (3, 1, 12) := rfl
theorem cd_132_0 : mm_Cd 132 0 = kb_132_0 := rfl
theorem cd_132_1 : mm_Cd 132 1 = kb_132_1 := rfl
theorem cd_132_2 : mm_Cd 132 2 = kb_132_2 := rfl
theorem cd_132_3 : mm_Cd 132 3 = kb_132_3 := rfl
theorem cd_132_4 : mm_Cd 132 4 = kb_132_4 := rfl
theorem ml_132 : mm_Ml 132 = 4 := rfl
theorem nf_132 : mm_nf 132 = (4, 1, 12) := rfl
theorem cd_133_0 : mm_Cd 133 0 = kb_133_0 := rfl
theorem cd_133_1 : mm_Cd 133 1 = kb_133_1 := rfl
theorem cd_133_2 : mm_Cd 133 2 = kb_133_2 := rfl
theorem cd_133_3 : mm_Cd 133 3 = kb_133_3 := rfl
theorem ml_133 : mm_Ml 133 = 3 := rfl
theorem nf_133 : mm_nf 133 = (3, 1, 12) := rfl
theorem cd_134_0 : mm_Cd 134 0 = kb_134_0 := rfl
theorem cd_134_1 : mm_Cd 134 1 = kb_134_1 := rfl
theorem cd_134_2 : mm_Cd 134 2 = kb_134_2 := rfl
theorem cd_134_3 : mm_Cd 134 3 = kb_134_3 := rfl
theorem cd_134_4 : mm_Cd 134 4 = kb_134_4 := rfl
theorem cd_134_5 : mm_Cd 134 5 = kb_134_5 := rfl
theorem cd_134_6 : mm_Cd 134 6 = kb_134_6 := rfl
theorem cd_134_7 : mm_Cd 134 7 = kb_134_7 := rfl
theorem ml_134 : mm_Ml 134 = 3 := rfl
theorem nf_134 : mm_nf 134 = (3, 1, 12) := rfl
theorem cd_135_0 : mm_Cd 135 0 = kb_135_0 := rfl
theorem ml_135 : mm_Ml 135 = 1 := rfl
theorem nf_135 : mm_nf 135 = (1, 0, 12) := rfl
theorem cd_136_0 : mm_Cd 136 0 = kb_136_0 := rfl
theorem cd_136_1 : mm_Cd 136 1 = kb_136_1 := rfl
theorem cd_136_2 : mm_Cd 136 2 = kb_136_2 := rfl
theorem cd_136_3 : mm_Cd 136 3 = kb_136_3 := rfl
theorem cd_136_4 : mm_Cd 136 4 = kb_136_4 := rfl
theorem ml_136 : mm_Ml 136 = 2 := rfl
theorem nf_136 : mm_nf 136 = (2, 1, 12) := rfl
theorem cd_137_0 : mm_Cd 137 0 = kb_137_0 := rfl
theorem cd_137_1 : mm_Cd 137 1 = kb_137_1 := rfl
theorem cd_137_2 : mm_Cd 137 2 = kb_137_2 := rfl
theorem cd_137_3 : mm_Cd 137 3 = kb_137_3 := rfl
theorem cd_137_4 : mm_Cd 137 4 = kb_137_4 := rfl
theorem cd_137_5 : mm_Cd 137 5 = kb_137_5 := rfl
theorem ml_137 : mm_Ml 137 = 2 := rfl
theorem nf_137 : mm_nf 137 = (1, 1, 12) := rfl
theorem cd_138_0 : mm_Cd 138 0 = kb_138_0 := rfl
theorem cd_138_1 : mm_Cd 138 1 = kb_138_1 := rfl
theorem cd_138_2 : mm_Cd 138 2 = kb_138_2 := rfl
theorem cd_138_3 : mm_Cd 138 3 = kb_138_3 := rfl
theorem cd_138_4 : mm_Cd 138 4 = kb_138_4 := rfl
theorem cd_138_5 : mm_Cd 138 5 = kb_138_5 := rfl
theorem cd_138_6 : mm_Cd 138 6 = kb_138_6 := rfl
theorem ml_138 : mm_Ml 138 = 4 := rfl
theorem nf_138 : mm_nf 138 = (4, 1, 12) := rfl
theorem cd_139_0 : mm_Cd 139 0 = kb_139_0 := rfl
theorem cd_139_1 : mm_Cd 139 1 = kb_139_1 := rfl
theorem cd_139_2 : mm_Cd 139 2 = kb_139_2 := rfl
theorem cd_139_3 : mm_Cd 139 3 = kb_139_3 := rfl
theorem cd_139_4 : mm_Cd 139 4 = kb_139_4 := rfl
theorem cd_139_5 : mm_Cd 139 5 = kb_139_5 := rfl
theorem ml_139 : mm_Ml 139 = 4 := rfl
theorem nf_139 : mm_nf 139 = (4, 1, 12) := rfl
theorem cd_140_0 : mm_Cd 140 0 = kb_140_0 := rfl
theorem cd_140_1 : mm_Cd 140 1 = kb_140_1 := rfl
theorem cd_140_2 : mm_Cd 140 2 = kb_140_2 := rfl
theorem cd_140_3 : mm_Cd 140 3 = kb_140_3 := rfl
theorem cd_140_4 : mm_Cd 140 4 = kb_140_4 := rfl
theorem cd_140_5 : mm_Cd 140 5 = kb_140_5 := rfl
theorem cd_140_6 : mm_Cd 140 6 = kb_140_6 := rfl
theorem cd_140_7 : mm_Cd 140 7 = kb_140_7 := rfl
theorem cd_140_8 : mm_Cd 140 8 = kb_140_8 := rfl
theorem cd_140_9 : mm_Cd 140 9 = kb_140_9 := rfl
theorem ml_140 : mm_Ml 140 = 8 := rfl
theorem nf_140 : mm_nf 140 = (4, 1, 12) := rfl
theorem cd_141_0 : mm_Cd 141 0 = kb_141_0 := rfl
theorem cd_141_1 : mm_Cd 141 1 = kb_141_1 := rfl
theorem cd_141_2 : mm_Cd 141 2 = kb_141_2 := rfl
theorem cd_141_3 : mm_Cd 141 3 = kb_141_3 := rfl
theorem ml_141 : mm_Ml 141 = 3 := rfl
theorem nf_141 : mm_nf 141 = (1, 1, 12) := rfl
theorem cd_142_0 : mm_Cd 142 0 = kb_142_0 := rfl
theorem cd_142_1 : mm_Cd 142 1 = kb_142_1 := rfl
theorem cd_142_2 : mm_Cd 142 2 = kb_142_2 := rfl
theorem cd_142_3 : mm_Cd 142 3 = kb_142_3 := rfl
theorem cd_142_4 : mm_Cd 142 4 = kb_142_4 := rfl
theorem cd_142_5 : mm_Cd 142 5 = kb_142_5 := rfl
theorem cd_142_6 : mm_Cd 142 6 = kb_142_6 := rfl
theorem cd_142_7 : mm_Cd 142 7 = kb_142_7 := rfl
theorem cd_142_8 : mm_Cd 142 8 = kb_142_8 := rfl
theorem cd_142_9 : mm_Cd 142 9 = kb_142_9 := rfl
theorem ml_142 : mm_Ml 142 = 6 := rfl
theorem nf_142 : mm_nf 142 = (4, 1, 12) := rfl
theorem cd_143_0 : mm_Cd 143 0 = kb_143_0 := rfl
theorem cd_143_1 : mm_Cd 143 1 = kb_143_1 := rfl
theorem cd_143_2 : mm_Cd 143 2 = kb_143_2 := rfl
theorem cd_143_3 : mm_Cd 143 3 = kb_143_3 := rfl
theorem ml_143 : mm_Ml 143 = 5 := rfl
theorem nf_143 : mm_nf 143 = (4, 1, 12) := rfl
theorem cd_144_0 : mm_Cd 144 0 = kb_144_0 := rfl
theorem cd_144_1 : mm_Cd 144 1 = kb_144_1 := rfl
theorem cd_144_2 : mm_Cd 144 2 = kb_144_2 := rfl
theorem cd_144_3 : mm_Cd 144 3 = kb_144_3 := rfl
theorem cd_144_4 : mm_Cd 144 4 = kb_144_4 := rfl
theorem cd_144_5 : mm_Cd 144 5 = kb_144_5 := rfl
theorem cd_144_6 : mm_Cd 144 6 = kb_144_6 := rfl
theorem ml_144 : mm_Ml 144 = 3 := rfl
theorem nf_144 : mm_nf 144 = (3, 1, 12) := rfl
theorem cd_145_0 : mm_Cd 145 0 = kb_145_0 := rfl
theorem cd_145_1 : mm_Cd 145 1 = kb_145_1 := rfl
theorem cd_145_2 : mm_Cd 145 2 = kb_145_2 := rfl
theorem cd_145_3 : mm_Cd 145 3 = kb_145_3 := rfl
theorem cd_145_4 : mm_Cd 145 4 = kb_145_4 := rfl
theorem cd_145_5 : mm_Cd 145 5 = kb_145_5 := rfl
theorem cd_145_6 : mm_Cd 145 6 = kb_145_6 := rfl
theorem cd_145_7 : mm_Cd 145 7 = kb_145_7 := rfl
theorem cd_145_8 : mm_Cd 145 8 = kb_145_8 := rfl
theorem cd_145_9 : mm_Cd 145 9 = kb_145_9 := rfl
theorem ml_145 : mm_Ml 145 = 6 := rfl
theorem nf_145 : mm_nf 145 = (5, 1, 12) := rfl
theorem cd_146_0 : mm_Cd 146 0 = kb_146_0 := rfl
theorem cd_146_1 : mm_Cd 146 1 = kb_146_1 := rfl
theorem cd_146_2 : mm_Cd 146 2 = kb_146_2 := rfl
theorem cd_146_3 : mm_Cd 146 3 = kb_146_3 := rfl
theorem ml_146 : mm_Ml 146 = 3 := rfl
theorem nf_146 : mm_nf 146 = (3, 1, 12) := rfl
theorem cd_147_0 : mm_Cd 147 0 = kb_147_0 := rfl
theorem cd_147_1 : mm_Cd 147 1 = kb_147_1 := rfl
theorem cd_147_2 : mm_Cd 147 2 = kb_147_2 := rfl
theorem cd_147_3 : mm_Cd 147 3 = kb_147_3 := rfl
theorem cd_147_4 : mm_Cd 147 4 = kb_147_4 := rfl
theorem cd_147_5 : mm_Cd 147 5 = kb_147_5 := rfl
theorem cd_147_6 : mm_Cd 147 6 = kb_147_6 := rfl
theorem cd_147_7 : mm_Cd 147 7 = kb_147_7 := rfl
theorem ml_147 : mm_Ml 147 = 4 := rfl
theorem nf_147 : mm_nf 147 = (2, 1, 12) := rfl
theorem cd_148_0 : mm_Cd 148 0 = kb_148_0 := rfl
theorem cd_148_1 : mm_Cd 148 1 = kb_148_1 := rfl
theorem cd_148_2 : mm_Cd 148 2 = kb_148_2 := rfl
theorem cd_148_3 : mm_Cd 148 3 = kb_148_3 := rfl
theorem cd_148_4 : mm_Cd 148 4 = kb_148_4 := rfl
theorem cd_148_5 : mm_Cd 148 5 = kb_148_5 := rfl
theorem cd_148_6 : mm_Cd 148 6 = kb_148_6 := rfl
theorem cd_148_7 : mm_Cd 148 7 = kb_148_7 := rfl
theorem cd_148_8 : mm_Cd 148 8 = kb_148_8 := rfl
theorem cd_148_9 : mm_Cd 148 9 = kb_148_9 := rfl
theorem cd_148_10 : mm_Cd 148 10 = kb_148_10 := rfl
theorem cd_148_11 : mm_Cd 148 11 = kb_148_11 := rfl
theorem ml_148 : mm_Ml 148 = 7 := rfl
theorem nf_148 : mm_nf 148 = (4, 1, 12) := rfl
theorem cd_149_0 : mm_Cd 149 0 = kb_149_0 := rfl
theorem cd_149_1 : mm_Cd 149 1 = kb_149_1 := rfl
theorem cd_149_2 : mm_Cd 149 2 = kb_149_2 := rfl
theorem cd_149_3 : mm_Cd 149 3 = kb_149_3 := rfl
theorem cd_149_4 : mm_Cd 149 4 = kb_149_4 := rfl
theorem cd_149_5 : mm_Cd 149 5 = kb_149_5 := rfl
theorem cd_149_6 : mm_Cd 149 6 = kb_149_6 := rfl
theorem cd_149_7 : mm_Cd 149 7 = kb_149_7 := rfl
theorem cd_149_8 : mm_Cd 149 8 = kb_149_8 := rfl
theorem cd_149_9 : mm_Cd 149 9 = kb_149_9 := rfl
theorem cd_149_10 : mm_Cd 149 10 = kb_149_10 := rfl
theorem cd_149_11 : mm_Cd 149 11 = kb_149_11 := rfl
theorem ml_149 : mm_Ml 149 = 7 := rfl
theorem nf_149 : mm_nf 149 = (4, 1, 12) := rfl
theorem cd_150_0 : mm_Cd 150 0 = kb_150_0 := rfl
theorem cd_150_1 : mm_Cd 150 1 = kb_150_1 := rfl
theorem cd_150_2 : mm_Cd 150 2 = kb_150_2 := rfl
theorem cd_150_3 : mm_Cd 150 3 = kb_150_3 := rfl
theorem cd_150_4 : mm_Cd 150 4 = kb_150_4 := rfl
theorem cd_150_5 : mm_Cd 150 5 = kb_150_5 := rfl
theorem cd_150_6 : mm_Cd 150 6 = kb_150_6 := rfl
theorem cd_150_7 : mm_Cd 150 7 = kb_150_7 := rfl
theorem cd_150_8 : mm_Cd 150 8 = kb_150_8 := rfl
theorem cd_150_9 : mm_Cd 150 9 = kb_150_9 := rfl
theorem ml_150 : mm_Ml 150 = 7 := rfl
theorem nf_150 : mm_nf 150 = (3, 1, 12) := rfl
theorem cd_151_0 : mm_Cd 151 0 = kb_151_0 := rfl
theorem cd_151_1 : mm_Cd 151 1 = kb_151_1 := rfl
theorem cd_151_2 : mm_Cd 151 2 = kb_151_2 := rfl
theorem cd_151_3 : mm_Cd 151 3 = kb_151_3 := rfl
theorem ml_151 : mm_Ml 151 = 2 := rfl
theorem nf_151 : mm_nf 151 = (1, 0, 12) := rfl
theorem cd_152_0 : mm_Cd 152 0 = kb_152_0 := rfl
theorem ml_152 : mm_Ml 152 = 4 := rfl
theorem nf_152 : mm_nf 152 = (4, 1, 12) := rfl
theorem cd_153_0 : mm_Cd 153 0 = kb_153_0 := rfl
theorem cd_153_1 : mm_Cd 153 1 = kb_153_1 := rfl
theorem cd_153_2 : mm_Cd 153 2 = kb_153_2 := rfl
theorem cd_153_3 : mm_Cd 153 3 = kb_153_3 := rfl
theorem cd_153_4 : mm_Cd 153 4 = kb_153_4 := rfl
theorem cd_153_5 : mm_Cd 153 5 = kb_153_5 := rfl
theorem cd_153_6 : mm_Cd 153 6 = kb_153_6 := rfl
theorem cd_153_7 : mm_Cd 153 7 = kb_153_7 := rfl
theorem cd_153_8 : mm_Cd 153 8 = kb_153_8 := rfl
theorem cd_153_9 : mm_Cd 153 9 = kb_153_9 := rfl
theorem ml_153 : mm_Ml 153 = 4 := rfl
theorem nf_153 : mm_nf 153 = (1, 1, 12) := rfl
theorem cd_154_0 : mm_Cd 154 0 = kb_154_0 := rfl
theorem cd_154_1 : mm_Cd 154 1 = kb_154_1 := rfl
theorem cd_154_2 : mm_Cd 154 2 = kb_154_2 := rfl
theorem cd_154_3 : mm_Cd 154 3 = kb_154_3 := rfl
theorem cd_154_4 : mm_Cd 154 4 = kb_154_4 := rfl
theorem cd_154_5 : mm_Cd 154 5 = kb_154_5 := rfl
theorem cd_154_6 : mm_Cd 154 6 = kb_154_6 := rfl
theorem cd_154_7 : mm_Cd 154 7 = kb_154_7 := rfl
theorem cd_154_8 : mm_Cd 154 8 = kb_154_8 := rfl
theorem ml_154 : mm_Ml 154 = 4 := rfl
theorem nf_154 : mm_nf 154 = (2, 1, 12) := rfl
theorem cd_155_0 : mm_Cd 155 0 = kb_155_0 := rfl
theorem cd_155_1 : mm_Cd 155 1 = kb_155_1 := rfl
theorem cd_155_2 : mm_Cd 155 2 = kb_155_2 := rfl
theorem cd_155_3 : mm_Cd 155 3 = kb_155_3 := rfl
theorem cd_155_4 : mm_Cd 155 4 = kb_155_4 := rfl
theorem cd_155_5 : mm_Cd 155 5 = kb_155_5 := rfl
theorem cd_155_6 : mm_Cd 155 6 = kb_155_6 := rfl
theorem cd_155_7 : mm_Cd 155 7 = kb_155_7 := rfl
theorem cd_155_8 : mm_Cd 155 8 = kb_155_8 := rfl
theorem cd_155_9 : mm_Cd 155 9 = kb_155_9 := rfl
theorem cd_155_10 : mm_Cd 155 10 = kb_155_10 := rfl
theorem cd_155_11 : mm_Cd 155 11 = kb_155_11 := rfl
theorem cd_155_12 : mm_Cd 155 12 = kb_155_12 := rfl
theorem cd_155_13 : mm_Cd 155 13 = kb_155_13 := rfl
theorem cd_155_14 : mm_Cd 155 14 = kb_155_14 := rfl
theorem cd_155_15 : mm_Cd 155 15 = kb_155_15 := rfl
theorem cd_155_16 : mm_Cd 155 16 = kb_155_16 := rfl
theorem cd_155_17 : mm_Cd 155 17 = kb_155_17 := rfl
theorem cd_155_18 : mm_Cd 155 18 = kb_155_18 := rfl
theorem cd_155_19 : mm_Cd 155 19 = kb_155_19 := rfl
theorem ml_155 : mm_Ml 155 = 5 := rfl
theorem nf_155 : mm_nf 155 = (2, 1, 12) := rfl
theorem cd_156_0 : mm_Cd 156 0 = kb_156_0 := rfl
theorem cd_156_1 : mm_Cd 156 1 = kb_156_1 := rfl
theorem cd_156_2 : mm_Cd 156 2 = kb_156_2 := rfl
theorem cd_156_3 : mm_Cd 156 3 = kb_156_3 := rfl
theorem cd_156_4 : mm_Cd 156 4 = kb_156_4 := rfl
theorem ml_156 : mm_Ml 156 = 4 := rfl
theorem nf_156 : mm_nf 156 = (3, 1, 12) := rfl
theorem cd_157_0 : mm_Cd 157 0 = kb_157_0 := rfl
theorem cd_157_1 : mm_Cd 157 1 = kb_157_1 := rfl
theorem cd_157_2 : mm_Cd 157 2 = kb_157_2 := rfl
theorem cd_157_3 : mm_Cd 157 3 = kb_157_3 := rfl
theorem cd_157_4 : mm_Cd 157 4 = kb_157_4 := rfl
theorem cd_157_5 : mm_Cd 157 5 = kb_157_5 := rfl
theorem cd_157_6 : mm_Cd 157 6 = kb_157_6 := rfl
theorem cd_157_7 : mm_Cd 157 7 = kb_157_7 := rfl
theorem cd_157_8 : mm_Cd 157 8 = kb_157_8 := rfl
theorem cd_157_9 : mm_Cd 157 9 = kb_157_9 := rfl
theorem cd_157_10 : mm_Cd 157 10 = kb_157_10 := rfl
theorem cd_157_11 : mm_Cd 157 11 = kb_157_11 := rfl
theorem cd_157_12 : mm_Cd 157 12 = kb_157_12 := rfl
theorem cd_157_13 : mm_Cd 157 13 = kb_157_13 := rfl
theorem ml_157 : mm_Ml 157 = 5 := rfl
theorem nf_157 : mm_nf 157 = (3, 1, 12) := rfl
theorem cd_158_0 : mm_Cd 158 0 = kb_158_0 := rfl
theorem cd_158_1 : mm_Cd 158 1 = kb_158_1 := rfl
theorem cd_158_2 : mm_Cd 158 2 = kb_158_2 := rfl
theorem cd_158_3 : mm_Cd 158 3 = kb_158_3 := rfl
theorem cd_158_4 : mm_Cd 158 4 = kb_158_4 := rfl
theorem cd_158_5 : mm_Cd 158 5 = kb_158_5 := rfl
theorem cd_158_6 : mm_Cd 158 6 = kb_158_6 := rfl
theorem cd_158_7 : mm_Cd 158 7 = kb_158_7 := rfl
theorem cd_158_8 : mm_Cd 158 8 = kb_158_8 := rfl
theorem cd_158_9 : mm_Cd 158 9 = kb_158_9 := rfl
theorem cd_158_10 : mm_Cd 158 10 = kb_158_10 := rfl
theorem cd_158_11 : mm_Cd 158 11 = kb_158_11 := rfl
theorem ml_158 : mm_Ml 158 = 5 := rfl
theorem nf_158 : mm_nf 158 = (2, 1, 12) := rfl
theorem cd_159_0 : mm_Cd 159 0 = kb_159_0 := rfl
theorem cd_159_1 : mm_Cd 159 1 = kb_159_1 := rfl
theorem cd_159_2 : mm_Cd 159 2 = kb_159_2 := rfl
theorem ml_159 : mm_Ml 159 = 2 := rfl
theorem nf_159 : mm_nf 159 = (2, 1, 12) := rfl
theorem cd_160_0 : mm_Cd 160 0 = kb_160_0 := rfl
theorem cd_160_1 : mm_Cd 160 1 = kb_160_1 := rfl
theorem cd_160_2 : mm_Cd 160 2 = kb_160_2 := rfl
theorem cd_160_3 : mm_Cd 160 3 = kb_160_3 := rfl
theorem cd_160_4 : mm_Cd 160 4 = kb_160_4 := rfl
theorem cd_160_5 : mm_Cd 160 5 = kb_160_5 := rfl
theorem cd_160_6 : mm_Cd 160 6 = kb_160_6 := rfl
theorem cd_160_7 : mm_Cd 160 7 = kb_160_7 := rfl
theorem ml_160 : mm_Ml 160 = 6 := rfl
theorem nf_160 : mm_nf 160 = (4, 1, 12) := rfl
theorem cd_161_0 : mm_Cd 161 0 = kb_161_0 := rfl
theorem cd_161_1 : mm_Cd 161 1 = kb_161_1 := rfl
theorem cd_161_2 : mm_Cd 161 2 = kb_161_2 := rfl
theorem cd_161_3 : mm_Cd 161 3 = kb_161_3 := rfl
theorem cd_161_4 : mm_Cd 161 4 = kb_161_4 := rfl
theorem cd_161_5 : mm_Cd 161 5 = kb_161_5 := rfl
theorem cd_161_6 : mm_Cd 161 6 = kb_161_6 := rfl
theorem cd_161_7 : mm_Cd 161 7 = kb_161_7 := rfl
theorem cd_161_8 : mm_Cd 161 8 = kb_161_8 := rfl
theorem cd_161_9 : mm_Cd 161 9 = kb_161_9 := rfl
theorem cd_161_10 : mm_Cd 161 10 = kb_161_10 := rfl
theorem cd_161_11 : mm_Cd 161 11 = kb_161_11 := rfl
theorem cd_161_12 : mm_Cd 161 12 = kb_161_12 := rfl
theorem cd_161_13 : mm_Cd 161 13 = kb_161_13 := rfl
theorem ml_161 : mm_Ml 161 = 4 := rfl
theorem nf_161 : mm_nf 161 = (2, 1, 12) := rfl
theorem cd_162_0 : mm_Cd 162 0 = kb_162_0 := rfl
theorem cd_162_1 : mm_Cd 162 1 = kb_162_1 := rfl
theorem cd_162_2 : mm_Cd 162 2 = kb_162_2 := rfl
theorem cd_162_3 : mm_Cd 162 3 = kb_162_3 := rfl
theorem cd_162_4 : mm_Cd 162 4 = kb_162_4 := rfl
theorem cd_162_5 : mm_Cd 162 5 = kb_162_5 := rfl
theorem cd_162_6 : mm_Cd 162 6 = kb_162_6 := rfl
theorem cd_162_7 : mm_Cd 162 7 = kb_162_7 := rfl
theorem cd_162_8 : mm_Cd 162 8 = kb_162_8 := rfl
theorem cd_162_9 : mm_Cd 162 9 = kb_162_9 := rfl
theorem cd_162_10 : mm_Cd 162 10 = kb_162_10 := rfl
theorem cd_162_11 : mm_Cd 162 11 = kb_162_11 := rfl
theorem cd_162_12 : mm_Cd 162 12 = kb_162_12 := rfl
theorem cd_162_13 : mm_Cd 162 13 = kb_162_13 := rfl
theorem ml_162 : mm_Ml 162 = 4 := rfl
theorem nf_162 : mm_nf 162 = (2, 1, 12) := rfl
theorem cd_163_0 : mm_Cd 163 0 = kb_163_0 := rfl
theorem cd_163_1 : mm_Cd 163 1 = kb_163_1 := rfl
theorem cd_163_2 : mm_Cd 163 2 = kb_163_2 := rfl
theorem cd_163_3 : mm_Cd 163 3 = kb_163_3 := rfl
theorem cd_163_4 : mm_Cd 163 4 = kb_163_4 := rfl
theorem cd_163_5 : mm_Cd 163 5 = kb_163_5 := rfl
theorem cd_163_6 : mm_Cd 163 6 = kb_163_6 := rfl
theorem ml_163 : mm_Ml 163 = 3 := rfl
theorem nf_163 : mm_nf 163 = (1, 1, 12) := rfl
theorem cd_164_0 : mm_Cd 164 0 = kb_164_0 := rfl
theorem cd_164_1 : mm_Cd 164 1 = kb_164_1 := rfl
theorem cd_164_2 : mm_Cd 164 2 = kb_164_2 := rfl
theorem cd_164_3 : mm_Cd 164 3 = kb_164_3 := rfl
theorem cd_164_4 : mm_Cd 164 4 = kb_164_4 := rfl
theorem cd_164_5 : mm_Cd 164 5 = kb_164_5 := rfl
theorem cd_164_6 : mm_Cd 164 6 = kb_164_6 := rfl
theorem cd_164_7 : mm_Cd 164 7 = kb_164_7 := rfl
theorem cd_164_8 : mm_Cd 164 8 = kb_164_8 := rfl
theorem cd_164_9 : mm_Cd 164 9 = kb_164_9 := rfl
theorem cd_164_10 : mm_Cd 164 10 = kb_164_10 := rfl
theorem cd_164_11 : mm_Cd 164 11 = kb_164_11 := rfl
theorem cd_164_12 : mm_Cd 164 12 = kb_164_12 := rfl
theorem cd_164_13 : mm_Cd 164 13 = kb_164_13 := rfl
theorem ml_164 : mm_Ml 164 = 6 := rfl
theorem nf_164 : mm_nf 164 = (2, 1, 12) := rfl
theorem cd_165_0 : mm_Cd 165 0 = kb_165_0 := rfl
theorem cd_165_1 : mm_Cd 165 1 = kb_165_1 := rfl
theorem cd_165_2 : mm_Cd 165 2 = kb_165_2 := rfl
theorem cd_165_3 : mm_Cd 165 3 = kb_165_3 := rfl
theorem cd_165_4 : mm_Cd 165 4 = kb_165_4 := rfl
theorem cd_165_5 : mm_Cd 165 5 = kb_165_5 := rfl
theorem cd_165_6 : mm_Cd 165 6 = kb_165_6 := rfl
theorem cd_165_7 : mm_Cd 165 7 = kb_165_7 := rfl
theorem cd_165_8 : mm_Cd 165 8 = kb_165_8 := rfl
theorem cd_165_9 : mm_Cd 165 9 = kb_165_9 := rfl
theorem cd_165_10 : mm_Cd 165 10 = kb_165_10 := rfl
theorem cd_165_11 : mm_Cd 165 11 = kb_165_11 := rfl
theorem ml_165 : mm_Ml 165 = 7 := rfl
theorem nf_165 : mm_nf 165 = (3, 1, 12) := rfl
theorem cd_166_0 : mm_Cd 166 0 = kb_166_0 := rfl
theorem cd_166_1 : mm_Cd 166 1 = kb_166_1 := rfl
theorem cd_166_2 : mm_Cd 166 2 = kb_166_2 := rfl
theorem ml_166 : mm_Ml 166 = 2 := rfl
theorem nf_166 : mm_nf 166 = (2, 1, 12) := rfl
theorem cd_167_0 : mm_Cd 167 0 = kb_167_0 := rfl
theorem cd_167_1 : mm_Cd 167 1 = kb_167_1 := rfl
theorem cd_167_2 : mm_Cd 167 2 = kb_167_2 := rfl
theorem cd_167_3 : mm_Cd 167 3 = kb_167_3 := rfl
theorem ml_167 : mm_Ml 167 = 4 := rfl
theorem nf_167 : mm_nf 167 = (4, 1, 12) := rfl
theorem cd_168_0 : mm_Cd 168 0 = kb_168_0 := rfl
theorem cd_168_1 : mm_Cd 168 1 = kb_168_1 := rfl
theorem cd_168_2 : mm_Cd 168 2 = kb_168_2 := rfl
theorem cd_168_3 : mm_Cd 168 3 = kb_168_3 := rfl
theorem cd_168_4 : mm_Cd 168 4 = kb_168_4 := rfl
theorem ml_168 : mm_Ml 168 = 4 := rfl
theorem nf_168 : mm_nf 168 = (4, 1, 12) := rfl
theorem cd_169_0 : mm_Cd 169 0 = kb_169_0 := rfl
theorem cd_169_1 : mm_Cd 169 1 = kb_169_1 := rfl
theorem cd_169_2 : mm_Cd 169 2 = kb_169_2 := rfl
theorem ml_169 : mm_Ml 169 = 2 := rfl
theorem nf_169 : mm_nf 169 = (2, 1, 12) := rfl
theorem cd_170_0 : mm_Cd 170 0 = kb_170_0 := rfl
theorem cd_170_1 : mm_Cd 170 1 = kb_170_1 := rfl
theorem cd_170_2 : mm_Cd 170 2 = kb_170_2 := rfl
theorem cd_170_3 : mm_Cd 170 3 = kb_170_3 := rfl
theorem cd_170_4 : mm_Cd 170 4 = kb_170_4 := rfl
theorem cd_170_5 : mm_Cd 170 5 = kb_170_5 := rfl
theorem cd_170_6 : mm_Cd 170 6 = kb_170_6 := rfl
theorem cd_170_7 : mm_Cd 170 7 = kb_170_7 := rfl
theorem ml_170 : mm_Ml 170 = 6 := rfl
theorem nf_170 : mm_nf 170 = (4, 1, 12) := rfl
theorem cd_171_0 : mm_Cd 171 0 = kb_171_0 := rfl
theorem cd_171_1 : mm_Cd 171 1 = kb_171_1 := rfl
theorem cd_171_2 : mm_Cd 171 2 = kb_171_2 := rfl
theorem cd_171_3 : mm_Cd 171 3 = kb_171_3 := rfl
theorem cd_171_4 : mm_Cd 171 4 = kb_171_4 := rfl
theorem ml_171 : mm_Ml 171 = 5 := rfl
theorem nf_171 : mm_nf 171 = (5, 1, 12) := rfl
theorem cd_172_0 : mm_Cd 172 0 = kb_172_0 := rfl
theorem ml_172 : mm_Ml 172 = 2 := rfl
theorem nf_172 : mm_nf 172 = (1, 1, 12) := rfl
theorem cd_173_0 : mm_Cd 173 0 = kb_173_0 := rfl
theorem ml_173 : mm_Ml 173 = 3 := rfl
theorem nf_173 : mm_nf 173 = (3, 1, 12) := rfl
theorem cd_174_0 : mm_Cd 174 0 = kb_174_0 := rfl
theorem cd_174_1 : mm_Cd 174 1 = kb_174_1 := rfl
theorem cd_174_2 : mm_Cd 174 2 = kb_174_2 := rfl
theorem cd_174_3 : mm_Cd 174 3 = kb_174_3 := rfl
theorem cd_174_4 : mm_Cd 174 4 = kb_174_4 := rfl
theorem cd_174_5 : mm_Cd 174 5 = kb_174_5 := rfl
theorem cd_174_6 : mm_Cd 174 6 = kb_174_6 := rfl
theorem cd_174_7 : mm_Cd 174 7 = kb_174_7 := rfl
theorem cd_174_8 : mm_Cd 174 8 = kb_174_8 := rfl
theorem cd_174_9 : mm_Cd 174 9 = kb_174_9 := rfl
theorem cd_174_10 : mm_Cd 174 10 = kb_174_10 := rfl
theorem cd_174_11 : mm_Cd 174 11 = kb_174_11 := rfl
theorem cd_174_12 : mm_Cd 174 12 = kb_174_12 := rfl
theorem cd_174_13 : mm_Cd 174 13 = kb_174_13 := rfl
theorem cd_174_14 : mm_Cd 174 14 = kb_174_14 := rfl
theorem cd_174_15 : mm_Cd 174 15 = kb_174_15 := rfl
theorem ml_174 : mm_Ml 174 = 6 := rfl
theorem nf_174 : mm_nf 174 = (2, 1, 12) := rfl
theorem cd_175_0 : mm_Cd 175 0 = kb_175_0 := rfl
theorem cd_175_1 : mm_Cd 175 1 = kb_175_1 := rfl
theorem cd_175_2 : mm_Cd 175 2 = kb_175_2 := rfl
theorem cd_175_3 : mm_Cd 175 3 = kb_175_3 := rfl
theorem cd_175_4 : mm_Cd 175 4 = kb_175_4 := rfl
theorem cd_175_5 : mm_Cd 175 5 = kb_175_5 := rfl
theorem cd_175_6 : mm_Cd 175 6 = kb_175_6 := rfl
theorem ml_175 : mm_Ml 175 = 4 := rfl
theorem nf_175 : mm_nf 175 = (3, 1, 12) := rfl
theorem cd_176_0 : mm_Cd 176 0 = kb_176_0 := rfl
theorem cd_176_1 : mm_Cd 176 1 = kb_176_1 := rfl
theorem cd_176_2 : mm_Cd 176 2 = kb_176_2 := rfl
theorem cd_176_3 : mm_Cd 176 3 = kb_176_3 := rfl
theorem cd_176_4 : mm_Cd 176 4 = kb_176_4 := rfl
theorem cd_176_5 : mm_Cd 176 5 = kb_176_5 := rfl
theorem cd_176_6 : mm_Cd 176 6 = kb_176_6 := rfl
theorem cd_176_7 : mm_Cd 176 7 = kb_176_7 := rfl
theorem cd_176_8 : mm_Cd 176 8 = kb_176_8 := rfl
theorem cd_176_9 : mm_Cd 176 9 = kb_176_9 := rfl
theorem cd_176_10 : mm_Cd 176 10 = kb_176_10 := rfl
theorem cd_176_11 : mm_Cd 176 11 = kb_176_11 := rfl
theorem ml_176 : mm_Ml 176 = 7 := rfl
theorem nf_176 : mm_nf 176 = (3, 1, 12) := rfl
theorem cd_177_0 : mm_Cd 177 0 = kb_177_0 := rfl
theorem cd_177_1 : mm_Cd 177 1 = kb_177_1 := rfl
theorem cd_177_2 : mm_Cd 177 2 = kb_177_2 := rfl
theorem cd_177_3 : mm_Cd 177 3 = kb_177_3 := rfl
theorem cd_177_4 : mm_Cd 177 4 = kb_177_4 := rfl
theorem cd_177_5 : mm_Cd 177 5 = kb_177_5 := rfl
theorem cd_177_6 : mm_Cd 177 6 = kb_177_6 := rfl
theorem cd_177_7 : mm_Cd 177 7 = kb_177_7 := rfl
theorem cd_177_8 : mm_Cd 177 8 = kb_177_8 := rfl
theorem cd_177_9 : mm_Cd 177 9 = kb_177_9 := rfl
theorem cd_177_10 : mm_Cd 177 10 = kb_177_10 := rfl
theorem ml_177 : mm_Ml 177 = 7 := rfl
theorem nf_177 : mm_nf 177 = (2, 1, 12) := rfl
theorem cd_178_0 : mm_Cd 178 0 = kb_178_0 := rfl
theorem cd_178_1 : mm_Cd 178 1 = kb_178_1 := rfl
theorem cd_178_2 : mm_Cd 178 2 = kb_178_2 := rfl
theorem cd_178_3 : mm_Cd 178 3 = kb_178_3 := rfl
theorem cd_178_4 : mm_Cd 178 4 = kb_178_4 := rfl
theorem cd_178_5 : mm_Cd 178 5 = kb_178_5 := rfl
theorem ml_178 : mm_Ml 178 = 3 := rfl
theorem nf_178 : mm_nf 178 = (2, 1, 12) := rfl
theorem cd_179_0 : mm_Cd 179 0 = kb_179_0 := rfl
theorem cd_179_1 : mm_Cd 179 1 = kb_179_1 := rfl
theorem cd_179_2 : mm_Cd 179 2 = kb_179_2 := rfl
theorem cd_179_3 : mm_Cd 179 3 = kb_179_3 := rfl
theorem cd_179_4 : mm_Cd 179 4 = kb_179_4 := rfl
theorem cd_179_5 : mm_Cd 179 5 = kb_179_5 := rfl
theorem cd_179_6 : mm_Cd 179 6 = kb_179_6 := rfl
theorem ml_179 : mm_Ml 179 = 3 := rfl
theorem nf_179 : mm_nf 179 = (2, 1, 12) := rfl
theorem cd_180_0 : mm_Cd 180 0 = kb_180_0 := rfl
theorem cd_180_1 : mm_Cd 180 1 = kb_180_1 := rfl
theorem cd_180_2 : mm_Cd 180 2 = kb_180_2 := rfl
theorem cd_180_3 : mm_Cd 180 3 = kb_180_3 := rfl
theorem cd_180_4 : mm_Cd 180 4 = kb_180_4 := rfl
theorem cd_180_5 : mm_Cd 180 5 = kb_180_5 := rfl
theorem cd_180_6 : mm_Cd 180 6 = kb_180_6 := rfl
theorem cd_180_7 : mm_Cd 180 7 = kb_180_7 := rfl
theorem cd_180_8 : mm_Cd 180 8 = kb_180_8 := rfl
theorem cd_180_9 : mm_Cd 180 9 = kb_180_9 := rfl
theorem cd_180_10 : mm_Cd 180 10 = kb_180_10 := rfl
theorem cd_180_11 : mm_Cd 180 11 = kb_180_11 := rfl
theorem cd_180_12 : mm_Cd 180 12 = kb_180_12 := rfl
theorem cd_180_13 : mm_Cd 180 13 = kb_180_13 := rfl
theorem cd_180_14 : mm_Cd 180 14 = kb_180_14 := rfl
theorem cd_180_15 : mm_Cd 180 15 = kb_180_15 := rfl
theorem cd_180_16 : mm_Cd 180 16 = kb_180_16 := rfl
theorem cd_180_17 : mm_Cd 180 17 = kb_180_17 := rfl
theorem cd_180_18 : mm_Cd 180 18 = kb_180_18 := rfl
theorem cd_180_19 : mm_Cd 180 19 = kb_180_19 := rfl
theorem cd_180_20 : mm_Cd 180 20 = kb_180_20 := rfl
theorem cd_180_21 : mm_Cd 180 21 = kb_180_21 := rfl
theorem cd_180_22 : mm_Cd 180 22 = kb_180_22 := rfl
theorem cd_180_23 : mm_Cd 180 23 = kb_180_23 := rfl
theorem cd_180_24 : mm_Cd 180 24 = kb_180_24 := rfl
theorem cd_180_25 : mm_Cd 180 25 = kb_180_25 := rfl
theorem cd_180_26 : mm_Cd 180 26 = kb_180_26 := rfl
theorem cd_180_27 : mm_Cd 180 27 = kb_180_27 := rfl
theorem cd_180_28 : mm_Cd 180 28 = kb_180_28 := rfl
theorem cd_180_29 : mm_Cd 180 29 = kb_180_29 := rfl
theorem cd_180_30 : mm_Cd 180 30 = kb_180_30 := rfl
theorem cd_180_31 : mm_Cd 180 31 = kb_180_31 := rfl
theorem cd_180_32 : mm_Cd 180 32 = kb_180_32 := rfl
theorem cd_180_33 : mm_Cd 180 33 = kb_180_33 := rfl
theorem cd_180_34 : mm_Cd 180 34 = kb_180_34 := rfl
theorem cd_180_35 : mm_Cd 180 35 = kb_180_35 := rfl
theorem cd_180_36 : mm_Cd 180 36 = kb_180_36 := rfl
theorem cd_180_37 : mm_Cd 180 37 = kb_180_37 := rfl
theorem cd_180_38 : mm_Cd 180 38 = kb_180_38 := rfl
theorem cd_180_39 : mm_Cd 180 39 = kb_180_39 := rfl
theorem cd_180_40 : mm_Cd 180 40 = kb_180_40 := rfl
theorem cd_180_41 : mm_Cd 180 41 = kb_180_41 := rfl
theorem cd_180_42 : mm_Cd 180 42 = kb_180_42 := rfl
theorem cd_180_43 : mm_Cd 180 43 = kb_180_43 := rfl
theorem cd_180_44 : mm_Cd 180 44 = kb_180_44 := rfl
theorem cd_180_45 : mm_Cd 180 45 = kb_180_45 := rfl
theorem cd_180_46 : mm_Cd 180 46 = kb_180_46 := rfl
theorem cd_180_47 : mm_Cd 180 47 = kb_180_47 := rfl
theorem cd_180_48 : mm_Cd 180 48 = kb_180_48 := rfl
theorem cd_180_49 : mm_Cd 180 49 = kb_180_49 := rfl
theorem cd_180_50 : mm_Cd 180 50 = kb_180_50 := rfl
theorem cd_180_51 : mm_Cd 180 51 = kb_180_51 := rfl
theorem cd_180_52 : mm_Cd 180 52 = kb_180_52 := rfl
theorem cd_180_53 : mm_Cd 180 53 = kb_180_53 := rfl
theorem cd_180_54 : mm_Cd 180 54 = kb_180_54 := rfl
theorem cd_180_55 : mm_Cd 180 55 = kb_180_55 := rfl
theorem cd_180_56 : mm_Cd 180 56 = kb_180_56 := rfl
theorem cd_180_57 : mm_Cd 180 57 = kb_180_57 := rfl
theorem cd_180_58 : mm_Cd 180 58 = kb_180_58 := rfl
theorem cd_180_59 : mm_Cd 180 59 = kb_180_59 := rfl
theorem cd_180_60 : mm_Cd 180 60 = kb_180_60 := rfl
theorem cd_180_61 : mm_Cd 180 61 = kb_180_61 := rfl
theorem cd_180_62 : mm_Cd 180 62 = kb_180_62 := rfl
theorem cd_180_63 : mm_Cd 180 63 = kb_180_63 := rfl
theorem cd_180_64 : mm_Cd 180 64 = kb_180_64 := rfl
theorem cd_180_65 : mm_Cd 180 65 = kb_180_65 := rfl
theorem cd_180_66 : mm_Cd 180 66 = kb_180_66 := rfl
theorem cd_180_67 : mm_Cd 180 67 = kb_180_67 := rfl
theorem cd_180_68 : mm_Cd 180 68 = kb_180_68 := rfl
theorem cd_180_69 : mm_Cd 180 69 = kb_180_69 := rfl
theorem cd_180_70 : mm_Cd 180 70 = kb_180_70 := rfl
theorem cd_180_71 : mm_Cd 180 71 = kb_180_71 := rfl
theorem cd_180_72 : mm_Cd 180 72 = kb_180_72 := rfl
theorem cd_180_73 : mm_Cd 180 73 = kb_180_73 := rfl
theorem cd_180_74 : mm_Cd 180 74 = kb_180_74 := rfl
theorem cd_180_75 : mm_Cd 180 75 = kb_180_75 := rfl
theorem cd_180_76 : mm_Cd 180 76 = kb_180_76 := rfl
theorem cd_180_77 : mm_Cd 180 77 = kb_180_77 := rfl
theorem cd_180_78 : mm_Cd 180 78 = kb_180_78 := rfl
theorem cd_180_79 : mm_Cd 180 79 = kb_180_79 := rfl
theorem cd_180_80 : mm_Cd 180 80 = kb_180_80 := rfl
theorem cd_180_81 : mm_Cd 180 81 = kb_180_81 := rfl
theorem cd_180_82 : mm_Cd 180 82 = kb_180_82 := rfl
theorem ml_180 : mm_Ml 180 = 4 := rfl
theorem nf_180 : mm_nf 180 = (2, 1, 12) := rfl
theorem cd_181_0 : mm_Cd 181 0 = kb_181_0 := rfl
theorem cd_181_1 : mm_Cd 181 1 = kb_181_1 := rfl
theorem cd_181_2 : mm_Cd 181 2 = kb_181_2 := rfl
theorem cd_181_3 : mm_Cd 181 3 = kb_181_3 := rfl
theorem ml_181 : mm_Ml 181 = 2 := rfl
theorem nf_181 : mm_nf 181 = (1, 2, 0) := rfl
theorem cd_182_0 : mm_Cd 182 0 = kb_182_0 := rfl
theorem ml_182 : mm_Ml 182 = 2 := rfl
theorem nf_182 : mm_nf 182 = (2, 1, 0) := rfl
theorem cd_183_0 : mm_Cd 183 0 = kb_183_0 := rfl
theorem cd_183_1 : mm_Cd 183 1 = kb_183_1 := rfl
theorem cd_183_2 : mm_Cd 183 2 = kb_183_2 := rfl
theorem ml_183 : mm_Ml 183 = 2 := rfl
theorem nf_183 : mm_nf 183 = (2, 1, 0) := rfl
theorem cd_184_0 : mm_Cd 184 0 = kb_184_0 := rfl
theorem ml_184 : mm_Ml 184 = 1 := rfl
theorem nf_184 : mm_nf 184 = (1, 1, 0) := rfl
theorem cd_185_0 : mm_Cd 185 0 = kb_185_0 := rfl
theorem ml_185 : mm_Ml 185 = 1 := rfl
theorem nf_185 : mm_nf 185 = (1, 2, 1) := rfl
theorem cd_186_0 : mm_Cd 186 0 = kb_186_0 := rfl
theorem ml_186 : mm_Ml 186 = 1 := rfl
theorem nf_186 : mm_nf 186 = (1, 1, 1) := rfl
theorem cd_187_0 : mm_Cd 187 0 = kb_187_0 := rfl
theorem ml_187 : mm_Ml 187 = 4 := rfl
theorem nf_187 : mm_nf 187 = (4, 1, 1) := rfl
theorem cd_188_0 : mm_Cd 188 0 = kb_188_0 := rfl
theorem ml_188 : mm_Ml 188 = 2 := rfl
theorem nf_188 : mm_nf 188 = (2, 1, 1) := rfl
theorem cd_189_0 : mm_Cd 189 0 = kb_189_0 := rfl
theorem ml_189 : mm_Ml 189 = 2 := rfl
theorem nf_189 : mm_nf 189 = (2, 1, 1) := rfl
theorem cd_190_0 : mm_Cd 190 0 = kb_190_0 := rfl
theorem cd_190_1 : mm_Cd 190 1 = kb_190_1 := rfl
theorem cd_190_2 : mm_Cd 190 2 = kb_190_2 := rfl
theorem ml_190 : mm_Ml 190 = 3 := rfl
theorem nf_190 : mm_nf 190 = (3, 1, 1) := rfl
theorem cd_191_0 : mm_Cd 191 0 = kb_191_0 := rfl
theorem cd_191_1 : mm_Cd 191 1 = kb_191_1 := rfl
theorem cd_191_2 : mm_Cd 191 2 = kb_191_2 := rfl
theorem cd_191_3 : mm_Cd 191 3 = kb_191_3 := rfl
theorem ml_191 : mm_Ml 191 = 2 := rfl
theorem nf_191 : mm_nf 191 = (2, 1, 1) := rfl
theorem cd_192_0 : mm_Cd 192 0 = kb_192_0 := rfl
theorem cd_192_1 : mm_Cd 192 1 = kb_192_1 := rfl
theorem cd_192_2 : mm_Cd 192 2 = kb_192_2 := rfl
theorem cd_192_3 : mm_Cd 192 3 = kb_192_3 := rfl
theorem cd_192_4 : mm_Cd 192 4 = kb_192_4 := rfl
theorem cd_192_5 : mm_Cd 192 5 = kb_192_5 := rfl
theorem cd_192_6 : mm_Cd 192 6 = kb_192_6 := rfl
theorem cd_192_7 : mm_Cd 192 7 = kb_192_7 := rfl
theorem cd_192_8 : mm_Cd 192 8 = kb_192_8 := rfl
theorem cd_192_9 : mm_Cd 192 9 = kb_192_9 := rfl
theorem cd_192_10 : mm_Cd 192 10 = kb_192_10 := rfl
theorem cd_192_11 : mm_Cd 192 11 = kb_192_11 := rfl
theorem cd_192_12 : mm_Cd 192 12 = kb_192_12 := rfl
theorem cd_192_13 : mm_Cd 192 13 = kb_192_13 := rfl
theorem cd_192_14 : mm_Cd 192 14 = kb_192_14 := rfl
theorem cd_192_15 : mm_Cd 192 15 = kb_192_15 := rfl
theorem cd_192_16 : mm_Cd 192 16 = kb_192_16 := rfl
theorem cd_192_17 : mm_Cd 192 17 = kb_192_17 := rfl
theorem cd_192_18 : mm_Cd 192 18 = kb_192_18 := rfl
theorem cd_192_19 : mm_Cd 192 19 = kb_192_19 := rfl
theorem cd_192_20 : mm_Cd 192 20 = kb_192_20 := rfl
theorem cd_192_21 : mm_Cd 192 21 = kb_192_21 := rfl
theorem cd_192_22 : mm_Cd 192 22 = kb_192_22 := rfl
theorem cd_192_23 : mm_Cd 192 23 = kb_192_23 := rfl
theorem cd_192_24 : mm_Cd 192 24 = kb_192_24 := rfl
theorem cd_192_25 : mm_Cd 192 25 = kb_192_25 := rfl
theorem cd_192_26 : mm_Cd 192 26 = kb_192_26 := rfl
theorem ml_192 : mm_Ml 192 = 9 := rfl
theorem nf_192 : mm_nf 192 = (4, 1, 1) := rfl
theorem cd_193_0 : mm_Cd 193 0 = kb_193_0 := rfl
theorem cd_193_1 : mm_Cd 193 1 = kb_193_1 := rfl
theorem cd_193_2 : mm_Cd 193 2 = kb_193_2 := rfl
theorem cd_193_3 : mm_Cd 193 3 = kb_193_3 := rfl
theorem cd_193_4 : mm_Cd 193 4 = kb_193_4 := rfl
theorem cd_193_5 : mm_Cd 193 5 = kb_193_5 := rfl
theorem cd_193_6 : mm_Cd 193 6 = kb_193_6 := rfl
theorem cd_193_7 : mm_Cd 193 7 = kb_193_7 := rfl
theorem cd_193_8 : mm_Cd 193 8 = kb_193_8 := rfl
theorem cd_193_9 : mm_Cd 193 9 = kb_193_9 := rfl
theorem cd_193_10 : mm_Cd 193 10 = kb_193_10 := rfl
theorem cd_193_11 : mm_Cd 193 11 = kb_193_11 := rfl
theorem ml_193 : mm_Ml 193 = 3 := rfl
theorem nf_193 : mm_nf 193 = (3, 0, 1) := rfl
theorem cd_194_0 : mm_Cd 194 0 = kb_194_0 := rfl
theorem ml_194 : mm_Ml 194 = 1 := rfl
theorem nf_194 : mm_nf 194 = (1, 2, 2) := rfl
theorem cd_195_0 : mm_Cd 195 0 = kb_195_0 := rfl
theorem cd_195_1 : mm_Cd 195 1 = kb_195_1 := rfl
theorem cd_195_2 : mm_Cd 195 2 = kb_195_2 := rfl
theorem cd_195_3 : mm_Cd 195 3 = kb_195_3 := rfl
theorem cd_195_4 : mm_Cd 195 4 = kb_195_4 := rfl
theorem cd_195_5 : mm_Cd 195 5 = kb_195_5 := rfl
theorem cd_195_6 : mm_Cd 195 6 = kb_195_6 := rfl
theorem cd_195_7 : mm_Cd 195 7 = kb_195_7 := rfl
theorem cd_195_8 : mm_Cd 195 8 = kb_195_8 := rfl
theorem cd_195_9 : mm_Cd 195 9 = kb_195_9 := rfl
theorem ml_195 : mm_Ml 195 = 5 := rfl
theorem nf_195 : mm_nf 195 = (3, 1, 2) := rfl
theorem cd_196_0 : mm_Cd 196 0 = kb_196_0 := rfl
theorem cd_196_1 : mm_Cd 196 1 = kb_196_1 := rfl
theorem cd_196_2 : mm_Cd 196 2 = kb_196_2 := rfl
theorem cd_196_3 : mm_Cd 196 3 = kb_196_3 := rfl
theorem cd_196_4 : mm_Cd 196 4 = kb_196_4 := rfl
theorem cd_196_5 : mm_Cd 196 5 = kb_196_5 := rfl
theorem cd_196_6 : mm_Cd 196 6 = kb_196_6 := rfl
theorem cd_196_7 : mm_Cd 196 7 = kb_196_7 := rfl
theorem cd_196_8 : mm_Cd 196 8 = kb_196_8 := rfl
theorem cd_196_9 : mm_Cd 196 9 = kb_196_9 := rfl
theorem cd_196_10 : mm_Cd 196 10 = kb_196_10 := rfl
theorem cd_196_11 : mm_Cd 196 11 = kb_196_11 := rfl
theorem cd_196_12 : mm_Cd 196 12 = kb_196_12 := rfl
theorem ml_196 : mm_Ml 196 = 8 := rfl
theorem nf_196 : mm_nf 196 = (3, 0, 2) := rfl
theorem cd_197_0 : mm_Cd 197 0 = kb_197_0 := rfl
theorem cd_197_1 : mm_Cd 197 1 = kb_197_1 := rfl
theorem cd_197_2 : mm_Cd 197 2 = kb_197_2 := rfl
theorem cd_197_3 : mm_Cd 197 3 = kb_197_3 := rfl
theorem cd_197_4 : mm_Cd 197 4 = kb_197_4 := rfl
theorem cd_197_5 : mm_Cd 197 5 = kb_197_5 := rfl
theorem cd_197_6 : mm_Cd 197 6 = kb_197_6 := rfl
theorem cd_197_7 : mm_Cd 197 7 = kb_197_7 := rfl
theorem cd_197_8 : mm_Cd 197 8 = kb_197_8 := rfl
theorem cd_197_9 : mm_Cd 197 9 = kb_197_9 := rfl
theorem cd_197_10 : mm_Cd 197 10 = kb_197_10 := rfl
theorem cd_197_11 : mm_Cd 197 11 = kb_197_11 := rfl
theorem ml_197 : mm_Ml 197 = 4 := rfl
theorem nf_197 : mm_nf 197 = (3, 1, 2) := rfl
theorem cd_198_0 : mm_Cd 198 0 = kb_198_0 := rfl
theorem cd_198_1 : mm_Cd 198 1 = kb_198_1 := rfl
theorem cd_198_2 : mm_Cd 198 2 = kb_198_2 := rfl
theorem cd_198_3 : mm_Cd 198 3 = kb_198_3 := rfl
theorem cd_198_4 : mm_Cd 198 4 = kb_198_4 := rfl
theorem ml_198 : mm_Ml 198 = 2 := rfl
theorem nf_198 : mm_nf 198 = (2, 1, 2) := rfl
theorem cd_199_0 : mm_Cd 199 0 = kb_199_0 := rfl
theorem ml_199 : mm_Ml 199 = 1 := rfl
theorem nf_199 : mm_nf 199 = (1, 2, 3) := rfl
theorem cd_200_0 : mm_Cd 200 0 = kb_200_0 := rfl
theorem cd_200_1 : mm_Cd 200 1 = kb_200_1 := rfl
theorem cd_200_2 : mm_Cd 200 2 = kb_200_2 := rfl
theorem cd_200_3 : mm_Cd 200 3 = kb_200_3 := rfl
theorem ml_200 : mm_Ml 200 = 2 := rfl
theorem nf_200 : mm_nf 200 = (1, 1, 3) := rfl
theorem cd_201_0 : mm_Cd 201 0 = kb_201_0 := rfl
theorem cd_201_1 : mm_Cd 201 1 = kb_201_1 := rfl
theorem cd_201_2 : mm_Cd 201 2 = kb_201_2 := rfl
theorem cd_201_3 : mm_Cd 201 3 = kb_201_3 := rfl
theorem cd_201_4 : mm_Cd 201 4 = kb_201_4 := rfl
theorem cd_201_5 : mm_Cd 201 5 = kb_201_5 := rfl
theorem cd_201_6 : mm_Cd 201 6 = kb_201_6 := rfl
theorem cd_201_7 : mm_Cd 201 7 = kb_201_7 := rfl
theorem cd_201_8 : mm_Cd 201 8 = kb_201_8 := rfl
theorem cd_201_9 : mm_Cd 201 9 = kb_201_9 := rfl
theorem cd_201_10 : mm_Cd 201 10 = kb_201_10 := rfl
theorem cd_201_11 : mm_Cd 201 11 = kb_201_11 := rfl
theorem cd_201_12 : mm_Cd 201 12 = kb_201_12 := rfl
theorem ml_201 : mm_Ml 201 = 3 := rfl
theorem nf_201 : mm_nf 201 = (2, 1, 3) := rfl
theorem cd_202_0 : mm_Cd 202 0 = kb_202_0 := rfl
theorem cd_202_1 : mm_Cd 202 1 = kb_202_1 := rfl
theorem cd_202_2 : mm_Cd 202 2 = kb_202_2 := rfl
theorem cd_202_3 : mm_Cd 202 3 = kb_202_3 := rfl
theorem cd_202_4 : mm_Cd 202 4 = kb_202_4 := rfl
theorem ml_202 : mm_Ml 202 = 3 := rfl
theorem nf_202 : mm_nf 202 = (2, 1, 3) := rfl
theorem cd_203_0 : mm_Cd 203 0 = kb_203_0 := rfl
theorem cd_203_1 : mm_Cd 203 1 = kb_203_1 := rfl
theorem cd_203_2 : mm_Cd 203 2 = kb_203_2 := rfl
theorem cd_203_3 : mm_Cd 203 3 = kb_203_3 := rfl
theorem cd_203_4 : mm_Cd 203 4 = kb_203_4 := rfl
theorem cd_203_5 : mm_Cd 203 5 = kb_203_5 := rfl
theorem ml_203 : mm_Ml 203 = 4 := rfl
theorem nf_203 : mm_nf 203 = (2, 1, 3) := rfl
theorem cd_204_0 : mm_Cd 204 0 = kb_204_0 := rfl
theorem cd_204_1 : mm_Cd 204 1 = kb_204_1 := rfl
theorem cd_204_2 : mm_Cd 204 2 = kb_204_2 := rfl
theorem cd_204_3 : mm_Cd 204 3 = kb_204_3 := rfl
theorem cd_204_4 : mm_Cd 204 4 = kb_204_4 := rfl
theorem cd_204_5 : mm_Cd 204 5 = kb_204_5 := rfl
theorem ml_204 : mm_Ml 204 = 4 := rfl
theorem nf_204 : mm_nf 204 = (2, 1, 3) := rfl
theorem cd_205_0 : mm_Cd 205 0 = kb_205_0 := rfl
theorem cd_205_1 : mm_Cd 205 1 = kb_205_1 := rfl
theorem cd_205_2 : mm_Cd 205 2 = kb_205_2 := rfl
theorem cd_205_3 : mm_Cd 205 3 = kb_205_3 := rfl
theorem cd_205_4 : mm_Cd 205 4 = kb_205_4 := rfl
theorem cd_205_5 : mm_Cd 205 5 = kb_205_5 := rfl
theorem cd_205_6 : mm_Cd 205 6 = kb_205_6 := rfl
theorem cd_205_7 : mm_Cd 205 7 = kb_205_7 := rfl
theorem ml_205 : mm_Ml 205 = 7 := rfl
theorem nf_205 : mm_nf 205 = (5, 1, 3) := rfl
theorem cd_206_0 : mm_Cd 206 0 = kb_206_0 := rfl
theorem cd_206_1 : mm_Cd 206 1 = kb_206_1 := rfl
theorem cd_206_2 : mm_Cd 206 2 = kb_206_2 := rfl
theorem cd_206_3 : mm_Cd 206 3 = kb_206_3 := rfl
theorem ml_206 : mm_Ml 206 = 5 := rfl
theorem nf_206 : mm_nf 206 = (4, 1, 3) := rfl
theorem cd_207_0 : mm_Cd 207 0 = kb_207_0 := rfl
theorem ml_207 : mm_Ml 207 = 1 := rfl
theorem nf_207 : mm_nf 207 = (1, 2, 4) := rfl
theorem cd_208_0 : mm_Cd 208 0 = kb_208_0 := rfl
theorem cd_208_1 : mm_Cd 208 1 = kb_208_1 := rfl
theorem cd_208_2 : mm_Cd 208 2 = kb_208_2 := rfl
theorem cd_208_3 : mm_Cd 208 3 = kb_208_3 := rfl
theorem cd_208_4 : mm_Cd 208 4 = kb_208_4 := rfl
theorem cd_208_5 : mm_Cd 208 5 = kb_208_5 := rfl
theorem cd_208_6 : mm_Cd 208 6 = kb_208_6 := rfl
theorem cd_208_7 : mm_Cd 208 7 = kb_208_7 := rfl
theorem cd_208_8 : mm_Cd 208 8 = kb_208_8 := rfl
theorem cd_208_9 : mm_Cd 208 9 = kb_208_9 := rfl
theorem cd_208_10 : mm_Cd 208 10 = kb_208_10 := rfl
theorem cd_208_11 : mm_Cd 208 11 = kb_208_11 := rfl
theorem cd_208_12 : mm_Cd 208 12 = kb_208_12 := rfl
theorem cd_208_13 : mm_Cd 208 13 = kb_208_13 := rfl
theorem cd_208_14 : mm_Cd 208 14 = kb_208_14 := rfl
theorem cd_208_15 : mm_Cd 208 15 = kb_208_15 := rfl
theorem cd_208_16 : mm_Cd 208 16 = kb_208_16 := rfl
theorem cd_208_17 : mm_Cd 208 17 = kb_208_17 := rfl
theorem cd_208_18 : mm_Cd 208 18 = kb_208_18 := rfl
theorem cd_208_19 : mm_Cd 208 19 = kb_208_19 := rfl
theorem cd_208_20 : mm_Cd 208 20 = kb_208_20 := rfl
theorem cd_208_21 : mm_Cd 208 21 = kb_208_21 := rfl
theorem cd_208_22 : mm_Cd 208 22 = kb_208_22 := rfl
theorem cd_208_23 : mm_Cd 208 23 = kb_208_23 := rfl
theorem cd_208_24 : mm_Cd 208 24 = kb_208_24 := rfl
theorem ml_208 : mm_Ml 208 = 5 := rfl
theorem nf_208 : mm_nf 208 = (3, 1, 4) := rfl
theorem cd_209_0 : mm_Cd 209 0 = kb_209_0 := rfl
theorem cd_209_1 : mm_Cd 209 1 = kb_209_1 := rfl
theorem cd_209_2 : mm_Cd 209 2 = kb_209_2 := rfl
theorem cd_209_3 : mm_Cd 209 3 = kb_209_3 := rfl
theorem cd_209_4 : mm_Cd 209 4 = kb_209_4 := rfl
theorem cd_209_5 : mm_Cd 209 5 = kb_209_5 := rfl
theorem ml_209 : mm_Ml 209 = 2 := rfl
theorem nf_209 : mm_nf 209 = (2, 1, 4) := rfl
theorem cd_210_0 : mm_Cd 210 0 = kb_210_0 := rfl
theorem cd_210_1 : mm_Cd 210 1 = kb_210_1 := rfl
theorem cd_210_2 : mm_Cd 210 2 = kb_210_2 := rfl
theorem cd_210_3 : mm_Cd 210 3 = kb_210_3 := rfl
theorem cd_210_4 : mm_Cd 210 4 = kb_210_4 := rfl
theorem cd_210_5 : mm_Cd 210 5 = kb_210_5 := rfl
theorem cd_210_6 : mm_Cd 210 6 = kb_210_6 := rfl
theorem cd_210_7 : mm_Cd 210 7 = kb_210_7 := rfl
theorem ml_210 : mm_Ml 210 = 2 := rfl
theorem nf_210 : mm_nf 210 = (2, 1, 4) := rfl
theorem cd_211_0 : mm_Cd 211 0 = kb_211_0 := rfl
theorem cd_211_1 : mm_Cd 211 1 = kb_211_1 := rfl
theorem cd_211_2 : mm_Cd 211 2 = kb_211_2 := rfl
theorem cd_211_3 : mm_Cd 211 3 = kb_211_3 := rfl
theorem cd_211_4 : mm_Cd 211 4 = kb_211_4 := rfl
theorem cd_211_5 : mm_Cd 211 5 = kb_211_5 := rfl
theorem cd_211_6 : mm_Cd 211 6 = kb_211_6 := rfl
theorem cd_211_7 : mm_Cd 211 7 = kb_211_7 := rfl
theorem cd_211_8 : mm_Cd 211 8 = kb_211_8 := rfl
theorem cd_211_9 : mm_Cd 211 9 = kb_211_9 := rfl
theorem cd_211_10 : mm_Cd 211 10 = kb_211_10 := rfl
theorem cd_211_11 : mm_Cd 211 11 = kb_211_11 := rfl
theorem cd_211_12 : mm_Cd 211 12 = kb_211_12 := rfl
theorem cd_211_13 : mm_Cd 211 13 = kb_211_13 := rfl
theorem cd_211_14 : mm_Cd 211 14 = kb_211_14 := rfl
theorem ml_211 : mm_Ml 211 = 6 := rfl
theorem nf_211 : mm_nf 211 = (2, 1, 4) := rfl
theorem cd_212_0 : mm_Cd 212 0 = kb_212_0 := rfl
theorem cd_212_1 : mm_Cd 212 1 = kb_212_1 := rfl
theorem cd_212_2 : mm_Cd 212 2 = kb_212_2 := rfl
theorem cd_212_3 : mm_Cd 212 3 = kb_212_3 := rfl
theorem cd_212_4 : mm_Cd 212 4 = kb_212_4 := rfl
theorem cd_212_5 : mm_Cd 212 5 = kb_212_5 := rfl
theorem cd_212_6 : mm_Cd 212 6 = kb_212_6 := rfl
theorem cd_212_7 : mm_Cd 212 7 = kb_212_7 := rfl
theorem cd_212_8 : mm_Cd 212 8 = kb_212_8 := rfl
theorem cd_212_9 : mm_Cd 212 9 = kb_212_9 := rfl
theorem cd_212_10 : mm_Cd 212 10 = kb_212_10 := rfl
theorem cd_212_11 : mm_Cd 212 11 = kb_212_11 := rfl
theorem cd_212_12 : mm_Cd 212 12 = kb_212_12 := rfl
theorem ml_212 : mm_Ml 212 = 6 := rfl
theorem nf_212 : mm_nf 212 = (2, 1, 4) := rfl
theorem cd_213_0 : mm_Cd 213 0 = kb_213_0 := rfl
theorem cd_213_1 : mm_Cd 213 1 = kb_213_1 := rfl
theorem cd_213_2 : mm_Cd 213 2 = kb_213_2 := rfl
theorem cd_213_3 : mm_Cd 213 3 = kb_213_3 := rfl
theorem ml_213 : mm_Ml 213 = 2 := rfl
theorem nf_213 : mm_nf 213 = (2, 1, 4) := rfl
theorem cd_214_0 : mm_Cd 214 0 = kb_214_0 := rfl
theorem cd_214_1 : mm_Cd 214 1 = kb_214_1 := rfl
theorem cd_214_2 : mm_Cd 214 2 = kb_214_2 := rfl
theorem cd_214_3 : mm_Cd 214 3 = kb_214_3 := rfl
theorem cd_214_4 : mm_Cd 214 4 = kb_214_4 := rfl
theorem cd_214_5 : mm_Cd 214 5 = kb_214_5 := rfl
theorem cd_214_6 : mm_Cd 214 6 = kb_214_6 := rfl
theorem cd_214_7 : mm_Cd 214 7 = kb_214_7 := rfl
theorem cd_214_8 : mm_Cd 214 8 = kb_214_8 := rfl
theorem cd_214_9 : mm_Cd 214 9 = kb_214_9 := rfl
theorem cd_214_10 : mm_Cd 214 10 = kb_214_10 := rfl
theorem cd_214_11 : mm_Cd 214 11 = kb_214_11 := rfl
theorem cd_214_12 : mm_Cd 214 12 = kb_214_12 := rfl
theorem cd_214_13 : mm_Cd 214 13 = kb_214_13 := rfl
theorem cd_214_14 : mm_Cd 214 14 = kb_214_14 := rfl
theorem cd_214_15 : mm_Cd 214 15 = kb_214_15 := rfl
theorem cd_214_16 : mm_Cd 214 16 = kb_214_16 := rfl
theorem ml_214 : mm_Ml 214 = 5 := rfl
theorem nf_214 : mm_nf 214 = (2, 1, 4) := rfl
theorem cd_215_0 : mm_Cd 215 0 = kb_215_0 := rfl
theorem cd_215_1 : mm_Cd 215 1 = kb_215_1 := rfl
theorem cd_215_2 : mm_Cd 215 2 = kb_215_2 := rfl
theorem cd_215_3 : mm_Cd 215 3 = kb_215_3 := rfl
theorem cd_215_4 : mm_Cd 215 4 = kb_215_4 := rfl
theorem cd_215_5 : mm_Cd 215 5 = kb_215_5 := rfl
theorem cd_215_6 : mm_Cd 215 6 = kb_215_6 := rfl
theorem cd_215_7 : mm_Cd 215 7 = kb_215_7 := rfl
theorem cd_215_8 : mm_Cd 215 8 = kb_215_8 := rfl
theorem cd_215_9 : mm_Cd 215 9 = kb_215_9 := rfl
theorem ml_215 : mm_Ml 215 = 3 := rfl
theorem nf_215 : mm_nf 215 = (2, 1, 4) := rfl
theorem cd_216_0 : mm_Cd 216 0 = kb_216_0 := rfl
theorem cd_216_1 : mm_Cd 216 1 = kb_216_1 := rfl
theorem cd_216_2 : mm_Cd 216 2 = kb_216_2 := rfl
theorem cd_216_3 : mm_Cd 216 3 = kb_216_3 := rfl
theorem cd_216_4 : mm_Cd 216 4 = kb_216_4 := rfl
theorem cd_216_5 : mm_Cd 216 5 = kb_216_5 := rfl
theorem cd_216_6 : mm_Cd 216 6 = kb_216_6 := rfl
theorem cd_216_7 : mm_Cd 216 7 = kb_216_7 := rfl
theorem cd_216_8 : mm_Cd 216 8 = kb_216_8 := rfl
theorem cd_216_9 : mm_Cd 216 9 = kb_216_9 := rfl
theorem cd_216_10 : mm_Cd 216 10 = kb_216_10 := rfl
theorem cd_216_11 : mm_Cd 216 11 = kb_216_11 := rfl
theorem cd_216_12 : mm_Cd 216 12 = kb_216_12 := rfl
theorem cd_216_13 : mm_Cd 216 13 = kb_216_13 := rfl
theorem ml_216 : mm_Ml 216 = 5 := rfl
theorem nf_216 : mm_nf 216 = (3, 1, 4) := rfl
theorem cd_217_0 : mm_Cd 217 0 = kb_217_0 := rfl
theorem cd_217_1 : mm_Cd 217 1 = kb_217_1 := rfl
theorem cd_217_2 : mm_Cd 217 2 = kb_217_2 := rfl
theorem cd_217_3 : mm_Cd 217 3 = kb_217_3 := rfl
theorem cd_217_4 : mm_Cd 217 4 = kb_217_4 := rfl
theorem cd_217_5 : mm_Cd 217 5 = kb_217_5 := rfl
theorem cd_217_6 : mm_Cd 217 6 = kb_217_6 := rfl
theorem cd_217_7 : mm_Cd 217 7 = kb_217_7 := rfl
theorem cd_217_8 : mm_Cd 217 8 = kb_217_8 := rfl
theorem cd_217_9 : mm_Cd 217 9 = kb_217_9 := rfl
theorem cd_217_10 : mm_Cd 217 10 = kb_217_10 := rfl
theorem cd_217_11 : mm_Cd 217 11 = kb_217_11 := rfl
theorem cd_217_12 : mm_Cd 217 12 = kb_217_12 := rfl
theorem cd_217_13 : mm_Cd 217 13 = kb_217_13 := rfl
theorem ml_217 : mm_Ml 217 = 5 := rfl
theorem nf_217 : mm_nf 217 = (3, 1, 4) := rfl
theorem cd_218_0 : mm_Cd 218 0 = kb_218_0 := rfl
theorem cd_218_1 : mm_Cd 218 1 = kb_218_1 := rfl
theorem cd_218_2 : mm_Cd 218 2 = kb_218_2 := rfl
theorem cd_218_3 : mm_Cd 218 3 = kb_218_3 := rfl
theorem cd_218_4 : mm_Cd 218 4 = kb_218_4 := rfl
theorem cd_218_5 : mm_Cd 218 5 = kb_218_5 := rfl
theorem cd_218_6 : mm_Cd 218 6 = kb_218_6 := rfl
theorem cd_218_7 : mm_Cd 218 7 = kb_218_7 := rfl
theorem cd_218_8 : mm_Cd 218 8 = kb_218_8 := rfl
theorem cd_218_9 : mm_Cd 218 9 = kb_218_9 := rfl
theorem cd_218_10 : mm_Cd 218 10 = kb_218_10 := rfl
theorem cd_218_11 : mm_Cd 218 11 = kb_218_11 := rfl
theorem cd_218_12 : mm_Cd 218 12 = kb_218_12 := rfl
theorem cd_218_13 : mm_Cd 218 13 = kb_218_13 := rfl
theorem cd_218_14 : mm_Cd 218 14 = kb_218_14 := rfl
theorem ml_218 : mm_Ml 218 = 4 := rfl
theorem nf_218 : mm_nf 218 = (3, 1, 4) := rfl
theorem cd_219_0 : mm_Cd 219 0 = kb_219_0 := rfl
theorem cd_219_1 : mm_Cd 219 1 = kb_219_1 := rfl
theorem cd_219_2 : mm_Cd 219 2 = kb_219_2 := rfl
theorem cd_219_3 : mm_Cd 219 3 = kb_219_3 := rfl
theorem ml_219 : mm_Ml 219 = 2 := rfl
theorem nf_219 : mm_nf 219 = (2, 1, 4) := rfl
theorem cd_220_0 : mm_Cd 220 0 = kb_220_0 := rfl
theorem cd_220_1 : mm_Cd 220 1 = kb_220_1 := rfl
theorem cd_220_2 : mm_Cd 220 2 = kb_220_2 := rfl
theorem cd_220_3 : mm_Cd 220 3 = kb_220_3 := rfl
theorem ml_220 : mm_Ml 220 = 2 := rfl
theorem nf_220 : mm_nf 220 = (2, 1, 4) := rfl
theorem cd_221_0 : mm_Cd 221 0 = kb_221_0 := rfl
theorem cd_221_1 : mm_Cd 221 1 = kb_221_1 := rfl
theorem cd_221_2 : mm_Cd 221 2 = kb_221_2 := rfl
theorem cd_221_3 : mm_Cd 221 3 = kb_221_3 := rfl
theorem ml_221 : mm_Ml 221 = 2 := rfl
theorem nf_221 : mm_nf 221 = (2, 1, 4) := rfl
theorem cd_222_0 : mm_Cd 222 0 = kb_222_0 := rfl
theorem cd_222_1 : mm_Cd 222 1 = kb_222_1 := rfl
theorem cd_222_2 : mm_Cd 222 2 = kb_222_2 := rfl
theorem cd_222_3 : mm_Cd 222 3 = kb_222_3 := rfl
theorem ml_222 : mm_Ml 222 = 1 := rfl
theorem nf_222 : mm_nf 222 = (1, 1, 4) := rfl
theorem cd_223_0 : mm_Cd 223 0 = kb_223_0 := rfl
theorem cd_223_1 : mm_Cd 223 1 = kb_223_1 := rfl
theorem cd_223_2 : mm_Cd 223 2 = kb_223_2 := rfl
theorem cd_223_3 : mm_Cd 223 3 = kb_223_3 := rfl
theorem ml_223 : mm_Ml 223 = 3 := rfl
theorem nf_223 : mm_nf 223 = (2, 1, 4) := rfl
theorem cd_224_0 : mm_Cd 224 0 = kb_224_0 := rfl
theorem cd_224_1 : mm_Cd 224 1 = kb_224_1 := rfl
theorem cd_224_2 : mm_Cd 224 2 = kb_224_2 := rfl
theorem cd_224_3 : mm_Cd 224 3 = kb_224_3 := rfl
theorem cd_224_4 : mm_Cd 224 4 = kb_224_4 := rfl
theorem cd_224_5 : mm_Cd 224 5 = kb_224_5 := rfl
theorem cd_224_6 : mm_Cd 224 6 = kb_224_6 := rfl
theorem ml_224 : mm_Ml 224 = 2 := rfl
theorem nf_224 : mm_nf 224 = (2, 1, 4) := rfl
theorem cd_225_0 : mm_Cd 225 0 = kb_225_0 := rfl
theorem ml_225 : mm_Ml 225 = 2 := rfl
theorem nf_225 : mm_nf 225 = (2, 1, 4) := rfl
theorem cd_226_0 : mm_Cd 226 0 = kb_226_0 := rfl
theorem cd_226_1 : mm_Cd 226 1 = kb_226_1 := rfl
theorem cd_226_2 : mm_Cd 226 2 = kb_226_2 := rfl
theorem ml_226 : mm_Ml 226 = 2 := rfl
theorem nf_226 : mm_nf 226 = (2, 1, 4) := rfl
theorem cd_227_0 : mm_Cd 227 0 = kb_227_0 := rfl
theorem ml_227 : mm_Ml 227 = 1 := rfl
theorem nf_227 : mm_nf 227 = (1, 1, 4) := rfl
theorem cd_228_0 : mm_Cd 228 0 = kb_228_0 := rfl
theorem ml_228 : mm_Ml 228 = 1 := rfl
theorem nf_228 : mm_nf 228 = (1, 1, 4) := rfl
theorem cd_229_0 : mm_Cd 229 0 = kb_229_0 := rfl
theorem cd_229_1 : mm_Cd 229 1 = kb_229_1 := rfl
theorem cd_229_2 : mm_Cd 229 2 = kb_229_2 := rfl
theorem cd_229_3 : mm_Cd 229 3 = kb_229_3 := rfl
theorem ml_229 : mm_Ml 229 = 1 := rfl
theorem nf_229 : mm_nf 229 = (1, 1, 4) := rfl
theorem cd_230_0 : mm_Cd 230 0 = kb_230_0 := rfl
theorem ml_230 : mm_Ml 230 = 1 := rfl
theorem nf_230 : mm_nf 230 = (1, 2, 5) := rfl
theorem cd_231_0 : mm_Cd 231 0 = kb_231_0 := rfl
theorem cd_231_1 : mm_Cd 231 1 = kb_231_1 := rfl
theorem cd_231_2 : mm_Cd 231 2 = kb_231_2 := rfl
theorem cd_231_3 : mm_Cd 231 3 = kb_231_3 := rfl
theorem cd_231_4 : mm_Cd 231 4 = kb_231_4 := rfl
theorem cd_231_5 : mm_Cd 231 5 = kb_231_5 := rfl
theorem cd_231_6 : mm_Cd 231 6 = kb_231_6 := rfl
theorem cd_231_7 : mm_Cd 231 7 = kb_231_7 := rfl
theorem cd_231_8 : mm_Cd 231 8 = kb_231_8 := rfl
theorem cd_231_9 : mm_Cd 231 9 = kb_231_9 := rfl
theorem ml_231 : mm_Ml 231 = 6 := rfl
theorem nf_231 : mm_nf 231 = (3, 0, 5) := rfl
theorem cd_232_0 : mm_Cd 232 0 = kb_232_0 := rfl
theorem ml_232 : mm_Ml 232 = 5 := rfl
theorem nf_232 : mm_nf 232 = (5, 1, 5) := rfl
theorem cd_233_0 : mm_Cd 233 0 = kb_233_0 := rfl
theorem cd_233_1 : mm_Cd 233 1 = kb_233_1 := rfl
theorem cd_233_2 : mm_Cd 233 2 = kb_233_2 := rfl
theorem cd_233_3 : mm_Cd 233 3 = kb_233_3 := rfl
theorem cd_233_4 : mm_Cd 233 4 = kb_233_4 := rfl
theorem cd_233_5 : mm_Cd 233 5 = kb_233_5 := rfl
theorem cd_233_6 : mm_Cd 233 6 = kb_233_6 := rfl
theorem cd_233_7 : mm_Cd 233 7 = kb_233_7 := rfl
theorem cd_233_8 : mm_Cd 233 8 = kb_233_8 := rfl
theorem cd_233_9 : mm_Cd 233 9 = kb_233_9 := rfl
theorem cd_233_10 : mm_Cd 233 10 = kb_233_10 := rfl
theorem cd_233_11 : mm_Cd 233 11 = kb_233_11 := rfl
theorem ml_233 : mm_Ml 233 = 10 := rfl
theorem nf_233 : mm_nf 233 = (6, 1, 5) := rfl
theorem cd_234_0 : mm_Cd 234 0 = kb_234_0 := rfl
theorem cd_234_1 : mm_Cd 234 1 = kb_234_1 := rfl
theorem cd_234_2 : mm_Cd 234 2 = kb_234_2 := rfl
theorem cd_234_3 : mm_Cd 234 3 = kb_234_3 := rfl
theorem ml_234 : mm_Ml 234 = 5 := rfl
theorem nf_234 : mm_nf 234 = (4, 1, 5) := rfl
theorem cd_235_0 : mm_Cd 235 0 = kb_235_0 := rfl
theorem cd_235_1 : mm_Cd 235 1 = kb_235_1 := rfl
theorem cd_235_2 : mm_Cd 235 2 = kb_235_2 := rfl
theorem cd_235_3 : mm_Cd 235 3 = kb_235_3 := rfl
theorem cd_235_4 : mm_Cd 235 4 = kb_235_4 := rfl
theorem cd_235_5 : mm_Cd 235 5 = kb_235_5 := rfl
theorem cd_235_6 : mm_Cd 235 6 = kb_235_6 := rfl
theorem cd_235_7 : mm_Cd 235 7 = kb_235_7 := rfl
theorem cd_235_8 : mm_Cd 235 8 = kb_235_8 := rfl
theorem cd_235_9 : mm_Cd 235 9 = kb_235_9 := rfl
theorem cd_235_10 : mm_Cd 235 10 = kb_235_10 := rfl
theorem cd_235_11 : mm_Cd 235 11 = kb_235_11 := rfl
theorem ml_235 : mm_Ml 235 = 9 := rfl
theorem nf_235 : mm_nf 235 = (4, 1, 5) := rfl
theorem cd_236_0 : mm_Cd 236 0 = kb_236_0 := rfl
theorem ml_236 : mm_Ml 236 = 1 := rfl
theorem nf_236 : mm_nf 236 = (1, 2, 6) := rfl
theorem cd_237_0 : mm_Cd 237 0 = kb_237_0 := rfl
theorem ml_237 : mm_Ml 237 = 4 := rfl
theorem nf_237 : mm_nf 237 = (4, 1, 6) := rfl
theorem cd_238_0 : mm_Cd 238 0 = kb_238_0 := rfl
theorem cd_238_1 : mm_Cd 238 1 = kb_238_1 := rfl
theorem cd_238_2 : mm_Cd 238 2 = kb_238_2 := rfl
theorem cd_238_3 : mm_Cd 238 3 = kb_238_3 := rfl
theorem ml_238 : mm_Ml 238 = 4 := rfl
theorem nf_238 : mm_nf 238 = (4, 1, 6) := rfl
theorem cd_239_0 : mm_Cd 239 0 = kb_239_0 := rfl
theorem ml_239 : mm_Ml 239 = 4 := rfl
theorem nf_239 : mm_nf 239 = (4, 1, 6) := rfl
theorem cd_240_0 : mm_Cd 240 0 = kb_240_0 := rfl
theorem ml_240 : mm_Ml 240 = 4 := rfl
theorem nf_240 : mm_nf 240 = (4, 1, 6) := rfl
theorem cd_241_0 : mm_Cd 241 0 = kb_241_0 := rfl
theorem cd_241_1 : mm_Cd 241 1 = kb_241_1 := rfl
theorem cd_241_2 : mm_Cd 241 2 = kb_241_2 := rfl
theorem cd_241_3 : mm_Cd 241 3 = kb_241_3 := rfl
theorem cd_241_4 : mm_Cd 241 4 = kb_241_4 := rfl
theorem cd_241_5 : mm_Cd 241 5 = kb_241_5 := rfl
theorem cd_241_6 : mm_Cd 241 6 = kb_241_6 := rfl
theorem ml_241 : mm_Ml 241 = 6 := rfl
theorem nf_241 : mm_nf 241 = (4, 1, 6) := rfl
theorem cd_242_0 : mm_Cd 242 0 = kb_242_0 := rfl
theorem cd_242_1 : mm_Cd 242 1 = kb_242_1 := rfl
theorem cd_242_2 : mm_Cd 242 2 = kb_242_2 := rfl
theorem cd_242_3 : mm_Cd 242 3 = kb_242_3 := rfl
theorem ml_242 : mm_Ml 242 = 7 := rfl
theorem nf_242 : mm_nf 242 = (6, 1, 6) := rfl
theorem cd_243_0 : mm_Cd 243 0 = kb_243_0 := rfl
theorem cd_243_1 : mm_Cd 243 1 = kb_243_1 := rfl
theorem cd_243_2 : mm_Cd 243 2 = kb_243_2 := rfl
theorem cd_243_3 : mm_Cd 243 3 = kb_243_3 := rfl
theorem cd_243_4 : mm_Cd 243 4 = kb_243_4 := rfl
theorem cd_243_5 : mm_Cd 243 5 = kb_243_5 := rfl
theorem cd_243_6 : mm_Cd 243 6 = kb_243_6 := rfl
theorem cd_243_7 : mm_Cd 243 7 = kb_243_7 := rfl
theorem cd_243_8 : mm_Cd 243 8 = kb_243_8 := rfl
theorem cd_243_9 : mm_Cd 243 9 = kb_243_9 := rfl
theorem cd_243_10 : mm_Cd 243 10 = kb_243_10 := rfl
theorem cd_243_11 : mm_Cd 243 11 = kb_243_11 := rfl
theorem cd_243_12 : mm_Cd 243 12 = kb_243_12 := rfl
theorem cd_243_13 : mm_Cd 243 13 = kb_243_13 := rfl
theorem cd_243_14 : mm_Cd 243 14 = kb_243_14 := rfl
theorem cd_243_15 : mm_Cd 243 15 = kb_243_15 := rfl
theorem cd_243_16 : mm_Cd 243 16 = kb_243_16 := rfl
theorem cd_243_17 : mm_Cd 243 17 = kb_243_17 := rfl
theorem cd_243_18 : mm_Cd 243 18 = kb_243_18 := rfl
theorem cd_243_19 : mm_Cd 243 19 = kb_243_19 := rfl
theorem cd_243_20 : mm_Cd 243 20 = kb_243_20 := rfl
theorem cd_243_21 : mm_Cd 243 21 = kb_243_21 := rfl
theorem cd_243_22 : mm_Cd 243 22 = kb_243_22 := rfl
theorem cd_243_23 : mm_Cd 243 23 = kb_243_23 := rfl
theorem ml_243 : mm_Ml 243 = 8 := rfl
theorem nf_243 : mm_nf 243 = (5, 1, 6) := rfl
theorem cd_244_0 : mm_Cd 244 0 = kb_244_0 := rfl
theorem cd_244_1 : mm_Cd 244 1 = kb_244_1 := rfl
theorem cd_244_2 : mm_Cd 244 2 = kb_244_2 := rfl
theorem cd_244_3 : mm_Cd 244 3 = kb_244_3 := rfl
theorem cd_244_4 : mm_Cd 244 4 = kb_244_4 := rfl
theorem cd_244_5 : mm_Cd 244 5 = kb_244_5 := rfl
theorem cd_244_6 : mm_Cd 244 6 = kb_244_6 := rfl
theorem cd_244_7 : mm_Cd 244 7 = kb_244_7 := rfl
theorem cd_244_8 : mm_Cd 244 8 = kb_244_8 := rfl
theorem ml_244 : mm_Ml 244 = 7 := rfl
theorem nf_244 : mm_nf 244 = (4, 1, 6) := rfl
theorem cd_245_0 : mm_Cd 245 0 = kb_245_0 := rfl
theorem cd_245_1 : mm_Cd 245 1 = kb_245_1 := rfl
theorem cd_245_2 : mm_Cd 245 2 = kb_245_2 := rfl
theorem cd_245_3 : mm_Cd 245 3 = kb_245_3 := rfl
theorem cd_245_4 : mm_Cd 245 4 = kb_245_4 := rfl
theorem cd_245_5 : mm_Cd 245 5 = kb_245_5 := rfl
theorem cd_245_6 : mm_Cd 245 6 = kb_245_6 := rfl
theorem cd_245_7 : mm_Cd 245 7 = kb_245_7 := rfl
theorem ml_245 : mm_Ml 245 = 5 := rfl
theorem nf_245 : mm_nf 245 = (3, 0, 6) := rfl
theorem cd_246_0 : mm_Cd 246 0 = kb_246_0 := rfl
theorem ml_246 : mm_Ml 246 = 3 := rfl
theorem nf_246 : mm_nf 246 = (2, 0, 6) := rfl
theorem cd_247_0 : mm_Cd 247 0 = kb_247_0 := rfl
theorem ml_247 : mm_Ml 247 = 3 := rfl
theorem nf_247 : mm_nf 247 = (2, 0, 6) := rfl
theorem cd_248_0 : mm_Cd 248 0 = kb_248_0 := rfl
theorem ml_248 : mm_Ml 248 = 3 := rfl
theorem nf_248 : mm_nf 248 = (3, 1, 6) := rfl
theorem cd_249_0 : mm_Cd 249 0 = kb_249_0 := rfl
theorem cd_249_1 : mm_Cd 249 1 = kb_249_1 := rfl
theorem cd_249_2 : mm_Cd 249 2 = kb_249_2 := rfl
theorem cd_249_3 : mm_Cd 249 3 = kb_249_3 := rfl
theorem ml_249 : mm_Ml 249 = 4 := rfl
theorem nf_249 : mm_nf 249 = (3, 1, 6) := rfl
theorem cd_250_0 : mm_Cd 250 0 = kb_250_0 := rfl
theorem ml_250 : mm_Ml 250 = 2 := rfl
theorem nf_250 : mm_nf 250 = (2, 0, 6) := rfl
theorem cd_251_0 : mm_Cd 251 0 = kb_251_0 := rfl
theorem ml_251 : mm_Ml 251 = 1 := rfl
theorem nf_251 : mm_nf 251 = (1, 2, 7) := rfl
theorem cd_252_0 : mm_Cd 252 0 = kb_252_0 := rfl
theorem ml_252 : mm_Ml 252 = 2 := rfl
theorem nf_252 : mm_nf 252 = (2, 1, 7) := rfl
theorem cd_253_0 : mm_Cd 253 0 = kb_253_0 := rfl
theorem cd_253_1 : mm_Cd 253 1 = kb_253_1 := rfl
theorem cd_253_2 : mm_Cd 253 2 = kb_253_2 := rfl
theorem cd_253_3 : mm_Cd 253 3 = kb_253_3 := rfl
theorem ml_253 : mm_Ml 253 = 2 := rfl
theorem nf_253 : mm_nf 253 = (2, 1, 7) := rfl
theorem cd_254_0 : mm_Cd 254 0 = kb_254_0 := rfl
theorem cd_254_1 : mm_Cd 254 1 = kb_254_1 := rfl
theorem cd_254_2 : mm_Cd 254 2 = kb_254_2 := rfl
theorem cd_254_3 : mm_Cd 254 3 = kb_254_3 := rfl
theorem cd_254_4 : mm_Cd 254 4 = kb_254_4 := rfl
theorem ml_254 : mm_Ml 254 = 2 := rfl
theorem nf_254 : mm_nf 254 = (2, 1, 7) := rfl
theorem cd_255_0 : mm_Cd 255 0 = kb_255_0 := rfl
theorem cd_255_1 : mm_Cd 255 1 = kb_255_1 := rfl
theorem cd_255_2 : mm_Cd 255 2 = kb_255_2 := rfl
theorem cd_255_3 : mm_Cd 255 3 = kb_255_3 := rfl
theorem ml_255 : mm_Ml 255 = 2 := rfl
theorem nf_255 : mm_nf 255 = (2, 1, 7) := rfl
theorem cd_256_0 : mm_Cd 256 0 = kb_256_0 := rfl
theorem cd_256_1 : mm_Cd 256 1 = kb_256_1 := rfl
theorem cd_256_2 : mm_Cd 256 2 = kb_256_2 := rfl
theorem cd_256_3 : mm_Cd 256 3 = kb_256_3 := rfl
theorem cd_256_4 : mm_Cd 256 4 = kb_256_4 := rfl
theorem cd_256_5 : mm_Cd 256 5 = kb_256_5 := rfl
theorem ml_256 : mm_Ml 256 = 4 := rfl
theorem nf_256 : mm_nf 256 = (2, 1, 7) := rfl
theorem cd_257_0 : mm_Cd 257 0 = kb_257_0 := rfl
theorem cd_257_1 : mm_Cd 257 1 = kb_257_1 := rfl
theorem cd_257_2 : mm_Cd 257 2 = kb_257_2 := rfl
theorem cd_257_3 : mm_Cd 257 3 = kb_257_3 := rfl
theorem ml_257 : mm_Ml 257 = 2 := rfl
theorem nf_257 : mm_nf 257 = (2, 1, 7) := rfl
theorem cd_258_0 : mm_Cd 258 0 = kb_258_0 := rfl
theorem cd_258_1 : mm_Cd 258 1 = kb_258_1 := rfl
theorem cd_258_2 : mm_Cd 258 2 = kb_258_2 := rfl
theorem cd_258_3 : mm_Cd 258 3 = kb_258_3 := rfl
theorem cd_258_4 : mm_Cd 258 4 = kb_258_4 := rfl
theorem cd_258_5 : mm_Cd 258 5 = kb_258_5 := rfl
theorem cd_258_6 : mm_Cd 258 6 = kb_258_6 := rfl
theorem ml_258 : mm_Ml 258 = 4 := rfl
theorem nf_258 : mm_nf 258 = (2, 1, 7) := rfl
theorem cd_259_0 : mm_Cd 259 0 = kb_259_0 := rfl
theorem ml_259 : mm_Ml 259 = 2 := rfl
theorem nf_259 : mm_nf 259 = (2, 1, 7) := rfl
theorem cd_260_0 : mm_Cd 260 0 = kb_260_0 := rfl
theorem ml_260 : mm_Ml 260 = 1 := rfl
theorem nf_260 : mm_nf 260 = (1, 2, 8) := rfl
theorem cd_261_0 : mm_Cd 261 0 = kb_261_0 := rfl
theorem cd_261_1 : mm_Cd 261 1 = kb_261_1 := rfl
theorem cd_261_2 : mm_Cd 261 2 = kb_261_2 := rfl
theorem cd_261_3 : mm_Cd 261 3 = kb_261_3 := rfl
theorem cd_261_4 : mm_Cd 261 4 = kb_261_4 := rfl
theorem ml_261 : mm_Ml 261 = 3 := rfl
theorem nf_261 : mm_nf 261 = (2, 1, 8) := rfl
theorem cd_262_0 : mm_Cd 262 0 = kb_262_0 := rfl
theorem cd_262_1 : mm_Cd 262 1 = kb_262_1 := rfl
theorem cd_262_2 : mm_Cd 262 2 = kb_262_2 := rfl
theorem cd_262_3 : mm_Cd 262 3 = kb_262_3 := rfl
theorem cd_262_4 : mm_Cd 262 4 = kb_262_4 := rfl
theorem ml_262 : mm_Ml 262 = 2 := rfl
theorem nf_262 : mm_nf 262 = (2, 1, 8) := rfl
theorem cd_263_0 : mm_Cd 263 0 = kb_263_0 := rfl
theorem cd_263_1 : mm_Cd 263 1 = kb_263_1 := rfl
theorem cd_263_2 : mm_Cd 263 2 = kb_263_2 := rfl
theorem cd_263_3 : mm_Cd 263 3 = kb_263_3 := rfl
theorem cd_263_4 : mm_Cd 263 4 = kb_263_4 := rfl
theorem cd_263_5 : mm_Cd 263 5 = kb_263_5 := rfl
theorem cd_263_6 : mm_Cd 263 6 = kb_263_6 := rfl
theorem cd_263_7 : mm_Cd 263 7 = kb_263_7 := rfl
theorem cd_263_8 : mm_Cd 263 8 = kb_263_8 := rfl
theorem ml_263 : mm_Ml 263 = 4 := rfl
theorem nf_263 : mm_nf 263 = (1, 2, 9) := rfl
theorem cd_264_0 : mm_Cd 264 0 = kb_264_0 := rfl
theorem cd_264_1 : mm_Cd 264 1 = kb_264_1 := rfl
theorem cd_264_2 : mm_Cd 264 2 = kb_264_2 := rfl
theorem cd_264_3 : mm_Cd 264 3 = kb_264_3 := rfl
theorem cd_264_4 : mm_Cd 264 4 = kb_264_4 := rfl
theorem cd_264_5 : mm_Cd 264 5 = kb_264_5 := rfl
theorem cd_264_6 : mm_Cd 264 6 = kb_264_6 := rfl
theorem ml_264 : mm_Ml 264 = 4 := rfl
theorem nf_264 : mm_nf 264 = (2, 1, 9) := rfl
theorem cd_265_0 : mm_Cd 265 0 = kb_265_0 := rfl
theorem cd_265_1 : mm_Cd 265 1 = kb_265_1 := rfl
theorem cd_265_2 : mm_Cd 265 2 = kb_265_2 := rfl
theorem cd_265_3 : mm_Cd 265 3 = kb_265_3 := rfl
theorem cd_265_4 : mm_Cd 265 4 = kb_265_4 := rfl
theorem ml_265 : mm_Ml 265 = 3 := rfl
theorem nf_265 : mm_nf 265 = (2, 0, 9) := rfl
theorem cd_266_0 : mm_Cd 266 0 = kb_266_0 := rfl
theorem cd_266_1 : mm_Cd 266 1 = kb_266_1 := rfl
theorem cd_266_2 : mm_Cd 266 2 = kb_266_2 := rfl
theorem cd_266_3 : mm_Cd 266 3 = kb_266_3 := rfl
theorem cd_266_4 : mm_Cd 266 4 = kb_266_4 := rfl
theorem cd_266_5 : mm_Cd 266 5 = kb_266_5 := rfl
theorem cd_266_6 : mm_Cd 266 6 = kb_266_6 := rfl
theorem cd_266_7 : mm_Cd 266 7 = kb_266_7 := rfl
theorem cd_266_8 : mm_Cd 266 8 = kb_266_8 := rfl
theorem cd_266_9 : mm_Cd 266 9 = kb_266_9 := rfl
theorem ml_266 : mm_Ml 266 = 6 := rfl
theorem nf_266 : mm_nf 266 = (4, 1, 9) := rfl
theorem cd_267_0 : mm_Cd 267 0 = kb_267_0 := rfl
theorem cd_267_1 : mm_Cd 267 1 = kb_267_1 := rfl
theorem cd_267_2 : mm_Cd 267 2 = kb_267_2 := rfl
theorem cd_267_3 : mm_Cd 267 3 = kb_267_3 := rfl
theorem cd_267_4 : mm_Cd 267 4 = kb_267_4 := rfl
theorem cd_267_5 : mm_Cd 267 5 = kb_267_5 := rfl
theorem cd_267_6 : mm_Cd 267 6 = kb_267_6 := rfl
theorem cd_267_7 : mm_Cd 267 7 = kb_267_7 := rfl
theorem ml_267 : mm_Ml 267 = 7 := rfl
theorem nf_267 : mm_nf 267 = (4, 1, 9) := rfl
theorem cd_268_0 : mm_Cd 268 0 = kb_268_0 := rfl
theorem cd_268_1 : mm_Cd 268 1 = kb_268_1 := rfl
theorem cd_268_2 : mm_Cd 268 2 = kb_268_2 := rfl
theorem cd_268_3 : mm_Cd 268 3 = kb_268_3 := rfl
theorem cd_268_4 : mm_Cd 268 4 = kb_268_4 := rfl
theorem cd_268_5 : mm_Cd 268 5 = kb_268_5 := rfl
theorem cd_268_6 : mm_Cd 268 6 = kb_268_6 := rfl
theorem cd_268_7 : mm_Cd 268 7 = kb_268_7 := rfl
theorem ml_268 : mm_Ml 268 = 7 := rfl
theorem nf_268 : mm_nf 268 = (4, 1, 9) := rfl
theorem cd_269_0 : mm_Cd 269 0 = kb_269_0 := rfl
theorem cd_269_1 : mm_Cd 269 1 = kb_269_1 := rfl
theorem cd_269_2 : mm_Cd 269 2 = kb_269_2 := rfl
theorem cd_269_3 : mm_Cd 269 3 = kb_269_3 := rfl
theorem cd_269_4 : mm_Cd 269 4 = kb_269_4 := rfl
theorem cd_269_5 : mm_Cd 269 5 = kb_269_5 := rfl
theorem ml_269 : mm_Ml 269 = 4 := rfl
theorem nf_269 : mm_nf 269 = (2, 1, 9) := rfl
theorem cd_270_0 : mm_Cd 270 0 = kb_270_0 := rfl
theorem ml_270 : mm_Ml 270 = 3 := rfl
theorem nf_270 : mm_nf 270 = (2, 0, 9) := rfl
theorem cd_271_0 : mm_Cd 271 0 = kb_271_0 := rfl
theorem cd_271_1 : mm_Cd 271 1 = kb_271_1 := rfl
theorem cd_271_2 : mm_Cd 271 2 = kb_271_2 := rfl
theorem cd_271_3 : mm_Cd 271 3 = kb_271_3 := rfl
theorem cd_271_4 : mm_Cd 271 4 = kb_271_4 := rfl
theorem cd_271_5 : mm_Cd 271 5 = kb_271_5 := rfl
theorem cd_271_6 : mm_Cd 271 6 = kb_271_6 := rfl
theorem ml_271 : mm_Ml 271 = 1 := rfl
theorem nf_271 : mm_nf 271 = (1, 0, 9) := rfl
theorem cd_272_0 : mm_Cd 272 0 = kb_272_0 := rfl
theorem cd_272_1 : mm_Cd 272 1 = kb_272_1 := rfl
theorem cd_272_2 : mm_Cd 272 2 = kb_272_2 := rfl
theorem cd_272_3 : mm_Cd 272 3 = kb_272_3 := rfl
theorem cd_272_4 : mm_Cd 272 4 = kb_272_4 := rfl
theorem ml_272 : mm_Ml 272 = 1 := rfl
theorem nf_272 : mm_nf 272 = (1, 0, 9) := rfl
theorem cd_273_0 : mm_Cd 273 0 = kb_273_0 := rfl
theorem cd_273_1 : mm_Cd 273 1 = kb_273_1 := rfl
theorem cd_273_2 : mm_Cd 273 2 = kb_273_2 := rfl
theorem cd_273_3 : mm_Cd 273 3 = kb_273_3 := rfl
theorem cd_273_4 : mm_Cd 273 4 = kb_273_4 := rfl
theorem ml_273 : mm_Ml 273 = 1 := rfl
theorem nf_273 : mm_nf 273 = (1, 0, 9) := rfl
theorem cd_274_0 : mm_Cd 274 0 = kb_274_0 := rfl
theorem ml_274 : mm_Ml 274 = 1 := rfl
theorem nf_274 : mm_nf 274 = (1, 2, 10) := rfl
theorem cd_275_0 : mm_Cd 275 0 = kb_275_0 := rfl
theorem cd_275_1 : mm_Cd 275 1 = kb_275_1 := rfl
theorem cd_275_2 : mm_Cd 275 2 = kb_275_2 := rfl
theorem ml_275 : mm_Ml 275 = 4 := rfl
theorem nf_275 : mm_nf 275 = (4, 1, 10) := rfl
theorem cd_276_0 : mm_Cd 276 0 = kb_276_0 := rfl
theorem cd_276_1 : mm_Cd 276 1 = kb_276_1 := rfl
theorem cd_276_2 : mm_Cd 276 2 = kb_276_2 := rfl
theorem cd_276_3 : mm_Cd 276 3 = kb_276_3 := rfl
theorem cd_276_4 : mm_Cd 276 4 = kb_276_4 := rfl
theorem cd_276_5 : mm_Cd 276 5 = kb_276_5 := rfl
theorem cd_276_6 : mm_Cd 276 6 = kb_276_6 := rfl
theorem ml_276 : mm_Ml 276 = 6 := rfl
theorem nf_276 : mm_nf 276 = (4, 1, 10) := rfl
theorem cd_277_0 : mm_Cd 277 0 = kb_277_0 := rfl
theorem cd_277_1 : mm_Cd 277 1 = kb_277_1 := rfl
theorem cd_277_2 : mm_Cd 277 2 = kb_277_2 := rfl
theorem cd_277_3 : mm_Cd 277 3 = kb_277_3 := rfl
theorem cd_277_4 : mm_Cd 277 4 = kb_277_4 := rfl
theorem cd_277_5 : mm_Cd 277 5 = kb_277_5 := rfl
theorem cd_277_6 : mm_Cd 277 6 = kb_277_6 := rfl
theorem cd_277_7 : mm_Cd 277 7 = kb_277_7 := rfl
theorem cd_277_8 : mm_Cd 277 8 = kb_277_8 := rfl
theorem cd_277_9 : mm_Cd 277 9 = kb_277_9 := rfl
theorem ml_277 : mm_Ml 277 = 7 := rfl
theorem nf_277 : mm_nf 277 = (5, 1, 10) := rfl
theorem cd_278_0 : mm_Cd 278 0 = kb_278_0 := rfl
theorem cd_278_1 : mm_Cd 278 1 = kb_278_1 := rfl
theorem cd_278_2 : mm_Cd 278 2 = kb_278_2 := rfl
theorem cd_278_3 : mm_Cd 278 3 = kb_278_3 := rfl
theorem cd_278_4 : mm_Cd 278 4 = kb_278_4 := rfl
theorem cd_278_5 : mm_Cd 278 5 = kb_278_5 := rfl
theorem cd_278_6 : mm_Cd 278 6 = kb_278_6 := rfl
theorem cd_278_7 : mm_Cd 278 7 = kb_278_7 := rfl
theorem cd_278_8 : mm_Cd 278 8 = kb_278_8 := rfl
theorem cd_278_9 : mm_Cd 278 9 = kb_278_9 := rfl
theorem cd_278_10 : mm_Cd 278 10 = kb_278_10 := rfl
theorem cd_278_11 : mm_Cd 278 11 = kb_278_11 := rfl
theorem ml_278 : mm_Ml 278 = 9 := rfl
theorem nf_278 : mm_nf 278 = (5, 1, 10) := rfl
theorem cd_279_0 : mm_Cd 279 0 = kb_279_0 := rfl
theorem ml_279 : mm_Ml 279 = 1 := rfl
theorem nf_279 : mm_nf 279 = (1, 0, 0) := rfl
