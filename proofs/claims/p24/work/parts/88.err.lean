set_option maxHeartbeats 4000000 in
set_option maxRecDepth 100000 in
theorem w_err (E : zE) (x0 h0 h1 w0 w1 : Nat) (t : Nat → Nat) (r : Nat → Nat → Nat) (S : zSt) (o kp kp1 kp10 kp11 kp2 kp3 kp4 kp5 kp6 kp7 kp8 kp9 o1 o10 o11 o2 o3 o4 o5 o6 o7 o8 o9 : Nat) (Q Q1 Q10 Q11 Q2 Q3 Q4 Q5 Q6 Q7 Q8 Q9 : Nat → zSt) (tx : Nat → Nat) (ln : Nat) (ps : zPs) {B : Nat}  (hG : GG S B) (m1 : zM E yX5_insert wsX5_insert 6 [.ref x0, .int (nI 4), .int (nI 0), .int (nI 0)] (WAd E x0 h0 h1 w0 t r S o kp Q) (WAd E x0 h0 h1 w0 t r S o1 kp1 Q1) (some (.int (-1)))) (m2 : zM E yX5_insert wsX5_insert 6 [.ref x0, .int (nI 0), .int (nI 2), .int (nI 0)] (WAd E x0 h0 h1 w0 t r S o1 kp1 Q1) (WAd E x0 h0 h1 w0 t r S o2 kp2 Q2) (some (.int (-1)))) (m3 : zM E yX5_insert wsX5_insert 6 [.ref x0, .int (nI 0), .int (nI 0), .int (-1)] (WAd E x0 h0 h1 w0 t r S o2 kp2 Q2) (WAd E x0 h0 h1 w0 t r S o3 kp3 Q3) (some (.int (-2)))) (m4 : zM E yX5_remove wsX5_remove 6 [.ref x0, .int (-1), .int (nI 0), .int (nI 0)] (WAd E x0 h0 h1 w0 t r S o3 kp3 Q3) (WAd E x0 h0 h1 w0 t r S o4 kp4 Q4) (some (.int (-1)))) (m5 : zM E yX5_remove wsX5_remove 6 [.ref x0, .int (nI 0), .int (nI 2), .int (nI 0)] (WAd E x0 h0 h1 w0 t r S o4 kp4 Q4) (WAd E x0 h0 h1 w0 t r S o5 kp5 Q5) (some (.int (-1)))) (m6 : zM E yX5_set wsX5_set 6 [.ref x0, .int (nI 4), .int (nI 0), .int (nI 0), .int (nI 0)] (WAd E x0 h0 h1 w0 t r S o5 kp5 Q5) (WAd E x0 h0 h1 w0 t r S o6 kp6 Q6) (some (.int (-1)))) (m7 : zM E yX5_set wsX5_set 6 [.ref x0, .int (nI 0), .int (-1), .int (nI 0), .int (nI 0)] (WAd E x0 h0 h1 w0 t r S o6 kp6 Q6) (WAd E x0 h0 h1 w0 t r S o7 kp7 Q7) (some (.int (-1)))) (m8 : zM E yX5_accept wsX5_accept 7 [.ref x0, .int (nI (mK S))] (WAd E x0 h0 h1 w0 t r S o7 kp7 Q7) (WAd E x0 h0 h1 w0 t r S o8 kp8 Q8) (some (.int (-1)))) (m9 : zM E yX5_reject wsX5_reject 6 [.ref x0, .int (-1)] (WAd E x0 h0 h1 w0 t r S o8 kp8 Q8) (WAd E x0 h0 h1 w0 t r S o9 kp9 Q9) (some (.int (-1)))) (m10 : zM E yX5_settle wsX5_settle 8 [.ref x0, .int (nI 4), .int (nI 1)] (WAd E x0 h0 h1 w0 t r S o9 kp9 Q9) (WAd E x0 h0 h1 w0 t r S o10 kp10 Q10) (some (.int (-1)))) (m11 : zM E yX5_settle wsX5_settle 8 [.ref x0, .int (-2), .int (nI 1)] (WAd E x0 h0 h1 w0 t r S o10 kp10 Q10) (WAd E x0 h0 h1 w0 t r S o11 kp11 Q11) (some (.int (-1)))) : zM E yL_errors wsL_errors 9 [.ref x0] (WRd E x0 h0 h1 w0 w1 t r S o kp Q tx ln ps) (WRd E x0 h0 h1 w0 w1 t r S o11 kp11 Q11 tx ln ps) (some (.int (nI 1))) := by
  refine zM.of kL_errors (Nat.le_of_ble_eq_true rfl) rfl [some (.ref x0), none] rfl (Nat.le_of_ble_eq_true rfl) ?_
  intro X eX C N
  subst eX
  have hb0 : uU S 0 ≤ 12 := gg_u hG 0
  have hb1 : uU S 1 ≤ 8 := gg_u1 hG
  have hb2 : mK S ≤ 60 := gg_M hG
  refine z_aload_n C 0 dL_errors_0 rfl rfl ?_
  refine z_iconst C (nI 0) dL_errors_1 (by decide) ?_
  refine z_callVr C kX5_count gL_errors_X5_count (l_cnt0 X.2.1 x0 h0 h1 w0 w1 t S o kp ln ps  hG ) dL_errors_2 [0, 1, 2, 3, 4, 5, 6, 7, 8, 9, 51] [] 0 rfl nd_0_1_2_3_4_5_6_7_8_9_51 rfl rfl rfl (by decide) (by decide) (Nat.le_of_ble_eq_true rfl) rfl ?_
  refine z_istore_n C 1 dL_errors_5 rfl (Nat.le_of_ble_eq_true rfl) ?_
  refine z_lv (lv' := [some (.ref x0), some (.int (nI (mK S)))]) rfl ?_
  refine z_aload_n C 0 dL_errors_6 rfl rfl ?_
  refine z_iconst C (nI 4) dL_errors_7 (by decide) ?_
  refine z_iconst C (nI 0) dL_errors_8 (by decide) ?_
  refine z_iconst C (nI 0) dL_errors_9 (by decide) ?_
  refine z_callV (wn := (WRd X.2.1 x0 h0 h1 w0 w1 t r S o1 kp1 Q1 tx ln ps)) C kX5_insert gL_errors_X5_insert m1 dL_errors_10 [0, 1, 2, 3, 4, 5, 6, 7, 8, 9, 10, 11, 12, 13, 14, 15, 16, 17, 18, 19, 20, 21, 22, 23, 24, 25, 26, 27, 28, 29, 30, 31, 32, 33, 34, 35, 36, 37, 38, 39, 40, 41, 42, 43, 44, 45, 46, 47, 48, 49, 50] [] 0 rfl rfl nd_0_1_2_3_4_5_6_7_8_9_10_11_12_13_14_15_16_17_18_19_20_21_22_23_24_25_26_27_28_29_30_31_32_33_34_35_36_37_38_39_40_41_42_43_44_45_46_47_48_49_50 rfl rfl rfl (by decide) (by decide) (Nat.le_of_ble_eq_true rfl) rfl ((zput_par nd_0_1_2_3_4_5_6_7_8_9_10_11_12_13_14_15_16_17_18_19_20_21_22_23_24_25_26_27_28_29_30_31_32_33_34_35_36_37_38_39_40_41_42_43_44_45_46_47_48_49_50 rfl).trans rfl) ?_
  refine z_iconst C (-1) dL_errors_13 (by decide) ?_
  refine z_icmp_ne_f C 165 dL_errors_14 (by decide) rfl ?_
  refine z_aload_n C 0 dL_errors_17 rfl rfl ?_
  refine z_iconst C (nI 0) dL_errors_18 (by decide) ?_
  refine z_iconst C (nI 2) dL_errors_19 (by decide) ?_
  refine z_iconst C (nI 0) dL_errors_20 (by decide) ?_
  refine z_callV (wn := (WRd X.2.1 x0 h0 h1 w0 w1 t r S o2 kp2 Q2 tx ln ps)) C kX5_insert gL_errors_X5_insert m2 dL_errors_21 [0, 1, 2, 3, 4, 5, 6, 7, 8, 9, 10, 11, 12, 13, 14, 15, 16, 17, 18, 19, 20, 21, 22, 23, 24, 25, 26, 27, 28, 29, 30, 31, 32, 33, 34, 35, 36, 37, 38, 39, 40, 41, 42, 43, 44, 45, 46, 47, 48, 49, 50] [] 0 rfl rfl nd_0_1_2_3_4_5_6_7_8_9_10_11_12_13_14_15_16_17_18_19_20_21_22_23_24_25_26_27_28_29_30_31_32_33_34_35_36_37_38_39_40_41_42_43_44_45_46_47_48_49_50 rfl rfl rfl (by decide) (by decide) (Nat.le_of_ble_eq_true rfl) rfl ((zput_par nd_0_1_2_3_4_5_6_7_8_9_10_11_12_13_14_15_16_17_18_19_20_21_22_23_24_25_26_27_28_29_30_31_32_33_34_35_36_37_38_39_40_41_42_43_44_45_46_47_48_49_50 rfl).trans rfl) ?_
  refine z_iconst C (-1) dL_errors_24 (by decide) ?_
  refine z_icmp_ne_f C 165 dL_errors_25 (by decide) rfl ?_
  refine z_aload_n C 0 dL_errors_28 rfl rfl ?_
  refine z_iconst C (nI 0) dL_errors_29 (by decide) ?_
  refine z_iconst C (nI 0) dL_errors_30 (by decide) ?_
  refine z_iconst C (-1) dL_errors_31 (by decide) ?_
  refine z_callV (wn := (WRd X.2.1 x0 h0 h1 w0 w1 t r S o3 kp3 Q3 tx ln ps)) C kX5_insert gL_errors_X5_insert m3 dL_errors_32 [0, 1, 2, 3, 4, 5, 6, 7, 8, 9, 10, 11, 12, 13, 14, 15, 16, 17, 18, 19, 20, 21, 22, 23, 24, 25, 26, 27, 28, 29, 30, 31, 32, 33, 34, 35, 36, 37, 38, 39, 40, 41, 42, 43, 44, 45, 46, 47, 48, 49, 50] [] 0 rfl rfl nd_0_1_2_3_4_5_6_7_8_9_10_11_12_13_14_15_16_17_18_19_20_21_22_23_24_25_26_27_28_29_30_31_32_33_34_35_36_37_38_39_40_41_42_43_44_45_46_47_48_49_50 rfl rfl rfl (by decide) (by decide) (Nat.le_of_ble_eq_true rfl) rfl ((zput_par nd_0_1_2_3_4_5_6_7_8_9_10_11_12_13_14_15_16_17_18_19_20_21_22_23_24_25_26_27_28_29_30_31_32_33_34_35_36_37_38_39_40_41_42_43_44_45_46_47_48_49_50 rfl).trans rfl) ?_
  refine z_bipush C (-2) dL_errors_35 (by decide) ?_
  refine z_icmp_ne_f C 165 dL_errors_37 (by decide) rfl ?_
  refine z_aload_n C 0 dL_errors_40 rfl rfl ?_
  refine z_iconst C (-1) dL_errors_41 (by decide) ?_
  refine z_iconst C (nI 0) dL_errors_42 (by decide) ?_
  refine z_iconst C (nI 0) dL_errors_43 (by decide) ?_
  refine z_callV (wn := (WRd X.2.1 x0 h0 h1 w0 w1 t r S o4 kp4 Q4 tx ln ps)) C kX5_remove gL_errors_X5_remove m4 dL_errors_44 [0, 1, 2, 3, 4, 5, 6, 7, 8, 9, 10, 11, 12, 13, 14, 15, 16, 17, 18, 19, 20, 21, 22, 23, 24, 25, 26, 27, 28, 29, 30, 31, 32, 33, 34, 35, 36, 37, 38, 39, 40, 41, 42, 43, 44, 45, 46, 47, 48, 49, 50] [] 0 rfl rfl nd_0_1_2_3_4_5_6_7_8_9_10_11_12_13_14_15_16_17_18_19_20_21_22_23_24_25_26_27_28_29_30_31_32_33_34_35_36_37_38_39_40_41_42_43_44_45_46_47_48_49_50 rfl rfl rfl (by decide) (by decide) (Nat.le_of_ble_eq_true rfl) rfl ((zput_par nd_0_1_2_3_4_5_6_7_8_9_10_11_12_13_14_15_16_17_18_19_20_21_22_23_24_25_26_27_28_29_30_31_32_33_34_35_36_37_38_39_40_41_42_43_44_45_46_47_48_49_50 rfl).trans rfl) ?_
  refine z_iconst C (-1) dL_errors_47 (by decide) ?_
  refine z_icmp_ne_f C 165 dL_errors_48 (by decide) rfl ?_
  refine z_aload_n C 0 dL_errors_51 rfl rfl ?_
  refine z_iconst C (nI 0) dL_errors_52 (by decide) ?_
  refine z_iconst C (nI 2) dL_errors_53 (by decide) ?_
  refine z_iconst C (nI 0) dL_errors_54 (by decide) ?_
  refine z_callV (wn := (WRd X.2.1 x0 h0 h1 w0 w1 t r S o5 kp5 Q5 tx ln ps)) C kX5_remove gL_errors_X5_remove m5 dL_errors_55 [0, 1, 2, 3, 4, 5, 6, 7, 8, 9, 10, 11, 12, 13, 14, 15, 16, 17, 18, 19, 20, 21, 22, 23, 24, 25, 26, 27, 28, 29, 30, 31, 32, 33, 34, 35, 36, 37, 38, 39, 40, 41, 42, 43, 44, 45, 46, 47, 48, 49, 50] [] 0 rfl rfl nd_0_1_2_3_4_5_6_7_8_9_10_11_12_13_14_15_16_17_18_19_20_21_22_23_24_25_26_27_28_29_30_31_32_33_34_35_36_37_38_39_40_41_42_43_44_45_46_47_48_49_50 rfl rfl rfl (by decide) (by decide) (Nat.le_of_ble_eq_true rfl) rfl ((zput_par nd_0_1_2_3_4_5_6_7_8_9_10_11_12_13_14_15_16_17_18_19_20_21_22_23_24_25_26_27_28_29_30_31_32_33_34_35_36_37_38_39_40_41_42_43_44_45_46_47_48_49_50 rfl).trans rfl) ?_
  refine z_iconst C (-1) dL_errors_58 (by decide) ?_
  refine z_icmp_ne_f C 165 dL_errors_59 (by decide) rfl ?_
  refine z_aload_n C 0 dL_errors_62 rfl rfl ?_
  refine z_iconst C (nI 4) dL_errors_63 (by decide) ?_
  refine z_iconst C (nI 0) dL_errors_64 (by decide) ?_
  refine z_iconst C (nI 0) dL_errors_65 (by decide) ?_
  refine z_iconst C (nI 0) dL_errors_66 (by decide) ?_
  refine z_callV (wn := (WRd X.2.1 x0 h0 h1 w0 w1 t r S o6 kp6 Q6 tx ln ps)) C kX5_set gL_errors_X5_set m6 dL_errors_67 [0, 1, 2, 3, 4, 5, 6, 7, 8, 9, 10, 11, 12, 13, 14, 15, 16, 17, 18, 19, 20, 21, 22, 23, 24, 25, 26, 27, 28, 29, 30, 31, 32, 33, 34, 35, 36, 37, 38, 39, 40, 41, 42, 43, 44, 45, 46, 47, 48, 49, 50] [] 0 rfl rfl nd_0_1_2_3_4_5_6_7_8_9_10_11_12_13_14_15_16_17_18_19_20_21_22_23_24_25_26_27_28_29_30_31_32_33_34_35_36_37_38_39_40_41_42_43_44_45_46_47_48_49_50 rfl rfl rfl (by decide) (by decide) (Nat.le_of_ble_eq_true rfl) rfl ((zput_par nd_0_1_2_3_4_5_6_7_8_9_10_11_12_13_14_15_16_17_18_19_20_21_22_23_24_25_26_27_28_29_30_31_32_33_34_35_36_37_38_39_40_41_42_43_44_45_46_47_48_49_50 rfl).trans rfl) ?_
  refine z_iconst C (-1) dL_errors_70 (by decide) ?_
  refine z_icmp_ne_f C 165 dL_errors_71 (by decide) rfl ?_
  refine z_aload_n C 0 dL_errors_74 rfl rfl ?_
  refine z_iconst C (nI 0) dL_errors_75 (by decide) ?_
  refine z_iconst C (-1) dL_errors_76 (by decide) ?_
  refine z_iconst C (nI 0) dL_errors_77 (by decide) ?_
  refine z_iconst C (nI 0) dL_errors_78 (by decide) ?_
  refine z_callV (wn := (WRd X.2.1 x0 h0 h1 w0 w1 t r S o7 kp7 Q7 tx ln ps)) C kX5_set gL_errors_X5_set m7 dL_errors_79 [0, 1, 2, 3, 4, 5, 6, 7, 8, 9, 10, 11, 12, 13, 14, 15, 16, 17, 18, 19, 20, 21, 22, 23, 24, 25, 26, 27, 28, 29, 30, 31, 32, 33, 34, 35, 36, 37, 38, 39, 40, 41, 42, 43, 44, 45, 46, 47, 48, 49, 50] [] 0 rfl rfl nd_0_1_2_3_4_5_6_7_8_9_10_11_12_13_14_15_16_17_18_19_20_21_22_23_24_25_26_27_28_29_30_31_32_33_34_35_36_37_38_39_40_41_42_43_44_45_46_47_48_49_50 rfl rfl rfl (by decide) (by decide) (Nat.le_of_ble_eq_true rfl) rfl ((zput_par nd_0_1_2_3_4_5_6_7_8_9_10_11_12_13_14_15_16_17_18_19_20_21_22_23_24_25_26_27_28_29_30_31_32_33_34_35_36_37_38_39_40_41_42_43_44_45_46_47_48_49_50 rfl).trans rfl) ?_
  refine z_iconst C (-1) dL_errors_82 (by decide) ?_
  refine z_icmp_ne_f C 165 dL_errors_83 (by decide) rfl ?_
  refine z_aload_n C 0 dL_errors_86 rfl rfl ?_
  refine z_iload_n C 1 dL_errors_87 rfl rfl ?_
  refine z_callV (wn := (WRd X.2.1 x0 h0 h1 w0 w1 t r S o8 kp8 Q8 tx ln ps)) C kX5_accept gL_errors_X5_accept m8 dL_errors_88 [0, 1, 2, 3, 4, 5, 6, 7, 8, 9, 10, 11, 12, 13, 14, 15, 16, 17, 18, 19, 20, 21, 22, 23, 24, 25, 26, 27, 28, 29, 30, 31, 32, 33, 34, 35, 36, 37, 38, 39, 40, 41, 42, 43, 44, 45, 46, 47, 48, 49, 50] [] 0 rfl rfl nd_0_1_2_3_4_5_6_7_8_9_10_11_12_13_14_15_16_17_18_19_20_21_22_23_24_25_26_27_28_29_30_31_32_33_34_35_36_37_38_39_40_41_42_43_44_45_46_47_48_49_50 rfl rfl rfl (by decide) (by decide) (Nat.le_of_ble_eq_true rfl) rfl ((zput_par nd_0_1_2_3_4_5_6_7_8_9_10_11_12_13_14_15_16_17_18_19_20_21_22_23_24_25_26_27_28_29_30_31_32_33_34_35_36_37_38_39_40_41_42_43_44_45_46_47_48_49_50 rfl).trans rfl) ?_
  refine z_iconst C (-1) dL_errors_91 (by decide) ?_
  refine z_icmp_ne_f C 165 dL_errors_92 (by decide) rfl ?_
  refine z_aload_n C 0 dL_errors_95 rfl rfl ?_
  refine z_iconst C (-1) dL_errors_96 (by decide) ?_
  refine z_callV (wn := (WRd X.2.1 x0 h0 h1 w0 w1 t r S o9 kp9 Q9 tx ln ps)) C kX5_reject gL_errors_X5_reject m9 dL_errors_97 [0, 1, 2, 3, 4, 5, 6, 7, 8, 9, 10, 11, 12, 13, 14, 15, 16, 17, 18, 19, 20, 21, 22, 23, 24, 25, 26, 27, 28, 29, 30, 31, 32, 33, 34, 35, 36, 37, 38, 39, 40, 41, 42, 43, 44, 45, 46, 47, 48, 49, 50] [] 0 rfl rfl nd_0_1_2_3_4_5_6_7_8_9_10_11_12_13_14_15_16_17_18_19_20_21_22_23_24_25_26_27_28_29_30_31_32_33_34_35_36_37_38_39_40_41_42_43_44_45_46_47_48_49_50 rfl rfl rfl (by decide) (by decide) (Nat.le_of_ble_eq_true rfl) rfl ((zput_par nd_0_1_2_3_4_5_6_7_8_9_10_11_12_13_14_15_16_17_18_19_20_21_22_23_24_25_26_27_28_29_30_31_32_33_34_35_36_37_38_39_40_41_42_43_44_45_46_47_48_49_50 rfl).trans rfl) ?_
  refine z_iconst C (-1) dL_errors_100 (by decide) ?_
  refine z_icmp_ne_f C 165 dL_errors_101 (by decide) rfl ?_
  refine z_aload_n C 0 dL_errors_104 rfl rfl ?_
  refine z_iconst C (nI 4) dL_errors_105 (by decide) ?_
  refine z_iconst C (nI 1) dL_errors_106 (by decide) ?_
  refine z_callV (wn := (WRd X.2.1 x0 h0 h1 w0 w1 t r S o10 kp10 Q10 tx ln ps)) C kX5_settle gL_errors_X5_settle m10 dL_errors_107 [0, 1, 2, 3, 4, 5, 6, 7, 8, 9, 10, 11, 12, 13, 14, 15, 16, 17, 18, 19, 20, 21, 22, 23, 24, 25, 26, 27, 28, 29, 30, 31, 32, 33, 34, 35, 36, 37, 38, 39, 40, 41, 42, 43, 44, 45, 46, 47, 48, 49, 50] [] 0 rfl rfl nd_0_1_2_3_4_5_6_7_8_9_10_11_12_13_14_15_16_17_18_19_20_21_22_23_24_25_26_27_28_29_30_31_32_33_34_35_36_37_38_39_40_41_42_43_44_45_46_47_48_49_50 rfl rfl rfl (by decide) (by decide) (Nat.le_of_ble_eq_true rfl) rfl ((zput_par nd_0_1_2_3_4_5_6_7_8_9_10_11_12_13_14_15_16_17_18_19_20_21_22_23_24_25_26_27_28_29_30_31_32_33_34_35_36_37_38_39_40_41_42_43_44_45_46_47_48_49_50 rfl).trans rfl) ?_
  refine z_iconst C (-1) dL_errors_110 (by decide) ?_
  refine z_icmp_ne_f C 165 dL_errors_111 (by decide) rfl ?_
  refine z_aload_n C 0 dL_errors_114 rfl rfl ?_
  refine z_bipush C (-2) dL_errors_115 (by decide) ?_
  refine z_iconst C (nI 1) dL_errors_117 (by decide) ?_
  refine z_callV (wn := (WRd X.2.1 x0 h0 h1 w0 w1 t r S o11 kp11 Q11 tx ln ps)) C kX5_settle gL_errors_X5_settle m11 dL_errors_118 [0, 1, 2, 3, 4, 5, 6, 7, 8, 9, 10, 11, 12, 13, 14, 15, 16, 17, 18, 19, 20, 21, 22, 23, 24, 25, 26, 27, 28, 29, 30, 31, 32, 33, 34, 35, 36, 37, 38, 39, 40, 41, 42, 43, 44, 45, 46, 47, 48, 49, 50] [] 0 rfl rfl nd_0_1_2_3_4_5_6_7_8_9_10_11_12_13_14_15_16_17_18_19_20_21_22_23_24_25_26_27_28_29_30_31_32_33_34_35_36_37_38_39_40_41_42_43_44_45_46_47_48_49_50 rfl rfl rfl (by decide) (by decide) (Nat.le_of_ble_eq_true rfl) rfl ((zput_par nd_0_1_2_3_4_5_6_7_8_9_10_11_12_13_14_15_16_17_18_19_20_21_22_23_24_25_26_27_28_29_30_31_32_33_34_35_36_37_38_39_40_41_42_43_44_45_46_47_48_49_50 rfl).trans rfl) ?_
  refine z_iconst C (-1) dL_errors_121 (by decide) ?_
  refine z_icmp_ne_f C 165 dL_errors_122 (by decide) rfl ?_
  refine z_aload_n C 0 dL_errors_125 rfl rfl ?_
  refine z_iload_n C 1 dL_errors_126 rfl rfl ?_
  refine z_iconst C (nI 0) dL_errors_127 (by decide) ?_
  refine z_callVr C kX5_change gL_errors_X5_change (l_chgB X.2.1 x0 h0 w0 t S (mK S) hG (by omega)) dL_errors_128 [0, 1, 2, 3, 4, 5, 6, 7, 8] [] 0 rfl nd_0_1_2_3_4_5_6_7_8 rfl rfl rfl (by decide) (by decide) (Nat.le_of_ble_eq_true rfl) rfl ?_
  refine z_iconst C (-1) dL_errors_131 (by decide) ?_
  refine z_icmp_ne_f C 165 dL_errors_132 (by decide) rfl ?_
  refine z_aload_n C 0 dL_errors_135 rfl rfl ?_
  refine z_iconst C (nI 0) dL_errors_136 (by decide) ?_
  refine z_iload_n C 1 dL_errors_137 rfl rfl ?_
  refine z_callVr C kX5_restsOn gL_errors_X5_restsOn (l_restB X.2.1 x0 h0 w0 t S (mK S) hG (by omega)) dL_errors_138 [0, 1, 2, 3, 4, 5, 6, 7, 8] [] 0 rfl nd_0_1_2_3_4_5_6_7_8 rfl rfl rfl (by decide) (by decide) (Nat.le_of_ble_eq_true rfl) rfl ?_
  refine z_iconst C (-1) dL_errors_141 (by decide) ?_
  refine z_icmp_ne_f C 165 dL_errors_142 (by decide) rfl ?_
  refine z_aload_n C 0 dL_errors_145 rfl rfl ?_
  refine z_aload_n C 0 dL_errors_146 rfl rfl ?_
  refine z_iconst C (nI 0) dL_errors_147 (by decide) ?_
  refine z_iconst C (nI 0) dL_errors_148 (by decide) ?_
  refine z_callVr C kX5_size gL_errors_X5_size (l_size0 X.2.1 x0 h0 w0 t S 0 hG (by decide)) dL_errors_149 [0, 1, 2, 3, 4, 5, 6, 7, 8] [.ref x0] 0 rfl nd_0_1_2_3_4_5_6_7_8 rfl rfl rfl (by decide) (by decide) (Nat.le_of_ble_eq_true rfl) rfl ?_
  refine z_iconst C (nI 0) dL_errors_152 (by decide) ?_
  refine z_iconst C (nI 0) dL_errors_153 (by decide) ?_
  refine z_callVr C kX5_setting gL_errors_X5_setting (l_setB X.2.1 x0 h0 w0 t S (uU S 0) hG (by omega)) dL_errors_154 [0, 1, 2, 3, 4, 5, 6, 7, 8] [] 0 rfl nd_0_1_2_3_4_5_6_7_8 rfl rfl rfl (by decide) (by decide) (Nat.le_of_ble_eq_true rfl) rfl ?_
  refine z_iconst C (-1) dL_errors_157 (by decide) ?_
  refine z_icmp_ne_f C 165 dL_errors_158 (by decide) rfl ?_
  refine z_iconst C (nI 1) dL_errors_161 (by decide) ?_
  refine z_goto C 166 dL_errors_162 (by decide) ?_
  exact z_zret C N dL_errors_166 rfl (rfl) (rfl)
