set_option maxHeartbeats 4000000 in
set_option maxRecDepth 100000 in
theorem w_ord00y (E : zE) (x0 h0 h1 w0 w1 : Nat) (t : Nat → Nat) (r : Nat → Nat → Nat) (S S1 : zSt) (o kp o1 o2 kp1 kp2 : Nat) (Q Q1 : Nat → zSt) (tx : Nat → Nat) (ln : Nat) (ps ps1 ps2 ps3 ps4 ps5 : zPs) {B B1 : Nat} (au : Nat) (g h : Int32) (dd lf : Nat) (hG : GG S B) (hG1 : GG S1 B1) (hau : au < 4) (hg1 : g &&& (nI 1) = nI 0) (hg2 : g &&& (nI 2) = 0) (hd : lw h 10 = dd) (hdd : dd < 10) (hln : ln ≤ 60) (htx : ∀ j, tx j < 65536) (hlf : lf < 100) (hu : uU S1 0 = uU S 0 + 1) (hf : uU S 0 < 12) (ht : tK S = false) (m1 : zM E yX5_run wsX5_run 8 [.ref x0, .int (nI au)] (WRd E x0 h0 h1 w0 w1 t r S o kp Q (tyL tx []) 0 ps) (WRd E x0 h0 h1 w0 w1 t r S o kp Q (tyL tx []) 0 ps1) (some (.int (-100)))) (m2 : zM E yX5_run wsX5_run 8 [.ref x0, .int (nI 4)] (WRd E x0 h0 h1 w0 w1 t r S o kp Q (tyL tx []) 0 ps1) (WRd E x0 h0 h1 w0 w1 t r S o kp Q (tyL tx []) 0 ps1) (some (.int (-1)))) (m3 : zM E yX5_run wsX5_run 8 [.ref x0, .int (nI au)] (WRd E x0 h0 h1 w0 w1 t r S o kp Q (tyL tx [43]) 1 ps1) (WRd E x0 h0 h1 w0 w1 t r S o kp Q (tyL tx [43]) 1 ps2) (some (.int (-101)))) (m4 : zM E yX5_run wsX5_run 8 [.ref x0, .int (nI au)] (WRd E x0 h0 h1 w0 w1 t r S o kp Q (tyL tx [48 + dd, 48, 114, 43]) 4 ps2) (WRd E x0 h0 h1 w0 w1 t r S o kp Q (tyL tx [48 + dd, 48, 114, 43]) 4 ps3) (some (.int (-103)))) (m5 : zM E yX5_run wsX5_run 8 [.ref x0, .int (nI au)] (WRd E x0 h0 h1 w0 w1 t r S o kp Q (tyL (tyL tx [48 + dd, 48, 114, 43]) [57, 57, 114, 43, 32, 48, 114, 43]) 8 ps3) (WRd E x0 h0 h1 w0 w1 t r S1 o1 kp1 Q1 (tyL (tyL tx [48 + dd, 48, 114, 43]) [57, 57, 114, 43, 32, 48, 114, 43]) 8 ps4) (some (.int (nI 1)))) (m6 : zM E yX5_run wsX5_run 8 [.ref x0, .int (nI au)] (WRd E x0 h0 h1 w0 w1 t r S1 o1 kp1 Q1 (tyL (tyL tx [48 + dd, 48, 114, 43]) [57, 57, 57, 114, 43, 32, 48, 114, 43]) 9 ps4) (WRd E x0 h0 h1 w0 w1 t r S1 o1 kp1 Q1 (tyL (tyL tx [48 + dd, 48, 114, 43]) [57, 57, 57, 114, 43, 32, 48, 114, 43]) 9 ps5) (some (.int (-108)))) (m7 : zM E yX5_undo wsX5_undo 5 [.ref x0] (WAd E x0 h0 h1 w0 t r S1 o1 kp1 Q1) (WAd E x0 h0 h1 w0 t r S o2 kp2 Q1) (some (.int (nI lf)))) : zM E yL_orders wsL_orders 9 [.ref x0, .int (nI au), .int g, .int h] (WRd E x0 h0 h1 w0 w1 t r S o kp Q tx ln ps) (WRd E x0 h0 h1 w0 w1 t r S o2 kp2 Q1 (tyL (tyL tx [48 + dd, 48, 114, 43]) [57, 57, 57, 114, 43, 32, 48, 114, 43]) 9 ps5) (some (.int (nI 1))) := by
  refine zM.of kL_orders (Nat.le_of_ble_eq_true rfl) rfl [some (.ref x0), some (.int (nI au)), some (.int g), some (.int h), none, none, none, none, none, none, none] rfl (Nat.le_of_ble_eq_true rfl) ?_
  intro X eX C N
  subst eX
  have hb0 : uU S 0 ≤ 12 := gg_u hG 0
  have hb1 : uU S 1 ≤ 8 := gg_u1 hG
  have hb2 : mK S ≤ 60 := gg_M hG
  have hb3 : uU S1 0 ≤ 12 := gg_u hG1 0
  have hb4 : uU S1 1 ≤ 8 := gg_u1 hG1
  have hb5 : mK S1 ≤ 60 := gg_M hG1
  refine z_aload_n C 0 dL_orders_0 rfl rfl ?_
  refine z_callV (wn := (WRd X.2.1 x0 h0 h1 w0 w1 t r S o kp Q (tyL tx []) 0 ps)) C kX5_clearText gL_orders_X5_clearText (l_clr X.2.1 x0 (t 0) h0 w0 w1 tx ln ps hln) dL_orders_1 [0, 51, 52] [] 0 rfl rfl nd_0_51_52 rfl rfl rfl (by decide) (by decide) (Nat.le_of_ble_eq_true rfl) rfl ((zput_par nd_0_51_52 rfl).trans rfl) ?_
  refine z_pop C dL_orders_4 rfl ?_
  refine z_aload_n C 0 dL_orders_5 rfl rfl ?_
  refine z_iload_n C 1 dL_orders_6 rfl rfl ?_
  refine z_callV (wn := (WRd X.2.1 x0 h0 h1 w0 w1 t r S o kp Q (tyL tx []) 0 ps1)) C kX5_run gL_orders_X5_run m1 dL_orders_7 [0, 1, 2, 3, 4, 5, 6, 7, 8, 9, 10, 11, 12, 13, 14, 15, 16, 17, 18, 19, 20, 21, 22, 23, 24, 25, 26, 27, 28, 29, 30, 31, 32, 33, 34, 35, 36, 37, 38, 39, 40, 41, 42, 43, 44, 45, 46, 47, 48, 49, 50, 51, 52] [] 0 rfl rfl nd_0_1_2_3_4_5_6_7_8_9_10_11_12_13_14_15_16_17_18_19_20_21_22_23_24_25_26_27_28_29_30_31_32_33_34_35_36_37_38_39_40_41_42_43_44_45_46_47_48_49_50_51_52 rfl rfl rfl (by decide) (by decide) (Nat.le_of_ble_eq_true rfl) rfl ((zput_par nd_0_1_2_3_4_5_6_7_8_9_10_11_12_13_14_15_16_17_18_19_20_21_22_23_24_25_26_27_28_29_30_31_32_33_34_35_36_37_38_39_40_41_42_43_44_45_46_47_48_49_50_51_52 rfl).trans rfl) ?_
  refine z_bipush C (-100) dL_orders_10 (by decide) ?_
  refine z_icmp_ne_f C 24 dL_orders_12 (by decide) rfl ?_
  refine z_aload_n C 0 dL_orders_15 rfl rfl ?_
  refine z_iconst C (nI 4) dL_orders_16 (by decide) ?_
  refine z_callV (wn := (WRd X.2.1 x0 h0 h1 w0 w1 t r S o kp Q (tyL tx []) 0 ps1)) C kX5_run gL_orders_X5_run m2 dL_orders_17 [0, 1, 2, 3, 4, 5, 6, 7, 8, 9, 10, 11, 12, 13, 14, 15, 16, 17, 18, 19, 20, 21, 22, 23, 24, 25, 26, 27, 28, 29, 30, 31, 32, 33, 34, 35, 36, 37, 38, 39, 40, 41, 42, 43, 44, 45, 46, 47, 48, 49, 50, 51, 52] [] 0 rfl rfl nd_0_1_2_3_4_5_6_7_8_9_10_11_12_13_14_15_16_17_18_19_20_21_22_23_24_25_26_27_28_29_30_31_32_33_34_35_36_37_38_39_40_41_42_43_44_45_46_47_48_49_50_51_52 rfl rfl rfl (by decide) (by decide) (Nat.le_of_ble_eq_true rfl) rfl ((zput_par nd_0_1_2_3_4_5_6_7_8_9_10_11_12_13_14_15_16_17_18_19_20_21_22_23_24_25_26_27_28_29_30_31_32_33_34_35_36_37_38_39_40_41_42_43_44_45_46_47_48_49_50_51_52 rfl).trans rfl) ?_
  refine z_iconst C (-1) dL_orders_20 (by decide) ?_
  refine z_icmp_eq_t C 26 dL_orders_21 (by decide) rfl ?_
  refine z_iload_n C 2 dL_orders_26 rfl rfl ?_
  refine z_iconst C (nI 1) dL_orders_27 (by decide) ?_
  refine z_iand C dL_orders_28 ?_
  refine z_top (y := nI 0) (hg1) ?_
  refine z_istore C dL_orders_29 (Nat.le_of_ble_eq_true rfl) ?_
  refine z_lv (lv' := [some (.ref x0), some (.int (nI au)), some (.int g), some (.int h), some (.int (nI 0)), none, none, none, none, none, none]) rfl ?_
  refine z_aload_n C 0 dL_orders_31 rfl rfl ?_
  refine z_iconst C (nI 0) dL_orders_32 (by decide) ?_
  refine z_iload C dL_orders_33 rfl ?_
  refine z_callVr C kX5_size gL_orders_X5_size (l_size0 X.2.1 x0 h0 w0 t S 0 hG (by decide)) dL_orders_35 [0, 1, 2, 3, 4, 5, 6, 7, 8] [] 0 rfl nd_0_1_2_3_4_5_6_7_8 rfl rfl rfl (by decide) (by decide) (Nat.le_of_ble_eq_true rfl) rfl ?_
  refine z_istore C dL_orders_38 (Nat.le_of_ble_eq_true rfl) ?_
  refine z_lv (lv' := [some (.ref x0), some (.int (nI au)), some (.int g), some (.int h), some (.int (nI 0)), some (.int (nI (uU S 0))), none, none, none, none, none]) rfl ?_
  refine z_aload_n C 0 dL_orders_40 rfl rfl ?_
  refine z_iconst C (nI 0) dL_orders_41 (by decide) ?_
  refine z_callVr C kX5_count gL_orders_X5_count (l_cnt0 X.2.1 x0 h0 h1 w0 w1 t S o kp 0 ps1  hG ) dL_orders_42 [0, 1, 2, 3, 4, 5, 6, 7, 8, 9, 51] [] 0 rfl nd_0_1_2_3_4_5_6_7_8_9_51 rfl rfl rfl (by decide) (by decide) (Nat.le_of_ble_eq_true rfl) rfl ?_
  refine z_istore C dL_orders_45 (Nat.le_of_ble_eq_true rfl) ?_
  refine z_lv (lv' := [some (.ref x0), some (.int (nI au)), some (.int g), some (.int h), some (.int (nI 0)), some (.int (nI (uU S 0))), some (.int (nI (mK S))), none, none, none, none]) rfl ?_
  refine z_aload_n C 0 dL_orders_47 rfl rfl ?_
  refine z_iconst C (nI 5) dL_orders_48 (by decide) ?_
  refine z_callVr C kX5_count gL_orders_X5_count (l_cnt5n X.2.1 x0 h0 h1 w0 w1 t S o kp 0 ps1  hG ht) dL_orders_49 [0, 1, 2, 3, 4, 5, 6, 7, 8, 9, 51] [] 0 rfl nd_0_1_2_3_4_5_6_7_8_9_51 rfl rfl rfl (by decide) (by decide) (Nat.le_of_ble_eq_true rfl) rfl ?_
  refine z_iconst C (nI 1) dL_orders_52 (by decide) ?_
  refine z_ncmp_ne_t C 60 dL_orders_53 (by decide) (by omega) (by omega) (by omega) ?_
  refine z_iconst C (nI 0) dL_orders_60 (by decide) ?_
  refine z_istore C dL_orders_61 (Nat.le_of_ble_eq_true rfl) ?_
  refine z_lv (lv' := [some (.ref x0), some (.int (nI au)), some (.int g), some (.int h), some (.int (nI 0)), some (.int (nI (uU S 0))), some (.int (nI (mK S))), some (.int (nI 0)), none, none, none]) rfl ?_
  refine z_aload_n C 0 dL_orders_63 rfl rfl ?_
  refine z_iload_n C 2 dL_orders_64 rfl rfl ?_
  refine z_iconst C (nI 2) dL_orders_65 (by decide) ?_
  refine z_iand C dL_orders_66 ?_
  refine z_if_ne_f C 75 dL_orders_67 (by decide) hg2 ?_
  refine z_bipush C (nI 43) dL_orders_70 (by decide) ?_
  refine z_goto C 77 dL_orders_72 (by decide) ?_
  refine z_callV (wn := (WRd X.2.1 x0 h0 h1 w0 w1 t r S o kp Q (tyL tx [43]) 1 ps1)) C kX5_type gL_orders_X5_type (l_typ X.2.1 x0 (t 0) h0 w0 w1 tx [] ps1 43 0 rfl (by decide) htx (fun c hc9 => absurd hc9 List.not_mem_nil) (by omega)) dL_orders_77 [0, 51, 52] [] 0 rfl rfl nd_0_51_52 rfl rfl rfl (by decide) (by decide) (Nat.le_of_ble_eq_true rfl) rfl ((zput_par nd_0_51_52 rfl).trans rfl) ?_
  refine z_top (y := nI 1) rfl ?_
  refine z_istore C dL_orders_80 (Nat.le_of_ble_eq_true rfl) ?_
  refine z_lv (lv' := [some (.ref x0), some (.int (nI au)), some (.int g), some (.int h), some (.int (nI 0)), some (.int (nI (uU S 0))), some (.int (nI (mK S))), some (.int (nI 0)), some (.int (nI 1)), none, none]) rfl ?_
  refine z_aload_n C 0 dL_orders_82 rfl rfl ?_
  refine z_iload_n C 1 dL_orders_83 rfl rfl ?_
  refine z_callV (wn := (WRd X.2.1 x0 h0 h1 w0 w1 t r S o kp Q (tyL tx [43]) 1 ps2)) C kX5_run gL_orders_X5_run m3 dL_orders_84 [0, 1, 2, 3, 4, 5, 6, 7, 8, 9, 10, 11, 12, 13, 14, 15, 16, 17, 18, 19, 20, 21, 22, 23, 24, 25, 26, 27, 28, 29, 30, 31, 32, 33, 34, 35, 36, 37, 38, 39, 40, 41, 42, 43, 44, 45, 46, 47, 48, 49, 50, 51, 52] [] 0 rfl rfl nd_0_1_2_3_4_5_6_7_8_9_10_11_12_13_14_15_16_17_18_19_20_21_22_23_24_25_26_27_28_29_30_31_32_33_34_35_36_37_38_39_40_41_42_43_44_45_46_47_48_49_50_51_52 rfl rfl rfl (by decide) (by decide) (Nat.le_of_ble_eq_true rfl) rfl ((zput_par nd_0_1_2_3_4_5_6_7_8_9_10_11_12_13_14_15_16_17_18_19_20_21_22_23_24_25_26_27_28_29_30_31_32_33_34_35_36_37_38_39_40_41_42_43_44_45_46_47_48_49_50_51_52 rfl).trans rfl) ?_
  refine z_bipush C (-100) dL_orders_87 (by decide) ?_
  refine z_iload C dL_orders_89 rfl ?_
  refine z_isub C dL_orders_91 ?_
  refine z_top (y := (-101)) (by decide) ?_
  refine z_icmp_ne_f C 99 dL_orders_92 (by decide) rfl ?_
  refine z_iconst C (nI 1) dL_orders_95 (by decide) ?_
  refine z_goto C 100 dL_orders_96 (by decide) ?_
  refine z_istore C dL_orders_100 (Nat.le_of_ble_eq_true rfl) ?_
  refine z_lv (lv' := [some (.ref x0), some (.int (nI au)), some (.int g), some (.int h), some (.int (nI 0)), some (.int (nI (uU S 0))), some (.int (nI (mK S))), some (.int (nI 0)), some (.int (nI 1)), some (.int (nI 1)), none]) rfl ?_
  refine z_aload_n C 0 dL_orders_102 rfl rfl ?_
  refine z_iload C dL_orders_103 rfl ?_
  refine z_nif_ne_f C 113 dL_orders_105 (by decide) (by omega) (by omega) ?_
  refine z_bipush C (nI 114) dL_orders_108 (by decide) ?_
  refine z_goto C 115 dL_orders_110 (by decide) ?_
  refine z_callV (wn := (WRd X.2.1 x0 h0 h1 w0 w1 t r S o kp Q (tyL tx [114, 43]) 2 ps2)) C kX5_type gL_orders_X5_type (l_typ X.2.1 x0 (t 0) h0 w0 w1 tx [43] ps2 114 1 rfl (by decide) htx (by intro c hc9; simp at hc9; omega) (by omega)) dL_orders_115 [0, 51, 52] [] 0 rfl rfl nd_0_51_52 rfl rfl rfl (by decide) (by decide) (Nat.le_of_ble_eq_true rfl) rfl ((zput_par nd_0_51_52 rfl).trans rfl) ?_
  refine z_top (y := nI 2) rfl ?_
  refine z_pop C dL_orders_118 rfl ?_
  refine z_aload_n C 0 dL_orders_119 rfl rfl ?_
  refine z_bipush C (nI 48) dL_orders_120 (by decide) ?_
  refine z_callV (wn := (WRd X.2.1 x0 h0 h1 w0 w1 t r S o kp Q (tyL tx [48, 114, 43]) 3 ps2)) C kX5_type gL_orders_X5_type (l_typ X.2.1 x0 (t 0) h0 w0 w1 tx [114, 43] ps2 48 2 rfl (by decide) htx (by intro c hc9; simp at hc9; omega) (by omega)) dL_orders_122 [0, 51, 52] [] 0 rfl rfl nd_0_51_52 rfl rfl rfl (by decide) (by decide) (Nat.le_of_ble_eq_true rfl) rfl ((zput_par nd_0_51_52 rfl).trans rfl) ?_
  refine z_top (y := nI 3) rfl ?_
  refine z_pop C dL_orders_125 rfl ?_
  refine z_aload_n C 0 dL_orders_126 rfl rfl ?_
  refine z_bipush C (nI 48) dL_orders_127 (by decide) ?_
  refine z_iload_n C 3 dL_orders_129 rfl rfl ?_
  refine z_bipush C (nI 10) dL_orders_130 (by decide) ?_
  refine z_callS C kL_low gL_orders_L_low (l_low X.2.1 h 10 (by decide) (by decide)) dL_orders_132 [.int (nI 48), .ref x0] rfl (by decide) (by decide) (Nat.le_of_ble_eq_true rfl) rfl ?_
  refine z_top (y := nI dd) (congrArg nI hd) ?_
  refine z_iadd C dL_orders_135 ?_
  refine z_top (y := nI (48 + dd)) (nI_add _ _) ?_
  refine z_i2c C (nI (48 + dd)) dL_orders_136 (chr_n (by omega)) ?_
  refine z_callV (wn := (WRd X.2.1 x0 h0 h1 w0 w1 t r S o kp Q (tyL tx [48 + dd, 48, 114, 43]) 4 ps2)) C kX5_type gL_orders_X5_type (l_typ X.2.1 x0 (t 0) h0 w0 w1 tx [48, 114, 43] ps2 (48 + dd) 3 rfl (by decide) htx (by intro c hc9; simp at hc9; omega) (by omega)) dL_orders_137 [0, 51, 52] [] 0 rfl rfl nd_0_51_52 rfl rfl rfl (by decide) (by decide) (Nat.le_of_ble_eq_true rfl) rfl ((zput_par nd_0_51_52 rfl).trans rfl) ?_
  refine z_top (y := nI 4) rfl ?_
  refine z_istore C dL_orders_140 (Nat.le_of_ble_eq_true rfl) ?_
  refine z_lv (lv' := [some (.ref x0), some (.int (nI au)), some (.int g), some (.int h), some (.int (nI 0)), some (.int (nI (uU S 0))), some (.int (nI (mK S))), some (.int (nI 0)), some (.int (nI 4)), some (.int (nI 1)), none]) rfl ?_
  refine z_iload C dL_orders_142 rfl ?_
  refine z_nif_eq_f C 160 dL_orders_144 (by decide) (by omega) (by omega) ?_
  refine z_aload_n C 0 dL_orders_147 rfl rfl ?_
  refine z_iload_n C 1 dL_orders_148 rfl rfl ?_
  refine z_callV (wn := (WRd X.2.1 x0 h0 h1 w0 w1 t r S o kp Q (tyL tx [48 + dd, 48, 114, 43]) 4 ps3)) C kX5_run gL_orders_X5_run m4 dL_orders_149 [0, 1, 2, 3, 4, 5, 6, 7, 8, 9, 10, 11, 12, 13, 14, 15, 16, 17, 18, 19, 20, 21, 22, 23, 24, 25, 26, 27, 28, 29, 30, 31, 32, 33, 34, 35, 36, 37, 38, 39, 40, 41, 42, 43, 44, 45, 46, 47, 48, 49, 50, 51, 52] [] 0 rfl rfl nd_0_1_2_3_4_5_6_7_8_9_10_11_12_13_14_15_16_17_18_19_20_21_22_23_24_25_26_27_28_29_30_31_32_33_34_35_36_37_38_39_40_41_42_43_44_45_46_47_48_49_50_51_52 rfl rfl rfl (by decide) (by decide) (Nat.le_of_ble_eq_true rfl) rfl ((zput_par nd_0_1_2_3_4_5_6_7_8_9_10_11_12_13_14_15_16_17_18_19_20_21_22_23_24_25_26_27_28_29_30_31_32_33_34_35_36_37_38_39_40_41_42_43_44_45_46_47_48_49_50_51_52 rfl).trans rfl) ?_
  refine z_bipush C (-99) dL_orders_152 (by decide) ?_
  refine z_iload C dL_orders_154 rfl ?_
  refine z_isub C dL_orders_156 ?_
  refine z_top (y := (-103)) (by decide) ?_
  refine z_icmp_eq_t C 162 dL_orders_157 (by decide) rfl ?_
  refine z_aload_n C 0 dL_orders_162 rfl rfl ?_
  have htx2 : ∀ j, tyL tx [48 + dd, 48, 114, 43] j < 65536 := tyL_b htx (by intro c hc9; simp at hc9; omega)
  refine z_callV (wn := (WRd X.2.1 x0 h0 h1 w0 w1 t r S o kp Q (tyL (tyL tx [48 + dd, 48, 114, 43]) []) 0 ps3)) C kX5_clearText gL_orders_X5_clearText (l_clr X.2.1 x0 (t 0) h0 w0 w1 (tyL tx [48 + dd, 48, 114, 43]) 4 ps3 (by decide)) dL_orders_163 [0, 51, 52] [] 0 rfl rfl nd_0_51_52 rfl rfl rfl (by decide) (by decide) (Nat.le_of_ble_eq_true rfl) rfl ((zput_par nd_0_51_52 rfl).trans rfl) ?_
  refine z_pop C dL_orders_166 rfl ?_
  refine z_aload_n C 0 dL_orders_167 rfl rfl ?_
  refine z_bipush C (nI 43) dL_orders_168 (by decide) ?_
  refine z_callV (wn := (WRd X.2.1 x0 h0 h1 w0 w1 t r S o kp Q (tyL (tyL tx [48 + dd, 48, 114, 43]) [43]) 1 ps3)) C kX5_type gL_orders_X5_type (l_typ X.2.1 x0 (t 0) h0 w0 w1 (tyL tx [48 + dd, 48, 114, 43]) [] ps3 43 0 rfl (by decide) htx2 (fun c hc9 => absurd hc9 List.not_mem_nil) (by omega)) dL_orders_170 [0, 51, 52] [] 0 rfl rfl nd_0_51_52 rfl rfl rfl (by decide) (by decide) (Nat.le_of_ble_eq_true rfl) rfl ((zput_par nd_0_51_52 rfl).trans rfl) ?_
  refine z_top (y := nI 1) rfl ?_
  refine z_pop C dL_orders_173 rfl ?_
  refine z_aload_n C 0 dL_orders_174 rfl rfl ?_
  refine z_iload C dL_orders_175 rfl ?_
  refine z_nif_ne_f C 185 dL_orders_177 (by decide) (by omega) (by omega) ?_
  refine z_bipush C (nI 114) dL_orders_180 (by decide) ?_
  refine z_goto C 187 dL_orders_182 (by decide) ?_
  refine z_callV (wn := (WRd X.2.1 x0 h0 h1 w0 w1 t r S o kp Q (tyL (tyL tx [48 + dd, 48, 114, 43]) [114, 43]) 2 ps3)) C kX5_type gL_orders_X5_type (l_typ X.2.1 x0 (t 0) h0 w0 w1 (tyL tx [48 + dd, 48, 114, 43]) [43] ps3 114 1 rfl (by decide) htx2 (by intro c hc9; simp at hc9; omega) (by omega)) dL_orders_187 [0, 51, 52] [] 0 rfl rfl nd_0_51_52 rfl rfl rfl (by decide) (by decide) (Nat.le_of_ble_eq_true rfl) rfl ((zput_par nd_0_51_52 rfl).trans rfl) ?_
  refine z_top (y := nI 2) rfl ?_
  refine z_pop C dL_orders_190 rfl ?_
  refine z_aload_n C 0 dL_orders_191 rfl rfl ?_
  refine z_bipush C (nI 48) dL_orders_192 (by decide) ?_
  refine z_callV (wn := (WRd X.2.1 x0 h0 h1 w0 w1 t r S o kp Q (tyL (tyL tx [48 + dd, 48, 114, 43]) [48, 114, 43]) 3 ps3)) C kX5_type gL_orders_X5_type (l_typ X.2.1 x0 (t 0) h0 w0 w1 (tyL tx [48 + dd, 48, 114, 43]) [114, 43] ps3 48 2 rfl (by decide) htx2 (by intro c hc9; simp at hc9; omega) (by omega)) dL_orders_194 [0, 51, 52] [] 0 rfl rfl nd_0_51_52 rfl rfl rfl (by decide) (by decide) (Nat.le_of_ble_eq_true rfl) rfl ((zput_par nd_0_51_52 rfl).trans rfl) ?_
  refine z_top (y := nI 3) rfl ?_
  refine z_pop C dL_orders_197 rfl ?_
  refine z_aload_n C 0 dL_orders_198 rfl rfl ?_
  refine z_bipush C (nI 32) dL_orders_199 (by decide) ?_
  refine z_callV (wn := (WRd X.2.1 x0 h0 h1 w0 w1 t r S o kp Q (tyL (tyL tx [48 + dd, 48, 114, 43]) [32, 48, 114, 43]) 4 ps3)) C kX5_type gL_orders_X5_type (l_typ X.2.1 x0 (t 0) h0 w0 w1 (tyL tx [48 + dd, 48, 114, 43]) [48, 114, 43] ps3 32 3 rfl (by decide) htx2 (by intro c hc9; simp at hc9; omega) (by omega)) dL_orders_201 [0, 51, 52] [] 0 rfl rfl nd_0_51_52 rfl rfl rfl (by decide) (by decide) (Nat.le_of_ble_eq_true rfl) rfl ((zput_par nd_0_51_52 rfl).trans rfl) ?_
  refine z_top (y := nI 4) rfl ?_
  refine z_pop C dL_orders_204 rfl ?_
  refine z_aload_n C 0 dL_orders_205 rfl rfl ?_
  refine z_bipush C (nI 43) dL_orders_206 (by decide) ?_
  refine z_callV (wn := (WRd X.2.1 x0 h0 h1 w0 w1 t r S o kp Q (tyL (tyL tx [48 + dd, 48, 114, 43]) [43, 32, 48, 114, 43]) 5 ps3)) C kX5_type gL_orders_X5_type (l_typ X.2.1 x0 (t 0) h0 w0 w1 (tyL tx [48 + dd, 48, 114, 43]) [32, 48, 114, 43] ps3 43 4 rfl (by decide) htx2 (by intro c hc9; simp at hc9; omega) (by omega)) dL_orders_208 [0, 51, 52] [] 0 rfl rfl nd_0_51_52 rfl rfl rfl (by decide) (by decide) (Nat.le_of_ble_eq_true rfl) rfl ((zput_par nd_0_51_52 rfl).trans rfl) ?_
  refine z_top (y := nI 5) rfl ?_
  refine z_pop C dL_orders_211 rfl ?_
  refine z_aload_n C 0 dL_orders_212 rfl rfl ?_
  refine z_iload C dL_orders_213 rfl ?_
  refine z_nif_ne_f C 223 dL_orders_215 (by decide) (by omega) (by omega) ?_
  refine z_bipush C (nI 114) dL_orders_218 (by decide) ?_
  refine z_goto C 225 dL_orders_220 (by decide) ?_
  refine z_callV (wn := (WRd X.2.1 x0 h0 h1 w0 w1 t r S o kp Q (tyL (tyL tx [48 + dd, 48, 114, 43]) [114, 43, 32, 48, 114, 43]) 6 ps3)) C kX5_type gL_orders_X5_type (l_typ X.2.1 x0 (t 0) h0 w0 w1 (tyL tx [48 + dd, 48, 114, 43]) [43, 32, 48, 114, 43] ps3 114 5 rfl (by decide) htx2 (by intro c hc9; simp at hc9; omega) (by omega)) dL_orders_225 [0, 51, 52] [] 0 rfl rfl nd_0_51_52 rfl rfl rfl (by decide) (by decide) (Nat.le_of_ble_eq_true rfl) rfl ((zput_par nd_0_51_52 rfl).trans rfl) ?_
  refine z_top (y := nI 6) rfl ?_
  refine z_pop C dL_orders_228 rfl ?_
  refine z_aload_n C 0 dL_orders_229 rfl rfl ?_
  refine z_bipush C (nI 57) dL_orders_230 (by decide) ?_
  refine z_callV (wn := (WRd X.2.1 x0 h0 h1 w0 w1 t r S o kp Q (tyL (tyL tx [48 + dd, 48, 114, 43]) [57, 114, 43, 32, 48, 114, 43]) 7 ps3)) C kX5_type gL_orders_X5_type (l_typ X.2.1 x0 (t 0) h0 w0 w1 (tyL tx [48 + dd, 48, 114, 43]) [114, 43, 32, 48, 114, 43] ps3 57 6 rfl (by decide) htx2 (by intro c hc9; simp at hc9; omega) (by omega)) dL_orders_232 [0, 51, 52] [] 0 rfl rfl nd_0_51_52 rfl rfl rfl (by decide) (by decide) (Nat.le_of_ble_eq_true rfl) rfl ((zput_par nd_0_51_52 rfl).trans rfl) ?_
  refine z_top (y := nI 7) rfl ?_
  refine z_pop C dL_orders_235 rfl ?_
  refine z_aload_n C 0 dL_orders_236 rfl rfl ?_
  refine z_bipush C (nI 57) dL_orders_237 (by decide) ?_
  refine z_callV (wn := (WRd X.2.1 x0 h0 h1 w0 w1 t r S o kp Q (tyL (tyL tx [48 + dd, 48, 114, 43]) [57, 57, 114, 43, 32, 48, 114, 43]) 8 ps3)) C kX5_type gL_orders_X5_type (l_typ X.2.1 x0 (t 0) h0 w0 w1 (tyL tx [48 + dd, 48, 114, 43]) [57, 114, 43, 32, 48, 114, 43] ps3 57 7 rfl (by decide) htx2 (by intro c hc9; simp at hc9; omega) (by omega)) dL_orders_239 [0, 51, 52] [] 0 rfl rfl nd_0_51_52 rfl rfl rfl (by decide) (by decide) (Nat.le_of_ble_eq_true rfl) rfl ((zput_par nd_0_51_52 rfl).trans rfl) ?_
  refine z_top (y := nI 8) rfl ?_
  refine z_istore C dL_orders_242 (Nat.le_of_ble_eq_true rfl) ?_
  refine z_lv (lv' := [some (.ref x0), some (.int (nI au)), some (.int g), some (.int h), some (.int (nI 0)), some (.int (nI (uU S 0))), some (.int (nI (mK S))), some (.int (nI 0)), some (.int (nI 8)), some (.int (nI 1)), none]) rfl ?_
  refine z_iload C dL_orders_244 rfl ?_
  refine z_iload C dL_orders_246 rfl ?_
  refine z_nif_ne_f C 256 dL_orders_248 (by decide) (by omega) (by omega) ?_
  refine z_bipush C (nI 12) dL_orders_251 (by decide) ?_
  refine z_goto C 258 dL_orders_253 (by decide) ?_
  refine z_ncmp_eq_f C 273 dL_orders_258 (by decide) (by omega) (by omega) (by omega) ?_
  refine z_iload C dL_orders_261 rfl ?_
  refine z_nif_eq_t C 277 dL_orders_263 (by decide) (by omega) (by omega) ?_
  refine z_iconst C (nI 1) dL_orders_277 (by decide) ?_
  refine z_istore C dL_orders_278 (Nat.le_of_ble_eq_true rfl) ?_
  refine z_lv (lv' := [some (.ref x0), some (.int (nI au)), some (.int g), some (.int h), some (.int (nI 0)), some (.int (nI (uU S 0))), some (.int (nI (mK S))), some (.int (nI 0)), some (.int (nI 8)), some (.int (nI 1)), some (.int (nI 1))]) rfl ?_
  refine z_aload_n C 0 dL_orders_280 rfl rfl ?_
  refine z_iload_n C 1 dL_orders_281 rfl rfl ?_
  refine z_callV (wn := (WRd X.2.1 x0 h0 h1 w0 w1 t r S1 o1 kp1 Q1 (tyL (tyL tx [48 + dd, 48, 114, 43]) [57, 57, 114, 43, 32, 48, 114, 43]) 8 ps4)) C kX5_run gL_orders_X5_run m5 dL_orders_282 [0, 1, 2, 3, 4, 5, 6, 7, 8, 9, 10, 11, 12, 13, 14, 15, 16, 17, 18, 19, 20, 21, 22, 23, 24, 25, 26, 27, 28, 29, 30, 31, 32, 33, 34, 35, 36, 37, 38, 39, 40, 41, 42, 43, 44, 45, 46, 47, 48, 49, 50, 51, 52] [] 0 rfl rfl nd_0_1_2_3_4_5_6_7_8_9_10_11_12_13_14_15_16_17_18_19_20_21_22_23_24_25_26_27_28_29_30_31_32_33_34_35_36_37_38_39_40_41_42_43_44_45_46_47_48_49_50_51_52 rfl rfl rfl (by decide) (by decide) (Nat.le_of_ble_eq_true rfl) rfl ((zput_par nd_0_1_2_3_4_5_6_7_8_9_10_11_12_13_14_15_16_17_18_19_20_21_22_23_24_25_26_27_28_29_30_31_32_33_34_35_36_37_38_39_40_41_42_43_44_45_46_47_48_49_50_51_52 rfl).trans rfl) ?_
  refine z_iload C dL_orders_285 rfl ?_
  refine z_ncmp_ne_f C 305 dL_orders_287 (by decide) (by omega) (by omega) (by omega) ?_
  refine z_aload_n C 0 dL_orders_290 rfl rfl ?_
  refine z_iconst C (nI 0) dL_orders_291 (by decide) ?_
  refine z_iload C dL_orders_292 rfl ?_
  refine z_callVr C kX5_size gL_orders_X5_size (l_size0 X.2.1 x0 h0 w0 t S1 0 hG1 (by decide)) dL_orders_294 [0, 1, 2, 3, 4, 5, 6, 7, 8] [] 0 rfl nd_0_1_2_3_4_5_6_7_8 rfl rfl rfl (by decide) (by decide) (Nat.le_of_ble_eq_true rfl) rfl ?_
  refine z_iload C dL_orders_297 rfl ?_
  refine z_iload C dL_orders_299 rfl ?_
  refine z_iadd C dL_orders_301 ?_
  refine z_top (y := nI ((uU S 0) + 1)) (nI_add _ _) ?_
  refine z_ncmp_eq_t C 307 dL_orders_302 (by decide) (by omega) (by omega) (by omega) ?_
  refine z_aload_n C 0 dL_orders_307 rfl rfl ?_
  refine z_bipush C (nI 57) dL_orders_308 (by decide) ?_
  refine z_callV (wn := (WRd X.2.1 x0 h0 h1 w0 w1 t r S1 o1 kp1 Q1 (tyL (tyL tx [48 + dd, 48, 114, 43]) [57, 57, 57, 114, 43, 32, 48, 114, 43]) 9 ps4)) C kX5_type gL_orders_X5_type (l_typ X.2.1 x0 (t 0) h0 w0 w1 (tyL tx [48 + dd, 48, 114, 43]) [57, 57, 114, 43, 32, 48, 114, 43] ps4 57 8 rfl (by decide) htx2 (by intro c hc9; simp at hc9; omega) (by omega)) dL_orders_310 [0, 51, 52] [] 0 rfl rfl nd_0_51_52 rfl rfl rfl (by decide) (by decide) (Nat.le_of_ble_eq_true rfl) rfl ((zput_par nd_0_51_52 rfl).trans rfl) ?_
  refine z_top (y := nI 9) rfl ?_
  refine z_pop C dL_orders_313 rfl ?_
  refine z_aload_n C 0 dL_orders_314 rfl rfl ?_
  refine z_iload_n C 1 dL_orders_315 rfl rfl ?_
  refine z_callV (wn := (WRd X.2.1 x0 h0 h1 w0 w1 t r S1 o1 kp1 Q1 (tyL (tyL tx [48 + dd, 48, 114, 43]) [57, 57, 57, 114, 43, 32, 48, 114, 43]) 9 ps5)) C kX5_run gL_orders_X5_run m6 dL_orders_316 [0, 1, 2, 3, 4, 5, 6, 7, 8, 9, 10, 11, 12, 13, 14, 15, 16, 17, 18, 19, 20, 21, 22, 23, 24, 25, 26, 27, 28, 29, 30, 31, 32, 33, 34, 35, 36, 37, 38, 39, 40, 41, 42, 43, 44, 45, 46, 47, 48, 49, 50, 51, 52] [] 0 rfl rfl nd_0_1_2_3_4_5_6_7_8_9_10_11_12_13_14_15_16_17_18_19_20_21_22_23_24_25_26_27_28_29_30_31_32_33_34_35_36_37_38_39_40_41_42_43_44_45_46_47_48_49_50_51_52 rfl rfl rfl (by decide) (by decide) (Nat.le_of_ble_eq_true rfl) rfl ((zput_par nd_0_1_2_3_4_5_6_7_8_9_10_11_12_13_14_15_16_17_18_19_20_21_22_23_24_25_26_27_28_29_30_31_32_33_34_35_36_37_38_39_40_41_42_43_44_45_46_47_48_49_50_51_52 rfl).trans rfl) ?_
  refine z_bipush C (-100) dL_orders_319 (by decide) ?_
  refine z_iload C dL_orders_321 rfl ?_
  refine z_isub C dL_orders_323 ?_
  refine z_top (y := (-108)) (by decide) ?_
  refine z_icmp_ne_f C 360 dL_orders_324 (by decide) rfl ?_
  refine z_aload_n C 0 dL_orders_327 rfl rfl ?_
  refine z_callV (wn := (WRd X.2.1 x0 h0 h1 w0 w1 t r S o2 kp2 Q1 (tyL (tyL tx [48 + dd, 48, 114, 43]) [57, 57, 57, 114, 43, 32, 48, 114, 43]) 9 ps5)) C kX5_undo gL_orders_X5_undo m7 dL_orders_328 [0, 1, 2, 3, 4, 5, 6, 7, 8, 9, 10, 11, 12, 13, 14, 15, 16, 17, 18, 19, 20, 21, 22, 23, 24, 25, 26, 27, 28, 29, 30, 31, 32, 33, 34, 35, 36, 37, 38, 39, 40, 41, 42, 43, 44, 45, 46, 47, 48, 49, 50] [] 0 rfl rfl nd_0_1_2_3_4_5_6_7_8_9_10_11_12_13_14_15_16_17_18_19_20_21_22_23_24_25_26_27_28_29_30_31_32_33_34_35_36_37_38_39_40_41_42_43_44_45_46_47_48_49_50 rfl rfl rfl (by decide) (by decide) (Nat.le_of_ble_eq_true rfl) rfl ((zput_par nd_0_1_2_3_4_5_6_7_8_9_10_11_12_13_14_15_16_17_18_19_20_21_22_23_24_25_26_27_28_29_30_31_32_33_34_35_36_37_38_39_40_41_42_43_44_45_46_47_48_49_50 rfl).trans rfl) ?_
  refine z_nif_lt_f C 360 dL_orders_331 (by decide) (by omega) (by trivial) ?_
  refine z_aload_n C 0 dL_orders_334 rfl rfl ?_
  refine z_iconst C (nI 0) dL_orders_335 (by decide) ?_
  refine z_iload C dL_orders_336 rfl ?_
  refine z_callVr C kX5_size gL_orders_X5_size (l_size0 X.2.1 x0 h0 w0 t S 0 hG (by decide)) dL_orders_338 [0, 1, 2, 3, 4, 5, 6, 7, 8] [] 0 rfl nd_0_1_2_3_4_5_6_7_8 rfl rfl rfl (by decide) (by decide) (Nat.le_of_ble_eq_true rfl) rfl ?_
  refine z_iload C dL_orders_341 rfl ?_
  refine z_ncmp_ne_f C 360 dL_orders_343 (by decide) (by omega) (by omega) (by omega) ?_
  refine z_aload_n C 0 dL_orders_346 rfl rfl ?_
  refine z_iconst C (nI 0) dL_orders_347 (by decide) ?_
  refine z_callVr C kX5_count gL_orders_X5_count (l_cnt0 X.2.1 x0 h0 h1 w0 w1 t S o2 kp2 9 ps5  hG ) dL_orders_348 [0, 1, 2, 3, 4, 5, 6, 7, 8, 9, 51] [] 0 rfl nd_0_1_2_3_4_5_6_7_8_9_51 rfl rfl rfl (by decide) (by decide) (Nat.le_of_ble_eq_true rfl) rfl ?_
  refine z_iload C dL_orders_351 rfl ?_
  refine z_ncmp_ne_f C 360 dL_orders_353 (by decide) (by omega) (by omega) (by omega) ?_
  refine z_iconst C (nI 1) dL_orders_356 (by decide) ?_
  refine z_goto C 361 dL_orders_357 (by decide) ?_
  exact z_zret C N dL_orders_361 rfl (rfl) (rfl)

set_option maxHeartbeats 4000000 in
set_option maxRecDepth 100000 in
theorem w_ord00t (E : zE) (x0 h0 h1 w0 w1 : Nat) (t : Nat → Nat) (r : Nat → Nat → Nat) (S S1 : zSt) (o kp o1 o2 kp1 kp2 : Nat) (Q Q1 : Nat → zSt) (tx : Nat → Nat) (ln : Nat) (ps ps1 ps2 ps3 ps4 ps5 : zPs) {B B1 : Nat} (au : Nat) (g h : Int32) (dd lf : Nat) (hG : GG S B) (hG1 : GG S1 B1) (hau : au < 4) (hg1 : g &&& (nI 1) = nI 0) (hg2 : g &&& (nI 2) = 0) (hd : lw h 10 = dd) (hdd : dd < 10) (hln : ln ≤ 60) (htx : ∀ j, tx j < 65536) (hlf : lf < 100) (hu : uU S1 0 = uU S 0 + 1) (hf : uU S 0 < 12) (ht : tK S = true) (hm : mK S < 60) (m1 : zM E yX5_run wsX5_run 8 [.ref x0, .int (nI au)] (WRd E x0 h0 h1 w0 w1 t r S o kp Q (tyL tx []) 0 ps) (WRd E x0 h0 h1 w0 w1 t r S o kp Q (tyL tx []) 0 ps1) (some (.int (-100)))) (m2 : zM E yX5_run wsX5_run 8 [.ref x0, .int (nI 4)] (WRd E x0 h0 h1 w0 w1 t r S o kp Q (tyL tx []) 0 ps1) (WRd E x0 h0 h1 w0 w1 t r S o kp Q (tyL tx []) 0 ps1) (some (.int (-1)))) (m3 : zM E yX5_run wsX5_run 8 [.ref x0, .int (nI au)] (WRd E x0 h0 h1 w0 w1 t r S o kp Q (tyL tx [43]) 1 ps1) (WRd E x0 h0 h1 w0 w1 t r S o kp Q (tyL tx [43]) 1 ps2) (some (.int (-101)))) (m4 : zM E yX5_run wsX5_run 8 [.ref x0, .int (nI au)] (WRd E x0 h0 h1 w0 w1 t r S o kp Q (tyL tx [48 + dd, 48, 114, 43]) 4 ps2) (WRd E x0 h0 h1 w0 w1 t r S o kp Q (tyL tx [48 + dd, 48, 114, 43]) 4 ps3) (some (.int (-103)))) (m5 : zM E yX5_run wsX5_run 8 [.ref x0, .int (nI au)] (WRd E x0 h0 h1 w0 w1 t r S o kp Q (tyL (tyL tx [48 + dd, 48, 114, 43]) [57, 57, 114, 43, 32, 48, 114, 43]) 8 ps3) (WRd E x0 h0 h1 w0 w1 t r S1 o1 kp1 Q1 (tyL (tyL tx [48 + dd, 48, 114, 43]) [57, 57, 114, 43, 32, 48, 114, 43]) 8 ps4) (some (.int (nI 1)))) (m6 : zM E yX5_run wsX5_run 8 [.ref x0, .int (nI au)] (WRd E x0 h0 h1 w0 w1 t r S1 o1 kp1 Q1 (tyL (tyL tx [48 + dd, 48, 114, 43]) [57, 57, 57, 114, 43, 32, 48, 114, 43]) 9 ps4) (WRd E x0 h0 h1 w0 w1 t r S1 o1 kp1 Q1 (tyL (tyL tx [48 + dd, 48, 114, 43]) [57, 57, 57, 114, 43, 32, 48, 114, 43]) 9 ps5) (some (.int (-108)))) (m7 : zM E yX5_undo wsX5_undo 5 [.ref x0] (WAd E x0 h0 h1 w0 t r S1 o1 kp1 Q1) (WAd E x0 h0 h1 w0 t r S o2 kp2 Q1) (some (.int (nI lf)))) : zM E yL_orders wsL_orders 9 [.ref x0, .int (nI au), .int g, .int h] (WRd E x0 h0 h1 w0 w1 t r S o kp Q tx ln ps) (WRd E x0 h0 h1 w0 w1 t r S o2 kp2 Q1 (tyL (tyL tx [48 + dd, 48, 114, 43]) [57, 57, 57, 114, 43, 32, 48, 114, 43]) 9 ps5) (some (.int (nI 1))) := by
  refine zM.of kL_orders (Nat.le_of_ble_eq_true rfl) rfl [some (.ref x0), some (.int (nI au)), some (.int g), some (.int h), none, none, none, none, none, none, none] rfl (Nat.le_of_ble_eq_true rfl) ?_
  intro X eX C N
  subst eX
  have hb0 : uU S 0 ≤ 12 := gg_u hG 0
  have hb1 : uU S 1 ≤ 8 := gg_u1 hG
  have hb2 : mK S ≤ 60 := gg_M hG
  have hb3 : uU S1 0 ≤ 12 := gg_u hG1 0
  have hb4 : uU S1 1 ≤ 8 := gg_u1 hG1
  have hb5 : mK S1 ≤ 60 := gg_M hG1
  refine z_aload_n C 0 dL_orders_0 rfl rfl ?_
  refine z_callV (wn := (WRd X.2.1 x0 h0 h1 w0 w1 t r S o kp Q (tyL tx []) 0 ps)) C kX5_clearText gL_orders_X5_clearText (l_clr X.2.1 x0 (t 0) h0 w0 w1 tx ln ps hln) dL_orders_1 [0, 51, 52] [] 0 rfl rfl nd_0_51_52 rfl rfl rfl (by decide) (by decide) (Nat.le_of_ble_eq_true rfl) rfl ((zput_par nd_0_51_52 rfl).trans rfl) ?_
  refine z_pop C dL_orders_4 rfl ?_
  refine z_aload_n C 0 dL_orders_5 rfl rfl ?_
  refine z_iload_n C 1 dL_orders_6 rfl rfl ?_
  refine z_callV (wn := (WRd X.2.1 x0 h0 h1 w0 w1 t r S o kp Q (tyL tx []) 0 ps1)) C kX5_run gL_orders_X5_run m1 dL_orders_7 [0, 1, 2, 3, 4, 5, 6, 7, 8, 9, 10, 11, 12, 13, 14, 15, 16, 17, 18, 19, 20, 21, 22, 23, 24, 25, 26, 27, 28, 29, 30, 31, 32, 33, 34, 35, 36, 37, 38, 39, 40, 41, 42, 43, 44, 45, 46, 47, 48, 49, 50, 51, 52] [] 0 rfl rfl nd_0_1_2_3_4_5_6_7_8_9_10_11_12_13_14_15_16_17_18_19_20_21_22_23_24_25_26_27_28_29_30_31_32_33_34_35_36_37_38_39_40_41_42_43_44_45_46_47_48_49_50_51_52 rfl rfl rfl (by decide) (by decide) (Nat.le_of_ble_eq_true rfl) rfl ((zput_par nd_0_1_2_3_4_5_6_7_8_9_10_11_12_13_14_15_16_17_18_19_20_21_22_23_24_25_26_27_28_29_30_31_32_33_34_35_36_37_38_39_40_41_42_43_44_45_46_47_48_49_50_51_52 rfl).trans rfl) ?_
  refine z_bipush C (-100) dL_orders_10 (by decide) ?_
  refine z_icmp_ne_f C 24 dL_orders_12 (by decide) rfl ?_
  refine z_aload_n C 0 dL_orders_15 rfl rfl ?_
  refine z_iconst C (nI 4) dL_orders_16 (by decide) ?_
  refine z_callV (wn := (WRd X.2.1 x0 h0 h1 w0 w1 t r S o kp Q (tyL tx []) 0 ps1)) C kX5_run gL_orders_X5_run m2 dL_orders_17 [0, 1, 2, 3, 4, 5, 6, 7, 8, 9, 10, 11, 12, 13, 14, 15, 16, 17, 18, 19, 20, 21, 22, 23, 24, 25, 26, 27, 28, 29, 30, 31, 32, 33, 34, 35, 36, 37, 38, 39, 40, 41, 42, 43, 44, 45, 46, 47, 48, 49, 50, 51, 52] [] 0 rfl rfl nd_0_1_2_3_4_5_6_7_8_9_10_11_12_13_14_15_16_17_18_19_20_21_22_23_24_25_26_27_28_29_30_31_32_33_34_35_36_37_38_39_40_41_42_43_44_45_46_47_48_49_50_51_52 rfl rfl rfl (by decide) (by decide) (Nat.le_of_ble_eq_true rfl) rfl ((zput_par nd_0_1_2_3_4_5_6_7_8_9_10_11_12_13_14_15_16_17_18_19_20_21_22_23_24_25_26_27_28_29_30_31_32_33_34_35_36_37_38_39_40_41_42_43_44_45_46_47_48_49_50_51_52 rfl).trans rfl) ?_
  refine z_iconst C (-1) dL_orders_20 (by decide) ?_
  refine z_icmp_eq_t C 26 dL_orders_21 (by decide) rfl ?_
  refine z_iload_n C 2 dL_orders_26 rfl rfl ?_
  refine z_iconst C (nI 1) dL_orders_27 (by decide) ?_
  refine z_iand C dL_orders_28 ?_
  refine z_top (y := nI 0) (hg1) ?_
  refine z_istore C dL_orders_29 (Nat.le_of_ble_eq_true rfl) ?_
  refine z_lv (lv' := [some (.ref x0), some (.int (nI au)), some (.int g), some (.int h), some (.int (nI 0)), none, none, none, none, none, none]) rfl ?_
  refine z_aload_n C 0 dL_orders_31 rfl rfl ?_
  refine z_iconst C (nI 0) dL_orders_32 (by decide) ?_
  refine z_iload C dL_orders_33 rfl ?_
  refine z_callVr C kX5_size gL_orders_X5_size (l_size0 X.2.1 x0 h0 w0 t S 0 hG (by decide)) dL_orders_35 [0, 1, 2, 3, 4, 5, 6, 7, 8] [] 0 rfl nd_0_1_2_3_4_5_6_7_8 rfl rfl rfl (by decide) (by decide) (Nat.le_of_ble_eq_true rfl) rfl ?_
  refine z_istore C dL_orders_38 (Nat.le_of_ble_eq_true rfl) ?_
  refine z_lv (lv' := [some (.ref x0), some (.int (nI au)), some (.int g), some (.int h), some (.int (nI 0)), some (.int (nI (uU S 0))), none, none, none, none, none]) rfl ?_
  refine z_aload_n C 0 dL_orders_40 rfl rfl ?_
  refine z_iconst C (nI 0) dL_orders_41 (by decide) ?_
  refine z_callVr C kX5_count gL_orders_X5_count (l_cnt0 X.2.1 x0 h0 h1 w0 w1 t S o kp 0 ps1  hG ) dL_orders_42 [0, 1, 2, 3, 4, 5, 6, 7, 8, 9, 51] [] 0 rfl nd_0_1_2_3_4_5_6_7_8_9_51 rfl rfl rfl (by decide) (by decide) (Nat.le_of_ble_eq_true rfl) rfl ?_
  refine z_istore C dL_orders_45 (Nat.le_of_ble_eq_true rfl) ?_
  refine z_lv (lv' := [some (.ref x0), some (.int (nI au)), some (.int g), some (.int h), some (.int (nI 0)), some (.int (nI (uU S 0))), some (.int (nI (mK S))), none, none, none, none]) rfl ?_
  refine z_aload_n C 0 dL_orders_47 rfl rfl ?_
  refine z_iconst C (nI 5) dL_orders_48 (by decide) ?_
  refine z_callVr C kX5_count gL_orders_X5_count (l_cnt5y X.2.1 x0 h0 h1 w0 w1 t S o kp 0 ps1  hG ht) dL_orders_49 [0, 1, 2, 3, 4, 5, 6, 7, 8, 9, 51] [] 0 rfl nd_0_1_2_3_4_5_6_7_8_9_51 rfl rfl rfl (by decide) (by decide) (Nat.le_of_ble_eq_true rfl) rfl ?_
  refine z_iconst C (nI 1) dL_orders_52 (by decide) ?_
  refine z_ncmp_ne_f C 60 dL_orders_53 (by decide) (by omega) (by omega) (by omega) ?_
  refine z_iconst C (nI 1) dL_orders_56 (by decide) ?_
  refine z_goto C 61 dL_orders_57 (by decide) ?_
  refine z_istore C dL_orders_61 (Nat.le_of_ble_eq_true rfl) ?_
  refine z_lv (lv' := [some (.ref x0), some (.int (nI au)), some (.int g), some (.int h), some (.int (nI 0)), some (.int (nI (uU S 0))), some (.int (nI (mK S))), some (.int (nI 1)), none, none, none]) rfl ?_
  refine z_aload_n C 0 dL_orders_63 rfl rfl ?_
  refine z_iload_n C 2 dL_orders_64 rfl rfl ?_
  refine z_iconst C (nI 2) dL_orders_65 (by decide) ?_
  refine z_iand C dL_orders_66 ?_
  refine z_if_ne_f C 75 dL_orders_67 (by decide) hg2 ?_
  refine z_bipush C (nI 43) dL_orders_70 (by decide) ?_
  refine z_goto C 77 dL_orders_72 (by decide) ?_
  refine z_callV (wn := (WRd X.2.1 x0 h0 h1 w0 w1 t r S o kp Q (tyL tx [43]) 1 ps1)) C kX5_type gL_orders_X5_type (l_typ X.2.1 x0 (t 0) h0 w0 w1 tx [] ps1 43 0 rfl (by decide) htx (fun c hc9 => absurd hc9 List.not_mem_nil) (by omega)) dL_orders_77 [0, 51, 52] [] 0 rfl rfl nd_0_51_52 rfl rfl rfl (by decide) (by decide) (Nat.le_of_ble_eq_true rfl) rfl ((zput_par nd_0_51_52 rfl).trans rfl) ?_
  refine z_top (y := nI 1) rfl ?_
  refine z_istore C dL_orders_80 (Nat.le_of_ble_eq_true rfl) ?_
  refine z_lv (lv' := [some (.ref x0), some (.int (nI au)), some (.int g), some (.int h), some (.int (nI 0)), some (.int (nI (uU S 0))), some (.int (nI (mK S))), some (.int (nI 1)), some (.int (nI 1)), none, none]) rfl ?_
  refine z_aload_n C 0 dL_orders_82 rfl rfl ?_
  refine z_iload_n C 1 dL_orders_83 rfl rfl ?_
  refine z_callV (wn := (WRd X.2.1 x0 h0 h1 w0 w1 t r S o kp Q (tyL tx [43]) 1 ps2)) C kX5_run gL_orders_X5_run m3 dL_orders_84 [0, 1, 2, 3, 4, 5, 6, 7, 8, 9, 10, 11, 12, 13, 14, 15, 16, 17, 18, 19, 20, 21, 22, 23, 24, 25, 26, 27, 28, 29, 30, 31, 32, 33, 34, 35, 36, 37, 38, 39, 40, 41, 42, 43, 44, 45, 46, 47, 48, 49, 50, 51, 52] [] 0 rfl rfl nd_0_1_2_3_4_5_6_7_8_9_10_11_12_13_14_15_16_17_18_19_20_21_22_23_24_25_26_27_28_29_30_31_32_33_34_35_36_37_38_39_40_41_42_43_44_45_46_47_48_49_50_51_52 rfl rfl rfl (by decide) (by decide) (Nat.le_of_ble_eq_true rfl) rfl ((zput_par nd_0_1_2_3_4_5_6_7_8_9_10_11_12_13_14_15_16_17_18_19_20_21_22_23_24_25_26_27_28_29_30_31_32_33_34_35_36_37_38_39_40_41_42_43_44_45_46_47_48_49_50_51_52 rfl).trans rfl) ?_
  refine z_bipush C (-100) dL_orders_87 (by decide) ?_
  refine z_iload C dL_orders_89 rfl ?_
  refine z_isub C dL_orders_91 ?_
  refine z_top (y := (-101)) (by decide) ?_
  refine z_icmp_ne_f C 99 dL_orders_92 (by decide) rfl ?_
  refine z_iconst C (nI 1) dL_orders_95 (by decide) ?_
  refine z_goto C 100 dL_orders_96 (by decide) ?_
  refine z_istore C dL_orders_100 (Nat.le_of_ble_eq_true rfl) ?_
  refine z_lv (lv' := [some (.ref x0), some (.int (nI au)), some (.int g), some (.int h), some (.int (nI 0)), some (.int (nI (uU S 0))), some (.int (nI (mK S))), some (.int (nI 1)), some (.int (nI 1)), some (.int (nI 1)), none]) rfl ?_
  refine z_aload_n C 0 dL_orders_102 rfl rfl ?_
  refine z_iload C dL_orders_103 rfl ?_
  refine z_nif_ne_f C 113 dL_orders_105 (by decide) (by omega) (by omega) ?_
  refine z_bipush C (nI 114) dL_orders_108 (by decide) ?_
  refine z_goto C 115 dL_orders_110 (by decide) ?_
  refine z_callV (wn := (WRd X.2.1 x0 h0 h1 w0 w1 t r S o kp Q (tyL tx [114, 43]) 2 ps2)) C kX5_type gL_orders_X5_type (l_typ X.2.1 x0 (t 0) h0 w0 w1 tx [43] ps2 114 1 rfl (by decide) htx (by intro c hc9; simp at hc9; omega) (by omega)) dL_orders_115 [0, 51, 52] [] 0 rfl rfl nd_0_51_52 rfl rfl rfl (by decide) (by decide) (Nat.le_of_ble_eq_true rfl) rfl ((zput_par nd_0_51_52 rfl).trans rfl) ?_
  refine z_top (y := nI 2) rfl ?_
  refine z_pop C dL_orders_118 rfl ?_
  refine z_aload_n C 0 dL_orders_119 rfl rfl ?_
  refine z_bipush C (nI 48) dL_orders_120 (by decide) ?_
  refine z_callV (wn := (WRd X.2.1 x0 h0 h1 w0 w1 t r S o kp Q (tyL tx [48, 114, 43]) 3 ps2)) C kX5_type gL_orders_X5_type (l_typ X.2.1 x0 (t 0) h0 w0 w1 tx [114, 43] ps2 48 2 rfl (by decide) htx (by intro c hc9; simp at hc9; omega) (by omega)) dL_orders_122 [0, 51, 52] [] 0 rfl rfl nd_0_51_52 rfl rfl rfl (by decide) (by decide) (Nat.le_of_ble_eq_true rfl) rfl ((zput_par nd_0_51_52 rfl).trans rfl) ?_
  refine z_top (y := nI 3) rfl ?_
  refine z_pop C dL_orders_125 rfl ?_
  refine z_aload_n C 0 dL_orders_126 rfl rfl ?_
  refine z_bipush C (nI 48) dL_orders_127 (by decide) ?_
  refine z_iload_n C 3 dL_orders_129 rfl rfl ?_
  refine z_bipush C (nI 10) dL_orders_130 (by decide) ?_
  refine z_callS C kL_low gL_orders_L_low (l_low X.2.1 h 10 (by decide) (by decide)) dL_orders_132 [.int (nI 48), .ref x0] rfl (by decide) (by decide) (Nat.le_of_ble_eq_true rfl) rfl ?_
  refine z_top (y := nI dd) (congrArg nI hd) ?_
  refine z_iadd C dL_orders_135 ?_
  refine z_top (y := nI (48 + dd)) (nI_add _ _) ?_
  refine z_i2c C (nI (48 + dd)) dL_orders_136 (chr_n (by omega)) ?_
  refine z_callV (wn := (WRd X.2.1 x0 h0 h1 w0 w1 t r S o kp Q (tyL tx [48 + dd, 48, 114, 43]) 4 ps2)) C kX5_type gL_orders_X5_type (l_typ X.2.1 x0 (t 0) h0 w0 w1 tx [48, 114, 43] ps2 (48 + dd) 3 rfl (by decide) htx (by intro c hc9; simp at hc9; omega) (by omega)) dL_orders_137 [0, 51, 52] [] 0 rfl rfl nd_0_51_52 rfl rfl rfl (by decide) (by decide) (Nat.le_of_ble_eq_true rfl) rfl ((zput_par nd_0_51_52 rfl).trans rfl) ?_
  refine z_top (y := nI 4) rfl ?_
  refine z_istore C dL_orders_140 (Nat.le_of_ble_eq_true rfl) ?_
  refine z_lv (lv' := [some (.ref x0), some (.int (nI au)), some (.int g), some (.int h), some (.int (nI 0)), some (.int (nI (uU S 0))), some (.int (nI (mK S))), some (.int (nI 1)), some (.int (nI 4)), some (.int (nI 1)), none]) rfl ?_
  refine z_iload C dL_orders_142 rfl ?_
  refine z_nif_eq_f C 160 dL_orders_144 (by decide) (by omega) (by omega) ?_
  refine z_aload_n C 0 dL_orders_147 rfl rfl ?_
  refine z_iload_n C 1 dL_orders_148 rfl rfl ?_
  refine z_callV (wn := (WRd X.2.1 x0 h0 h1 w0 w1 t r S o kp Q (tyL tx [48 + dd, 48, 114, 43]) 4 ps3)) C kX5_run gL_orders_X5_run m4 dL_orders_149 [0, 1, 2, 3, 4, 5, 6, 7, 8, 9, 10, 11, 12, 13, 14, 15, 16, 17, 18, 19, 20, 21, 22, 23, 24, 25, 26, 27, 28, 29, 30, 31, 32, 33, 34, 35, 36, 37, 38, 39, 40, 41, 42, 43, 44, 45, 46, 47, 48, 49, 50, 51, 52] [] 0 rfl rfl nd_0_1_2_3_4_5_6_7_8_9_10_11_12_13_14_15_16_17_18_19_20_21_22_23_24_25_26_27_28_29_30_31_32_33_34_35_36_37_38_39_40_41_42_43_44_45_46_47_48_49_50_51_52 rfl rfl rfl (by decide) (by decide) (Nat.le_of_ble_eq_true rfl) rfl ((zput_par nd_0_1_2_3_4_5_6_7_8_9_10_11_12_13_14_15_16_17_18_19_20_21_22_23_24_25_26_27_28_29_30_31_32_33_34_35_36_37_38_39_40_41_42_43_44_45_46_47_48_49_50_51_52 rfl).trans rfl) ?_
  refine z_bipush C (-99) dL_orders_152 (by decide) ?_
  refine z_iload C dL_orders_154 rfl ?_
  refine z_isub C dL_orders_156 ?_
  refine z_top (y := (-103)) (by decide) ?_
  refine z_icmp_eq_t C 162 dL_orders_157 (by decide) rfl ?_
  refine z_aload_n C 0 dL_orders_162 rfl rfl ?_
  have htx2 : ∀ j, tyL tx [48 + dd, 48, 114, 43] j < 65536 := tyL_b htx (by intro c hc9; simp at hc9; omega)
  refine z_callV (wn := (WRd X.2.1 x0 h0 h1 w0 w1 t r S o kp Q (tyL (tyL tx [48 + dd, 48, 114, 43]) []) 0 ps3)) C kX5_clearText gL_orders_X5_clearText (l_clr X.2.1 x0 (t 0) h0 w0 w1 (tyL tx [48 + dd, 48, 114, 43]) 4 ps3 (by decide)) dL_orders_163 [0, 51, 52] [] 0 rfl rfl nd_0_51_52 rfl rfl rfl (by decide) (by decide) (Nat.le_of_ble_eq_true rfl) rfl ((zput_par nd_0_51_52 rfl).trans rfl) ?_
  refine z_pop C dL_orders_166 rfl ?_
  refine z_aload_n C 0 dL_orders_167 rfl rfl ?_
  refine z_bipush C (nI 43) dL_orders_168 (by decide) ?_
  refine z_callV (wn := (WRd X.2.1 x0 h0 h1 w0 w1 t r S o kp Q (tyL (tyL tx [48 + dd, 48, 114, 43]) [43]) 1 ps3)) C kX5_type gL_orders_X5_type (l_typ X.2.1 x0 (t 0) h0 w0 w1 (tyL tx [48 + dd, 48, 114, 43]) [] ps3 43 0 rfl (by decide) htx2 (fun c hc9 => absurd hc9 List.not_mem_nil) (by omega)) dL_orders_170 [0, 51, 52] [] 0 rfl rfl nd_0_51_52 rfl rfl rfl (by decide) (by decide) (Nat.le_of_ble_eq_true rfl) rfl ((zput_par nd_0_51_52 rfl).trans rfl) ?_
  refine z_top (y := nI 1) rfl ?_
  refine z_pop C dL_orders_173 rfl ?_
  refine z_aload_n C 0 dL_orders_174 rfl rfl ?_
  refine z_iload C dL_orders_175 rfl ?_
  refine z_nif_ne_f C 185 dL_orders_177 (by decide) (by omega) (by omega) ?_
  refine z_bipush C (nI 114) dL_orders_180 (by decide) ?_
  refine z_goto C 187 dL_orders_182 (by decide) ?_
  refine z_callV (wn := (WRd X.2.1 x0 h0 h1 w0 w1 t r S o kp Q (tyL (tyL tx [48 + dd, 48, 114, 43]) [114, 43]) 2 ps3)) C kX5_type gL_orders_X5_type (l_typ X.2.1 x0 (t 0) h0 w0 w1 (tyL tx [48 + dd, 48, 114, 43]) [43] ps3 114 1 rfl (by decide) htx2 (by intro c hc9; simp at hc9; omega) (by omega)) dL_orders_187 [0, 51, 52] [] 0 rfl rfl nd_0_51_52 rfl rfl rfl (by decide) (by decide) (Nat.le_of_ble_eq_true rfl) rfl ((zput_par nd_0_51_52 rfl).trans rfl) ?_
  refine z_top (y := nI 2) rfl ?_
  refine z_pop C dL_orders_190 rfl ?_
  refine z_aload_n C 0 dL_orders_191 rfl rfl ?_
  refine z_bipush C (nI 48) dL_orders_192 (by decide) ?_
  refine z_callV (wn := (WRd X.2.1 x0 h0 h1 w0 w1 t r S o kp Q (tyL (tyL tx [48 + dd, 48, 114, 43]) [48, 114, 43]) 3 ps3)) C kX5_type gL_orders_X5_type (l_typ X.2.1 x0 (t 0) h0 w0 w1 (tyL tx [48 + dd, 48, 114, 43]) [114, 43] ps3 48 2 rfl (by decide) htx2 (by intro c hc9; simp at hc9; omega) (by omega)) dL_orders_194 [0, 51, 52] [] 0 rfl rfl nd_0_51_52 rfl rfl rfl (by decide) (by decide) (Nat.le_of_ble_eq_true rfl) rfl ((zput_par nd_0_51_52 rfl).trans rfl) ?_
  refine z_top (y := nI 3) rfl ?_
  refine z_pop C dL_orders_197 rfl ?_
  refine z_aload_n C 0 dL_orders_198 rfl rfl ?_
  refine z_bipush C (nI 32) dL_orders_199 (by decide) ?_
  refine z_callV (wn := (WRd X.2.1 x0 h0 h1 w0 w1 t r S o kp Q (tyL (tyL tx [48 + dd, 48, 114, 43]) [32, 48, 114, 43]) 4 ps3)) C kX5_type gL_orders_X5_type (l_typ X.2.1 x0 (t 0) h0 w0 w1 (tyL tx [48 + dd, 48, 114, 43]) [48, 114, 43] ps3 32 3 rfl (by decide) htx2 (by intro c hc9; simp at hc9; omega) (by omega)) dL_orders_201 [0, 51, 52] [] 0 rfl rfl nd_0_51_52 rfl rfl rfl (by decide) (by decide) (Nat.le_of_ble_eq_true rfl) rfl ((zput_par nd_0_51_52 rfl).trans rfl) ?_
  refine z_top (y := nI 4) rfl ?_
  refine z_pop C dL_orders_204 rfl ?_
  refine z_aload_n C 0 dL_orders_205 rfl rfl ?_
  refine z_bipush C (nI 43) dL_orders_206 (by decide) ?_
  refine z_callV (wn := (WRd X.2.1 x0 h0 h1 w0 w1 t r S o kp Q (tyL (tyL tx [48 + dd, 48, 114, 43]) [43, 32, 48, 114, 43]) 5 ps3)) C kX5_type gL_orders_X5_type (l_typ X.2.1 x0 (t 0) h0 w0 w1 (tyL tx [48 + dd, 48, 114, 43]) [32, 48, 114, 43] ps3 43 4 rfl (by decide) htx2 (by intro c hc9; simp at hc9; omega) (by omega)) dL_orders_208 [0, 51, 52] [] 0 rfl rfl nd_0_51_52 rfl rfl rfl (by decide) (by decide) (Nat.le_of_ble_eq_true rfl) rfl ((zput_par nd_0_51_52 rfl).trans rfl) ?_
  refine z_top (y := nI 5) rfl ?_
  refine z_pop C dL_orders_211 rfl ?_
  refine z_aload_n C 0 dL_orders_212 rfl rfl ?_
  refine z_iload C dL_orders_213 rfl ?_
  refine z_nif_ne_f C 223 dL_orders_215 (by decide) (by omega) (by omega) ?_
  refine z_bipush C (nI 114) dL_orders_218 (by decide) ?_
  refine z_goto C 225 dL_orders_220 (by decide) ?_
  refine z_callV (wn := (WRd X.2.1 x0 h0 h1 w0 w1 t r S o kp Q (tyL (tyL tx [48 + dd, 48, 114, 43]) [114, 43, 32, 48, 114, 43]) 6 ps3)) C kX5_type gL_orders_X5_type (l_typ X.2.1 x0 (t 0) h0 w0 w1 (tyL tx [48 + dd, 48, 114, 43]) [43, 32, 48, 114, 43] ps3 114 5 rfl (by decide) htx2 (by intro c hc9; simp at hc9; omega) (by omega)) dL_orders_225 [0, 51, 52] [] 0 rfl rfl nd_0_51_52 rfl rfl rfl (by decide) (by decide) (Nat.le_of_ble_eq_true rfl) rfl ((zput_par nd_0_51_52 rfl).trans rfl) ?_
  refine z_top (y := nI 6) rfl ?_
  refine z_pop C dL_orders_228 rfl ?_
  refine z_aload_n C 0 dL_orders_229 rfl rfl ?_
  refine z_bipush C (nI 57) dL_orders_230 (by decide) ?_
  refine z_callV (wn := (WRd X.2.1 x0 h0 h1 w0 w1 t r S o kp Q (tyL (tyL tx [48 + dd, 48, 114, 43]) [57, 114, 43, 32, 48, 114, 43]) 7 ps3)) C kX5_type gL_orders_X5_type (l_typ X.2.1 x0 (t 0) h0 w0 w1 (tyL tx [48 + dd, 48, 114, 43]) [114, 43, 32, 48, 114, 43] ps3 57 6 rfl (by decide) htx2 (by intro c hc9; simp at hc9; omega) (by omega)) dL_orders_232 [0, 51, 52] [] 0 rfl rfl nd_0_51_52 rfl rfl rfl (by decide) (by decide) (Nat.le_of_ble_eq_true rfl) rfl ((zput_par nd_0_51_52 rfl).trans rfl) ?_
  refine z_top (y := nI 7) rfl ?_
  refine z_pop C dL_orders_235 rfl ?_
  refine z_aload_n C 0 dL_orders_236 rfl rfl ?_
  refine z_bipush C (nI 57) dL_orders_237 (by decide) ?_
  refine z_callV (wn := (WRd X.2.1 x0 h0 h1 w0 w1 t r S o kp Q (tyL (tyL tx [48 + dd, 48, 114, 43]) [57, 57, 114, 43, 32, 48, 114, 43]) 8 ps3)) C kX5_type gL_orders_X5_type (l_typ X.2.1 x0 (t 0) h0 w0 w1 (tyL tx [48 + dd, 48, 114, 43]) [57, 114, 43, 32, 48, 114, 43] ps3 57 7 rfl (by decide) htx2 (by intro c hc9; simp at hc9; omega) (by omega)) dL_orders_239 [0, 51, 52] [] 0 rfl rfl nd_0_51_52 rfl rfl rfl (by decide) (by decide) (Nat.le_of_ble_eq_true rfl) rfl ((zput_par nd_0_51_52 rfl).trans rfl) ?_
  refine z_top (y := nI 8) rfl ?_
  refine z_istore C dL_orders_242 (Nat.le_of_ble_eq_true rfl) ?_
  refine z_lv (lv' := [some (.ref x0), some (.int (nI au)), some (.int g), some (.int h), some (.int (nI 0)), some (.int (nI (uU S 0))), some (.int (nI (mK S))), some (.int (nI 1)), some (.int (nI 8)), some (.int (nI 1)), none]) rfl ?_
  refine z_iload C dL_orders_244 rfl ?_
  refine z_iload C dL_orders_246 rfl ?_
  refine z_nif_ne_f C 256 dL_orders_248 (by decide) (by omega) (by omega) ?_
  refine z_bipush C (nI 12) dL_orders_251 (by decide) ?_
  refine z_goto C 258 dL_orders_253 (by decide) ?_
  refine z_ncmp_eq_f C 273 dL_orders_258 (by decide) (by omega) (by omega) (by omega) ?_
  refine z_iload C dL_orders_261 rfl ?_
  refine z_nif_eq_f C 277 dL_orders_263 (by decide) (by omega) (by omega) ?_
  refine z_iload C dL_orders_266 rfl ?_
  refine z_bipush C (nI 60) dL_orders_268 (by decide) ?_
  refine z_ncmp_ne_t C 277 dL_orders_270 (by decide) (by omega) (by omega) (by omega) ?_
  refine z_iconst C (nI 1) dL_orders_277 (by decide) ?_
  refine z_istore C dL_orders_278 (Nat.le_of_ble_eq_true rfl) ?_
  refine z_lv (lv' := [some (.ref x0), some (.int (nI au)), some (.int g), some (.int h), some (.int (nI 0)), some (.int (nI (uU S 0))), some (.int (nI (mK S))), some (.int (nI 1)), some (.int (nI 8)), some (.int (nI 1)), some (.int (nI 1))]) rfl ?_
  refine z_aload_n C 0 dL_orders_280 rfl rfl ?_
  refine z_iload_n C 1 dL_orders_281 rfl rfl ?_
  refine z_callV (wn := (WRd X.2.1 x0 h0 h1 w0 w1 t r S1 o1 kp1 Q1 (tyL (tyL tx [48 + dd, 48, 114, 43]) [57, 57, 114, 43, 32, 48, 114, 43]) 8 ps4)) C kX5_run gL_orders_X5_run m5 dL_orders_282 [0, 1, 2, 3, 4, 5, 6, 7, 8, 9, 10, 11, 12, 13, 14, 15, 16, 17, 18, 19, 20, 21, 22, 23, 24, 25, 26, 27, 28, 29, 30, 31, 32, 33, 34, 35, 36, 37, 38, 39, 40, 41, 42, 43, 44, 45, 46, 47, 48, 49, 50, 51, 52] [] 0 rfl rfl nd_0_1_2_3_4_5_6_7_8_9_10_11_12_13_14_15_16_17_18_19_20_21_22_23_24_25_26_27_28_29_30_31_32_33_34_35_36_37_38_39_40_41_42_43_44_45_46_47_48_49_50_51_52 rfl rfl rfl (by decide) (by decide) (Nat.le_of_ble_eq_true rfl) rfl ((zput_par nd_0_1_2_3_4_5_6_7_8_9_10_11_12_13_14_15_16_17_18_19_20_21_22_23_24_25_26_27_28_29_30_31_32_33_34_35_36_37_38_39_40_41_42_43_44_45_46_47_48_49_50_51_52 rfl).trans rfl) ?_
  refine z_iload C dL_orders_285 rfl ?_
  refine z_ncmp_ne_f C 305 dL_orders_287 (by decide) (by omega) (by omega) (by omega) ?_
  refine z_aload_n C 0 dL_orders_290 rfl rfl ?_
  refine z_iconst C (nI 0) dL_orders_291 (by decide) ?_
  refine z_iload C dL_orders_292 rfl ?_
  refine z_callVr C kX5_size gL_orders_X5_size (l_size0 X.2.1 x0 h0 w0 t S1 0 hG1 (by decide)) dL_orders_294 [0, 1, 2, 3, 4, 5, 6, 7, 8] [] 0 rfl nd_0_1_2_3_4_5_6_7_8 rfl rfl rfl (by decide) (by decide) (Nat.le_of_ble_eq_true rfl) rfl ?_
  refine z_iload C dL_orders_297 rfl ?_
  refine z_iload C dL_orders_299 rfl ?_
  refine z_iadd C dL_orders_301 ?_
  refine z_top (y := nI ((uU S 0) + 1)) (nI_add _ _) ?_
  refine z_ncmp_eq_t C 307 dL_orders_302 (by decide) (by omega) (by omega) (by omega) ?_
  refine z_aload_n C 0 dL_orders_307 rfl rfl ?_
  refine z_bipush C (nI 57) dL_orders_308 (by decide) ?_
  refine z_callV (wn := (WRd X.2.1 x0 h0 h1 w0 w1 t r S1 o1 kp1 Q1 (tyL (tyL tx [48 + dd, 48, 114, 43]) [57, 57, 57, 114, 43, 32, 48, 114, 43]) 9 ps4)) C kX5_type gL_orders_X5_type (l_typ X.2.1 x0 (t 0) h0 w0 w1 (tyL tx [48 + dd, 48, 114, 43]) [57, 57, 114, 43, 32, 48, 114, 43] ps4 57 8 rfl (by decide) htx2 (by intro c hc9; simp at hc9; omega) (by omega)) dL_orders_310 [0, 51, 52] [] 0 rfl rfl nd_0_51_52 rfl rfl rfl (by decide) (by decide) (Nat.le_of_ble_eq_true rfl) rfl ((zput_par nd_0_51_52 rfl).trans rfl) ?_
  refine z_top (y := nI 9) rfl ?_
  refine z_pop C dL_orders_313 rfl ?_
  refine z_aload_n C 0 dL_orders_314 rfl rfl ?_
  refine z_iload_n C 1 dL_orders_315 rfl rfl ?_
  refine z_callV (wn := (WRd X.2.1 x0 h0 h1 w0 w1 t r S1 o1 kp1 Q1 (tyL (tyL tx [48 + dd, 48, 114, 43]) [57, 57, 57, 114, 43, 32, 48, 114, 43]) 9 ps5)) C kX5_run gL_orders_X5_run m6 dL_orders_316 [0, 1, 2, 3, 4, 5, 6, 7, 8, 9, 10, 11, 12, 13, 14, 15, 16, 17, 18, 19, 20, 21, 22, 23, 24, 25, 26, 27, 28, 29, 30, 31, 32, 33, 34, 35, 36, 37, 38, 39, 40, 41, 42, 43, 44, 45, 46, 47, 48, 49, 50, 51, 52] [] 0 rfl rfl nd_0_1_2_3_4_5_6_7_8_9_10_11_12_13_14_15_16_17_18_19_20_21_22_23_24_25_26_27_28_29_30_31_32_33_34_35_36_37_38_39_40_41_42_43_44_45_46_47_48_49_50_51_52 rfl rfl rfl (by decide) (by decide) (Nat.le_of_ble_eq_true rfl) rfl ((zput_par nd_0_1_2_3_4_5_6_7_8_9_10_11_12_13_14_15_16_17_18_19_20_21_22_23_24_25_26_27_28_29_30_31_32_33_34_35_36_37_38_39_40_41_42_43_44_45_46_47_48_49_50_51_52 rfl).trans rfl) ?_
  refine z_bipush C (-100) dL_orders_319 (by decide) ?_
  refine z_iload C dL_orders_321 rfl ?_
  refine z_isub C dL_orders_323 ?_
  refine z_top (y := (-108)) (by decide) ?_
  refine z_icmp_ne_f C 360 dL_orders_324 (by decide) rfl ?_
  refine z_aload_n C 0 dL_orders_327 rfl rfl ?_
  refine z_callV (wn := (WRd X.2.1 x0 h0 h1 w0 w1 t r S o2 kp2 Q1 (tyL (tyL tx [48 + dd, 48, 114, 43]) [57, 57, 57, 114, 43, 32, 48, 114, 43]) 9 ps5)) C kX5_undo gL_orders_X5_undo m7 dL_orders_328 [0, 1, 2, 3, 4, 5, 6, 7, 8, 9, 10, 11, 12, 13, 14, 15, 16, 17, 18, 19, 20, 21, 22, 23, 24, 25, 26, 27, 28, 29, 30, 31, 32, 33, 34, 35, 36, 37, 38, 39, 40, 41, 42, 43, 44, 45, 46, 47, 48, 49, 50] [] 0 rfl rfl nd_0_1_2_3_4_5_6_7_8_9_10_11_12_13_14_15_16_17_18_19_20_21_22_23_24_25_26_27_28_29_30_31_32_33_34_35_36_37_38_39_40_41_42_43_44_45_46_47_48_49_50 rfl rfl rfl (by decide) (by decide) (Nat.le_of_ble_eq_true rfl) rfl ((zput_par nd_0_1_2_3_4_5_6_7_8_9_10_11_12_13_14_15_16_17_18_19_20_21_22_23_24_25_26_27_28_29_30_31_32_33_34_35_36_37_38_39_40_41_42_43_44_45_46_47_48_49_50 rfl).trans rfl) ?_
  refine z_nif_lt_f C 360 dL_orders_331 (by decide) (by omega) (by trivial) ?_
  refine z_aload_n C 0 dL_orders_334 rfl rfl ?_
  refine z_iconst C (nI 0) dL_orders_335 (by decide) ?_
  refine z_iload C dL_orders_336 rfl ?_
  refine z_callVr C kX5_size gL_orders_X5_size (l_size0 X.2.1 x0 h0 w0 t S 0 hG (by decide)) dL_orders_338 [0, 1, 2, 3, 4, 5, 6, 7, 8] [] 0 rfl nd_0_1_2_3_4_5_6_7_8 rfl rfl rfl (by decide) (by decide) (Nat.le_of_ble_eq_true rfl) rfl ?_
  refine z_iload C dL_orders_341 rfl ?_
  refine z_ncmp_ne_f C 360 dL_orders_343 (by decide) (by omega) (by omega) (by omega) ?_
  refine z_aload_n C 0 dL_orders_346 rfl rfl ?_
  refine z_iconst C (nI 0) dL_orders_347 (by decide) ?_
  refine z_callVr C kX5_count gL_orders_X5_count (l_cnt0 X.2.1 x0 h0 h1 w0 w1 t S o2 kp2 9 ps5  hG ) dL_orders_348 [0, 1, 2, 3, 4, 5, 6, 7, 8, 9, 51] [] 0 rfl nd_0_1_2_3_4_5_6_7_8_9_51 rfl rfl rfl (by decide) (by decide) (Nat.le_of_ble_eq_true rfl) rfl ?_
  refine z_iload C dL_orders_351 rfl ?_
  refine z_ncmp_ne_f C 360 dL_orders_353 (by decide) (by omega) (by omega) (by omega) ?_
  refine z_iconst C (nI 1) dL_orders_356 (by decide) ?_
  refine z_goto C 361 dL_orders_357 (by decide) ?_
  exact z_zret C N dL_orders_361 rfl (rfl) (rfl)

set_option maxHeartbeats 4000000 in
set_option maxRecDepth 100000 in
theorem w_ord00m (E : zE) (x0 h0 h1 w0 w1 : Nat) (t : Nat → Nat) (r : Nat → Nat → Nat) (S S1 : zSt) (o kp o1 o2 kp1 kp2 : Nat) (Q Q1 : Nat → zSt) (tx : Nat → Nat) (ln : Nat) (ps ps1 ps2 ps3 ps4 ps5 : zPs) {B B1 : Nat} (au : Nat) (g h : Int32) (dd lf : Nat) (hG : GG S B) (hG1 : GG S1 B1) (hau : au < 4) (hg1 : g &&& (nI 1) = nI 0) (hg2 : g &&& (nI 2) = 0) (hd : lw h 10 = dd) (hdd : dd < 10) (hln : ln ≤ 60) (htx : ∀ j, tx j < 65536) (hlf : lf < 100) (hu : uU S1 0 = uU S 0 + 0) (hf : uU S 0 < 12) (ht : tK S = true) (hm : mK S = 60) (m1 : zM E yX5_run wsX5_run 8 [.ref x0, .int (nI au)] (WRd E x0 h0 h1 w0 w1 t r S o kp Q (tyL tx []) 0 ps) (WRd E x0 h0 h1 w0 w1 t r S o kp Q (tyL tx []) 0 ps1) (some (.int (-100)))) (m2 : zM E yX5_run wsX5_run 8 [.ref x0, .int (nI 4)] (WRd E x0 h0 h1 w0 w1 t r S o kp Q (tyL tx []) 0 ps1) (WRd E x0 h0 h1 w0 w1 t r S o kp Q (tyL tx []) 0 ps1) (some (.int (-1)))) (m3 : zM E yX5_run wsX5_run 8 [.ref x0, .int (nI au)] (WRd E x0 h0 h1 w0 w1 t r S o kp Q (tyL tx [43]) 1 ps1) (WRd E x0 h0 h1 w0 w1 t r S o kp Q (tyL tx [43]) 1 ps2) (some (.int (-101)))) (m4 : zM E yX5_run wsX5_run 8 [.ref x0, .int (nI au)] (WRd E x0 h0 h1 w0 w1 t r S o kp Q (tyL tx [48 + dd, 48, 114, 43]) 4 ps2) (WRd E x0 h0 h1 w0 w1 t r S o kp Q (tyL tx [48 + dd, 48, 114, 43]) 4 ps3) (some (.int (-103)))) (m5 : zM E yX5_run wsX5_run 8 [.ref x0, .int (nI au)] (WRd E x0 h0 h1 w0 w1 t r S o kp Q (tyL (tyL tx [48 + dd, 48, 114, 43]) [57, 57, 114, 43, 32, 48, 114, 43]) 8 ps3) (WRd E x0 h0 h1 w0 w1 t r S1 o1 kp1 Q1 (tyL (tyL tx [48 + dd, 48, 114, 43]) [57, 57, 114, 43, 32, 48, 114, 43]) 8 ps4) (some (.int (nI 0)))) (m6 : zM E yX5_run wsX5_run 8 [.ref x0, .int (nI au)] (WRd E x0 h0 h1 w0 w1 t r S1 o1 kp1 Q1 (tyL (tyL tx [48 + dd, 48, 114, 43]) [57, 57, 57, 114, 43, 32, 48, 114, 43]) 9 ps4) (WRd E x0 h0 h1 w0 w1 t r S1 o1 kp1 Q1 (tyL (tyL tx [48 + dd, 48, 114, 43]) [57, 57, 57, 114, 43, 32, 48, 114, 43]) 9 ps5) (some (.int (-108)))) (m7 : zM E yX5_undo wsX5_undo 5 [.ref x0] (WAd E x0 h0 h1 w0 t r S1 o1 kp1 Q1) (WAd E x0 h0 h1 w0 t r S o2 kp2 Q1) (some (.int (nI lf)))) : zM E yL_orders wsL_orders 9 [.ref x0, .int (nI au), .int g, .int h] (WRd E x0 h0 h1 w0 w1 t r S o kp Q tx ln ps) (WRd E x0 h0 h1 w0 w1 t r S o2 kp2 Q1 (tyL (tyL tx [48 + dd, 48, 114, 43]) [57, 57, 57, 114, 43, 32, 48, 114, 43]) 9 ps5) (some (.int (nI 1))) := by
  refine zM.of kL_orders (Nat.le_of_ble_eq_true rfl) rfl [some (.ref x0), some (.int (nI au)), some (.int g), some (.int h), none, none, none, none, none, none, none] rfl (Nat.le_of_ble_eq_true rfl) ?_
  intro X eX C N
  subst eX
  have hb0 : uU S 0 ≤ 12 := gg_u hG 0
  have hb1 : uU S 1 ≤ 8 := gg_u1 hG
  have hb2 : mK S ≤ 60 := gg_M hG
  have hb3 : uU S1 0 ≤ 12 := gg_u hG1 0
  have hb4 : uU S1 1 ≤ 8 := gg_u1 hG1
  have hb5 : mK S1 ≤ 60 := gg_M hG1
  refine z_aload_n C 0 dL_orders_0 rfl rfl ?_
  refine z_callV (wn := (WRd X.2.1 x0 h0 h1 w0 w1 t r S o kp Q (tyL tx []) 0 ps)) C kX5_clearText gL_orders_X5_clearText (l_clr X.2.1 x0 (t 0) h0 w0 w1 tx ln ps hln) dL_orders_1 [0, 51, 52] [] 0 rfl rfl nd_0_51_52 rfl rfl rfl (by decide) (by decide) (Nat.le_of_ble_eq_true rfl) rfl ((zput_par nd_0_51_52 rfl).trans rfl) ?_
  refine z_pop C dL_orders_4 rfl ?_
  refine z_aload_n C 0 dL_orders_5 rfl rfl ?_
  refine z_iload_n C 1 dL_orders_6 rfl rfl ?_
  refine z_callV (wn := (WRd X.2.1 x0 h0 h1 w0 w1 t r S o kp Q (tyL tx []) 0 ps1)) C kX5_run gL_orders_X5_run m1 dL_orders_7 [0, 1, 2, 3, 4, 5, 6, 7, 8, 9, 10, 11, 12, 13, 14, 15, 16, 17, 18, 19, 20, 21, 22, 23, 24, 25, 26, 27, 28, 29, 30, 31, 32, 33, 34, 35, 36, 37, 38, 39, 40, 41, 42, 43, 44, 45, 46, 47, 48, 49, 50, 51, 52] [] 0 rfl rfl nd_0_1_2_3_4_5_6_7_8_9_10_11_12_13_14_15_16_17_18_19_20_21_22_23_24_25_26_27_28_29_30_31_32_33_34_35_36_37_38_39_40_41_42_43_44_45_46_47_48_49_50_51_52 rfl rfl rfl (by decide) (by decide) (Nat.le_of_ble_eq_true rfl) rfl ((zput_par nd_0_1_2_3_4_5_6_7_8_9_10_11_12_13_14_15_16_17_18_19_20_21_22_23_24_25_26_27_28_29_30_31_32_33_34_35_36_37_38_39_40_41_42_43_44_45_46_47_48_49_50_51_52 rfl).trans rfl) ?_
  refine z_bipush C (-100) dL_orders_10 (by decide) ?_
  refine z_icmp_ne_f C 24 dL_orders_12 (by decide) rfl ?_
  refine z_aload_n C 0 dL_orders_15 rfl rfl ?_
  refine z_iconst C (nI 4) dL_orders_16 (by decide) ?_
  refine z_callV (wn := (WRd X.2.1 x0 h0 h1 w0 w1 t r S o kp Q (tyL tx []) 0 ps1)) C kX5_run gL_orders_X5_run m2 dL_orders_17 [0, 1, 2, 3, 4, 5, 6, 7, 8, 9, 10, 11, 12, 13, 14, 15, 16, 17, 18, 19, 20, 21, 22, 23, 24, 25, 26, 27, 28, 29, 30, 31, 32, 33, 34, 35, 36, 37, 38, 39, 40, 41, 42, 43, 44, 45, 46, 47, 48, 49, 50, 51, 52] [] 0 rfl rfl nd_0_1_2_3_4_5_6_7_8_9_10_11_12_13_14_15_16_17_18_19_20_21_22_23_24_25_26_27_28_29_30_31_32_33_34_35_36_37_38_39_40_41_42_43_44_45_46_47_48_49_50_51_52 rfl rfl rfl (by decide) (by decide) (Nat.le_of_ble_eq_true rfl) rfl ((zput_par nd_0_1_2_3_4_5_6_7_8_9_10_11_12_13_14_15_16_17_18_19_20_21_22_23_24_25_26_27_28_29_30_31_32_33_34_35_36_37_38_39_40_41_42_43_44_45_46_47_48_49_50_51_52 rfl).trans rfl) ?_
  refine z_iconst C (-1) dL_orders_20 (by decide) ?_
  refine z_icmp_eq_t C 26 dL_orders_21 (by decide) rfl ?_
  refine z_iload_n C 2 dL_orders_26 rfl rfl ?_
  refine z_iconst C (nI 1) dL_orders_27 (by decide) ?_
  refine z_iand C dL_orders_28 ?_
  refine z_top (y := nI 0) (hg1) ?_
  refine z_istore C dL_orders_29 (Nat.le_of_ble_eq_true rfl) ?_
  refine z_lv (lv' := [some (.ref x0), some (.int (nI au)), some (.int g), some (.int h), some (.int (nI 0)), none, none, none, none, none, none]) rfl ?_
  refine z_aload_n C 0 dL_orders_31 rfl rfl ?_
  refine z_iconst C (nI 0) dL_orders_32 (by decide) ?_
  refine z_iload C dL_orders_33 rfl ?_
  refine z_callVr C kX5_size gL_orders_X5_size (l_size0 X.2.1 x0 h0 w0 t S 0 hG (by decide)) dL_orders_35 [0, 1, 2, 3, 4, 5, 6, 7, 8] [] 0 rfl nd_0_1_2_3_4_5_6_7_8 rfl rfl rfl (by decide) (by decide) (Nat.le_of_ble_eq_true rfl) rfl ?_
  refine z_istore C dL_orders_38 (Nat.le_of_ble_eq_true rfl) ?_
  refine z_lv (lv' := [some (.ref x0), some (.int (nI au)), some (.int g), some (.int h), some (.int (nI 0)), some (.int (nI (uU S 0))), none, none, none, none, none]) rfl ?_
  refine z_aload_n C 0 dL_orders_40 rfl rfl ?_
  refine z_iconst C (nI 0) dL_orders_41 (by decide) ?_
  refine z_callVr C kX5_count gL_orders_X5_count (l_cnt0 X.2.1 x0 h0 h1 w0 w1 t S o kp 0 ps1  hG ) dL_orders_42 [0, 1, 2, 3, 4, 5, 6, 7, 8, 9, 51] [] 0 rfl nd_0_1_2_3_4_5_6_7_8_9_51 rfl rfl rfl (by decide) (by decide) (Nat.le_of_ble_eq_true rfl) rfl ?_
  refine z_istore C dL_orders_45 (Nat.le_of_ble_eq_true rfl) ?_
  refine z_lv (lv' := [some (.ref x0), some (.int (nI au)), some (.int g), some (.int h), some (.int (nI 0)), some (.int (nI (uU S 0))), some (.int (nI (mK S))), none, none, none, none]) rfl ?_
  refine z_aload_n C 0 dL_orders_47 rfl rfl ?_
  refine z_iconst C (nI 5) dL_orders_48 (by decide) ?_
  refine z_callVr C kX5_count gL_orders_X5_count (l_cnt5y X.2.1 x0 h0 h1 w0 w1 t S o kp 0 ps1  hG ht) dL_orders_49 [0, 1, 2, 3, 4, 5, 6, 7, 8, 9, 51] [] 0 rfl nd_0_1_2_3_4_5_6_7_8_9_51 rfl rfl rfl (by decide) (by decide) (Nat.le_of_ble_eq_true rfl) rfl ?_
  refine z_iconst C (nI 1) dL_orders_52 (by decide) ?_
  refine z_ncmp_ne_f C 60 dL_orders_53 (by decide) (by omega) (by omega) (by omega) ?_
  refine z_iconst C (nI 1) dL_orders_56 (by decide) ?_
  refine z_goto C 61 dL_orders_57 (by decide) ?_
  refine z_istore C dL_orders_61 (Nat.le_of_ble_eq_true rfl) ?_
  refine z_lv (lv' := [some (.ref x0), some (.int (nI au)), some (.int g), some (.int h), some (.int (nI 0)), some (.int (nI (uU S 0))), some (.int (nI (mK S))), some (.int (nI 1)), none, none, none]) rfl ?_
  refine z_aload_n C 0 dL_orders_63 rfl rfl ?_
  refine z_iload_n C 2 dL_orders_64 rfl rfl ?_
  refine z_iconst C (nI 2) dL_orders_65 (by decide) ?_
  refine z_iand C dL_orders_66 ?_
  refine z_if_ne_f C 75 dL_orders_67 (by decide) hg2 ?_
  refine z_bipush C (nI 43) dL_orders_70 (by decide) ?_
  refine z_goto C 77 dL_orders_72 (by decide) ?_
  refine z_callV (wn := (WRd X.2.1 x0 h0 h1 w0 w1 t r S o kp Q (tyL tx [43]) 1 ps1)) C kX5_type gL_orders_X5_type (l_typ X.2.1 x0 (t 0) h0 w0 w1 tx [] ps1 43 0 rfl (by decide) htx (fun c hc9 => absurd hc9 List.not_mem_nil) (by omega)) dL_orders_77 [0, 51, 52] [] 0 rfl rfl nd_0_51_52 rfl rfl rfl (by decide) (by decide) (Nat.le_of_ble_eq_true rfl) rfl ((zput_par nd_0_51_52 rfl).trans rfl) ?_
  refine z_top (y := nI 1) rfl ?_
  refine z_istore C dL_orders_80 (Nat.le_of_ble_eq_true rfl) ?_
  refine z_lv (lv' := [some (.ref x0), some (.int (nI au)), some (.int g), some (.int h), some (.int (nI 0)), some (.int (nI (uU S 0))), some (.int (nI (mK S))), some (.int (nI 1)), some (.int (nI 1)), none, none]) rfl ?_
  refine z_aload_n C 0 dL_orders_82 rfl rfl ?_
  refine z_iload_n C 1 dL_orders_83 rfl rfl ?_
  refine z_callV (wn := (WRd X.2.1 x0 h0 h1 w0 w1 t r S o kp Q (tyL tx [43]) 1 ps2)) C kX5_run gL_orders_X5_run m3 dL_orders_84 [0, 1, 2, 3, 4, 5, 6, 7, 8, 9, 10, 11, 12, 13, 14, 15, 16, 17, 18, 19, 20, 21, 22, 23, 24, 25, 26, 27, 28, 29, 30, 31, 32, 33, 34, 35, 36, 37, 38, 39, 40, 41, 42, 43, 44, 45, 46, 47, 48, 49, 50, 51, 52] [] 0 rfl rfl nd_0_1_2_3_4_5_6_7_8_9_10_11_12_13_14_15_16_17_18_19_20_21_22_23_24_25_26_27_28_29_30_31_32_33_34_35_36_37_38_39_40_41_42_43_44_45_46_47_48_49_50_51_52 rfl rfl rfl (by decide) (by decide) (Nat.le_of_ble_eq_true rfl) rfl ((zput_par nd_0_1_2_3_4_5_6_7_8_9_10_11_12_13_14_15_16_17_18_19_20_21_22_23_24_25_26_27_28_29_30_31_32_33_34_35_36_37_38_39_40_41_42_43_44_45_46_47_48_49_50_51_52 rfl).trans rfl) ?_
  refine z_bipush C (-100) dL_orders_87 (by decide) ?_
  refine z_iload C dL_orders_89 rfl ?_
  refine z_isub C dL_orders_91 ?_
  refine z_top (y := (-101)) (by decide) ?_
  refine z_icmp_ne_f C 99 dL_orders_92 (by decide) rfl ?_
  refine z_iconst C (nI 1) dL_orders_95 (by decide) ?_
  refine z_goto C 100 dL_orders_96 (by decide) ?_
  refine z_istore C dL_orders_100 (Nat.le_of_ble_eq_true rfl) ?_
  refine z_lv (lv' := [some (.ref x0), some (.int (nI au)), some (.int g), some (.int h), some (.int (nI 0)), some (.int (nI (uU S 0))), some (.int (nI (mK S))), some (.int (nI 1)), some (.int (nI 1)), some (.int (nI 1)), none]) rfl ?_
  refine z_aload_n C 0 dL_orders_102 rfl rfl ?_
  refine z_iload C dL_orders_103 rfl ?_
  refine z_nif_ne_f C 113 dL_orders_105 (by decide) (by omega) (by omega) ?_
  refine z_bipush C (nI 114) dL_orders_108 (by decide) ?_
  refine z_goto C 115 dL_orders_110 (by decide) ?_
  refine z_callV (wn := (WRd X.2.1 x0 h0 h1 w0 w1 t r S o kp Q (tyL tx [114, 43]) 2 ps2)) C kX5_type gL_orders_X5_type (l_typ X.2.1 x0 (t 0) h0 w0 w1 tx [43] ps2 114 1 rfl (by decide) htx (by intro c hc9; simp at hc9; omega) (by omega)) dL_orders_115 [0, 51, 52] [] 0 rfl rfl nd_0_51_52 rfl rfl rfl (by decide) (by decide) (Nat.le_of_ble_eq_true rfl) rfl ((zput_par nd_0_51_52 rfl).trans rfl) ?_
  refine z_top (y := nI 2) rfl ?_
  refine z_pop C dL_orders_118 rfl ?_
  refine z_aload_n C 0 dL_orders_119 rfl rfl ?_
  refine z_bipush C (nI 48) dL_orders_120 (by decide) ?_
  refine z_callV (wn := (WRd X.2.1 x0 h0 h1 w0 w1 t r S o kp Q (tyL tx [48, 114, 43]) 3 ps2)) C kX5_type gL_orders_X5_type (l_typ X.2.1 x0 (t 0) h0 w0 w1 tx [114, 43] ps2 48 2 rfl (by decide) htx (by intro c hc9; simp at hc9; omega) (by omega)) dL_orders_122 [0, 51, 52] [] 0 rfl rfl nd_0_51_52 rfl rfl rfl (by decide) (by decide) (Nat.le_of_ble_eq_true rfl) rfl ((zput_par nd_0_51_52 rfl).trans rfl) ?_
  refine z_top (y := nI 3) rfl ?_
  refine z_pop C dL_orders_125 rfl ?_
  refine z_aload_n C 0 dL_orders_126 rfl rfl ?_
  refine z_bipush C (nI 48) dL_orders_127 (by decide) ?_
  refine z_iload_n C 3 dL_orders_129 rfl rfl ?_
  refine z_bipush C (nI 10) dL_orders_130 (by decide) ?_
  refine z_callS C kL_low gL_orders_L_low (l_low X.2.1 h 10 (by decide) (by decide)) dL_orders_132 [.int (nI 48), .ref x0] rfl (by decide) (by decide) (Nat.le_of_ble_eq_true rfl) rfl ?_
  refine z_top (y := nI dd) (congrArg nI hd) ?_
  refine z_iadd C dL_orders_135 ?_
  refine z_top (y := nI (48 + dd)) (nI_add _ _) ?_
  refine z_i2c C (nI (48 + dd)) dL_orders_136 (chr_n (by omega)) ?_
  refine z_callV (wn := (WRd X.2.1 x0 h0 h1 w0 w1 t r S o kp Q (tyL tx [48 + dd, 48, 114, 43]) 4 ps2)) C kX5_type gL_orders_X5_type (l_typ X.2.1 x0 (t 0) h0 w0 w1 tx [48, 114, 43] ps2 (48 + dd) 3 rfl (by decide) htx (by intro c hc9; simp at hc9; omega) (by omega)) dL_orders_137 [0, 51, 52] [] 0 rfl rfl nd_0_51_52 rfl rfl rfl (by decide) (by decide) (Nat.le_of_ble_eq_true rfl) rfl ((zput_par nd_0_51_52 rfl).trans rfl) ?_
  refine z_top (y := nI 4) rfl ?_
  refine z_istore C dL_orders_140 (Nat.le_of_ble_eq_true rfl) ?_
  refine z_lv (lv' := [some (.ref x0), some (.int (nI au)), some (.int g), some (.int h), some (.int (nI 0)), some (.int (nI (uU S 0))), some (.int (nI (mK S))), some (.int (nI 1)), some (.int (nI 4)), some (.int (nI 1)), none]) rfl ?_
  refine z_iload C dL_orders_142 rfl ?_
  refine z_nif_eq_f C 160 dL_orders_144 (by decide) (by omega) (by omega) ?_
  refine z_aload_n C 0 dL_orders_147 rfl rfl ?_
  refine z_iload_n C 1 dL_orders_148 rfl rfl ?_
  refine z_callV (wn := (WRd X.2.1 x0 h0 h1 w0 w1 t r S o kp Q (tyL tx [48 + dd, 48, 114, 43]) 4 ps3)) C kX5_run gL_orders_X5_run m4 dL_orders_149 [0, 1, 2, 3, 4, 5, 6, 7, 8, 9, 10, 11, 12, 13, 14, 15, 16, 17, 18, 19, 20, 21, 22, 23, 24, 25, 26, 27, 28, 29, 30, 31, 32, 33, 34, 35, 36, 37, 38, 39, 40, 41, 42, 43, 44, 45, 46, 47, 48, 49, 50, 51, 52] [] 0 rfl rfl nd_0_1_2_3_4_5_6_7_8_9_10_11_12_13_14_15_16_17_18_19_20_21_22_23_24_25_26_27_28_29_30_31_32_33_34_35_36_37_38_39_40_41_42_43_44_45_46_47_48_49_50_51_52 rfl rfl rfl (by decide) (by decide) (Nat.le_of_ble_eq_true rfl) rfl ((zput_par nd_0_1_2_3_4_5_6_7_8_9_10_11_12_13_14_15_16_17_18_19_20_21_22_23_24_25_26_27_28_29_30_31_32_33_34_35_36_37_38_39_40_41_42_43_44_45_46_47_48_49_50_51_52 rfl).trans rfl) ?_
  refine z_bipush C (-99) dL_orders_152 (by decide) ?_
  refine z_iload C dL_orders_154 rfl ?_
  refine z_isub C dL_orders_156 ?_
  refine z_top (y := (-103)) (by decide) ?_
  refine z_icmp_eq_t C 162 dL_orders_157 (by decide) rfl ?_
  refine z_aload_n C 0 dL_orders_162 rfl rfl ?_
  have htx2 : ∀ j, tyL tx [48 + dd, 48, 114, 43] j < 65536 := tyL_b htx (by intro c hc9; simp at hc9; omega)
  refine z_callV (wn := (WRd X.2.1 x0 h0 h1 w0 w1 t r S o kp Q (tyL (tyL tx [48 + dd, 48, 114, 43]) []) 0 ps3)) C kX5_clearText gL_orders_X5_clearText (l_clr X.2.1 x0 (t 0) h0 w0 w1 (tyL tx [48 + dd, 48, 114, 43]) 4 ps3 (by decide)) dL_orders_163 [0, 51, 52] [] 0 rfl rfl nd_0_51_52 rfl rfl rfl (by decide) (by decide) (Nat.le_of_ble_eq_true rfl) rfl ((zput_par nd_0_51_52 rfl).trans rfl) ?_
  refine z_pop C dL_orders_166 rfl ?_
  refine z_aload_n C 0 dL_orders_167 rfl rfl ?_
  refine z_bipush C (nI 43) dL_orders_168 (by decide) ?_
  refine z_callV (wn := (WRd X.2.1 x0 h0 h1 w0 w1 t r S o kp Q (tyL (tyL tx [48 + dd, 48, 114, 43]) [43]) 1 ps3)) C kX5_type gL_orders_X5_type (l_typ X.2.1 x0 (t 0) h0 w0 w1 (tyL tx [48 + dd, 48, 114, 43]) [] ps3 43 0 rfl (by decide) htx2 (fun c hc9 => absurd hc9 List.not_mem_nil) (by omega)) dL_orders_170 [0, 51, 52] [] 0 rfl rfl nd_0_51_52 rfl rfl rfl (by decide) (by decide) (Nat.le_of_ble_eq_true rfl) rfl ((zput_par nd_0_51_52 rfl).trans rfl) ?_
  refine z_top (y := nI 1) rfl ?_
  refine z_pop C dL_orders_173 rfl ?_
  refine z_aload_n C 0 dL_orders_174 rfl rfl ?_
  refine z_iload C dL_orders_175 rfl ?_
  refine z_nif_ne_f C 185 dL_orders_177 (by decide) (by omega) (by omega) ?_
  refine z_bipush C (nI 114) dL_orders_180 (by decide) ?_
  refine z_goto C 187 dL_orders_182 (by decide) ?_
  refine z_callV (wn := (WRd X.2.1 x0 h0 h1 w0 w1 t r S o kp Q (tyL (tyL tx [48 + dd, 48, 114, 43]) [114, 43]) 2 ps3)) C kX5_type gL_orders_X5_type (l_typ X.2.1 x0 (t 0) h0 w0 w1 (tyL tx [48 + dd, 48, 114, 43]) [43] ps3 114 1 rfl (by decide) htx2 (by intro c hc9; simp at hc9; omega) (by omega)) dL_orders_187 [0, 51, 52] [] 0 rfl rfl nd_0_51_52 rfl rfl rfl (by decide) (by decide) (Nat.le_of_ble_eq_true rfl) rfl ((zput_par nd_0_51_52 rfl).trans rfl) ?_
  refine z_top (y := nI 2) rfl ?_
  refine z_pop C dL_orders_190 rfl ?_
  refine z_aload_n C 0 dL_orders_191 rfl rfl ?_
  refine z_bipush C (nI 48) dL_orders_192 (by decide) ?_
  refine z_callV (wn := (WRd X.2.1 x0 h0 h1 w0 w1 t r S o kp Q (tyL (tyL tx [48 + dd, 48, 114, 43]) [48, 114, 43]) 3 ps3)) C kX5_type gL_orders_X5_type (l_typ X.2.1 x0 (t 0) h0 w0 w1 (tyL tx [48 + dd, 48, 114, 43]) [114, 43] ps3 48 2 rfl (by decide) htx2 (by intro c hc9; simp at hc9; omega) (by omega)) dL_orders_194 [0, 51, 52] [] 0 rfl rfl nd_0_51_52 rfl rfl rfl (by decide) (by decide) (Nat.le_of_ble_eq_true rfl) rfl ((zput_par nd_0_51_52 rfl).trans rfl) ?_
  refine z_top (y := nI 3) rfl ?_
  refine z_pop C dL_orders_197 rfl ?_
  refine z_aload_n C 0 dL_orders_198 rfl rfl ?_
  refine z_bipush C (nI 32) dL_orders_199 (by decide) ?_
  refine z_callV (wn := (WRd X.2.1 x0 h0 h1 w0 w1 t r S o kp Q (tyL (tyL tx [48 + dd, 48, 114, 43]) [32, 48, 114, 43]) 4 ps3)) C kX5_type gL_orders_X5_type (l_typ X.2.1 x0 (t 0) h0 w0 w1 (tyL tx [48 + dd, 48, 114, 43]) [48, 114, 43] ps3 32 3 rfl (by decide) htx2 (by intro c hc9; simp at hc9; omega) (by omega)) dL_orders_201 [0, 51, 52] [] 0 rfl rfl nd_0_51_52 rfl rfl rfl (by decide) (by decide) (Nat.le_of_ble_eq_true rfl) rfl ((zput_par nd_0_51_52 rfl).trans rfl) ?_
  refine z_top (y := nI 4) rfl ?_
  refine z_pop C dL_orders_204 rfl ?_
  refine z_aload_n C 0 dL_orders_205 rfl rfl ?_
  refine z_bipush C (nI 43) dL_orders_206 (by decide) ?_
  refine z_callV (wn := (WRd X.2.1 x0 h0 h1 w0 w1 t r S o kp Q (tyL (tyL tx [48 + dd, 48, 114, 43]) [43, 32, 48, 114, 43]) 5 ps3)) C kX5_type gL_orders_X5_type (l_typ X.2.1 x0 (t 0) h0 w0 w1 (tyL tx [48 + dd, 48, 114, 43]) [32, 48, 114, 43] ps3 43 4 rfl (by decide) htx2 (by intro c hc9; simp at hc9; omega) (by omega)) dL_orders_208 [0, 51, 52] [] 0 rfl rfl nd_0_51_52 rfl rfl rfl (by decide) (by decide) (Nat.le_of_ble_eq_true rfl) rfl ((zput_par nd_0_51_52 rfl).trans rfl) ?_
  refine z_top (y := nI 5) rfl ?_
  refine z_pop C dL_orders_211 rfl ?_
  refine z_aload_n C 0 dL_orders_212 rfl rfl ?_
  refine z_iload C dL_orders_213 rfl ?_
  refine z_nif_ne_f C 223 dL_orders_215 (by decide) (by omega) (by omega) ?_
  refine z_bipush C (nI 114) dL_orders_218 (by decide) ?_
  refine z_goto C 225 dL_orders_220 (by decide) ?_
  refine z_callV (wn := (WRd X.2.1 x0 h0 h1 w0 w1 t r S o kp Q (tyL (tyL tx [48 + dd, 48, 114, 43]) [114, 43, 32, 48, 114, 43]) 6 ps3)) C kX5_type gL_orders_X5_type (l_typ X.2.1 x0 (t 0) h0 w0 w1 (tyL tx [48 + dd, 48, 114, 43]) [43, 32, 48, 114, 43] ps3 114 5 rfl (by decide) htx2 (by intro c hc9; simp at hc9; omega) (by omega)) dL_orders_225 [0, 51, 52] [] 0 rfl rfl nd_0_51_52 rfl rfl rfl (by decide) (by decide) (Nat.le_of_ble_eq_true rfl) rfl ((zput_par nd_0_51_52 rfl).trans rfl) ?_
  refine z_top (y := nI 6) rfl ?_
  refine z_pop C dL_orders_228 rfl ?_
  refine z_aload_n C 0 dL_orders_229 rfl rfl ?_
  refine z_bipush C (nI 57) dL_orders_230 (by decide) ?_
  refine z_callV (wn := (WRd X.2.1 x0 h0 h1 w0 w1 t r S o kp Q (tyL (tyL tx [48 + dd, 48, 114, 43]) [57, 114, 43, 32, 48, 114, 43]) 7 ps3)) C kX5_type gL_orders_X5_type (l_typ X.2.1 x0 (t 0) h0 w0 w1 (tyL tx [48 + dd, 48, 114, 43]) [114, 43, 32, 48, 114, 43] ps3 57 6 rfl (by decide) htx2 (by intro c hc9; simp at hc9; omega) (by omega)) dL_orders_232 [0, 51, 52] [] 0 rfl rfl nd_0_51_52 rfl rfl rfl (by decide) (by decide) (Nat.le_of_ble_eq_true rfl) rfl ((zput_par nd_0_51_52 rfl).trans rfl) ?_
  refine z_top (y := nI 7) rfl ?_
  refine z_pop C dL_orders_235 rfl ?_
  refine z_aload_n C 0 dL_orders_236 rfl rfl ?_
  refine z_bipush C (nI 57) dL_orders_237 (by decide) ?_
  refine z_callV (wn := (WRd X.2.1 x0 h0 h1 w0 w1 t r S o kp Q (tyL (tyL tx [48 + dd, 48, 114, 43]) [57, 57, 114, 43, 32, 48, 114, 43]) 8 ps3)) C kX5_type gL_orders_X5_type (l_typ X.2.1 x0 (t 0) h0 w0 w1 (tyL tx [48 + dd, 48, 114, 43]) [57, 114, 43, 32, 48, 114, 43] ps3 57 7 rfl (by decide) htx2 (by intro c hc9; simp at hc9; omega) (by omega)) dL_orders_239 [0, 51, 52] [] 0 rfl rfl nd_0_51_52 rfl rfl rfl (by decide) (by decide) (Nat.le_of_ble_eq_true rfl) rfl ((zput_par nd_0_51_52 rfl).trans rfl) ?_
  refine z_top (y := nI 8) rfl ?_
  refine z_istore C dL_orders_242 (Nat.le_of_ble_eq_true rfl) ?_
  refine z_lv (lv' := [some (.ref x0), some (.int (nI au)), some (.int g), some (.int h), some (.int (nI 0)), some (.int (nI (uU S 0))), some (.int (nI (mK S))), some (.int (nI 1)), some (.int (nI 8)), some (.int (nI 1)), none]) rfl ?_
  refine z_iload C dL_orders_244 rfl ?_
  refine z_iload C dL_orders_246 rfl ?_
  refine z_nif_ne_f C 256 dL_orders_248 (by decide) (by omega) (by omega) ?_
  refine z_bipush C (nI 12) dL_orders_251 (by decide) ?_
  refine z_goto C 258 dL_orders_253 (by decide) ?_
  refine z_ncmp_eq_f C 273 dL_orders_258 (by decide) (by omega) (by omega) (by omega) ?_
  refine z_iload C dL_orders_261 rfl ?_
  refine z_nif_eq_f C 277 dL_orders_263 (by decide) (by omega) (by omega) ?_
  refine z_iload C dL_orders_266 rfl ?_
  refine z_bipush C (nI 60) dL_orders_268 (by decide) ?_
  refine z_ncmp_ne_f C 277 dL_orders_270 (by decide) (by omega) (by omega) (by omega) ?_
  refine z_iconst C (nI 0) dL_orders_273 (by decide) ?_
  refine z_goto C 278 dL_orders_274 (by decide) ?_
  refine z_istore C dL_orders_278 (Nat.le_of_ble_eq_true rfl) ?_
  refine z_lv (lv' := [some (.ref x0), some (.int (nI au)), some (.int g), some (.int h), some (.int (nI 0)), some (.int (nI (uU S 0))), some (.int (nI (mK S))), some (.int (nI 1)), some (.int (nI 8)), some (.int (nI 1)), some (.int (nI 0))]) rfl ?_
  refine z_aload_n C 0 dL_orders_280 rfl rfl ?_
  refine z_iload_n C 1 dL_orders_281 rfl rfl ?_
  refine z_callV (wn := (WRd X.2.1 x0 h0 h1 w0 w1 t r S1 o1 kp1 Q1 (tyL (tyL tx [48 + dd, 48, 114, 43]) [57, 57, 114, 43, 32, 48, 114, 43]) 8 ps4)) C kX5_run gL_orders_X5_run m5 dL_orders_282 [0, 1, 2, 3, 4, 5, 6, 7, 8, 9, 10, 11, 12, 13, 14, 15, 16, 17, 18, 19, 20, 21, 22, 23, 24, 25, 26, 27, 28, 29, 30, 31, 32, 33, 34, 35, 36, 37, 38, 39, 40, 41, 42, 43, 44, 45, 46, 47, 48, 49, 50, 51, 52] [] 0 rfl rfl nd_0_1_2_3_4_5_6_7_8_9_10_11_12_13_14_15_16_17_18_19_20_21_22_23_24_25_26_27_28_29_30_31_32_33_34_35_36_37_38_39_40_41_42_43_44_45_46_47_48_49_50_51_52 rfl rfl rfl (by decide) (by decide) (Nat.le_of_ble_eq_true rfl) rfl ((zput_par nd_0_1_2_3_4_5_6_7_8_9_10_11_12_13_14_15_16_17_18_19_20_21_22_23_24_25_26_27_28_29_30_31_32_33_34_35_36_37_38_39_40_41_42_43_44_45_46_47_48_49_50_51_52 rfl).trans rfl) ?_
  refine z_iload C dL_orders_285 rfl ?_
  refine z_ncmp_ne_f C 305 dL_orders_287 (by decide) (by omega) (by omega) (by omega) ?_
  refine z_aload_n C 0 dL_orders_290 rfl rfl ?_
  refine z_iconst C (nI 0) dL_orders_291 (by decide) ?_
  refine z_iload C dL_orders_292 rfl ?_
  refine z_callVr C kX5_size gL_orders_X5_size (l_size0 X.2.1 x0 h0 w0 t S1 0 hG1 (by decide)) dL_orders_294 [0, 1, 2, 3, 4, 5, 6, 7, 8] [] 0 rfl nd_0_1_2_3_4_5_6_7_8 rfl rfl rfl (by decide) (by decide) (Nat.le_of_ble_eq_true rfl) rfl ?_
  refine z_iload C dL_orders_297 rfl ?_
  refine z_iload C dL_orders_299 rfl ?_
  refine z_iadd C dL_orders_301 ?_
  refine z_top (y := nI (uU S 0)) (nI_add _ _) ?_
  refine z_ncmp_eq_t C 307 dL_orders_302 (by decide) (by omega) (by omega) (by omega) ?_
  refine z_aload_n C 0 dL_orders_307 rfl rfl ?_
  refine z_bipush C (nI 57) dL_orders_308 (by decide) ?_
  refine z_callV (wn := (WRd X.2.1 x0 h0 h1 w0 w1 t r S1 o1 kp1 Q1 (tyL (tyL tx [48 + dd, 48, 114, 43]) [57, 57, 57, 114, 43, 32, 48, 114, 43]) 9 ps4)) C kX5_type gL_orders_X5_type (l_typ X.2.1 x0 (t 0) h0 w0 w1 (tyL tx [48 + dd, 48, 114, 43]) [57, 57, 114, 43, 32, 48, 114, 43] ps4 57 8 rfl (by decide) htx2 (by intro c hc9; simp at hc9; omega) (by omega)) dL_orders_310 [0, 51, 52] [] 0 rfl rfl nd_0_51_52 rfl rfl rfl (by decide) (by decide) (Nat.le_of_ble_eq_true rfl) rfl ((zput_par nd_0_51_52 rfl).trans rfl) ?_
  refine z_top (y := nI 9) rfl ?_
  refine z_pop C dL_orders_313 rfl ?_
  refine z_aload_n C 0 dL_orders_314 rfl rfl ?_
  refine z_iload_n C 1 dL_orders_315 rfl rfl ?_
  refine z_callV (wn := (WRd X.2.1 x0 h0 h1 w0 w1 t r S1 o1 kp1 Q1 (tyL (tyL tx [48 + dd, 48, 114, 43]) [57, 57, 57, 114, 43, 32, 48, 114, 43]) 9 ps5)) C kX5_run gL_orders_X5_run m6 dL_orders_316 [0, 1, 2, 3, 4, 5, 6, 7, 8, 9, 10, 11, 12, 13, 14, 15, 16, 17, 18, 19, 20, 21, 22, 23, 24, 25, 26, 27, 28, 29, 30, 31, 32, 33, 34, 35, 36, 37, 38, 39, 40, 41, 42, 43, 44, 45, 46, 47, 48, 49, 50, 51, 52] [] 0 rfl rfl nd_0_1_2_3_4_5_6_7_8_9_10_11_12_13_14_15_16_17_18_19_20_21_22_23_24_25_26_27_28_29_30_31_32_33_34_35_36_37_38_39_40_41_42_43_44_45_46_47_48_49_50_51_52 rfl rfl rfl (by decide) (by decide) (Nat.le_of_ble_eq_true rfl) rfl ((zput_par nd_0_1_2_3_4_5_6_7_8_9_10_11_12_13_14_15_16_17_18_19_20_21_22_23_24_25_26_27_28_29_30_31_32_33_34_35_36_37_38_39_40_41_42_43_44_45_46_47_48_49_50_51_52 rfl).trans rfl) ?_
  refine z_bipush C (-100) dL_orders_319 (by decide) ?_
  refine z_iload C dL_orders_321 rfl ?_
  refine z_isub C dL_orders_323 ?_
  refine z_top (y := (-108)) (by decide) ?_
  refine z_icmp_ne_f C 360 dL_orders_324 (by decide) rfl ?_
  refine z_aload_n C 0 dL_orders_327 rfl rfl ?_
  refine z_callV (wn := (WRd X.2.1 x0 h0 h1 w0 w1 t r S o2 kp2 Q1 (tyL (tyL tx [48 + dd, 48, 114, 43]) [57, 57, 57, 114, 43, 32, 48, 114, 43]) 9 ps5)) C kX5_undo gL_orders_X5_undo m7 dL_orders_328 [0, 1, 2, 3, 4, 5, 6, 7, 8, 9, 10, 11, 12, 13, 14, 15, 16, 17, 18, 19, 20, 21, 22, 23, 24, 25, 26, 27, 28, 29, 30, 31, 32, 33, 34, 35, 36, 37, 38, 39, 40, 41, 42, 43, 44, 45, 46, 47, 48, 49, 50] [] 0 rfl rfl nd_0_1_2_3_4_5_6_7_8_9_10_11_12_13_14_15_16_17_18_19_20_21_22_23_24_25_26_27_28_29_30_31_32_33_34_35_36_37_38_39_40_41_42_43_44_45_46_47_48_49_50 rfl rfl rfl (by decide) (by decide) (Nat.le_of_ble_eq_true rfl) rfl ((zput_par nd_0_1_2_3_4_5_6_7_8_9_10_11_12_13_14_15_16_17_18_19_20_21_22_23_24_25_26_27_28_29_30_31_32_33_34_35_36_37_38_39_40_41_42_43_44_45_46_47_48_49_50 rfl).trans rfl) ?_
  refine z_nif_lt_f C 360 dL_orders_331 (by decide) (by omega) (by trivial) ?_
  refine z_aload_n C 0 dL_orders_334 rfl rfl ?_
  refine z_iconst C (nI 0) dL_orders_335 (by decide) ?_
  refine z_iload C dL_orders_336 rfl ?_
  refine z_callVr C kX5_size gL_orders_X5_size (l_size0 X.2.1 x0 h0 w0 t S 0 hG (by decide)) dL_orders_338 [0, 1, 2, 3, 4, 5, 6, 7, 8] [] 0 rfl nd_0_1_2_3_4_5_6_7_8 rfl rfl rfl (by decide) (by decide) (Nat.le_of_ble_eq_true rfl) rfl ?_
  refine z_iload C dL_orders_341 rfl ?_
  refine z_ncmp_ne_f C 360 dL_orders_343 (by decide) (by omega) (by omega) (by omega) ?_
  refine z_aload_n C 0 dL_orders_346 rfl rfl ?_
  refine z_iconst C (nI 0) dL_orders_347 (by decide) ?_
  refine z_callVr C kX5_count gL_orders_X5_count (l_cnt0 X.2.1 x0 h0 h1 w0 w1 t S o2 kp2 9 ps5  hG ) dL_orders_348 [0, 1, 2, 3, 4, 5, 6, 7, 8, 9, 51] [] 0 rfl nd_0_1_2_3_4_5_6_7_8_9_51 rfl rfl rfl (by decide) (by decide) (Nat.le_of_ble_eq_true rfl) rfl ?_
  refine z_iload C dL_orders_351 rfl ?_
  refine z_ncmp_ne_f C 360 dL_orders_353 (by decide) (by omega) (by omega) (by omega) ?_
  refine z_iconst C (nI 1) dL_orders_356 (by decide) ?_
  refine z_goto C 361 dL_orders_357 (by decide) ?_
  exact z_zret C N dL_orders_361 rfl (rfl) (rfl)

set_option maxHeartbeats 4000000 in
set_option maxRecDepth 100000 in
theorem w_ord00f (E : zE) (x0 h0 h1 w0 w1 : Nat) (t : Nat → Nat) (r : Nat → Nat → Nat) (S S1 : zSt) (o kp o1 o2 kp1 kp2 : Nat) (Q Q1 : Nat → zSt) (tx : Nat → Nat) (ln : Nat) (ps ps1 ps2 ps3 ps4 ps5 : zPs) {B B1 : Nat} (au : Nat) (g h : Int32) (dd lf : Nat) (hG : GG S B) (hG1 : GG S1 B1) (hau : au < 4) (hg1 : g &&& (nI 1) = nI 0) (hg2 : g &&& (nI 2) = 0) (hd : lw h 10 = dd) (hdd : dd < 10) (hln : ln ≤ 60) (htx : ∀ j, tx j < 65536) (hlf : lf < 100) (hu : uU S1 0 = uU S 0 + 0) (hf : uU S 0 = 12) (m1 : zM E yX5_run wsX5_run 8 [.ref x0, .int (nI au)] (WRd E x0 h0 h1 w0 w1 t r S o kp Q (tyL tx []) 0 ps) (WRd E x0 h0 h1 w0 w1 t r S o kp Q (tyL tx []) 0 ps1) (some (.int (-100)))) (m2 : zM E yX5_run wsX5_run 8 [.ref x0, .int (nI 4)] (WRd E x0 h0 h1 w0 w1 t r S o kp Q (tyL tx []) 0 ps1) (WRd E x0 h0 h1 w0 w1 t r S o kp Q (tyL tx []) 0 ps1) (some (.int (-1)))) (m3 : zM E yX5_run wsX5_run 8 [.ref x0, .int (nI au)] (WRd E x0 h0 h1 w0 w1 t r S o kp Q (tyL tx [43]) 1 ps1) (WRd E x0 h0 h1 w0 w1 t r S o kp Q (tyL tx [43]) 1 ps2) (some (.int (-101)))) (m4 : zM E yX5_run wsX5_run 8 [.ref x0, .int (nI au)] (WRd E x0 h0 h1 w0 w1 t r S o kp Q (tyL tx [48 + dd, 48, 114, 43]) 4 ps2) (WRd E x0 h0 h1 w0 w1 t r S o kp Q (tyL tx [48 + dd, 48, 114, 43]) 4 ps3) (some (.int (-103)))) (m5 : zM E yX5_run wsX5_run 8 [.ref x0, .int (nI au)] (WRd E x0 h0 h1 w0 w1 t r S o kp Q (tyL (tyL tx [48 + dd, 48, 114, 43]) [57, 57, 114, 43, 32, 48, 114, 43]) 8 ps3) (WRd E x0 h0 h1 w0 w1 t r S1 o1 kp1 Q1 (tyL (tyL tx [48 + dd, 48, 114, 43]) [57, 57, 114, 43, 32, 48, 114, 43]) 8 ps4) (some (.int (nI 0)))) (m6 : zM E yX5_run wsX5_run 8 [.ref x0, .int (nI au)] (WRd E x0 h0 h1 w0 w1 t r S1 o1 kp1 Q1 (tyL (tyL tx [48 + dd, 48, 114, 43]) [57, 57, 57, 114, 43, 32, 48, 114, 43]) 9 ps4) (WRd E x0 h0 h1 w0 w1 t r S1 o1 kp1 Q1 (tyL (tyL tx [48 + dd, 48, 114, 43]) [57, 57, 57, 114, 43, 32, 48, 114, 43]) 9 ps5) (some (.int (-108)))) (m7 : zM E yX5_undo wsX5_undo 5 [.ref x0] (WAd E x0 h0 h1 w0 t r S1 o1 kp1 Q1) (WAd E x0 h0 h1 w0 t r S o2 kp2 Q1) (some (.int (nI lf)))) : zM E yL_orders wsL_orders 9 [.ref x0, .int (nI au), .int g, .int h] (WRd E x0 h0 h1 w0 w1 t r S o kp Q tx ln ps) (WRd E x0 h0 h1 w0 w1 t r S o2 kp2 Q1 (tyL (tyL tx [48 + dd, 48, 114, 43]) [57, 57, 57, 114, 43, 32, 48, 114, 43]) 9 ps5) (some (.int (nI 1))) := by
  refine zM.of kL_orders (Nat.le_of_ble_eq_true rfl) rfl [some (.ref x0), some (.int (nI au)), some (.int g), some (.int h), none, none, none, none, none, none, none] rfl (Nat.le_of_ble_eq_true rfl) ?_
  intro X eX C N
  subst eX
  have hb0 : uU S 0 ≤ 12 := gg_u hG 0
  have hb1 : uU S 1 ≤ 8 := gg_u1 hG
  have hb2 : mK S ≤ 60 := gg_M hG
  have hb3 : uU S1 0 ≤ 12 := gg_u hG1 0
  have hb4 : uU S1 1 ≤ 8 := gg_u1 hG1
  have hb5 : mK S1 ≤ 60 := gg_M hG1
  refine z_aload_n C 0 dL_orders_0 rfl rfl ?_
  refine z_callV (wn := (WRd X.2.1 x0 h0 h1 w0 w1 t r S o kp Q (tyL tx []) 0 ps)) C kX5_clearText gL_orders_X5_clearText (l_clr X.2.1 x0 (t 0) h0 w0 w1 tx ln ps hln) dL_orders_1 [0, 51, 52] [] 0 rfl rfl nd_0_51_52 rfl rfl rfl (by decide) (by decide) (Nat.le_of_ble_eq_true rfl) rfl ((zput_par nd_0_51_52 rfl).trans rfl) ?_
  refine z_pop C dL_orders_4 rfl ?_
  refine z_aload_n C 0 dL_orders_5 rfl rfl ?_
  refine z_iload_n C 1 dL_orders_6 rfl rfl ?_
  refine z_callV (wn := (WRd X.2.1 x0 h0 h1 w0 w1 t r S o kp Q (tyL tx []) 0 ps1)) C kX5_run gL_orders_X5_run m1 dL_orders_7 [0, 1, 2, 3, 4, 5, 6, 7, 8, 9, 10, 11, 12, 13, 14, 15, 16, 17, 18, 19, 20, 21, 22, 23, 24, 25, 26, 27, 28, 29, 30, 31, 32, 33, 34, 35, 36, 37, 38, 39, 40, 41, 42, 43, 44, 45, 46, 47, 48, 49, 50, 51, 52] [] 0 rfl rfl nd_0_1_2_3_4_5_6_7_8_9_10_11_12_13_14_15_16_17_18_19_20_21_22_23_24_25_26_27_28_29_30_31_32_33_34_35_36_37_38_39_40_41_42_43_44_45_46_47_48_49_50_51_52 rfl rfl rfl (by decide) (by decide) (Nat.le_of_ble_eq_true rfl) rfl ((zput_par nd_0_1_2_3_4_5_6_7_8_9_10_11_12_13_14_15_16_17_18_19_20_21_22_23_24_25_26_27_28_29_30_31_32_33_34_35_36_37_38_39_40_41_42_43_44_45_46_47_48_49_50_51_52 rfl).trans rfl) ?_
  refine z_bipush C (-100) dL_orders_10 (by decide) ?_
  refine z_icmp_ne_f C 24 dL_orders_12 (by decide) rfl ?_
  refine z_aload_n C 0 dL_orders_15 rfl rfl ?_
  refine z_iconst C (nI 4) dL_orders_16 (by decide) ?_
  refine z_callV (wn := (WRd X.2.1 x0 h0 h1 w0 w1 t r S o kp Q (tyL tx []) 0 ps1)) C kX5_run gL_orders_X5_run m2 dL_orders_17 [0, 1, 2, 3, 4, 5, 6, 7, 8, 9, 10, 11, 12, 13, 14, 15, 16, 17, 18, 19, 20, 21, 22, 23, 24, 25, 26, 27, 28, 29, 30, 31, 32, 33, 34, 35, 36, 37, 38, 39, 40, 41, 42, 43, 44, 45, 46, 47, 48, 49, 50, 51, 52] [] 0 rfl rfl nd_0_1_2_3_4_5_6_7_8_9_10_11_12_13_14_15_16_17_18_19_20_21_22_23_24_25_26_27_28_29_30_31_32_33_34_35_36_37_38_39_40_41_42_43_44_45_46_47_48_49_50_51_52 rfl rfl rfl (by decide) (by decide) (Nat.le_of_ble_eq_true rfl) rfl ((zput_par nd_0_1_2_3_4_5_6_7_8_9_10_11_12_13_14_15_16_17_18_19_20_21_22_23_24_25_26_27_28_29_30_31_32_33_34_35_36_37_38_39_40_41_42_43_44_45_46_47_48_49_50_51_52 rfl).trans rfl) ?_
  refine z_iconst C (-1) dL_orders_20 (by decide) ?_
  refine z_icmp_eq_t C 26 dL_orders_21 (by decide) rfl ?_
  refine z_iload_n C 2 dL_orders_26 rfl rfl ?_
  refine z_iconst C (nI 1) dL_orders_27 (by decide) ?_
  refine z_iand C dL_orders_28 ?_
  refine z_top (y := nI 0) (hg1) ?_
  refine z_istore C dL_orders_29 (Nat.le_of_ble_eq_true rfl) ?_
  refine z_lv (lv' := [some (.ref x0), some (.int (nI au)), some (.int g), some (.int h), some (.int (nI 0)), none, none, none, none, none, none]) rfl ?_
  refine z_aload_n C 0 dL_orders_31 rfl rfl ?_
  refine z_iconst C (nI 0) dL_orders_32 (by decide) ?_
  refine z_iload C dL_orders_33 rfl ?_
  refine z_callVr C kX5_size gL_orders_X5_size (l_size0 X.2.1 x0 h0 w0 t S 0 hG (by decide)) dL_orders_35 [0, 1, 2, 3, 4, 5, 6, 7, 8] [] 0 rfl nd_0_1_2_3_4_5_6_7_8 rfl rfl rfl (by decide) (by decide) (Nat.le_of_ble_eq_true rfl) rfl ?_
  refine z_istore C dL_orders_38 (Nat.le_of_ble_eq_true rfl) ?_
  refine z_lv (lv' := [some (.ref x0), some (.int (nI au)), some (.int g), some (.int h), some (.int (nI 0)), some (.int (nI (uU S 0))), none, none, none, none, none]) rfl ?_
  refine z_aload_n C 0 dL_orders_40 rfl rfl ?_
  refine z_iconst C (nI 0) dL_orders_41 (by decide) ?_
  refine z_callVr C kX5_count gL_orders_X5_count (l_cnt0 X.2.1 x0 h0 h1 w0 w1 t S o kp 0 ps1  hG ) dL_orders_42 [0, 1, 2, 3, 4, 5, 6, 7, 8, 9, 51] [] 0 rfl nd_0_1_2_3_4_5_6_7_8_9_51 rfl rfl rfl (by decide) (by decide) (Nat.le_of_ble_eq_true rfl) rfl ?_
  refine z_istore C dL_orders_45 (Nat.le_of_ble_eq_true rfl) ?_
  refine z_lv (lv' := [some (.ref x0), some (.int (nI au)), some (.int g), some (.int h), some (.int (nI 0)), some (.int (nI (uU S 0))), some (.int (nI (mK S))), none, none, none, none]) rfl ?_
  refine z_aload_n C 0 dL_orders_47 rfl rfl ?_
  refine z_iconst C (nI 5) dL_orders_48 (by decide) ?_
  refine z_callVr C kX5_count gL_orders_X5_count (l_cnt5 X.2.1 x0 h0 h1 w0 w1 t S o kp 0 ps1  hG ) dL_orders_49 [0, 1, 2, 3, 4, 5, 6, 7, 8, 9, 51] [] 0 rfl nd_0_1_2_3_4_5_6_7_8_9_51 rfl rfl rfl (by decide) (by decide) (Nat.le_of_ble_eq_true rfl) rfl ?_
  refine z_iconst C (nI 1) dL_orders_52 (by decide) ?_
  refine z_icmp_ne C 60 dL_orders_53 (by decide) (fun h_1 => ?_) (fun h_1 => ?_)
  · refine z_iconst C (nI 0) dL_orders_60 (by decide) ?_
    refine z_istore C dL_orders_61 (Nat.le_of_ble_eq_true rfl) ?_
    refine z_lv (lv' := [some (.ref x0), some (.int (nI au)), some (.int g), some (.int h), some (.int (nI 0)), some (.int (nI (uU S 0))), some (.int (nI (mK S))), some (.int (nI 0)), none, none, none]) rfl ?_
    refine z_aload_n C 0 dL_orders_63 rfl rfl ?_
    refine z_iload_n C 2 dL_orders_64 rfl rfl ?_
    refine z_iconst C (nI 2) dL_orders_65 (by decide) ?_
    refine z_iand C dL_orders_66 ?_
    refine z_if_ne_f C 75 dL_orders_67 (by decide) hg2 ?_
    refine z_bipush C (nI 43) dL_orders_70 (by decide) ?_
    refine z_goto C 77 dL_orders_72 (by decide) ?_
    refine z_callV (wn := (WRd X.2.1 x0 h0 h1 w0 w1 t r S o kp Q (tyL tx [43]) 1 ps1)) C kX5_type gL_orders_X5_type (l_typ X.2.1 x0 (t 0) h0 w0 w1 tx [] ps1 43 0 rfl (by decide) htx (fun c hc9 => absurd hc9 List.not_mem_nil) (by omega)) dL_orders_77 [0, 51, 52] [] 0 rfl rfl nd_0_51_52 rfl rfl rfl (by decide) (by decide) (Nat.le_of_ble_eq_true rfl) rfl ((zput_par nd_0_51_52 rfl).trans rfl) ?_
    refine z_top (y := nI 1) rfl ?_
    refine z_istore C dL_orders_80 (Nat.le_of_ble_eq_true rfl) ?_
    refine z_lv (lv' := [some (.ref x0), some (.int (nI au)), some (.int g), some (.int h), some (.int (nI 0)), some (.int (nI (uU S 0))), some (.int (nI (mK S))), some (.int (nI 0)), some (.int (nI 1)), none, none]) rfl ?_
    refine z_aload_n C 0 dL_orders_82 rfl rfl ?_
    refine z_iload_n C 1 dL_orders_83 rfl rfl ?_
    refine z_callV (wn := (WRd X.2.1 x0 h0 h1 w0 w1 t r S o kp Q (tyL tx [43]) 1 ps2)) C kX5_run gL_orders_X5_run m3 dL_orders_84 [0, 1, 2, 3, 4, 5, 6, 7, 8, 9, 10, 11, 12, 13, 14, 15, 16, 17, 18, 19, 20, 21, 22, 23, 24, 25, 26, 27, 28, 29, 30, 31, 32, 33, 34, 35, 36, 37, 38, 39, 40, 41, 42, 43, 44, 45, 46, 47, 48, 49, 50, 51, 52] [] 0 rfl rfl nd_0_1_2_3_4_5_6_7_8_9_10_11_12_13_14_15_16_17_18_19_20_21_22_23_24_25_26_27_28_29_30_31_32_33_34_35_36_37_38_39_40_41_42_43_44_45_46_47_48_49_50_51_52 rfl rfl rfl (by decide) (by decide) (Nat.le_of_ble_eq_true rfl) rfl ((zput_par nd_0_1_2_3_4_5_6_7_8_9_10_11_12_13_14_15_16_17_18_19_20_21_22_23_24_25_26_27_28_29_30_31_32_33_34_35_36_37_38_39_40_41_42_43_44_45_46_47_48_49_50_51_52 rfl).trans rfl) ?_
    refine z_bipush C (-100) dL_orders_87 (by decide) ?_
    refine z_iload C dL_orders_89 rfl ?_
    refine z_isub C dL_orders_91 ?_
    refine z_top (y := (-101)) (by decide) ?_
    refine z_icmp_ne_f C 99 dL_orders_92 (by decide) rfl ?_
    refine z_iconst C (nI 1) dL_orders_95 (by decide) ?_
    refine z_goto C 100 dL_orders_96 (by decide) ?_
    refine z_istore C dL_orders_100 (Nat.le_of_ble_eq_true rfl) ?_
    refine z_lv (lv' := [some (.ref x0), some (.int (nI au)), some (.int g), some (.int h), some (.int (nI 0)), some (.int (nI (uU S 0))), some (.int (nI (mK S))), some (.int (nI 0)), some (.int (nI 1)), some (.int (nI 1)), none]) rfl ?_
    refine z_aload_n C 0 dL_orders_102 rfl rfl ?_
    refine z_iload C dL_orders_103 rfl ?_
    refine z_nif_ne_f C 113 dL_orders_105 (by decide) (by omega) (by omega) ?_
    refine z_bipush C (nI 114) dL_orders_108 (by decide) ?_
    refine z_goto C 115 dL_orders_110 (by decide) ?_
    refine z_callV (wn := (WRd X.2.1 x0 h0 h1 w0 w1 t r S o kp Q (tyL tx [114, 43]) 2 ps2)) C kX5_type gL_orders_X5_type (l_typ X.2.1 x0 (t 0) h0 w0 w1 tx [43] ps2 114 1 rfl (by decide) htx (by intro c hc9; simp at hc9; omega) (by omega)) dL_orders_115 [0, 51, 52] [] 0 rfl rfl nd_0_51_52 rfl rfl rfl (by decide) (by decide) (Nat.le_of_ble_eq_true rfl) rfl ((zput_par nd_0_51_52 rfl).trans rfl) ?_
    refine z_top (y := nI 2) rfl ?_
    refine z_pop C dL_orders_118 rfl ?_
    refine z_aload_n C 0 dL_orders_119 rfl rfl ?_
    refine z_bipush C (nI 48) dL_orders_120 (by decide) ?_
    refine z_callV (wn := (WRd X.2.1 x0 h0 h1 w0 w1 t r S o kp Q (tyL tx [48, 114, 43]) 3 ps2)) C kX5_type gL_orders_X5_type (l_typ X.2.1 x0 (t 0) h0 w0 w1 tx [114, 43] ps2 48 2 rfl (by decide) htx (by intro c hc9; simp at hc9; omega) (by omega)) dL_orders_122 [0, 51, 52] [] 0 rfl rfl nd_0_51_52 rfl rfl rfl (by decide) (by decide) (Nat.le_of_ble_eq_true rfl) rfl ((zput_par nd_0_51_52 rfl).trans rfl) ?_
    refine z_top (y := nI 3) rfl ?_
    refine z_pop C dL_orders_125 rfl ?_
    refine z_aload_n C 0 dL_orders_126 rfl rfl ?_
    refine z_bipush C (nI 48) dL_orders_127 (by decide) ?_
    refine z_iload_n C 3 dL_orders_129 rfl rfl ?_
    refine z_bipush C (nI 10) dL_orders_130 (by decide) ?_
    refine z_callS C kL_low gL_orders_L_low (l_low X.2.1 h 10 (by decide) (by decide)) dL_orders_132 [.int (nI 48), .ref x0] rfl (by decide) (by decide) (Nat.le_of_ble_eq_true rfl) rfl ?_
    refine z_top (y := nI dd) (congrArg nI hd) ?_
    refine z_iadd C dL_orders_135 ?_
    refine z_top (y := nI (48 + dd)) (nI_add _ _) ?_
    refine z_i2c C (nI (48 + dd)) dL_orders_136 (chr_n (by omega)) ?_
    refine z_callV (wn := (WRd X.2.1 x0 h0 h1 w0 w1 t r S o kp Q (tyL tx [48 + dd, 48, 114, 43]) 4 ps2)) C kX5_type gL_orders_X5_type (l_typ X.2.1 x0 (t 0) h0 w0 w1 tx [48, 114, 43] ps2 (48 + dd) 3 rfl (by decide) htx (by intro c hc9; simp at hc9; omega) (by omega)) dL_orders_137 [0, 51, 52] [] 0 rfl rfl nd_0_51_52 rfl rfl rfl (by decide) (by decide) (Nat.le_of_ble_eq_true rfl) rfl ((zput_par nd_0_51_52 rfl).trans rfl) ?_
    refine z_top (y := nI 4) rfl ?_
    refine z_istore C dL_orders_140 (Nat.le_of_ble_eq_true rfl) ?_
    refine z_lv (lv' := [some (.ref x0), some (.int (nI au)), some (.int g), some (.int h), some (.int (nI 0)), some (.int (nI (uU S 0))), some (.int (nI (mK S))), some (.int (nI 0)), some (.int (nI 4)), some (.int (nI 1)), none]) rfl ?_
    refine z_iload C dL_orders_142 rfl ?_
    refine z_nif_eq_f C 160 dL_orders_144 (by decide) (by omega) (by omega) ?_
    refine z_aload_n C 0 dL_orders_147 rfl rfl ?_
    refine z_iload_n C 1 dL_orders_148 rfl rfl ?_
    refine z_callV (wn := (WRd X.2.1 x0 h0 h1 w0 w1 t r S o kp Q (tyL tx [48 + dd, 48, 114, 43]) 4 ps3)) C kX5_run gL_orders_X5_run m4 dL_orders_149 [0, 1, 2, 3, 4, 5, 6, 7, 8, 9, 10, 11, 12, 13, 14, 15, 16, 17, 18, 19, 20, 21, 22, 23, 24, 25, 26, 27, 28, 29, 30, 31, 32, 33, 34, 35, 36, 37, 38, 39, 40, 41, 42, 43, 44, 45, 46, 47, 48, 49, 50, 51, 52] [] 0 rfl rfl nd_0_1_2_3_4_5_6_7_8_9_10_11_12_13_14_15_16_17_18_19_20_21_22_23_24_25_26_27_28_29_30_31_32_33_34_35_36_37_38_39_40_41_42_43_44_45_46_47_48_49_50_51_52 rfl rfl rfl (by decide) (by decide) (Nat.le_of_ble_eq_true rfl) rfl ((zput_par nd_0_1_2_3_4_5_6_7_8_9_10_11_12_13_14_15_16_17_18_19_20_21_22_23_24_25_26_27_28_29_30_31_32_33_34_35_36_37_38_39_40_41_42_43_44_45_46_47_48_49_50_51_52 rfl).trans rfl) ?_
    refine z_bipush C (-99) dL_orders_152 (by decide) ?_
    refine z_iload C dL_orders_154 rfl ?_
    refine z_isub C dL_orders_156 ?_
    refine z_top (y := (-103)) (by decide) ?_
    refine z_icmp_eq_t C 162 dL_orders_157 (by decide) rfl ?_
    refine z_aload_n C 0 dL_orders_162 rfl rfl ?_
    have htx2 : ∀ j, tyL tx [48 + dd, 48, 114, 43] j < 65536 := tyL_b htx (by intro c hc9; simp at hc9; omega)
    refine z_callV (wn := (WRd X.2.1 x0 h0 h1 w0 w1 t r S o kp Q (tyL (tyL tx [48 + dd, 48, 114, 43]) []) 0 ps3)) C kX5_clearText gL_orders_X5_clearText (l_clr X.2.1 x0 (t 0) h0 w0 w1 (tyL tx [48 + dd, 48, 114, 43]) 4 ps3 (by decide)) dL_orders_163 [0, 51, 52] [] 0 rfl rfl nd_0_51_52 rfl rfl rfl (by decide) (by decide) (Nat.le_of_ble_eq_true rfl) rfl ((zput_par nd_0_51_52 rfl).trans rfl) ?_
    refine z_pop C dL_orders_166 rfl ?_
    refine z_aload_n C 0 dL_orders_167 rfl rfl ?_
    refine z_bipush C (nI 43) dL_orders_168 (by decide) ?_
    refine z_callV (wn := (WRd X.2.1 x0 h0 h1 w0 w1 t r S o kp Q (tyL (tyL tx [48 + dd, 48, 114, 43]) [43]) 1 ps3)) C kX5_type gL_orders_X5_type (l_typ X.2.1 x0 (t 0) h0 w0 w1 (tyL tx [48 + dd, 48, 114, 43]) [] ps3 43 0 rfl (by decide) htx2 (fun c hc9 => absurd hc9 List.not_mem_nil) (by omega)) dL_orders_170 [0, 51, 52] [] 0 rfl rfl nd_0_51_52 rfl rfl rfl (by decide) (by decide) (Nat.le_of_ble_eq_true rfl) rfl ((zput_par nd_0_51_52 rfl).trans rfl) ?_
    refine z_top (y := nI 1) rfl ?_
    refine z_pop C dL_orders_173 rfl ?_
    refine z_aload_n C 0 dL_orders_174 rfl rfl ?_
    refine z_iload C dL_orders_175 rfl ?_
    refine z_nif_ne_f C 185 dL_orders_177 (by decide) (by omega) (by omega) ?_
    refine z_bipush C (nI 114) dL_orders_180 (by decide) ?_
    refine z_goto C 187 dL_orders_182 (by decide) ?_
    refine z_callV (wn := (WRd X.2.1 x0 h0 h1 w0 w1 t r S o kp Q (tyL (tyL tx [48 + dd, 48, 114, 43]) [114, 43]) 2 ps3)) C kX5_type gL_orders_X5_type (l_typ X.2.1 x0 (t 0) h0 w0 w1 (tyL tx [48 + dd, 48, 114, 43]) [43] ps3 114 1 rfl (by decide) htx2 (by intro c hc9; simp at hc9; omega) (by omega)) dL_orders_187 [0, 51, 52] [] 0 rfl rfl nd_0_51_52 rfl rfl rfl (by decide) (by decide) (Nat.le_of_ble_eq_true rfl) rfl ((zput_par nd_0_51_52 rfl).trans rfl) ?_
    refine z_top (y := nI 2) rfl ?_
    refine z_pop C dL_orders_190 rfl ?_
    refine z_aload_n C 0 dL_orders_191 rfl rfl ?_
    refine z_bipush C (nI 48) dL_orders_192 (by decide) ?_
    refine z_callV (wn := (WRd X.2.1 x0 h0 h1 w0 w1 t r S o kp Q (tyL (tyL tx [48 + dd, 48, 114, 43]) [48, 114, 43]) 3 ps3)) C kX5_type gL_orders_X5_type (l_typ X.2.1 x0 (t 0) h0 w0 w1 (tyL tx [48 + dd, 48, 114, 43]) [114, 43] ps3 48 2 rfl (by decide) htx2 (by intro c hc9; simp at hc9; omega) (by omega)) dL_orders_194 [0, 51, 52] [] 0 rfl rfl nd_0_51_52 rfl rfl rfl (by decide) (by decide) (Nat.le_of_ble_eq_true rfl) rfl ((zput_par nd_0_51_52 rfl).trans rfl) ?_
    refine z_top (y := nI 3) rfl ?_
    refine z_pop C dL_orders_197 rfl ?_
    refine z_aload_n C 0 dL_orders_198 rfl rfl ?_
    refine z_bipush C (nI 32) dL_orders_199 (by decide) ?_
    refine z_callV (wn := (WRd X.2.1 x0 h0 h1 w0 w1 t r S o kp Q (tyL (tyL tx [48 + dd, 48, 114, 43]) [32, 48, 114, 43]) 4 ps3)) C kX5_type gL_orders_X5_type (l_typ X.2.1 x0 (t 0) h0 w0 w1 (tyL tx [48 + dd, 48, 114, 43]) [48, 114, 43] ps3 32 3 rfl (by decide) htx2 (by intro c hc9; simp at hc9; omega) (by omega)) dL_orders_201 [0, 51, 52] [] 0 rfl rfl nd_0_51_52 rfl rfl rfl (by decide) (by decide) (Nat.le_of_ble_eq_true rfl) rfl ((zput_par nd_0_51_52 rfl).trans rfl) ?_
    refine z_top (y := nI 4) rfl ?_
    refine z_pop C dL_orders_204 rfl ?_
    refine z_aload_n C 0 dL_orders_205 rfl rfl ?_
    refine z_bipush C (nI 43) dL_orders_206 (by decide) ?_
    refine z_callV (wn := (WRd X.2.1 x0 h0 h1 w0 w1 t r S o kp Q (tyL (tyL tx [48 + dd, 48, 114, 43]) [43, 32, 48, 114, 43]) 5 ps3)) C kX5_type gL_orders_X5_type (l_typ X.2.1 x0 (t 0) h0 w0 w1 (tyL tx [48 + dd, 48, 114, 43]) [32, 48, 114, 43] ps3 43 4 rfl (by decide) htx2 (by intro c hc9; simp at hc9; omega) (by omega)) dL_orders_208 [0, 51, 52] [] 0 rfl rfl nd_0_51_52 rfl rfl rfl (by decide) (by decide) (Nat.le_of_ble_eq_true rfl) rfl ((zput_par nd_0_51_52 rfl).trans rfl) ?_
    refine z_top (y := nI 5) rfl ?_
    refine z_pop C dL_orders_211 rfl ?_
    refine z_aload_n C 0 dL_orders_212 rfl rfl ?_
    refine z_iload C dL_orders_213 rfl ?_
    refine z_nif_ne_f C 223 dL_orders_215 (by decide) (by omega) (by omega) ?_
    refine z_bipush C (nI 114) dL_orders_218 (by decide) ?_
    refine z_goto C 225 dL_orders_220 (by decide) ?_
    refine z_callV (wn := (WRd X.2.1 x0 h0 h1 w0 w1 t r S o kp Q (tyL (tyL tx [48 + dd, 48, 114, 43]) [114, 43, 32, 48, 114, 43]) 6 ps3)) C kX5_type gL_orders_X5_type (l_typ X.2.1 x0 (t 0) h0 w0 w1 (tyL tx [48 + dd, 48, 114, 43]) [43, 32, 48, 114, 43] ps3 114 5 rfl (by decide) htx2 (by intro c hc9; simp at hc9; omega) (by omega)) dL_orders_225 [0, 51, 52] [] 0 rfl rfl nd_0_51_52 rfl rfl rfl (by decide) (by decide) (Nat.le_of_ble_eq_true rfl) rfl ((zput_par nd_0_51_52 rfl).trans rfl) ?_
    refine z_top (y := nI 6) rfl ?_
    refine z_pop C dL_orders_228 rfl ?_
    refine z_aload_n C 0 dL_orders_229 rfl rfl ?_
    refine z_bipush C (nI 57) dL_orders_230 (by decide) ?_
    refine z_callV (wn := (WRd X.2.1 x0 h0 h1 w0 w1 t r S o kp Q (tyL (tyL tx [48 + dd, 48, 114, 43]) [57, 114, 43, 32, 48, 114, 43]) 7 ps3)) C kX5_type gL_orders_X5_type (l_typ X.2.1 x0 (t 0) h0 w0 w1 (tyL tx [48 + dd, 48, 114, 43]) [114, 43, 32, 48, 114, 43] ps3 57 6 rfl (by decide) htx2 (by intro c hc9; simp at hc9; omega) (by omega)) dL_orders_232 [0, 51, 52] [] 0 rfl rfl nd_0_51_52 rfl rfl rfl (by decide) (by decide) (Nat.le_of_ble_eq_true rfl) rfl ((zput_par nd_0_51_52 rfl).trans rfl) ?_
    refine z_top (y := nI 7) rfl ?_
    refine z_pop C dL_orders_235 rfl ?_
    refine z_aload_n C 0 dL_orders_236 rfl rfl ?_
    refine z_bipush C (nI 57) dL_orders_237 (by decide) ?_
    refine z_callV (wn := (WRd X.2.1 x0 h0 h1 w0 w1 t r S o kp Q (tyL (tyL tx [48 + dd, 48, 114, 43]) [57, 57, 114, 43, 32, 48, 114, 43]) 8 ps3)) C kX5_type gL_orders_X5_type (l_typ X.2.1 x0 (t 0) h0 w0 w1 (tyL tx [48 + dd, 48, 114, 43]) [57, 114, 43, 32, 48, 114, 43] ps3 57 7 rfl (by decide) htx2 (by intro c hc9; simp at hc9; omega) (by omega)) dL_orders_239 [0, 51, 52] [] 0 rfl rfl nd_0_51_52 rfl rfl rfl (by decide) (by decide) (Nat.le_of_ble_eq_true rfl) rfl ((zput_par nd_0_51_52 rfl).trans rfl) ?_
    refine z_top (y := nI 8) rfl ?_
    refine z_istore C dL_orders_242 (Nat.le_of_ble_eq_true rfl) ?_
    refine z_lv (lv' := [some (.ref x0), some (.int (nI au)), some (.int g), some (.int h), some (.int (nI 0)), some (.int (nI (uU S 0))), some (.int (nI (mK S))), some (.int (nI 0)), some (.int (nI 8)), some (.int (nI 1)), none]) rfl ?_
    refine z_iload C dL_orders_244 rfl ?_
    refine z_iload C dL_orders_246 rfl ?_
    refine z_nif_ne_f C 256 dL_orders_248 (by decide) (by omega) (by omega) ?_
    refine z_bipush C (nI 12) dL_orders_251 (by decide) ?_
    refine z_goto C 258 dL_orders_253 (by decide) ?_
    refine z_ncmp_eq_t C 273 dL_orders_258 (by decide) (by omega) (by omega) (by omega) ?_
    refine z_iconst C (nI 0) dL_orders_273 (by decide) ?_
    refine z_goto C 278 dL_orders_274 (by decide) ?_
    refine z_istore C dL_orders_278 (Nat.le_of_ble_eq_true rfl) ?_
    refine z_lv (lv' := [some (.ref x0), some (.int (nI au)), some (.int g), some (.int h), some (.int (nI 0)), some (.int (nI (uU S 0))), some (.int (nI (mK S))), some (.int (nI 0)), some (.int (nI 8)), some (.int (nI 1)), some (.int (nI 0))]) rfl ?_
    refine z_aload_n C 0 dL_orders_280 rfl rfl ?_
    refine z_iload_n C 1 dL_orders_281 rfl rfl ?_
    refine z_callV (wn := (WRd X.2.1 x0 h0 h1 w0 w1 t r S1 o1 kp1 Q1 (tyL (tyL tx [48 + dd, 48, 114, 43]) [57, 57, 114, 43, 32, 48, 114, 43]) 8 ps4)) C kX5_run gL_orders_X5_run m5 dL_orders_282 [0, 1, 2, 3, 4, 5, 6, 7, 8, 9, 10, 11, 12, 13, 14, 15, 16, 17, 18, 19, 20, 21, 22, 23, 24, 25, 26, 27, 28, 29, 30, 31, 32, 33, 34, 35, 36, 37, 38, 39, 40, 41, 42, 43, 44, 45, 46, 47, 48, 49, 50, 51, 52] [] 0 rfl rfl nd_0_1_2_3_4_5_6_7_8_9_10_11_12_13_14_15_16_17_18_19_20_21_22_23_24_25_26_27_28_29_30_31_32_33_34_35_36_37_38_39_40_41_42_43_44_45_46_47_48_49_50_51_52 rfl rfl rfl (by decide) (by decide) (Nat.le_of_ble_eq_true rfl) rfl ((zput_par nd_0_1_2_3_4_5_6_7_8_9_10_11_12_13_14_15_16_17_18_19_20_21_22_23_24_25_26_27_28_29_30_31_32_33_34_35_36_37_38_39_40_41_42_43_44_45_46_47_48_49_50_51_52 rfl).trans rfl) ?_
    refine z_iload C dL_orders_285 rfl ?_
    refine z_ncmp_ne_f C 305 dL_orders_287 (by decide) (by omega) (by omega) (by omega) ?_
    refine z_aload_n C 0 dL_orders_290 rfl rfl ?_
    refine z_iconst C (nI 0) dL_orders_291 (by decide) ?_
    refine z_iload C dL_orders_292 rfl ?_
    refine z_callVr C kX5_size gL_orders_X5_size (l_size0 X.2.1 x0 h0 w0 t S1 0 hG1 (by decide)) dL_orders_294 [0, 1, 2, 3, 4, 5, 6, 7, 8] [] 0 rfl nd_0_1_2_3_4_5_6_7_8 rfl rfl rfl (by decide) (by decide) (Nat.le_of_ble_eq_true rfl) rfl ?_
    refine z_iload C dL_orders_297 rfl ?_
    refine z_iload C dL_orders_299 rfl ?_
    refine z_iadd C dL_orders_301 ?_
    refine z_top (y := nI (uU S 0)) (nI_add _ _) ?_
    refine z_ncmp_eq_t C 307 dL_orders_302 (by decide) (by omega) (by omega) (by omega) ?_
    refine z_aload_n C 0 dL_orders_307 rfl rfl ?_
    refine z_bipush C (nI 57) dL_orders_308 (by decide) ?_
    refine z_callV (wn := (WRd X.2.1 x0 h0 h1 w0 w1 t r S1 o1 kp1 Q1 (tyL (tyL tx [48 + dd, 48, 114, 43]) [57, 57, 57, 114, 43, 32, 48, 114, 43]) 9 ps4)) C kX5_type gL_orders_X5_type (l_typ X.2.1 x0 (t 0) h0 w0 w1 (tyL tx [48 + dd, 48, 114, 43]) [57, 57, 114, 43, 32, 48, 114, 43] ps4 57 8 rfl (by decide) htx2 (by intro c hc9; simp at hc9; omega) (by omega)) dL_orders_310 [0, 51, 52] [] 0 rfl rfl nd_0_51_52 rfl rfl rfl (by decide) (by decide) (Nat.le_of_ble_eq_true rfl) rfl ((zput_par nd_0_51_52 rfl).trans rfl) ?_
    refine z_top (y := nI 9) rfl ?_
    refine z_pop C dL_orders_313 rfl ?_
    refine z_aload_n C 0 dL_orders_314 rfl rfl ?_
    refine z_iload_n C 1 dL_orders_315 rfl rfl ?_
    refine z_callV (wn := (WRd X.2.1 x0 h0 h1 w0 w1 t r S1 o1 kp1 Q1 (tyL (tyL tx [48 + dd, 48, 114, 43]) [57, 57, 57, 114, 43, 32, 48, 114, 43]) 9 ps5)) C kX5_run gL_orders_X5_run m6 dL_orders_316 [0, 1, 2, 3, 4, 5, 6, 7, 8, 9, 10, 11, 12, 13, 14, 15, 16, 17, 18, 19, 20, 21, 22, 23, 24, 25, 26, 27, 28, 29, 30, 31, 32, 33, 34, 35, 36, 37, 38, 39, 40, 41, 42, 43, 44, 45, 46, 47, 48, 49, 50, 51, 52] [] 0 rfl rfl nd_0_1_2_3_4_5_6_7_8_9_10_11_12_13_14_15_16_17_18_19_20_21_22_23_24_25_26_27_28_29_30_31_32_33_34_35_36_37_38_39_40_41_42_43_44_45_46_47_48_49_50_51_52 rfl rfl rfl (by decide) (by decide) (Nat.le_of_ble_eq_true rfl) rfl ((zput_par nd_0_1_2_3_4_5_6_7_8_9_10_11_12_13_14_15_16_17_18_19_20_21_22_23_24_25_26_27_28_29_30_31_32_33_34_35_36_37_38_39_40_41_42_43_44_45_46_47_48_49_50_51_52 rfl).trans rfl) ?_
    refine z_bipush C (-100) dL_orders_319 (by decide) ?_
    refine z_iload C dL_orders_321 rfl ?_
    refine z_isub C dL_orders_323 ?_
    refine z_top (y := (-108)) (by decide) ?_
    refine z_icmp_ne_f C 360 dL_orders_324 (by decide) rfl ?_
    refine z_aload_n C 0 dL_orders_327 rfl rfl ?_
    refine z_callV (wn := (WRd X.2.1 x0 h0 h1 w0 w1 t r S o2 kp2 Q1 (tyL (tyL tx [48 + dd, 48, 114, 43]) [57, 57, 57, 114, 43, 32, 48, 114, 43]) 9 ps5)) C kX5_undo gL_orders_X5_undo m7 dL_orders_328 [0, 1, 2, 3, 4, 5, 6, 7, 8, 9, 10, 11, 12, 13, 14, 15, 16, 17, 18, 19, 20, 21, 22, 23, 24, 25, 26, 27, 28, 29, 30, 31, 32, 33, 34, 35, 36, 37, 38, 39, 40, 41, 42, 43, 44, 45, 46, 47, 48, 49, 50] [] 0 rfl rfl nd_0_1_2_3_4_5_6_7_8_9_10_11_12_13_14_15_16_17_18_19_20_21_22_23_24_25_26_27_28_29_30_31_32_33_34_35_36_37_38_39_40_41_42_43_44_45_46_47_48_49_50 rfl rfl rfl (by decide) (by decide) (Nat.le_of_ble_eq_true rfl) rfl ((zput_par nd_0_1_2_3_4_5_6_7_8_9_10_11_12_13_14_15_16_17_18_19_20_21_22_23_24_25_26_27_28_29_30_31_32_33_34_35_36_37_38_39_40_41_42_43_44_45_46_47_48_49_50 rfl).trans rfl) ?_
    refine z_nif_lt_f C 360 dL_orders_331 (by decide) (by omega) (by trivial) ?_
    refine z_aload_n C 0 dL_orders_334 rfl rfl ?_
    refine z_iconst C (nI 0) dL_orders_335 (by decide) ?_
    refine z_iload C dL_orders_336 rfl ?_
    refine z_callVr C kX5_size gL_orders_X5_size (l_size0 X.2.1 x0 h0 w0 t S 0 hG (by decide)) dL_orders_338 [0, 1, 2, 3, 4, 5, 6, 7, 8] [] 0 rfl nd_0_1_2_3_4_5_6_7_8 rfl rfl rfl (by decide) (by decide) (Nat.le_of_ble_eq_true rfl) rfl ?_
    refine z_iload C dL_orders_341 rfl ?_
    refine z_ncmp_ne_f C 360 dL_orders_343 (by decide) (by omega) (by omega) (by omega) ?_
    refine z_aload_n C 0 dL_orders_346 rfl rfl ?_
    refine z_iconst C (nI 0) dL_orders_347 (by decide) ?_
    refine z_callVr C kX5_count gL_orders_X5_count (l_cnt0 X.2.1 x0 h0 h1 w0 w1 t S o2 kp2 9 ps5  hG ) dL_orders_348 [0, 1, 2, 3, 4, 5, 6, 7, 8, 9, 51] [] 0 rfl nd_0_1_2_3_4_5_6_7_8_9_51 rfl rfl rfl (by decide) (by decide) (Nat.le_of_ble_eq_true rfl) rfl ?_
    refine z_iload C dL_orders_351 rfl ?_
    refine z_ncmp_ne_f C 360 dL_orders_353 (by decide) (by omega) (by omega) (by omega) ?_
    refine z_iconst C (nI 1) dL_orders_356 (by decide) ?_
    refine z_goto C 361 dL_orders_357 (by decide) ?_
    exact z_zret C N dL_orders_361 rfl (rfl) (rfl)
  · refine z_iconst C (nI 1) dL_orders_56 (by decide) ?_
    refine z_goto C 61 dL_orders_57 (by decide) ?_
    refine z_istore C dL_orders_61 (Nat.le_of_ble_eq_true rfl) ?_
    refine z_lv (lv' := [some (.ref x0), some (.int (nI au)), some (.int g), some (.int h), some (.int (nI 0)), some (.int (nI (uU S 0))), some (.int (nI (mK S))), some (.int (nI 1)), none, none, none]) rfl ?_
    refine z_aload_n C 0 dL_orders_63 rfl rfl ?_
    refine z_iload_n C 2 dL_orders_64 rfl rfl ?_
    refine z_iconst C (nI 2) dL_orders_65 (by decide) ?_
    refine z_iand C dL_orders_66 ?_
    refine z_if_ne_f C 75 dL_orders_67 (by decide) hg2 ?_
    refine z_bipush C (nI 43) dL_orders_70 (by decide) ?_
    refine z_goto C 77 dL_orders_72 (by decide) ?_
    refine z_callV (wn := (WRd X.2.1 x0 h0 h1 w0 w1 t r S o kp Q (tyL tx [43]) 1 ps1)) C kX5_type gL_orders_X5_type (l_typ X.2.1 x0 (t 0) h0 w0 w1 tx [] ps1 43 0 rfl (by decide) htx (fun c hc9 => absurd hc9 List.not_mem_nil) (by omega)) dL_orders_77 [0, 51, 52] [] 0 rfl rfl nd_0_51_52 rfl rfl rfl (by decide) (by decide) (Nat.le_of_ble_eq_true rfl) rfl ((zput_par nd_0_51_52 rfl).trans rfl) ?_
    refine z_top (y := nI 1) rfl ?_
    refine z_istore C dL_orders_80 (Nat.le_of_ble_eq_true rfl) ?_
    refine z_lv (lv' := [some (.ref x0), some (.int (nI au)), some (.int g), some (.int h), some (.int (nI 0)), some (.int (nI (uU S 0))), some (.int (nI (mK S))), some (.int (nI 1)), some (.int (nI 1)), none, none]) rfl ?_
    refine z_aload_n C 0 dL_orders_82 rfl rfl ?_
    refine z_iload_n C 1 dL_orders_83 rfl rfl ?_
    refine z_callV (wn := (WRd X.2.1 x0 h0 h1 w0 w1 t r S o kp Q (tyL tx [43]) 1 ps2)) C kX5_run gL_orders_X5_run m3 dL_orders_84 [0, 1, 2, 3, 4, 5, 6, 7, 8, 9, 10, 11, 12, 13, 14, 15, 16, 17, 18, 19, 20, 21, 22, 23, 24, 25, 26, 27, 28, 29, 30, 31, 32, 33, 34, 35, 36, 37, 38, 39, 40, 41, 42, 43, 44, 45, 46, 47, 48, 49, 50, 51, 52] [] 0 rfl rfl nd_0_1_2_3_4_5_6_7_8_9_10_11_12_13_14_15_16_17_18_19_20_21_22_23_24_25_26_27_28_29_30_31_32_33_34_35_36_37_38_39_40_41_42_43_44_45_46_47_48_49_50_51_52 rfl rfl rfl (by decide) (by decide) (Nat.le_of_ble_eq_true rfl) rfl ((zput_par nd_0_1_2_3_4_5_6_7_8_9_10_11_12_13_14_15_16_17_18_19_20_21_22_23_24_25_26_27_28_29_30_31_32_33_34_35_36_37_38_39_40_41_42_43_44_45_46_47_48_49_50_51_52 rfl).trans rfl) ?_
    refine z_bipush C (-100) dL_orders_87 (by decide) ?_
    refine z_iload C dL_orders_89 rfl ?_
    refine z_isub C dL_orders_91 ?_
    refine z_top (y := (-101)) (by decide) ?_
    refine z_icmp_ne_f C 99 dL_orders_92 (by decide) rfl ?_
    refine z_iconst C (nI 1) dL_orders_95 (by decide) ?_
    refine z_goto C 100 dL_orders_96 (by decide) ?_
    refine z_istore C dL_orders_100 (Nat.le_of_ble_eq_true rfl) ?_
    refine z_lv (lv' := [some (.ref x0), some (.int (nI au)), some (.int g), some (.int h), some (.int (nI 0)), some (.int (nI (uU S 0))), some (.int (nI (mK S))), some (.int (nI 1)), some (.int (nI 1)), some (.int (nI 1)), none]) rfl ?_
    refine z_aload_n C 0 dL_orders_102 rfl rfl ?_
    refine z_iload C dL_orders_103 rfl ?_
    refine z_nif_ne_f C 113 dL_orders_105 (by decide) (by omega) (by omega) ?_
    refine z_bipush C (nI 114) dL_orders_108 (by decide) ?_
    refine z_goto C 115 dL_orders_110 (by decide) ?_
    refine z_callV (wn := (WRd X.2.1 x0 h0 h1 w0 w1 t r S o kp Q (tyL tx [114, 43]) 2 ps2)) C kX5_type gL_orders_X5_type (l_typ X.2.1 x0 (t 0) h0 w0 w1 tx [43] ps2 114 1 rfl (by decide) htx (by intro c hc9; simp at hc9; omega) (by omega)) dL_orders_115 [0, 51, 52] [] 0 rfl rfl nd_0_51_52 rfl rfl rfl (by decide) (by decide) (Nat.le_of_ble_eq_true rfl) rfl ((zput_par nd_0_51_52 rfl).trans rfl) ?_
    refine z_top (y := nI 2) rfl ?_
    refine z_pop C dL_orders_118 rfl ?_
    refine z_aload_n C 0 dL_orders_119 rfl rfl ?_
    refine z_bipush C (nI 48) dL_orders_120 (by decide) ?_
    refine z_callV (wn := (WRd X.2.1 x0 h0 h1 w0 w1 t r S o kp Q (tyL tx [48, 114, 43]) 3 ps2)) C kX5_type gL_orders_X5_type (l_typ X.2.1 x0 (t 0) h0 w0 w1 tx [114, 43] ps2 48 2 rfl (by decide) htx (by intro c hc9; simp at hc9; omega) (by omega)) dL_orders_122 [0, 51, 52] [] 0 rfl rfl nd_0_51_52 rfl rfl rfl (by decide) (by decide) (Nat.le_of_ble_eq_true rfl) rfl ((zput_par nd_0_51_52 rfl).trans rfl) ?_
    refine z_top (y := nI 3) rfl ?_
    refine z_pop C dL_orders_125 rfl ?_
    refine z_aload_n C 0 dL_orders_126 rfl rfl ?_
    refine z_bipush C (nI 48) dL_orders_127 (by decide) ?_
    refine z_iload_n C 3 dL_orders_129 rfl rfl ?_
    refine z_bipush C (nI 10) dL_orders_130 (by decide) ?_
    refine z_callS C kL_low gL_orders_L_low (l_low X.2.1 h 10 (by decide) (by decide)) dL_orders_132 [.int (nI 48), .ref x0] rfl (by decide) (by decide) (Nat.le_of_ble_eq_true rfl) rfl ?_
    refine z_top (y := nI dd) (congrArg nI hd) ?_
    refine z_iadd C dL_orders_135 ?_
    refine z_top (y := nI (48 + dd)) (nI_add _ _) ?_
    refine z_i2c C (nI (48 + dd)) dL_orders_136 (chr_n (by omega)) ?_
    refine z_callV (wn := (WRd X.2.1 x0 h0 h1 w0 w1 t r S o kp Q (tyL tx [48 + dd, 48, 114, 43]) 4 ps2)) C kX5_type gL_orders_X5_type (l_typ X.2.1 x0 (t 0) h0 w0 w1 tx [48, 114, 43] ps2 (48 + dd) 3 rfl (by decide) htx (by intro c hc9; simp at hc9; omega) (by omega)) dL_orders_137 [0, 51, 52] [] 0 rfl rfl nd_0_51_52 rfl rfl rfl (by decide) (by decide) (Nat.le_of_ble_eq_true rfl) rfl ((zput_par nd_0_51_52 rfl).trans rfl) ?_
    refine z_top (y := nI 4) rfl ?_
    refine z_istore C dL_orders_140 (Nat.le_of_ble_eq_true rfl) ?_
    refine z_lv (lv' := [some (.ref x0), some (.int (nI au)), some (.int g), some (.int h), some (.int (nI 0)), some (.int (nI (uU S 0))), some (.int (nI (mK S))), some (.int (nI 1)), some (.int (nI 4)), some (.int (nI 1)), none]) rfl ?_
    refine z_iload C dL_orders_142 rfl ?_
    refine z_nif_eq_f C 160 dL_orders_144 (by decide) (by omega) (by omega) ?_
    refine z_aload_n C 0 dL_orders_147 rfl rfl ?_
    refine z_iload_n C 1 dL_orders_148 rfl rfl ?_
    refine z_callV (wn := (WRd X.2.1 x0 h0 h1 w0 w1 t r S o kp Q (tyL tx [48 + dd, 48, 114, 43]) 4 ps3)) C kX5_run gL_orders_X5_run m4 dL_orders_149 [0, 1, 2, 3, 4, 5, 6, 7, 8, 9, 10, 11, 12, 13, 14, 15, 16, 17, 18, 19, 20, 21, 22, 23, 24, 25, 26, 27, 28, 29, 30, 31, 32, 33, 34, 35, 36, 37, 38, 39, 40, 41, 42, 43, 44, 45, 46, 47, 48, 49, 50, 51, 52] [] 0 rfl rfl nd_0_1_2_3_4_5_6_7_8_9_10_11_12_13_14_15_16_17_18_19_20_21_22_23_24_25_26_27_28_29_30_31_32_33_34_35_36_37_38_39_40_41_42_43_44_45_46_47_48_49_50_51_52 rfl rfl rfl (by decide) (by decide) (Nat.le_of_ble_eq_true rfl) rfl ((zput_par nd_0_1_2_3_4_5_6_7_8_9_10_11_12_13_14_15_16_17_18_19_20_21_22_23_24_25_26_27_28_29_30_31_32_33_34_35_36_37_38_39_40_41_42_43_44_45_46_47_48_49_50_51_52 rfl).trans rfl) ?_
    refine z_bipush C (-99) dL_orders_152 (by decide) ?_
    refine z_iload C dL_orders_154 rfl ?_
    refine z_isub C dL_orders_156 ?_
    refine z_top (y := (-103)) (by decide) ?_
    refine z_icmp_eq_t C 162 dL_orders_157 (by decide) rfl ?_
    refine z_aload_n C 0 dL_orders_162 rfl rfl ?_
    have htx2 : ∀ j, tyL tx [48 + dd, 48, 114, 43] j < 65536 := tyL_b htx (by intro c hc9; simp at hc9; omega)
    refine z_callV (wn := (WRd X.2.1 x0 h0 h1 w0 w1 t r S o kp Q (tyL (tyL tx [48 + dd, 48, 114, 43]) []) 0 ps3)) C kX5_clearText gL_orders_X5_clearText (l_clr X.2.1 x0 (t 0) h0 w0 w1 (tyL tx [48 + dd, 48, 114, 43]) 4 ps3 (by decide)) dL_orders_163 [0, 51, 52] [] 0 rfl rfl nd_0_51_52 rfl rfl rfl (by decide) (by decide) (Nat.le_of_ble_eq_true rfl) rfl ((zput_par nd_0_51_52 rfl).trans rfl) ?_
    refine z_pop C dL_orders_166 rfl ?_
    refine z_aload_n C 0 dL_orders_167 rfl rfl ?_
    refine z_bipush C (nI 43) dL_orders_168 (by decide) ?_
    refine z_callV (wn := (WRd X.2.1 x0 h0 h1 w0 w1 t r S o kp Q (tyL (tyL tx [48 + dd, 48, 114, 43]) [43]) 1 ps3)) C kX5_type gL_orders_X5_type (l_typ X.2.1 x0 (t 0) h0 w0 w1 (tyL tx [48 + dd, 48, 114, 43]) [] ps3 43 0 rfl (by decide) htx2 (fun c hc9 => absurd hc9 List.not_mem_nil) (by omega)) dL_orders_170 [0, 51, 52] [] 0 rfl rfl nd_0_51_52 rfl rfl rfl (by decide) (by decide) (Nat.le_of_ble_eq_true rfl) rfl ((zput_par nd_0_51_52 rfl).trans rfl) ?_
    refine z_top (y := nI 1) rfl ?_
    refine z_pop C dL_orders_173 rfl ?_
    refine z_aload_n C 0 dL_orders_174 rfl rfl ?_
    refine z_iload C dL_orders_175 rfl ?_
    refine z_nif_ne_f C 185 dL_orders_177 (by decide) (by omega) (by omega) ?_
    refine z_bipush C (nI 114) dL_orders_180 (by decide) ?_
    refine z_goto C 187 dL_orders_182 (by decide) ?_
    refine z_callV (wn := (WRd X.2.1 x0 h0 h1 w0 w1 t r S o kp Q (tyL (tyL tx [48 + dd, 48, 114, 43]) [114, 43]) 2 ps3)) C kX5_type gL_orders_X5_type (l_typ X.2.1 x0 (t 0) h0 w0 w1 (tyL tx [48 + dd, 48, 114, 43]) [43] ps3 114 1 rfl (by decide) htx2 (by intro c hc9; simp at hc9; omega) (by omega)) dL_orders_187 [0, 51, 52] [] 0 rfl rfl nd_0_51_52 rfl rfl rfl (by decide) (by decide) (Nat.le_of_ble_eq_true rfl) rfl ((zput_par nd_0_51_52 rfl).trans rfl) ?_
    refine z_top (y := nI 2) rfl ?_
    refine z_pop C dL_orders_190 rfl ?_
    refine z_aload_n C 0 dL_orders_191 rfl rfl ?_
    refine z_bipush C (nI 48) dL_orders_192 (by decide) ?_
    refine z_callV (wn := (WRd X.2.1 x0 h0 h1 w0 w1 t r S o kp Q (tyL (tyL tx [48 + dd, 48, 114, 43]) [48, 114, 43]) 3 ps3)) C kX5_type gL_orders_X5_type (l_typ X.2.1 x0 (t 0) h0 w0 w1 (tyL tx [48 + dd, 48, 114, 43]) [114, 43] ps3 48 2 rfl (by decide) htx2 (by intro c hc9; simp at hc9; omega) (by omega)) dL_orders_194 [0, 51, 52] [] 0 rfl rfl nd_0_51_52 rfl rfl rfl (by decide) (by decide) (Nat.le_of_ble_eq_true rfl) rfl ((zput_par nd_0_51_52 rfl).trans rfl) ?_
    refine z_top (y := nI 3) rfl ?_
    refine z_pop C dL_orders_197 rfl ?_
    refine z_aload_n C 0 dL_orders_198 rfl rfl ?_
    refine z_bipush C (nI 32) dL_orders_199 (by decide) ?_
    refine z_callV (wn := (WRd X.2.1 x0 h0 h1 w0 w1 t r S o kp Q (tyL (tyL tx [48 + dd, 48, 114, 43]) [32, 48, 114, 43]) 4 ps3)) C kX5_type gL_orders_X5_type (l_typ X.2.1 x0 (t 0) h0 w0 w1 (tyL tx [48 + dd, 48, 114, 43]) [48, 114, 43] ps3 32 3 rfl (by decide) htx2 (by intro c hc9; simp at hc9; omega) (by omega)) dL_orders_201 [0, 51, 52] [] 0 rfl rfl nd_0_51_52 rfl rfl rfl (by decide) (by decide) (Nat.le_of_ble_eq_true rfl) rfl ((zput_par nd_0_51_52 rfl).trans rfl) ?_
    refine z_top (y := nI 4) rfl ?_
    refine z_pop C dL_orders_204 rfl ?_
    refine z_aload_n C 0 dL_orders_205 rfl rfl ?_
    refine z_bipush C (nI 43) dL_orders_206 (by decide) ?_
    refine z_callV (wn := (WRd X.2.1 x0 h0 h1 w0 w1 t r S o kp Q (tyL (tyL tx [48 + dd, 48, 114, 43]) [43, 32, 48, 114, 43]) 5 ps3)) C kX5_type gL_orders_X5_type (l_typ X.2.1 x0 (t 0) h0 w0 w1 (tyL tx [48 + dd, 48, 114, 43]) [32, 48, 114, 43] ps3 43 4 rfl (by decide) htx2 (by intro c hc9; simp at hc9; omega) (by omega)) dL_orders_208 [0, 51, 52] [] 0 rfl rfl nd_0_51_52 rfl rfl rfl (by decide) (by decide) (Nat.le_of_ble_eq_true rfl) rfl ((zput_par nd_0_51_52 rfl).trans rfl) ?_
    refine z_top (y := nI 5) rfl ?_
    refine z_pop C dL_orders_211 rfl ?_
    refine z_aload_n C 0 dL_orders_212 rfl rfl ?_
    refine z_iload C dL_orders_213 rfl ?_
    refine z_nif_ne_f C 223 dL_orders_215 (by decide) (by omega) (by omega) ?_
    refine z_bipush C (nI 114) dL_orders_218 (by decide) ?_
    refine z_goto C 225 dL_orders_220 (by decide) ?_
    refine z_callV (wn := (WRd X.2.1 x0 h0 h1 w0 w1 t r S o kp Q (tyL (tyL tx [48 + dd, 48, 114, 43]) [114, 43, 32, 48, 114, 43]) 6 ps3)) C kX5_type gL_orders_X5_type (l_typ X.2.1 x0 (t 0) h0 w0 w1 (tyL tx [48 + dd, 48, 114, 43]) [43, 32, 48, 114, 43] ps3 114 5 rfl (by decide) htx2 (by intro c hc9; simp at hc9; omega) (by omega)) dL_orders_225 [0, 51, 52] [] 0 rfl rfl nd_0_51_52 rfl rfl rfl (by decide) (by decide) (Nat.le_of_ble_eq_true rfl) rfl ((zput_par nd_0_51_52 rfl).trans rfl) ?_
    refine z_top (y := nI 6) rfl ?_
    refine z_pop C dL_orders_228 rfl ?_
    refine z_aload_n C 0 dL_orders_229 rfl rfl ?_
    refine z_bipush C (nI 57) dL_orders_230 (by decide) ?_
    refine z_callV (wn := (WRd X.2.1 x0 h0 h1 w0 w1 t r S o kp Q (tyL (tyL tx [48 + dd, 48, 114, 43]) [57, 114, 43, 32, 48, 114, 43]) 7 ps3)) C kX5_type gL_orders_X5_type (l_typ X.2.1 x0 (t 0) h0 w0 w1 (tyL tx [48 + dd, 48, 114, 43]) [114, 43, 32, 48, 114, 43] ps3 57 6 rfl (by decide) htx2 (by intro c hc9; simp at hc9; omega) (by omega)) dL_orders_232 [0, 51, 52] [] 0 rfl rfl nd_0_51_52 rfl rfl rfl (by decide) (by decide) (Nat.le_of_ble_eq_true rfl) rfl ((zput_par nd_0_51_52 rfl).trans rfl) ?_
    refine z_top (y := nI 7) rfl ?_
    refine z_pop C dL_orders_235 rfl ?_
    refine z_aload_n C 0 dL_orders_236 rfl rfl ?_
    refine z_bipush C (nI 57) dL_orders_237 (by decide) ?_
    refine z_callV (wn := (WRd X.2.1 x0 h0 h1 w0 w1 t r S o kp Q (tyL (tyL tx [48 + dd, 48, 114, 43]) [57, 57, 114, 43, 32, 48, 114, 43]) 8 ps3)) C kX5_type gL_orders_X5_type (l_typ X.2.1 x0 (t 0) h0 w0 w1 (tyL tx [48 + dd, 48, 114, 43]) [57, 114, 43, 32, 48, 114, 43] ps3 57 7 rfl (by decide) htx2 (by intro c hc9; simp at hc9; omega) (by omega)) dL_orders_239 [0, 51, 52] [] 0 rfl rfl nd_0_51_52 rfl rfl rfl (by decide) (by decide) (Nat.le_of_ble_eq_true rfl) rfl ((zput_par nd_0_51_52 rfl).trans rfl) ?_
    refine z_top (y := nI 8) rfl ?_
    refine z_istore C dL_orders_242 (Nat.le_of_ble_eq_true rfl) ?_
    refine z_lv (lv' := [some (.ref x0), some (.int (nI au)), some (.int g), some (.int h), some (.int (nI 0)), some (.int (nI (uU S 0))), some (.int (nI (mK S))), some (.int (nI 1)), some (.int (nI 8)), some (.int (nI 1)), none]) rfl ?_
    refine z_iload C dL_orders_244 rfl ?_
    refine z_iload C dL_orders_246 rfl ?_
    refine z_nif_ne_f C 256 dL_orders_248 (by decide) (by omega) (by omega) ?_
    refine z_bipush C (nI 12) dL_orders_251 (by decide) ?_
    refine z_goto C 258 dL_orders_253 (by decide) ?_
    refine z_ncmp_eq_t C 273 dL_orders_258 (by decide) (by omega) (by omega) (by omega) ?_
    refine z_iconst C (nI 0) dL_orders_273 (by decide) ?_
    refine z_goto C 278 dL_orders_274 (by decide) ?_
    refine z_istore C dL_orders_278 (Nat.le_of_ble_eq_true rfl) ?_
    refine z_lv (lv' := [some (.ref x0), some (.int (nI au)), some (.int g), some (.int h), some (.int (nI 0)), some (.int (nI (uU S 0))), some (.int (nI (mK S))), some (.int (nI 1)), some (.int (nI 8)), some (.int (nI 1)), some (.int (nI 0))]) rfl ?_
    refine z_aload_n C 0 dL_orders_280 rfl rfl ?_
    refine z_iload_n C 1 dL_orders_281 rfl rfl ?_
    refine z_callV (wn := (WRd X.2.1 x0 h0 h1 w0 w1 t r S1 o1 kp1 Q1 (tyL (tyL tx [48 + dd, 48, 114, 43]) [57, 57, 114, 43, 32, 48, 114, 43]) 8 ps4)) C kX5_run gL_orders_X5_run m5 dL_orders_282 [0, 1, 2, 3, 4, 5, 6, 7, 8, 9, 10, 11, 12, 13, 14, 15, 16, 17, 18, 19, 20, 21, 22, 23, 24, 25, 26, 27, 28, 29, 30, 31, 32, 33, 34, 35, 36, 37, 38, 39, 40, 41, 42, 43, 44, 45, 46, 47, 48, 49, 50, 51, 52] [] 0 rfl rfl nd_0_1_2_3_4_5_6_7_8_9_10_11_12_13_14_15_16_17_18_19_20_21_22_23_24_25_26_27_28_29_30_31_32_33_34_35_36_37_38_39_40_41_42_43_44_45_46_47_48_49_50_51_52 rfl rfl rfl (by decide) (by decide) (Nat.le_of_ble_eq_true rfl) rfl ((zput_par nd_0_1_2_3_4_5_6_7_8_9_10_11_12_13_14_15_16_17_18_19_20_21_22_23_24_25_26_27_28_29_30_31_32_33_34_35_36_37_38_39_40_41_42_43_44_45_46_47_48_49_50_51_52 rfl).trans rfl) ?_
    refine z_iload C dL_orders_285 rfl ?_
    refine z_ncmp_ne_f C 305 dL_orders_287 (by decide) (by omega) (by omega) (by omega) ?_
    refine z_aload_n C 0 dL_orders_290 rfl rfl ?_
    refine z_iconst C (nI 0) dL_orders_291 (by decide) ?_
    refine z_iload C dL_orders_292 rfl ?_
    refine z_callVr C kX5_size gL_orders_X5_size (l_size0 X.2.1 x0 h0 w0 t S1 0 hG1 (by decide)) dL_orders_294 [0, 1, 2, 3, 4, 5, 6, 7, 8] [] 0 rfl nd_0_1_2_3_4_5_6_7_8 rfl rfl rfl (by decide) (by decide) (Nat.le_of_ble_eq_true rfl) rfl ?_
    refine z_iload C dL_orders_297 rfl ?_
    refine z_iload C dL_orders_299 rfl ?_
    refine z_iadd C dL_orders_301 ?_
    refine z_top (y := nI (uU S 0)) (nI_add _ _) ?_
    refine z_ncmp_eq_t C 307 dL_orders_302 (by decide) (by omega) (by omega) (by omega) ?_
    refine z_aload_n C 0 dL_orders_307 rfl rfl ?_
    refine z_bipush C (nI 57) dL_orders_308 (by decide) ?_
    refine z_callV (wn := (WRd X.2.1 x0 h0 h1 w0 w1 t r S1 o1 kp1 Q1 (tyL (tyL tx [48 + dd, 48, 114, 43]) [57, 57, 57, 114, 43, 32, 48, 114, 43]) 9 ps4)) C kX5_type gL_orders_X5_type (l_typ X.2.1 x0 (t 0) h0 w0 w1 (tyL tx [48 + dd, 48, 114, 43]) [57, 57, 114, 43, 32, 48, 114, 43] ps4 57 8 rfl (by decide) htx2 (by intro c hc9; simp at hc9; omega) (by omega)) dL_orders_310 [0, 51, 52] [] 0 rfl rfl nd_0_51_52 rfl rfl rfl (by decide) (by decide) (Nat.le_of_ble_eq_true rfl) rfl ((zput_par nd_0_51_52 rfl).trans rfl) ?_
    refine z_top (y := nI 9) rfl ?_
    refine z_pop C dL_orders_313 rfl ?_
    refine z_aload_n C 0 dL_orders_314 rfl rfl ?_
    refine z_iload_n C 1 dL_orders_315 rfl rfl ?_
    refine z_callV (wn := (WRd X.2.1 x0 h0 h1 w0 w1 t r S1 o1 kp1 Q1 (tyL (tyL tx [48 + dd, 48, 114, 43]) [57, 57, 57, 114, 43, 32, 48, 114, 43]) 9 ps5)) C kX5_run gL_orders_X5_run m6 dL_orders_316 [0, 1, 2, 3, 4, 5, 6, 7, 8, 9, 10, 11, 12, 13, 14, 15, 16, 17, 18, 19, 20, 21, 22, 23, 24, 25, 26, 27, 28, 29, 30, 31, 32, 33, 34, 35, 36, 37, 38, 39, 40, 41, 42, 43, 44, 45, 46, 47, 48, 49, 50, 51, 52] [] 0 rfl rfl nd_0_1_2_3_4_5_6_7_8_9_10_11_12_13_14_15_16_17_18_19_20_21_22_23_24_25_26_27_28_29_30_31_32_33_34_35_36_37_38_39_40_41_42_43_44_45_46_47_48_49_50_51_52 rfl rfl rfl (by decide) (by decide) (Nat.le_of_ble_eq_true rfl) rfl ((zput_par nd_0_1_2_3_4_5_6_7_8_9_10_11_12_13_14_15_16_17_18_19_20_21_22_23_24_25_26_27_28_29_30_31_32_33_34_35_36_37_38_39_40_41_42_43_44_45_46_47_48_49_50_51_52 rfl).trans rfl) ?_
    refine z_bipush C (-100) dL_orders_319 (by decide) ?_
    refine z_iload C dL_orders_321 rfl ?_
    refine z_isub C dL_orders_323 ?_
    refine z_top (y := (-108)) (by decide) ?_
    refine z_icmp_ne_f C 360 dL_orders_324 (by decide) rfl ?_
    refine z_aload_n C 0 dL_orders_327 rfl rfl ?_
    refine z_callV (wn := (WRd X.2.1 x0 h0 h1 w0 w1 t r S o2 kp2 Q1 (tyL (tyL tx [48 + dd, 48, 114, 43]) [57, 57, 57, 114, 43, 32, 48, 114, 43]) 9 ps5)) C kX5_undo gL_orders_X5_undo m7 dL_orders_328 [0, 1, 2, 3, 4, 5, 6, 7, 8, 9, 10, 11, 12, 13, 14, 15, 16, 17, 18, 19, 20, 21, 22, 23, 24, 25, 26, 27, 28, 29, 30, 31, 32, 33, 34, 35, 36, 37, 38, 39, 40, 41, 42, 43, 44, 45, 46, 47, 48, 49, 50] [] 0 rfl rfl nd_0_1_2_3_4_5_6_7_8_9_10_11_12_13_14_15_16_17_18_19_20_21_22_23_24_25_26_27_28_29_30_31_32_33_34_35_36_37_38_39_40_41_42_43_44_45_46_47_48_49_50 rfl rfl rfl (by decide) (by decide) (Nat.le_of_ble_eq_true rfl) rfl ((zput_par nd_0_1_2_3_4_5_6_7_8_9_10_11_12_13_14_15_16_17_18_19_20_21_22_23_24_25_26_27_28_29_30_31_32_33_34_35_36_37_38_39_40_41_42_43_44_45_46_47_48_49_50 rfl).trans rfl) ?_
    refine z_nif_lt_f C 360 dL_orders_331 (by decide) (by omega) (by trivial) ?_
    refine z_aload_n C 0 dL_orders_334 rfl rfl ?_
    refine z_iconst C (nI 0) dL_orders_335 (by decide) ?_
    refine z_iload C dL_orders_336 rfl ?_
    refine z_callVr C kX5_size gL_orders_X5_size (l_size0 X.2.1 x0 h0 w0 t S 0 hG (by decide)) dL_orders_338 [0, 1, 2, 3, 4, 5, 6, 7, 8] [] 0 rfl nd_0_1_2_3_4_5_6_7_8 rfl rfl rfl (by decide) (by decide) (Nat.le_of_ble_eq_true rfl) rfl ?_
    refine z_iload C dL_orders_341 rfl ?_
    refine z_ncmp_ne_f C 360 dL_orders_343 (by decide) (by omega) (by omega) (by omega) ?_
    refine z_aload_n C 0 dL_orders_346 rfl rfl ?_
    refine z_iconst C (nI 0) dL_orders_347 (by decide) ?_
    refine z_callVr C kX5_count gL_orders_X5_count (l_cnt0 X.2.1 x0 h0 h1 w0 w1 t S o2 kp2 9 ps5  hG ) dL_orders_348 [0, 1, 2, 3, 4, 5, 6, 7, 8, 9, 51] [] 0 rfl nd_0_1_2_3_4_5_6_7_8_9_51 rfl rfl rfl (by decide) (by decide) (Nat.le_of_ble_eq_true rfl) rfl ?_
    refine z_iload C dL_orders_351 rfl ?_
    refine z_ncmp_ne_f C 360 dL_orders_353 (by decide) (by omega) (by omega) (by omega) ?_
    refine z_iconst C (nI 1) dL_orders_356 (by decide) ?_
    refine z_goto C 361 dL_orders_357 (by decide) ?_
    exact z_zret C N dL_orders_361 rfl (rfl) (rfl)

set_option maxHeartbeats 4000000 in
set_option maxRecDepth 100000 in
theorem w_ord01y (E : zE) (x0 h0 h1 w0 w1 : Nat) (t : Nat → Nat) (r : Nat → Nat → Nat) (S S1 : zSt) (o kp o1 o2 kp1 kp2 : Nat) (Q Q1 : Nat → zSt) (tx : Nat → Nat) (ln : Nat) (ps ps1 ps2 ps3 ps4 ps5 : zPs) {B B1 : Nat} (au : Nat) (g h : Int32) (dd lf : Nat) (hG : GG S B) (hG1 : GG S1 B1) (hau : au < 4) (hg1 : g &&& (nI 1) = nI 0) (hg2 : ¬ g &&& (nI 2) = 0) (hd : lw h 10 = dd) (hdd : dd < 10) (hln : ln ≤ 60) (htx : ∀ j, tx j < 65536) (hlf : lf < 100) (hu : uU S1 0 = uU S 0 + 1) (hf : uU S 0 < 12) (ht : tK S = false) (m1 : zM E yX5_run wsX5_run 8 [.ref x0, .int (nI au)] (WRd E x0 h0 h1 w0 w1 t r S o kp Q (tyL tx []) 0 ps) (WRd E x0 h0 h1 w0 w1 t r S o kp Q (tyL tx []) 0 ps1) (some (.int (-100)))) (m2 : zM E yX5_run wsX5_run 8 [.ref x0, .int (nI 4)] (WRd E x0 h0 h1 w0 w1 t r S o kp Q (tyL tx []) 0 ps1) (WRd E x0 h0 h1 w0 w1 t r S o kp Q (tyL tx []) 0 ps1) (some (.int (-1)))) (m3 : zM E yX5_run wsX5_run 8 [.ref x0, .int (nI au)] (WRd E x0 h0 h1 w0 w1 t r S o kp Q (tyL tx [45]) 1 ps1) (WRd E x0 h0 h1 w0 w1 t r S o kp Q (tyL tx [45]) 1 ps2) (some (.int (-101)))) (m4 : zM E yX5_run wsX5_run 8 [.ref x0, .int (nI au)] (WRd E x0 h0 h1 w0 w1 t r S o kp Q (tyL tx [48 + dd, 48, 114, 45]) 4 ps2) (WRd E x0 h0 h1 w0 w1 t r S o kp Q (tyL tx [48 + dd, 48, 114, 45]) 4 ps3) (some (.int (-103)))) (m5 : zM E yX5_run wsX5_run 8 [.ref x0, .int (nI au)] (WRd E x0 h0 h1 w0 w1 t r S o kp Q (tyL (tyL tx [48 + dd, 48, 114, 45]) [57, 57, 114, 43, 32, 48, 114, 43]) 8 ps3) (WRd E x0 h0 h1 w0 w1 t r S1 o1 kp1 Q1 (tyL (tyL tx [48 + dd, 48, 114, 45]) [57, 57, 114, 43, 32, 48, 114, 43]) 8 ps4) (some (.int (nI 1)))) (m6 : zM E yX5_run wsX5_run 8 [.ref x0, .int (nI au)] (WRd E x0 h0 h1 w0 w1 t r S1 o1 kp1 Q1 (tyL (tyL tx [48 + dd, 48, 114, 45]) [57, 57, 57, 114, 43, 32, 48, 114, 43]) 9 ps4) (WRd E x0 h0 h1 w0 w1 t r S1 o1 kp1 Q1 (tyL (tyL tx [48 + dd, 48, 114, 45]) [57, 57, 57, 114, 43, 32, 48, 114, 43]) 9 ps5) (some (.int (-108)))) (m7 : zM E yX5_undo wsX5_undo 5 [.ref x0] (WAd E x0 h0 h1 w0 t r S1 o1 kp1 Q1) (WAd E x0 h0 h1 w0 t r S o2 kp2 Q1) (some (.int (nI lf)))) : zM E yL_orders wsL_orders 9 [.ref x0, .int (nI au), .int g, .int h] (WRd E x0 h0 h1 w0 w1 t r S o kp Q tx ln ps) (WRd E x0 h0 h1 w0 w1 t r S o2 kp2 Q1 (tyL (tyL tx [48 + dd, 48, 114, 45]) [57, 57, 57, 114, 43, 32, 48, 114, 43]) 9 ps5) (some (.int (nI 1))) := by
  refine zM.of kL_orders (Nat.le_of_ble_eq_true rfl) rfl [some (.ref x0), some (.int (nI au)), some (.int g), some (.int h), none, none, none, none, none, none, none] rfl (Nat.le_of_ble_eq_true rfl) ?_
  intro X eX C N
  subst eX
  have hb0 : uU S 0 ≤ 12 := gg_u hG 0
  have hb1 : uU S 1 ≤ 8 := gg_u1 hG
  have hb2 : mK S ≤ 60 := gg_M hG
  have hb3 : uU S1 0 ≤ 12 := gg_u hG1 0
  have hb4 : uU S1 1 ≤ 8 := gg_u1 hG1
  have hb5 : mK S1 ≤ 60 := gg_M hG1
  refine z_aload_n C 0 dL_orders_0 rfl rfl ?_
  refine z_callV (wn := (WRd X.2.1 x0 h0 h1 w0 w1 t r S o kp Q (tyL tx []) 0 ps)) C kX5_clearText gL_orders_X5_clearText (l_clr X.2.1 x0 (t 0) h0 w0 w1 tx ln ps hln) dL_orders_1 [0, 51, 52] [] 0 rfl rfl nd_0_51_52 rfl rfl rfl (by decide) (by decide) (Nat.le_of_ble_eq_true rfl) rfl ((zput_par nd_0_51_52 rfl).trans rfl) ?_
  refine z_pop C dL_orders_4 rfl ?_
  refine z_aload_n C 0 dL_orders_5 rfl rfl ?_
  refine z_iload_n C 1 dL_orders_6 rfl rfl ?_
  refine z_callV (wn := (WRd X.2.1 x0 h0 h1 w0 w1 t r S o kp Q (tyL tx []) 0 ps1)) C kX5_run gL_orders_X5_run m1 dL_orders_7 [0, 1, 2, 3, 4, 5, 6, 7, 8, 9, 10, 11, 12, 13, 14, 15, 16, 17, 18, 19, 20, 21, 22, 23, 24, 25, 26, 27, 28, 29, 30, 31, 32, 33, 34, 35, 36, 37, 38, 39, 40, 41, 42, 43, 44, 45, 46, 47, 48, 49, 50, 51, 52] [] 0 rfl rfl nd_0_1_2_3_4_5_6_7_8_9_10_11_12_13_14_15_16_17_18_19_20_21_22_23_24_25_26_27_28_29_30_31_32_33_34_35_36_37_38_39_40_41_42_43_44_45_46_47_48_49_50_51_52 rfl rfl rfl (by decide) (by decide) (Nat.le_of_ble_eq_true rfl) rfl ((zput_par nd_0_1_2_3_4_5_6_7_8_9_10_11_12_13_14_15_16_17_18_19_20_21_22_23_24_25_26_27_28_29_30_31_32_33_34_35_36_37_38_39_40_41_42_43_44_45_46_47_48_49_50_51_52 rfl).trans rfl) ?_
  refine z_bipush C (-100) dL_orders_10 (by decide) ?_
  refine z_icmp_ne_f C 24 dL_orders_12 (by decide) rfl ?_
  refine z_aload_n C 0 dL_orders_15 rfl rfl ?_
  refine z_iconst C (nI 4) dL_orders_16 (by decide) ?_
  refine z_callV (wn := (WRd X.2.1 x0 h0 h1 w0 w1 t r S o kp Q (tyL tx []) 0 ps1)) C kX5_run gL_orders_X5_run m2 dL_orders_17 [0, 1, 2, 3, 4, 5, 6, 7, 8, 9, 10, 11, 12, 13, 14, 15, 16, 17, 18, 19, 20, 21, 22, 23, 24, 25, 26, 27, 28, 29, 30, 31, 32, 33, 34, 35, 36, 37, 38, 39, 40, 41, 42, 43, 44, 45, 46, 47, 48, 49, 50, 51, 52] [] 0 rfl rfl nd_0_1_2_3_4_5_6_7_8_9_10_11_12_13_14_15_16_17_18_19_20_21_22_23_24_25_26_27_28_29_30_31_32_33_34_35_36_37_38_39_40_41_42_43_44_45_46_47_48_49_50_51_52 rfl rfl rfl (by decide) (by decide) (Nat.le_of_ble_eq_true rfl) rfl ((zput_par nd_0_1_2_3_4_5_6_7_8_9_10_11_12_13_14_15_16_17_18_19_20_21_22_23_24_25_26_27_28_29_30_31_32_33_34_35_36_37_38_39_40_41_42_43_44_45_46_47_48_49_50_51_52 rfl).trans rfl) ?_
  refine z_iconst C (-1) dL_orders_20 (by decide) ?_
  refine z_icmp_eq_t C 26 dL_orders_21 (by decide) rfl ?_
  refine z_iload_n C 2 dL_orders_26 rfl rfl ?_
  refine z_iconst C (nI 1) dL_orders_27 (by decide) ?_
  refine z_iand C dL_orders_28 ?_
  refine z_top (y := nI 0) (hg1) ?_
  refine z_istore C dL_orders_29 (Nat.le_of_ble_eq_true rfl) ?_
  refine z_lv (lv' := [some (.ref x0), some (.int (nI au)), some (.int g), some (.int h), some (.int (nI 0)), none, none, none, none, none, none]) rfl ?_
  refine z_aload_n C 0 dL_orders_31 rfl rfl ?_
  refine z_iconst C (nI 0) dL_orders_32 (by decide) ?_
  refine z_iload C dL_orders_33 rfl ?_
  refine z_callVr C kX5_size gL_orders_X5_size (l_size0 X.2.1 x0 h0 w0 t S 0 hG (by decide)) dL_orders_35 [0, 1, 2, 3, 4, 5, 6, 7, 8] [] 0 rfl nd_0_1_2_3_4_5_6_7_8 rfl rfl rfl (by decide) (by decide) (Nat.le_of_ble_eq_true rfl) rfl ?_
  refine z_istore C dL_orders_38 (Nat.le_of_ble_eq_true rfl) ?_
  refine z_lv (lv' := [some (.ref x0), some (.int (nI au)), some (.int g), some (.int h), some (.int (nI 0)), some (.int (nI (uU S 0))), none, none, none, none, none]) rfl ?_
  refine z_aload_n C 0 dL_orders_40 rfl rfl ?_
  refine z_iconst C (nI 0) dL_orders_41 (by decide) ?_
  refine z_callVr C kX5_count gL_orders_X5_count (l_cnt0 X.2.1 x0 h0 h1 w0 w1 t S o kp 0 ps1  hG ) dL_orders_42 [0, 1, 2, 3, 4, 5, 6, 7, 8, 9, 51] [] 0 rfl nd_0_1_2_3_4_5_6_7_8_9_51 rfl rfl rfl (by decide) (by decide) (Nat.le_of_ble_eq_true rfl) rfl ?_
  refine z_istore C dL_orders_45 (Nat.le_of_ble_eq_true rfl) ?_
  refine z_lv (lv' := [some (.ref x0), some (.int (nI au)), some (.int g), some (.int h), some (.int (nI 0)), some (.int (nI (uU S 0))), some (.int (nI (mK S))), none, none, none, none]) rfl ?_
  refine z_aload_n C 0 dL_orders_47 rfl rfl ?_
  refine z_iconst C (nI 5) dL_orders_48 (by decide) ?_
  refine z_callVr C kX5_count gL_orders_X5_count (l_cnt5n X.2.1 x0 h0 h1 w0 w1 t S o kp 0 ps1  hG ht) dL_orders_49 [0, 1, 2, 3, 4, 5, 6, 7, 8, 9, 51] [] 0 rfl nd_0_1_2_3_4_5_6_7_8_9_51 rfl rfl rfl (by decide) (by decide) (Nat.le_of_ble_eq_true rfl) rfl ?_
  refine z_iconst C (nI 1) dL_orders_52 (by decide) ?_
  refine z_ncmp_ne_t C 60 dL_orders_53 (by decide) (by omega) (by omega) (by omega) ?_
  refine z_iconst C (nI 0) dL_orders_60 (by decide) ?_
  refine z_istore C dL_orders_61 (Nat.le_of_ble_eq_true rfl) ?_
  refine z_lv (lv' := [some (.ref x0), some (.int (nI au)), some (.int g), some (.int h), some (.int (nI 0)), some (.int (nI (uU S 0))), some (.int (nI (mK S))), some (.int (nI 0)), none, none, none]) rfl ?_
  refine z_aload_n C 0 dL_orders_63 rfl rfl ?_
  refine z_iload_n C 2 dL_orders_64 rfl rfl ?_
  refine z_iconst C (nI 2) dL_orders_65 (by decide) ?_
  refine z_iand C dL_orders_66 ?_
  refine z_if_ne_t C 75 dL_orders_67 (by decide) hg2 ?_
  refine z_bipush C (nI 45) dL_orders_75 (by decide) ?_
  refine z_callV (wn := (WRd X.2.1 x0 h0 h1 w0 w1 t r S o kp Q (tyL tx [45]) 1 ps1)) C kX5_type gL_orders_X5_type (l_typ X.2.1 x0 (t 0) h0 w0 w1 tx [] ps1 45 0 rfl (by decide) htx (fun c hc9 => absurd hc9 List.not_mem_nil) (by omega)) dL_orders_77 [0, 51, 52] [] 0 rfl rfl nd_0_51_52 rfl rfl rfl (by decide) (by decide) (Nat.le_of_ble_eq_true rfl) rfl ((zput_par nd_0_51_52 rfl).trans rfl) ?_
  refine z_top (y := nI 1) rfl ?_
  refine z_istore C dL_orders_80 (Nat.le_of_ble_eq_true rfl) ?_
  refine z_lv (lv' := [some (.ref x0), some (.int (nI au)), some (.int g), some (.int h), some (.int (nI 0)), some (.int (nI (uU S 0))), some (.int (nI (mK S))), some (.int (nI 0)), some (.int (nI 1)), none, none]) rfl ?_
  refine z_aload_n C 0 dL_orders_82 rfl rfl ?_
  refine z_iload_n C 1 dL_orders_83 rfl rfl ?_
  refine z_callV (wn := (WRd X.2.1 x0 h0 h1 w0 w1 t r S o kp Q (tyL tx [45]) 1 ps2)) C kX5_run gL_orders_X5_run m3 dL_orders_84 [0, 1, 2, 3, 4, 5, 6, 7, 8, 9, 10, 11, 12, 13, 14, 15, 16, 17, 18, 19, 20, 21, 22, 23, 24, 25, 26, 27, 28, 29, 30, 31, 32, 33, 34, 35, 36, 37, 38, 39, 40, 41, 42, 43, 44, 45, 46, 47, 48, 49, 50, 51, 52] [] 0 rfl rfl nd_0_1_2_3_4_5_6_7_8_9_10_11_12_13_14_15_16_17_18_19_20_21_22_23_24_25_26_27_28_29_30_31_32_33_34_35_36_37_38_39_40_41_42_43_44_45_46_47_48_49_50_51_52 rfl rfl rfl (by decide) (by decide) (Nat.le_of_ble_eq_true rfl) rfl ((zput_par nd_0_1_2_3_4_5_6_7_8_9_10_11_12_13_14_15_16_17_18_19_20_21_22_23_24_25_26_27_28_29_30_31_32_33_34_35_36_37_38_39_40_41_42_43_44_45_46_47_48_49_50_51_52 rfl).trans rfl) ?_
  refine z_bipush C (-100) dL_orders_87 (by decide) ?_
  refine z_iload C dL_orders_89 rfl ?_
  refine z_isub C dL_orders_91 ?_
  refine z_top (y := (-101)) (by decide) ?_
  refine z_icmp_ne_f C 99 dL_orders_92 (by decide) rfl ?_
  refine z_iconst C (nI 1) dL_orders_95 (by decide) ?_
  refine z_goto C 100 dL_orders_96 (by decide) ?_
  refine z_istore C dL_orders_100 (Nat.le_of_ble_eq_true rfl) ?_
  refine z_lv (lv' := [some (.ref x0), some (.int (nI au)), some (.int g), some (.int h), some (.int (nI 0)), some (.int (nI (uU S 0))), some (.int (nI (mK S))), some (.int (nI 0)), some (.int (nI 1)), some (.int (nI 1)), none]) rfl ?_
  refine z_aload_n C 0 dL_orders_102 rfl rfl ?_
  refine z_iload C dL_orders_103 rfl ?_
  refine z_nif_ne_f C 113 dL_orders_105 (by decide) (by omega) (by omega) ?_
  refine z_bipush C (nI 114) dL_orders_108 (by decide) ?_
  refine z_goto C 115 dL_orders_110 (by decide) ?_
  refine z_callV (wn := (WRd X.2.1 x0 h0 h1 w0 w1 t r S o kp Q (tyL tx [114, 45]) 2 ps2)) C kX5_type gL_orders_X5_type (l_typ X.2.1 x0 (t 0) h0 w0 w1 tx [45] ps2 114 1 rfl (by decide) htx (by intro c hc9; simp at hc9; omega) (by omega)) dL_orders_115 [0, 51, 52] [] 0 rfl rfl nd_0_51_52 rfl rfl rfl (by decide) (by decide) (Nat.le_of_ble_eq_true rfl) rfl ((zput_par nd_0_51_52 rfl).trans rfl) ?_
  refine z_top (y := nI 2) rfl ?_
  refine z_pop C dL_orders_118 rfl ?_
  refine z_aload_n C 0 dL_orders_119 rfl rfl ?_
  refine z_bipush C (nI 48) dL_orders_120 (by decide) ?_
  refine z_callV (wn := (WRd X.2.1 x0 h0 h1 w0 w1 t r S o kp Q (tyL tx [48, 114, 45]) 3 ps2)) C kX5_type gL_orders_X5_type (l_typ X.2.1 x0 (t 0) h0 w0 w1 tx [114, 45] ps2 48 2 rfl (by decide) htx (by intro c hc9; simp at hc9; omega) (by omega)) dL_orders_122 [0, 51, 52] [] 0 rfl rfl nd_0_51_52 rfl rfl rfl (by decide) (by decide) (Nat.le_of_ble_eq_true rfl) rfl ((zput_par nd_0_51_52 rfl).trans rfl) ?_
  refine z_top (y := nI 3) rfl ?_
  refine z_pop C dL_orders_125 rfl ?_
  refine z_aload_n C 0 dL_orders_126 rfl rfl ?_
  refine z_bipush C (nI 48) dL_orders_127 (by decide) ?_
  refine z_iload_n C 3 dL_orders_129 rfl rfl ?_
  refine z_bipush C (nI 10) dL_orders_130 (by decide) ?_
  refine z_callS C kL_low gL_orders_L_low (l_low X.2.1 h 10 (by decide) (by decide)) dL_orders_132 [.int (nI 48), .ref x0] rfl (by decide) (by decide) (Nat.le_of_ble_eq_true rfl) rfl ?_
  refine z_top (y := nI dd) (congrArg nI hd) ?_
  refine z_iadd C dL_orders_135 ?_
  refine z_top (y := nI (48 + dd)) (nI_add _ _) ?_
  refine z_i2c C (nI (48 + dd)) dL_orders_136 (chr_n (by omega)) ?_
  refine z_callV (wn := (WRd X.2.1 x0 h0 h1 w0 w1 t r S o kp Q (tyL tx [48 + dd, 48, 114, 45]) 4 ps2)) C kX5_type gL_orders_X5_type (l_typ X.2.1 x0 (t 0) h0 w0 w1 tx [48, 114, 45] ps2 (48 + dd) 3 rfl (by decide) htx (by intro c hc9; simp at hc9; omega) (by omega)) dL_orders_137 [0, 51, 52] [] 0 rfl rfl nd_0_51_52 rfl rfl rfl (by decide) (by decide) (Nat.le_of_ble_eq_true rfl) rfl ((zput_par nd_0_51_52 rfl).trans rfl) ?_
  refine z_top (y := nI 4) rfl ?_
  refine z_istore C dL_orders_140 (Nat.le_of_ble_eq_true rfl) ?_
  refine z_lv (lv' := [some (.ref x0), some (.int (nI au)), some (.int g), some (.int h), some (.int (nI 0)), some (.int (nI (uU S 0))), some (.int (nI (mK S))), some (.int (nI 0)), some (.int (nI 4)), some (.int (nI 1)), none]) rfl ?_
  refine z_iload C dL_orders_142 rfl ?_
  refine z_nif_eq_f C 160 dL_orders_144 (by decide) (by omega) (by omega) ?_
  refine z_aload_n C 0 dL_orders_147 rfl rfl ?_
  refine z_iload_n C 1 dL_orders_148 rfl rfl ?_
  refine z_callV (wn := (WRd X.2.1 x0 h0 h1 w0 w1 t r S o kp Q (tyL tx [48 + dd, 48, 114, 45]) 4 ps3)) C kX5_run gL_orders_X5_run m4 dL_orders_149 [0, 1, 2, 3, 4, 5, 6, 7, 8, 9, 10, 11, 12, 13, 14, 15, 16, 17, 18, 19, 20, 21, 22, 23, 24, 25, 26, 27, 28, 29, 30, 31, 32, 33, 34, 35, 36, 37, 38, 39, 40, 41, 42, 43, 44, 45, 46, 47, 48, 49, 50, 51, 52] [] 0 rfl rfl nd_0_1_2_3_4_5_6_7_8_9_10_11_12_13_14_15_16_17_18_19_20_21_22_23_24_25_26_27_28_29_30_31_32_33_34_35_36_37_38_39_40_41_42_43_44_45_46_47_48_49_50_51_52 rfl rfl rfl (by decide) (by decide) (Nat.le_of_ble_eq_true rfl) rfl ((zput_par nd_0_1_2_3_4_5_6_7_8_9_10_11_12_13_14_15_16_17_18_19_20_21_22_23_24_25_26_27_28_29_30_31_32_33_34_35_36_37_38_39_40_41_42_43_44_45_46_47_48_49_50_51_52 rfl).trans rfl) ?_
  refine z_bipush C (-99) dL_orders_152 (by decide) ?_
  refine z_iload C dL_orders_154 rfl ?_
  refine z_isub C dL_orders_156 ?_
  refine z_top (y := (-103)) (by decide) ?_
  refine z_icmp_eq_t C 162 dL_orders_157 (by decide) rfl ?_
  refine z_aload_n C 0 dL_orders_162 rfl rfl ?_
  have htx2 : ∀ j, tyL tx [48 + dd, 48, 114, 45] j < 65536 := tyL_b htx (by intro c hc9; simp at hc9; omega)
  refine z_callV (wn := (WRd X.2.1 x0 h0 h1 w0 w1 t r S o kp Q (tyL (tyL tx [48 + dd, 48, 114, 45]) []) 0 ps3)) C kX5_clearText gL_orders_X5_clearText (l_clr X.2.1 x0 (t 0) h0 w0 w1 (tyL tx [48 + dd, 48, 114, 45]) 4 ps3 (by decide)) dL_orders_163 [0, 51, 52] [] 0 rfl rfl nd_0_51_52 rfl rfl rfl (by decide) (by decide) (Nat.le_of_ble_eq_true rfl) rfl ((zput_par nd_0_51_52 rfl).trans rfl) ?_
  refine z_pop C dL_orders_166 rfl ?_
  refine z_aload_n C 0 dL_orders_167 rfl rfl ?_
  refine z_bipush C (nI 43) dL_orders_168 (by decide) ?_
  refine z_callV (wn := (WRd X.2.1 x0 h0 h1 w0 w1 t r S o kp Q (tyL (tyL tx [48 + dd, 48, 114, 45]) [43]) 1 ps3)) C kX5_type gL_orders_X5_type (l_typ X.2.1 x0 (t 0) h0 w0 w1 (tyL tx [48 + dd, 48, 114, 45]) [] ps3 43 0 rfl (by decide) htx2 (fun c hc9 => absurd hc9 List.not_mem_nil) (by omega)) dL_orders_170 [0, 51, 52] [] 0 rfl rfl nd_0_51_52 rfl rfl rfl (by decide) (by decide) (Nat.le_of_ble_eq_true rfl) rfl ((zput_par nd_0_51_52 rfl).trans rfl) ?_
  refine z_top (y := nI 1) rfl ?_
  refine z_pop C dL_orders_173 rfl ?_
  refine z_aload_n C 0 dL_orders_174 rfl rfl ?_
  refine z_iload C dL_orders_175 rfl ?_
  refine z_nif_ne_f C 185 dL_orders_177 (by decide) (by omega) (by omega) ?_
  refine z_bipush C (nI 114) dL_orders_180 (by decide) ?_
  refine z_goto C 187 dL_orders_182 (by decide) ?_
  refine z_callV (wn := (WRd X.2.1 x0 h0 h1 w0 w1 t r S o kp Q (tyL (tyL tx [48 + dd, 48, 114, 45]) [114, 43]) 2 ps3)) C kX5_type gL_orders_X5_type (l_typ X.2.1 x0 (t 0) h0 w0 w1 (tyL tx [48 + dd, 48, 114, 45]) [43] ps3 114 1 rfl (by decide) htx2 (by intro c hc9; simp at hc9; omega) (by omega)) dL_orders_187 [0, 51, 52] [] 0 rfl rfl nd_0_51_52 rfl rfl rfl (by decide) (by decide) (Nat.le_of_ble_eq_true rfl) rfl ((zput_par nd_0_51_52 rfl).trans rfl) ?_
  refine z_top (y := nI 2) rfl ?_
  refine z_pop C dL_orders_190 rfl ?_
  refine z_aload_n C 0 dL_orders_191 rfl rfl ?_
  refine z_bipush C (nI 48) dL_orders_192 (by decide) ?_
  refine z_callV (wn := (WRd X.2.1 x0 h0 h1 w0 w1 t r S o kp Q (tyL (tyL tx [48 + dd, 48, 114, 45]) [48, 114, 43]) 3 ps3)) C kX5_type gL_orders_X5_type (l_typ X.2.1 x0 (t 0) h0 w0 w1 (tyL tx [48 + dd, 48, 114, 45]) [114, 43] ps3 48 2 rfl (by decide) htx2 (by intro c hc9; simp at hc9; omega) (by omega)) dL_orders_194 [0, 51, 52] [] 0 rfl rfl nd_0_51_52 rfl rfl rfl (by decide) (by decide) (Nat.le_of_ble_eq_true rfl) rfl ((zput_par nd_0_51_52 rfl).trans rfl) ?_
  refine z_top (y := nI 3) rfl ?_
  refine z_pop C dL_orders_197 rfl ?_
  refine z_aload_n C 0 dL_orders_198 rfl rfl ?_
  refine z_bipush C (nI 32) dL_orders_199 (by decide) ?_
  refine z_callV (wn := (WRd X.2.1 x0 h0 h1 w0 w1 t r S o kp Q (tyL (tyL tx [48 + dd, 48, 114, 45]) [32, 48, 114, 43]) 4 ps3)) C kX5_type gL_orders_X5_type (l_typ X.2.1 x0 (t 0) h0 w0 w1 (tyL tx [48 + dd, 48, 114, 45]) [48, 114, 43] ps3 32 3 rfl (by decide) htx2 (by intro c hc9; simp at hc9; omega) (by omega)) dL_orders_201 [0, 51, 52] [] 0 rfl rfl nd_0_51_52 rfl rfl rfl (by decide) (by decide) (Nat.le_of_ble_eq_true rfl) rfl ((zput_par nd_0_51_52 rfl).trans rfl) ?_
  refine z_top (y := nI 4) rfl ?_
  refine z_pop C dL_orders_204 rfl ?_
  refine z_aload_n C 0 dL_orders_205 rfl rfl ?_
  refine z_bipush C (nI 43) dL_orders_206 (by decide) ?_
  refine z_callV (wn := (WRd X.2.1 x0 h0 h1 w0 w1 t r S o kp Q (tyL (tyL tx [48 + dd, 48, 114, 45]) [43, 32, 48, 114, 43]) 5 ps3)) C kX5_type gL_orders_X5_type (l_typ X.2.1 x0 (t 0) h0 w0 w1 (tyL tx [48 + dd, 48, 114, 45]) [32, 48, 114, 43] ps3 43 4 rfl (by decide) htx2 (by intro c hc9; simp at hc9; omega) (by omega)) dL_orders_208 [0, 51, 52] [] 0 rfl rfl nd_0_51_52 rfl rfl rfl (by decide) (by decide) (Nat.le_of_ble_eq_true rfl) rfl ((zput_par nd_0_51_52 rfl).trans rfl) ?_
  refine z_top (y := nI 5) rfl ?_
  refine z_pop C dL_orders_211 rfl ?_
  refine z_aload_n C 0 dL_orders_212 rfl rfl ?_
  refine z_iload C dL_orders_213 rfl ?_
  refine z_nif_ne_f C 223 dL_orders_215 (by decide) (by omega) (by omega) ?_
  refine z_bipush C (nI 114) dL_orders_218 (by decide) ?_
  refine z_goto C 225 dL_orders_220 (by decide) ?_
  refine z_callV (wn := (WRd X.2.1 x0 h0 h1 w0 w1 t r S o kp Q (tyL (tyL tx [48 + dd, 48, 114, 45]) [114, 43, 32, 48, 114, 43]) 6 ps3)) C kX5_type gL_orders_X5_type (l_typ X.2.1 x0 (t 0) h0 w0 w1 (tyL tx [48 + dd, 48, 114, 45]) [43, 32, 48, 114, 43] ps3 114 5 rfl (by decide) htx2 (by intro c hc9; simp at hc9; omega) (by omega)) dL_orders_225 [0, 51, 52] [] 0 rfl rfl nd_0_51_52 rfl rfl rfl (by decide) (by decide) (Nat.le_of_ble_eq_true rfl) rfl ((zput_par nd_0_51_52 rfl).trans rfl) ?_
  refine z_top (y := nI 6) rfl ?_
  refine z_pop C dL_orders_228 rfl ?_
  refine z_aload_n C 0 dL_orders_229 rfl rfl ?_
  refine z_bipush C (nI 57) dL_orders_230 (by decide) ?_
  refine z_callV (wn := (WRd X.2.1 x0 h0 h1 w0 w1 t r S o kp Q (tyL (tyL tx [48 + dd, 48, 114, 45]) [57, 114, 43, 32, 48, 114, 43]) 7 ps3)) C kX5_type gL_orders_X5_type (l_typ X.2.1 x0 (t 0) h0 w0 w1 (tyL tx [48 + dd, 48, 114, 45]) [114, 43, 32, 48, 114, 43] ps3 57 6 rfl (by decide) htx2 (by intro c hc9; simp at hc9; omega) (by omega)) dL_orders_232 [0, 51, 52] [] 0 rfl rfl nd_0_51_52 rfl rfl rfl (by decide) (by decide) (Nat.le_of_ble_eq_true rfl) rfl ((zput_par nd_0_51_52 rfl).trans rfl) ?_
  refine z_top (y := nI 7) rfl ?_
  refine z_pop C dL_orders_235 rfl ?_
  refine z_aload_n C 0 dL_orders_236 rfl rfl ?_
  refine z_bipush C (nI 57) dL_orders_237 (by decide) ?_
  refine z_callV (wn := (WRd X.2.1 x0 h0 h1 w0 w1 t r S o kp Q (tyL (tyL tx [48 + dd, 48, 114, 45]) [57, 57, 114, 43, 32, 48, 114, 43]) 8 ps3)) C kX5_type gL_orders_X5_type (l_typ X.2.1 x0 (t 0) h0 w0 w1 (tyL tx [48 + dd, 48, 114, 45]) [57, 114, 43, 32, 48, 114, 43] ps3 57 7 rfl (by decide) htx2 (by intro c hc9; simp at hc9; omega) (by omega)) dL_orders_239 [0, 51, 52] [] 0 rfl rfl nd_0_51_52 rfl rfl rfl (by decide) (by decide) (Nat.le_of_ble_eq_true rfl) rfl ((zput_par nd_0_51_52 rfl).trans rfl) ?_
  refine z_top (y := nI 8) rfl ?_
  refine z_istore C dL_orders_242 (Nat.le_of_ble_eq_true rfl) ?_
  refine z_lv (lv' := [some (.ref x0), some (.int (nI au)), some (.int g), some (.int h), some (.int (nI 0)), some (.int (nI (uU S 0))), some (.int (nI (mK S))), some (.int (nI 0)), some (.int (nI 8)), some (.int (nI 1)), none]) rfl ?_
  refine z_iload C dL_orders_244 rfl ?_
  refine z_iload C dL_orders_246 rfl ?_
  refine z_nif_ne_f C 256 dL_orders_248 (by decide) (by omega) (by omega) ?_
  refine z_bipush C (nI 12) dL_orders_251 (by decide) ?_
  refine z_goto C 258 dL_orders_253 (by decide) ?_
  refine z_ncmp_eq_f C 273 dL_orders_258 (by decide) (by omega) (by omega) (by omega) ?_
  refine z_iload C dL_orders_261 rfl ?_
  refine z_nif_eq_t C 277 dL_orders_263 (by decide) (by omega) (by omega) ?_
  refine z_iconst C (nI 1) dL_orders_277 (by decide) ?_
  refine z_istore C dL_orders_278 (Nat.le_of_ble_eq_true rfl) ?_
  refine z_lv (lv' := [some (.ref x0), some (.int (nI au)), some (.int g), some (.int h), some (.int (nI 0)), some (.int (nI (uU S 0))), some (.int (nI (mK S))), some (.int (nI 0)), some (.int (nI 8)), some (.int (nI 1)), some (.int (nI 1))]) rfl ?_
  refine z_aload_n C 0 dL_orders_280 rfl rfl ?_
  refine z_iload_n C 1 dL_orders_281 rfl rfl ?_
  refine z_callV (wn := (WRd X.2.1 x0 h0 h1 w0 w1 t r S1 o1 kp1 Q1 (tyL (tyL tx [48 + dd, 48, 114, 45]) [57, 57, 114, 43, 32, 48, 114, 43]) 8 ps4)) C kX5_run gL_orders_X5_run m5 dL_orders_282 [0, 1, 2, 3, 4, 5, 6, 7, 8, 9, 10, 11, 12, 13, 14, 15, 16, 17, 18, 19, 20, 21, 22, 23, 24, 25, 26, 27, 28, 29, 30, 31, 32, 33, 34, 35, 36, 37, 38, 39, 40, 41, 42, 43, 44, 45, 46, 47, 48, 49, 50, 51, 52] [] 0 rfl rfl nd_0_1_2_3_4_5_6_7_8_9_10_11_12_13_14_15_16_17_18_19_20_21_22_23_24_25_26_27_28_29_30_31_32_33_34_35_36_37_38_39_40_41_42_43_44_45_46_47_48_49_50_51_52 rfl rfl rfl (by decide) (by decide) (Nat.le_of_ble_eq_true rfl) rfl ((zput_par nd_0_1_2_3_4_5_6_7_8_9_10_11_12_13_14_15_16_17_18_19_20_21_22_23_24_25_26_27_28_29_30_31_32_33_34_35_36_37_38_39_40_41_42_43_44_45_46_47_48_49_50_51_52 rfl).trans rfl) ?_
  refine z_iload C dL_orders_285 rfl ?_
  refine z_ncmp_ne_f C 305 dL_orders_287 (by decide) (by omega) (by omega) (by omega) ?_
  refine z_aload_n C 0 dL_orders_290 rfl rfl ?_
  refine z_iconst C (nI 0) dL_orders_291 (by decide) ?_
  refine z_iload C dL_orders_292 rfl ?_
  refine z_callVr C kX5_size gL_orders_X5_size (l_size0 X.2.1 x0 h0 w0 t S1 0 hG1 (by decide)) dL_orders_294 [0, 1, 2, 3, 4, 5, 6, 7, 8] [] 0 rfl nd_0_1_2_3_4_5_6_7_8 rfl rfl rfl (by decide) (by decide) (Nat.le_of_ble_eq_true rfl) rfl ?_
  refine z_iload C dL_orders_297 rfl ?_
  refine z_iload C dL_orders_299 rfl ?_
  refine z_iadd C dL_orders_301 ?_
  refine z_top (y := nI ((uU S 0) + 1)) (nI_add _ _) ?_
  refine z_ncmp_eq_t C 307 dL_orders_302 (by decide) (by omega) (by omega) (by omega) ?_
  refine z_aload_n C 0 dL_orders_307 rfl rfl ?_
  refine z_bipush C (nI 57) dL_orders_308 (by decide) ?_
  refine z_callV (wn := (WRd X.2.1 x0 h0 h1 w0 w1 t r S1 o1 kp1 Q1 (tyL (tyL tx [48 + dd, 48, 114, 45]) [57, 57, 57, 114, 43, 32, 48, 114, 43]) 9 ps4)) C kX5_type gL_orders_X5_type (l_typ X.2.1 x0 (t 0) h0 w0 w1 (tyL tx [48 + dd, 48, 114, 45]) [57, 57, 114, 43, 32, 48, 114, 43] ps4 57 8 rfl (by decide) htx2 (by intro c hc9; simp at hc9; omega) (by omega)) dL_orders_310 [0, 51, 52] [] 0 rfl rfl nd_0_51_52 rfl rfl rfl (by decide) (by decide) (Nat.le_of_ble_eq_true rfl) rfl ((zput_par nd_0_51_52 rfl).trans rfl) ?_
  refine z_top (y := nI 9) rfl ?_
  refine z_pop C dL_orders_313 rfl ?_
  refine z_aload_n C 0 dL_orders_314 rfl rfl ?_
  refine z_iload_n C 1 dL_orders_315 rfl rfl ?_
  refine z_callV (wn := (WRd X.2.1 x0 h0 h1 w0 w1 t r S1 o1 kp1 Q1 (tyL (tyL tx [48 + dd, 48, 114, 45]) [57, 57, 57, 114, 43, 32, 48, 114, 43]) 9 ps5)) C kX5_run gL_orders_X5_run m6 dL_orders_316 [0, 1, 2, 3, 4, 5, 6, 7, 8, 9, 10, 11, 12, 13, 14, 15, 16, 17, 18, 19, 20, 21, 22, 23, 24, 25, 26, 27, 28, 29, 30, 31, 32, 33, 34, 35, 36, 37, 38, 39, 40, 41, 42, 43, 44, 45, 46, 47, 48, 49, 50, 51, 52] [] 0 rfl rfl nd_0_1_2_3_4_5_6_7_8_9_10_11_12_13_14_15_16_17_18_19_20_21_22_23_24_25_26_27_28_29_30_31_32_33_34_35_36_37_38_39_40_41_42_43_44_45_46_47_48_49_50_51_52 rfl rfl rfl (by decide) (by decide) (Nat.le_of_ble_eq_true rfl) rfl ((zput_par nd_0_1_2_3_4_5_6_7_8_9_10_11_12_13_14_15_16_17_18_19_20_21_22_23_24_25_26_27_28_29_30_31_32_33_34_35_36_37_38_39_40_41_42_43_44_45_46_47_48_49_50_51_52 rfl).trans rfl) ?_
  refine z_bipush C (-100) dL_orders_319 (by decide) ?_
  refine z_iload C dL_orders_321 rfl ?_
  refine z_isub C dL_orders_323 ?_
  refine z_top (y := (-108)) (by decide) ?_
  refine z_icmp_ne_f C 360 dL_orders_324 (by decide) rfl ?_
  refine z_aload_n C 0 dL_orders_327 rfl rfl ?_
  refine z_callV (wn := (WRd X.2.1 x0 h0 h1 w0 w1 t r S o2 kp2 Q1 (tyL (tyL tx [48 + dd, 48, 114, 45]) [57, 57, 57, 114, 43, 32, 48, 114, 43]) 9 ps5)) C kX5_undo gL_orders_X5_undo m7 dL_orders_328 [0, 1, 2, 3, 4, 5, 6, 7, 8, 9, 10, 11, 12, 13, 14, 15, 16, 17, 18, 19, 20, 21, 22, 23, 24, 25, 26, 27, 28, 29, 30, 31, 32, 33, 34, 35, 36, 37, 38, 39, 40, 41, 42, 43, 44, 45, 46, 47, 48, 49, 50] [] 0 rfl rfl nd_0_1_2_3_4_5_6_7_8_9_10_11_12_13_14_15_16_17_18_19_20_21_22_23_24_25_26_27_28_29_30_31_32_33_34_35_36_37_38_39_40_41_42_43_44_45_46_47_48_49_50 rfl rfl rfl (by decide) (by decide) (Nat.le_of_ble_eq_true rfl) rfl ((zput_par nd_0_1_2_3_4_5_6_7_8_9_10_11_12_13_14_15_16_17_18_19_20_21_22_23_24_25_26_27_28_29_30_31_32_33_34_35_36_37_38_39_40_41_42_43_44_45_46_47_48_49_50 rfl).trans rfl) ?_
  refine z_nif_lt_f C 360 dL_orders_331 (by decide) (by omega) (by trivial) ?_
  refine z_aload_n C 0 dL_orders_334 rfl rfl ?_
  refine z_iconst C (nI 0) dL_orders_335 (by decide) ?_
  refine z_iload C dL_orders_336 rfl ?_
  refine z_callVr C kX5_size gL_orders_X5_size (l_size0 X.2.1 x0 h0 w0 t S 0 hG (by decide)) dL_orders_338 [0, 1, 2, 3, 4, 5, 6, 7, 8] [] 0 rfl nd_0_1_2_3_4_5_6_7_8 rfl rfl rfl (by decide) (by decide) (Nat.le_of_ble_eq_true rfl) rfl ?_
  refine z_iload C dL_orders_341 rfl ?_
  refine z_ncmp_ne_f C 360 dL_orders_343 (by decide) (by omega) (by omega) (by omega) ?_
  refine z_aload_n C 0 dL_orders_346 rfl rfl ?_
  refine z_iconst C (nI 0) dL_orders_347 (by decide) ?_
  refine z_callVr C kX5_count gL_orders_X5_count (l_cnt0 X.2.1 x0 h0 h1 w0 w1 t S o2 kp2 9 ps5  hG ) dL_orders_348 [0, 1, 2, 3, 4, 5, 6, 7, 8, 9, 51] [] 0 rfl nd_0_1_2_3_4_5_6_7_8_9_51 rfl rfl rfl (by decide) (by decide) (Nat.le_of_ble_eq_true rfl) rfl ?_
  refine z_iload C dL_orders_351 rfl ?_
  refine z_ncmp_ne_f C 360 dL_orders_353 (by decide) (by omega) (by omega) (by omega) ?_
  refine z_iconst C (nI 1) dL_orders_356 (by decide) ?_
  refine z_goto C 361 dL_orders_357 (by decide) ?_
  exact z_zret C N dL_orders_361 rfl (rfl) (rfl)

set_option maxHeartbeats 4000000 in
set_option maxRecDepth 100000 in
theorem w_ord01t (E : zE) (x0 h0 h1 w0 w1 : Nat) (t : Nat → Nat) (r : Nat → Nat → Nat) (S S1 : zSt) (o kp o1 o2 kp1 kp2 : Nat) (Q Q1 : Nat → zSt) (tx : Nat → Nat) (ln : Nat) (ps ps1 ps2 ps3 ps4 ps5 : zPs) {B B1 : Nat} (au : Nat) (g h : Int32) (dd lf : Nat) (hG : GG S B) (hG1 : GG S1 B1) (hau : au < 4) (hg1 : g &&& (nI 1) = nI 0) (hg2 : ¬ g &&& (nI 2) = 0) (hd : lw h 10 = dd) (hdd : dd < 10) (hln : ln ≤ 60) (htx : ∀ j, tx j < 65536) (hlf : lf < 100) (hu : uU S1 0 = uU S 0 + 1) (hf : uU S 0 < 12) (ht : tK S = true) (hm : mK S < 60) (m1 : zM E yX5_run wsX5_run 8 [.ref x0, .int (nI au)] (WRd E x0 h0 h1 w0 w1 t r S o kp Q (tyL tx []) 0 ps) (WRd E x0 h0 h1 w0 w1 t r S o kp Q (tyL tx []) 0 ps1) (some (.int (-100)))) (m2 : zM E yX5_run wsX5_run 8 [.ref x0, .int (nI 4)] (WRd E x0 h0 h1 w0 w1 t r S o kp Q (tyL tx []) 0 ps1) (WRd E x0 h0 h1 w0 w1 t r S o kp Q (tyL tx []) 0 ps1) (some (.int (-1)))) (m3 : zM E yX5_run wsX5_run 8 [.ref x0, .int (nI au)] (WRd E x0 h0 h1 w0 w1 t r S o kp Q (tyL tx [45]) 1 ps1) (WRd E x0 h0 h1 w0 w1 t r S o kp Q (tyL tx [45]) 1 ps2) (some (.int (-101)))) (m4 : zM E yX5_run wsX5_run 8 [.ref x0, .int (nI au)] (WRd E x0 h0 h1 w0 w1 t r S o kp Q (tyL tx [48 + dd, 48, 114, 45]) 4 ps2) (WRd E x0 h0 h1 w0 w1 t r S o kp Q (tyL tx [48 + dd, 48, 114, 45]) 4 ps3) (some (.int (-103)))) (m5 : zM E yX5_run wsX5_run 8 [.ref x0, .int (nI au)] (WRd E x0 h0 h1 w0 w1 t r S o kp Q (tyL (tyL tx [48 + dd, 48, 114, 45]) [57, 57, 114, 43, 32, 48, 114, 43]) 8 ps3) (WRd E x0 h0 h1 w0 w1 t r S1 o1 kp1 Q1 (tyL (tyL tx [48 + dd, 48, 114, 45]) [57, 57, 114, 43, 32, 48, 114, 43]) 8 ps4) (some (.int (nI 1)))) (m6 : zM E yX5_run wsX5_run 8 [.ref x0, .int (nI au)] (WRd E x0 h0 h1 w0 w1 t r S1 o1 kp1 Q1 (tyL (tyL tx [48 + dd, 48, 114, 45]) [57, 57, 57, 114, 43, 32, 48, 114, 43]) 9 ps4) (WRd E x0 h0 h1 w0 w1 t r S1 o1 kp1 Q1 (tyL (tyL tx [48 + dd, 48, 114, 45]) [57, 57, 57, 114, 43, 32, 48, 114, 43]) 9 ps5) (some (.int (-108)))) (m7 : zM E yX5_undo wsX5_undo 5 [.ref x0] (WAd E x0 h0 h1 w0 t r S1 o1 kp1 Q1) (WAd E x0 h0 h1 w0 t r S o2 kp2 Q1) (some (.int (nI lf)))) : zM E yL_orders wsL_orders 9 [.ref x0, .int (nI au), .int g, .int h] (WRd E x0 h0 h1 w0 w1 t r S o kp Q tx ln ps) (WRd E x0 h0 h1 w0 w1 t r S o2 kp2 Q1 (tyL (tyL tx [48 + dd, 48, 114, 45]) [57, 57, 57, 114, 43, 32, 48, 114, 43]) 9 ps5) (some (.int (nI 1))) := by
  refine zM.of kL_orders (Nat.le_of_ble_eq_true rfl) rfl [some (.ref x0), some (.int (nI au)), some (.int g), some (.int h), none, none, none, none, none, none, none] rfl (Nat.le_of_ble_eq_true rfl) ?_
  intro X eX C N
  subst eX
  have hb0 : uU S 0 ≤ 12 := gg_u hG 0
  have hb1 : uU S 1 ≤ 8 := gg_u1 hG
  have hb2 : mK S ≤ 60 := gg_M hG
  have hb3 : uU S1 0 ≤ 12 := gg_u hG1 0
  have hb4 : uU S1 1 ≤ 8 := gg_u1 hG1
  have hb5 : mK S1 ≤ 60 := gg_M hG1
  refine z_aload_n C 0 dL_orders_0 rfl rfl ?_
  refine z_callV (wn := (WRd X.2.1 x0 h0 h1 w0 w1 t r S o kp Q (tyL tx []) 0 ps)) C kX5_clearText gL_orders_X5_clearText (l_clr X.2.1 x0 (t 0) h0 w0 w1 tx ln ps hln) dL_orders_1 [0, 51, 52] [] 0 rfl rfl nd_0_51_52 rfl rfl rfl (by decide) (by decide) (Nat.le_of_ble_eq_true rfl) rfl ((zput_par nd_0_51_52 rfl).trans rfl) ?_
  refine z_pop C dL_orders_4 rfl ?_
  refine z_aload_n C 0 dL_orders_5 rfl rfl ?_
  refine z_iload_n C 1 dL_orders_6 rfl rfl ?_
  refine z_callV (wn := (WRd X.2.1 x0 h0 h1 w0 w1 t r S o kp Q (tyL tx []) 0 ps1)) C kX5_run gL_orders_X5_run m1 dL_orders_7 [0, 1, 2, 3, 4, 5, 6, 7, 8, 9, 10, 11, 12, 13, 14, 15, 16, 17, 18, 19, 20, 21, 22, 23, 24, 25, 26, 27, 28, 29, 30, 31, 32, 33, 34, 35, 36, 37, 38, 39, 40, 41, 42, 43, 44, 45, 46, 47, 48, 49, 50, 51, 52] [] 0 rfl rfl nd_0_1_2_3_4_5_6_7_8_9_10_11_12_13_14_15_16_17_18_19_20_21_22_23_24_25_26_27_28_29_30_31_32_33_34_35_36_37_38_39_40_41_42_43_44_45_46_47_48_49_50_51_52 rfl rfl rfl (by decide) (by decide) (Nat.le_of_ble_eq_true rfl) rfl ((zput_par nd_0_1_2_3_4_5_6_7_8_9_10_11_12_13_14_15_16_17_18_19_20_21_22_23_24_25_26_27_28_29_30_31_32_33_34_35_36_37_38_39_40_41_42_43_44_45_46_47_48_49_50_51_52 rfl).trans rfl) ?_
  refine z_bipush C (-100) dL_orders_10 (by decide) ?_
  refine z_icmp_ne_f C 24 dL_orders_12 (by decide) rfl ?_
  refine z_aload_n C 0 dL_orders_15 rfl rfl ?_
  refine z_iconst C (nI 4) dL_orders_16 (by decide) ?_
  refine z_callV (wn := (WRd X.2.1 x0 h0 h1 w0 w1 t r S o kp Q (tyL tx []) 0 ps1)) C kX5_run gL_orders_X5_run m2 dL_orders_17 [0, 1, 2, 3, 4, 5, 6, 7, 8, 9, 10, 11, 12, 13, 14, 15, 16, 17, 18, 19, 20, 21, 22, 23, 24, 25, 26, 27, 28, 29, 30, 31, 32, 33, 34, 35, 36, 37, 38, 39, 40, 41, 42, 43, 44, 45, 46, 47, 48, 49, 50, 51, 52] [] 0 rfl rfl nd_0_1_2_3_4_5_6_7_8_9_10_11_12_13_14_15_16_17_18_19_20_21_22_23_24_25_26_27_28_29_30_31_32_33_34_35_36_37_38_39_40_41_42_43_44_45_46_47_48_49_50_51_52 rfl rfl rfl (by decide) (by decide) (Nat.le_of_ble_eq_true rfl) rfl ((zput_par nd_0_1_2_3_4_5_6_7_8_9_10_11_12_13_14_15_16_17_18_19_20_21_22_23_24_25_26_27_28_29_30_31_32_33_34_35_36_37_38_39_40_41_42_43_44_45_46_47_48_49_50_51_52 rfl).trans rfl) ?_
  refine z_iconst C (-1) dL_orders_20 (by decide) ?_
  refine z_icmp_eq_t C 26 dL_orders_21 (by decide) rfl ?_
  refine z_iload_n C 2 dL_orders_26 rfl rfl ?_
  refine z_iconst C (nI 1) dL_orders_27 (by decide) ?_
  refine z_iand C dL_orders_28 ?_
  refine z_top (y := nI 0) (hg1) ?_
  refine z_istore C dL_orders_29 (Nat.le_of_ble_eq_true rfl) ?_
  refine z_lv (lv' := [some (.ref x0), some (.int (nI au)), some (.int g), some (.int h), some (.int (nI 0)), none, none, none, none, none, none]) rfl ?_
  refine z_aload_n C 0 dL_orders_31 rfl rfl ?_
  refine z_iconst C (nI 0) dL_orders_32 (by decide) ?_
  refine z_iload C dL_orders_33 rfl ?_
  refine z_callVr C kX5_size gL_orders_X5_size (l_size0 X.2.1 x0 h0 w0 t S 0 hG (by decide)) dL_orders_35 [0, 1, 2, 3, 4, 5, 6, 7, 8] [] 0 rfl nd_0_1_2_3_4_5_6_7_8 rfl rfl rfl (by decide) (by decide) (Nat.le_of_ble_eq_true rfl) rfl ?_
  refine z_istore C dL_orders_38 (Nat.le_of_ble_eq_true rfl) ?_
  refine z_lv (lv' := [some (.ref x0), some (.int (nI au)), some (.int g), some (.int h), some (.int (nI 0)), some (.int (nI (uU S 0))), none, none, none, none, none]) rfl ?_
  refine z_aload_n C 0 dL_orders_40 rfl rfl ?_
  refine z_iconst C (nI 0) dL_orders_41 (by decide) ?_
  refine z_callVr C kX5_count gL_orders_X5_count (l_cnt0 X.2.1 x0 h0 h1 w0 w1 t S o kp 0 ps1  hG ) dL_orders_42 [0, 1, 2, 3, 4, 5, 6, 7, 8, 9, 51] [] 0 rfl nd_0_1_2_3_4_5_6_7_8_9_51 rfl rfl rfl (by decide) (by decide) (Nat.le_of_ble_eq_true rfl) rfl ?_
  refine z_istore C dL_orders_45 (Nat.le_of_ble_eq_true rfl) ?_
  refine z_lv (lv' := [some (.ref x0), some (.int (nI au)), some (.int g), some (.int h), some (.int (nI 0)), some (.int (nI (uU S 0))), some (.int (nI (mK S))), none, none, none, none]) rfl ?_
  refine z_aload_n C 0 dL_orders_47 rfl rfl ?_
  refine z_iconst C (nI 5) dL_orders_48 (by decide) ?_
  refine z_callVr C kX5_count gL_orders_X5_count (l_cnt5y X.2.1 x0 h0 h1 w0 w1 t S o kp 0 ps1  hG ht) dL_orders_49 [0, 1, 2, 3, 4, 5, 6, 7, 8, 9, 51] [] 0 rfl nd_0_1_2_3_4_5_6_7_8_9_51 rfl rfl rfl (by decide) (by decide) (Nat.le_of_ble_eq_true rfl) rfl ?_
  refine z_iconst C (nI 1) dL_orders_52 (by decide) ?_
  refine z_ncmp_ne_f C 60 dL_orders_53 (by decide) (by omega) (by omega) (by omega) ?_
  refine z_iconst C (nI 1) dL_orders_56 (by decide) ?_
  refine z_goto C 61 dL_orders_57 (by decide) ?_
  refine z_istore C dL_orders_61 (Nat.le_of_ble_eq_true rfl) ?_
  refine z_lv (lv' := [some (.ref x0), some (.int (nI au)), some (.int g), some (.int h), some (.int (nI 0)), some (.int (nI (uU S 0))), some (.int (nI (mK S))), some (.int (nI 1)), none, none, none]) rfl ?_
  refine z_aload_n C 0 dL_orders_63 rfl rfl ?_
  refine z_iload_n C 2 dL_orders_64 rfl rfl ?_
  refine z_iconst C (nI 2) dL_orders_65 (by decide) ?_
  refine z_iand C dL_orders_66 ?_
  refine z_if_ne_t C 75 dL_orders_67 (by decide) hg2 ?_
  refine z_bipush C (nI 45) dL_orders_75 (by decide) ?_
  refine z_callV (wn := (WRd X.2.1 x0 h0 h1 w0 w1 t r S o kp Q (tyL tx [45]) 1 ps1)) C kX5_type gL_orders_X5_type (l_typ X.2.1 x0 (t 0) h0 w0 w1 tx [] ps1 45 0 rfl (by decide) htx (fun c hc9 => absurd hc9 List.not_mem_nil) (by omega)) dL_orders_77 [0, 51, 52] [] 0 rfl rfl nd_0_51_52 rfl rfl rfl (by decide) (by decide) (Nat.le_of_ble_eq_true rfl) rfl ((zput_par nd_0_51_52 rfl).trans rfl) ?_
  refine z_top (y := nI 1) rfl ?_
  refine z_istore C dL_orders_80 (Nat.le_of_ble_eq_true rfl) ?_
  refine z_lv (lv' := [some (.ref x0), some (.int (nI au)), some (.int g), some (.int h), some (.int (nI 0)), some (.int (nI (uU S 0))), some (.int (nI (mK S))), some (.int (nI 1)), some (.int (nI 1)), none, none]) rfl ?_
  refine z_aload_n C 0 dL_orders_82 rfl rfl ?_
  refine z_iload_n C 1 dL_orders_83 rfl rfl ?_
  refine z_callV (wn := (WRd X.2.1 x0 h0 h1 w0 w1 t r S o kp Q (tyL tx [45]) 1 ps2)) C kX5_run gL_orders_X5_run m3 dL_orders_84 [0, 1, 2, 3, 4, 5, 6, 7, 8, 9, 10, 11, 12, 13, 14, 15, 16, 17, 18, 19, 20, 21, 22, 23, 24, 25, 26, 27, 28, 29, 30, 31, 32, 33, 34, 35, 36, 37, 38, 39, 40, 41, 42, 43, 44, 45, 46, 47, 48, 49, 50, 51, 52] [] 0 rfl rfl nd_0_1_2_3_4_5_6_7_8_9_10_11_12_13_14_15_16_17_18_19_20_21_22_23_24_25_26_27_28_29_30_31_32_33_34_35_36_37_38_39_40_41_42_43_44_45_46_47_48_49_50_51_52 rfl rfl rfl (by decide) (by decide) (Nat.le_of_ble_eq_true rfl) rfl ((zput_par nd_0_1_2_3_4_5_6_7_8_9_10_11_12_13_14_15_16_17_18_19_20_21_22_23_24_25_26_27_28_29_30_31_32_33_34_35_36_37_38_39_40_41_42_43_44_45_46_47_48_49_50_51_52 rfl).trans rfl) ?_
  refine z_bipush C (-100) dL_orders_87 (by decide) ?_
  refine z_iload C dL_orders_89 rfl ?_
  refine z_isub C dL_orders_91 ?_
  refine z_top (y := (-101)) (by decide) ?_
  refine z_icmp_ne_f C 99 dL_orders_92 (by decide) rfl ?_
  refine z_iconst C (nI 1) dL_orders_95 (by decide) ?_
  refine z_goto C 100 dL_orders_96 (by decide) ?_
  refine z_istore C dL_orders_100 (Nat.le_of_ble_eq_true rfl) ?_
  refine z_lv (lv' := [some (.ref x0), some (.int (nI au)), some (.int g), some (.int h), some (.int (nI 0)), some (.int (nI (uU S 0))), some (.int (nI (mK S))), some (.int (nI 1)), some (.int (nI 1)), some (.int (nI 1)), none]) rfl ?_
  refine z_aload_n C 0 dL_orders_102 rfl rfl ?_
  refine z_iload C dL_orders_103 rfl ?_
  refine z_nif_ne_f C 113 dL_orders_105 (by decide) (by omega) (by omega) ?_
  refine z_bipush C (nI 114) dL_orders_108 (by decide) ?_
  refine z_goto C 115 dL_orders_110 (by decide) ?_
  refine z_callV (wn := (WRd X.2.1 x0 h0 h1 w0 w1 t r S o kp Q (tyL tx [114, 45]) 2 ps2)) C kX5_type gL_orders_X5_type (l_typ X.2.1 x0 (t 0) h0 w0 w1 tx [45] ps2 114 1 rfl (by decide) htx (by intro c hc9; simp at hc9; omega) (by omega)) dL_orders_115 [0, 51, 52] [] 0 rfl rfl nd_0_51_52 rfl rfl rfl (by decide) (by decide) (Nat.le_of_ble_eq_true rfl) rfl ((zput_par nd_0_51_52 rfl).trans rfl) ?_
  refine z_top (y := nI 2) rfl ?_
  refine z_pop C dL_orders_118 rfl ?_
  refine z_aload_n C 0 dL_orders_119 rfl rfl ?_
  refine z_bipush C (nI 48) dL_orders_120 (by decide) ?_
  refine z_callV (wn := (WRd X.2.1 x0 h0 h1 w0 w1 t r S o kp Q (tyL tx [48, 114, 45]) 3 ps2)) C kX5_type gL_orders_X5_type (l_typ X.2.1 x0 (t 0) h0 w0 w1 tx [114, 45] ps2 48 2 rfl (by decide) htx (by intro c hc9; simp at hc9; omega) (by omega)) dL_orders_122 [0, 51, 52] [] 0 rfl rfl nd_0_51_52 rfl rfl rfl (by decide) (by decide) (Nat.le_of_ble_eq_true rfl) rfl ((zput_par nd_0_51_52 rfl).trans rfl) ?_
  refine z_top (y := nI 3) rfl ?_
  refine z_pop C dL_orders_125 rfl ?_
  refine z_aload_n C 0 dL_orders_126 rfl rfl ?_
  refine z_bipush C (nI 48) dL_orders_127 (by decide) ?_
  refine z_iload_n C 3 dL_orders_129 rfl rfl ?_
  refine z_bipush C (nI 10) dL_orders_130 (by decide) ?_
  refine z_callS C kL_low gL_orders_L_low (l_low X.2.1 h 10 (by decide) (by decide)) dL_orders_132 [.int (nI 48), .ref x0] rfl (by decide) (by decide) (Nat.le_of_ble_eq_true rfl) rfl ?_
  refine z_top (y := nI dd) (congrArg nI hd) ?_
  refine z_iadd C dL_orders_135 ?_
  refine z_top (y := nI (48 + dd)) (nI_add _ _) ?_
  refine z_i2c C (nI (48 + dd)) dL_orders_136 (chr_n (by omega)) ?_
  refine z_callV (wn := (WRd X.2.1 x0 h0 h1 w0 w1 t r S o kp Q (tyL tx [48 + dd, 48, 114, 45]) 4 ps2)) C kX5_type gL_orders_X5_type (l_typ X.2.1 x0 (t 0) h0 w0 w1 tx [48, 114, 45] ps2 (48 + dd) 3 rfl (by decide) htx (by intro c hc9; simp at hc9; omega) (by omega)) dL_orders_137 [0, 51, 52] [] 0 rfl rfl nd_0_51_52 rfl rfl rfl (by decide) (by decide) (Nat.le_of_ble_eq_true rfl) rfl ((zput_par nd_0_51_52 rfl).trans rfl) ?_
  refine z_top (y := nI 4) rfl ?_
  refine z_istore C dL_orders_140 (Nat.le_of_ble_eq_true rfl) ?_
  refine z_lv (lv' := [some (.ref x0), some (.int (nI au)), some (.int g), some (.int h), some (.int (nI 0)), some (.int (nI (uU S 0))), some (.int (nI (mK S))), some (.int (nI 1)), some (.int (nI 4)), some (.int (nI 1)), none]) rfl ?_
  refine z_iload C dL_orders_142 rfl ?_
  refine z_nif_eq_f C 160 dL_orders_144 (by decide) (by omega) (by omega) ?_
  refine z_aload_n C 0 dL_orders_147 rfl rfl ?_
  refine z_iload_n C 1 dL_orders_148 rfl rfl ?_
  refine z_callV (wn := (WRd X.2.1 x0 h0 h1 w0 w1 t r S o kp Q (tyL tx [48 + dd, 48, 114, 45]) 4 ps3)) C kX5_run gL_orders_X5_run m4 dL_orders_149 [0, 1, 2, 3, 4, 5, 6, 7, 8, 9, 10, 11, 12, 13, 14, 15, 16, 17, 18, 19, 20, 21, 22, 23, 24, 25, 26, 27, 28, 29, 30, 31, 32, 33, 34, 35, 36, 37, 38, 39, 40, 41, 42, 43, 44, 45, 46, 47, 48, 49, 50, 51, 52] [] 0 rfl rfl nd_0_1_2_3_4_5_6_7_8_9_10_11_12_13_14_15_16_17_18_19_20_21_22_23_24_25_26_27_28_29_30_31_32_33_34_35_36_37_38_39_40_41_42_43_44_45_46_47_48_49_50_51_52 rfl rfl rfl (by decide) (by decide) (Nat.le_of_ble_eq_true rfl) rfl ((zput_par nd_0_1_2_3_4_5_6_7_8_9_10_11_12_13_14_15_16_17_18_19_20_21_22_23_24_25_26_27_28_29_30_31_32_33_34_35_36_37_38_39_40_41_42_43_44_45_46_47_48_49_50_51_52 rfl).trans rfl) ?_
  refine z_bipush C (-99) dL_orders_152 (by decide) ?_
  refine z_iload C dL_orders_154 rfl ?_
  refine z_isub C dL_orders_156 ?_
  refine z_top (y := (-103)) (by decide) ?_
  refine z_icmp_eq_t C 162 dL_orders_157 (by decide) rfl ?_
  refine z_aload_n C 0 dL_orders_162 rfl rfl ?_
  have htx2 : ∀ j, tyL tx [48 + dd, 48, 114, 45] j < 65536 := tyL_b htx (by intro c hc9; simp at hc9; omega)
  refine z_callV (wn := (WRd X.2.1 x0 h0 h1 w0 w1 t r S o kp Q (tyL (tyL tx [48 + dd, 48, 114, 45]) []) 0 ps3)) C kX5_clearText gL_orders_X5_clearText (l_clr X.2.1 x0 (t 0) h0 w0 w1 (tyL tx [48 + dd, 48, 114, 45]) 4 ps3 (by decide)) dL_orders_163 [0, 51, 52] [] 0 rfl rfl nd_0_51_52 rfl rfl rfl (by decide) (by decide) (Nat.le_of_ble_eq_true rfl) rfl ((zput_par nd_0_51_52 rfl).trans rfl) ?_
  refine z_pop C dL_orders_166 rfl ?_
  refine z_aload_n C 0 dL_orders_167 rfl rfl ?_
  refine z_bipush C (nI 43) dL_orders_168 (by decide) ?_
  refine z_callV (wn := (WRd X.2.1 x0 h0 h1 w0 w1 t r S o kp Q (tyL (tyL tx [48 + dd, 48, 114, 45]) [43]) 1 ps3)) C kX5_type gL_orders_X5_type (l_typ X.2.1 x0 (t 0) h0 w0 w1 (tyL tx [48 + dd, 48, 114, 45]) [] ps3 43 0 rfl (by decide) htx2 (fun c hc9 => absurd hc9 List.not_mem_nil) (by omega)) dL_orders_170 [0, 51, 52] [] 0 rfl rfl nd_0_51_52 rfl rfl rfl (by decide) (by decide) (Nat.le_of_ble_eq_true rfl) rfl ((zput_par nd_0_51_52 rfl).trans rfl) ?_
  refine z_top (y := nI 1) rfl ?_
  refine z_pop C dL_orders_173 rfl ?_
  refine z_aload_n C 0 dL_orders_174 rfl rfl ?_
  refine z_iload C dL_orders_175 rfl ?_
  refine z_nif_ne_f C 185 dL_orders_177 (by decide) (by omega) (by omega) ?_
  refine z_bipush C (nI 114) dL_orders_180 (by decide) ?_
  refine z_goto C 187 dL_orders_182 (by decide) ?_
  refine z_callV (wn := (WRd X.2.1 x0 h0 h1 w0 w1 t r S o kp Q (tyL (tyL tx [48 + dd, 48, 114, 45]) [114, 43]) 2 ps3)) C kX5_type gL_orders_X5_type (l_typ X.2.1 x0 (t 0) h0 w0 w1 (tyL tx [48 + dd, 48, 114, 45]) [43] ps3 114 1 rfl (by decide) htx2 (by intro c hc9; simp at hc9; omega) (by omega)) dL_orders_187 [0, 51, 52] [] 0 rfl rfl nd_0_51_52 rfl rfl rfl (by decide) (by decide) (Nat.le_of_ble_eq_true rfl) rfl ((zput_par nd_0_51_52 rfl).trans rfl) ?_
  refine z_top (y := nI 2) rfl ?_
  refine z_pop C dL_orders_190 rfl ?_
  refine z_aload_n C 0 dL_orders_191 rfl rfl ?_
  refine z_bipush C (nI 48) dL_orders_192 (by decide) ?_
  refine z_callV (wn := (WRd X.2.1 x0 h0 h1 w0 w1 t r S o kp Q (tyL (tyL tx [48 + dd, 48, 114, 45]) [48, 114, 43]) 3 ps3)) C kX5_type gL_orders_X5_type (l_typ X.2.1 x0 (t 0) h0 w0 w1 (tyL tx [48 + dd, 48, 114, 45]) [114, 43] ps3 48 2 rfl (by decide) htx2 (by intro c hc9; simp at hc9; omega) (by omega)) dL_orders_194 [0, 51, 52] [] 0 rfl rfl nd_0_51_52 rfl rfl rfl (by decide) (by decide) (Nat.le_of_ble_eq_true rfl) rfl ((zput_par nd_0_51_52 rfl).trans rfl) ?_
  refine z_top (y := nI 3) rfl ?_
  refine z_pop C dL_orders_197 rfl ?_
  refine z_aload_n C 0 dL_orders_198 rfl rfl ?_
  refine z_bipush C (nI 32) dL_orders_199 (by decide) ?_
  refine z_callV (wn := (WRd X.2.1 x0 h0 h1 w0 w1 t r S o kp Q (tyL (tyL tx [48 + dd, 48, 114, 45]) [32, 48, 114, 43]) 4 ps3)) C kX5_type gL_orders_X5_type (l_typ X.2.1 x0 (t 0) h0 w0 w1 (tyL tx [48 + dd, 48, 114, 45]) [48, 114, 43] ps3 32 3 rfl (by decide) htx2 (by intro c hc9; simp at hc9; omega) (by omega)) dL_orders_201 [0, 51, 52] [] 0 rfl rfl nd_0_51_52 rfl rfl rfl (by decide) (by decide) (Nat.le_of_ble_eq_true rfl) rfl ((zput_par nd_0_51_52 rfl).trans rfl) ?_
  refine z_top (y := nI 4) rfl ?_
  refine z_pop C dL_orders_204 rfl ?_
  refine z_aload_n C 0 dL_orders_205 rfl rfl ?_
  refine z_bipush C (nI 43) dL_orders_206 (by decide) ?_
  refine z_callV (wn := (WRd X.2.1 x0 h0 h1 w0 w1 t r S o kp Q (tyL (tyL tx [48 + dd, 48, 114, 45]) [43, 32, 48, 114, 43]) 5 ps3)) C kX5_type gL_orders_X5_type (l_typ X.2.1 x0 (t 0) h0 w0 w1 (tyL tx [48 + dd, 48, 114, 45]) [32, 48, 114, 43] ps3 43 4 rfl (by decide) htx2 (by intro c hc9; simp at hc9; omega) (by omega)) dL_orders_208 [0, 51, 52] [] 0 rfl rfl nd_0_51_52 rfl rfl rfl (by decide) (by decide) (Nat.le_of_ble_eq_true rfl) rfl ((zput_par nd_0_51_52 rfl).trans rfl) ?_
  refine z_top (y := nI 5) rfl ?_
  refine z_pop C dL_orders_211 rfl ?_
  refine z_aload_n C 0 dL_orders_212 rfl rfl ?_
  refine z_iload C dL_orders_213 rfl ?_
  refine z_nif_ne_f C 223 dL_orders_215 (by decide) (by omega) (by omega) ?_
  refine z_bipush C (nI 114) dL_orders_218 (by decide) ?_
  refine z_goto C 225 dL_orders_220 (by decide) ?_
  refine z_callV (wn := (WRd X.2.1 x0 h0 h1 w0 w1 t r S o kp Q (tyL (tyL tx [48 + dd, 48, 114, 45]) [114, 43, 32, 48, 114, 43]) 6 ps3)) C kX5_type gL_orders_X5_type (l_typ X.2.1 x0 (t 0) h0 w0 w1 (tyL tx [48 + dd, 48, 114, 45]) [43, 32, 48, 114, 43] ps3 114 5 rfl (by decide) htx2 (by intro c hc9; simp at hc9; omega) (by omega)) dL_orders_225 [0, 51, 52] [] 0 rfl rfl nd_0_51_52 rfl rfl rfl (by decide) (by decide) (Nat.le_of_ble_eq_true rfl) rfl ((zput_par nd_0_51_52 rfl).trans rfl) ?_
  refine z_top (y := nI 6) rfl ?_
  refine z_pop C dL_orders_228 rfl ?_
  refine z_aload_n C 0 dL_orders_229 rfl rfl ?_
  refine z_bipush C (nI 57) dL_orders_230 (by decide) ?_
  refine z_callV (wn := (WRd X.2.1 x0 h0 h1 w0 w1 t r S o kp Q (tyL (tyL tx [48 + dd, 48, 114, 45]) [57, 114, 43, 32, 48, 114, 43]) 7 ps3)) C kX5_type gL_orders_X5_type (l_typ X.2.1 x0 (t 0) h0 w0 w1 (tyL tx [48 + dd, 48, 114, 45]) [114, 43, 32, 48, 114, 43] ps3 57 6 rfl (by decide) htx2 (by intro c hc9; simp at hc9; omega) (by omega)) dL_orders_232 [0, 51, 52] [] 0 rfl rfl nd_0_51_52 rfl rfl rfl (by decide) (by decide) (Nat.le_of_ble_eq_true rfl) rfl ((zput_par nd_0_51_52 rfl).trans rfl) ?_
  refine z_top (y := nI 7) rfl ?_
  refine z_pop C dL_orders_235 rfl ?_
  refine z_aload_n C 0 dL_orders_236 rfl rfl ?_
  refine z_bipush C (nI 57) dL_orders_237 (by decide) ?_
  refine z_callV (wn := (WRd X.2.1 x0 h0 h1 w0 w1 t r S o kp Q (tyL (tyL tx [48 + dd, 48, 114, 45]) [57, 57, 114, 43, 32, 48, 114, 43]) 8 ps3)) C kX5_type gL_orders_X5_type (l_typ X.2.1 x0 (t 0) h0 w0 w1 (tyL tx [48 + dd, 48, 114, 45]) [57, 114, 43, 32, 48, 114, 43] ps3 57 7 rfl (by decide) htx2 (by intro c hc9; simp at hc9; omega) (by omega)) dL_orders_239 [0, 51, 52] [] 0 rfl rfl nd_0_51_52 rfl rfl rfl (by decide) (by decide) (Nat.le_of_ble_eq_true rfl) rfl ((zput_par nd_0_51_52 rfl).trans rfl) ?_
  refine z_top (y := nI 8) rfl ?_
  refine z_istore C dL_orders_242 (Nat.le_of_ble_eq_true rfl) ?_
  refine z_lv (lv' := [some (.ref x0), some (.int (nI au)), some (.int g), some (.int h), some (.int (nI 0)), some (.int (nI (uU S 0))), some (.int (nI (mK S))), some (.int (nI 1)), some (.int (nI 8)), some (.int (nI 1)), none]) rfl ?_
  refine z_iload C dL_orders_244 rfl ?_
  refine z_iload C dL_orders_246 rfl ?_
  refine z_nif_ne_f C 256 dL_orders_248 (by decide) (by omega) (by omega) ?_
  refine z_bipush C (nI 12) dL_orders_251 (by decide) ?_
  refine z_goto C 258 dL_orders_253 (by decide) ?_
  refine z_ncmp_eq_f C 273 dL_orders_258 (by decide) (by omega) (by omega) (by omega) ?_
  refine z_iload C dL_orders_261 rfl ?_
  refine z_nif_eq_f C 277 dL_orders_263 (by decide) (by omega) (by omega) ?_
  refine z_iload C dL_orders_266 rfl ?_
  refine z_bipush C (nI 60) dL_orders_268 (by decide) ?_
  refine z_ncmp_ne_t C 277 dL_orders_270 (by decide) (by omega) (by omega) (by omega) ?_
  refine z_iconst C (nI 1) dL_orders_277 (by decide) ?_
  refine z_istore C dL_orders_278 (Nat.le_of_ble_eq_true rfl) ?_
  refine z_lv (lv' := [some (.ref x0), some (.int (nI au)), some (.int g), some (.int h), some (.int (nI 0)), some (.int (nI (uU S 0))), some (.int (nI (mK S))), some (.int (nI 1)), some (.int (nI 8)), some (.int (nI 1)), some (.int (nI 1))]) rfl ?_
  refine z_aload_n C 0 dL_orders_280 rfl rfl ?_
  refine z_iload_n C 1 dL_orders_281 rfl rfl ?_
  refine z_callV (wn := (WRd X.2.1 x0 h0 h1 w0 w1 t r S1 o1 kp1 Q1 (tyL (tyL tx [48 + dd, 48, 114, 45]) [57, 57, 114, 43, 32, 48, 114, 43]) 8 ps4)) C kX5_run gL_orders_X5_run m5 dL_orders_282 [0, 1, 2, 3, 4, 5, 6, 7, 8, 9, 10, 11, 12, 13, 14, 15, 16, 17, 18, 19, 20, 21, 22, 23, 24, 25, 26, 27, 28, 29, 30, 31, 32, 33, 34, 35, 36, 37, 38, 39, 40, 41, 42, 43, 44, 45, 46, 47, 48, 49, 50, 51, 52] [] 0 rfl rfl nd_0_1_2_3_4_5_6_7_8_9_10_11_12_13_14_15_16_17_18_19_20_21_22_23_24_25_26_27_28_29_30_31_32_33_34_35_36_37_38_39_40_41_42_43_44_45_46_47_48_49_50_51_52 rfl rfl rfl (by decide) (by decide) (Nat.le_of_ble_eq_true rfl) rfl ((zput_par nd_0_1_2_3_4_5_6_7_8_9_10_11_12_13_14_15_16_17_18_19_20_21_22_23_24_25_26_27_28_29_30_31_32_33_34_35_36_37_38_39_40_41_42_43_44_45_46_47_48_49_50_51_52 rfl).trans rfl) ?_
  refine z_iload C dL_orders_285 rfl ?_
  refine z_ncmp_ne_f C 305 dL_orders_287 (by decide) (by omega) (by omega) (by omega) ?_
  refine z_aload_n C 0 dL_orders_290 rfl rfl ?_
  refine z_iconst C (nI 0) dL_orders_291 (by decide) ?_
  refine z_iload C dL_orders_292 rfl ?_
  refine z_callVr C kX5_size gL_orders_X5_size (l_size0 X.2.1 x0 h0 w0 t S1 0 hG1 (by decide)) dL_orders_294 [0, 1, 2, 3, 4, 5, 6, 7, 8] [] 0 rfl nd_0_1_2_3_4_5_6_7_8 rfl rfl rfl (by decide) (by decide) (Nat.le_of_ble_eq_true rfl) rfl ?_
  refine z_iload C dL_orders_297 rfl ?_
  refine z_iload C dL_orders_299 rfl ?_
  refine z_iadd C dL_orders_301 ?_
  refine z_top (y := nI ((uU S 0) + 1)) (nI_add _ _) ?_
  refine z_ncmp_eq_t C 307 dL_orders_302 (by decide) (by omega) (by omega) (by omega) ?_
  refine z_aload_n C 0 dL_orders_307 rfl rfl ?_
  refine z_bipush C (nI 57) dL_orders_308 (by decide) ?_
  refine z_callV (wn := (WRd X.2.1 x0 h0 h1 w0 w1 t r S1 o1 kp1 Q1 (tyL (tyL tx [48 + dd, 48, 114, 45]) [57, 57, 57, 114, 43, 32, 48, 114, 43]) 9 ps4)) C kX5_type gL_orders_X5_type (l_typ X.2.1 x0 (t 0) h0 w0 w1 (tyL tx [48 + dd, 48, 114, 45]) [57, 57, 114, 43, 32, 48, 114, 43] ps4 57 8 rfl (by decide) htx2 (by intro c hc9; simp at hc9; omega) (by omega)) dL_orders_310 [0, 51, 52] [] 0 rfl rfl nd_0_51_52 rfl rfl rfl (by decide) (by decide) (Nat.le_of_ble_eq_true rfl) rfl ((zput_par nd_0_51_52 rfl).trans rfl) ?_
  refine z_top (y := nI 9) rfl ?_
  refine z_pop C dL_orders_313 rfl ?_
  refine z_aload_n C 0 dL_orders_314 rfl rfl ?_
  refine z_iload_n C 1 dL_orders_315 rfl rfl ?_
  refine z_callV (wn := (WRd X.2.1 x0 h0 h1 w0 w1 t r S1 o1 kp1 Q1 (tyL (tyL tx [48 + dd, 48, 114, 45]) [57, 57, 57, 114, 43, 32, 48, 114, 43]) 9 ps5)) C kX5_run gL_orders_X5_run m6 dL_orders_316 [0, 1, 2, 3, 4, 5, 6, 7, 8, 9, 10, 11, 12, 13, 14, 15, 16, 17, 18, 19, 20, 21, 22, 23, 24, 25, 26, 27, 28, 29, 30, 31, 32, 33, 34, 35, 36, 37, 38, 39, 40, 41, 42, 43, 44, 45, 46, 47, 48, 49, 50, 51, 52] [] 0 rfl rfl nd_0_1_2_3_4_5_6_7_8_9_10_11_12_13_14_15_16_17_18_19_20_21_22_23_24_25_26_27_28_29_30_31_32_33_34_35_36_37_38_39_40_41_42_43_44_45_46_47_48_49_50_51_52 rfl rfl rfl (by decide) (by decide) (Nat.le_of_ble_eq_true rfl) rfl ((zput_par nd_0_1_2_3_4_5_6_7_8_9_10_11_12_13_14_15_16_17_18_19_20_21_22_23_24_25_26_27_28_29_30_31_32_33_34_35_36_37_38_39_40_41_42_43_44_45_46_47_48_49_50_51_52 rfl).trans rfl) ?_
  refine z_bipush C (-100) dL_orders_319 (by decide) ?_
  refine z_iload C dL_orders_321 rfl ?_
  refine z_isub C dL_orders_323 ?_
  refine z_top (y := (-108)) (by decide) ?_
  refine z_icmp_ne_f C 360 dL_orders_324 (by decide) rfl ?_
  refine z_aload_n C 0 dL_orders_327 rfl rfl ?_
  refine z_callV (wn := (WRd X.2.1 x0 h0 h1 w0 w1 t r S o2 kp2 Q1 (tyL (tyL tx [48 + dd, 48, 114, 45]) [57, 57, 57, 114, 43, 32, 48, 114, 43]) 9 ps5)) C kX5_undo gL_orders_X5_undo m7 dL_orders_328 [0, 1, 2, 3, 4, 5, 6, 7, 8, 9, 10, 11, 12, 13, 14, 15, 16, 17, 18, 19, 20, 21, 22, 23, 24, 25, 26, 27, 28, 29, 30, 31, 32, 33, 34, 35, 36, 37, 38, 39, 40, 41, 42, 43, 44, 45, 46, 47, 48, 49, 50] [] 0 rfl rfl nd_0_1_2_3_4_5_6_7_8_9_10_11_12_13_14_15_16_17_18_19_20_21_22_23_24_25_26_27_28_29_30_31_32_33_34_35_36_37_38_39_40_41_42_43_44_45_46_47_48_49_50 rfl rfl rfl (by decide) (by decide) (Nat.le_of_ble_eq_true rfl) rfl ((zput_par nd_0_1_2_3_4_5_6_7_8_9_10_11_12_13_14_15_16_17_18_19_20_21_22_23_24_25_26_27_28_29_30_31_32_33_34_35_36_37_38_39_40_41_42_43_44_45_46_47_48_49_50 rfl).trans rfl) ?_
  refine z_nif_lt_f C 360 dL_orders_331 (by decide) (by omega) (by trivial) ?_
  refine z_aload_n C 0 dL_orders_334 rfl rfl ?_
  refine z_iconst C (nI 0) dL_orders_335 (by decide) ?_
  refine z_iload C dL_orders_336 rfl ?_
  refine z_callVr C kX5_size gL_orders_X5_size (l_size0 X.2.1 x0 h0 w0 t S 0 hG (by decide)) dL_orders_338 [0, 1, 2, 3, 4, 5, 6, 7, 8] [] 0 rfl nd_0_1_2_3_4_5_6_7_8 rfl rfl rfl (by decide) (by decide) (Nat.le_of_ble_eq_true rfl) rfl ?_
  refine z_iload C dL_orders_341 rfl ?_
  refine z_ncmp_ne_f C 360 dL_orders_343 (by decide) (by omega) (by omega) (by omega) ?_
  refine z_aload_n C 0 dL_orders_346 rfl rfl ?_
  refine z_iconst C (nI 0) dL_orders_347 (by decide) ?_
  refine z_callVr C kX5_count gL_orders_X5_count (l_cnt0 X.2.1 x0 h0 h1 w0 w1 t S o2 kp2 9 ps5  hG ) dL_orders_348 [0, 1, 2, 3, 4, 5, 6, 7, 8, 9, 51] [] 0 rfl nd_0_1_2_3_4_5_6_7_8_9_51 rfl rfl rfl (by decide) (by decide) (Nat.le_of_ble_eq_true rfl) rfl ?_
  refine z_iload C dL_orders_351 rfl ?_
  refine z_ncmp_ne_f C 360 dL_orders_353 (by decide) (by omega) (by omega) (by omega) ?_
  refine z_iconst C (nI 1) dL_orders_356 (by decide) ?_
  refine z_goto C 361 dL_orders_357 (by decide) ?_
  exact z_zret C N dL_orders_361 rfl (rfl) (rfl)

set_option maxHeartbeats 4000000 in
set_option maxRecDepth 100000 in
theorem w_ord01m (E : zE) (x0 h0 h1 w0 w1 : Nat) (t : Nat → Nat) (r : Nat → Nat → Nat) (S S1 : zSt) (o kp o1 o2 kp1 kp2 : Nat) (Q Q1 : Nat → zSt) (tx : Nat → Nat) (ln : Nat) (ps ps1 ps2 ps3 ps4 ps5 : zPs) {B B1 : Nat} (au : Nat) (g h : Int32) (dd lf : Nat) (hG : GG S B) (hG1 : GG S1 B1) (hau : au < 4) (hg1 : g &&& (nI 1) = nI 0) (hg2 : ¬ g &&& (nI 2) = 0) (hd : lw h 10 = dd) (hdd : dd < 10) (hln : ln ≤ 60) (htx : ∀ j, tx j < 65536) (hlf : lf < 100) (hu : uU S1 0 = uU S 0 + 0) (hf : uU S 0 < 12) (ht : tK S = true) (hm : mK S = 60) (m1 : zM E yX5_run wsX5_run 8 [.ref x0, .int (nI au)] (WRd E x0 h0 h1 w0 w1 t r S o kp Q (tyL tx []) 0 ps) (WRd E x0 h0 h1 w0 w1 t r S o kp Q (tyL tx []) 0 ps1) (some (.int (-100)))) (m2 : zM E yX5_run wsX5_run 8 [.ref x0, .int (nI 4)] (WRd E x0 h0 h1 w0 w1 t r S o kp Q (tyL tx []) 0 ps1) (WRd E x0 h0 h1 w0 w1 t r S o kp Q (tyL tx []) 0 ps1) (some (.int (-1)))) (m3 : zM E yX5_run wsX5_run 8 [.ref x0, .int (nI au)] (WRd E x0 h0 h1 w0 w1 t r S o kp Q (tyL tx [45]) 1 ps1) (WRd E x0 h0 h1 w0 w1 t r S o kp Q (tyL tx [45]) 1 ps2) (some (.int (-101)))) (m4 : zM E yX5_run wsX5_run 8 [.ref x0, .int (nI au)] (WRd E x0 h0 h1 w0 w1 t r S o kp Q (tyL tx [48 + dd, 48, 114, 45]) 4 ps2) (WRd E x0 h0 h1 w0 w1 t r S o kp Q (tyL tx [48 + dd, 48, 114, 45]) 4 ps3) (some (.int (-103)))) (m5 : zM E yX5_run wsX5_run 8 [.ref x0, .int (nI au)] (WRd E x0 h0 h1 w0 w1 t r S o kp Q (tyL (tyL tx [48 + dd, 48, 114, 45]) [57, 57, 114, 43, 32, 48, 114, 43]) 8 ps3) (WRd E x0 h0 h1 w0 w1 t r S1 o1 kp1 Q1 (tyL (tyL tx [48 + dd, 48, 114, 45]) [57, 57, 114, 43, 32, 48, 114, 43]) 8 ps4) (some (.int (nI 0)))) (m6 : zM E yX5_run wsX5_run 8 [.ref x0, .int (nI au)] (WRd E x0 h0 h1 w0 w1 t r S1 o1 kp1 Q1 (tyL (tyL tx [48 + dd, 48, 114, 45]) [57, 57, 57, 114, 43, 32, 48, 114, 43]) 9 ps4) (WRd E x0 h0 h1 w0 w1 t r S1 o1 kp1 Q1 (tyL (tyL tx [48 + dd, 48, 114, 45]) [57, 57, 57, 114, 43, 32, 48, 114, 43]) 9 ps5) (some (.int (-108)))) (m7 : zM E yX5_undo wsX5_undo 5 [.ref x0] (WAd E x0 h0 h1 w0 t r S1 o1 kp1 Q1) (WAd E x0 h0 h1 w0 t r S o2 kp2 Q1) (some (.int (nI lf)))) : zM E yL_orders wsL_orders 9 [.ref x0, .int (nI au), .int g, .int h] (WRd E x0 h0 h1 w0 w1 t r S o kp Q tx ln ps) (WRd E x0 h0 h1 w0 w1 t r S o2 kp2 Q1 (tyL (tyL tx [48 + dd, 48, 114, 45]) [57, 57, 57, 114, 43, 32, 48, 114, 43]) 9 ps5) (some (.int (nI 1))) := by
  refine zM.of kL_orders (Nat.le_of_ble_eq_true rfl) rfl [some (.ref x0), some (.int (nI au)), some (.int g), some (.int h), none, none, none, none, none, none, none] rfl (Nat.le_of_ble_eq_true rfl) ?_
  intro X eX C N
  subst eX
  have hb0 : uU S 0 ≤ 12 := gg_u hG 0
  have hb1 : uU S 1 ≤ 8 := gg_u1 hG
  have hb2 : mK S ≤ 60 := gg_M hG
  have hb3 : uU S1 0 ≤ 12 := gg_u hG1 0
  have hb4 : uU S1 1 ≤ 8 := gg_u1 hG1
  have hb5 : mK S1 ≤ 60 := gg_M hG1
  refine z_aload_n C 0 dL_orders_0 rfl rfl ?_
  refine z_callV (wn := (WRd X.2.1 x0 h0 h1 w0 w1 t r S o kp Q (tyL tx []) 0 ps)) C kX5_clearText gL_orders_X5_clearText (l_clr X.2.1 x0 (t 0) h0 w0 w1 tx ln ps hln) dL_orders_1 [0, 51, 52] [] 0 rfl rfl nd_0_51_52 rfl rfl rfl (by decide) (by decide) (Nat.le_of_ble_eq_true rfl) rfl ((zput_par nd_0_51_52 rfl).trans rfl) ?_
  refine z_pop C dL_orders_4 rfl ?_
  refine z_aload_n C 0 dL_orders_5 rfl rfl ?_
  refine z_iload_n C 1 dL_orders_6 rfl rfl ?_
  refine z_callV (wn := (WRd X.2.1 x0 h0 h1 w0 w1 t r S o kp Q (tyL tx []) 0 ps1)) C kX5_run gL_orders_X5_run m1 dL_orders_7 [0, 1, 2, 3, 4, 5, 6, 7, 8, 9, 10, 11, 12, 13, 14, 15, 16, 17, 18, 19, 20, 21, 22, 23, 24, 25, 26, 27, 28, 29, 30, 31, 32, 33, 34, 35, 36, 37, 38, 39, 40, 41, 42, 43, 44, 45, 46, 47, 48, 49, 50, 51, 52] [] 0 rfl rfl nd_0_1_2_3_4_5_6_7_8_9_10_11_12_13_14_15_16_17_18_19_20_21_22_23_24_25_26_27_28_29_30_31_32_33_34_35_36_37_38_39_40_41_42_43_44_45_46_47_48_49_50_51_52 rfl rfl rfl (by decide) (by decide) (Nat.le_of_ble_eq_true rfl) rfl ((zput_par nd_0_1_2_3_4_5_6_7_8_9_10_11_12_13_14_15_16_17_18_19_20_21_22_23_24_25_26_27_28_29_30_31_32_33_34_35_36_37_38_39_40_41_42_43_44_45_46_47_48_49_50_51_52 rfl).trans rfl) ?_
  refine z_bipush C (-100) dL_orders_10 (by decide) ?_
  refine z_icmp_ne_f C 24 dL_orders_12 (by decide) rfl ?_
  refine z_aload_n C 0 dL_orders_15 rfl rfl ?_
  refine z_iconst C (nI 4) dL_orders_16 (by decide) ?_
  refine z_callV (wn := (WRd X.2.1 x0 h0 h1 w0 w1 t r S o kp Q (tyL tx []) 0 ps1)) C kX5_run gL_orders_X5_run m2 dL_orders_17 [0, 1, 2, 3, 4, 5, 6, 7, 8, 9, 10, 11, 12, 13, 14, 15, 16, 17, 18, 19, 20, 21, 22, 23, 24, 25, 26, 27, 28, 29, 30, 31, 32, 33, 34, 35, 36, 37, 38, 39, 40, 41, 42, 43, 44, 45, 46, 47, 48, 49, 50, 51, 52] [] 0 rfl rfl nd_0_1_2_3_4_5_6_7_8_9_10_11_12_13_14_15_16_17_18_19_20_21_22_23_24_25_26_27_28_29_30_31_32_33_34_35_36_37_38_39_40_41_42_43_44_45_46_47_48_49_50_51_52 rfl rfl rfl (by decide) (by decide) (Nat.le_of_ble_eq_true rfl) rfl ((zput_par nd_0_1_2_3_4_5_6_7_8_9_10_11_12_13_14_15_16_17_18_19_20_21_22_23_24_25_26_27_28_29_30_31_32_33_34_35_36_37_38_39_40_41_42_43_44_45_46_47_48_49_50_51_52 rfl).trans rfl) ?_
  refine z_iconst C (-1) dL_orders_20 (by decide) ?_
  refine z_icmp_eq_t C 26 dL_orders_21 (by decide) rfl ?_
  refine z_iload_n C 2 dL_orders_26 rfl rfl ?_
  refine z_iconst C (nI 1) dL_orders_27 (by decide) ?_
  refine z_iand C dL_orders_28 ?_
  refine z_top (y := nI 0) (hg1) ?_
  refine z_istore C dL_orders_29 (Nat.le_of_ble_eq_true rfl) ?_
  refine z_lv (lv' := [some (.ref x0), some (.int (nI au)), some (.int g), some (.int h), some (.int (nI 0)), none, none, none, none, none, none]) rfl ?_
  refine z_aload_n C 0 dL_orders_31 rfl rfl ?_
  refine z_iconst C (nI 0) dL_orders_32 (by decide) ?_
  refine z_iload C dL_orders_33 rfl ?_
  refine z_callVr C kX5_size gL_orders_X5_size (l_size0 X.2.1 x0 h0 w0 t S 0 hG (by decide)) dL_orders_35 [0, 1, 2, 3, 4, 5, 6, 7, 8] [] 0 rfl nd_0_1_2_3_4_5_6_7_8 rfl rfl rfl (by decide) (by decide) (Nat.le_of_ble_eq_true rfl) rfl ?_
  refine z_istore C dL_orders_38 (Nat.le_of_ble_eq_true rfl) ?_
  refine z_lv (lv' := [some (.ref x0), some (.int (nI au)), some (.int g), some (.int h), some (.int (nI 0)), some (.int (nI (uU S 0))), none, none, none, none, none]) rfl ?_
  refine z_aload_n C 0 dL_orders_40 rfl rfl ?_
  refine z_iconst C (nI 0) dL_orders_41 (by decide) ?_
  refine z_callVr C kX5_count gL_orders_X5_count (l_cnt0 X.2.1 x0 h0 h1 w0 w1 t S o kp 0 ps1  hG ) dL_orders_42 [0, 1, 2, 3, 4, 5, 6, 7, 8, 9, 51] [] 0 rfl nd_0_1_2_3_4_5_6_7_8_9_51 rfl rfl rfl (by decide) (by decide) (Nat.le_of_ble_eq_true rfl) rfl ?_
  refine z_istore C dL_orders_45 (Nat.le_of_ble_eq_true rfl) ?_
  refine z_lv (lv' := [some (.ref x0), some (.int (nI au)), some (.int g), some (.int h), some (.int (nI 0)), some (.int (nI (uU S 0))), some (.int (nI (mK S))), none, none, none, none]) rfl ?_
  refine z_aload_n C 0 dL_orders_47 rfl rfl ?_
  refine z_iconst C (nI 5) dL_orders_48 (by decide) ?_
  refine z_callVr C kX5_count gL_orders_X5_count (l_cnt5y X.2.1 x0 h0 h1 w0 w1 t S o kp 0 ps1  hG ht) dL_orders_49 [0, 1, 2, 3, 4, 5, 6, 7, 8, 9, 51] [] 0 rfl nd_0_1_2_3_4_5_6_7_8_9_51 rfl rfl rfl (by decide) (by decide) (Nat.le_of_ble_eq_true rfl) rfl ?_
  refine z_iconst C (nI 1) dL_orders_52 (by decide) ?_
  refine z_ncmp_ne_f C 60 dL_orders_53 (by decide) (by omega) (by omega) (by omega) ?_
  refine z_iconst C (nI 1) dL_orders_56 (by decide) ?_
  refine z_goto C 61 dL_orders_57 (by decide) ?_
  refine z_istore C dL_orders_61 (Nat.le_of_ble_eq_true rfl) ?_
  refine z_lv (lv' := [some (.ref x0), some (.int (nI au)), some (.int g), some (.int h), some (.int (nI 0)), some (.int (nI (uU S 0))), some (.int (nI (mK S))), some (.int (nI 1)), none, none, none]) rfl ?_
  refine z_aload_n C 0 dL_orders_63 rfl rfl ?_
  refine z_iload_n C 2 dL_orders_64 rfl rfl ?_
  refine z_iconst C (nI 2) dL_orders_65 (by decide) ?_
  refine z_iand C dL_orders_66 ?_
  refine z_if_ne_t C 75 dL_orders_67 (by decide) hg2 ?_
  refine z_bipush C (nI 45) dL_orders_75 (by decide) ?_
  refine z_callV (wn := (WRd X.2.1 x0 h0 h1 w0 w1 t r S o kp Q (tyL tx [45]) 1 ps1)) C kX5_type gL_orders_X5_type (l_typ X.2.1 x0 (t 0) h0 w0 w1 tx [] ps1 45 0 rfl (by decide) htx (fun c hc9 => absurd hc9 List.not_mem_nil) (by omega)) dL_orders_77 [0, 51, 52] [] 0 rfl rfl nd_0_51_52 rfl rfl rfl (by decide) (by decide) (Nat.le_of_ble_eq_true rfl) rfl ((zput_par nd_0_51_52 rfl).trans rfl) ?_
  refine z_top (y := nI 1) rfl ?_
  refine z_istore C dL_orders_80 (Nat.le_of_ble_eq_true rfl) ?_
  refine z_lv (lv' := [some (.ref x0), some (.int (nI au)), some (.int g), some (.int h), some (.int (nI 0)), some (.int (nI (uU S 0))), some (.int (nI (mK S))), some (.int (nI 1)), some (.int (nI 1)), none, none]) rfl ?_
  refine z_aload_n C 0 dL_orders_82 rfl rfl ?_
  refine z_iload_n C 1 dL_orders_83 rfl rfl ?_
  refine z_callV (wn := (WRd X.2.1 x0 h0 h1 w0 w1 t r S o kp Q (tyL tx [45]) 1 ps2)) C kX5_run gL_orders_X5_run m3 dL_orders_84 [0, 1, 2, 3, 4, 5, 6, 7, 8, 9, 10, 11, 12, 13, 14, 15, 16, 17, 18, 19, 20, 21, 22, 23, 24, 25, 26, 27, 28, 29, 30, 31, 32, 33, 34, 35, 36, 37, 38, 39, 40, 41, 42, 43, 44, 45, 46, 47, 48, 49, 50, 51, 52] [] 0 rfl rfl nd_0_1_2_3_4_5_6_7_8_9_10_11_12_13_14_15_16_17_18_19_20_21_22_23_24_25_26_27_28_29_30_31_32_33_34_35_36_37_38_39_40_41_42_43_44_45_46_47_48_49_50_51_52 rfl rfl rfl (by decide) (by decide) (Nat.le_of_ble_eq_true rfl) rfl ((zput_par nd_0_1_2_3_4_5_6_7_8_9_10_11_12_13_14_15_16_17_18_19_20_21_22_23_24_25_26_27_28_29_30_31_32_33_34_35_36_37_38_39_40_41_42_43_44_45_46_47_48_49_50_51_52 rfl).trans rfl) ?_
  refine z_bipush C (-100) dL_orders_87 (by decide) ?_
  refine z_iload C dL_orders_89 rfl ?_
  refine z_isub C dL_orders_91 ?_
  refine z_top (y := (-101)) (by decide) ?_
  refine z_icmp_ne_f C 99 dL_orders_92 (by decide) rfl ?_
  refine z_iconst C (nI 1) dL_orders_95 (by decide) ?_
  refine z_goto C 100 dL_orders_96 (by decide) ?_
  refine z_istore C dL_orders_100 (Nat.le_of_ble_eq_true rfl) ?_
  refine z_lv (lv' := [some (.ref x0), some (.int (nI au)), some (.int g), some (.int h), some (.int (nI 0)), some (.int (nI (uU S 0))), some (.int (nI (mK S))), some (.int (nI 1)), some (.int (nI 1)), some (.int (nI 1)), none]) rfl ?_
  refine z_aload_n C 0 dL_orders_102 rfl rfl ?_
  refine z_iload C dL_orders_103 rfl ?_
  refine z_nif_ne_f C 113 dL_orders_105 (by decide) (by omega) (by omega) ?_
  refine z_bipush C (nI 114) dL_orders_108 (by decide) ?_
  refine z_goto C 115 dL_orders_110 (by decide) ?_
  refine z_callV (wn := (WRd X.2.1 x0 h0 h1 w0 w1 t r S o kp Q (tyL tx [114, 45]) 2 ps2)) C kX5_type gL_orders_X5_type (l_typ X.2.1 x0 (t 0) h0 w0 w1 tx [45] ps2 114 1 rfl (by decide) htx (by intro c hc9; simp at hc9; omega) (by omega)) dL_orders_115 [0, 51, 52] [] 0 rfl rfl nd_0_51_52 rfl rfl rfl (by decide) (by decide) (Nat.le_of_ble_eq_true rfl) rfl ((zput_par nd_0_51_52 rfl).trans rfl) ?_
  refine z_top (y := nI 2) rfl ?_
  refine z_pop C dL_orders_118 rfl ?_
  refine z_aload_n C 0 dL_orders_119 rfl rfl ?_
  refine z_bipush C (nI 48) dL_orders_120 (by decide) ?_
  refine z_callV (wn := (WRd X.2.1 x0 h0 h1 w0 w1 t r S o kp Q (tyL tx [48, 114, 45]) 3 ps2)) C kX5_type gL_orders_X5_type (l_typ X.2.1 x0 (t 0) h0 w0 w1 tx [114, 45] ps2 48 2 rfl (by decide) htx (by intro c hc9; simp at hc9; omega) (by omega)) dL_orders_122 [0, 51, 52] [] 0 rfl rfl nd_0_51_52 rfl rfl rfl (by decide) (by decide) (Nat.le_of_ble_eq_true rfl) rfl ((zput_par nd_0_51_52 rfl).trans rfl) ?_
  refine z_top (y := nI 3) rfl ?_
  refine z_pop C dL_orders_125 rfl ?_
  refine z_aload_n C 0 dL_orders_126 rfl rfl ?_
  refine z_bipush C (nI 48) dL_orders_127 (by decide) ?_
  refine z_iload_n C 3 dL_orders_129 rfl rfl ?_
  refine z_bipush C (nI 10) dL_orders_130 (by decide) ?_
  refine z_callS C kL_low gL_orders_L_low (l_low X.2.1 h 10 (by decide) (by decide)) dL_orders_132 [.int (nI 48), .ref x0] rfl (by decide) (by decide) (Nat.le_of_ble_eq_true rfl) rfl ?_
  refine z_top (y := nI dd) (congrArg nI hd) ?_
  refine z_iadd C dL_orders_135 ?_
  refine z_top (y := nI (48 + dd)) (nI_add _ _) ?_
  refine z_i2c C (nI (48 + dd)) dL_orders_136 (chr_n (by omega)) ?_
  refine z_callV (wn := (WRd X.2.1 x0 h0 h1 w0 w1 t r S o kp Q (tyL tx [48 + dd, 48, 114, 45]) 4 ps2)) C kX5_type gL_orders_X5_type (l_typ X.2.1 x0 (t 0) h0 w0 w1 tx [48, 114, 45] ps2 (48 + dd) 3 rfl (by decide) htx (by intro c hc9; simp at hc9; omega) (by omega)) dL_orders_137 [0, 51, 52] [] 0 rfl rfl nd_0_51_52 rfl rfl rfl (by decide) (by decide) (Nat.le_of_ble_eq_true rfl) rfl ((zput_par nd_0_51_52 rfl).trans rfl) ?_
  refine z_top (y := nI 4) rfl ?_
  refine z_istore C dL_orders_140 (Nat.le_of_ble_eq_true rfl) ?_
  refine z_lv (lv' := [some (.ref x0), some (.int (nI au)), some (.int g), some (.int h), some (.int (nI 0)), some (.int (nI (uU S 0))), some (.int (nI (mK S))), some (.int (nI 1)), some (.int (nI 4)), some (.int (nI 1)), none]) rfl ?_
  refine z_iload C dL_orders_142 rfl ?_
  refine z_nif_eq_f C 160 dL_orders_144 (by decide) (by omega) (by omega) ?_
  refine z_aload_n C 0 dL_orders_147 rfl rfl ?_
  refine z_iload_n C 1 dL_orders_148 rfl rfl ?_
  refine z_callV (wn := (WRd X.2.1 x0 h0 h1 w0 w1 t r S o kp Q (tyL tx [48 + dd, 48, 114, 45]) 4 ps3)) C kX5_run gL_orders_X5_run m4 dL_orders_149 [0, 1, 2, 3, 4, 5, 6, 7, 8, 9, 10, 11, 12, 13, 14, 15, 16, 17, 18, 19, 20, 21, 22, 23, 24, 25, 26, 27, 28, 29, 30, 31, 32, 33, 34, 35, 36, 37, 38, 39, 40, 41, 42, 43, 44, 45, 46, 47, 48, 49, 50, 51, 52] [] 0 rfl rfl nd_0_1_2_3_4_5_6_7_8_9_10_11_12_13_14_15_16_17_18_19_20_21_22_23_24_25_26_27_28_29_30_31_32_33_34_35_36_37_38_39_40_41_42_43_44_45_46_47_48_49_50_51_52 rfl rfl rfl (by decide) (by decide) (Nat.le_of_ble_eq_true rfl) rfl ((zput_par nd_0_1_2_3_4_5_6_7_8_9_10_11_12_13_14_15_16_17_18_19_20_21_22_23_24_25_26_27_28_29_30_31_32_33_34_35_36_37_38_39_40_41_42_43_44_45_46_47_48_49_50_51_52 rfl).trans rfl) ?_
  refine z_bipush C (-99) dL_orders_152 (by decide) ?_
  refine z_iload C dL_orders_154 rfl ?_
  refine z_isub C dL_orders_156 ?_
  refine z_top (y := (-103)) (by decide) ?_
  refine z_icmp_eq_t C 162 dL_orders_157 (by decide) rfl ?_
  refine z_aload_n C 0 dL_orders_162 rfl rfl ?_
  have htx2 : ∀ j, tyL tx [48 + dd, 48, 114, 45] j < 65536 := tyL_b htx (by intro c hc9; simp at hc9; omega)
  refine z_callV (wn := (WRd X.2.1 x0 h0 h1 w0 w1 t r S o kp Q (tyL (tyL tx [48 + dd, 48, 114, 45]) []) 0 ps3)) C kX5_clearText gL_orders_X5_clearText (l_clr X.2.1 x0 (t 0) h0 w0 w1 (tyL tx [48 + dd, 48, 114, 45]) 4 ps3 (by decide)) dL_orders_163 [0, 51, 52] [] 0 rfl rfl nd_0_51_52 rfl rfl rfl (by decide) (by decide) (Nat.le_of_ble_eq_true rfl) rfl ((zput_par nd_0_51_52 rfl).trans rfl) ?_
  refine z_pop C dL_orders_166 rfl ?_
  refine z_aload_n C 0 dL_orders_167 rfl rfl ?_
  refine z_bipush C (nI 43) dL_orders_168 (by decide) ?_
  refine z_callV (wn := (WRd X.2.1 x0 h0 h1 w0 w1 t r S o kp Q (tyL (tyL tx [48 + dd, 48, 114, 45]) [43]) 1 ps3)) C kX5_type gL_orders_X5_type (l_typ X.2.1 x0 (t 0) h0 w0 w1 (tyL tx [48 + dd, 48, 114, 45]) [] ps3 43 0 rfl (by decide) htx2 (fun c hc9 => absurd hc9 List.not_mem_nil) (by omega)) dL_orders_170 [0, 51, 52] [] 0 rfl rfl nd_0_51_52 rfl rfl rfl (by decide) (by decide) (Nat.le_of_ble_eq_true rfl) rfl ((zput_par nd_0_51_52 rfl).trans rfl) ?_
  refine z_top (y := nI 1) rfl ?_
  refine z_pop C dL_orders_173 rfl ?_
  refine z_aload_n C 0 dL_orders_174 rfl rfl ?_
  refine z_iload C dL_orders_175 rfl ?_
  refine z_nif_ne_f C 185 dL_orders_177 (by decide) (by omega) (by omega) ?_
  refine z_bipush C (nI 114) dL_orders_180 (by decide) ?_
  refine z_goto C 187 dL_orders_182 (by decide) ?_
  refine z_callV (wn := (WRd X.2.1 x0 h0 h1 w0 w1 t r S o kp Q (tyL (tyL tx [48 + dd, 48, 114, 45]) [114, 43]) 2 ps3)) C kX5_type gL_orders_X5_type (l_typ X.2.1 x0 (t 0) h0 w0 w1 (tyL tx [48 + dd, 48, 114, 45]) [43] ps3 114 1 rfl (by decide) htx2 (by intro c hc9; simp at hc9; omega) (by omega)) dL_orders_187 [0, 51, 52] [] 0 rfl rfl nd_0_51_52 rfl rfl rfl (by decide) (by decide) (Nat.le_of_ble_eq_true rfl) rfl ((zput_par nd_0_51_52 rfl).trans rfl) ?_
  refine z_top (y := nI 2) rfl ?_
  refine z_pop C dL_orders_190 rfl ?_
  refine z_aload_n C 0 dL_orders_191 rfl rfl ?_
  refine z_bipush C (nI 48) dL_orders_192 (by decide) ?_
  refine z_callV (wn := (WRd X.2.1 x0 h0 h1 w0 w1 t r S o kp Q (tyL (tyL tx [48 + dd, 48, 114, 45]) [48, 114, 43]) 3 ps3)) C kX5_type gL_orders_X5_type (l_typ X.2.1 x0 (t 0) h0 w0 w1 (tyL tx [48 + dd, 48, 114, 45]) [114, 43] ps3 48 2 rfl (by decide) htx2 (by intro c hc9; simp at hc9; omega) (by omega)) dL_orders_194 [0, 51, 52] [] 0 rfl rfl nd_0_51_52 rfl rfl rfl (by decide) (by decide) (Nat.le_of_ble_eq_true rfl) rfl ((zput_par nd_0_51_52 rfl).trans rfl) ?_
  refine z_top (y := nI 3) rfl ?_
  refine z_pop C dL_orders_197 rfl ?_
  refine z_aload_n C 0 dL_orders_198 rfl rfl ?_
  refine z_bipush C (nI 32) dL_orders_199 (by decide) ?_
  refine z_callV (wn := (WRd X.2.1 x0 h0 h1 w0 w1 t r S o kp Q (tyL (tyL tx [48 + dd, 48, 114, 45]) [32, 48, 114, 43]) 4 ps3)) C kX5_type gL_orders_X5_type (l_typ X.2.1 x0 (t 0) h0 w0 w1 (tyL tx [48 + dd, 48, 114, 45]) [48, 114, 43] ps3 32 3 rfl (by decide) htx2 (by intro c hc9; simp at hc9; omega) (by omega)) dL_orders_201 [0, 51, 52] [] 0 rfl rfl nd_0_51_52 rfl rfl rfl (by decide) (by decide) (Nat.le_of_ble_eq_true rfl) rfl ((zput_par nd_0_51_52 rfl).trans rfl) ?_
  refine z_top (y := nI 4) rfl ?_
  refine z_pop C dL_orders_204 rfl ?_
  refine z_aload_n C 0 dL_orders_205 rfl rfl ?_
  refine z_bipush C (nI 43) dL_orders_206 (by decide) ?_
  refine z_callV (wn := (WRd X.2.1 x0 h0 h1 w0 w1 t r S o kp Q (tyL (tyL tx [48 + dd, 48, 114, 45]) [43, 32, 48, 114, 43]) 5 ps3)) C kX5_type gL_orders_X5_type (l_typ X.2.1 x0 (t 0) h0 w0 w1 (tyL tx [48 + dd, 48, 114, 45]) [32, 48, 114, 43] ps3 43 4 rfl (by decide) htx2 (by intro c hc9; simp at hc9; omega) (by omega)) dL_orders_208 [0, 51, 52] [] 0 rfl rfl nd_0_51_52 rfl rfl rfl (by decide) (by decide) (Nat.le_of_ble_eq_true rfl) rfl ((zput_par nd_0_51_52 rfl).trans rfl) ?_
  refine z_top (y := nI 5) rfl ?_
  refine z_pop C dL_orders_211 rfl ?_
  refine z_aload_n C 0 dL_orders_212 rfl rfl ?_
  refine z_iload C dL_orders_213 rfl ?_
  refine z_nif_ne_f C 223 dL_orders_215 (by decide) (by omega) (by omega) ?_
  refine z_bipush C (nI 114) dL_orders_218 (by decide) ?_
  refine z_goto C 225 dL_orders_220 (by decide) ?_
  refine z_callV (wn := (WRd X.2.1 x0 h0 h1 w0 w1 t r S o kp Q (tyL (tyL tx [48 + dd, 48, 114, 45]) [114, 43, 32, 48, 114, 43]) 6 ps3)) C kX5_type gL_orders_X5_type (l_typ X.2.1 x0 (t 0) h0 w0 w1 (tyL tx [48 + dd, 48, 114, 45]) [43, 32, 48, 114, 43] ps3 114 5 rfl (by decide) htx2 (by intro c hc9; simp at hc9; omega) (by omega)) dL_orders_225 [0, 51, 52] [] 0 rfl rfl nd_0_51_52 rfl rfl rfl (by decide) (by decide) (Nat.le_of_ble_eq_true rfl) rfl ((zput_par nd_0_51_52 rfl).trans rfl) ?_
  refine z_top (y := nI 6) rfl ?_
  refine z_pop C dL_orders_228 rfl ?_
  refine z_aload_n C 0 dL_orders_229 rfl rfl ?_
  refine z_bipush C (nI 57) dL_orders_230 (by decide) ?_
  refine z_callV (wn := (WRd X.2.1 x0 h0 h1 w0 w1 t r S o kp Q (tyL (tyL tx [48 + dd, 48, 114, 45]) [57, 114, 43, 32, 48, 114, 43]) 7 ps3)) C kX5_type gL_orders_X5_type (l_typ X.2.1 x0 (t 0) h0 w0 w1 (tyL tx [48 + dd, 48, 114, 45]) [114, 43, 32, 48, 114, 43] ps3 57 6 rfl (by decide) htx2 (by intro c hc9; simp at hc9; omega) (by omega)) dL_orders_232 [0, 51, 52] [] 0 rfl rfl nd_0_51_52 rfl rfl rfl (by decide) (by decide) (Nat.le_of_ble_eq_true rfl) rfl ((zput_par nd_0_51_52 rfl).trans rfl) ?_
  refine z_top (y := nI 7) rfl ?_
  refine z_pop C dL_orders_235 rfl ?_
  refine z_aload_n C 0 dL_orders_236 rfl rfl ?_
  refine z_bipush C (nI 57) dL_orders_237 (by decide) ?_
  refine z_callV (wn := (WRd X.2.1 x0 h0 h1 w0 w1 t r S o kp Q (tyL (tyL tx [48 + dd, 48, 114, 45]) [57, 57, 114, 43, 32, 48, 114, 43]) 8 ps3)) C kX5_type gL_orders_X5_type (l_typ X.2.1 x0 (t 0) h0 w0 w1 (tyL tx [48 + dd, 48, 114, 45]) [57, 114, 43, 32, 48, 114, 43] ps3 57 7 rfl (by decide) htx2 (by intro c hc9; simp at hc9; omega) (by omega)) dL_orders_239 [0, 51, 52] [] 0 rfl rfl nd_0_51_52 rfl rfl rfl (by decide) (by decide) (Nat.le_of_ble_eq_true rfl) rfl ((zput_par nd_0_51_52 rfl).trans rfl) ?_
  refine z_top (y := nI 8) rfl ?_
  refine z_istore C dL_orders_242 (Nat.le_of_ble_eq_true rfl) ?_
  refine z_lv (lv' := [some (.ref x0), some (.int (nI au)), some (.int g), some (.int h), some (.int (nI 0)), some (.int (nI (uU S 0))), some (.int (nI (mK S))), some (.int (nI 1)), some (.int (nI 8)), some (.int (nI 1)), none]) rfl ?_
  refine z_iload C dL_orders_244 rfl ?_
  refine z_iload C dL_orders_246 rfl ?_
  refine z_nif_ne_f C 256 dL_orders_248 (by decide) (by omega) (by omega) ?_
  refine z_bipush C (nI 12) dL_orders_251 (by decide) ?_
  refine z_goto C 258 dL_orders_253 (by decide) ?_
  refine z_ncmp_eq_f C 273 dL_orders_258 (by decide) (by omega) (by omega) (by omega) ?_
  refine z_iload C dL_orders_261 rfl ?_
  refine z_nif_eq_f C 277 dL_orders_263 (by decide) (by omega) (by omega) ?_
  refine z_iload C dL_orders_266 rfl ?_
  refine z_bipush C (nI 60) dL_orders_268 (by decide) ?_
  refine z_ncmp_ne_f C 277 dL_orders_270 (by decide) (by omega) (by omega) (by omega) ?_
  refine z_iconst C (nI 0) dL_orders_273 (by decide) ?_
  refine z_goto C 278 dL_orders_274 (by decide) ?_
  refine z_istore C dL_orders_278 (Nat.le_of_ble_eq_true rfl) ?_
  refine z_lv (lv' := [some (.ref x0), some (.int (nI au)), some (.int g), some (.int h), some (.int (nI 0)), some (.int (nI (uU S 0))), some (.int (nI (mK S))), some (.int (nI 1)), some (.int (nI 8)), some (.int (nI 1)), some (.int (nI 0))]) rfl ?_
  refine z_aload_n C 0 dL_orders_280 rfl rfl ?_
  refine z_iload_n C 1 dL_orders_281 rfl rfl ?_
  refine z_callV (wn := (WRd X.2.1 x0 h0 h1 w0 w1 t r S1 o1 kp1 Q1 (tyL (tyL tx [48 + dd, 48, 114, 45]) [57, 57, 114, 43, 32, 48, 114, 43]) 8 ps4)) C kX5_run gL_orders_X5_run m5 dL_orders_282 [0, 1, 2, 3, 4, 5, 6, 7, 8, 9, 10, 11, 12, 13, 14, 15, 16, 17, 18, 19, 20, 21, 22, 23, 24, 25, 26, 27, 28, 29, 30, 31, 32, 33, 34, 35, 36, 37, 38, 39, 40, 41, 42, 43, 44, 45, 46, 47, 48, 49, 50, 51, 52] [] 0 rfl rfl nd_0_1_2_3_4_5_6_7_8_9_10_11_12_13_14_15_16_17_18_19_20_21_22_23_24_25_26_27_28_29_30_31_32_33_34_35_36_37_38_39_40_41_42_43_44_45_46_47_48_49_50_51_52 rfl rfl rfl (by decide) (by decide) (Nat.le_of_ble_eq_true rfl) rfl ((zput_par nd_0_1_2_3_4_5_6_7_8_9_10_11_12_13_14_15_16_17_18_19_20_21_22_23_24_25_26_27_28_29_30_31_32_33_34_35_36_37_38_39_40_41_42_43_44_45_46_47_48_49_50_51_52 rfl).trans rfl) ?_
  refine z_iload C dL_orders_285 rfl ?_
  refine z_ncmp_ne_f C 305 dL_orders_287 (by decide) (by omega) (by omega) (by omega) ?_
  refine z_aload_n C 0 dL_orders_290 rfl rfl ?_
  refine z_iconst C (nI 0) dL_orders_291 (by decide) ?_
  refine z_iload C dL_orders_292 rfl ?_
  refine z_callVr C kX5_size gL_orders_X5_size (l_size0 X.2.1 x0 h0 w0 t S1 0 hG1 (by decide)) dL_orders_294 [0, 1, 2, 3, 4, 5, 6, 7, 8] [] 0 rfl nd_0_1_2_3_4_5_6_7_8 rfl rfl rfl (by decide) (by decide) (Nat.le_of_ble_eq_true rfl) rfl ?_
  refine z_iload C dL_orders_297 rfl ?_
  refine z_iload C dL_orders_299 rfl ?_
  refine z_iadd C dL_orders_301 ?_
  refine z_top (y := nI (uU S 0)) (nI_add _ _) ?_
  refine z_ncmp_eq_t C 307 dL_orders_302 (by decide) (by omega) (by omega) (by omega) ?_
  refine z_aload_n C 0 dL_orders_307 rfl rfl ?_
  refine z_bipush C (nI 57) dL_orders_308 (by decide) ?_
  refine z_callV (wn := (WRd X.2.1 x0 h0 h1 w0 w1 t r S1 o1 kp1 Q1 (tyL (tyL tx [48 + dd, 48, 114, 45]) [57, 57, 57, 114, 43, 32, 48, 114, 43]) 9 ps4)) C kX5_type gL_orders_X5_type (l_typ X.2.1 x0 (t 0) h0 w0 w1 (tyL tx [48 + dd, 48, 114, 45]) [57, 57, 114, 43, 32, 48, 114, 43] ps4 57 8 rfl (by decide) htx2 (by intro c hc9; simp at hc9; omega) (by omega)) dL_orders_310 [0, 51, 52] [] 0 rfl rfl nd_0_51_52 rfl rfl rfl (by decide) (by decide) (Nat.le_of_ble_eq_true rfl) rfl ((zput_par nd_0_51_52 rfl).trans rfl) ?_
  refine z_top (y := nI 9) rfl ?_
  refine z_pop C dL_orders_313 rfl ?_
  refine z_aload_n C 0 dL_orders_314 rfl rfl ?_
  refine z_iload_n C 1 dL_orders_315 rfl rfl ?_
  refine z_callV (wn := (WRd X.2.1 x0 h0 h1 w0 w1 t r S1 o1 kp1 Q1 (tyL (tyL tx [48 + dd, 48, 114, 45]) [57, 57, 57, 114, 43, 32, 48, 114, 43]) 9 ps5)) C kX5_run gL_orders_X5_run m6 dL_orders_316 [0, 1, 2, 3, 4, 5, 6, 7, 8, 9, 10, 11, 12, 13, 14, 15, 16, 17, 18, 19, 20, 21, 22, 23, 24, 25, 26, 27, 28, 29, 30, 31, 32, 33, 34, 35, 36, 37, 38, 39, 40, 41, 42, 43, 44, 45, 46, 47, 48, 49, 50, 51, 52] [] 0 rfl rfl nd_0_1_2_3_4_5_6_7_8_9_10_11_12_13_14_15_16_17_18_19_20_21_22_23_24_25_26_27_28_29_30_31_32_33_34_35_36_37_38_39_40_41_42_43_44_45_46_47_48_49_50_51_52 rfl rfl rfl (by decide) (by decide) (Nat.le_of_ble_eq_true rfl) rfl ((zput_par nd_0_1_2_3_4_5_6_7_8_9_10_11_12_13_14_15_16_17_18_19_20_21_22_23_24_25_26_27_28_29_30_31_32_33_34_35_36_37_38_39_40_41_42_43_44_45_46_47_48_49_50_51_52 rfl).trans rfl) ?_
  refine z_bipush C (-100) dL_orders_319 (by decide) ?_
  refine z_iload C dL_orders_321 rfl ?_
  refine z_isub C dL_orders_323 ?_
  refine z_top (y := (-108)) (by decide) ?_
  refine z_icmp_ne_f C 360 dL_orders_324 (by decide) rfl ?_
  refine z_aload_n C 0 dL_orders_327 rfl rfl ?_
  refine z_callV (wn := (WRd X.2.1 x0 h0 h1 w0 w1 t r S o2 kp2 Q1 (tyL (tyL tx [48 + dd, 48, 114, 45]) [57, 57, 57, 114, 43, 32, 48, 114, 43]) 9 ps5)) C kX5_undo gL_orders_X5_undo m7 dL_orders_328 [0, 1, 2, 3, 4, 5, 6, 7, 8, 9, 10, 11, 12, 13, 14, 15, 16, 17, 18, 19, 20, 21, 22, 23, 24, 25, 26, 27, 28, 29, 30, 31, 32, 33, 34, 35, 36, 37, 38, 39, 40, 41, 42, 43, 44, 45, 46, 47, 48, 49, 50] [] 0 rfl rfl nd_0_1_2_3_4_5_6_7_8_9_10_11_12_13_14_15_16_17_18_19_20_21_22_23_24_25_26_27_28_29_30_31_32_33_34_35_36_37_38_39_40_41_42_43_44_45_46_47_48_49_50 rfl rfl rfl (by decide) (by decide) (Nat.le_of_ble_eq_true rfl) rfl ((zput_par nd_0_1_2_3_4_5_6_7_8_9_10_11_12_13_14_15_16_17_18_19_20_21_22_23_24_25_26_27_28_29_30_31_32_33_34_35_36_37_38_39_40_41_42_43_44_45_46_47_48_49_50 rfl).trans rfl) ?_
  refine z_nif_lt_f C 360 dL_orders_331 (by decide) (by omega) (by trivial) ?_
  refine z_aload_n C 0 dL_orders_334 rfl rfl ?_
  refine z_iconst C (nI 0) dL_orders_335 (by decide) ?_
  refine z_iload C dL_orders_336 rfl ?_
  refine z_callVr C kX5_size gL_orders_X5_size (l_size0 X.2.1 x0 h0 w0 t S 0 hG (by decide)) dL_orders_338 [0, 1, 2, 3, 4, 5, 6, 7, 8] [] 0 rfl nd_0_1_2_3_4_5_6_7_8 rfl rfl rfl (by decide) (by decide) (Nat.le_of_ble_eq_true rfl) rfl ?_
  refine z_iload C dL_orders_341 rfl ?_
  refine z_ncmp_ne_f C 360 dL_orders_343 (by decide) (by omega) (by omega) (by omega) ?_
  refine z_aload_n C 0 dL_orders_346 rfl rfl ?_
  refine z_iconst C (nI 0) dL_orders_347 (by decide) ?_
  refine z_callVr C kX5_count gL_orders_X5_count (l_cnt0 X.2.1 x0 h0 h1 w0 w1 t S o2 kp2 9 ps5  hG ) dL_orders_348 [0, 1, 2, 3, 4, 5, 6, 7, 8, 9, 51] [] 0 rfl nd_0_1_2_3_4_5_6_7_8_9_51 rfl rfl rfl (by decide) (by decide) (Nat.le_of_ble_eq_true rfl) rfl ?_
  refine z_iload C dL_orders_351 rfl ?_
  refine z_ncmp_ne_f C 360 dL_orders_353 (by decide) (by omega) (by omega) (by omega) ?_
  refine z_iconst C (nI 1) dL_orders_356 (by decide) ?_
  refine z_goto C 361 dL_orders_357 (by decide) ?_
  exact z_zret C N dL_orders_361 rfl (rfl) (rfl)

set_option maxHeartbeats 4000000 in
set_option maxRecDepth 100000 in
theorem w_ord01f (E : zE) (x0 h0 h1 w0 w1 : Nat) (t : Nat → Nat) (r : Nat → Nat → Nat) (S S1 : zSt) (o kp o1 o2 kp1 kp2 : Nat) (Q Q1 : Nat → zSt) (tx : Nat → Nat) (ln : Nat) (ps ps1 ps2 ps3 ps4 ps5 : zPs) {B B1 : Nat} (au : Nat) (g h : Int32) (dd lf : Nat) (hG : GG S B) (hG1 : GG S1 B1) (hau : au < 4) (hg1 : g &&& (nI 1) = nI 0) (hg2 : ¬ g &&& (nI 2) = 0) (hd : lw h 10 = dd) (hdd : dd < 10) (hln : ln ≤ 60) (htx : ∀ j, tx j < 65536) (hlf : lf < 100) (hu : uU S1 0 = uU S 0 + 0) (hf : uU S 0 = 12) (m1 : zM E yX5_run wsX5_run 8 [.ref x0, .int (nI au)] (WRd E x0 h0 h1 w0 w1 t r S o kp Q (tyL tx []) 0 ps) (WRd E x0 h0 h1 w0 w1 t r S o kp Q (tyL tx []) 0 ps1) (some (.int (-100)))) (m2 : zM E yX5_run wsX5_run 8 [.ref x0, .int (nI 4)] (WRd E x0 h0 h1 w0 w1 t r S o kp Q (tyL tx []) 0 ps1) (WRd E x0 h0 h1 w0 w1 t r S o kp Q (tyL tx []) 0 ps1) (some (.int (-1)))) (m3 : zM E yX5_run wsX5_run 8 [.ref x0, .int (nI au)] (WRd E x0 h0 h1 w0 w1 t r S o kp Q (tyL tx [45]) 1 ps1) (WRd E x0 h0 h1 w0 w1 t r S o kp Q (tyL tx [45]) 1 ps2) (some (.int (-101)))) (m4 : zM E yX5_run wsX5_run 8 [.ref x0, .int (nI au)] (WRd E x0 h0 h1 w0 w1 t r S o kp Q (tyL tx [48 + dd, 48, 114, 45]) 4 ps2) (WRd E x0 h0 h1 w0 w1 t r S o kp Q (tyL tx [48 + dd, 48, 114, 45]) 4 ps3) (some (.int (-103)))) (m5 : zM E yX5_run wsX5_run 8 [.ref x0, .int (nI au)] (WRd E x0 h0 h1 w0 w1 t r S o kp Q (tyL (tyL tx [48 + dd, 48, 114, 45]) [57, 57, 114, 43, 32, 48, 114, 43]) 8 ps3) (WRd E x0 h0 h1 w0 w1 t r S1 o1 kp1 Q1 (tyL (tyL tx [48 + dd, 48, 114, 45]) [57, 57, 114, 43, 32, 48, 114, 43]) 8 ps4) (some (.int (nI 0)))) (m6 : zM E yX5_run wsX5_run 8 [.ref x0, .int (nI au)] (WRd E x0 h0 h1 w0 w1 t r S1 o1 kp1 Q1 (tyL (tyL tx [48 + dd, 48, 114, 45]) [57, 57, 57, 114, 43, 32, 48, 114, 43]) 9 ps4) (WRd E x0 h0 h1 w0 w1 t r S1 o1 kp1 Q1 (tyL (tyL tx [48 + dd, 48, 114, 45]) [57, 57, 57, 114, 43, 32, 48, 114, 43]) 9 ps5) (some (.int (-108)))) (m7 : zM E yX5_undo wsX5_undo 5 [.ref x0] (WAd E x0 h0 h1 w0 t r S1 o1 kp1 Q1) (WAd E x0 h0 h1 w0 t r S o2 kp2 Q1) (some (.int (nI lf)))) : zM E yL_orders wsL_orders 9 [.ref x0, .int (nI au), .int g, .int h] (WRd E x0 h0 h1 w0 w1 t r S o kp Q tx ln ps) (WRd E x0 h0 h1 w0 w1 t r S o2 kp2 Q1 (tyL (tyL tx [48 + dd, 48, 114, 45]) [57, 57, 57, 114, 43, 32, 48, 114, 43]) 9 ps5) (some (.int (nI 1))) := by
  refine zM.of kL_orders (Nat.le_of_ble_eq_true rfl) rfl [some (.ref x0), some (.int (nI au)), some (.int g), some (.int h), none, none, none, none, none, none, none] rfl (Nat.le_of_ble_eq_true rfl) ?_
  intro X eX C N
  subst eX
  have hb0 : uU S 0 ≤ 12 := gg_u hG 0
  have hb1 : uU S 1 ≤ 8 := gg_u1 hG
  have hb2 : mK S ≤ 60 := gg_M hG
  have hb3 : uU S1 0 ≤ 12 := gg_u hG1 0
  have hb4 : uU S1 1 ≤ 8 := gg_u1 hG1
  have hb5 : mK S1 ≤ 60 := gg_M hG1
  refine z_aload_n C 0 dL_orders_0 rfl rfl ?_
  refine z_callV (wn := (WRd X.2.1 x0 h0 h1 w0 w1 t r S o kp Q (tyL tx []) 0 ps)) C kX5_clearText gL_orders_X5_clearText (l_clr X.2.1 x0 (t 0) h0 w0 w1 tx ln ps hln) dL_orders_1 [0, 51, 52] [] 0 rfl rfl nd_0_51_52 rfl rfl rfl (by decide) (by decide) (Nat.le_of_ble_eq_true rfl) rfl ((zput_par nd_0_51_52 rfl).trans rfl) ?_
  refine z_pop C dL_orders_4 rfl ?_
  refine z_aload_n C 0 dL_orders_5 rfl rfl ?_
  refine z_iload_n C 1 dL_orders_6 rfl rfl ?_
  refine z_callV (wn := (WRd X.2.1 x0 h0 h1 w0 w1 t r S o kp Q (tyL tx []) 0 ps1)) C kX5_run gL_orders_X5_run m1 dL_orders_7 [0, 1, 2, 3, 4, 5, 6, 7, 8, 9, 10, 11, 12, 13, 14, 15, 16, 17, 18, 19, 20, 21, 22, 23, 24, 25, 26, 27, 28, 29, 30, 31, 32, 33, 34, 35, 36, 37, 38, 39, 40, 41, 42, 43, 44, 45, 46, 47, 48, 49, 50, 51, 52] [] 0 rfl rfl nd_0_1_2_3_4_5_6_7_8_9_10_11_12_13_14_15_16_17_18_19_20_21_22_23_24_25_26_27_28_29_30_31_32_33_34_35_36_37_38_39_40_41_42_43_44_45_46_47_48_49_50_51_52 rfl rfl rfl (by decide) (by decide) (Nat.le_of_ble_eq_true rfl) rfl ((zput_par nd_0_1_2_3_4_5_6_7_8_9_10_11_12_13_14_15_16_17_18_19_20_21_22_23_24_25_26_27_28_29_30_31_32_33_34_35_36_37_38_39_40_41_42_43_44_45_46_47_48_49_50_51_52 rfl).trans rfl) ?_
  refine z_bipush C (-100) dL_orders_10 (by decide) ?_
  refine z_icmp_ne_f C 24 dL_orders_12 (by decide) rfl ?_
  refine z_aload_n C 0 dL_orders_15 rfl rfl ?_
  refine z_iconst C (nI 4) dL_orders_16 (by decide) ?_
  refine z_callV (wn := (WRd X.2.1 x0 h0 h1 w0 w1 t r S o kp Q (tyL tx []) 0 ps1)) C kX5_run gL_orders_X5_run m2 dL_orders_17 [0, 1, 2, 3, 4, 5, 6, 7, 8, 9, 10, 11, 12, 13, 14, 15, 16, 17, 18, 19, 20, 21, 22, 23, 24, 25, 26, 27, 28, 29, 30, 31, 32, 33, 34, 35, 36, 37, 38, 39, 40, 41, 42, 43, 44, 45, 46, 47, 48, 49, 50, 51, 52] [] 0 rfl rfl nd_0_1_2_3_4_5_6_7_8_9_10_11_12_13_14_15_16_17_18_19_20_21_22_23_24_25_26_27_28_29_30_31_32_33_34_35_36_37_38_39_40_41_42_43_44_45_46_47_48_49_50_51_52 rfl rfl rfl (by decide) (by decide) (Nat.le_of_ble_eq_true rfl) rfl ((zput_par nd_0_1_2_3_4_5_6_7_8_9_10_11_12_13_14_15_16_17_18_19_20_21_22_23_24_25_26_27_28_29_30_31_32_33_34_35_36_37_38_39_40_41_42_43_44_45_46_47_48_49_50_51_52 rfl).trans rfl) ?_
  refine z_iconst C (-1) dL_orders_20 (by decide) ?_
  refine z_icmp_eq_t C 26 dL_orders_21 (by decide) rfl ?_
  refine z_iload_n C 2 dL_orders_26 rfl rfl ?_
  refine z_iconst C (nI 1) dL_orders_27 (by decide) ?_
  refine z_iand C dL_orders_28 ?_
  refine z_top (y := nI 0) (hg1) ?_
  refine z_istore C dL_orders_29 (Nat.le_of_ble_eq_true rfl) ?_
  refine z_lv (lv' := [some (.ref x0), some (.int (nI au)), some (.int g), some (.int h), some (.int (nI 0)), none, none, none, none, none, none]) rfl ?_
  refine z_aload_n C 0 dL_orders_31 rfl rfl ?_
  refine z_iconst C (nI 0) dL_orders_32 (by decide) ?_
  refine z_iload C dL_orders_33 rfl ?_
  refine z_callVr C kX5_size gL_orders_X5_size (l_size0 X.2.1 x0 h0 w0 t S 0 hG (by decide)) dL_orders_35 [0, 1, 2, 3, 4, 5, 6, 7, 8] [] 0 rfl nd_0_1_2_3_4_5_6_7_8 rfl rfl rfl (by decide) (by decide) (Nat.le_of_ble_eq_true rfl) rfl ?_
  refine z_istore C dL_orders_38 (Nat.le_of_ble_eq_true rfl) ?_
  refine z_lv (lv' := [some (.ref x0), some (.int (nI au)), some (.int g), some (.int h), some (.int (nI 0)), some (.int (nI (uU S 0))), none, none, none, none, none]) rfl ?_
  refine z_aload_n C 0 dL_orders_40 rfl rfl ?_
  refine z_iconst C (nI 0) dL_orders_41 (by decide) ?_
  refine z_callVr C kX5_count gL_orders_X5_count (l_cnt0 X.2.1 x0 h0 h1 w0 w1 t S o kp 0 ps1  hG ) dL_orders_42 [0, 1, 2, 3, 4, 5, 6, 7, 8, 9, 51] [] 0 rfl nd_0_1_2_3_4_5_6_7_8_9_51 rfl rfl rfl (by decide) (by decide) (Nat.le_of_ble_eq_true rfl) rfl ?_
  refine z_istore C dL_orders_45 (Nat.le_of_ble_eq_true rfl) ?_
  refine z_lv (lv' := [some (.ref x0), some (.int (nI au)), some (.int g), some (.int h), some (.int (nI 0)), some (.int (nI (uU S 0))), some (.int (nI (mK S))), none, none, none, none]) rfl ?_
  refine z_aload_n C 0 dL_orders_47 rfl rfl ?_
  refine z_iconst C (nI 5) dL_orders_48 (by decide) ?_
  refine z_callVr C kX5_count gL_orders_X5_count (l_cnt5 X.2.1 x0 h0 h1 w0 w1 t S o kp 0 ps1  hG ) dL_orders_49 [0, 1, 2, 3, 4, 5, 6, 7, 8, 9, 51] [] 0 rfl nd_0_1_2_3_4_5_6_7_8_9_51 rfl rfl rfl (by decide) (by decide) (Nat.le_of_ble_eq_true rfl) rfl ?_
  refine z_iconst C (nI 1) dL_orders_52 (by decide) ?_
  refine z_icmp_ne C 60 dL_orders_53 (by decide) (fun h_1 => ?_) (fun h_1 => ?_)
  · refine z_iconst C (nI 0) dL_orders_60 (by decide) ?_
    refine z_istore C dL_orders_61 (Nat.le_of_ble_eq_true rfl) ?_
    refine z_lv (lv' := [some (.ref x0), some (.int (nI au)), some (.int g), some (.int h), some (.int (nI 0)), some (.int (nI (uU S 0))), some (.int (nI (mK S))), some (.int (nI 0)), none, none, none]) rfl ?_
    refine z_aload_n C 0 dL_orders_63 rfl rfl ?_
    refine z_iload_n C 2 dL_orders_64 rfl rfl ?_
    refine z_iconst C (nI 2) dL_orders_65 (by decide) ?_
    refine z_iand C dL_orders_66 ?_
    refine z_if_ne_t C 75 dL_orders_67 (by decide) hg2 ?_
    refine z_bipush C (nI 45) dL_orders_75 (by decide) ?_
    refine z_callV (wn := (WRd X.2.1 x0 h0 h1 w0 w1 t r S o kp Q (tyL tx [45]) 1 ps1)) C kX5_type gL_orders_X5_type (l_typ X.2.1 x0 (t 0) h0 w0 w1 tx [] ps1 45 0 rfl (by decide) htx (fun c hc9 => absurd hc9 List.not_mem_nil) (by omega)) dL_orders_77 [0, 51, 52] [] 0 rfl rfl nd_0_51_52 rfl rfl rfl (by decide) (by decide) (Nat.le_of_ble_eq_true rfl) rfl ((zput_par nd_0_51_52 rfl).trans rfl) ?_
    refine z_top (y := nI 1) rfl ?_
    refine z_istore C dL_orders_80 (Nat.le_of_ble_eq_true rfl) ?_
    refine z_lv (lv' := [some (.ref x0), some (.int (nI au)), some (.int g), some (.int h), some (.int (nI 0)), some (.int (nI (uU S 0))), some (.int (nI (mK S))), some (.int (nI 0)), some (.int (nI 1)), none, none]) rfl ?_
    refine z_aload_n C 0 dL_orders_82 rfl rfl ?_
    refine z_iload_n C 1 dL_orders_83 rfl rfl ?_
    refine z_callV (wn := (WRd X.2.1 x0 h0 h1 w0 w1 t r S o kp Q (tyL tx [45]) 1 ps2)) C kX5_run gL_orders_X5_run m3 dL_orders_84 [0, 1, 2, 3, 4, 5, 6, 7, 8, 9, 10, 11, 12, 13, 14, 15, 16, 17, 18, 19, 20, 21, 22, 23, 24, 25, 26, 27, 28, 29, 30, 31, 32, 33, 34, 35, 36, 37, 38, 39, 40, 41, 42, 43, 44, 45, 46, 47, 48, 49, 50, 51, 52] [] 0 rfl rfl nd_0_1_2_3_4_5_6_7_8_9_10_11_12_13_14_15_16_17_18_19_20_21_22_23_24_25_26_27_28_29_30_31_32_33_34_35_36_37_38_39_40_41_42_43_44_45_46_47_48_49_50_51_52 rfl rfl rfl (by decide) (by decide) (Nat.le_of_ble_eq_true rfl) rfl ((zput_par nd_0_1_2_3_4_5_6_7_8_9_10_11_12_13_14_15_16_17_18_19_20_21_22_23_24_25_26_27_28_29_30_31_32_33_34_35_36_37_38_39_40_41_42_43_44_45_46_47_48_49_50_51_52 rfl).trans rfl) ?_
    refine z_bipush C (-100) dL_orders_87 (by decide) ?_
    refine z_iload C dL_orders_89 rfl ?_
    refine z_isub C dL_orders_91 ?_
    refine z_top (y := (-101)) (by decide) ?_
    refine z_icmp_ne_f C 99 dL_orders_92 (by decide) rfl ?_
    refine z_iconst C (nI 1) dL_orders_95 (by decide) ?_
    refine z_goto C 100 dL_orders_96 (by decide) ?_
    refine z_istore C dL_orders_100 (Nat.le_of_ble_eq_true rfl) ?_
    refine z_lv (lv' := [some (.ref x0), some (.int (nI au)), some (.int g), some (.int h), some (.int (nI 0)), some (.int (nI (uU S 0))), some (.int (nI (mK S))), some (.int (nI 0)), some (.int (nI 1)), some (.int (nI 1)), none]) rfl ?_
    refine z_aload_n C 0 dL_orders_102 rfl rfl ?_
    refine z_iload C dL_orders_103 rfl ?_
    refine z_nif_ne_f C 113 dL_orders_105 (by decide) (by omega) (by omega) ?_
    refine z_bipush C (nI 114) dL_orders_108 (by decide) ?_
    refine z_goto C 115 dL_orders_110 (by decide) ?_
    refine z_callV (wn := (WRd X.2.1 x0 h0 h1 w0 w1 t r S o kp Q (tyL tx [114, 45]) 2 ps2)) C kX5_type gL_orders_X5_type (l_typ X.2.1 x0 (t 0) h0 w0 w1 tx [45] ps2 114 1 rfl (by decide) htx (by intro c hc9; simp at hc9; omega) (by omega)) dL_orders_115 [0, 51, 52] [] 0 rfl rfl nd_0_51_52 rfl rfl rfl (by decide) (by decide) (Nat.le_of_ble_eq_true rfl) rfl ((zput_par nd_0_51_52 rfl).trans rfl) ?_
    refine z_top (y := nI 2) rfl ?_
    refine z_pop C dL_orders_118 rfl ?_
    refine z_aload_n C 0 dL_orders_119 rfl rfl ?_
    refine z_bipush C (nI 48) dL_orders_120 (by decide) ?_
    refine z_callV (wn := (WRd X.2.1 x0 h0 h1 w0 w1 t r S o kp Q (tyL tx [48, 114, 45]) 3 ps2)) C kX5_type gL_orders_X5_type (l_typ X.2.1 x0 (t 0) h0 w0 w1 tx [114, 45] ps2 48 2 rfl (by decide) htx (by intro c hc9; simp at hc9; omega) (by omega)) dL_orders_122 [0, 51, 52] [] 0 rfl rfl nd_0_51_52 rfl rfl rfl (by decide) (by decide) (Nat.le_of_ble_eq_true rfl) rfl ((zput_par nd_0_51_52 rfl).trans rfl) ?_
    refine z_top (y := nI 3) rfl ?_
    refine z_pop C dL_orders_125 rfl ?_
    refine z_aload_n C 0 dL_orders_126 rfl rfl ?_
    refine z_bipush C (nI 48) dL_orders_127 (by decide) ?_
    refine z_iload_n C 3 dL_orders_129 rfl rfl ?_
    refine z_bipush C (nI 10) dL_orders_130 (by decide) ?_
    refine z_callS C kL_low gL_orders_L_low (l_low X.2.1 h 10 (by decide) (by decide)) dL_orders_132 [.int (nI 48), .ref x0] rfl (by decide) (by decide) (Nat.le_of_ble_eq_true rfl) rfl ?_
    refine z_top (y := nI dd) (congrArg nI hd) ?_
    refine z_iadd C dL_orders_135 ?_
    refine z_top (y := nI (48 + dd)) (nI_add _ _) ?_
    refine z_i2c C (nI (48 + dd)) dL_orders_136 (chr_n (by omega)) ?_
    refine z_callV (wn := (WRd X.2.1 x0 h0 h1 w0 w1 t r S o kp Q (tyL tx [48 + dd, 48, 114, 45]) 4 ps2)) C kX5_type gL_orders_X5_type (l_typ X.2.1 x0 (t 0) h0 w0 w1 tx [48, 114, 45] ps2 (48 + dd) 3 rfl (by decide) htx (by intro c hc9; simp at hc9; omega) (by omega)) dL_orders_137 [0, 51, 52] [] 0 rfl rfl nd_0_51_52 rfl rfl rfl (by decide) (by decide) (Nat.le_of_ble_eq_true rfl) rfl ((zput_par nd_0_51_52 rfl).trans rfl) ?_
    refine z_top (y := nI 4) rfl ?_
    refine z_istore C dL_orders_140 (Nat.le_of_ble_eq_true rfl) ?_
    refine z_lv (lv' := [some (.ref x0), some (.int (nI au)), some (.int g), some (.int h), some (.int (nI 0)), some (.int (nI (uU S 0))), some (.int (nI (mK S))), some (.int (nI 0)), some (.int (nI 4)), some (.int (nI 1)), none]) rfl ?_
    refine z_iload C dL_orders_142 rfl ?_
    refine z_nif_eq_f C 160 dL_orders_144 (by decide) (by omega) (by omega) ?_
    refine z_aload_n C 0 dL_orders_147 rfl rfl ?_
    refine z_iload_n C 1 dL_orders_148 rfl rfl ?_
    refine z_callV (wn := (WRd X.2.1 x0 h0 h1 w0 w1 t r S o kp Q (tyL tx [48 + dd, 48, 114, 45]) 4 ps3)) C kX5_run gL_orders_X5_run m4 dL_orders_149 [0, 1, 2, 3, 4, 5, 6, 7, 8, 9, 10, 11, 12, 13, 14, 15, 16, 17, 18, 19, 20, 21, 22, 23, 24, 25, 26, 27, 28, 29, 30, 31, 32, 33, 34, 35, 36, 37, 38, 39, 40, 41, 42, 43, 44, 45, 46, 47, 48, 49, 50, 51, 52] [] 0 rfl rfl nd_0_1_2_3_4_5_6_7_8_9_10_11_12_13_14_15_16_17_18_19_20_21_22_23_24_25_26_27_28_29_30_31_32_33_34_35_36_37_38_39_40_41_42_43_44_45_46_47_48_49_50_51_52 rfl rfl rfl (by decide) (by decide) (Nat.le_of_ble_eq_true rfl) rfl ((zput_par nd_0_1_2_3_4_5_6_7_8_9_10_11_12_13_14_15_16_17_18_19_20_21_22_23_24_25_26_27_28_29_30_31_32_33_34_35_36_37_38_39_40_41_42_43_44_45_46_47_48_49_50_51_52 rfl).trans rfl) ?_
    refine z_bipush C (-99) dL_orders_152 (by decide) ?_
    refine z_iload C dL_orders_154 rfl ?_
    refine z_isub C dL_orders_156 ?_
    refine z_top (y := (-103)) (by decide) ?_
    refine z_icmp_eq_t C 162 dL_orders_157 (by decide) rfl ?_
    refine z_aload_n C 0 dL_orders_162 rfl rfl ?_
    have htx2 : ∀ j, tyL tx [48 + dd, 48, 114, 45] j < 65536 := tyL_b htx (by intro c hc9; simp at hc9; omega)
    refine z_callV (wn := (WRd X.2.1 x0 h0 h1 w0 w1 t r S o kp Q (tyL (tyL tx [48 + dd, 48, 114, 45]) []) 0 ps3)) C kX5_clearText gL_orders_X5_clearText (l_clr X.2.1 x0 (t 0) h0 w0 w1 (tyL tx [48 + dd, 48, 114, 45]) 4 ps3 (by decide)) dL_orders_163 [0, 51, 52] [] 0 rfl rfl nd_0_51_52 rfl rfl rfl (by decide) (by decide) (Nat.le_of_ble_eq_true rfl) rfl ((zput_par nd_0_51_52 rfl).trans rfl) ?_
    refine z_pop C dL_orders_166 rfl ?_
    refine z_aload_n C 0 dL_orders_167 rfl rfl ?_
    refine z_bipush C (nI 43) dL_orders_168 (by decide) ?_
    refine z_callV (wn := (WRd X.2.1 x0 h0 h1 w0 w1 t r S o kp Q (tyL (tyL tx [48 + dd, 48, 114, 45]) [43]) 1 ps3)) C kX5_type gL_orders_X5_type (l_typ X.2.1 x0 (t 0) h0 w0 w1 (tyL tx [48 + dd, 48, 114, 45]) [] ps3 43 0 rfl (by decide) htx2 (fun c hc9 => absurd hc9 List.not_mem_nil) (by omega)) dL_orders_170 [0, 51, 52] [] 0 rfl rfl nd_0_51_52 rfl rfl rfl (by decide) (by decide) (Nat.le_of_ble_eq_true rfl) rfl ((zput_par nd_0_51_52 rfl).trans rfl) ?_
    refine z_top (y := nI 1) rfl ?_
    refine z_pop C dL_orders_173 rfl ?_
    refine z_aload_n C 0 dL_orders_174 rfl rfl ?_
    refine z_iload C dL_orders_175 rfl ?_
    refine z_nif_ne_f C 185 dL_orders_177 (by decide) (by omega) (by omega) ?_
    refine z_bipush C (nI 114) dL_orders_180 (by decide) ?_
    refine z_goto C 187 dL_orders_182 (by decide) ?_
    refine z_callV (wn := (WRd X.2.1 x0 h0 h1 w0 w1 t r S o kp Q (tyL (tyL tx [48 + dd, 48, 114, 45]) [114, 43]) 2 ps3)) C kX5_type gL_orders_X5_type (l_typ X.2.1 x0 (t 0) h0 w0 w1 (tyL tx [48 + dd, 48, 114, 45]) [43] ps3 114 1 rfl (by decide) htx2 (by intro c hc9; simp at hc9; omega) (by omega)) dL_orders_187 [0, 51, 52] [] 0 rfl rfl nd_0_51_52 rfl rfl rfl (by decide) (by decide) (Nat.le_of_ble_eq_true rfl) rfl ((zput_par nd_0_51_52 rfl).trans rfl) ?_
    refine z_top (y := nI 2) rfl ?_
    refine z_pop C dL_orders_190 rfl ?_
    refine z_aload_n C 0 dL_orders_191 rfl rfl ?_
    refine z_bipush C (nI 48) dL_orders_192 (by decide) ?_
    refine z_callV (wn := (WRd X.2.1 x0 h0 h1 w0 w1 t r S o kp Q (tyL (tyL tx [48 + dd, 48, 114, 45]) [48, 114, 43]) 3 ps3)) C kX5_type gL_orders_X5_type (l_typ X.2.1 x0 (t 0) h0 w0 w1 (tyL tx [48 + dd, 48, 114, 45]) [114, 43] ps3 48 2 rfl (by decide) htx2 (by intro c hc9; simp at hc9; omega) (by omega)) dL_orders_194 [0, 51, 52] [] 0 rfl rfl nd_0_51_52 rfl rfl rfl (by decide) (by decide) (Nat.le_of_ble_eq_true rfl) rfl ((zput_par nd_0_51_52 rfl).trans rfl) ?_
    refine z_top (y := nI 3) rfl ?_
    refine z_pop C dL_orders_197 rfl ?_
    refine z_aload_n C 0 dL_orders_198 rfl rfl ?_
    refine z_bipush C (nI 32) dL_orders_199 (by decide) ?_
    refine z_callV (wn := (WRd X.2.1 x0 h0 h1 w0 w1 t r S o kp Q (tyL (tyL tx [48 + dd, 48, 114, 45]) [32, 48, 114, 43]) 4 ps3)) C kX5_type gL_orders_X5_type (l_typ X.2.1 x0 (t 0) h0 w0 w1 (tyL tx [48 + dd, 48, 114, 45]) [48, 114, 43] ps3 32 3 rfl (by decide) htx2 (by intro c hc9; simp at hc9; omega) (by omega)) dL_orders_201 [0, 51, 52] [] 0 rfl rfl nd_0_51_52 rfl rfl rfl (by decide) (by decide) (Nat.le_of_ble_eq_true rfl) rfl ((zput_par nd_0_51_52 rfl).trans rfl) ?_
    refine z_top (y := nI 4) rfl ?_
    refine z_pop C dL_orders_204 rfl ?_
    refine z_aload_n C 0 dL_orders_205 rfl rfl ?_
    refine z_bipush C (nI 43) dL_orders_206 (by decide) ?_
    refine z_callV (wn := (WRd X.2.1 x0 h0 h1 w0 w1 t r S o kp Q (tyL (tyL tx [48 + dd, 48, 114, 45]) [43, 32, 48, 114, 43]) 5 ps3)) C kX5_type gL_orders_X5_type (l_typ X.2.1 x0 (t 0) h0 w0 w1 (tyL tx [48 + dd, 48, 114, 45]) [32, 48, 114, 43] ps3 43 4 rfl (by decide) htx2 (by intro c hc9; simp at hc9; omega) (by omega)) dL_orders_208 [0, 51, 52] [] 0 rfl rfl nd_0_51_52 rfl rfl rfl (by decide) (by decide) (Nat.le_of_ble_eq_true rfl) rfl ((zput_par nd_0_51_52 rfl).trans rfl) ?_
    refine z_top (y := nI 5) rfl ?_
    refine z_pop C dL_orders_211 rfl ?_
    refine z_aload_n C 0 dL_orders_212 rfl rfl ?_
    refine z_iload C dL_orders_213 rfl ?_
    refine z_nif_ne_f C 223 dL_orders_215 (by decide) (by omega) (by omega) ?_
    refine z_bipush C (nI 114) dL_orders_218 (by decide) ?_
    refine z_goto C 225 dL_orders_220 (by decide) ?_
    refine z_callV (wn := (WRd X.2.1 x0 h0 h1 w0 w1 t r S o kp Q (tyL (tyL tx [48 + dd, 48, 114, 45]) [114, 43, 32, 48, 114, 43]) 6 ps3)) C kX5_type gL_orders_X5_type (l_typ X.2.1 x0 (t 0) h0 w0 w1 (tyL tx [48 + dd, 48, 114, 45]) [43, 32, 48, 114, 43] ps3 114 5 rfl (by decide) htx2 (by intro c hc9; simp at hc9; omega) (by omega)) dL_orders_225 [0, 51, 52] [] 0 rfl rfl nd_0_51_52 rfl rfl rfl (by decide) (by decide) (Nat.le_of_ble_eq_true rfl) rfl ((zput_par nd_0_51_52 rfl).trans rfl) ?_
    refine z_top (y := nI 6) rfl ?_
    refine z_pop C dL_orders_228 rfl ?_
    refine z_aload_n C 0 dL_orders_229 rfl rfl ?_
    refine z_bipush C (nI 57) dL_orders_230 (by decide) ?_
    refine z_callV (wn := (WRd X.2.1 x0 h0 h1 w0 w1 t r S o kp Q (tyL (tyL tx [48 + dd, 48, 114, 45]) [57, 114, 43, 32, 48, 114, 43]) 7 ps3)) C kX5_type gL_orders_X5_type (l_typ X.2.1 x0 (t 0) h0 w0 w1 (tyL tx [48 + dd, 48, 114, 45]) [114, 43, 32, 48, 114, 43] ps3 57 6 rfl (by decide) htx2 (by intro c hc9; simp at hc9; omega) (by omega)) dL_orders_232 [0, 51, 52] [] 0 rfl rfl nd_0_51_52 rfl rfl rfl (by decide) (by decide) (Nat.le_of_ble_eq_true rfl) rfl ((zput_par nd_0_51_52 rfl).trans rfl) ?_
    refine z_top (y := nI 7) rfl ?_
    refine z_pop C dL_orders_235 rfl ?_
    refine z_aload_n C 0 dL_orders_236 rfl rfl ?_
    refine z_bipush C (nI 57) dL_orders_237 (by decide) ?_
    refine z_callV (wn := (WRd X.2.1 x0 h0 h1 w0 w1 t r S o kp Q (tyL (tyL tx [48 + dd, 48, 114, 45]) [57, 57, 114, 43, 32, 48, 114, 43]) 8 ps3)) C kX5_type gL_orders_X5_type (l_typ X.2.1 x0 (t 0) h0 w0 w1 (tyL tx [48 + dd, 48, 114, 45]) [57, 114, 43, 32, 48, 114, 43] ps3 57 7 rfl (by decide) htx2 (by intro c hc9; simp at hc9; omega) (by omega)) dL_orders_239 [0, 51, 52] [] 0 rfl rfl nd_0_51_52 rfl rfl rfl (by decide) (by decide) (Nat.le_of_ble_eq_true rfl) rfl ((zput_par nd_0_51_52 rfl).trans rfl) ?_
    refine z_top (y := nI 8) rfl ?_
    refine z_istore C dL_orders_242 (Nat.le_of_ble_eq_true rfl) ?_
    refine z_lv (lv' := [some (.ref x0), some (.int (nI au)), some (.int g), some (.int h), some (.int (nI 0)), some (.int (nI (uU S 0))), some (.int (nI (mK S))), some (.int (nI 0)), some (.int (nI 8)), some (.int (nI 1)), none]) rfl ?_
    refine z_iload C dL_orders_244 rfl ?_
    refine z_iload C dL_orders_246 rfl ?_
    refine z_nif_ne_f C 256 dL_orders_248 (by decide) (by omega) (by omega) ?_
    refine z_bipush C (nI 12) dL_orders_251 (by decide) ?_
    refine z_goto C 258 dL_orders_253 (by decide) ?_
    refine z_ncmp_eq_t C 273 dL_orders_258 (by decide) (by omega) (by omega) (by omega) ?_
    refine z_iconst C (nI 0) dL_orders_273 (by decide) ?_
    refine z_goto C 278 dL_orders_274 (by decide) ?_
    refine z_istore C dL_orders_278 (Nat.le_of_ble_eq_true rfl) ?_
    refine z_lv (lv' := [some (.ref x0), some (.int (nI au)), some (.int g), some (.int h), some (.int (nI 0)), some (.int (nI (uU S 0))), some (.int (nI (mK S))), some (.int (nI 0)), some (.int (nI 8)), some (.int (nI 1)), some (.int (nI 0))]) rfl ?_
    refine z_aload_n C 0 dL_orders_280 rfl rfl ?_
    refine z_iload_n C 1 dL_orders_281 rfl rfl ?_
    refine z_callV (wn := (WRd X.2.1 x0 h0 h1 w0 w1 t r S1 o1 kp1 Q1 (tyL (tyL tx [48 + dd, 48, 114, 45]) [57, 57, 114, 43, 32, 48, 114, 43]) 8 ps4)) C kX5_run gL_orders_X5_run m5 dL_orders_282 [0, 1, 2, 3, 4, 5, 6, 7, 8, 9, 10, 11, 12, 13, 14, 15, 16, 17, 18, 19, 20, 21, 22, 23, 24, 25, 26, 27, 28, 29, 30, 31, 32, 33, 34, 35, 36, 37, 38, 39, 40, 41, 42, 43, 44, 45, 46, 47, 48, 49, 50, 51, 52] [] 0 rfl rfl nd_0_1_2_3_4_5_6_7_8_9_10_11_12_13_14_15_16_17_18_19_20_21_22_23_24_25_26_27_28_29_30_31_32_33_34_35_36_37_38_39_40_41_42_43_44_45_46_47_48_49_50_51_52 rfl rfl rfl (by decide) (by decide) (Nat.le_of_ble_eq_true rfl) rfl ((zput_par nd_0_1_2_3_4_5_6_7_8_9_10_11_12_13_14_15_16_17_18_19_20_21_22_23_24_25_26_27_28_29_30_31_32_33_34_35_36_37_38_39_40_41_42_43_44_45_46_47_48_49_50_51_52 rfl).trans rfl) ?_
    refine z_iload C dL_orders_285 rfl ?_
    refine z_ncmp_ne_f C 305 dL_orders_287 (by decide) (by omega) (by omega) (by omega) ?_
    refine z_aload_n C 0 dL_orders_290 rfl rfl ?_
    refine z_iconst C (nI 0) dL_orders_291 (by decide) ?_
    refine z_iload C dL_orders_292 rfl ?_
    refine z_callVr C kX5_size gL_orders_X5_size (l_size0 X.2.1 x0 h0 w0 t S1 0 hG1 (by decide)) dL_orders_294 [0, 1, 2, 3, 4, 5, 6, 7, 8] [] 0 rfl nd_0_1_2_3_4_5_6_7_8 rfl rfl rfl (by decide) (by decide) (Nat.le_of_ble_eq_true rfl) rfl ?_
    refine z_iload C dL_orders_297 rfl ?_
    refine z_iload C dL_orders_299 rfl ?_
    refine z_iadd C dL_orders_301 ?_
    refine z_top (y := nI (uU S 0)) (nI_add _ _) ?_
    refine z_ncmp_eq_t C 307 dL_orders_302 (by decide) (by omega) (by omega) (by omega) ?_
    refine z_aload_n C 0 dL_orders_307 rfl rfl ?_
    refine z_bipush C (nI 57) dL_orders_308 (by decide) ?_
    refine z_callV (wn := (WRd X.2.1 x0 h0 h1 w0 w1 t r S1 o1 kp1 Q1 (tyL (tyL tx [48 + dd, 48, 114, 45]) [57, 57, 57, 114, 43, 32, 48, 114, 43]) 9 ps4)) C kX5_type gL_orders_X5_type (l_typ X.2.1 x0 (t 0) h0 w0 w1 (tyL tx [48 + dd, 48, 114, 45]) [57, 57, 114, 43, 32, 48, 114, 43] ps4 57 8 rfl (by decide) htx2 (by intro c hc9; simp at hc9; omega) (by omega)) dL_orders_310 [0, 51, 52] [] 0 rfl rfl nd_0_51_52 rfl rfl rfl (by decide) (by decide) (Nat.le_of_ble_eq_true rfl) rfl ((zput_par nd_0_51_52 rfl).trans rfl) ?_
    refine z_top (y := nI 9) rfl ?_
    refine z_pop C dL_orders_313 rfl ?_
    refine z_aload_n C 0 dL_orders_314 rfl rfl ?_
    refine z_iload_n C 1 dL_orders_315 rfl rfl ?_
    refine z_callV (wn := (WRd X.2.1 x0 h0 h1 w0 w1 t r S1 o1 kp1 Q1 (tyL (tyL tx [48 + dd, 48, 114, 45]) [57, 57, 57, 114, 43, 32, 48, 114, 43]) 9 ps5)) C kX5_run gL_orders_X5_run m6 dL_orders_316 [0, 1, 2, 3, 4, 5, 6, 7, 8, 9, 10, 11, 12, 13, 14, 15, 16, 17, 18, 19, 20, 21, 22, 23, 24, 25, 26, 27, 28, 29, 30, 31, 32, 33, 34, 35, 36, 37, 38, 39, 40, 41, 42, 43, 44, 45, 46, 47, 48, 49, 50, 51, 52] [] 0 rfl rfl nd_0_1_2_3_4_5_6_7_8_9_10_11_12_13_14_15_16_17_18_19_20_21_22_23_24_25_26_27_28_29_30_31_32_33_34_35_36_37_38_39_40_41_42_43_44_45_46_47_48_49_50_51_52 rfl rfl rfl (by decide) (by decide) (Nat.le_of_ble_eq_true rfl) rfl ((zput_par nd_0_1_2_3_4_5_6_7_8_9_10_11_12_13_14_15_16_17_18_19_20_21_22_23_24_25_26_27_28_29_30_31_32_33_34_35_36_37_38_39_40_41_42_43_44_45_46_47_48_49_50_51_52 rfl).trans rfl) ?_
    refine z_bipush C (-100) dL_orders_319 (by decide) ?_
    refine z_iload C dL_orders_321 rfl ?_
    refine z_isub C dL_orders_323 ?_
    refine z_top (y := (-108)) (by decide) ?_
    refine z_icmp_ne_f C 360 dL_orders_324 (by decide) rfl ?_
    refine z_aload_n C 0 dL_orders_327 rfl rfl ?_
    refine z_callV (wn := (WRd X.2.1 x0 h0 h1 w0 w1 t r S o2 kp2 Q1 (tyL (tyL tx [48 + dd, 48, 114, 45]) [57, 57, 57, 114, 43, 32, 48, 114, 43]) 9 ps5)) C kX5_undo gL_orders_X5_undo m7 dL_orders_328 [0, 1, 2, 3, 4, 5, 6, 7, 8, 9, 10, 11, 12, 13, 14, 15, 16, 17, 18, 19, 20, 21, 22, 23, 24, 25, 26, 27, 28, 29, 30, 31, 32, 33, 34, 35, 36, 37, 38, 39, 40, 41, 42, 43, 44, 45, 46, 47, 48, 49, 50] [] 0 rfl rfl nd_0_1_2_3_4_5_6_7_8_9_10_11_12_13_14_15_16_17_18_19_20_21_22_23_24_25_26_27_28_29_30_31_32_33_34_35_36_37_38_39_40_41_42_43_44_45_46_47_48_49_50 rfl rfl rfl (by decide) (by decide) (Nat.le_of_ble_eq_true rfl) rfl ((zput_par nd_0_1_2_3_4_5_6_7_8_9_10_11_12_13_14_15_16_17_18_19_20_21_22_23_24_25_26_27_28_29_30_31_32_33_34_35_36_37_38_39_40_41_42_43_44_45_46_47_48_49_50 rfl).trans rfl) ?_
    refine z_nif_lt_f C 360 dL_orders_331 (by decide) (by omega) (by trivial) ?_
    refine z_aload_n C 0 dL_orders_334 rfl rfl ?_
    refine z_iconst C (nI 0) dL_orders_335 (by decide) ?_
    refine z_iload C dL_orders_336 rfl ?_
    refine z_callVr C kX5_size gL_orders_X5_size (l_size0 X.2.1 x0 h0 w0 t S 0 hG (by decide)) dL_orders_338 [0, 1, 2, 3, 4, 5, 6, 7, 8] [] 0 rfl nd_0_1_2_3_4_5_6_7_8 rfl rfl rfl (by decide) (by decide) (Nat.le_of_ble_eq_true rfl) rfl ?_
    refine z_iload C dL_orders_341 rfl ?_
    refine z_ncmp_ne_f C 360 dL_orders_343 (by decide) (by omega) (by omega) (by omega) ?_
    refine z_aload_n C 0 dL_orders_346 rfl rfl ?_
    refine z_iconst C (nI 0) dL_orders_347 (by decide) ?_
    refine z_callVr C kX5_count gL_orders_X5_count (l_cnt0 X.2.1 x0 h0 h1 w0 w1 t S o2 kp2 9 ps5  hG ) dL_orders_348 [0, 1, 2, 3, 4, 5, 6, 7, 8, 9, 51] [] 0 rfl nd_0_1_2_3_4_5_6_7_8_9_51 rfl rfl rfl (by decide) (by decide) (Nat.le_of_ble_eq_true rfl) rfl ?_
    refine z_iload C dL_orders_351 rfl ?_
    refine z_ncmp_ne_f C 360 dL_orders_353 (by decide) (by omega) (by omega) (by omega) ?_
    refine z_iconst C (nI 1) dL_orders_356 (by decide) ?_
    refine z_goto C 361 dL_orders_357 (by decide) ?_
    exact z_zret C N dL_orders_361 rfl (rfl) (rfl)
  · refine z_iconst C (nI 1) dL_orders_56 (by decide) ?_
    refine z_goto C 61 dL_orders_57 (by decide) ?_
    refine z_istore C dL_orders_61 (Nat.le_of_ble_eq_true rfl) ?_
    refine z_lv (lv' := [some (.ref x0), some (.int (nI au)), some (.int g), some (.int h), some (.int (nI 0)), some (.int (nI (uU S 0))), some (.int (nI (mK S))), some (.int (nI 1)), none, none, none]) rfl ?_
    refine z_aload_n C 0 dL_orders_63 rfl rfl ?_
    refine z_iload_n C 2 dL_orders_64 rfl rfl ?_
    refine z_iconst C (nI 2) dL_orders_65 (by decide) ?_
    refine z_iand C dL_orders_66 ?_
    refine z_if_ne_t C 75 dL_orders_67 (by decide) hg2 ?_
    refine z_bipush C (nI 45) dL_orders_75 (by decide) ?_
    refine z_callV (wn := (WRd X.2.1 x0 h0 h1 w0 w1 t r S o kp Q (tyL tx [45]) 1 ps1)) C kX5_type gL_orders_X5_type (l_typ X.2.1 x0 (t 0) h0 w0 w1 tx [] ps1 45 0 rfl (by decide) htx (fun c hc9 => absurd hc9 List.not_mem_nil) (by omega)) dL_orders_77 [0, 51, 52] [] 0 rfl rfl nd_0_51_52 rfl rfl rfl (by decide) (by decide) (Nat.le_of_ble_eq_true rfl) rfl ((zput_par nd_0_51_52 rfl).trans rfl) ?_
    refine z_top (y := nI 1) rfl ?_
    refine z_istore C dL_orders_80 (Nat.le_of_ble_eq_true rfl) ?_
    refine z_lv (lv' := [some (.ref x0), some (.int (nI au)), some (.int g), some (.int h), some (.int (nI 0)), some (.int (nI (uU S 0))), some (.int (nI (mK S))), some (.int (nI 1)), some (.int (nI 1)), none, none]) rfl ?_
    refine z_aload_n C 0 dL_orders_82 rfl rfl ?_
    refine z_iload_n C 1 dL_orders_83 rfl rfl ?_
    refine z_callV (wn := (WRd X.2.1 x0 h0 h1 w0 w1 t r S o kp Q (tyL tx [45]) 1 ps2)) C kX5_run gL_orders_X5_run m3 dL_orders_84 [0, 1, 2, 3, 4, 5, 6, 7, 8, 9, 10, 11, 12, 13, 14, 15, 16, 17, 18, 19, 20, 21, 22, 23, 24, 25, 26, 27, 28, 29, 30, 31, 32, 33, 34, 35, 36, 37, 38, 39, 40, 41, 42, 43, 44, 45, 46, 47, 48, 49, 50, 51, 52] [] 0 rfl rfl nd_0_1_2_3_4_5_6_7_8_9_10_11_12_13_14_15_16_17_18_19_20_21_22_23_24_25_26_27_28_29_30_31_32_33_34_35_36_37_38_39_40_41_42_43_44_45_46_47_48_49_50_51_52 rfl rfl rfl (by decide) (by decide) (Nat.le_of_ble_eq_true rfl) rfl ((zput_par nd_0_1_2_3_4_5_6_7_8_9_10_11_12_13_14_15_16_17_18_19_20_21_22_23_24_25_26_27_28_29_30_31_32_33_34_35_36_37_38_39_40_41_42_43_44_45_46_47_48_49_50_51_52 rfl).trans rfl) ?_
    refine z_bipush C (-100) dL_orders_87 (by decide) ?_
    refine z_iload C dL_orders_89 rfl ?_
    refine z_isub C dL_orders_91 ?_
    refine z_top (y := (-101)) (by decide) ?_
    refine z_icmp_ne_f C 99 dL_orders_92 (by decide) rfl ?_
    refine z_iconst C (nI 1) dL_orders_95 (by decide) ?_
    refine z_goto C 100 dL_orders_96 (by decide) ?_
    refine z_istore C dL_orders_100 (Nat.le_of_ble_eq_true rfl) ?_
    refine z_lv (lv' := [some (.ref x0), some (.int (nI au)), some (.int g), some (.int h), some (.int (nI 0)), some (.int (nI (uU S 0))), some (.int (nI (mK S))), some (.int (nI 1)), some (.int (nI 1)), some (.int (nI 1)), none]) rfl ?_
    refine z_aload_n C 0 dL_orders_102 rfl rfl ?_
    refine z_iload C dL_orders_103 rfl ?_
    refine z_nif_ne_f C 113 dL_orders_105 (by decide) (by omega) (by omega) ?_
    refine z_bipush C (nI 114) dL_orders_108 (by decide) ?_
    refine z_goto C 115 dL_orders_110 (by decide) ?_
    refine z_callV (wn := (WRd X.2.1 x0 h0 h1 w0 w1 t r S o kp Q (tyL tx [114, 45]) 2 ps2)) C kX5_type gL_orders_X5_type (l_typ X.2.1 x0 (t 0) h0 w0 w1 tx [45] ps2 114 1 rfl (by decide) htx (by intro c hc9; simp at hc9; omega) (by omega)) dL_orders_115 [0, 51, 52] [] 0 rfl rfl nd_0_51_52 rfl rfl rfl (by decide) (by decide) (Nat.le_of_ble_eq_true rfl) rfl ((zput_par nd_0_51_52 rfl).trans rfl) ?_
    refine z_top (y := nI 2) rfl ?_
    refine z_pop C dL_orders_118 rfl ?_
    refine z_aload_n C 0 dL_orders_119 rfl rfl ?_
    refine z_bipush C (nI 48) dL_orders_120 (by decide) ?_
    refine z_callV (wn := (WRd X.2.1 x0 h0 h1 w0 w1 t r S o kp Q (tyL tx [48, 114, 45]) 3 ps2)) C kX5_type gL_orders_X5_type (l_typ X.2.1 x0 (t 0) h0 w0 w1 tx [114, 45] ps2 48 2 rfl (by decide) htx (by intro c hc9; simp at hc9; omega) (by omega)) dL_orders_122 [0, 51, 52] [] 0 rfl rfl nd_0_51_52 rfl rfl rfl (by decide) (by decide) (Nat.le_of_ble_eq_true rfl) rfl ((zput_par nd_0_51_52 rfl).trans rfl) ?_
    refine z_top (y := nI 3) rfl ?_
    refine z_pop C dL_orders_125 rfl ?_
    refine z_aload_n C 0 dL_orders_126 rfl rfl ?_
    refine z_bipush C (nI 48) dL_orders_127 (by decide) ?_
    refine z_iload_n C 3 dL_orders_129 rfl rfl ?_
    refine z_bipush C (nI 10) dL_orders_130 (by decide) ?_
    refine z_callS C kL_low gL_orders_L_low (l_low X.2.1 h 10 (by decide) (by decide)) dL_orders_132 [.int (nI 48), .ref x0] rfl (by decide) (by decide) (Nat.le_of_ble_eq_true rfl) rfl ?_
    refine z_top (y := nI dd) (congrArg nI hd) ?_
    refine z_iadd C dL_orders_135 ?_
    refine z_top (y := nI (48 + dd)) (nI_add _ _) ?_
    refine z_i2c C (nI (48 + dd)) dL_orders_136 (chr_n (by omega)) ?_
    refine z_callV (wn := (WRd X.2.1 x0 h0 h1 w0 w1 t r S o kp Q (tyL tx [48 + dd, 48, 114, 45]) 4 ps2)) C kX5_type gL_orders_X5_type (l_typ X.2.1 x0 (t 0) h0 w0 w1 tx [48, 114, 45] ps2 (48 + dd) 3 rfl (by decide) htx (by intro c hc9; simp at hc9; omega) (by omega)) dL_orders_137 [0, 51, 52] [] 0 rfl rfl nd_0_51_52 rfl rfl rfl (by decide) (by decide) (Nat.le_of_ble_eq_true rfl) rfl ((zput_par nd_0_51_52 rfl).trans rfl) ?_
    refine z_top (y := nI 4) rfl ?_
    refine z_istore C dL_orders_140 (Nat.le_of_ble_eq_true rfl) ?_
    refine z_lv (lv' := [some (.ref x0), some (.int (nI au)), some (.int g), some (.int h), some (.int (nI 0)), some (.int (nI (uU S 0))), some (.int (nI (mK S))), some (.int (nI 1)), some (.int (nI 4)), some (.int (nI 1)), none]) rfl ?_
    refine z_iload C dL_orders_142 rfl ?_
    refine z_nif_eq_f C 160 dL_orders_144 (by decide) (by omega) (by omega) ?_
    refine z_aload_n C 0 dL_orders_147 rfl rfl ?_
    refine z_iload_n C 1 dL_orders_148 rfl rfl ?_
    refine z_callV (wn := (WRd X.2.1 x0 h0 h1 w0 w1 t r S o kp Q (tyL tx [48 + dd, 48, 114, 45]) 4 ps3)) C kX5_run gL_orders_X5_run m4 dL_orders_149 [0, 1, 2, 3, 4, 5, 6, 7, 8, 9, 10, 11, 12, 13, 14, 15, 16, 17, 18, 19, 20, 21, 22, 23, 24, 25, 26, 27, 28, 29, 30, 31, 32, 33, 34, 35, 36, 37, 38, 39, 40, 41, 42, 43, 44, 45, 46, 47, 48, 49, 50, 51, 52] [] 0 rfl rfl nd_0_1_2_3_4_5_6_7_8_9_10_11_12_13_14_15_16_17_18_19_20_21_22_23_24_25_26_27_28_29_30_31_32_33_34_35_36_37_38_39_40_41_42_43_44_45_46_47_48_49_50_51_52 rfl rfl rfl (by decide) (by decide) (Nat.le_of_ble_eq_true rfl) rfl ((zput_par nd_0_1_2_3_4_5_6_7_8_9_10_11_12_13_14_15_16_17_18_19_20_21_22_23_24_25_26_27_28_29_30_31_32_33_34_35_36_37_38_39_40_41_42_43_44_45_46_47_48_49_50_51_52 rfl).trans rfl) ?_
    refine z_bipush C (-99) dL_orders_152 (by decide) ?_
    refine z_iload C dL_orders_154 rfl ?_
    refine z_isub C dL_orders_156 ?_
    refine z_top (y := (-103)) (by decide) ?_
    refine z_icmp_eq_t C 162 dL_orders_157 (by decide) rfl ?_
    refine z_aload_n C 0 dL_orders_162 rfl rfl ?_
    have htx2 : ∀ j, tyL tx [48 + dd, 48, 114, 45] j < 65536 := tyL_b htx (by intro c hc9; simp at hc9; omega)
    refine z_callV (wn := (WRd X.2.1 x0 h0 h1 w0 w1 t r S o kp Q (tyL (tyL tx [48 + dd, 48, 114, 45]) []) 0 ps3)) C kX5_clearText gL_orders_X5_clearText (l_clr X.2.1 x0 (t 0) h0 w0 w1 (tyL tx [48 + dd, 48, 114, 45]) 4 ps3 (by decide)) dL_orders_163 [0, 51, 52] [] 0 rfl rfl nd_0_51_52 rfl rfl rfl (by decide) (by decide) (Nat.le_of_ble_eq_true rfl) rfl ((zput_par nd_0_51_52 rfl).trans rfl) ?_
    refine z_pop C dL_orders_166 rfl ?_
    refine z_aload_n C 0 dL_orders_167 rfl rfl ?_
    refine z_bipush C (nI 43) dL_orders_168 (by decide) ?_
    refine z_callV (wn := (WRd X.2.1 x0 h0 h1 w0 w1 t r S o kp Q (tyL (tyL tx [48 + dd, 48, 114, 45]) [43]) 1 ps3)) C kX5_type gL_orders_X5_type (l_typ X.2.1 x0 (t 0) h0 w0 w1 (tyL tx [48 + dd, 48, 114, 45]) [] ps3 43 0 rfl (by decide) htx2 (fun c hc9 => absurd hc9 List.not_mem_nil) (by omega)) dL_orders_170 [0, 51, 52] [] 0 rfl rfl nd_0_51_52 rfl rfl rfl (by decide) (by decide) (Nat.le_of_ble_eq_true rfl) rfl ((zput_par nd_0_51_52 rfl).trans rfl) ?_
    refine z_top (y := nI 1) rfl ?_
    refine z_pop C dL_orders_173 rfl ?_
    refine z_aload_n C 0 dL_orders_174 rfl rfl ?_
    refine z_iload C dL_orders_175 rfl ?_
    refine z_nif_ne_f C 185 dL_orders_177 (by decide) (by omega) (by omega) ?_
    refine z_bipush C (nI 114) dL_orders_180 (by decide) ?_
    refine z_goto C 187 dL_orders_182 (by decide) ?_
    refine z_callV (wn := (WRd X.2.1 x0 h0 h1 w0 w1 t r S o kp Q (tyL (tyL tx [48 + dd, 48, 114, 45]) [114, 43]) 2 ps3)) C kX5_type gL_orders_X5_type (l_typ X.2.1 x0 (t 0) h0 w0 w1 (tyL tx [48 + dd, 48, 114, 45]) [43] ps3 114 1 rfl (by decide) htx2 (by intro c hc9; simp at hc9; omega) (by omega)) dL_orders_187 [0, 51, 52] [] 0 rfl rfl nd_0_51_52 rfl rfl rfl (by decide) (by decide) (Nat.le_of_ble_eq_true rfl) rfl ((zput_par nd_0_51_52 rfl).trans rfl) ?_
    refine z_top (y := nI 2) rfl ?_
    refine z_pop C dL_orders_190 rfl ?_
    refine z_aload_n C 0 dL_orders_191 rfl rfl ?_
    refine z_bipush C (nI 48) dL_orders_192 (by decide) ?_
    refine z_callV (wn := (WRd X.2.1 x0 h0 h1 w0 w1 t r S o kp Q (tyL (tyL tx [48 + dd, 48, 114, 45]) [48, 114, 43]) 3 ps3)) C kX5_type gL_orders_X5_type (l_typ X.2.1 x0 (t 0) h0 w0 w1 (tyL tx [48 + dd, 48, 114, 45]) [114, 43] ps3 48 2 rfl (by decide) htx2 (by intro c hc9; simp at hc9; omega) (by omega)) dL_orders_194 [0, 51, 52] [] 0 rfl rfl nd_0_51_52 rfl rfl rfl (by decide) (by decide) (Nat.le_of_ble_eq_true rfl) rfl ((zput_par nd_0_51_52 rfl).trans rfl) ?_
    refine z_top (y := nI 3) rfl ?_
    refine z_pop C dL_orders_197 rfl ?_
    refine z_aload_n C 0 dL_orders_198 rfl rfl ?_
    refine z_bipush C (nI 32) dL_orders_199 (by decide) ?_
    refine z_callV (wn := (WRd X.2.1 x0 h0 h1 w0 w1 t r S o kp Q (tyL (tyL tx [48 + dd, 48, 114, 45]) [32, 48, 114, 43]) 4 ps3)) C kX5_type gL_orders_X5_type (l_typ X.2.1 x0 (t 0) h0 w0 w1 (tyL tx [48 + dd, 48, 114, 45]) [48, 114, 43] ps3 32 3 rfl (by decide) htx2 (by intro c hc9; simp at hc9; omega) (by omega)) dL_orders_201 [0, 51, 52] [] 0 rfl rfl nd_0_51_52 rfl rfl rfl (by decide) (by decide) (Nat.le_of_ble_eq_true rfl) rfl ((zput_par nd_0_51_52 rfl).trans rfl) ?_
    refine z_top (y := nI 4) rfl ?_
    refine z_pop C dL_orders_204 rfl ?_
    refine z_aload_n C 0 dL_orders_205 rfl rfl ?_
    refine z_bipush C (nI 43) dL_orders_206 (by decide) ?_
    refine z_callV (wn := (WRd X.2.1 x0 h0 h1 w0 w1 t r S o kp Q (tyL (tyL tx [48 + dd, 48, 114, 45]) [43, 32, 48, 114, 43]) 5 ps3)) C kX5_type gL_orders_X5_type (l_typ X.2.1 x0 (t 0) h0 w0 w1 (tyL tx [48 + dd, 48, 114, 45]) [32, 48, 114, 43] ps3 43 4 rfl (by decide) htx2 (by intro c hc9; simp at hc9; omega) (by omega)) dL_orders_208 [0, 51, 52] [] 0 rfl rfl nd_0_51_52 rfl rfl rfl (by decide) (by decide) (Nat.le_of_ble_eq_true rfl) rfl ((zput_par nd_0_51_52 rfl).trans rfl) ?_
    refine z_top (y := nI 5) rfl ?_
    refine z_pop C dL_orders_211 rfl ?_
    refine z_aload_n C 0 dL_orders_212 rfl rfl ?_
    refine z_iload C dL_orders_213 rfl ?_
    refine z_nif_ne_f C 223 dL_orders_215 (by decide) (by omega) (by omega) ?_
    refine z_bipush C (nI 114) dL_orders_218 (by decide) ?_
    refine z_goto C 225 dL_orders_220 (by decide) ?_
    refine z_callV (wn := (WRd X.2.1 x0 h0 h1 w0 w1 t r S o kp Q (tyL (tyL tx [48 + dd, 48, 114, 45]) [114, 43, 32, 48, 114, 43]) 6 ps3)) C kX5_type gL_orders_X5_type (l_typ X.2.1 x0 (t 0) h0 w0 w1 (tyL tx [48 + dd, 48, 114, 45]) [43, 32, 48, 114, 43] ps3 114 5 rfl (by decide) htx2 (by intro c hc9; simp at hc9; omega) (by omega)) dL_orders_225 [0, 51, 52] [] 0 rfl rfl nd_0_51_52 rfl rfl rfl (by decide) (by decide) (Nat.le_of_ble_eq_true rfl) rfl ((zput_par nd_0_51_52 rfl).trans rfl) ?_
    refine z_top (y := nI 6) rfl ?_
    refine z_pop C dL_orders_228 rfl ?_
    refine z_aload_n C 0 dL_orders_229 rfl rfl ?_
    refine z_bipush C (nI 57) dL_orders_230 (by decide) ?_
    refine z_callV (wn := (WRd X.2.1 x0 h0 h1 w0 w1 t r S o kp Q (tyL (tyL tx [48 + dd, 48, 114, 45]) [57, 114, 43, 32, 48, 114, 43]) 7 ps3)) C kX5_type gL_orders_X5_type (l_typ X.2.1 x0 (t 0) h0 w0 w1 (tyL tx [48 + dd, 48, 114, 45]) [114, 43, 32, 48, 114, 43] ps3 57 6 rfl (by decide) htx2 (by intro c hc9; simp at hc9; omega) (by omega)) dL_orders_232 [0, 51, 52] [] 0 rfl rfl nd_0_51_52 rfl rfl rfl (by decide) (by decide) (Nat.le_of_ble_eq_true rfl) rfl ((zput_par nd_0_51_52 rfl).trans rfl) ?_
    refine z_top (y := nI 7) rfl ?_
    refine z_pop C dL_orders_235 rfl ?_
    refine z_aload_n C 0 dL_orders_236 rfl rfl ?_
    refine z_bipush C (nI 57) dL_orders_237 (by decide) ?_
    refine z_callV (wn := (WRd X.2.1 x0 h0 h1 w0 w1 t r S o kp Q (tyL (tyL tx [48 + dd, 48, 114, 45]) [57, 57, 114, 43, 32, 48, 114, 43]) 8 ps3)) C kX5_type gL_orders_X5_type (l_typ X.2.1 x0 (t 0) h0 w0 w1 (tyL tx [48 + dd, 48, 114, 45]) [57, 114, 43, 32, 48, 114, 43] ps3 57 7 rfl (by decide) htx2 (by intro c hc9; simp at hc9; omega) (by omega)) dL_orders_239 [0, 51, 52] [] 0 rfl rfl nd_0_51_52 rfl rfl rfl (by decide) (by decide) (Nat.le_of_ble_eq_true rfl) rfl ((zput_par nd_0_51_52 rfl).trans rfl) ?_
    refine z_top (y := nI 8) rfl ?_
    refine z_istore C dL_orders_242 (Nat.le_of_ble_eq_true rfl) ?_
    refine z_lv (lv' := [some (.ref x0), some (.int (nI au)), some (.int g), some (.int h), some (.int (nI 0)), some (.int (nI (uU S 0))), some (.int (nI (mK S))), some (.int (nI 1)), some (.int (nI 8)), some (.int (nI 1)), none]) rfl ?_
    refine z_iload C dL_orders_244 rfl ?_
    refine z_iload C dL_orders_246 rfl ?_
    refine z_nif_ne_f C 256 dL_orders_248 (by decide) (by omega) (by omega) ?_
    refine z_bipush C (nI 12) dL_orders_251 (by decide) ?_
    refine z_goto C 258 dL_orders_253 (by decide) ?_
    refine z_ncmp_eq_t C 273 dL_orders_258 (by decide) (by omega) (by omega) (by omega) ?_
    refine z_iconst C (nI 0) dL_orders_273 (by decide) ?_
    refine z_goto C 278 dL_orders_274 (by decide) ?_
    refine z_istore C dL_orders_278 (Nat.le_of_ble_eq_true rfl) ?_
    refine z_lv (lv' := [some (.ref x0), some (.int (nI au)), some (.int g), some (.int h), some (.int (nI 0)), some (.int (nI (uU S 0))), some (.int (nI (mK S))), some (.int (nI 1)), some (.int (nI 8)), some (.int (nI 1)), some (.int (nI 0))]) rfl ?_
    refine z_aload_n C 0 dL_orders_280 rfl rfl ?_
    refine z_iload_n C 1 dL_orders_281 rfl rfl ?_
    refine z_callV (wn := (WRd X.2.1 x0 h0 h1 w0 w1 t r S1 o1 kp1 Q1 (tyL (tyL tx [48 + dd, 48, 114, 45]) [57, 57, 114, 43, 32, 48, 114, 43]) 8 ps4)) C kX5_run gL_orders_X5_run m5 dL_orders_282 [0, 1, 2, 3, 4, 5, 6, 7, 8, 9, 10, 11, 12, 13, 14, 15, 16, 17, 18, 19, 20, 21, 22, 23, 24, 25, 26, 27, 28, 29, 30, 31, 32, 33, 34, 35, 36, 37, 38, 39, 40, 41, 42, 43, 44, 45, 46, 47, 48, 49, 50, 51, 52] [] 0 rfl rfl nd_0_1_2_3_4_5_6_7_8_9_10_11_12_13_14_15_16_17_18_19_20_21_22_23_24_25_26_27_28_29_30_31_32_33_34_35_36_37_38_39_40_41_42_43_44_45_46_47_48_49_50_51_52 rfl rfl rfl (by decide) (by decide) (Nat.le_of_ble_eq_true rfl) rfl ((zput_par nd_0_1_2_3_4_5_6_7_8_9_10_11_12_13_14_15_16_17_18_19_20_21_22_23_24_25_26_27_28_29_30_31_32_33_34_35_36_37_38_39_40_41_42_43_44_45_46_47_48_49_50_51_52 rfl).trans rfl) ?_
    refine z_iload C dL_orders_285 rfl ?_
    refine z_ncmp_ne_f C 305 dL_orders_287 (by decide) (by omega) (by omega) (by omega) ?_
    refine z_aload_n C 0 dL_orders_290 rfl rfl ?_
    refine z_iconst C (nI 0) dL_orders_291 (by decide) ?_
    refine z_iload C dL_orders_292 rfl ?_
    refine z_callVr C kX5_size gL_orders_X5_size (l_size0 X.2.1 x0 h0 w0 t S1 0 hG1 (by decide)) dL_orders_294 [0, 1, 2, 3, 4, 5, 6, 7, 8] [] 0 rfl nd_0_1_2_3_4_5_6_7_8 rfl rfl rfl (by decide) (by decide) (Nat.le_of_ble_eq_true rfl) rfl ?_
    refine z_iload C dL_orders_297 rfl ?_
    refine z_iload C dL_orders_299 rfl ?_
    refine z_iadd C dL_orders_301 ?_
    refine z_top (y := nI (uU S 0)) (nI_add _ _) ?_
    refine z_ncmp_eq_t C 307 dL_orders_302 (by decide) (by omega) (by omega) (by omega) ?_
    refine z_aload_n C 0 dL_orders_307 rfl rfl ?_
    refine z_bipush C (nI 57) dL_orders_308 (by decide) ?_
    refine z_callV (wn := (WRd X.2.1 x0 h0 h1 w0 w1 t r S1 o1 kp1 Q1 (tyL (tyL tx [48 + dd, 48, 114, 45]) [57, 57, 57, 114, 43, 32, 48, 114, 43]) 9 ps4)) C kX5_type gL_orders_X5_type (l_typ X.2.1 x0 (t 0) h0 w0 w1 (tyL tx [48 + dd, 48, 114, 45]) [57, 57, 114, 43, 32, 48, 114, 43] ps4 57 8 rfl (by decide) htx2 (by intro c hc9; simp at hc9; omega) (by omega)) dL_orders_310 [0, 51, 52] [] 0 rfl rfl nd_0_51_52 rfl rfl rfl (by decide) (by decide) (Nat.le_of_ble_eq_true rfl) rfl ((zput_par nd_0_51_52 rfl).trans rfl) ?_
    refine z_top (y := nI 9) rfl ?_
    refine z_pop C dL_orders_313 rfl ?_
    refine z_aload_n C 0 dL_orders_314 rfl rfl ?_
    refine z_iload_n C 1 dL_orders_315 rfl rfl ?_
    refine z_callV (wn := (WRd X.2.1 x0 h0 h1 w0 w1 t r S1 o1 kp1 Q1 (tyL (tyL tx [48 + dd, 48, 114, 45]) [57, 57, 57, 114, 43, 32, 48, 114, 43]) 9 ps5)) C kX5_run gL_orders_X5_run m6 dL_orders_316 [0, 1, 2, 3, 4, 5, 6, 7, 8, 9, 10, 11, 12, 13, 14, 15, 16, 17, 18, 19, 20, 21, 22, 23, 24, 25, 26, 27, 28, 29, 30, 31, 32, 33, 34, 35, 36, 37, 38, 39, 40, 41, 42, 43, 44, 45, 46, 47, 48, 49, 50, 51, 52] [] 0 rfl rfl nd_0_1_2_3_4_5_6_7_8_9_10_11_12_13_14_15_16_17_18_19_20_21_22_23_24_25_26_27_28_29_30_31_32_33_34_35_36_37_38_39_40_41_42_43_44_45_46_47_48_49_50_51_52 rfl rfl rfl (by decide) (by decide) (Nat.le_of_ble_eq_true rfl) rfl ((zput_par nd_0_1_2_3_4_5_6_7_8_9_10_11_12_13_14_15_16_17_18_19_20_21_22_23_24_25_26_27_28_29_30_31_32_33_34_35_36_37_38_39_40_41_42_43_44_45_46_47_48_49_50_51_52 rfl).trans rfl) ?_
    refine z_bipush C (-100) dL_orders_319 (by decide) ?_
    refine z_iload C dL_orders_321 rfl ?_
    refine z_isub C dL_orders_323 ?_
    refine z_top (y := (-108)) (by decide) ?_
    refine z_icmp_ne_f C 360 dL_orders_324 (by decide) rfl ?_
    refine z_aload_n C 0 dL_orders_327 rfl rfl ?_
    refine z_callV (wn := (WRd X.2.1 x0 h0 h1 w0 w1 t r S o2 kp2 Q1 (tyL (tyL tx [48 + dd, 48, 114, 45]) [57, 57, 57, 114, 43, 32, 48, 114, 43]) 9 ps5)) C kX5_undo gL_orders_X5_undo m7 dL_orders_328 [0, 1, 2, 3, 4, 5, 6, 7, 8, 9, 10, 11, 12, 13, 14, 15, 16, 17, 18, 19, 20, 21, 22, 23, 24, 25, 26, 27, 28, 29, 30, 31, 32, 33, 34, 35, 36, 37, 38, 39, 40, 41, 42, 43, 44, 45, 46, 47, 48, 49, 50] [] 0 rfl rfl nd_0_1_2_3_4_5_6_7_8_9_10_11_12_13_14_15_16_17_18_19_20_21_22_23_24_25_26_27_28_29_30_31_32_33_34_35_36_37_38_39_40_41_42_43_44_45_46_47_48_49_50 rfl rfl rfl (by decide) (by decide) (Nat.le_of_ble_eq_true rfl) rfl ((zput_par nd_0_1_2_3_4_5_6_7_8_9_10_11_12_13_14_15_16_17_18_19_20_21_22_23_24_25_26_27_28_29_30_31_32_33_34_35_36_37_38_39_40_41_42_43_44_45_46_47_48_49_50 rfl).trans rfl) ?_
    refine z_nif_lt_f C 360 dL_orders_331 (by decide) (by omega) (by trivial) ?_
    refine z_aload_n C 0 dL_orders_334 rfl rfl ?_
    refine z_iconst C (nI 0) dL_orders_335 (by decide) ?_
    refine z_iload C dL_orders_336 rfl ?_
    refine z_callVr C kX5_size gL_orders_X5_size (l_size0 X.2.1 x0 h0 w0 t S 0 hG (by decide)) dL_orders_338 [0, 1, 2, 3, 4, 5, 6, 7, 8] [] 0 rfl nd_0_1_2_3_4_5_6_7_8 rfl rfl rfl (by decide) (by decide) (Nat.le_of_ble_eq_true rfl) rfl ?_
    refine z_iload C dL_orders_341 rfl ?_
    refine z_ncmp_ne_f C 360 dL_orders_343 (by decide) (by omega) (by omega) (by omega) ?_
    refine z_aload_n C 0 dL_orders_346 rfl rfl ?_
    refine z_iconst C (nI 0) dL_orders_347 (by decide) ?_
    refine z_callVr C kX5_count gL_orders_X5_count (l_cnt0 X.2.1 x0 h0 h1 w0 w1 t S o2 kp2 9 ps5  hG ) dL_orders_348 [0, 1, 2, 3, 4, 5, 6, 7, 8, 9, 51] [] 0 rfl nd_0_1_2_3_4_5_6_7_8_9_51 rfl rfl rfl (by decide) (by decide) (Nat.le_of_ble_eq_true rfl) rfl ?_
    refine z_iload C dL_orders_351 rfl ?_
    refine z_ncmp_ne_f C 360 dL_orders_353 (by decide) (by omega) (by omega) (by omega) ?_
    refine z_iconst C (nI 1) dL_orders_356 (by decide) ?_
    refine z_goto C 361 dL_orders_357 (by decide) ?_
    exact z_zret C N dL_orders_361 rfl (rfl) (rfl)

set_option maxHeartbeats 4000000 in
set_option maxRecDepth 100000 in
theorem w_ord10y (E : zE) (x0 h0 h1 w0 w1 : Nat) (t : Nat → Nat) (r : Nat → Nat → Nat) (S S1 : zSt) (o kp o1 o2 kp1 kp2 : Nat) (Q Q1 : Nat → zSt) (tx : Nat → Nat) (ln : Nat) (ps ps1 ps2 ps3 ps4 ps5 : zPs) {B B1 : Nat} (au : Nat) (g h : Int32) (dd lf : Nat) (hG : GG S B) (hG1 : GG S1 B1) (hau : au < 4) (hg1 : g &&& (nI 1) = nI 1) (hg2 : g &&& (nI 2) = 0) (hd : lw h 10 = dd) (hdd : dd < 10) (hln : ln ≤ 60) (htx : ∀ j, tx j < 65536) (hlf : lf < 100) (hu : uU S1 1 = uU S 1 + 1) (hf : uU S 1 < 8) (ht : tK S = false) (m1 : zM E yX5_run wsX5_run 8 [.ref x0, .int (nI au)] (WRd E x0 h0 h1 w0 w1 t r S o kp Q (tyL tx []) 0 ps) (WRd E x0 h0 h1 w0 w1 t r S o kp Q (tyL tx []) 0 ps1) (some (.int (-100)))) (m2 : zM E yX5_run wsX5_run 8 [.ref x0, .int (nI 4)] (WRd E x0 h0 h1 w0 w1 t r S o kp Q (tyL tx []) 0 ps1) (WRd E x0 h0 h1 w0 w1 t r S o kp Q (tyL tx []) 0 ps1) (some (.int (-1)))) (m3 : zM E yX5_run wsX5_run 8 [.ref x0, .int (nI au)] (WRd E x0 h0 h1 w0 w1 t r S o kp Q (tyL tx [43]) 1 ps1) (WRd E x0 h0 h1 w0 w1 t r S o kp Q (tyL tx [43]) 1 ps2) (some (.int (-101)))) (m4 : zM E yX5_run wsX5_run 8 [.ref x0, .int (nI au)] (WRd E x0 h0 h1 w0 w1 t r S o kp Q (tyL tx [48 + dd, 48, 99, 43]) 4 ps2) (WRd E x0 h0 h1 w0 w1 t r S o kp Q (tyL tx [48 + dd, 48, 99, 43]) 4 ps3) (some (.int (-103)))) (m5 : zM E yX5_run wsX5_run 8 [.ref x0, .int (nI au)] (WRd E x0 h0 h1 w0 w1 t r S o kp Q (tyL (tyL tx [48 + dd, 48, 99, 43]) [57, 57, 99, 43, 32, 48, 99, 43]) 8 ps3) (WRd E x0 h0 h1 w0 w1 t r S1 o1 kp1 Q1 (tyL (tyL tx [48 + dd, 48, 99, 43]) [57, 57, 99, 43, 32, 48, 99, 43]) 8 ps4) (some (.int (nI 1)))) (m6 : zM E yX5_run wsX5_run 8 [.ref x0, .int (nI au)] (WRd E x0 h0 h1 w0 w1 t r S1 o1 kp1 Q1 (tyL (tyL tx [48 + dd, 48, 99, 43]) [57, 57, 57, 99, 43, 32, 48, 99, 43]) 9 ps4) (WRd E x0 h0 h1 w0 w1 t r S1 o1 kp1 Q1 (tyL (tyL tx [48 + dd, 48, 99, 43]) [57, 57, 57, 99, 43, 32, 48, 99, 43]) 9 ps5) (some (.int (-108)))) (m7 : zM E yX5_undo wsX5_undo 5 [.ref x0] (WAd E x0 h0 h1 w0 t r S1 o1 kp1 Q1) (WAd E x0 h0 h1 w0 t r S o2 kp2 Q1) (some (.int (nI lf)))) : zM E yL_orders wsL_orders 9 [.ref x0, .int (nI au), .int g, .int h] (WRd E x0 h0 h1 w0 w1 t r S o kp Q tx ln ps) (WRd E x0 h0 h1 w0 w1 t r S o2 kp2 Q1 (tyL (tyL tx [48 + dd, 48, 99, 43]) [57, 57, 57, 99, 43, 32, 48, 99, 43]) 9 ps5) (some (.int (nI 1))) := by
  refine zM.of kL_orders (Nat.le_of_ble_eq_true rfl) rfl [some (.ref x0), some (.int (nI au)), some (.int g), some (.int h), none, none, none, none, none, none, none] rfl (Nat.le_of_ble_eq_true rfl) ?_
  intro X eX C N
  subst eX
  have hb0 : uU S 0 ≤ 12 := gg_u hG 0
  have hb1 : uU S 1 ≤ 8 := gg_u1 hG
  have hb2 : mK S ≤ 60 := gg_M hG
  have hb3 : uU S1 0 ≤ 12 := gg_u hG1 0
  have hb4 : uU S1 1 ≤ 8 := gg_u1 hG1
  have hb5 : mK S1 ≤ 60 := gg_M hG1
  refine z_aload_n C 0 dL_orders_0 rfl rfl ?_
  refine z_callV (wn := (WRd X.2.1 x0 h0 h1 w0 w1 t r S o kp Q (tyL tx []) 0 ps)) C kX5_clearText gL_orders_X5_clearText (l_clr X.2.1 x0 (t 0) h0 w0 w1 tx ln ps hln) dL_orders_1 [0, 51, 52] [] 0 rfl rfl nd_0_51_52 rfl rfl rfl (by decide) (by decide) (Nat.le_of_ble_eq_true rfl) rfl ((zput_par nd_0_51_52 rfl).trans rfl) ?_
  refine z_pop C dL_orders_4 rfl ?_
  refine z_aload_n C 0 dL_orders_5 rfl rfl ?_
  refine z_iload_n C 1 dL_orders_6 rfl rfl ?_
  refine z_callV (wn := (WRd X.2.1 x0 h0 h1 w0 w1 t r S o kp Q (tyL tx []) 0 ps1)) C kX5_run gL_orders_X5_run m1 dL_orders_7 [0, 1, 2, 3, 4, 5, 6, 7, 8, 9, 10, 11, 12, 13, 14, 15, 16, 17, 18, 19, 20, 21, 22, 23, 24, 25, 26, 27, 28, 29, 30, 31, 32, 33, 34, 35, 36, 37, 38, 39, 40, 41, 42, 43, 44, 45, 46, 47, 48, 49, 50, 51, 52] [] 0 rfl rfl nd_0_1_2_3_4_5_6_7_8_9_10_11_12_13_14_15_16_17_18_19_20_21_22_23_24_25_26_27_28_29_30_31_32_33_34_35_36_37_38_39_40_41_42_43_44_45_46_47_48_49_50_51_52 rfl rfl rfl (by decide) (by decide) (Nat.le_of_ble_eq_true rfl) rfl ((zput_par nd_0_1_2_3_4_5_6_7_8_9_10_11_12_13_14_15_16_17_18_19_20_21_22_23_24_25_26_27_28_29_30_31_32_33_34_35_36_37_38_39_40_41_42_43_44_45_46_47_48_49_50_51_52 rfl).trans rfl) ?_
  refine z_bipush C (-100) dL_orders_10 (by decide) ?_
  refine z_icmp_ne_f C 24 dL_orders_12 (by decide) rfl ?_
  refine z_aload_n C 0 dL_orders_15 rfl rfl ?_
  refine z_iconst C (nI 4) dL_orders_16 (by decide) ?_
  refine z_callV (wn := (WRd X.2.1 x0 h0 h1 w0 w1 t r S o kp Q (tyL tx []) 0 ps1)) C kX5_run gL_orders_X5_run m2 dL_orders_17 [0, 1, 2, 3, 4, 5, 6, 7, 8, 9, 10, 11, 12, 13, 14, 15, 16, 17, 18, 19, 20, 21, 22, 23, 24, 25, 26, 27, 28, 29, 30, 31, 32, 33, 34, 35, 36, 37, 38, 39, 40, 41, 42, 43, 44, 45, 46, 47, 48, 49, 50, 51, 52] [] 0 rfl rfl nd_0_1_2_3_4_5_6_7_8_9_10_11_12_13_14_15_16_17_18_19_20_21_22_23_24_25_26_27_28_29_30_31_32_33_34_35_36_37_38_39_40_41_42_43_44_45_46_47_48_49_50_51_52 rfl rfl rfl (by decide) (by decide) (Nat.le_of_ble_eq_true rfl) rfl ((zput_par nd_0_1_2_3_4_5_6_7_8_9_10_11_12_13_14_15_16_17_18_19_20_21_22_23_24_25_26_27_28_29_30_31_32_33_34_35_36_37_38_39_40_41_42_43_44_45_46_47_48_49_50_51_52 rfl).trans rfl) ?_
  refine z_iconst C (-1) dL_orders_20 (by decide) ?_
  refine z_icmp_eq_t C 26 dL_orders_21 (by decide) rfl ?_
  refine z_iload_n C 2 dL_orders_26 rfl rfl ?_
  refine z_iconst C (nI 1) dL_orders_27 (by decide) ?_
  refine z_iand C dL_orders_28 ?_
  refine z_top (y := nI 1) (hg1) ?_
  refine z_istore C dL_orders_29 (Nat.le_of_ble_eq_true rfl) ?_
  refine z_lv (lv' := [some (.ref x0), some (.int (nI au)), some (.int g), some (.int h), some (.int (nI 1)), none, none, none, none, none, none]) rfl ?_
  refine z_aload_n C 0 dL_orders_31 rfl rfl ?_
  refine z_iconst C (nI 0) dL_orders_32 (by decide) ?_
  refine z_iload C dL_orders_33 rfl ?_
  refine z_callVr C kX5_size gL_orders_X5_size (l_size0 X.2.1 x0 h0 w0 t S 1 hG (by decide)) dL_orders_35 [0, 1, 2, 3, 4, 5, 6, 7, 8] [] 0 rfl nd_0_1_2_3_4_5_6_7_8 rfl rfl rfl (by decide) (by decide) (Nat.le_of_ble_eq_true rfl) rfl ?_
  refine z_istore C dL_orders_38 (Nat.le_of_ble_eq_true rfl) ?_
  refine z_lv (lv' := [some (.ref x0), some (.int (nI au)), some (.int g), some (.int h), some (.int (nI 1)), some (.int (nI (uU S 1))), none, none, none, none, none]) rfl ?_
  refine z_aload_n C 0 dL_orders_40 rfl rfl ?_
  refine z_iconst C (nI 0) dL_orders_41 (by decide) ?_
  refine z_callVr C kX5_count gL_orders_X5_count (l_cnt0 X.2.1 x0 h0 h1 w0 w1 t S o kp 0 ps1  hG ) dL_orders_42 [0, 1, 2, 3, 4, 5, 6, 7, 8, 9, 51] [] 0 rfl nd_0_1_2_3_4_5_6_7_8_9_51 rfl rfl rfl (by decide) (by decide) (Nat.le_of_ble_eq_true rfl) rfl ?_
  refine z_istore C dL_orders_45 (Nat.le_of_ble_eq_true rfl) ?_
  refine z_lv (lv' := [some (.ref x0), some (.int (nI au)), some (.int g), some (.int h), some (.int (nI 1)), some (.int (nI (uU S 1))), some (.int (nI (mK S))), none, none, none, none]) rfl ?_
  refine z_aload_n C 0 dL_orders_47 rfl rfl ?_
  refine z_iconst C (nI 5) dL_orders_48 (by decide) ?_
  refine z_callVr C kX5_count gL_orders_X5_count (l_cnt5n X.2.1 x0 h0 h1 w0 w1 t S o kp 0 ps1  hG ht) dL_orders_49 [0, 1, 2, 3, 4, 5, 6, 7, 8, 9, 51] [] 0 rfl nd_0_1_2_3_4_5_6_7_8_9_51 rfl rfl rfl (by decide) (by decide) (Nat.le_of_ble_eq_true rfl) rfl ?_
  refine z_iconst C (nI 1) dL_orders_52 (by decide) ?_
  refine z_ncmp_ne_t C 60 dL_orders_53 (by decide) (by omega) (by omega) (by omega) ?_
  refine z_iconst C (nI 0) dL_orders_60 (by decide) ?_
  refine z_istore C dL_orders_61 (Nat.le_of_ble_eq_true rfl) ?_
  refine z_lv (lv' := [some (.ref x0), some (.int (nI au)), some (.int g), some (.int h), some (.int (nI 1)), some (.int (nI (uU S 1))), some (.int (nI (mK S))), some (.int (nI 0)), none, none, none]) rfl ?_
  refine z_aload_n C 0 dL_orders_63 rfl rfl ?_
  refine z_iload_n C 2 dL_orders_64 rfl rfl ?_
  refine z_iconst C (nI 2) dL_orders_65 (by decide) ?_
  refine z_iand C dL_orders_66 ?_
  refine z_if_ne_f C 75 dL_orders_67 (by decide) hg2 ?_
  refine z_bipush C (nI 43) dL_orders_70 (by decide) ?_
  refine z_goto C 77 dL_orders_72 (by decide) ?_
  refine z_callV (wn := (WRd X.2.1 x0 h0 h1 w0 w1 t r S o kp Q (tyL tx [43]) 1 ps1)) C kX5_type gL_orders_X5_type (l_typ X.2.1 x0 (t 0) h0 w0 w1 tx [] ps1 43 0 rfl (by decide) htx (fun c hc9 => absurd hc9 List.not_mem_nil) (by omega)) dL_orders_77 [0, 51, 52] [] 0 rfl rfl nd_0_51_52 rfl rfl rfl (by decide) (by decide) (Nat.le_of_ble_eq_true rfl) rfl ((zput_par nd_0_51_52 rfl).trans rfl) ?_
  refine z_top (y := nI 1) rfl ?_
  refine z_istore C dL_orders_80 (Nat.le_of_ble_eq_true rfl) ?_
  refine z_lv (lv' := [some (.ref x0), some (.int (nI au)), some (.int g), some (.int h), some (.int (nI 1)), some (.int (nI (uU S 1))), some (.int (nI (mK S))), some (.int (nI 0)), some (.int (nI 1)), none, none]) rfl ?_
  refine z_aload_n C 0 dL_orders_82 rfl rfl ?_
  refine z_iload_n C 1 dL_orders_83 rfl rfl ?_
  refine z_callV (wn := (WRd X.2.1 x0 h0 h1 w0 w1 t r S o kp Q (tyL tx [43]) 1 ps2)) C kX5_run gL_orders_X5_run m3 dL_orders_84 [0, 1, 2, 3, 4, 5, 6, 7, 8, 9, 10, 11, 12, 13, 14, 15, 16, 17, 18, 19, 20, 21, 22, 23, 24, 25, 26, 27, 28, 29, 30, 31, 32, 33, 34, 35, 36, 37, 38, 39, 40, 41, 42, 43, 44, 45, 46, 47, 48, 49, 50, 51, 52] [] 0 rfl rfl nd_0_1_2_3_4_5_6_7_8_9_10_11_12_13_14_15_16_17_18_19_20_21_22_23_24_25_26_27_28_29_30_31_32_33_34_35_36_37_38_39_40_41_42_43_44_45_46_47_48_49_50_51_52 rfl rfl rfl (by decide) (by decide) (Nat.le_of_ble_eq_true rfl) rfl ((zput_par nd_0_1_2_3_4_5_6_7_8_9_10_11_12_13_14_15_16_17_18_19_20_21_22_23_24_25_26_27_28_29_30_31_32_33_34_35_36_37_38_39_40_41_42_43_44_45_46_47_48_49_50_51_52 rfl).trans rfl) ?_
  refine z_bipush C (-100) dL_orders_87 (by decide) ?_
  refine z_iload C dL_orders_89 rfl ?_
  refine z_isub C dL_orders_91 ?_
  refine z_top (y := (-101)) (by decide) ?_
  refine z_icmp_ne_f C 99 dL_orders_92 (by decide) rfl ?_
  refine z_iconst C (nI 1) dL_orders_95 (by decide) ?_
  refine z_goto C 100 dL_orders_96 (by decide) ?_
  refine z_istore C dL_orders_100 (Nat.le_of_ble_eq_true rfl) ?_
  refine z_lv (lv' := [some (.ref x0), some (.int (nI au)), some (.int g), some (.int h), some (.int (nI 1)), some (.int (nI (uU S 1))), some (.int (nI (mK S))), some (.int (nI 0)), some (.int (nI 1)), some (.int (nI 1)), none]) rfl ?_
  refine z_aload_n C 0 dL_orders_102 rfl rfl ?_
  refine z_iload C dL_orders_103 rfl ?_
  refine z_nif_ne_t C 113 dL_orders_105 (by decide) (by omega) (by omega) ?_
  refine z_bipush C (nI 99) dL_orders_113 (by decide) ?_
  refine z_callV (wn := (WRd X.2.1 x0 h0 h1 w0 w1 t r S o kp Q (tyL tx [99, 43]) 2 ps2)) C kX5_type gL_orders_X5_type (l_typ X.2.1 x0 (t 0) h0 w0 w1 tx [43] ps2 99 1 rfl (by decide) htx (by intro c hc9; simp at hc9; omega) (by omega)) dL_orders_115 [0, 51, 52] [] 0 rfl rfl nd_0_51_52 rfl rfl rfl (by decide) (by decide) (Nat.le_of_ble_eq_true rfl) rfl ((zput_par nd_0_51_52 rfl).trans rfl) ?_
  refine z_top (y := nI 2) rfl ?_
  refine z_pop C dL_orders_118 rfl ?_
  refine z_aload_n C 0 dL_orders_119 rfl rfl ?_
  refine z_bipush C (nI 48) dL_orders_120 (by decide) ?_
  refine z_callV (wn := (WRd X.2.1 x0 h0 h1 w0 w1 t r S o kp Q (tyL tx [48, 99, 43]) 3 ps2)) C kX5_type gL_orders_X5_type (l_typ X.2.1 x0 (t 0) h0 w0 w1 tx [99, 43] ps2 48 2 rfl (by decide) htx (by intro c hc9; simp at hc9; omega) (by omega)) dL_orders_122 [0, 51, 52] [] 0 rfl rfl nd_0_51_52 rfl rfl rfl (by decide) (by decide) (Nat.le_of_ble_eq_true rfl) rfl ((zput_par nd_0_51_52 rfl).trans rfl) ?_
  refine z_top (y := nI 3) rfl ?_
  refine z_pop C dL_orders_125 rfl ?_
  refine z_aload_n C 0 dL_orders_126 rfl rfl ?_
  refine z_bipush C (nI 48) dL_orders_127 (by decide) ?_
  refine z_iload_n C 3 dL_orders_129 rfl rfl ?_
  refine z_bipush C (nI 10) dL_orders_130 (by decide) ?_
  refine z_callS C kL_low gL_orders_L_low (l_low X.2.1 h 10 (by decide) (by decide)) dL_orders_132 [.int (nI 48), .ref x0] rfl (by decide) (by decide) (Nat.le_of_ble_eq_true rfl) rfl ?_
  refine z_top (y := nI dd) (congrArg nI hd) ?_
  refine z_iadd C dL_orders_135 ?_
  refine z_top (y := nI (48 + dd)) (nI_add _ _) ?_
  refine z_i2c C (nI (48 + dd)) dL_orders_136 (chr_n (by omega)) ?_
  refine z_callV (wn := (WRd X.2.1 x0 h0 h1 w0 w1 t r S o kp Q (tyL tx [48 + dd, 48, 99, 43]) 4 ps2)) C kX5_type gL_orders_X5_type (l_typ X.2.1 x0 (t 0) h0 w0 w1 tx [48, 99, 43] ps2 (48 + dd) 3 rfl (by decide) htx (by intro c hc9; simp at hc9; omega) (by omega)) dL_orders_137 [0, 51, 52] [] 0 rfl rfl nd_0_51_52 rfl rfl rfl (by decide) (by decide) (Nat.le_of_ble_eq_true rfl) rfl ((zput_par nd_0_51_52 rfl).trans rfl) ?_
  refine z_top (y := nI 4) rfl ?_
  refine z_istore C dL_orders_140 (Nat.le_of_ble_eq_true rfl) ?_
  refine z_lv (lv' := [some (.ref x0), some (.int (nI au)), some (.int g), some (.int h), some (.int (nI 1)), some (.int (nI (uU S 1))), some (.int (nI (mK S))), some (.int (nI 0)), some (.int (nI 4)), some (.int (nI 1)), none]) rfl ?_
  refine z_iload C dL_orders_142 rfl ?_
  refine z_nif_eq_f C 160 dL_orders_144 (by decide) (by omega) (by omega) ?_
  refine z_aload_n C 0 dL_orders_147 rfl rfl ?_
  refine z_iload_n C 1 dL_orders_148 rfl rfl ?_
  refine z_callV (wn := (WRd X.2.1 x0 h0 h1 w0 w1 t r S o kp Q (tyL tx [48 + dd, 48, 99, 43]) 4 ps3)) C kX5_run gL_orders_X5_run m4 dL_orders_149 [0, 1, 2, 3, 4, 5, 6, 7, 8, 9, 10, 11, 12, 13, 14, 15, 16, 17, 18, 19, 20, 21, 22, 23, 24, 25, 26, 27, 28, 29, 30, 31, 32, 33, 34, 35, 36, 37, 38, 39, 40, 41, 42, 43, 44, 45, 46, 47, 48, 49, 50, 51, 52] [] 0 rfl rfl nd_0_1_2_3_4_5_6_7_8_9_10_11_12_13_14_15_16_17_18_19_20_21_22_23_24_25_26_27_28_29_30_31_32_33_34_35_36_37_38_39_40_41_42_43_44_45_46_47_48_49_50_51_52 rfl rfl rfl (by decide) (by decide) (Nat.le_of_ble_eq_true rfl) rfl ((zput_par nd_0_1_2_3_4_5_6_7_8_9_10_11_12_13_14_15_16_17_18_19_20_21_22_23_24_25_26_27_28_29_30_31_32_33_34_35_36_37_38_39_40_41_42_43_44_45_46_47_48_49_50_51_52 rfl).trans rfl) ?_
  refine z_bipush C (-99) dL_orders_152 (by decide) ?_
  refine z_iload C dL_orders_154 rfl ?_
  refine z_isub C dL_orders_156 ?_
  refine z_top (y := (-103)) (by decide) ?_
  refine z_icmp_eq_t C 162 dL_orders_157 (by decide) rfl ?_
  refine z_aload_n C 0 dL_orders_162 rfl rfl ?_
  have htx2 : ∀ j, tyL tx [48 + dd, 48, 99, 43] j < 65536 := tyL_b htx (by intro c hc9; simp at hc9; omega)
  refine z_callV (wn := (WRd X.2.1 x0 h0 h1 w0 w1 t r S o kp Q (tyL (tyL tx [48 + dd, 48, 99, 43]) []) 0 ps3)) C kX5_clearText gL_orders_X5_clearText (l_clr X.2.1 x0 (t 0) h0 w0 w1 (tyL tx [48 + dd, 48, 99, 43]) 4 ps3 (by decide)) dL_orders_163 [0, 51, 52] [] 0 rfl rfl nd_0_51_52 rfl rfl rfl (by decide) (by decide) (Nat.le_of_ble_eq_true rfl) rfl ((zput_par nd_0_51_52 rfl).trans rfl) ?_
  refine z_pop C dL_orders_166 rfl ?_
  refine z_aload_n C 0 dL_orders_167 rfl rfl ?_
  refine z_bipush C (nI 43) dL_orders_168 (by decide) ?_
  refine z_callV (wn := (WRd X.2.1 x0 h0 h1 w0 w1 t r S o kp Q (tyL (tyL tx [48 + dd, 48, 99, 43]) [43]) 1 ps3)) C kX5_type gL_orders_X5_type (l_typ X.2.1 x0 (t 0) h0 w0 w1 (tyL tx [48 + dd, 48, 99, 43]) [] ps3 43 0 rfl (by decide) htx2 (fun c hc9 => absurd hc9 List.not_mem_nil) (by omega)) dL_orders_170 [0, 51, 52] [] 0 rfl rfl nd_0_51_52 rfl rfl rfl (by decide) (by decide) (Nat.le_of_ble_eq_true rfl) rfl ((zput_par nd_0_51_52 rfl).trans rfl) ?_
  refine z_top (y := nI 1) rfl ?_
  refine z_pop C dL_orders_173 rfl ?_
  refine z_aload_n C 0 dL_orders_174 rfl rfl ?_
  refine z_iload C dL_orders_175 rfl ?_
  refine z_nif_ne_t C 185 dL_orders_177 (by decide) (by omega) (by omega) ?_
  refine z_bipush C (nI 99) dL_orders_185 (by decide) ?_
  refine z_callV (wn := (WRd X.2.1 x0 h0 h1 w0 w1 t r S o kp Q (tyL (tyL tx [48 + dd, 48, 99, 43]) [99, 43]) 2 ps3)) C kX5_type gL_orders_X5_type (l_typ X.2.1 x0 (t 0) h0 w0 w1 (tyL tx [48 + dd, 48, 99, 43]) [43] ps3 99 1 rfl (by decide) htx2 (by intro c hc9; simp at hc9; omega) (by omega)) dL_orders_187 [0, 51, 52] [] 0 rfl rfl nd_0_51_52 rfl rfl rfl (by decide) (by decide) (Nat.le_of_ble_eq_true rfl) rfl ((zput_par nd_0_51_52 rfl).trans rfl) ?_
  refine z_top (y := nI 2) rfl ?_
  refine z_pop C dL_orders_190 rfl ?_
  refine z_aload_n C 0 dL_orders_191 rfl rfl ?_
  refine z_bipush C (nI 48) dL_orders_192 (by decide) ?_
  refine z_callV (wn := (WRd X.2.1 x0 h0 h1 w0 w1 t r S o kp Q (tyL (tyL tx [48 + dd, 48, 99, 43]) [48, 99, 43]) 3 ps3)) C kX5_type gL_orders_X5_type (l_typ X.2.1 x0 (t 0) h0 w0 w1 (tyL tx [48 + dd, 48, 99, 43]) [99, 43] ps3 48 2 rfl (by decide) htx2 (by intro c hc9; simp at hc9; omega) (by omega)) dL_orders_194 [0, 51, 52] [] 0 rfl rfl nd_0_51_52 rfl rfl rfl (by decide) (by decide) (Nat.le_of_ble_eq_true rfl) rfl ((zput_par nd_0_51_52 rfl).trans rfl) ?_
  refine z_top (y := nI 3) rfl ?_
  refine z_pop C dL_orders_197 rfl ?_
  refine z_aload_n C 0 dL_orders_198 rfl rfl ?_
  refine z_bipush C (nI 32) dL_orders_199 (by decide) ?_
  refine z_callV (wn := (WRd X.2.1 x0 h0 h1 w0 w1 t r S o kp Q (tyL (tyL tx [48 + dd, 48, 99, 43]) [32, 48, 99, 43]) 4 ps3)) C kX5_type gL_orders_X5_type (l_typ X.2.1 x0 (t 0) h0 w0 w1 (tyL tx [48 + dd, 48, 99, 43]) [48, 99, 43] ps3 32 3 rfl (by decide) htx2 (by intro c hc9; simp at hc9; omega) (by omega)) dL_orders_201 [0, 51, 52] [] 0 rfl rfl nd_0_51_52 rfl rfl rfl (by decide) (by decide) (Nat.le_of_ble_eq_true rfl) rfl ((zput_par nd_0_51_52 rfl).trans rfl) ?_
  refine z_top (y := nI 4) rfl ?_
  refine z_pop C dL_orders_204 rfl ?_
  refine z_aload_n C 0 dL_orders_205 rfl rfl ?_
  refine z_bipush C (nI 43) dL_orders_206 (by decide) ?_
  refine z_callV (wn := (WRd X.2.1 x0 h0 h1 w0 w1 t r S o kp Q (tyL (tyL tx [48 + dd, 48, 99, 43]) [43, 32, 48, 99, 43]) 5 ps3)) C kX5_type gL_orders_X5_type (l_typ X.2.1 x0 (t 0) h0 w0 w1 (tyL tx [48 + dd, 48, 99, 43]) [32, 48, 99, 43] ps3 43 4 rfl (by decide) htx2 (by intro c hc9; simp at hc9; omega) (by omega)) dL_orders_208 [0, 51, 52] [] 0 rfl rfl nd_0_51_52 rfl rfl rfl (by decide) (by decide) (Nat.le_of_ble_eq_true rfl) rfl ((zput_par nd_0_51_52 rfl).trans rfl) ?_
  refine z_top (y := nI 5) rfl ?_
  refine z_pop C dL_orders_211 rfl ?_
  refine z_aload_n C 0 dL_orders_212 rfl rfl ?_
  refine z_iload C dL_orders_213 rfl ?_
  refine z_nif_ne_t C 223 dL_orders_215 (by decide) (by omega) (by omega) ?_
  refine z_bipush C (nI 99) dL_orders_223 (by decide) ?_
  refine z_callV (wn := (WRd X.2.1 x0 h0 h1 w0 w1 t r S o kp Q (tyL (tyL tx [48 + dd, 48, 99, 43]) [99, 43, 32, 48, 99, 43]) 6 ps3)) C kX5_type gL_orders_X5_type (l_typ X.2.1 x0 (t 0) h0 w0 w1 (tyL tx [48 + dd, 48, 99, 43]) [43, 32, 48, 99, 43] ps3 99 5 rfl (by decide) htx2 (by intro c hc9; simp at hc9; omega) (by omega)) dL_orders_225 [0, 51, 52] [] 0 rfl rfl nd_0_51_52 rfl rfl rfl (by decide) (by decide) (Nat.le_of_ble_eq_true rfl) rfl ((zput_par nd_0_51_52 rfl).trans rfl) ?_
  refine z_top (y := nI 6) rfl ?_
  refine z_pop C dL_orders_228 rfl ?_
  refine z_aload_n C 0 dL_orders_229 rfl rfl ?_
  refine z_bipush C (nI 57) dL_orders_230 (by decide) ?_
  refine z_callV (wn := (WRd X.2.1 x0 h0 h1 w0 w1 t r S o kp Q (tyL (tyL tx [48 + dd, 48, 99, 43]) [57, 99, 43, 32, 48, 99, 43]) 7 ps3)) C kX5_type gL_orders_X5_type (l_typ X.2.1 x0 (t 0) h0 w0 w1 (tyL tx [48 + dd, 48, 99, 43]) [99, 43, 32, 48, 99, 43] ps3 57 6 rfl (by decide) htx2 (by intro c hc9; simp at hc9; omega) (by omega)) dL_orders_232 [0, 51, 52] [] 0 rfl rfl nd_0_51_52 rfl rfl rfl (by decide) (by decide) (Nat.le_of_ble_eq_true rfl) rfl ((zput_par nd_0_51_52 rfl).trans rfl) ?_
  refine z_top (y := nI 7) rfl ?_
  refine z_pop C dL_orders_235 rfl ?_
  refine z_aload_n C 0 dL_orders_236 rfl rfl ?_
  refine z_bipush C (nI 57) dL_orders_237 (by decide) ?_
  refine z_callV (wn := (WRd X.2.1 x0 h0 h1 w0 w1 t r S o kp Q (tyL (tyL tx [48 + dd, 48, 99, 43]) [57, 57, 99, 43, 32, 48, 99, 43]) 8 ps3)) C kX5_type gL_orders_X5_type (l_typ X.2.1 x0 (t 0) h0 w0 w1 (tyL tx [48 + dd, 48, 99, 43]) [57, 99, 43, 32, 48, 99, 43] ps3 57 7 rfl (by decide) htx2 (by intro c hc9; simp at hc9; omega) (by omega)) dL_orders_239 [0, 51, 52] [] 0 rfl rfl nd_0_51_52 rfl rfl rfl (by decide) (by decide) (Nat.le_of_ble_eq_true rfl) rfl ((zput_par nd_0_51_52 rfl).trans rfl) ?_
  refine z_top (y := nI 8) rfl ?_
  refine z_istore C dL_orders_242 (Nat.le_of_ble_eq_true rfl) ?_
  refine z_lv (lv' := [some (.ref x0), some (.int (nI au)), some (.int g), some (.int h), some (.int (nI 1)), some (.int (nI (uU S 1))), some (.int (nI (mK S))), some (.int (nI 0)), some (.int (nI 8)), some (.int (nI 1)), none]) rfl ?_
  refine z_iload C dL_orders_244 rfl ?_
  refine z_iload C dL_orders_246 rfl ?_
  refine z_nif_ne_t C 256 dL_orders_248 (by decide) (by omega) (by omega) ?_
  refine z_bipush C (nI 8) dL_orders_256 (by decide) ?_
  refine z_ncmp_eq_f C 273 dL_orders_258 (by decide) (by omega) (by omega) (by omega) ?_
  refine z_iload C dL_orders_261 rfl ?_
  refine z_nif_eq_t C 277 dL_orders_263 (by decide) (by omega) (by omega) ?_
  refine z_iconst C (nI 1) dL_orders_277 (by decide) ?_
  refine z_istore C dL_orders_278 (Nat.le_of_ble_eq_true rfl) ?_
  refine z_lv (lv' := [some (.ref x0), some (.int (nI au)), some (.int g), some (.int h), some (.int (nI 1)), some (.int (nI (uU S 1))), some (.int (nI (mK S))), some (.int (nI 0)), some (.int (nI 8)), some (.int (nI 1)), some (.int (nI 1))]) rfl ?_
  refine z_aload_n C 0 dL_orders_280 rfl rfl ?_
  refine z_iload_n C 1 dL_orders_281 rfl rfl ?_
  refine z_callV (wn := (WRd X.2.1 x0 h0 h1 w0 w1 t r S1 o1 kp1 Q1 (tyL (tyL tx [48 + dd, 48, 99, 43]) [57, 57, 99, 43, 32, 48, 99, 43]) 8 ps4)) C kX5_run gL_orders_X5_run m5 dL_orders_282 [0, 1, 2, 3, 4, 5, 6, 7, 8, 9, 10, 11, 12, 13, 14, 15, 16, 17, 18, 19, 20, 21, 22, 23, 24, 25, 26, 27, 28, 29, 30, 31, 32, 33, 34, 35, 36, 37, 38, 39, 40, 41, 42, 43, 44, 45, 46, 47, 48, 49, 50, 51, 52] [] 0 rfl rfl nd_0_1_2_3_4_5_6_7_8_9_10_11_12_13_14_15_16_17_18_19_20_21_22_23_24_25_26_27_28_29_30_31_32_33_34_35_36_37_38_39_40_41_42_43_44_45_46_47_48_49_50_51_52 rfl rfl rfl (by decide) (by decide) (Nat.le_of_ble_eq_true rfl) rfl ((zput_par nd_0_1_2_3_4_5_6_7_8_9_10_11_12_13_14_15_16_17_18_19_20_21_22_23_24_25_26_27_28_29_30_31_32_33_34_35_36_37_38_39_40_41_42_43_44_45_46_47_48_49_50_51_52 rfl).trans rfl) ?_
  refine z_iload C dL_orders_285 rfl ?_
  refine z_ncmp_ne_f C 305 dL_orders_287 (by decide) (by omega) (by omega) (by omega) ?_
  refine z_aload_n C 0 dL_orders_290 rfl rfl ?_
  refine z_iconst C (nI 0) dL_orders_291 (by decide) ?_
  refine z_iload C dL_orders_292 rfl ?_
  refine z_callVr C kX5_size gL_orders_X5_size (l_size0 X.2.1 x0 h0 w0 t S1 1 hG1 (by decide)) dL_orders_294 [0, 1, 2, 3, 4, 5, 6, 7, 8] [] 0 rfl nd_0_1_2_3_4_5_6_7_8 rfl rfl rfl (by decide) (by decide) (Nat.le_of_ble_eq_true rfl) rfl ?_
  refine z_iload C dL_orders_297 rfl ?_
  refine z_iload C dL_orders_299 rfl ?_
  refine z_iadd C dL_orders_301 ?_
  refine z_top (y := nI ((uU S 1) + 1)) (nI_add _ _) ?_
  refine z_ncmp_eq_t C 307 dL_orders_302 (by decide) (by omega) (by omega) (by omega) ?_
  refine z_aload_n C 0 dL_orders_307 rfl rfl ?_
  refine z_bipush C (nI 57) dL_orders_308 (by decide) ?_
  refine z_callV (wn := (WRd X.2.1 x0 h0 h1 w0 w1 t r S1 o1 kp1 Q1 (tyL (tyL tx [48 + dd, 48, 99, 43]) [57, 57, 57, 99, 43, 32, 48, 99, 43]) 9 ps4)) C kX5_type gL_orders_X5_type (l_typ X.2.1 x0 (t 0) h0 w0 w1 (tyL tx [48 + dd, 48, 99, 43]) [57, 57, 99, 43, 32, 48, 99, 43] ps4 57 8 rfl (by decide) htx2 (by intro c hc9; simp at hc9; omega) (by omega)) dL_orders_310 [0, 51, 52] [] 0 rfl rfl nd_0_51_52 rfl rfl rfl (by decide) (by decide) (Nat.le_of_ble_eq_true rfl) rfl ((zput_par nd_0_51_52 rfl).trans rfl) ?_
  refine z_top (y := nI 9) rfl ?_
  refine z_pop C dL_orders_313 rfl ?_
  refine z_aload_n C 0 dL_orders_314 rfl rfl ?_
  refine z_iload_n C 1 dL_orders_315 rfl rfl ?_
  refine z_callV (wn := (WRd X.2.1 x0 h0 h1 w0 w1 t r S1 o1 kp1 Q1 (tyL (tyL tx [48 + dd, 48, 99, 43]) [57, 57, 57, 99, 43, 32, 48, 99, 43]) 9 ps5)) C kX5_run gL_orders_X5_run m6 dL_orders_316 [0, 1, 2, 3, 4, 5, 6, 7, 8, 9, 10, 11, 12, 13, 14, 15, 16, 17, 18, 19, 20, 21, 22, 23, 24, 25, 26, 27, 28, 29, 30, 31, 32, 33, 34, 35, 36, 37, 38, 39, 40, 41, 42, 43, 44, 45, 46, 47, 48, 49, 50, 51, 52] [] 0 rfl rfl nd_0_1_2_3_4_5_6_7_8_9_10_11_12_13_14_15_16_17_18_19_20_21_22_23_24_25_26_27_28_29_30_31_32_33_34_35_36_37_38_39_40_41_42_43_44_45_46_47_48_49_50_51_52 rfl rfl rfl (by decide) (by decide) (Nat.le_of_ble_eq_true rfl) rfl ((zput_par nd_0_1_2_3_4_5_6_7_8_9_10_11_12_13_14_15_16_17_18_19_20_21_22_23_24_25_26_27_28_29_30_31_32_33_34_35_36_37_38_39_40_41_42_43_44_45_46_47_48_49_50_51_52 rfl).trans rfl) ?_
  refine z_bipush C (-100) dL_orders_319 (by decide) ?_
  refine z_iload C dL_orders_321 rfl ?_
  refine z_isub C dL_orders_323 ?_
  refine z_top (y := (-108)) (by decide) ?_
  refine z_icmp_ne_f C 360 dL_orders_324 (by decide) rfl ?_
  refine z_aload_n C 0 dL_orders_327 rfl rfl ?_
  refine z_callV (wn := (WRd X.2.1 x0 h0 h1 w0 w1 t r S o2 kp2 Q1 (tyL (tyL tx [48 + dd, 48, 99, 43]) [57, 57, 57, 99, 43, 32, 48, 99, 43]) 9 ps5)) C kX5_undo gL_orders_X5_undo m7 dL_orders_328 [0, 1, 2, 3, 4, 5, 6, 7, 8, 9, 10, 11, 12, 13, 14, 15, 16, 17, 18, 19, 20, 21, 22, 23, 24, 25, 26, 27, 28, 29, 30, 31, 32, 33, 34, 35, 36, 37, 38, 39, 40, 41, 42, 43, 44, 45, 46, 47, 48, 49, 50] [] 0 rfl rfl nd_0_1_2_3_4_5_6_7_8_9_10_11_12_13_14_15_16_17_18_19_20_21_22_23_24_25_26_27_28_29_30_31_32_33_34_35_36_37_38_39_40_41_42_43_44_45_46_47_48_49_50 rfl rfl rfl (by decide) (by decide) (Nat.le_of_ble_eq_true rfl) rfl ((zput_par nd_0_1_2_3_4_5_6_7_8_9_10_11_12_13_14_15_16_17_18_19_20_21_22_23_24_25_26_27_28_29_30_31_32_33_34_35_36_37_38_39_40_41_42_43_44_45_46_47_48_49_50 rfl).trans rfl) ?_
  refine z_nif_lt_f C 360 dL_orders_331 (by decide) (by omega) (by trivial) ?_
  refine z_aload_n C 0 dL_orders_334 rfl rfl ?_
  refine z_iconst C (nI 0) dL_orders_335 (by decide) ?_
  refine z_iload C dL_orders_336 rfl ?_
  refine z_callVr C kX5_size gL_orders_X5_size (l_size0 X.2.1 x0 h0 w0 t S 1 hG (by decide)) dL_orders_338 [0, 1, 2, 3, 4, 5, 6, 7, 8] [] 0 rfl nd_0_1_2_3_4_5_6_7_8 rfl rfl rfl (by decide) (by decide) (Nat.le_of_ble_eq_true rfl) rfl ?_
  refine z_iload C dL_orders_341 rfl ?_
  refine z_ncmp_ne_f C 360 dL_orders_343 (by decide) (by omega) (by omega) (by omega) ?_
  refine z_aload_n C 0 dL_orders_346 rfl rfl ?_
  refine z_iconst C (nI 0) dL_orders_347 (by decide) ?_
  refine z_callVr C kX5_count gL_orders_X5_count (l_cnt0 X.2.1 x0 h0 h1 w0 w1 t S o2 kp2 9 ps5  hG ) dL_orders_348 [0, 1, 2, 3, 4, 5, 6, 7, 8, 9, 51] [] 0 rfl nd_0_1_2_3_4_5_6_7_8_9_51 rfl rfl rfl (by decide) (by decide) (Nat.le_of_ble_eq_true rfl) rfl ?_
  refine z_iload C dL_orders_351 rfl ?_
  refine z_ncmp_ne_f C 360 dL_orders_353 (by decide) (by omega) (by omega) (by omega) ?_
  refine z_iconst C (nI 1) dL_orders_356 (by decide) ?_
  refine z_goto C 361 dL_orders_357 (by decide) ?_
  exact z_zret C N dL_orders_361 rfl (rfl) (rfl)

set_option maxHeartbeats 4000000 in
set_option maxRecDepth 100000 in
theorem w_ord10t (E : zE) (x0 h0 h1 w0 w1 : Nat) (t : Nat → Nat) (r : Nat → Nat → Nat) (S S1 : zSt) (o kp o1 o2 kp1 kp2 : Nat) (Q Q1 : Nat → zSt) (tx : Nat → Nat) (ln : Nat) (ps ps1 ps2 ps3 ps4 ps5 : zPs) {B B1 : Nat} (au : Nat) (g h : Int32) (dd lf : Nat) (hG : GG S B) (hG1 : GG S1 B1) (hau : au < 4) (hg1 : g &&& (nI 1) = nI 1) (hg2 : g &&& (nI 2) = 0) (hd : lw h 10 = dd) (hdd : dd < 10) (hln : ln ≤ 60) (htx : ∀ j, tx j < 65536) (hlf : lf < 100) (hu : uU S1 1 = uU S 1 + 1) (hf : uU S 1 < 8) (ht : tK S = true) (hm : mK S < 60) (m1 : zM E yX5_run wsX5_run 8 [.ref x0, .int (nI au)] (WRd E x0 h0 h1 w0 w1 t r S o kp Q (tyL tx []) 0 ps) (WRd E x0 h0 h1 w0 w1 t r S o kp Q (tyL tx []) 0 ps1) (some (.int (-100)))) (m2 : zM E yX5_run wsX5_run 8 [.ref x0, .int (nI 4)] (WRd E x0 h0 h1 w0 w1 t r S o kp Q (tyL tx []) 0 ps1) (WRd E x0 h0 h1 w0 w1 t r S o kp Q (tyL tx []) 0 ps1) (some (.int (-1)))) (m3 : zM E yX5_run wsX5_run 8 [.ref x0, .int (nI au)] (WRd E x0 h0 h1 w0 w1 t r S o kp Q (tyL tx [43]) 1 ps1) (WRd E x0 h0 h1 w0 w1 t r S o kp Q (tyL tx [43]) 1 ps2) (some (.int (-101)))) (m4 : zM E yX5_run wsX5_run 8 [.ref x0, .int (nI au)] (WRd E x0 h0 h1 w0 w1 t r S o kp Q (tyL tx [48 + dd, 48, 99, 43]) 4 ps2) (WRd E x0 h0 h1 w0 w1 t r S o kp Q (tyL tx [48 + dd, 48, 99, 43]) 4 ps3) (some (.int (-103)))) (m5 : zM E yX5_run wsX5_run 8 [.ref x0, .int (nI au)] (WRd E x0 h0 h1 w0 w1 t r S o kp Q (tyL (tyL tx [48 + dd, 48, 99, 43]) [57, 57, 99, 43, 32, 48, 99, 43]) 8 ps3) (WRd E x0 h0 h1 w0 w1 t r S1 o1 kp1 Q1 (tyL (tyL tx [48 + dd, 48, 99, 43]) [57, 57, 99, 43, 32, 48, 99, 43]) 8 ps4) (some (.int (nI 1)))) (m6 : zM E yX5_run wsX5_run 8 [.ref x0, .int (nI au)] (WRd E x0 h0 h1 w0 w1 t r S1 o1 kp1 Q1 (tyL (tyL tx [48 + dd, 48, 99, 43]) [57, 57, 57, 99, 43, 32, 48, 99, 43]) 9 ps4) (WRd E x0 h0 h1 w0 w1 t r S1 o1 kp1 Q1 (tyL (tyL tx [48 + dd, 48, 99, 43]) [57, 57, 57, 99, 43, 32, 48, 99, 43]) 9 ps5) (some (.int (-108)))) (m7 : zM E yX5_undo wsX5_undo 5 [.ref x0] (WAd E x0 h0 h1 w0 t r S1 o1 kp1 Q1) (WAd E x0 h0 h1 w0 t r S o2 kp2 Q1) (some (.int (nI lf)))) : zM E yL_orders wsL_orders 9 [.ref x0, .int (nI au), .int g, .int h] (WRd E x0 h0 h1 w0 w1 t r S o kp Q tx ln ps) (WRd E x0 h0 h1 w0 w1 t r S o2 kp2 Q1 (tyL (tyL tx [48 + dd, 48, 99, 43]) [57, 57, 57, 99, 43, 32, 48, 99, 43]) 9 ps5) (some (.int (nI 1))) := by
  refine zM.of kL_orders (Nat.le_of_ble_eq_true rfl) rfl [some (.ref x0), some (.int (nI au)), some (.int g), some (.int h), none, none, none, none, none, none, none] rfl (Nat.le_of_ble_eq_true rfl) ?_
  intro X eX C N
  subst eX
  have hb0 : uU S 0 ≤ 12 := gg_u hG 0
  have hb1 : uU S 1 ≤ 8 := gg_u1 hG
  have hb2 : mK S ≤ 60 := gg_M hG
  have hb3 : uU S1 0 ≤ 12 := gg_u hG1 0
  have hb4 : uU S1 1 ≤ 8 := gg_u1 hG1
  have hb5 : mK S1 ≤ 60 := gg_M hG1
  refine z_aload_n C 0 dL_orders_0 rfl rfl ?_
  refine z_callV (wn := (WRd X.2.1 x0 h0 h1 w0 w1 t r S o kp Q (tyL tx []) 0 ps)) C kX5_clearText gL_orders_X5_clearText (l_clr X.2.1 x0 (t 0) h0 w0 w1 tx ln ps hln) dL_orders_1 [0, 51, 52] [] 0 rfl rfl nd_0_51_52 rfl rfl rfl (by decide) (by decide) (Nat.le_of_ble_eq_true rfl) rfl ((zput_par nd_0_51_52 rfl).trans rfl) ?_
  refine z_pop C dL_orders_4 rfl ?_
  refine z_aload_n C 0 dL_orders_5 rfl rfl ?_
  refine z_iload_n C 1 dL_orders_6 rfl rfl ?_
  refine z_callV (wn := (WRd X.2.1 x0 h0 h1 w0 w1 t r S o kp Q (tyL tx []) 0 ps1)) C kX5_run gL_orders_X5_run m1 dL_orders_7 [0, 1, 2, 3, 4, 5, 6, 7, 8, 9, 10, 11, 12, 13, 14, 15, 16, 17, 18, 19, 20, 21, 22, 23, 24, 25, 26, 27, 28, 29, 30, 31, 32, 33, 34, 35, 36, 37, 38, 39, 40, 41, 42, 43, 44, 45, 46, 47, 48, 49, 50, 51, 52] [] 0 rfl rfl nd_0_1_2_3_4_5_6_7_8_9_10_11_12_13_14_15_16_17_18_19_20_21_22_23_24_25_26_27_28_29_30_31_32_33_34_35_36_37_38_39_40_41_42_43_44_45_46_47_48_49_50_51_52 rfl rfl rfl (by decide) (by decide) (Nat.le_of_ble_eq_true rfl) rfl ((zput_par nd_0_1_2_3_4_5_6_7_8_9_10_11_12_13_14_15_16_17_18_19_20_21_22_23_24_25_26_27_28_29_30_31_32_33_34_35_36_37_38_39_40_41_42_43_44_45_46_47_48_49_50_51_52 rfl).trans rfl) ?_
  refine z_bipush C (-100) dL_orders_10 (by decide) ?_
  refine z_icmp_ne_f C 24 dL_orders_12 (by decide) rfl ?_
  refine z_aload_n C 0 dL_orders_15 rfl rfl ?_
  refine z_iconst C (nI 4) dL_orders_16 (by decide) ?_
  refine z_callV (wn := (WRd X.2.1 x0 h0 h1 w0 w1 t r S o kp Q (tyL tx []) 0 ps1)) C kX5_run gL_orders_X5_run m2 dL_orders_17 [0, 1, 2, 3, 4, 5, 6, 7, 8, 9, 10, 11, 12, 13, 14, 15, 16, 17, 18, 19, 20, 21, 22, 23, 24, 25, 26, 27, 28, 29, 30, 31, 32, 33, 34, 35, 36, 37, 38, 39, 40, 41, 42, 43, 44, 45, 46, 47, 48, 49, 50, 51, 52] [] 0 rfl rfl nd_0_1_2_3_4_5_6_7_8_9_10_11_12_13_14_15_16_17_18_19_20_21_22_23_24_25_26_27_28_29_30_31_32_33_34_35_36_37_38_39_40_41_42_43_44_45_46_47_48_49_50_51_52 rfl rfl rfl (by decide) (by decide) (Nat.le_of_ble_eq_true rfl) rfl ((zput_par nd_0_1_2_3_4_5_6_7_8_9_10_11_12_13_14_15_16_17_18_19_20_21_22_23_24_25_26_27_28_29_30_31_32_33_34_35_36_37_38_39_40_41_42_43_44_45_46_47_48_49_50_51_52 rfl).trans rfl) ?_
  refine z_iconst C (-1) dL_orders_20 (by decide) ?_
  refine z_icmp_eq_t C 26 dL_orders_21 (by decide) rfl ?_
  refine z_iload_n C 2 dL_orders_26 rfl rfl ?_
  refine z_iconst C (nI 1) dL_orders_27 (by decide) ?_
  refine z_iand C dL_orders_28 ?_
  refine z_top (y := nI 1) (hg1) ?_
  refine z_istore C dL_orders_29 (Nat.le_of_ble_eq_true rfl) ?_
  refine z_lv (lv' := [some (.ref x0), some (.int (nI au)), some (.int g), some (.int h), some (.int (nI 1)), none, none, none, none, none, none]) rfl ?_
  refine z_aload_n C 0 dL_orders_31 rfl rfl ?_
  refine z_iconst C (nI 0) dL_orders_32 (by decide) ?_
  refine z_iload C dL_orders_33 rfl ?_
  refine z_callVr C kX5_size gL_orders_X5_size (l_size0 X.2.1 x0 h0 w0 t S 1 hG (by decide)) dL_orders_35 [0, 1, 2, 3, 4, 5, 6, 7, 8] [] 0 rfl nd_0_1_2_3_4_5_6_7_8 rfl rfl rfl (by decide) (by decide) (Nat.le_of_ble_eq_true rfl) rfl ?_
  refine z_istore C dL_orders_38 (Nat.le_of_ble_eq_true rfl) ?_
  refine z_lv (lv' := [some (.ref x0), some (.int (nI au)), some (.int g), some (.int h), some (.int (nI 1)), some (.int (nI (uU S 1))), none, none, none, none, none]) rfl ?_
  refine z_aload_n C 0 dL_orders_40 rfl rfl ?_
  refine z_iconst C (nI 0) dL_orders_41 (by decide) ?_
  refine z_callVr C kX5_count gL_orders_X5_count (l_cnt0 X.2.1 x0 h0 h1 w0 w1 t S o kp 0 ps1  hG ) dL_orders_42 [0, 1, 2, 3, 4, 5, 6, 7, 8, 9, 51] [] 0 rfl nd_0_1_2_3_4_5_6_7_8_9_51 rfl rfl rfl (by decide) (by decide) (Nat.le_of_ble_eq_true rfl) rfl ?_
  refine z_istore C dL_orders_45 (Nat.le_of_ble_eq_true rfl) ?_
  refine z_lv (lv' := [some (.ref x0), some (.int (nI au)), some (.int g), some (.int h), some (.int (nI 1)), some (.int (nI (uU S 1))), some (.int (nI (mK S))), none, none, none, none]) rfl ?_
  refine z_aload_n C 0 dL_orders_47 rfl rfl ?_
  refine z_iconst C (nI 5) dL_orders_48 (by decide) ?_
  refine z_callVr C kX5_count gL_orders_X5_count (l_cnt5y X.2.1 x0 h0 h1 w0 w1 t S o kp 0 ps1  hG ht) dL_orders_49 [0, 1, 2, 3, 4, 5, 6, 7, 8, 9, 51] [] 0 rfl nd_0_1_2_3_4_5_6_7_8_9_51 rfl rfl rfl (by decide) (by decide) (Nat.le_of_ble_eq_true rfl) rfl ?_
  refine z_iconst C (nI 1) dL_orders_52 (by decide) ?_
  refine z_ncmp_ne_f C 60 dL_orders_53 (by decide) (by omega) (by omega) (by omega) ?_
  refine z_iconst C (nI 1) dL_orders_56 (by decide) ?_
  refine z_goto C 61 dL_orders_57 (by decide) ?_
  refine z_istore C dL_orders_61 (Nat.le_of_ble_eq_true rfl) ?_
  refine z_lv (lv' := [some (.ref x0), some (.int (nI au)), some (.int g), some (.int h), some (.int (nI 1)), some (.int (nI (uU S 1))), some (.int (nI (mK S))), some (.int (nI 1)), none, none, none]) rfl ?_
  refine z_aload_n C 0 dL_orders_63 rfl rfl ?_
  refine z_iload_n C 2 dL_orders_64 rfl rfl ?_
  refine z_iconst C (nI 2) dL_orders_65 (by decide) ?_
  refine z_iand C dL_orders_66 ?_
  refine z_if_ne_f C 75 dL_orders_67 (by decide) hg2 ?_
  refine z_bipush C (nI 43) dL_orders_70 (by decide) ?_
  refine z_goto C 77 dL_orders_72 (by decide) ?_
  refine z_callV (wn := (WRd X.2.1 x0 h0 h1 w0 w1 t r S o kp Q (tyL tx [43]) 1 ps1)) C kX5_type gL_orders_X5_type (l_typ X.2.1 x0 (t 0) h0 w0 w1 tx [] ps1 43 0 rfl (by decide) htx (fun c hc9 => absurd hc9 List.not_mem_nil) (by omega)) dL_orders_77 [0, 51, 52] [] 0 rfl rfl nd_0_51_52 rfl rfl rfl (by decide) (by decide) (Nat.le_of_ble_eq_true rfl) rfl ((zput_par nd_0_51_52 rfl).trans rfl) ?_
  refine z_top (y := nI 1) rfl ?_
  refine z_istore C dL_orders_80 (Nat.le_of_ble_eq_true rfl) ?_
  refine z_lv (lv' := [some (.ref x0), some (.int (nI au)), some (.int g), some (.int h), some (.int (nI 1)), some (.int (nI (uU S 1))), some (.int (nI (mK S))), some (.int (nI 1)), some (.int (nI 1)), none, none]) rfl ?_
  refine z_aload_n C 0 dL_orders_82 rfl rfl ?_
  refine z_iload_n C 1 dL_orders_83 rfl rfl ?_
  refine z_callV (wn := (WRd X.2.1 x0 h0 h1 w0 w1 t r S o kp Q (tyL tx [43]) 1 ps2)) C kX5_run gL_orders_X5_run m3 dL_orders_84 [0, 1, 2, 3, 4, 5, 6, 7, 8, 9, 10, 11, 12, 13, 14, 15, 16, 17, 18, 19, 20, 21, 22, 23, 24, 25, 26, 27, 28, 29, 30, 31, 32, 33, 34, 35, 36, 37, 38, 39, 40, 41, 42, 43, 44, 45, 46, 47, 48, 49, 50, 51, 52] [] 0 rfl rfl nd_0_1_2_3_4_5_6_7_8_9_10_11_12_13_14_15_16_17_18_19_20_21_22_23_24_25_26_27_28_29_30_31_32_33_34_35_36_37_38_39_40_41_42_43_44_45_46_47_48_49_50_51_52 rfl rfl rfl (by decide) (by decide) (Nat.le_of_ble_eq_true rfl) rfl ((zput_par nd_0_1_2_3_4_5_6_7_8_9_10_11_12_13_14_15_16_17_18_19_20_21_22_23_24_25_26_27_28_29_30_31_32_33_34_35_36_37_38_39_40_41_42_43_44_45_46_47_48_49_50_51_52 rfl).trans rfl) ?_
  refine z_bipush C (-100) dL_orders_87 (by decide) ?_
  refine z_iload C dL_orders_89 rfl ?_
  refine z_isub C dL_orders_91 ?_
  refine z_top (y := (-101)) (by decide) ?_
  refine z_icmp_ne_f C 99 dL_orders_92 (by decide) rfl ?_
  refine z_iconst C (nI 1) dL_orders_95 (by decide) ?_
  refine z_goto C 100 dL_orders_96 (by decide) ?_
  refine z_istore C dL_orders_100 (Nat.le_of_ble_eq_true rfl) ?_
  refine z_lv (lv' := [some (.ref x0), some (.int (nI au)), some (.int g), some (.int h), some (.int (nI 1)), some (.int (nI (uU S 1))), some (.int (nI (mK S))), some (.int (nI 1)), some (.int (nI 1)), some (.int (nI 1)), none]) rfl ?_
  refine z_aload_n C 0 dL_orders_102 rfl rfl ?_
  refine z_iload C dL_orders_103 rfl ?_
  refine z_nif_ne_t C 113 dL_orders_105 (by decide) (by omega) (by omega) ?_
  refine z_bipush C (nI 99) dL_orders_113 (by decide) ?_
  refine z_callV (wn := (WRd X.2.1 x0 h0 h1 w0 w1 t r S o kp Q (tyL tx [99, 43]) 2 ps2)) C kX5_type gL_orders_X5_type (l_typ X.2.1 x0 (t 0) h0 w0 w1 tx [43] ps2 99 1 rfl (by decide) htx (by intro c hc9; simp at hc9; omega) (by omega)) dL_orders_115 [0, 51, 52] [] 0 rfl rfl nd_0_51_52 rfl rfl rfl (by decide) (by decide) (Nat.le_of_ble_eq_true rfl) rfl ((zput_par nd_0_51_52 rfl).trans rfl) ?_
  refine z_top (y := nI 2) rfl ?_
  refine z_pop C dL_orders_118 rfl ?_
  refine z_aload_n C 0 dL_orders_119 rfl rfl ?_
  refine z_bipush C (nI 48) dL_orders_120 (by decide) ?_
  refine z_callV (wn := (WRd X.2.1 x0 h0 h1 w0 w1 t r S o kp Q (tyL tx [48, 99, 43]) 3 ps2)) C kX5_type gL_orders_X5_type (l_typ X.2.1 x0 (t 0) h0 w0 w1 tx [99, 43] ps2 48 2 rfl (by decide) htx (by intro c hc9; simp at hc9; omega) (by omega)) dL_orders_122 [0, 51, 52] [] 0 rfl rfl nd_0_51_52 rfl rfl rfl (by decide) (by decide) (Nat.le_of_ble_eq_true rfl) rfl ((zput_par nd_0_51_52 rfl).trans rfl) ?_
  refine z_top (y := nI 3) rfl ?_
  refine z_pop C dL_orders_125 rfl ?_
  refine z_aload_n C 0 dL_orders_126 rfl rfl ?_
  refine z_bipush C (nI 48) dL_orders_127 (by decide) ?_
  refine z_iload_n C 3 dL_orders_129 rfl rfl ?_
  refine z_bipush C (nI 10) dL_orders_130 (by decide) ?_
  refine z_callS C kL_low gL_orders_L_low (l_low X.2.1 h 10 (by decide) (by decide)) dL_orders_132 [.int (nI 48), .ref x0] rfl (by decide) (by decide) (Nat.le_of_ble_eq_true rfl) rfl ?_
  refine z_top (y := nI dd) (congrArg nI hd) ?_
  refine z_iadd C dL_orders_135 ?_
  refine z_top (y := nI (48 + dd)) (nI_add _ _) ?_
  refine z_i2c C (nI (48 + dd)) dL_orders_136 (chr_n (by omega)) ?_
  refine z_callV (wn := (WRd X.2.1 x0 h0 h1 w0 w1 t r S o kp Q (tyL tx [48 + dd, 48, 99, 43]) 4 ps2)) C kX5_type gL_orders_X5_type (l_typ X.2.1 x0 (t 0) h0 w0 w1 tx [48, 99, 43] ps2 (48 + dd) 3 rfl (by decide) htx (by intro c hc9; simp at hc9; omega) (by omega)) dL_orders_137 [0, 51, 52] [] 0 rfl rfl nd_0_51_52 rfl rfl rfl (by decide) (by decide) (Nat.le_of_ble_eq_true rfl) rfl ((zput_par nd_0_51_52 rfl).trans rfl) ?_
  refine z_top (y := nI 4) rfl ?_
  refine z_istore C dL_orders_140 (Nat.le_of_ble_eq_true rfl) ?_
  refine z_lv (lv' := [some (.ref x0), some (.int (nI au)), some (.int g), some (.int h), some (.int (nI 1)), some (.int (nI (uU S 1))), some (.int (nI (mK S))), some (.int (nI 1)), some (.int (nI 4)), some (.int (nI 1)), none]) rfl ?_
  refine z_iload C dL_orders_142 rfl ?_
  refine z_nif_eq_f C 160 dL_orders_144 (by decide) (by omega) (by omega) ?_
  refine z_aload_n C 0 dL_orders_147 rfl rfl ?_
  refine z_iload_n C 1 dL_orders_148 rfl rfl ?_
  refine z_callV (wn := (WRd X.2.1 x0 h0 h1 w0 w1 t r S o kp Q (tyL tx [48 + dd, 48, 99, 43]) 4 ps3)) C kX5_run gL_orders_X5_run m4 dL_orders_149 [0, 1, 2, 3, 4, 5, 6, 7, 8, 9, 10, 11, 12, 13, 14, 15, 16, 17, 18, 19, 20, 21, 22, 23, 24, 25, 26, 27, 28, 29, 30, 31, 32, 33, 34, 35, 36, 37, 38, 39, 40, 41, 42, 43, 44, 45, 46, 47, 48, 49, 50, 51, 52] [] 0 rfl rfl nd_0_1_2_3_4_5_6_7_8_9_10_11_12_13_14_15_16_17_18_19_20_21_22_23_24_25_26_27_28_29_30_31_32_33_34_35_36_37_38_39_40_41_42_43_44_45_46_47_48_49_50_51_52 rfl rfl rfl (by decide) (by decide) (Nat.le_of_ble_eq_true rfl) rfl ((zput_par nd_0_1_2_3_4_5_6_7_8_9_10_11_12_13_14_15_16_17_18_19_20_21_22_23_24_25_26_27_28_29_30_31_32_33_34_35_36_37_38_39_40_41_42_43_44_45_46_47_48_49_50_51_52 rfl).trans rfl) ?_
  refine z_bipush C (-99) dL_orders_152 (by decide) ?_
  refine z_iload C dL_orders_154 rfl ?_
  refine z_isub C dL_orders_156 ?_
  refine z_top (y := (-103)) (by decide) ?_
  refine z_icmp_eq_t C 162 dL_orders_157 (by decide) rfl ?_
  refine z_aload_n C 0 dL_orders_162 rfl rfl ?_
  have htx2 : ∀ j, tyL tx [48 + dd, 48, 99, 43] j < 65536 := tyL_b htx (by intro c hc9; simp at hc9; omega)
  refine z_callV (wn := (WRd X.2.1 x0 h0 h1 w0 w1 t r S o kp Q (tyL (tyL tx [48 + dd, 48, 99, 43]) []) 0 ps3)) C kX5_clearText gL_orders_X5_clearText (l_clr X.2.1 x0 (t 0) h0 w0 w1 (tyL tx [48 + dd, 48, 99, 43]) 4 ps3 (by decide)) dL_orders_163 [0, 51, 52] [] 0 rfl rfl nd_0_51_52 rfl rfl rfl (by decide) (by decide) (Nat.le_of_ble_eq_true rfl) rfl ((zput_par nd_0_51_52 rfl).trans rfl) ?_
  refine z_pop C dL_orders_166 rfl ?_
  refine z_aload_n C 0 dL_orders_167 rfl rfl ?_
  refine z_bipush C (nI 43) dL_orders_168 (by decide) ?_
  refine z_callV (wn := (WRd X.2.1 x0 h0 h1 w0 w1 t r S o kp Q (tyL (tyL tx [48 + dd, 48, 99, 43]) [43]) 1 ps3)) C kX5_type gL_orders_X5_type (l_typ X.2.1 x0 (t 0) h0 w0 w1 (tyL tx [48 + dd, 48, 99, 43]) [] ps3 43 0 rfl (by decide) htx2 (fun c hc9 => absurd hc9 List.not_mem_nil) (by omega)) dL_orders_170 [0, 51, 52] [] 0 rfl rfl nd_0_51_52 rfl rfl rfl (by decide) (by decide) (Nat.le_of_ble_eq_true rfl) rfl ((zput_par nd_0_51_52 rfl).trans rfl) ?_
  refine z_top (y := nI 1) rfl ?_
  refine z_pop C dL_orders_173 rfl ?_
  refine z_aload_n C 0 dL_orders_174 rfl rfl ?_
  refine z_iload C dL_orders_175 rfl ?_
  refine z_nif_ne_t C 185 dL_orders_177 (by decide) (by omega) (by omega) ?_
  refine z_bipush C (nI 99) dL_orders_185 (by decide) ?_
  refine z_callV (wn := (WRd X.2.1 x0 h0 h1 w0 w1 t r S o kp Q (tyL (tyL tx [48 + dd, 48, 99, 43]) [99, 43]) 2 ps3)) C kX5_type gL_orders_X5_type (l_typ X.2.1 x0 (t 0) h0 w0 w1 (tyL tx [48 + dd, 48, 99, 43]) [43] ps3 99 1 rfl (by decide) htx2 (by intro c hc9; simp at hc9; omega) (by omega)) dL_orders_187 [0, 51, 52] [] 0 rfl rfl nd_0_51_52 rfl rfl rfl (by decide) (by decide) (Nat.le_of_ble_eq_true rfl) rfl ((zput_par nd_0_51_52 rfl).trans rfl) ?_
  refine z_top (y := nI 2) rfl ?_
  refine z_pop C dL_orders_190 rfl ?_
  refine z_aload_n C 0 dL_orders_191 rfl rfl ?_
  refine z_bipush C (nI 48) dL_orders_192 (by decide) ?_
  refine z_callV (wn := (WRd X.2.1 x0 h0 h1 w0 w1 t r S o kp Q (tyL (tyL tx [48 + dd, 48, 99, 43]) [48, 99, 43]) 3 ps3)) C kX5_type gL_orders_X5_type (l_typ X.2.1 x0 (t 0) h0 w0 w1 (tyL tx [48 + dd, 48, 99, 43]) [99, 43] ps3 48 2 rfl (by decide) htx2 (by intro c hc9; simp at hc9; omega) (by omega)) dL_orders_194 [0, 51, 52] [] 0 rfl rfl nd_0_51_52 rfl rfl rfl (by decide) (by decide) (Nat.le_of_ble_eq_true rfl) rfl ((zput_par nd_0_51_52 rfl).trans rfl) ?_
  refine z_top (y := nI 3) rfl ?_
  refine z_pop C dL_orders_197 rfl ?_
  refine z_aload_n C 0 dL_orders_198 rfl rfl ?_
  refine z_bipush C (nI 32) dL_orders_199 (by decide) ?_
  refine z_callV (wn := (WRd X.2.1 x0 h0 h1 w0 w1 t r S o kp Q (tyL (tyL tx [48 + dd, 48, 99, 43]) [32, 48, 99, 43]) 4 ps3)) C kX5_type gL_orders_X5_type (l_typ X.2.1 x0 (t 0) h0 w0 w1 (tyL tx [48 + dd, 48, 99, 43]) [48, 99, 43] ps3 32 3 rfl (by decide) htx2 (by intro c hc9; simp at hc9; omega) (by omega)) dL_orders_201 [0, 51, 52] [] 0 rfl rfl nd_0_51_52 rfl rfl rfl (by decide) (by decide) (Nat.le_of_ble_eq_true rfl) rfl ((zput_par nd_0_51_52 rfl).trans rfl) ?_
  refine z_top (y := nI 4) rfl ?_
  refine z_pop C dL_orders_204 rfl ?_
  refine z_aload_n C 0 dL_orders_205 rfl rfl ?_
  refine z_bipush C (nI 43) dL_orders_206 (by decide) ?_
  refine z_callV (wn := (WRd X.2.1 x0 h0 h1 w0 w1 t r S o kp Q (tyL (tyL tx [48 + dd, 48, 99, 43]) [43, 32, 48, 99, 43]) 5 ps3)) C kX5_type gL_orders_X5_type (l_typ X.2.1 x0 (t 0) h0 w0 w1 (tyL tx [48 + dd, 48, 99, 43]) [32, 48, 99, 43] ps3 43 4 rfl (by decide) htx2 (by intro c hc9; simp at hc9; omega) (by omega)) dL_orders_208 [0, 51, 52] [] 0 rfl rfl nd_0_51_52 rfl rfl rfl (by decide) (by decide) (Nat.le_of_ble_eq_true rfl) rfl ((zput_par nd_0_51_52 rfl).trans rfl) ?_
  refine z_top (y := nI 5) rfl ?_
  refine z_pop C dL_orders_211 rfl ?_
  refine z_aload_n C 0 dL_orders_212 rfl rfl ?_
  refine z_iload C dL_orders_213 rfl ?_
  refine z_nif_ne_t C 223 dL_orders_215 (by decide) (by omega) (by omega) ?_
  refine z_bipush C (nI 99) dL_orders_223 (by decide) ?_
  refine z_callV (wn := (WRd X.2.1 x0 h0 h1 w0 w1 t r S o kp Q (tyL (tyL tx [48 + dd, 48, 99, 43]) [99, 43, 32, 48, 99, 43]) 6 ps3)) C kX5_type gL_orders_X5_type (l_typ X.2.1 x0 (t 0) h0 w0 w1 (tyL tx [48 + dd, 48, 99, 43]) [43, 32, 48, 99, 43] ps3 99 5 rfl (by decide) htx2 (by intro c hc9; simp at hc9; omega) (by omega)) dL_orders_225 [0, 51, 52] [] 0 rfl rfl nd_0_51_52 rfl rfl rfl (by decide) (by decide) (Nat.le_of_ble_eq_true rfl) rfl ((zput_par nd_0_51_52 rfl).trans rfl) ?_
  refine z_top (y := nI 6) rfl ?_
  refine z_pop C dL_orders_228 rfl ?_
  refine z_aload_n C 0 dL_orders_229 rfl rfl ?_
  refine z_bipush C (nI 57) dL_orders_230 (by decide) ?_
  refine z_callV (wn := (WRd X.2.1 x0 h0 h1 w0 w1 t r S o kp Q (tyL (tyL tx [48 + dd, 48, 99, 43]) [57, 99, 43, 32, 48, 99, 43]) 7 ps3)) C kX5_type gL_orders_X5_type (l_typ X.2.1 x0 (t 0) h0 w0 w1 (tyL tx [48 + dd, 48, 99, 43]) [99, 43, 32, 48, 99, 43] ps3 57 6 rfl (by decide) htx2 (by intro c hc9; simp at hc9; omega) (by omega)) dL_orders_232 [0, 51, 52] [] 0 rfl rfl nd_0_51_52 rfl rfl rfl (by decide) (by decide) (Nat.le_of_ble_eq_true rfl) rfl ((zput_par nd_0_51_52 rfl).trans rfl) ?_
  refine z_top (y := nI 7) rfl ?_
  refine z_pop C dL_orders_235 rfl ?_
  refine z_aload_n C 0 dL_orders_236 rfl rfl ?_
  refine z_bipush C (nI 57) dL_orders_237 (by decide) ?_
  refine z_callV (wn := (WRd X.2.1 x0 h0 h1 w0 w1 t r S o kp Q (tyL (tyL tx [48 + dd, 48, 99, 43]) [57, 57, 99, 43, 32, 48, 99, 43]) 8 ps3)) C kX5_type gL_orders_X5_type (l_typ X.2.1 x0 (t 0) h0 w0 w1 (tyL tx [48 + dd, 48, 99, 43]) [57, 99, 43, 32, 48, 99, 43] ps3 57 7 rfl (by decide) htx2 (by intro c hc9; simp at hc9; omega) (by omega)) dL_orders_239 [0, 51, 52] [] 0 rfl rfl nd_0_51_52 rfl rfl rfl (by decide) (by decide) (Nat.le_of_ble_eq_true rfl) rfl ((zput_par nd_0_51_52 rfl).trans rfl) ?_
  refine z_top (y := nI 8) rfl ?_
  refine z_istore C dL_orders_242 (Nat.le_of_ble_eq_true rfl) ?_
  refine z_lv (lv' := [some (.ref x0), some (.int (nI au)), some (.int g), some (.int h), some (.int (nI 1)), some (.int (nI (uU S 1))), some (.int (nI (mK S))), some (.int (nI 1)), some (.int (nI 8)), some (.int (nI 1)), none]) rfl ?_
  refine z_iload C dL_orders_244 rfl ?_
  refine z_iload C dL_orders_246 rfl ?_
  refine z_nif_ne_t C 256 dL_orders_248 (by decide) (by omega) (by omega) ?_
  refine z_bipush C (nI 8) dL_orders_256 (by decide) ?_
  refine z_ncmp_eq_f C 273 dL_orders_258 (by decide) (by omega) (by omega) (by omega) ?_
  refine z_iload C dL_orders_261 rfl ?_
  refine z_nif_eq_f C 277 dL_orders_263 (by decide) (by omega) (by omega) ?_
  refine z_iload C dL_orders_266 rfl ?_
  refine z_bipush C (nI 60) dL_orders_268 (by decide) ?_
  refine z_ncmp_ne_t C 277 dL_orders_270 (by decide) (by omega) (by omega) (by omega) ?_
  refine z_iconst C (nI 1) dL_orders_277 (by decide) ?_
  refine z_istore C dL_orders_278 (Nat.le_of_ble_eq_true rfl) ?_
  refine z_lv (lv' := [some (.ref x0), some (.int (nI au)), some (.int g), some (.int h), some (.int (nI 1)), some (.int (nI (uU S 1))), some (.int (nI (mK S))), some (.int (nI 1)), some (.int (nI 8)), some (.int (nI 1)), some (.int (nI 1))]) rfl ?_
  refine z_aload_n C 0 dL_orders_280 rfl rfl ?_
  refine z_iload_n C 1 dL_orders_281 rfl rfl ?_
  refine z_callV (wn := (WRd X.2.1 x0 h0 h1 w0 w1 t r S1 o1 kp1 Q1 (tyL (tyL tx [48 + dd, 48, 99, 43]) [57, 57, 99, 43, 32, 48, 99, 43]) 8 ps4)) C kX5_run gL_orders_X5_run m5 dL_orders_282 [0, 1, 2, 3, 4, 5, 6, 7, 8, 9, 10, 11, 12, 13, 14, 15, 16, 17, 18, 19, 20, 21, 22, 23, 24, 25, 26, 27, 28, 29, 30, 31, 32, 33, 34, 35, 36, 37, 38, 39, 40, 41, 42, 43, 44, 45, 46, 47, 48, 49, 50, 51, 52] [] 0 rfl rfl nd_0_1_2_3_4_5_6_7_8_9_10_11_12_13_14_15_16_17_18_19_20_21_22_23_24_25_26_27_28_29_30_31_32_33_34_35_36_37_38_39_40_41_42_43_44_45_46_47_48_49_50_51_52 rfl rfl rfl (by decide) (by decide) (Nat.le_of_ble_eq_true rfl) rfl ((zput_par nd_0_1_2_3_4_5_6_7_8_9_10_11_12_13_14_15_16_17_18_19_20_21_22_23_24_25_26_27_28_29_30_31_32_33_34_35_36_37_38_39_40_41_42_43_44_45_46_47_48_49_50_51_52 rfl).trans rfl) ?_
  refine z_iload C dL_orders_285 rfl ?_
  refine z_ncmp_ne_f C 305 dL_orders_287 (by decide) (by omega) (by omega) (by omega) ?_
  refine z_aload_n C 0 dL_orders_290 rfl rfl ?_
  refine z_iconst C (nI 0) dL_orders_291 (by decide) ?_
  refine z_iload C dL_orders_292 rfl ?_
  refine z_callVr C kX5_size gL_orders_X5_size (l_size0 X.2.1 x0 h0 w0 t S1 1 hG1 (by decide)) dL_orders_294 [0, 1, 2, 3, 4, 5, 6, 7, 8] [] 0 rfl nd_0_1_2_3_4_5_6_7_8 rfl rfl rfl (by decide) (by decide) (Nat.le_of_ble_eq_true rfl) rfl ?_
  refine z_iload C dL_orders_297 rfl ?_
  refine z_iload C dL_orders_299 rfl ?_
  refine z_iadd C dL_orders_301 ?_
  refine z_top (y := nI ((uU S 1) + 1)) (nI_add _ _) ?_
  refine z_ncmp_eq_t C 307 dL_orders_302 (by decide) (by omega) (by omega) (by omega) ?_
  refine z_aload_n C 0 dL_orders_307 rfl rfl ?_
  refine z_bipush C (nI 57) dL_orders_308 (by decide) ?_
  refine z_callV (wn := (WRd X.2.1 x0 h0 h1 w0 w1 t r S1 o1 kp1 Q1 (tyL (tyL tx [48 + dd, 48, 99, 43]) [57, 57, 57, 99, 43, 32, 48, 99, 43]) 9 ps4)) C kX5_type gL_orders_X5_type (l_typ X.2.1 x0 (t 0) h0 w0 w1 (tyL tx [48 + dd, 48, 99, 43]) [57, 57, 99, 43, 32, 48, 99, 43] ps4 57 8 rfl (by decide) htx2 (by intro c hc9; simp at hc9; omega) (by omega)) dL_orders_310 [0, 51, 52] [] 0 rfl rfl nd_0_51_52 rfl rfl rfl (by decide) (by decide) (Nat.le_of_ble_eq_true rfl) rfl ((zput_par nd_0_51_52 rfl).trans rfl) ?_
  refine z_top (y := nI 9) rfl ?_
  refine z_pop C dL_orders_313 rfl ?_
  refine z_aload_n C 0 dL_orders_314 rfl rfl ?_
  refine z_iload_n C 1 dL_orders_315 rfl rfl ?_
  refine z_callV (wn := (WRd X.2.1 x0 h0 h1 w0 w1 t r S1 o1 kp1 Q1 (tyL (tyL tx [48 + dd, 48, 99, 43]) [57, 57, 57, 99, 43, 32, 48, 99, 43]) 9 ps5)) C kX5_run gL_orders_X5_run m6 dL_orders_316 [0, 1, 2, 3, 4, 5, 6, 7, 8, 9, 10, 11, 12, 13, 14, 15, 16, 17, 18, 19, 20, 21, 22, 23, 24, 25, 26, 27, 28, 29, 30, 31, 32, 33, 34, 35, 36, 37, 38, 39, 40, 41, 42, 43, 44, 45, 46, 47, 48, 49, 50, 51, 52] [] 0 rfl rfl nd_0_1_2_3_4_5_6_7_8_9_10_11_12_13_14_15_16_17_18_19_20_21_22_23_24_25_26_27_28_29_30_31_32_33_34_35_36_37_38_39_40_41_42_43_44_45_46_47_48_49_50_51_52 rfl rfl rfl (by decide) (by decide) (Nat.le_of_ble_eq_true rfl) rfl ((zput_par nd_0_1_2_3_4_5_6_7_8_9_10_11_12_13_14_15_16_17_18_19_20_21_22_23_24_25_26_27_28_29_30_31_32_33_34_35_36_37_38_39_40_41_42_43_44_45_46_47_48_49_50_51_52 rfl).trans rfl) ?_
  refine z_bipush C (-100) dL_orders_319 (by decide) ?_
  refine z_iload C dL_orders_321 rfl ?_
  refine z_isub C dL_orders_323 ?_
  refine z_top (y := (-108)) (by decide) ?_
  refine z_icmp_ne_f C 360 dL_orders_324 (by decide) rfl ?_
  refine z_aload_n C 0 dL_orders_327 rfl rfl ?_
  refine z_callV (wn := (WRd X.2.1 x0 h0 h1 w0 w1 t r S o2 kp2 Q1 (tyL (tyL tx [48 + dd, 48, 99, 43]) [57, 57, 57, 99, 43, 32, 48, 99, 43]) 9 ps5)) C kX5_undo gL_orders_X5_undo m7 dL_orders_328 [0, 1, 2, 3, 4, 5, 6, 7, 8, 9, 10, 11, 12, 13, 14, 15, 16, 17, 18, 19, 20, 21, 22, 23, 24, 25, 26, 27, 28, 29, 30, 31, 32, 33, 34, 35, 36, 37, 38, 39, 40, 41, 42, 43, 44, 45, 46, 47, 48, 49, 50] [] 0 rfl rfl nd_0_1_2_3_4_5_6_7_8_9_10_11_12_13_14_15_16_17_18_19_20_21_22_23_24_25_26_27_28_29_30_31_32_33_34_35_36_37_38_39_40_41_42_43_44_45_46_47_48_49_50 rfl rfl rfl (by decide) (by decide) (Nat.le_of_ble_eq_true rfl) rfl ((zput_par nd_0_1_2_3_4_5_6_7_8_9_10_11_12_13_14_15_16_17_18_19_20_21_22_23_24_25_26_27_28_29_30_31_32_33_34_35_36_37_38_39_40_41_42_43_44_45_46_47_48_49_50 rfl).trans rfl) ?_
  refine z_nif_lt_f C 360 dL_orders_331 (by decide) (by omega) (by trivial) ?_
  refine z_aload_n C 0 dL_orders_334 rfl rfl ?_
  refine z_iconst C (nI 0) dL_orders_335 (by decide) ?_
  refine z_iload C dL_orders_336 rfl ?_
  refine z_callVr C kX5_size gL_orders_X5_size (l_size0 X.2.1 x0 h0 w0 t S 1 hG (by decide)) dL_orders_338 [0, 1, 2, 3, 4, 5, 6, 7, 8] [] 0 rfl nd_0_1_2_3_4_5_6_7_8 rfl rfl rfl (by decide) (by decide) (Nat.le_of_ble_eq_true rfl) rfl ?_
  refine z_iload C dL_orders_341 rfl ?_
  refine z_ncmp_ne_f C 360 dL_orders_343 (by decide) (by omega) (by omega) (by omega) ?_
  refine z_aload_n C 0 dL_orders_346 rfl rfl ?_
  refine z_iconst C (nI 0) dL_orders_347 (by decide) ?_
  refine z_callVr C kX5_count gL_orders_X5_count (l_cnt0 X.2.1 x0 h0 h1 w0 w1 t S o2 kp2 9 ps5  hG ) dL_orders_348 [0, 1, 2, 3, 4, 5, 6, 7, 8, 9, 51] [] 0 rfl nd_0_1_2_3_4_5_6_7_8_9_51 rfl rfl rfl (by decide) (by decide) (Nat.le_of_ble_eq_true rfl) rfl ?_
  refine z_iload C dL_orders_351 rfl ?_
  refine z_ncmp_ne_f C 360 dL_orders_353 (by decide) (by omega) (by omega) (by omega) ?_
  refine z_iconst C (nI 1) dL_orders_356 (by decide) ?_
  refine z_goto C 361 dL_orders_357 (by decide) ?_
  exact z_zret C N dL_orders_361 rfl (rfl) (rfl)

set_option maxHeartbeats 4000000 in
set_option maxRecDepth 100000 in
theorem w_ord10m (E : zE) (x0 h0 h1 w0 w1 : Nat) (t : Nat → Nat) (r : Nat → Nat → Nat) (S S1 : zSt) (o kp o1 o2 kp1 kp2 : Nat) (Q Q1 : Nat → zSt) (tx : Nat → Nat) (ln : Nat) (ps ps1 ps2 ps3 ps4 ps5 : zPs) {B B1 : Nat} (au : Nat) (g h : Int32) (dd lf : Nat) (hG : GG S B) (hG1 : GG S1 B1) (hau : au < 4) (hg1 : g &&& (nI 1) = nI 1) (hg2 : g &&& (nI 2) = 0) (hd : lw h 10 = dd) (hdd : dd < 10) (hln : ln ≤ 60) (htx : ∀ j, tx j < 65536) (hlf : lf < 100) (hu : uU S1 1 = uU S 1 + 0) (hf : uU S 1 < 8) (ht : tK S = true) (hm : mK S = 60) (m1 : zM E yX5_run wsX5_run 8 [.ref x0, .int (nI au)] (WRd E x0 h0 h1 w0 w1 t r S o kp Q (tyL tx []) 0 ps) (WRd E x0 h0 h1 w0 w1 t r S o kp Q (tyL tx []) 0 ps1) (some (.int (-100)))) (m2 : zM E yX5_run wsX5_run 8 [.ref x0, .int (nI 4)] (WRd E x0 h0 h1 w0 w1 t r S o kp Q (tyL tx []) 0 ps1) (WRd E x0 h0 h1 w0 w1 t r S o kp Q (tyL tx []) 0 ps1) (some (.int (-1)))) (m3 : zM E yX5_run wsX5_run 8 [.ref x0, .int (nI au)] (WRd E x0 h0 h1 w0 w1 t r S o kp Q (tyL tx [43]) 1 ps1) (WRd E x0 h0 h1 w0 w1 t r S o kp Q (tyL tx [43]) 1 ps2) (some (.int (-101)))) (m4 : zM E yX5_run wsX5_run 8 [.ref x0, .int (nI au)] (WRd E x0 h0 h1 w0 w1 t r S o kp Q (tyL tx [48 + dd, 48, 99, 43]) 4 ps2) (WRd E x0 h0 h1 w0 w1 t r S o kp Q (tyL tx [48 + dd, 48, 99, 43]) 4 ps3) (some (.int (-103)))) (m5 : zM E yX5_run wsX5_run 8 [.ref x0, .int (nI au)] (WRd E x0 h0 h1 w0 w1 t r S o kp Q (tyL (tyL tx [48 + dd, 48, 99, 43]) [57, 57, 99, 43, 32, 48, 99, 43]) 8 ps3) (WRd E x0 h0 h1 w0 w1 t r S1 o1 kp1 Q1 (tyL (tyL tx [48 + dd, 48, 99, 43]) [57, 57, 99, 43, 32, 48, 99, 43]) 8 ps4) (some (.int (nI 0)))) (m6 : zM E yX5_run wsX5_run 8 [.ref x0, .int (nI au)] (WRd E x0 h0 h1 w0 w1 t r S1 o1 kp1 Q1 (tyL (tyL tx [48 + dd, 48, 99, 43]) [57, 57, 57, 99, 43, 32, 48, 99, 43]) 9 ps4) (WRd E x0 h0 h1 w0 w1 t r S1 o1 kp1 Q1 (tyL (tyL tx [48 + dd, 48, 99, 43]) [57, 57, 57, 99, 43, 32, 48, 99, 43]) 9 ps5) (some (.int (-108)))) (m7 : zM E yX5_undo wsX5_undo 5 [.ref x0] (WAd E x0 h0 h1 w0 t r S1 o1 kp1 Q1) (WAd E x0 h0 h1 w0 t r S o2 kp2 Q1) (some (.int (nI lf)))) : zM E yL_orders wsL_orders 9 [.ref x0, .int (nI au), .int g, .int h] (WRd E x0 h0 h1 w0 w1 t r S o kp Q tx ln ps) (WRd E x0 h0 h1 w0 w1 t r S o2 kp2 Q1 (tyL (tyL tx [48 + dd, 48, 99, 43]) [57, 57, 57, 99, 43, 32, 48, 99, 43]) 9 ps5) (some (.int (nI 1))) := by
  refine zM.of kL_orders (Nat.le_of_ble_eq_true rfl) rfl [some (.ref x0), some (.int (nI au)), some (.int g), some (.int h), none, none, none, none, none, none, none] rfl (Nat.le_of_ble_eq_true rfl) ?_
  intro X eX C N
  subst eX
  have hb0 : uU S 0 ≤ 12 := gg_u hG 0
  have hb1 : uU S 1 ≤ 8 := gg_u1 hG
  have hb2 : mK S ≤ 60 := gg_M hG
  have hb3 : uU S1 0 ≤ 12 := gg_u hG1 0
  have hb4 : uU S1 1 ≤ 8 := gg_u1 hG1
  have hb5 : mK S1 ≤ 60 := gg_M hG1
  refine z_aload_n C 0 dL_orders_0 rfl rfl ?_
  refine z_callV (wn := (WRd X.2.1 x0 h0 h1 w0 w1 t r S o kp Q (tyL tx []) 0 ps)) C kX5_clearText gL_orders_X5_clearText (l_clr X.2.1 x0 (t 0) h0 w0 w1 tx ln ps hln) dL_orders_1 [0, 51, 52] [] 0 rfl rfl nd_0_51_52 rfl rfl rfl (by decide) (by decide) (Nat.le_of_ble_eq_true rfl) rfl ((zput_par nd_0_51_52 rfl).trans rfl) ?_
  refine z_pop C dL_orders_4 rfl ?_
  refine z_aload_n C 0 dL_orders_5 rfl rfl ?_
  refine z_iload_n C 1 dL_orders_6 rfl rfl ?_
  refine z_callV (wn := (WRd X.2.1 x0 h0 h1 w0 w1 t r S o kp Q (tyL tx []) 0 ps1)) C kX5_run gL_orders_X5_run m1 dL_orders_7 [0, 1, 2, 3, 4, 5, 6, 7, 8, 9, 10, 11, 12, 13, 14, 15, 16, 17, 18, 19, 20, 21, 22, 23, 24, 25, 26, 27, 28, 29, 30, 31, 32, 33, 34, 35, 36, 37, 38, 39, 40, 41, 42, 43, 44, 45, 46, 47, 48, 49, 50, 51, 52] [] 0 rfl rfl nd_0_1_2_3_4_5_6_7_8_9_10_11_12_13_14_15_16_17_18_19_20_21_22_23_24_25_26_27_28_29_30_31_32_33_34_35_36_37_38_39_40_41_42_43_44_45_46_47_48_49_50_51_52 rfl rfl rfl (by decide) (by decide) (Nat.le_of_ble_eq_true rfl) rfl ((zput_par nd_0_1_2_3_4_5_6_7_8_9_10_11_12_13_14_15_16_17_18_19_20_21_22_23_24_25_26_27_28_29_30_31_32_33_34_35_36_37_38_39_40_41_42_43_44_45_46_47_48_49_50_51_52 rfl).trans rfl) ?_
  refine z_bipush C (-100) dL_orders_10 (by decide) ?_
  refine z_icmp_ne_f C 24 dL_orders_12 (by decide) rfl ?_
  refine z_aload_n C 0 dL_orders_15 rfl rfl ?_
  refine z_iconst C (nI 4) dL_orders_16 (by decide) ?_
  refine z_callV (wn := (WRd X.2.1 x0 h0 h1 w0 w1 t r S o kp Q (tyL tx []) 0 ps1)) C kX5_run gL_orders_X5_run m2 dL_orders_17 [0, 1, 2, 3, 4, 5, 6, 7, 8, 9, 10, 11, 12, 13, 14, 15, 16, 17, 18, 19, 20, 21, 22, 23, 24, 25, 26, 27, 28, 29, 30, 31, 32, 33, 34, 35, 36, 37, 38, 39, 40, 41, 42, 43, 44, 45, 46, 47, 48, 49, 50, 51, 52] [] 0 rfl rfl nd_0_1_2_3_4_5_6_7_8_9_10_11_12_13_14_15_16_17_18_19_20_21_22_23_24_25_26_27_28_29_30_31_32_33_34_35_36_37_38_39_40_41_42_43_44_45_46_47_48_49_50_51_52 rfl rfl rfl (by decide) (by decide) (Nat.le_of_ble_eq_true rfl) rfl ((zput_par nd_0_1_2_3_4_5_6_7_8_9_10_11_12_13_14_15_16_17_18_19_20_21_22_23_24_25_26_27_28_29_30_31_32_33_34_35_36_37_38_39_40_41_42_43_44_45_46_47_48_49_50_51_52 rfl).trans rfl) ?_
  refine z_iconst C (-1) dL_orders_20 (by decide) ?_
  refine z_icmp_eq_t C 26 dL_orders_21 (by decide) rfl ?_
  refine z_iload_n C 2 dL_orders_26 rfl rfl ?_
  refine z_iconst C (nI 1) dL_orders_27 (by decide) ?_
  refine z_iand C dL_orders_28 ?_
  refine z_top (y := nI 1) (hg1) ?_
  refine z_istore C dL_orders_29 (Nat.le_of_ble_eq_true rfl) ?_
  refine z_lv (lv' := [some (.ref x0), some (.int (nI au)), some (.int g), some (.int h), some (.int (nI 1)), none, none, none, none, none, none]) rfl ?_
  refine z_aload_n C 0 dL_orders_31 rfl rfl ?_
  refine z_iconst C (nI 0) dL_orders_32 (by decide) ?_
  refine z_iload C dL_orders_33 rfl ?_
  refine z_callVr C kX5_size gL_orders_X5_size (l_size0 X.2.1 x0 h0 w0 t S 1 hG (by decide)) dL_orders_35 [0, 1, 2, 3, 4, 5, 6, 7, 8] [] 0 rfl nd_0_1_2_3_4_5_6_7_8 rfl rfl rfl (by decide) (by decide) (Nat.le_of_ble_eq_true rfl) rfl ?_
  refine z_istore C dL_orders_38 (Nat.le_of_ble_eq_true rfl) ?_
  refine z_lv (lv' := [some (.ref x0), some (.int (nI au)), some (.int g), some (.int h), some (.int (nI 1)), some (.int (nI (uU S 1))), none, none, none, none, none]) rfl ?_
  refine z_aload_n C 0 dL_orders_40 rfl rfl ?_
  refine z_iconst C (nI 0) dL_orders_41 (by decide) ?_
  refine z_callVr C kX5_count gL_orders_X5_count (l_cnt0 X.2.1 x0 h0 h1 w0 w1 t S o kp 0 ps1  hG ) dL_orders_42 [0, 1, 2, 3, 4, 5, 6, 7, 8, 9, 51] [] 0 rfl nd_0_1_2_3_4_5_6_7_8_9_51 rfl rfl rfl (by decide) (by decide) (Nat.le_of_ble_eq_true rfl) rfl ?_
  refine z_istore C dL_orders_45 (Nat.le_of_ble_eq_true rfl) ?_
  refine z_lv (lv' := [some (.ref x0), some (.int (nI au)), some (.int g), some (.int h), some (.int (nI 1)), some (.int (nI (uU S 1))), some (.int (nI (mK S))), none, none, none, none]) rfl ?_
  refine z_aload_n C 0 dL_orders_47 rfl rfl ?_
  refine z_iconst C (nI 5) dL_orders_48 (by decide) ?_
  refine z_callVr C kX5_count gL_orders_X5_count (l_cnt5y X.2.1 x0 h0 h1 w0 w1 t S o kp 0 ps1  hG ht) dL_orders_49 [0, 1, 2, 3, 4, 5, 6, 7, 8, 9, 51] [] 0 rfl nd_0_1_2_3_4_5_6_7_8_9_51 rfl rfl rfl (by decide) (by decide) (Nat.le_of_ble_eq_true rfl) rfl ?_
  refine z_iconst C (nI 1) dL_orders_52 (by decide) ?_
  refine z_ncmp_ne_f C 60 dL_orders_53 (by decide) (by omega) (by omega) (by omega) ?_
  refine z_iconst C (nI 1) dL_orders_56 (by decide) ?_
  refine z_goto C 61 dL_orders_57 (by decide) ?_
  refine z_istore C dL_orders_61 (Nat.le_of_ble_eq_true rfl) ?_
  refine z_lv (lv' := [some (.ref x0), some (.int (nI au)), some (.int g), some (.int h), some (.int (nI 1)), some (.int (nI (uU S 1))), some (.int (nI (mK S))), some (.int (nI 1)), none, none, none]) rfl ?_
  refine z_aload_n C 0 dL_orders_63 rfl rfl ?_
  refine z_iload_n C 2 dL_orders_64 rfl rfl ?_
  refine z_iconst C (nI 2) dL_orders_65 (by decide) ?_
  refine z_iand C dL_orders_66 ?_
  refine z_if_ne_f C 75 dL_orders_67 (by decide) hg2 ?_
  refine z_bipush C (nI 43) dL_orders_70 (by decide) ?_
  refine z_goto C 77 dL_orders_72 (by decide) ?_
  refine z_callV (wn := (WRd X.2.1 x0 h0 h1 w0 w1 t r S o kp Q (tyL tx [43]) 1 ps1)) C kX5_type gL_orders_X5_type (l_typ X.2.1 x0 (t 0) h0 w0 w1 tx [] ps1 43 0 rfl (by decide) htx (fun c hc9 => absurd hc9 List.not_mem_nil) (by omega)) dL_orders_77 [0, 51, 52] [] 0 rfl rfl nd_0_51_52 rfl rfl rfl (by decide) (by decide) (Nat.le_of_ble_eq_true rfl) rfl ((zput_par nd_0_51_52 rfl).trans rfl) ?_
  refine z_top (y := nI 1) rfl ?_
  refine z_istore C dL_orders_80 (Nat.le_of_ble_eq_true rfl) ?_
  refine z_lv (lv' := [some (.ref x0), some (.int (nI au)), some (.int g), some (.int h), some (.int (nI 1)), some (.int (nI (uU S 1))), some (.int (nI (mK S))), some (.int (nI 1)), some (.int (nI 1)), none, none]) rfl ?_
  refine z_aload_n C 0 dL_orders_82 rfl rfl ?_
  refine z_iload_n C 1 dL_orders_83 rfl rfl ?_
  refine z_callV (wn := (WRd X.2.1 x0 h0 h1 w0 w1 t r S o kp Q (tyL tx [43]) 1 ps2)) C kX5_run gL_orders_X5_run m3 dL_orders_84 [0, 1, 2, 3, 4, 5, 6, 7, 8, 9, 10, 11, 12, 13, 14, 15, 16, 17, 18, 19, 20, 21, 22, 23, 24, 25, 26, 27, 28, 29, 30, 31, 32, 33, 34, 35, 36, 37, 38, 39, 40, 41, 42, 43, 44, 45, 46, 47, 48, 49, 50, 51, 52] [] 0 rfl rfl nd_0_1_2_3_4_5_6_7_8_9_10_11_12_13_14_15_16_17_18_19_20_21_22_23_24_25_26_27_28_29_30_31_32_33_34_35_36_37_38_39_40_41_42_43_44_45_46_47_48_49_50_51_52 rfl rfl rfl (by decide) (by decide) (Nat.le_of_ble_eq_true rfl) rfl ((zput_par nd_0_1_2_3_4_5_6_7_8_9_10_11_12_13_14_15_16_17_18_19_20_21_22_23_24_25_26_27_28_29_30_31_32_33_34_35_36_37_38_39_40_41_42_43_44_45_46_47_48_49_50_51_52 rfl).trans rfl) ?_
  refine z_bipush C (-100) dL_orders_87 (by decide) ?_
  refine z_iload C dL_orders_89 rfl ?_
  refine z_isub C dL_orders_91 ?_
  refine z_top (y := (-101)) (by decide) ?_
  refine z_icmp_ne_f C 99 dL_orders_92 (by decide) rfl ?_
  refine z_iconst C (nI 1) dL_orders_95 (by decide) ?_
  refine z_goto C 100 dL_orders_96 (by decide) ?_
  refine z_istore C dL_orders_100 (Nat.le_of_ble_eq_true rfl) ?_
  refine z_lv (lv' := [some (.ref x0), some (.int (nI au)), some (.int g), some (.int h), some (.int (nI 1)), some (.int (nI (uU S 1))), some (.int (nI (mK S))), some (.int (nI 1)), some (.int (nI 1)), some (.int (nI 1)), none]) rfl ?_
  refine z_aload_n C 0 dL_orders_102 rfl rfl ?_
  refine z_iload C dL_orders_103 rfl ?_
  refine z_nif_ne_t C 113 dL_orders_105 (by decide) (by omega) (by omega) ?_
  refine z_bipush C (nI 99) dL_orders_113 (by decide) ?_
  refine z_callV (wn := (WRd X.2.1 x0 h0 h1 w0 w1 t r S o kp Q (tyL tx [99, 43]) 2 ps2)) C kX5_type gL_orders_X5_type (l_typ X.2.1 x0 (t 0) h0 w0 w1 tx [43] ps2 99 1 rfl (by decide) htx (by intro c hc9; simp at hc9; omega) (by omega)) dL_orders_115 [0, 51, 52] [] 0 rfl rfl nd_0_51_52 rfl rfl rfl (by decide) (by decide) (Nat.le_of_ble_eq_true rfl) rfl ((zput_par nd_0_51_52 rfl).trans rfl) ?_
  refine z_top (y := nI 2) rfl ?_
  refine z_pop C dL_orders_118 rfl ?_
  refine z_aload_n C 0 dL_orders_119 rfl rfl ?_
  refine z_bipush C (nI 48) dL_orders_120 (by decide) ?_
  refine z_callV (wn := (WRd X.2.1 x0 h0 h1 w0 w1 t r S o kp Q (tyL tx [48, 99, 43]) 3 ps2)) C kX5_type gL_orders_X5_type (l_typ X.2.1 x0 (t 0) h0 w0 w1 tx [99, 43] ps2 48 2 rfl (by decide) htx (by intro c hc9; simp at hc9; omega) (by omega)) dL_orders_122 [0, 51, 52] [] 0 rfl rfl nd_0_51_52 rfl rfl rfl (by decide) (by decide) (Nat.le_of_ble_eq_true rfl) rfl ((zput_par nd_0_51_52 rfl).trans rfl) ?_
  refine z_top (y := nI 3) rfl ?_
  refine z_pop C dL_orders_125 rfl ?_
  refine z_aload_n C 0 dL_orders_126 rfl rfl ?_
  refine z_bipush C (nI 48) dL_orders_127 (by decide) ?_
  refine z_iload_n C 3 dL_orders_129 rfl rfl ?_
  refine z_bipush C (nI 10) dL_orders_130 (by decide) ?_
  refine z_callS C kL_low gL_orders_L_low (l_low X.2.1 h 10 (by decide) (by decide)) dL_orders_132 [.int (nI 48), .ref x0] rfl (by decide) (by decide) (Nat.le_of_ble_eq_true rfl) rfl ?_
  refine z_top (y := nI dd) (congrArg nI hd) ?_
  refine z_iadd C dL_orders_135 ?_
  refine z_top (y := nI (48 + dd)) (nI_add _ _) ?_
  refine z_i2c C (nI (48 + dd)) dL_orders_136 (chr_n (by omega)) ?_
  refine z_callV (wn := (WRd X.2.1 x0 h0 h1 w0 w1 t r S o kp Q (tyL tx [48 + dd, 48, 99, 43]) 4 ps2)) C kX5_type gL_orders_X5_type (l_typ X.2.1 x0 (t 0) h0 w0 w1 tx [48, 99, 43] ps2 (48 + dd) 3 rfl (by decide) htx (by intro c hc9; simp at hc9; omega) (by omega)) dL_orders_137 [0, 51, 52] [] 0 rfl rfl nd_0_51_52 rfl rfl rfl (by decide) (by decide) (Nat.le_of_ble_eq_true rfl) rfl ((zput_par nd_0_51_52 rfl).trans rfl) ?_
  refine z_top (y := nI 4) rfl ?_
  refine z_istore C dL_orders_140 (Nat.le_of_ble_eq_true rfl) ?_
  refine z_lv (lv' := [some (.ref x0), some (.int (nI au)), some (.int g), some (.int h), some (.int (nI 1)), some (.int (nI (uU S 1))), some (.int (nI (mK S))), some (.int (nI 1)), some (.int (nI 4)), some (.int (nI 1)), none]) rfl ?_
  refine z_iload C dL_orders_142 rfl ?_
  refine z_nif_eq_f C 160 dL_orders_144 (by decide) (by omega) (by omega) ?_
  refine z_aload_n C 0 dL_orders_147 rfl rfl ?_
  refine z_iload_n C 1 dL_orders_148 rfl rfl ?_
  refine z_callV (wn := (WRd X.2.1 x0 h0 h1 w0 w1 t r S o kp Q (tyL tx [48 + dd, 48, 99, 43]) 4 ps3)) C kX5_run gL_orders_X5_run m4 dL_orders_149 [0, 1, 2, 3, 4, 5, 6, 7, 8, 9, 10, 11, 12, 13, 14, 15, 16, 17, 18, 19, 20, 21, 22, 23, 24, 25, 26, 27, 28, 29, 30, 31, 32, 33, 34, 35, 36, 37, 38, 39, 40, 41, 42, 43, 44, 45, 46, 47, 48, 49, 50, 51, 52] [] 0 rfl rfl nd_0_1_2_3_4_5_6_7_8_9_10_11_12_13_14_15_16_17_18_19_20_21_22_23_24_25_26_27_28_29_30_31_32_33_34_35_36_37_38_39_40_41_42_43_44_45_46_47_48_49_50_51_52 rfl rfl rfl (by decide) (by decide) (Nat.le_of_ble_eq_true rfl) rfl ((zput_par nd_0_1_2_3_4_5_6_7_8_9_10_11_12_13_14_15_16_17_18_19_20_21_22_23_24_25_26_27_28_29_30_31_32_33_34_35_36_37_38_39_40_41_42_43_44_45_46_47_48_49_50_51_52 rfl).trans rfl) ?_
  refine z_bipush C (-99) dL_orders_152 (by decide) ?_
  refine z_iload C dL_orders_154 rfl ?_
  refine z_isub C dL_orders_156 ?_
  refine z_top (y := (-103)) (by decide) ?_
  refine z_icmp_eq_t C 162 dL_orders_157 (by decide) rfl ?_
  refine z_aload_n C 0 dL_orders_162 rfl rfl ?_
  have htx2 : ∀ j, tyL tx [48 + dd, 48, 99, 43] j < 65536 := tyL_b htx (by intro c hc9; simp at hc9; omega)
  refine z_callV (wn := (WRd X.2.1 x0 h0 h1 w0 w1 t r S o kp Q (tyL (tyL tx [48 + dd, 48, 99, 43]) []) 0 ps3)) C kX5_clearText gL_orders_X5_clearText (l_clr X.2.1 x0 (t 0) h0 w0 w1 (tyL tx [48 + dd, 48, 99, 43]) 4 ps3 (by decide)) dL_orders_163 [0, 51, 52] [] 0 rfl rfl nd_0_51_52 rfl rfl rfl (by decide) (by decide) (Nat.le_of_ble_eq_true rfl) rfl ((zput_par nd_0_51_52 rfl).trans rfl) ?_
  refine z_pop C dL_orders_166 rfl ?_
  refine z_aload_n C 0 dL_orders_167 rfl rfl ?_
  refine z_bipush C (nI 43) dL_orders_168 (by decide) ?_
  refine z_callV (wn := (WRd X.2.1 x0 h0 h1 w0 w1 t r S o kp Q (tyL (tyL tx [48 + dd, 48, 99, 43]) [43]) 1 ps3)) C kX5_type gL_orders_X5_type (l_typ X.2.1 x0 (t 0) h0 w0 w1 (tyL tx [48 + dd, 48, 99, 43]) [] ps3 43 0 rfl (by decide) htx2 (fun c hc9 => absurd hc9 List.not_mem_nil) (by omega)) dL_orders_170 [0, 51, 52] [] 0 rfl rfl nd_0_51_52 rfl rfl rfl (by decide) (by decide) (Nat.le_of_ble_eq_true rfl) rfl ((zput_par nd_0_51_52 rfl).trans rfl) ?_
  refine z_top (y := nI 1) rfl ?_
  refine z_pop C dL_orders_173 rfl ?_
  refine z_aload_n C 0 dL_orders_174 rfl rfl ?_
  refine z_iload C dL_orders_175 rfl ?_
  refine z_nif_ne_t C 185 dL_orders_177 (by decide) (by omega) (by omega) ?_
  refine z_bipush C (nI 99) dL_orders_185 (by decide) ?_
  refine z_callV (wn := (WRd X.2.1 x0 h0 h1 w0 w1 t r S o kp Q (tyL (tyL tx [48 + dd, 48, 99, 43]) [99, 43]) 2 ps3)) C kX5_type gL_orders_X5_type (l_typ X.2.1 x0 (t 0) h0 w0 w1 (tyL tx [48 + dd, 48, 99, 43]) [43] ps3 99 1 rfl (by decide) htx2 (by intro c hc9; simp at hc9; omega) (by omega)) dL_orders_187 [0, 51, 52] [] 0 rfl rfl nd_0_51_52 rfl rfl rfl (by decide) (by decide) (Nat.le_of_ble_eq_true rfl) rfl ((zput_par nd_0_51_52 rfl).trans rfl) ?_
  refine z_top (y := nI 2) rfl ?_
  refine z_pop C dL_orders_190 rfl ?_
  refine z_aload_n C 0 dL_orders_191 rfl rfl ?_
  refine z_bipush C (nI 48) dL_orders_192 (by decide) ?_
  refine z_callV (wn := (WRd X.2.1 x0 h0 h1 w0 w1 t r S o kp Q (tyL (tyL tx [48 + dd, 48, 99, 43]) [48, 99, 43]) 3 ps3)) C kX5_type gL_orders_X5_type (l_typ X.2.1 x0 (t 0) h0 w0 w1 (tyL tx [48 + dd, 48, 99, 43]) [99, 43] ps3 48 2 rfl (by decide) htx2 (by intro c hc9; simp at hc9; omega) (by omega)) dL_orders_194 [0, 51, 52] [] 0 rfl rfl nd_0_51_52 rfl rfl rfl (by decide) (by decide) (Nat.le_of_ble_eq_true rfl) rfl ((zput_par nd_0_51_52 rfl).trans rfl) ?_
  refine z_top (y := nI 3) rfl ?_
  refine z_pop C dL_orders_197 rfl ?_
  refine z_aload_n C 0 dL_orders_198 rfl rfl ?_
  refine z_bipush C (nI 32) dL_orders_199 (by decide) ?_
  refine z_callV (wn := (WRd X.2.1 x0 h0 h1 w0 w1 t r S o kp Q (tyL (tyL tx [48 + dd, 48, 99, 43]) [32, 48, 99, 43]) 4 ps3)) C kX5_type gL_orders_X5_type (l_typ X.2.1 x0 (t 0) h0 w0 w1 (tyL tx [48 + dd, 48, 99, 43]) [48, 99, 43] ps3 32 3 rfl (by decide) htx2 (by intro c hc9; simp at hc9; omega) (by omega)) dL_orders_201 [0, 51, 52] [] 0 rfl rfl nd_0_51_52 rfl rfl rfl (by decide) (by decide) (Nat.le_of_ble_eq_true rfl) rfl ((zput_par nd_0_51_52 rfl).trans rfl) ?_
  refine z_top (y := nI 4) rfl ?_
  refine z_pop C dL_orders_204 rfl ?_
  refine z_aload_n C 0 dL_orders_205 rfl rfl ?_
  refine z_bipush C (nI 43) dL_orders_206 (by decide) ?_
  refine z_callV (wn := (WRd X.2.1 x0 h0 h1 w0 w1 t r S o kp Q (tyL (tyL tx [48 + dd, 48, 99, 43]) [43, 32, 48, 99, 43]) 5 ps3)) C kX5_type gL_orders_X5_type (l_typ X.2.1 x0 (t 0) h0 w0 w1 (tyL tx [48 + dd, 48, 99, 43]) [32, 48, 99, 43] ps3 43 4 rfl (by decide) htx2 (by intro c hc9; simp at hc9; omega) (by omega)) dL_orders_208 [0, 51, 52] [] 0 rfl rfl nd_0_51_52 rfl rfl rfl (by decide) (by decide) (Nat.le_of_ble_eq_true rfl) rfl ((zput_par nd_0_51_52 rfl).trans rfl) ?_
  refine z_top (y := nI 5) rfl ?_
  refine z_pop C dL_orders_211 rfl ?_
  refine z_aload_n C 0 dL_orders_212 rfl rfl ?_
  refine z_iload C dL_orders_213 rfl ?_
  refine z_nif_ne_t C 223 dL_orders_215 (by decide) (by omega) (by omega) ?_
  refine z_bipush C (nI 99) dL_orders_223 (by decide) ?_
  refine z_callV (wn := (WRd X.2.1 x0 h0 h1 w0 w1 t r S o kp Q (tyL (tyL tx [48 + dd, 48, 99, 43]) [99, 43, 32, 48, 99, 43]) 6 ps3)) C kX5_type gL_orders_X5_type (l_typ X.2.1 x0 (t 0) h0 w0 w1 (tyL tx [48 + dd, 48, 99, 43]) [43, 32, 48, 99, 43] ps3 99 5 rfl (by decide) htx2 (by intro c hc9; simp at hc9; omega) (by omega)) dL_orders_225 [0, 51, 52] [] 0 rfl rfl nd_0_51_52 rfl rfl rfl (by decide) (by decide) (Nat.le_of_ble_eq_true rfl) rfl ((zput_par nd_0_51_52 rfl).trans rfl) ?_
  refine z_top (y := nI 6) rfl ?_
  refine z_pop C dL_orders_228 rfl ?_
  refine z_aload_n C 0 dL_orders_229 rfl rfl ?_
  refine z_bipush C (nI 57) dL_orders_230 (by decide) ?_
  refine z_callV (wn := (WRd X.2.1 x0 h0 h1 w0 w1 t r S o kp Q (tyL (tyL tx [48 + dd, 48, 99, 43]) [57, 99, 43, 32, 48, 99, 43]) 7 ps3)) C kX5_type gL_orders_X5_type (l_typ X.2.1 x0 (t 0) h0 w0 w1 (tyL tx [48 + dd, 48, 99, 43]) [99, 43, 32, 48, 99, 43] ps3 57 6 rfl (by decide) htx2 (by intro c hc9; simp at hc9; omega) (by omega)) dL_orders_232 [0, 51, 52] [] 0 rfl rfl nd_0_51_52 rfl rfl rfl (by decide) (by decide) (Nat.le_of_ble_eq_true rfl) rfl ((zput_par nd_0_51_52 rfl).trans rfl) ?_
  refine z_top (y := nI 7) rfl ?_
  refine z_pop C dL_orders_235 rfl ?_
  refine z_aload_n C 0 dL_orders_236 rfl rfl ?_
  refine z_bipush C (nI 57) dL_orders_237 (by decide) ?_
  refine z_callV (wn := (WRd X.2.1 x0 h0 h1 w0 w1 t r S o kp Q (tyL (tyL tx [48 + dd, 48, 99, 43]) [57, 57, 99, 43, 32, 48, 99, 43]) 8 ps3)) C kX5_type gL_orders_X5_type (l_typ X.2.1 x0 (t 0) h0 w0 w1 (tyL tx [48 + dd, 48, 99, 43]) [57, 99, 43, 32, 48, 99, 43] ps3 57 7 rfl (by decide) htx2 (by intro c hc9; simp at hc9; omega) (by omega)) dL_orders_239 [0, 51, 52] [] 0 rfl rfl nd_0_51_52 rfl rfl rfl (by decide) (by decide) (Nat.le_of_ble_eq_true rfl) rfl ((zput_par nd_0_51_52 rfl).trans rfl) ?_
  refine z_top (y := nI 8) rfl ?_
  refine z_istore C dL_orders_242 (Nat.le_of_ble_eq_true rfl) ?_
  refine z_lv (lv' := [some (.ref x0), some (.int (nI au)), some (.int g), some (.int h), some (.int (nI 1)), some (.int (nI (uU S 1))), some (.int (nI (mK S))), some (.int (nI 1)), some (.int (nI 8)), some (.int (nI 1)), none]) rfl ?_
  refine z_iload C dL_orders_244 rfl ?_
  refine z_iload C dL_orders_246 rfl ?_
  refine z_nif_ne_t C 256 dL_orders_248 (by decide) (by omega) (by omega) ?_
  refine z_bipush C (nI 8) dL_orders_256 (by decide) ?_
  refine z_ncmp_eq_f C 273 dL_orders_258 (by decide) (by omega) (by omega) (by omega) ?_
  refine z_iload C dL_orders_261 rfl ?_
  refine z_nif_eq_f C 277 dL_orders_263 (by decide) (by omega) (by omega) ?_
  refine z_iload C dL_orders_266 rfl ?_
  refine z_bipush C (nI 60) dL_orders_268 (by decide) ?_
  refine z_ncmp_ne_f C 277 dL_orders_270 (by decide) (by omega) (by omega) (by omega) ?_
  refine z_iconst C (nI 0) dL_orders_273 (by decide) ?_
  refine z_goto C 278 dL_orders_274 (by decide) ?_
  refine z_istore C dL_orders_278 (Nat.le_of_ble_eq_true rfl) ?_
  refine z_lv (lv' := [some (.ref x0), some (.int (nI au)), some (.int g), some (.int h), some (.int (nI 1)), some (.int (nI (uU S 1))), some (.int (nI (mK S))), some (.int (nI 1)), some (.int (nI 8)), some (.int (nI 1)), some (.int (nI 0))]) rfl ?_
  refine z_aload_n C 0 dL_orders_280 rfl rfl ?_
  refine z_iload_n C 1 dL_orders_281 rfl rfl ?_
  refine z_callV (wn := (WRd X.2.1 x0 h0 h1 w0 w1 t r S1 o1 kp1 Q1 (tyL (tyL tx [48 + dd, 48, 99, 43]) [57, 57, 99, 43, 32, 48, 99, 43]) 8 ps4)) C kX5_run gL_orders_X5_run m5 dL_orders_282 [0, 1, 2, 3, 4, 5, 6, 7, 8, 9, 10, 11, 12, 13, 14, 15, 16, 17, 18, 19, 20, 21, 22, 23, 24, 25, 26, 27, 28, 29, 30, 31, 32, 33, 34, 35, 36, 37, 38, 39, 40, 41, 42, 43, 44, 45, 46, 47, 48, 49, 50, 51, 52] [] 0 rfl rfl nd_0_1_2_3_4_5_6_7_8_9_10_11_12_13_14_15_16_17_18_19_20_21_22_23_24_25_26_27_28_29_30_31_32_33_34_35_36_37_38_39_40_41_42_43_44_45_46_47_48_49_50_51_52 rfl rfl rfl (by decide) (by decide) (Nat.le_of_ble_eq_true rfl) rfl ((zput_par nd_0_1_2_3_4_5_6_7_8_9_10_11_12_13_14_15_16_17_18_19_20_21_22_23_24_25_26_27_28_29_30_31_32_33_34_35_36_37_38_39_40_41_42_43_44_45_46_47_48_49_50_51_52 rfl).trans rfl) ?_
  refine z_iload C dL_orders_285 rfl ?_
  refine z_ncmp_ne_f C 305 dL_orders_287 (by decide) (by omega) (by omega) (by omega) ?_
  refine z_aload_n C 0 dL_orders_290 rfl rfl ?_
  refine z_iconst C (nI 0) dL_orders_291 (by decide) ?_
  refine z_iload C dL_orders_292 rfl ?_
  refine z_callVr C kX5_size gL_orders_X5_size (l_size0 X.2.1 x0 h0 w0 t S1 1 hG1 (by decide)) dL_orders_294 [0, 1, 2, 3, 4, 5, 6, 7, 8] [] 0 rfl nd_0_1_2_3_4_5_6_7_8 rfl rfl rfl (by decide) (by decide) (Nat.le_of_ble_eq_true rfl) rfl ?_
  refine z_iload C dL_orders_297 rfl ?_
  refine z_iload C dL_orders_299 rfl ?_
  refine z_iadd C dL_orders_301 ?_
  refine z_top (y := nI (uU S 1)) (nI_add _ _) ?_
  refine z_ncmp_eq_t C 307 dL_orders_302 (by decide) (by omega) (by omega) (by omega) ?_
  refine z_aload_n C 0 dL_orders_307 rfl rfl ?_
  refine z_bipush C (nI 57) dL_orders_308 (by decide) ?_
  refine z_callV (wn := (WRd X.2.1 x0 h0 h1 w0 w1 t r S1 o1 kp1 Q1 (tyL (tyL tx [48 + dd, 48, 99, 43]) [57, 57, 57, 99, 43, 32, 48, 99, 43]) 9 ps4)) C kX5_type gL_orders_X5_type (l_typ X.2.1 x0 (t 0) h0 w0 w1 (tyL tx [48 + dd, 48, 99, 43]) [57, 57, 99, 43, 32, 48, 99, 43] ps4 57 8 rfl (by decide) htx2 (by intro c hc9; simp at hc9; omega) (by omega)) dL_orders_310 [0, 51, 52] [] 0 rfl rfl nd_0_51_52 rfl rfl rfl (by decide) (by decide) (Nat.le_of_ble_eq_true rfl) rfl ((zput_par nd_0_51_52 rfl).trans rfl) ?_
  refine z_top (y := nI 9) rfl ?_
  refine z_pop C dL_orders_313 rfl ?_
  refine z_aload_n C 0 dL_orders_314 rfl rfl ?_
  refine z_iload_n C 1 dL_orders_315 rfl rfl ?_
  refine z_callV (wn := (WRd X.2.1 x0 h0 h1 w0 w1 t r S1 o1 kp1 Q1 (tyL (tyL tx [48 + dd, 48, 99, 43]) [57, 57, 57, 99, 43, 32, 48, 99, 43]) 9 ps5)) C kX5_run gL_orders_X5_run m6 dL_orders_316 [0, 1, 2, 3, 4, 5, 6, 7, 8, 9, 10, 11, 12, 13, 14, 15, 16, 17, 18, 19, 20, 21, 22, 23, 24, 25, 26, 27, 28, 29, 30, 31, 32, 33, 34, 35, 36, 37, 38, 39, 40, 41, 42, 43, 44, 45, 46, 47, 48, 49, 50, 51, 52] [] 0 rfl rfl nd_0_1_2_3_4_5_6_7_8_9_10_11_12_13_14_15_16_17_18_19_20_21_22_23_24_25_26_27_28_29_30_31_32_33_34_35_36_37_38_39_40_41_42_43_44_45_46_47_48_49_50_51_52 rfl rfl rfl (by decide) (by decide) (Nat.le_of_ble_eq_true rfl) rfl ((zput_par nd_0_1_2_3_4_5_6_7_8_9_10_11_12_13_14_15_16_17_18_19_20_21_22_23_24_25_26_27_28_29_30_31_32_33_34_35_36_37_38_39_40_41_42_43_44_45_46_47_48_49_50_51_52 rfl).trans rfl) ?_
  refine z_bipush C (-100) dL_orders_319 (by decide) ?_
  refine z_iload C dL_orders_321 rfl ?_
  refine z_isub C dL_orders_323 ?_
  refine z_top (y := (-108)) (by decide) ?_
  refine z_icmp_ne_f C 360 dL_orders_324 (by decide) rfl ?_
  refine z_aload_n C 0 dL_orders_327 rfl rfl ?_
  refine z_callV (wn := (WRd X.2.1 x0 h0 h1 w0 w1 t r S o2 kp2 Q1 (tyL (tyL tx [48 + dd, 48, 99, 43]) [57, 57, 57, 99, 43, 32, 48, 99, 43]) 9 ps5)) C kX5_undo gL_orders_X5_undo m7 dL_orders_328 [0, 1, 2, 3, 4, 5, 6, 7, 8, 9, 10, 11, 12, 13, 14, 15, 16, 17, 18, 19, 20, 21, 22, 23, 24, 25, 26, 27, 28, 29, 30, 31, 32, 33, 34, 35, 36, 37, 38, 39, 40, 41, 42, 43, 44, 45, 46, 47, 48, 49, 50] [] 0 rfl rfl nd_0_1_2_3_4_5_6_7_8_9_10_11_12_13_14_15_16_17_18_19_20_21_22_23_24_25_26_27_28_29_30_31_32_33_34_35_36_37_38_39_40_41_42_43_44_45_46_47_48_49_50 rfl rfl rfl (by decide) (by decide) (Nat.le_of_ble_eq_true rfl) rfl ((zput_par nd_0_1_2_3_4_5_6_7_8_9_10_11_12_13_14_15_16_17_18_19_20_21_22_23_24_25_26_27_28_29_30_31_32_33_34_35_36_37_38_39_40_41_42_43_44_45_46_47_48_49_50 rfl).trans rfl) ?_
  refine z_nif_lt_f C 360 dL_orders_331 (by decide) (by omega) (by trivial) ?_
  refine z_aload_n C 0 dL_orders_334 rfl rfl ?_
  refine z_iconst C (nI 0) dL_orders_335 (by decide) ?_
  refine z_iload C dL_orders_336 rfl ?_
  refine z_callVr C kX5_size gL_orders_X5_size (l_size0 X.2.1 x0 h0 w0 t S 1 hG (by decide)) dL_orders_338 [0, 1, 2, 3, 4, 5, 6, 7, 8] [] 0 rfl nd_0_1_2_3_4_5_6_7_8 rfl rfl rfl (by decide) (by decide) (Nat.le_of_ble_eq_true rfl) rfl ?_
  refine z_iload C dL_orders_341 rfl ?_
  refine z_ncmp_ne_f C 360 dL_orders_343 (by decide) (by omega) (by omega) (by omega) ?_
  refine z_aload_n C 0 dL_orders_346 rfl rfl ?_
  refine z_iconst C (nI 0) dL_orders_347 (by decide) ?_
  refine z_callVr C kX5_count gL_orders_X5_count (l_cnt0 X.2.1 x0 h0 h1 w0 w1 t S o2 kp2 9 ps5  hG ) dL_orders_348 [0, 1, 2, 3, 4, 5, 6, 7, 8, 9, 51] [] 0 rfl nd_0_1_2_3_4_5_6_7_8_9_51 rfl rfl rfl (by decide) (by decide) (Nat.le_of_ble_eq_true rfl) rfl ?_
  refine z_iload C dL_orders_351 rfl ?_
  refine z_ncmp_ne_f C 360 dL_orders_353 (by decide) (by omega) (by omega) (by omega) ?_
  refine z_iconst C (nI 1) dL_orders_356 (by decide) ?_
  refine z_goto C 361 dL_orders_357 (by decide) ?_
  exact z_zret C N dL_orders_361 rfl (rfl) (rfl)

set_option maxHeartbeats 4000000 in
set_option maxRecDepth 100000 in
theorem w_ord10f (E : zE) (x0 h0 h1 w0 w1 : Nat) (t : Nat → Nat) (r : Nat → Nat → Nat) (S S1 : zSt) (o kp o1 o2 kp1 kp2 : Nat) (Q Q1 : Nat → zSt) (tx : Nat → Nat) (ln : Nat) (ps ps1 ps2 ps3 ps4 ps5 : zPs) {B B1 : Nat} (au : Nat) (g h : Int32) (dd lf : Nat) (hG : GG S B) (hG1 : GG S1 B1) (hau : au < 4) (hg1 : g &&& (nI 1) = nI 1) (hg2 : g &&& (nI 2) = 0) (hd : lw h 10 = dd) (hdd : dd < 10) (hln : ln ≤ 60) (htx : ∀ j, tx j < 65536) (hlf : lf < 100) (hu : uU S1 1 = uU S 1 + 0) (hf : uU S 1 = 8) (m1 : zM E yX5_run wsX5_run 8 [.ref x0, .int (nI au)] (WRd E x0 h0 h1 w0 w1 t r S o kp Q (tyL tx []) 0 ps) (WRd E x0 h0 h1 w0 w1 t r S o kp Q (tyL tx []) 0 ps1) (some (.int (-100)))) (m2 : zM E yX5_run wsX5_run 8 [.ref x0, .int (nI 4)] (WRd E x0 h0 h1 w0 w1 t r S o kp Q (tyL tx []) 0 ps1) (WRd E x0 h0 h1 w0 w1 t r S o kp Q (tyL tx []) 0 ps1) (some (.int (-1)))) (m3 : zM E yX5_run wsX5_run 8 [.ref x0, .int (nI au)] (WRd E x0 h0 h1 w0 w1 t r S o kp Q (tyL tx [43]) 1 ps1) (WRd E x0 h0 h1 w0 w1 t r S o kp Q (tyL tx [43]) 1 ps2) (some (.int (-101)))) (m4 : zM E yX5_run wsX5_run 8 [.ref x0, .int (nI au)] (WRd E x0 h0 h1 w0 w1 t r S o kp Q (tyL tx [48 + dd, 48, 99, 43]) 4 ps2) (WRd E x0 h0 h1 w0 w1 t r S o kp Q (tyL tx [48 + dd, 48, 99, 43]) 4 ps3) (some (.int (-103)))) (m5 : zM E yX5_run wsX5_run 8 [.ref x0, .int (nI au)] (WRd E x0 h0 h1 w0 w1 t r S o kp Q (tyL (tyL tx [48 + dd, 48, 99, 43]) [57, 57, 99, 43, 32, 48, 99, 43]) 8 ps3) (WRd E x0 h0 h1 w0 w1 t r S1 o1 kp1 Q1 (tyL (tyL tx [48 + dd, 48, 99, 43]) [57, 57, 99, 43, 32, 48, 99, 43]) 8 ps4) (some (.int (nI 0)))) (m6 : zM E yX5_run wsX5_run 8 [.ref x0, .int (nI au)] (WRd E x0 h0 h1 w0 w1 t r S1 o1 kp1 Q1 (tyL (tyL tx [48 + dd, 48, 99, 43]) [57, 57, 57, 99, 43, 32, 48, 99, 43]) 9 ps4) (WRd E x0 h0 h1 w0 w1 t r S1 o1 kp1 Q1 (tyL (tyL tx [48 + dd, 48, 99, 43]) [57, 57, 57, 99, 43, 32, 48, 99, 43]) 9 ps5) (some (.int (-108)))) (m7 : zM E yX5_undo wsX5_undo 5 [.ref x0] (WAd E x0 h0 h1 w0 t r S1 o1 kp1 Q1) (WAd E x0 h0 h1 w0 t r S o2 kp2 Q1) (some (.int (nI lf)))) : zM E yL_orders wsL_orders 9 [.ref x0, .int (nI au), .int g, .int h] (WRd E x0 h0 h1 w0 w1 t r S o kp Q tx ln ps) (WRd E x0 h0 h1 w0 w1 t r S o2 kp2 Q1 (tyL (tyL tx [48 + dd, 48, 99, 43]) [57, 57, 57, 99, 43, 32, 48, 99, 43]) 9 ps5) (some (.int (nI 1))) := by
  refine zM.of kL_orders (Nat.le_of_ble_eq_true rfl) rfl [some (.ref x0), some (.int (nI au)), some (.int g), some (.int h), none, none, none, none, none, none, none] rfl (Nat.le_of_ble_eq_true rfl) ?_
  intro X eX C N
  subst eX
  have hb0 : uU S 0 ≤ 12 := gg_u hG 0
  have hb1 : uU S 1 ≤ 8 := gg_u1 hG
  have hb2 : mK S ≤ 60 := gg_M hG
  have hb3 : uU S1 0 ≤ 12 := gg_u hG1 0
  have hb4 : uU S1 1 ≤ 8 := gg_u1 hG1
  have hb5 : mK S1 ≤ 60 := gg_M hG1
  refine z_aload_n C 0 dL_orders_0 rfl rfl ?_
  refine z_callV (wn := (WRd X.2.1 x0 h0 h1 w0 w1 t r S o kp Q (tyL tx []) 0 ps)) C kX5_clearText gL_orders_X5_clearText (l_clr X.2.1 x0 (t 0) h0 w0 w1 tx ln ps hln) dL_orders_1 [0, 51, 52] [] 0 rfl rfl nd_0_51_52 rfl rfl rfl (by decide) (by decide) (Nat.le_of_ble_eq_true rfl) rfl ((zput_par nd_0_51_52 rfl).trans rfl) ?_
  refine z_pop C dL_orders_4 rfl ?_
  refine z_aload_n C 0 dL_orders_5 rfl rfl ?_
  refine z_iload_n C 1 dL_orders_6 rfl rfl ?_
  refine z_callV (wn := (WRd X.2.1 x0 h0 h1 w0 w1 t r S o kp Q (tyL tx []) 0 ps1)) C kX5_run gL_orders_X5_run m1 dL_orders_7 [0, 1, 2, 3, 4, 5, 6, 7, 8, 9, 10, 11, 12, 13, 14, 15, 16, 17, 18, 19, 20, 21, 22, 23, 24, 25, 26, 27, 28, 29, 30, 31, 32, 33, 34, 35, 36, 37, 38, 39, 40, 41, 42, 43, 44, 45, 46, 47, 48, 49, 50, 51, 52] [] 0 rfl rfl nd_0_1_2_3_4_5_6_7_8_9_10_11_12_13_14_15_16_17_18_19_20_21_22_23_24_25_26_27_28_29_30_31_32_33_34_35_36_37_38_39_40_41_42_43_44_45_46_47_48_49_50_51_52 rfl rfl rfl (by decide) (by decide) (Nat.le_of_ble_eq_true rfl) rfl ((zput_par nd_0_1_2_3_4_5_6_7_8_9_10_11_12_13_14_15_16_17_18_19_20_21_22_23_24_25_26_27_28_29_30_31_32_33_34_35_36_37_38_39_40_41_42_43_44_45_46_47_48_49_50_51_52 rfl).trans rfl) ?_
  refine z_bipush C (-100) dL_orders_10 (by decide) ?_
  refine z_icmp_ne_f C 24 dL_orders_12 (by decide) rfl ?_
  refine z_aload_n C 0 dL_orders_15 rfl rfl ?_
  refine z_iconst C (nI 4) dL_orders_16 (by decide) ?_
  refine z_callV (wn := (WRd X.2.1 x0 h0 h1 w0 w1 t r S o kp Q (tyL tx []) 0 ps1)) C kX5_run gL_orders_X5_run m2 dL_orders_17 [0, 1, 2, 3, 4, 5, 6, 7, 8, 9, 10, 11, 12, 13, 14, 15, 16, 17, 18, 19, 20, 21, 22, 23, 24, 25, 26, 27, 28, 29, 30, 31, 32, 33, 34, 35, 36, 37, 38, 39, 40, 41, 42, 43, 44, 45, 46, 47, 48, 49, 50, 51, 52] [] 0 rfl rfl nd_0_1_2_3_4_5_6_7_8_9_10_11_12_13_14_15_16_17_18_19_20_21_22_23_24_25_26_27_28_29_30_31_32_33_34_35_36_37_38_39_40_41_42_43_44_45_46_47_48_49_50_51_52 rfl rfl rfl (by decide) (by decide) (Nat.le_of_ble_eq_true rfl) rfl ((zput_par nd_0_1_2_3_4_5_6_7_8_9_10_11_12_13_14_15_16_17_18_19_20_21_22_23_24_25_26_27_28_29_30_31_32_33_34_35_36_37_38_39_40_41_42_43_44_45_46_47_48_49_50_51_52 rfl).trans rfl) ?_
  refine z_iconst C (-1) dL_orders_20 (by decide) ?_
  refine z_icmp_eq_t C 26 dL_orders_21 (by decide) rfl ?_
  refine z_iload_n C 2 dL_orders_26 rfl rfl ?_
  refine z_iconst C (nI 1) dL_orders_27 (by decide) ?_
  refine z_iand C dL_orders_28 ?_
  refine z_top (y := nI 1) (hg1) ?_
  refine z_istore C dL_orders_29 (Nat.le_of_ble_eq_true rfl) ?_
  refine z_lv (lv' := [some (.ref x0), some (.int (nI au)), some (.int g), some (.int h), some (.int (nI 1)), none, none, none, none, none, none]) rfl ?_
  refine z_aload_n C 0 dL_orders_31 rfl rfl ?_
  refine z_iconst C (nI 0) dL_orders_32 (by decide) ?_
  refine z_iload C dL_orders_33 rfl ?_
  refine z_callVr C kX5_size gL_orders_X5_size (l_size0 X.2.1 x0 h0 w0 t S 1 hG (by decide)) dL_orders_35 [0, 1, 2, 3, 4, 5, 6, 7, 8] [] 0 rfl nd_0_1_2_3_4_5_6_7_8 rfl rfl rfl (by decide) (by decide) (Nat.le_of_ble_eq_true rfl) rfl ?_
  refine z_istore C dL_orders_38 (Nat.le_of_ble_eq_true rfl) ?_
  refine z_lv (lv' := [some (.ref x0), some (.int (nI au)), some (.int g), some (.int h), some (.int (nI 1)), some (.int (nI (uU S 1))), none, none, none, none, none]) rfl ?_
  refine z_aload_n C 0 dL_orders_40 rfl rfl ?_
  refine z_iconst C (nI 0) dL_orders_41 (by decide) ?_
  refine z_callVr C kX5_count gL_orders_X5_count (l_cnt0 X.2.1 x0 h0 h1 w0 w1 t S o kp 0 ps1  hG ) dL_orders_42 [0, 1, 2, 3, 4, 5, 6, 7, 8, 9, 51] [] 0 rfl nd_0_1_2_3_4_5_6_7_8_9_51 rfl rfl rfl (by decide) (by decide) (Nat.le_of_ble_eq_true rfl) rfl ?_
  refine z_istore C dL_orders_45 (Nat.le_of_ble_eq_true rfl) ?_
  refine z_lv (lv' := [some (.ref x0), some (.int (nI au)), some (.int g), some (.int h), some (.int (nI 1)), some (.int (nI (uU S 1))), some (.int (nI (mK S))), none, none, none, none]) rfl ?_
  refine z_aload_n C 0 dL_orders_47 rfl rfl ?_
  refine z_iconst C (nI 5) dL_orders_48 (by decide) ?_
  refine z_callVr C kX5_count gL_orders_X5_count (l_cnt5 X.2.1 x0 h0 h1 w0 w1 t S o kp 0 ps1  hG ) dL_orders_49 [0, 1, 2, 3, 4, 5, 6, 7, 8, 9, 51] [] 0 rfl nd_0_1_2_3_4_5_6_7_8_9_51 rfl rfl rfl (by decide) (by decide) (Nat.le_of_ble_eq_true rfl) rfl ?_
  refine z_iconst C (nI 1) dL_orders_52 (by decide) ?_
  refine z_icmp_ne C 60 dL_orders_53 (by decide) (fun h_1 => ?_) (fun h_1 => ?_)
  · refine z_iconst C (nI 0) dL_orders_60 (by decide) ?_
    refine z_istore C dL_orders_61 (Nat.le_of_ble_eq_true rfl) ?_
    refine z_lv (lv' := [some (.ref x0), some (.int (nI au)), some (.int g), some (.int h), some (.int (nI 1)), some (.int (nI (uU S 1))), some (.int (nI (mK S))), some (.int (nI 0)), none, none, none]) rfl ?_
    refine z_aload_n C 0 dL_orders_63 rfl rfl ?_
    refine z_iload_n C 2 dL_orders_64 rfl rfl ?_
    refine z_iconst C (nI 2) dL_orders_65 (by decide) ?_
    refine z_iand C dL_orders_66 ?_
    refine z_if_ne_f C 75 dL_orders_67 (by decide) hg2 ?_
    refine z_bipush C (nI 43) dL_orders_70 (by decide) ?_
    refine z_goto C 77 dL_orders_72 (by decide) ?_
    refine z_callV (wn := (WRd X.2.1 x0 h0 h1 w0 w1 t r S o kp Q (tyL tx [43]) 1 ps1)) C kX5_type gL_orders_X5_type (l_typ X.2.1 x0 (t 0) h0 w0 w1 tx [] ps1 43 0 rfl (by decide) htx (fun c hc9 => absurd hc9 List.not_mem_nil) (by omega)) dL_orders_77 [0, 51, 52] [] 0 rfl rfl nd_0_51_52 rfl rfl rfl (by decide) (by decide) (Nat.le_of_ble_eq_true rfl) rfl ((zput_par nd_0_51_52 rfl).trans rfl) ?_
    refine z_top (y := nI 1) rfl ?_
    refine z_istore C dL_orders_80 (Nat.le_of_ble_eq_true rfl) ?_
    refine z_lv (lv' := [some (.ref x0), some (.int (nI au)), some (.int g), some (.int h), some (.int (nI 1)), some (.int (nI (uU S 1))), some (.int (nI (mK S))), some (.int (nI 0)), some (.int (nI 1)), none, none]) rfl ?_
    refine z_aload_n C 0 dL_orders_82 rfl rfl ?_
    refine z_iload_n C 1 dL_orders_83 rfl rfl ?_
    refine z_callV (wn := (WRd X.2.1 x0 h0 h1 w0 w1 t r S o kp Q (tyL tx [43]) 1 ps2)) C kX5_run gL_orders_X5_run m3 dL_orders_84 [0, 1, 2, 3, 4, 5, 6, 7, 8, 9, 10, 11, 12, 13, 14, 15, 16, 17, 18, 19, 20, 21, 22, 23, 24, 25, 26, 27, 28, 29, 30, 31, 32, 33, 34, 35, 36, 37, 38, 39, 40, 41, 42, 43, 44, 45, 46, 47, 48, 49, 50, 51, 52] [] 0 rfl rfl nd_0_1_2_3_4_5_6_7_8_9_10_11_12_13_14_15_16_17_18_19_20_21_22_23_24_25_26_27_28_29_30_31_32_33_34_35_36_37_38_39_40_41_42_43_44_45_46_47_48_49_50_51_52 rfl rfl rfl (by decide) (by decide) (Nat.le_of_ble_eq_true rfl) rfl ((zput_par nd_0_1_2_3_4_5_6_7_8_9_10_11_12_13_14_15_16_17_18_19_20_21_22_23_24_25_26_27_28_29_30_31_32_33_34_35_36_37_38_39_40_41_42_43_44_45_46_47_48_49_50_51_52 rfl).trans rfl) ?_
    refine z_bipush C (-100) dL_orders_87 (by decide) ?_
    refine z_iload C dL_orders_89 rfl ?_
    refine z_isub C dL_orders_91 ?_
    refine z_top (y := (-101)) (by decide) ?_
    refine z_icmp_ne_f C 99 dL_orders_92 (by decide) rfl ?_
    refine z_iconst C (nI 1) dL_orders_95 (by decide) ?_
    refine z_goto C 100 dL_orders_96 (by decide) ?_
    refine z_istore C dL_orders_100 (Nat.le_of_ble_eq_true rfl) ?_
    refine z_lv (lv' := [some (.ref x0), some (.int (nI au)), some (.int g), some (.int h), some (.int (nI 1)), some (.int (nI (uU S 1))), some (.int (nI (mK S))), some (.int (nI 0)), some (.int (nI 1)), some (.int (nI 1)), none]) rfl ?_
    refine z_aload_n C 0 dL_orders_102 rfl rfl ?_
    refine z_iload C dL_orders_103 rfl ?_
    refine z_nif_ne_t C 113 dL_orders_105 (by decide) (by omega) (by omega) ?_
    refine z_bipush C (nI 99) dL_orders_113 (by decide) ?_
    refine z_callV (wn := (WRd X.2.1 x0 h0 h1 w0 w1 t r S o kp Q (tyL tx [99, 43]) 2 ps2)) C kX5_type gL_orders_X5_type (l_typ X.2.1 x0 (t 0) h0 w0 w1 tx [43] ps2 99 1 rfl (by decide) htx (by intro c hc9; simp at hc9; omega) (by omega)) dL_orders_115 [0, 51, 52] [] 0 rfl rfl nd_0_51_52 rfl rfl rfl (by decide) (by decide) (Nat.le_of_ble_eq_true rfl) rfl ((zput_par nd_0_51_52 rfl).trans rfl) ?_
    refine z_top (y := nI 2) rfl ?_
    refine z_pop C dL_orders_118 rfl ?_
    refine z_aload_n C 0 dL_orders_119 rfl rfl ?_
    refine z_bipush C (nI 48) dL_orders_120 (by decide) ?_
    refine z_callV (wn := (WRd X.2.1 x0 h0 h1 w0 w1 t r S o kp Q (tyL tx [48, 99, 43]) 3 ps2)) C kX5_type gL_orders_X5_type (l_typ X.2.1 x0 (t 0) h0 w0 w1 tx [99, 43] ps2 48 2 rfl (by decide) htx (by intro c hc9; simp at hc9; omega) (by omega)) dL_orders_122 [0, 51, 52] [] 0 rfl rfl nd_0_51_52 rfl rfl rfl (by decide) (by decide) (Nat.le_of_ble_eq_true rfl) rfl ((zput_par nd_0_51_52 rfl).trans rfl) ?_
    refine z_top (y := nI 3) rfl ?_
    refine z_pop C dL_orders_125 rfl ?_
    refine z_aload_n C 0 dL_orders_126 rfl rfl ?_
    refine z_bipush C (nI 48) dL_orders_127 (by decide) ?_
    refine z_iload_n C 3 dL_orders_129 rfl rfl ?_
    refine z_bipush C (nI 10) dL_orders_130 (by decide) ?_
    refine z_callS C kL_low gL_orders_L_low (l_low X.2.1 h 10 (by decide) (by decide)) dL_orders_132 [.int (nI 48), .ref x0] rfl (by decide) (by decide) (Nat.le_of_ble_eq_true rfl) rfl ?_
    refine z_top (y := nI dd) (congrArg nI hd) ?_
    refine z_iadd C dL_orders_135 ?_
    refine z_top (y := nI (48 + dd)) (nI_add _ _) ?_
    refine z_i2c C (nI (48 + dd)) dL_orders_136 (chr_n (by omega)) ?_
    refine z_callV (wn := (WRd X.2.1 x0 h0 h1 w0 w1 t r S o kp Q (tyL tx [48 + dd, 48, 99, 43]) 4 ps2)) C kX5_type gL_orders_X5_type (l_typ X.2.1 x0 (t 0) h0 w0 w1 tx [48, 99, 43] ps2 (48 + dd) 3 rfl (by decide) htx (by intro c hc9; simp at hc9; omega) (by omega)) dL_orders_137 [0, 51, 52] [] 0 rfl rfl nd_0_51_52 rfl rfl rfl (by decide) (by decide) (Nat.le_of_ble_eq_true rfl) rfl ((zput_par nd_0_51_52 rfl).trans rfl) ?_
    refine z_top (y := nI 4) rfl ?_
    refine z_istore C dL_orders_140 (Nat.le_of_ble_eq_true rfl) ?_
    refine z_lv (lv' := [some (.ref x0), some (.int (nI au)), some (.int g), some (.int h), some (.int (nI 1)), some (.int (nI (uU S 1))), some (.int (nI (mK S))), some (.int (nI 0)), some (.int (nI 4)), some (.int (nI 1)), none]) rfl ?_
    refine z_iload C dL_orders_142 rfl ?_
    refine z_nif_eq_f C 160 dL_orders_144 (by decide) (by omega) (by omega) ?_
    refine z_aload_n C 0 dL_orders_147 rfl rfl ?_
    refine z_iload_n C 1 dL_orders_148 rfl rfl ?_
    refine z_callV (wn := (WRd X.2.1 x0 h0 h1 w0 w1 t r S o kp Q (tyL tx [48 + dd, 48, 99, 43]) 4 ps3)) C kX5_run gL_orders_X5_run m4 dL_orders_149 [0, 1, 2, 3, 4, 5, 6, 7, 8, 9, 10, 11, 12, 13, 14, 15, 16, 17, 18, 19, 20, 21, 22, 23, 24, 25, 26, 27, 28, 29, 30, 31, 32, 33, 34, 35, 36, 37, 38, 39, 40, 41, 42, 43, 44, 45, 46, 47, 48, 49, 50, 51, 52] [] 0 rfl rfl nd_0_1_2_3_4_5_6_7_8_9_10_11_12_13_14_15_16_17_18_19_20_21_22_23_24_25_26_27_28_29_30_31_32_33_34_35_36_37_38_39_40_41_42_43_44_45_46_47_48_49_50_51_52 rfl rfl rfl (by decide) (by decide) (Nat.le_of_ble_eq_true rfl) rfl ((zput_par nd_0_1_2_3_4_5_6_7_8_9_10_11_12_13_14_15_16_17_18_19_20_21_22_23_24_25_26_27_28_29_30_31_32_33_34_35_36_37_38_39_40_41_42_43_44_45_46_47_48_49_50_51_52 rfl).trans rfl) ?_
    refine z_bipush C (-99) dL_orders_152 (by decide) ?_
    refine z_iload C dL_orders_154 rfl ?_
    refine z_isub C dL_orders_156 ?_
    refine z_top (y := (-103)) (by decide) ?_
    refine z_icmp_eq_t C 162 dL_orders_157 (by decide) rfl ?_
    refine z_aload_n C 0 dL_orders_162 rfl rfl ?_
    have htx2 : ∀ j, tyL tx [48 + dd, 48, 99, 43] j < 65536 := tyL_b htx (by intro c hc9; simp at hc9; omega)
    refine z_callV (wn := (WRd X.2.1 x0 h0 h1 w0 w1 t r S o kp Q (tyL (tyL tx [48 + dd, 48, 99, 43]) []) 0 ps3)) C kX5_clearText gL_orders_X5_clearText (l_clr X.2.1 x0 (t 0) h0 w0 w1 (tyL tx [48 + dd, 48, 99, 43]) 4 ps3 (by decide)) dL_orders_163 [0, 51, 52] [] 0 rfl rfl nd_0_51_52 rfl rfl rfl (by decide) (by decide) (Nat.le_of_ble_eq_true rfl) rfl ((zput_par nd_0_51_52 rfl).trans rfl) ?_
    refine z_pop C dL_orders_166 rfl ?_
    refine z_aload_n C 0 dL_orders_167 rfl rfl ?_
    refine z_bipush C (nI 43) dL_orders_168 (by decide) ?_
    refine z_callV (wn := (WRd X.2.1 x0 h0 h1 w0 w1 t r S o kp Q (tyL (tyL tx [48 + dd, 48, 99, 43]) [43]) 1 ps3)) C kX5_type gL_orders_X5_type (l_typ X.2.1 x0 (t 0) h0 w0 w1 (tyL tx [48 + dd, 48, 99, 43]) [] ps3 43 0 rfl (by decide) htx2 (fun c hc9 => absurd hc9 List.not_mem_nil) (by omega)) dL_orders_170 [0, 51, 52] [] 0 rfl rfl nd_0_51_52 rfl rfl rfl (by decide) (by decide) (Nat.le_of_ble_eq_true rfl) rfl ((zput_par nd_0_51_52 rfl).trans rfl) ?_
    refine z_top (y := nI 1) rfl ?_
    refine z_pop C dL_orders_173 rfl ?_
    refine z_aload_n C 0 dL_orders_174 rfl rfl ?_
    refine z_iload C dL_orders_175 rfl ?_
    refine z_nif_ne_t C 185 dL_orders_177 (by decide) (by omega) (by omega) ?_
    refine z_bipush C (nI 99) dL_orders_185 (by decide) ?_
    refine z_callV (wn := (WRd X.2.1 x0 h0 h1 w0 w1 t r S o kp Q (tyL (tyL tx [48 + dd, 48, 99, 43]) [99, 43]) 2 ps3)) C kX5_type gL_orders_X5_type (l_typ X.2.1 x0 (t 0) h0 w0 w1 (tyL tx [48 + dd, 48, 99, 43]) [43] ps3 99 1 rfl (by decide) htx2 (by intro c hc9; simp at hc9; omega) (by omega)) dL_orders_187 [0, 51, 52] [] 0 rfl rfl nd_0_51_52 rfl rfl rfl (by decide) (by decide) (Nat.le_of_ble_eq_true rfl) rfl ((zput_par nd_0_51_52 rfl).trans rfl) ?_
    refine z_top (y := nI 2) rfl ?_
    refine z_pop C dL_orders_190 rfl ?_
    refine z_aload_n C 0 dL_orders_191 rfl rfl ?_
    refine z_bipush C (nI 48) dL_orders_192 (by decide) ?_
    refine z_callV (wn := (WRd X.2.1 x0 h0 h1 w0 w1 t r S o kp Q (tyL (tyL tx [48 + dd, 48, 99, 43]) [48, 99, 43]) 3 ps3)) C kX5_type gL_orders_X5_type (l_typ X.2.1 x0 (t 0) h0 w0 w1 (tyL tx [48 + dd, 48, 99, 43]) [99, 43] ps3 48 2 rfl (by decide) htx2 (by intro c hc9; simp at hc9; omega) (by omega)) dL_orders_194 [0, 51, 52] [] 0 rfl rfl nd_0_51_52 rfl rfl rfl (by decide) (by decide) (Nat.le_of_ble_eq_true rfl) rfl ((zput_par nd_0_51_52 rfl).trans rfl) ?_
    refine z_top (y := nI 3) rfl ?_
    refine z_pop C dL_orders_197 rfl ?_
    refine z_aload_n C 0 dL_orders_198 rfl rfl ?_
    refine z_bipush C (nI 32) dL_orders_199 (by decide) ?_
    refine z_callV (wn := (WRd X.2.1 x0 h0 h1 w0 w1 t r S o kp Q (tyL (tyL tx [48 + dd, 48, 99, 43]) [32, 48, 99, 43]) 4 ps3)) C kX5_type gL_orders_X5_type (l_typ X.2.1 x0 (t 0) h0 w0 w1 (tyL tx [48 + dd, 48, 99, 43]) [48, 99, 43] ps3 32 3 rfl (by decide) htx2 (by intro c hc9; simp at hc9; omega) (by omega)) dL_orders_201 [0, 51, 52] [] 0 rfl rfl nd_0_51_52 rfl rfl rfl (by decide) (by decide) (Nat.le_of_ble_eq_true rfl) rfl ((zput_par nd_0_51_52 rfl).trans rfl) ?_
    refine z_top (y := nI 4) rfl ?_
    refine z_pop C dL_orders_204 rfl ?_
    refine z_aload_n C 0 dL_orders_205 rfl rfl ?_
    refine z_bipush C (nI 43) dL_orders_206 (by decide) ?_
    refine z_callV (wn := (WRd X.2.1 x0 h0 h1 w0 w1 t r S o kp Q (tyL (tyL tx [48 + dd, 48, 99, 43]) [43, 32, 48, 99, 43]) 5 ps3)) C kX5_type gL_orders_X5_type (l_typ X.2.1 x0 (t 0) h0 w0 w1 (tyL tx [48 + dd, 48, 99, 43]) [32, 48, 99, 43] ps3 43 4 rfl (by decide) htx2 (by intro c hc9; simp at hc9; omega) (by omega)) dL_orders_208 [0, 51, 52] [] 0 rfl rfl nd_0_51_52 rfl rfl rfl (by decide) (by decide) (Nat.le_of_ble_eq_true rfl) rfl ((zput_par nd_0_51_52 rfl).trans rfl) ?_
    refine z_top (y := nI 5) rfl ?_
    refine z_pop C dL_orders_211 rfl ?_
    refine z_aload_n C 0 dL_orders_212 rfl rfl ?_
    refine z_iload C dL_orders_213 rfl ?_
    refine z_nif_ne_t C 223 dL_orders_215 (by decide) (by omega) (by omega) ?_
    refine z_bipush C (nI 99) dL_orders_223 (by decide) ?_
    refine z_callV (wn := (WRd X.2.1 x0 h0 h1 w0 w1 t r S o kp Q (tyL (tyL tx [48 + dd, 48, 99, 43]) [99, 43, 32, 48, 99, 43]) 6 ps3)) C kX5_type gL_orders_X5_type (l_typ X.2.1 x0 (t 0) h0 w0 w1 (tyL tx [48 + dd, 48, 99, 43]) [43, 32, 48, 99, 43] ps3 99 5 rfl (by decide) htx2 (by intro c hc9; simp at hc9; omega) (by omega)) dL_orders_225 [0, 51, 52] [] 0 rfl rfl nd_0_51_52 rfl rfl rfl (by decide) (by decide) (Nat.le_of_ble_eq_true rfl) rfl ((zput_par nd_0_51_52 rfl).trans rfl) ?_
    refine z_top (y := nI 6) rfl ?_
    refine z_pop C dL_orders_228 rfl ?_
    refine z_aload_n C 0 dL_orders_229 rfl rfl ?_
    refine z_bipush C (nI 57) dL_orders_230 (by decide) ?_
    refine z_callV (wn := (WRd X.2.1 x0 h0 h1 w0 w1 t r S o kp Q (tyL (tyL tx [48 + dd, 48, 99, 43]) [57, 99, 43, 32, 48, 99, 43]) 7 ps3)) C kX5_type gL_orders_X5_type (l_typ X.2.1 x0 (t 0) h0 w0 w1 (tyL tx [48 + dd, 48, 99, 43]) [99, 43, 32, 48, 99, 43] ps3 57 6 rfl (by decide) htx2 (by intro c hc9; simp at hc9; omega) (by omega)) dL_orders_232 [0, 51, 52] [] 0 rfl rfl nd_0_51_52 rfl rfl rfl (by decide) (by decide) (Nat.le_of_ble_eq_true rfl) rfl ((zput_par nd_0_51_52 rfl).trans rfl) ?_
    refine z_top (y := nI 7) rfl ?_
    refine z_pop C dL_orders_235 rfl ?_
    refine z_aload_n C 0 dL_orders_236 rfl rfl ?_
    refine z_bipush C (nI 57) dL_orders_237 (by decide) ?_
    refine z_callV (wn := (WRd X.2.1 x0 h0 h1 w0 w1 t r S o kp Q (tyL (tyL tx [48 + dd, 48, 99, 43]) [57, 57, 99, 43, 32, 48, 99, 43]) 8 ps3)) C kX5_type gL_orders_X5_type (l_typ X.2.1 x0 (t 0) h0 w0 w1 (tyL tx [48 + dd, 48, 99, 43]) [57, 99, 43, 32, 48, 99, 43] ps3 57 7 rfl (by decide) htx2 (by intro c hc9; simp at hc9; omega) (by omega)) dL_orders_239 [0, 51, 52] [] 0 rfl rfl nd_0_51_52 rfl rfl rfl (by decide) (by decide) (Nat.le_of_ble_eq_true rfl) rfl ((zput_par nd_0_51_52 rfl).trans rfl) ?_
    refine z_top (y := nI 8) rfl ?_
    refine z_istore C dL_orders_242 (Nat.le_of_ble_eq_true rfl) ?_
    refine z_lv (lv' := [some (.ref x0), some (.int (nI au)), some (.int g), some (.int h), some (.int (nI 1)), some (.int (nI (uU S 1))), some (.int (nI (mK S))), some (.int (nI 0)), some (.int (nI 8)), some (.int (nI 1)), none]) rfl ?_
    refine z_iload C dL_orders_244 rfl ?_
    refine z_iload C dL_orders_246 rfl ?_
    refine z_nif_ne_t C 256 dL_orders_248 (by decide) (by omega) (by omega) ?_
    refine z_bipush C (nI 8) dL_orders_256 (by decide) ?_
    refine z_ncmp_eq_t C 273 dL_orders_258 (by decide) (by omega) (by omega) (by omega) ?_
    refine z_iconst C (nI 0) dL_orders_273 (by decide) ?_
    refine z_goto C 278 dL_orders_274 (by decide) ?_
    refine z_istore C dL_orders_278 (Nat.le_of_ble_eq_true rfl) ?_
    refine z_lv (lv' := [some (.ref x0), some (.int (nI au)), some (.int g), some (.int h), some (.int (nI 1)), some (.int (nI (uU S 1))), some (.int (nI (mK S))), some (.int (nI 0)), some (.int (nI 8)), some (.int (nI 1)), some (.int (nI 0))]) rfl ?_
    refine z_aload_n C 0 dL_orders_280 rfl rfl ?_
    refine z_iload_n C 1 dL_orders_281 rfl rfl ?_
    refine z_callV (wn := (WRd X.2.1 x0 h0 h1 w0 w1 t r S1 o1 kp1 Q1 (tyL (tyL tx [48 + dd, 48, 99, 43]) [57, 57, 99, 43, 32, 48, 99, 43]) 8 ps4)) C kX5_run gL_orders_X5_run m5 dL_orders_282 [0, 1, 2, 3, 4, 5, 6, 7, 8, 9, 10, 11, 12, 13, 14, 15, 16, 17, 18, 19, 20, 21, 22, 23, 24, 25, 26, 27, 28, 29, 30, 31, 32, 33, 34, 35, 36, 37, 38, 39, 40, 41, 42, 43, 44, 45, 46, 47, 48, 49, 50, 51, 52] [] 0 rfl rfl nd_0_1_2_3_4_5_6_7_8_9_10_11_12_13_14_15_16_17_18_19_20_21_22_23_24_25_26_27_28_29_30_31_32_33_34_35_36_37_38_39_40_41_42_43_44_45_46_47_48_49_50_51_52 rfl rfl rfl (by decide) (by decide) (Nat.le_of_ble_eq_true rfl) rfl ((zput_par nd_0_1_2_3_4_5_6_7_8_9_10_11_12_13_14_15_16_17_18_19_20_21_22_23_24_25_26_27_28_29_30_31_32_33_34_35_36_37_38_39_40_41_42_43_44_45_46_47_48_49_50_51_52 rfl).trans rfl) ?_
    refine z_iload C dL_orders_285 rfl ?_
    refine z_ncmp_ne_f C 305 dL_orders_287 (by decide) (by omega) (by omega) (by omega) ?_
    refine z_aload_n C 0 dL_orders_290 rfl rfl ?_
    refine z_iconst C (nI 0) dL_orders_291 (by decide) ?_
    refine z_iload C dL_orders_292 rfl ?_
    refine z_callVr C kX5_size gL_orders_X5_size (l_size0 X.2.1 x0 h0 w0 t S1 1 hG1 (by decide)) dL_orders_294 [0, 1, 2, 3, 4, 5, 6, 7, 8] [] 0 rfl nd_0_1_2_3_4_5_6_7_8 rfl rfl rfl (by decide) (by decide) (Nat.le_of_ble_eq_true rfl) rfl ?_
    refine z_iload C dL_orders_297 rfl ?_
    refine z_iload C dL_orders_299 rfl ?_
    refine z_iadd C dL_orders_301 ?_
    refine z_top (y := nI (uU S 1)) (nI_add _ _) ?_
    refine z_ncmp_eq_t C 307 dL_orders_302 (by decide) (by omega) (by omega) (by omega) ?_
    refine z_aload_n C 0 dL_orders_307 rfl rfl ?_
    refine z_bipush C (nI 57) dL_orders_308 (by decide) ?_
    refine z_callV (wn := (WRd X.2.1 x0 h0 h1 w0 w1 t r S1 o1 kp1 Q1 (tyL (tyL tx [48 + dd, 48, 99, 43]) [57, 57, 57, 99, 43, 32, 48, 99, 43]) 9 ps4)) C kX5_type gL_orders_X5_type (l_typ X.2.1 x0 (t 0) h0 w0 w1 (tyL tx [48 + dd, 48, 99, 43]) [57, 57, 99, 43, 32, 48, 99, 43] ps4 57 8 rfl (by decide) htx2 (by intro c hc9; simp at hc9; omega) (by omega)) dL_orders_310 [0, 51, 52] [] 0 rfl rfl nd_0_51_52 rfl rfl rfl (by decide) (by decide) (Nat.le_of_ble_eq_true rfl) rfl ((zput_par nd_0_51_52 rfl).trans rfl) ?_
    refine z_top (y := nI 9) rfl ?_
    refine z_pop C dL_orders_313 rfl ?_
    refine z_aload_n C 0 dL_orders_314 rfl rfl ?_
    refine z_iload_n C 1 dL_orders_315 rfl rfl ?_
    refine z_callV (wn := (WRd X.2.1 x0 h0 h1 w0 w1 t r S1 o1 kp1 Q1 (tyL (tyL tx [48 + dd, 48, 99, 43]) [57, 57, 57, 99, 43, 32, 48, 99, 43]) 9 ps5)) C kX5_run gL_orders_X5_run m6 dL_orders_316 [0, 1, 2, 3, 4, 5, 6, 7, 8, 9, 10, 11, 12, 13, 14, 15, 16, 17, 18, 19, 20, 21, 22, 23, 24, 25, 26, 27, 28, 29, 30, 31, 32, 33, 34, 35, 36, 37, 38, 39, 40, 41, 42, 43, 44, 45, 46, 47, 48, 49, 50, 51, 52] [] 0 rfl rfl nd_0_1_2_3_4_5_6_7_8_9_10_11_12_13_14_15_16_17_18_19_20_21_22_23_24_25_26_27_28_29_30_31_32_33_34_35_36_37_38_39_40_41_42_43_44_45_46_47_48_49_50_51_52 rfl rfl rfl (by decide) (by decide) (Nat.le_of_ble_eq_true rfl) rfl ((zput_par nd_0_1_2_3_4_5_6_7_8_9_10_11_12_13_14_15_16_17_18_19_20_21_22_23_24_25_26_27_28_29_30_31_32_33_34_35_36_37_38_39_40_41_42_43_44_45_46_47_48_49_50_51_52 rfl).trans rfl) ?_
    refine z_bipush C (-100) dL_orders_319 (by decide) ?_
    refine z_iload C dL_orders_321 rfl ?_
    refine z_isub C dL_orders_323 ?_
    refine z_top (y := (-108)) (by decide) ?_
    refine z_icmp_ne_f C 360 dL_orders_324 (by decide) rfl ?_
    refine z_aload_n C 0 dL_orders_327 rfl rfl ?_
    refine z_callV (wn := (WRd X.2.1 x0 h0 h1 w0 w1 t r S o2 kp2 Q1 (tyL (tyL tx [48 + dd, 48, 99, 43]) [57, 57, 57, 99, 43, 32, 48, 99, 43]) 9 ps5)) C kX5_undo gL_orders_X5_undo m7 dL_orders_328 [0, 1, 2, 3, 4, 5, 6, 7, 8, 9, 10, 11, 12, 13, 14, 15, 16, 17, 18, 19, 20, 21, 22, 23, 24, 25, 26, 27, 28, 29, 30, 31, 32, 33, 34, 35, 36, 37, 38, 39, 40, 41, 42, 43, 44, 45, 46, 47, 48, 49, 50] [] 0 rfl rfl nd_0_1_2_3_4_5_6_7_8_9_10_11_12_13_14_15_16_17_18_19_20_21_22_23_24_25_26_27_28_29_30_31_32_33_34_35_36_37_38_39_40_41_42_43_44_45_46_47_48_49_50 rfl rfl rfl (by decide) (by decide) (Nat.le_of_ble_eq_true rfl) rfl ((zput_par nd_0_1_2_3_4_5_6_7_8_9_10_11_12_13_14_15_16_17_18_19_20_21_22_23_24_25_26_27_28_29_30_31_32_33_34_35_36_37_38_39_40_41_42_43_44_45_46_47_48_49_50 rfl).trans rfl) ?_
    refine z_nif_lt_f C 360 dL_orders_331 (by decide) (by omega) (by trivial) ?_
    refine z_aload_n C 0 dL_orders_334 rfl rfl ?_
    refine z_iconst C (nI 0) dL_orders_335 (by decide) ?_
    refine z_iload C dL_orders_336 rfl ?_
    refine z_callVr C kX5_size gL_orders_X5_size (l_size0 X.2.1 x0 h0 w0 t S 1 hG (by decide)) dL_orders_338 [0, 1, 2, 3, 4, 5, 6, 7, 8] [] 0 rfl nd_0_1_2_3_4_5_6_7_8 rfl rfl rfl (by decide) (by decide) (Nat.le_of_ble_eq_true rfl) rfl ?_
    refine z_iload C dL_orders_341 rfl ?_
    refine z_ncmp_ne_f C 360 dL_orders_343 (by decide) (by omega) (by omega) (by omega) ?_
    refine z_aload_n C 0 dL_orders_346 rfl rfl ?_
    refine z_iconst C (nI 0) dL_orders_347 (by decide) ?_
    refine z_callVr C kX5_count gL_orders_X5_count (l_cnt0 X.2.1 x0 h0 h1 w0 w1 t S o2 kp2 9 ps5  hG ) dL_orders_348 [0, 1, 2, 3, 4, 5, 6, 7, 8, 9, 51] [] 0 rfl nd_0_1_2_3_4_5_6_7_8_9_51 rfl rfl rfl (by decide) (by decide) (Nat.le_of_ble_eq_true rfl) rfl ?_
    refine z_iload C dL_orders_351 rfl ?_
    refine z_ncmp_ne_f C 360 dL_orders_353 (by decide) (by omega) (by omega) (by omega) ?_
    refine z_iconst C (nI 1) dL_orders_356 (by decide) ?_
    refine z_goto C 361 dL_orders_357 (by decide) ?_
    exact z_zret C N dL_orders_361 rfl (rfl) (rfl)
  · refine z_iconst C (nI 1) dL_orders_56 (by decide) ?_
    refine z_goto C 61 dL_orders_57 (by decide) ?_
    refine z_istore C dL_orders_61 (Nat.le_of_ble_eq_true rfl) ?_
    refine z_lv (lv' := [some (.ref x0), some (.int (nI au)), some (.int g), some (.int h), some (.int (nI 1)), some (.int (nI (uU S 1))), some (.int (nI (mK S))), some (.int (nI 1)), none, none, none]) rfl ?_
    refine z_aload_n C 0 dL_orders_63 rfl rfl ?_
    refine z_iload_n C 2 dL_orders_64 rfl rfl ?_
    refine z_iconst C (nI 2) dL_orders_65 (by decide) ?_
    refine z_iand C dL_orders_66 ?_
    refine z_if_ne_f C 75 dL_orders_67 (by decide) hg2 ?_
    refine z_bipush C (nI 43) dL_orders_70 (by decide) ?_
    refine z_goto C 77 dL_orders_72 (by decide) ?_
    refine z_callV (wn := (WRd X.2.1 x0 h0 h1 w0 w1 t r S o kp Q (tyL tx [43]) 1 ps1)) C kX5_type gL_orders_X5_type (l_typ X.2.1 x0 (t 0) h0 w0 w1 tx [] ps1 43 0 rfl (by decide) htx (fun c hc9 => absurd hc9 List.not_mem_nil) (by omega)) dL_orders_77 [0, 51, 52] [] 0 rfl rfl nd_0_51_52 rfl rfl rfl (by decide) (by decide) (Nat.le_of_ble_eq_true rfl) rfl ((zput_par nd_0_51_52 rfl).trans rfl) ?_
    refine z_top (y := nI 1) rfl ?_
    refine z_istore C dL_orders_80 (Nat.le_of_ble_eq_true rfl) ?_
    refine z_lv (lv' := [some (.ref x0), some (.int (nI au)), some (.int g), some (.int h), some (.int (nI 1)), some (.int (nI (uU S 1))), some (.int (nI (mK S))), some (.int (nI 1)), some (.int (nI 1)), none, none]) rfl ?_
    refine z_aload_n C 0 dL_orders_82 rfl rfl ?_
    refine z_iload_n C 1 dL_orders_83 rfl rfl ?_
    refine z_callV (wn := (WRd X.2.1 x0 h0 h1 w0 w1 t r S o kp Q (tyL tx [43]) 1 ps2)) C kX5_run gL_orders_X5_run m3 dL_orders_84 [0, 1, 2, 3, 4, 5, 6, 7, 8, 9, 10, 11, 12, 13, 14, 15, 16, 17, 18, 19, 20, 21, 22, 23, 24, 25, 26, 27, 28, 29, 30, 31, 32, 33, 34, 35, 36, 37, 38, 39, 40, 41, 42, 43, 44, 45, 46, 47, 48, 49, 50, 51, 52] [] 0 rfl rfl nd_0_1_2_3_4_5_6_7_8_9_10_11_12_13_14_15_16_17_18_19_20_21_22_23_24_25_26_27_28_29_30_31_32_33_34_35_36_37_38_39_40_41_42_43_44_45_46_47_48_49_50_51_52 rfl rfl rfl (by decide) (by decide) (Nat.le_of_ble_eq_true rfl) rfl ((zput_par nd_0_1_2_3_4_5_6_7_8_9_10_11_12_13_14_15_16_17_18_19_20_21_22_23_24_25_26_27_28_29_30_31_32_33_34_35_36_37_38_39_40_41_42_43_44_45_46_47_48_49_50_51_52 rfl).trans rfl) ?_
    refine z_bipush C (-100) dL_orders_87 (by decide) ?_
    refine z_iload C dL_orders_89 rfl ?_
    refine z_isub C dL_orders_91 ?_
    refine z_top (y := (-101)) (by decide) ?_
    refine z_icmp_ne_f C 99 dL_orders_92 (by decide) rfl ?_
    refine z_iconst C (nI 1) dL_orders_95 (by decide) ?_
    refine z_goto C 100 dL_orders_96 (by decide) ?_
    refine z_istore C dL_orders_100 (Nat.le_of_ble_eq_true rfl) ?_
    refine z_lv (lv' := [some (.ref x0), some (.int (nI au)), some (.int g), some (.int h), some (.int (nI 1)), some (.int (nI (uU S 1))), some (.int (nI (mK S))), some (.int (nI 1)), some (.int (nI 1)), some (.int (nI 1)), none]) rfl ?_
    refine z_aload_n C 0 dL_orders_102 rfl rfl ?_
    refine z_iload C dL_orders_103 rfl ?_
    refine z_nif_ne_t C 113 dL_orders_105 (by decide) (by omega) (by omega) ?_
    refine z_bipush C (nI 99) dL_orders_113 (by decide) ?_
    refine z_callV (wn := (WRd X.2.1 x0 h0 h1 w0 w1 t r S o kp Q (tyL tx [99, 43]) 2 ps2)) C kX5_type gL_orders_X5_type (l_typ X.2.1 x0 (t 0) h0 w0 w1 tx [43] ps2 99 1 rfl (by decide) htx (by intro c hc9; simp at hc9; omega) (by omega)) dL_orders_115 [0, 51, 52] [] 0 rfl rfl nd_0_51_52 rfl rfl rfl (by decide) (by decide) (Nat.le_of_ble_eq_true rfl) rfl ((zput_par nd_0_51_52 rfl).trans rfl) ?_
    refine z_top (y := nI 2) rfl ?_
    refine z_pop C dL_orders_118 rfl ?_
    refine z_aload_n C 0 dL_orders_119 rfl rfl ?_
    refine z_bipush C (nI 48) dL_orders_120 (by decide) ?_
    refine z_callV (wn := (WRd X.2.1 x0 h0 h1 w0 w1 t r S o kp Q (tyL tx [48, 99, 43]) 3 ps2)) C kX5_type gL_orders_X5_type (l_typ X.2.1 x0 (t 0) h0 w0 w1 tx [99, 43] ps2 48 2 rfl (by decide) htx (by intro c hc9; simp at hc9; omega) (by omega)) dL_orders_122 [0, 51, 52] [] 0 rfl rfl nd_0_51_52 rfl rfl rfl (by decide) (by decide) (Nat.le_of_ble_eq_true rfl) rfl ((zput_par nd_0_51_52 rfl).trans rfl) ?_
    refine z_top (y := nI 3) rfl ?_
    refine z_pop C dL_orders_125 rfl ?_
    refine z_aload_n C 0 dL_orders_126 rfl rfl ?_
    refine z_bipush C (nI 48) dL_orders_127 (by decide) ?_
    refine z_iload_n C 3 dL_orders_129 rfl rfl ?_
    refine z_bipush C (nI 10) dL_orders_130 (by decide) ?_
    refine z_callS C kL_low gL_orders_L_low (l_low X.2.1 h 10 (by decide) (by decide)) dL_orders_132 [.int (nI 48), .ref x0] rfl (by decide) (by decide) (Nat.le_of_ble_eq_true rfl) rfl ?_
    refine z_top (y := nI dd) (congrArg nI hd) ?_
    refine z_iadd C dL_orders_135 ?_
    refine z_top (y := nI (48 + dd)) (nI_add _ _) ?_
    refine z_i2c C (nI (48 + dd)) dL_orders_136 (chr_n (by omega)) ?_
    refine z_callV (wn := (WRd X.2.1 x0 h0 h1 w0 w1 t r S o kp Q (tyL tx [48 + dd, 48, 99, 43]) 4 ps2)) C kX5_type gL_orders_X5_type (l_typ X.2.1 x0 (t 0) h0 w0 w1 tx [48, 99, 43] ps2 (48 + dd) 3 rfl (by decide) htx (by intro c hc9; simp at hc9; omega) (by omega)) dL_orders_137 [0, 51, 52] [] 0 rfl rfl nd_0_51_52 rfl rfl rfl (by decide) (by decide) (Nat.le_of_ble_eq_true rfl) rfl ((zput_par nd_0_51_52 rfl).trans rfl) ?_
    refine z_top (y := nI 4) rfl ?_
    refine z_istore C dL_orders_140 (Nat.le_of_ble_eq_true rfl) ?_
    refine z_lv (lv' := [some (.ref x0), some (.int (nI au)), some (.int g), some (.int h), some (.int (nI 1)), some (.int (nI (uU S 1))), some (.int (nI (mK S))), some (.int (nI 1)), some (.int (nI 4)), some (.int (nI 1)), none]) rfl ?_
    refine z_iload C dL_orders_142 rfl ?_
    refine z_nif_eq_f C 160 dL_orders_144 (by decide) (by omega) (by omega) ?_
    refine z_aload_n C 0 dL_orders_147 rfl rfl ?_
    refine z_iload_n C 1 dL_orders_148 rfl rfl ?_
    refine z_callV (wn := (WRd X.2.1 x0 h0 h1 w0 w1 t r S o kp Q (tyL tx [48 + dd, 48, 99, 43]) 4 ps3)) C kX5_run gL_orders_X5_run m4 dL_orders_149 [0, 1, 2, 3, 4, 5, 6, 7, 8, 9, 10, 11, 12, 13, 14, 15, 16, 17, 18, 19, 20, 21, 22, 23, 24, 25, 26, 27, 28, 29, 30, 31, 32, 33, 34, 35, 36, 37, 38, 39, 40, 41, 42, 43, 44, 45, 46, 47, 48, 49, 50, 51, 52] [] 0 rfl rfl nd_0_1_2_3_4_5_6_7_8_9_10_11_12_13_14_15_16_17_18_19_20_21_22_23_24_25_26_27_28_29_30_31_32_33_34_35_36_37_38_39_40_41_42_43_44_45_46_47_48_49_50_51_52 rfl rfl rfl (by decide) (by decide) (Nat.le_of_ble_eq_true rfl) rfl ((zput_par nd_0_1_2_3_4_5_6_7_8_9_10_11_12_13_14_15_16_17_18_19_20_21_22_23_24_25_26_27_28_29_30_31_32_33_34_35_36_37_38_39_40_41_42_43_44_45_46_47_48_49_50_51_52 rfl).trans rfl) ?_
    refine z_bipush C (-99) dL_orders_152 (by decide) ?_
    refine z_iload C dL_orders_154 rfl ?_
    refine z_isub C dL_orders_156 ?_
    refine z_top (y := (-103)) (by decide) ?_
    refine z_icmp_eq_t C 162 dL_orders_157 (by decide) rfl ?_
    refine z_aload_n C 0 dL_orders_162 rfl rfl ?_
    have htx2 : ∀ j, tyL tx [48 + dd, 48, 99, 43] j < 65536 := tyL_b htx (by intro c hc9; simp at hc9; omega)
    refine z_callV (wn := (WRd X.2.1 x0 h0 h1 w0 w1 t r S o kp Q (tyL (tyL tx [48 + dd, 48, 99, 43]) []) 0 ps3)) C kX5_clearText gL_orders_X5_clearText (l_clr X.2.1 x0 (t 0) h0 w0 w1 (tyL tx [48 + dd, 48, 99, 43]) 4 ps3 (by decide)) dL_orders_163 [0, 51, 52] [] 0 rfl rfl nd_0_51_52 rfl rfl rfl (by decide) (by decide) (Nat.le_of_ble_eq_true rfl) rfl ((zput_par nd_0_51_52 rfl).trans rfl) ?_
    refine z_pop C dL_orders_166 rfl ?_
    refine z_aload_n C 0 dL_orders_167 rfl rfl ?_
    refine z_bipush C (nI 43) dL_orders_168 (by decide) ?_
    refine z_callV (wn := (WRd X.2.1 x0 h0 h1 w0 w1 t r S o kp Q (tyL (tyL tx [48 + dd, 48, 99, 43]) [43]) 1 ps3)) C kX5_type gL_orders_X5_type (l_typ X.2.1 x0 (t 0) h0 w0 w1 (tyL tx [48 + dd, 48, 99, 43]) [] ps3 43 0 rfl (by decide) htx2 (fun c hc9 => absurd hc9 List.not_mem_nil) (by omega)) dL_orders_170 [0, 51, 52] [] 0 rfl rfl nd_0_51_52 rfl rfl rfl (by decide) (by decide) (Nat.le_of_ble_eq_true rfl) rfl ((zput_par nd_0_51_52 rfl).trans rfl) ?_
    refine z_top (y := nI 1) rfl ?_
    refine z_pop C dL_orders_173 rfl ?_
    refine z_aload_n C 0 dL_orders_174 rfl rfl ?_
    refine z_iload C dL_orders_175 rfl ?_
    refine z_nif_ne_t C 185 dL_orders_177 (by decide) (by omega) (by omega) ?_
    refine z_bipush C (nI 99) dL_orders_185 (by decide) ?_
    refine z_callV (wn := (WRd X.2.1 x0 h0 h1 w0 w1 t r S o kp Q (tyL (tyL tx [48 + dd, 48, 99, 43]) [99, 43]) 2 ps3)) C kX5_type gL_orders_X5_type (l_typ X.2.1 x0 (t 0) h0 w0 w1 (tyL tx [48 + dd, 48, 99, 43]) [43] ps3 99 1 rfl (by decide) htx2 (by intro c hc9; simp at hc9; omega) (by omega)) dL_orders_187 [0, 51, 52] [] 0 rfl rfl nd_0_51_52 rfl rfl rfl (by decide) (by decide) (Nat.le_of_ble_eq_true rfl) rfl ((zput_par nd_0_51_52 rfl).trans rfl) ?_
    refine z_top (y := nI 2) rfl ?_
    refine z_pop C dL_orders_190 rfl ?_
    refine z_aload_n C 0 dL_orders_191 rfl rfl ?_
    refine z_bipush C (nI 48) dL_orders_192 (by decide) ?_
    refine z_callV (wn := (WRd X.2.1 x0 h0 h1 w0 w1 t r S o kp Q (tyL (tyL tx [48 + dd, 48, 99, 43]) [48, 99, 43]) 3 ps3)) C kX5_type gL_orders_X5_type (l_typ X.2.1 x0 (t 0) h0 w0 w1 (tyL tx [48 + dd, 48, 99, 43]) [99, 43] ps3 48 2 rfl (by decide) htx2 (by intro c hc9; simp at hc9; omega) (by omega)) dL_orders_194 [0, 51, 52] [] 0 rfl rfl nd_0_51_52 rfl rfl rfl (by decide) (by decide) (Nat.le_of_ble_eq_true rfl) rfl ((zput_par nd_0_51_52 rfl).trans rfl) ?_
    refine z_top (y := nI 3) rfl ?_
    refine z_pop C dL_orders_197 rfl ?_
    refine z_aload_n C 0 dL_orders_198 rfl rfl ?_
    refine z_bipush C (nI 32) dL_orders_199 (by decide) ?_
    refine z_callV (wn := (WRd X.2.1 x0 h0 h1 w0 w1 t r S o kp Q (tyL (tyL tx [48 + dd, 48, 99, 43]) [32, 48, 99, 43]) 4 ps3)) C kX5_type gL_orders_X5_type (l_typ X.2.1 x0 (t 0) h0 w0 w1 (tyL tx [48 + dd, 48, 99, 43]) [48, 99, 43] ps3 32 3 rfl (by decide) htx2 (by intro c hc9; simp at hc9; omega) (by omega)) dL_orders_201 [0, 51, 52] [] 0 rfl rfl nd_0_51_52 rfl rfl rfl (by decide) (by decide) (Nat.le_of_ble_eq_true rfl) rfl ((zput_par nd_0_51_52 rfl).trans rfl) ?_
    refine z_top (y := nI 4) rfl ?_
    refine z_pop C dL_orders_204 rfl ?_
    refine z_aload_n C 0 dL_orders_205 rfl rfl ?_
    refine z_bipush C (nI 43) dL_orders_206 (by decide) ?_
    refine z_callV (wn := (WRd X.2.1 x0 h0 h1 w0 w1 t r S o kp Q (tyL (tyL tx [48 + dd, 48, 99, 43]) [43, 32, 48, 99, 43]) 5 ps3)) C kX5_type gL_orders_X5_type (l_typ X.2.1 x0 (t 0) h0 w0 w1 (tyL tx [48 + dd, 48, 99, 43]) [32, 48, 99, 43] ps3 43 4 rfl (by decide) htx2 (by intro c hc9; simp at hc9; omega) (by omega)) dL_orders_208 [0, 51, 52] [] 0 rfl rfl nd_0_51_52 rfl rfl rfl (by decide) (by decide) (Nat.le_of_ble_eq_true rfl) rfl ((zput_par nd_0_51_52 rfl).trans rfl) ?_
    refine z_top (y := nI 5) rfl ?_
    refine z_pop C dL_orders_211 rfl ?_
    refine z_aload_n C 0 dL_orders_212 rfl rfl ?_
    refine z_iload C dL_orders_213 rfl ?_
    refine z_nif_ne_t C 223 dL_orders_215 (by decide) (by omega) (by omega) ?_
    refine z_bipush C (nI 99) dL_orders_223 (by decide) ?_
    refine z_callV (wn := (WRd X.2.1 x0 h0 h1 w0 w1 t r S o kp Q (tyL (tyL tx [48 + dd, 48, 99, 43]) [99, 43, 32, 48, 99, 43]) 6 ps3)) C kX5_type gL_orders_X5_type (l_typ X.2.1 x0 (t 0) h0 w0 w1 (tyL tx [48 + dd, 48, 99, 43]) [43, 32, 48, 99, 43] ps3 99 5 rfl (by decide) htx2 (by intro c hc9; simp at hc9; omega) (by omega)) dL_orders_225 [0, 51, 52] [] 0 rfl rfl nd_0_51_52 rfl rfl rfl (by decide) (by decide) (Nat.le_of_ble_eq_true rfl) rfl ((zput_par nd_0_51_52 rfl).trans rfl) ?_
    refine z_top (y := nI 6) rfl ?_
    refine z_pop C dL_orders_228 rfl ?_
    refine z_aload_n C 0 dL_orders_229 rfl rfl ?_
    refine z_bipush C (nI 57) dL_orders_230 (by decide) ?_
    refine z_callV (wn := (WRd X.2.1 x0 h0 h1 w0 w1 t r S o kp Q (tyL (tyL tx [48 + dd, 48, 99, 43]) [57, 99, 43, 32, 48, 99, 43]) 7 ps3)) C kX5_type gL_orders_X5_type (l_typ X.2.1 x0 (t 0) h0 w0 w1 (tyL tx [48 + dd, 48, 99, 43]) [99, 43, 32, 48, 99, 43] ps3 57 6 rfl (by decide) htx2 (by intro c hc9; simp at hc9; omega) (by omega)) dL_orders_232 [0, 51, 52] [] 0 rfl rfl nd_0_51_52 rfl rfl rfl (by decide) (by decide) (Nat.le_of_ble_eq_true rfl) rfl ((zput_par nd_0_51_52 rfl).trans rfl) ?_
    refine z_top (y := nI 7) rfl ?_
    refine z_pop C dL_orders_235 rfl ?_
    refine z_aload_n C 0 dL_orders_236 rfl rfl ?_
    refine z_bipush C (nI 57) dL_orders_237 (by decide) ?_
    refine z_callV (wn := (WRd X.2.1 x0 h0 h1 w0 w1 t r S o kp Q (tyL (tyL tx [48 + dd, 48, 99, 43]) [57, 57, 99, 43, 32, 48, 99, 43]) 8 ps3)) C kX5_type gL_orders_X5_type (l_typ X.2.1 x0 (t 0) h0 w0 w1 (tyL tx [48 + dd, 48, 99, 43]) [57, 99, 43, 32, 48, 99, 43] ps3 57 7 rfl (by decide) htx2 (by intro c hc9; simp at hc9; omega) (by omega)) dL_orders_239 [0, 51, 52] [] 0 rfl rfl nd_0_51_52 rfl rfl rfl (by decide) (by decide) (Nat.le_of_ble_eq_true rfl) rfl ((zput_par nd_0_51_52 rfl).trans rfl) ?_
    refine z_top (y := nI 8) rfl ?_
    refine z_istore C dL_orders_242 (Nat.le_of_ble_eq_true rfl) ?_
    refine z_lv (lv' := [some (.ref x0), some (.int (nI au)), some (.int g), some (.int h), some (.int (nI 1)), some (.int (nI (uU S 1))), some (.int (nI (mK S))), some (.int (nI 1)), some (.int (nI 8)), some (.int (nI 1)), none]) rfl ?_
    refine z_iload C dL_orders_244 rfl ?_
    refine z_iload C dL_orders_246 rfl ?_
    refine z_nif_ne_t C 256 dL_orders_248 (by decide) (by omega) (by omega) ?_
    refine z_bipush C (nI 8) dL_orders_256 (by decide) ?_
    refine z_ncmp_eq_t C 273 dL_orders_258 (by decide) (by omega) (by omega) (by omega) ?_
    refine z_iconst C (nI 0) dL_orders_273 (by decide) ?_
    refine z_goto C 278 dL_orders_274 (by decide) ?_
    refine z_istore C dL_orders_278 (Nat.le_of_ble_eq_true rfl) ?_
    refine z_lv (lv' := [some (.ref x0), some (.int (nI au)), some (.int g), some (.int h), some (.int (nI 1)), some (.int (nI (uU S 1))), some (.int (nI (mK S))), some (.int (nI 1)), some (.int (nI 8)), some (.int (nI 1)), some (.int (nI 0))]) rfl ?_
    refine z_aload_n C 0 dL_orders_280 rfl rfl ?_
    refine z_iload_n C 1 dL_orders_281 rfl rfl ?_
    refine z_callV (wn := (WRd X.2.1 x0 h0 h1 w0 w1 t r S1 o1 kp1 Q1 (tyL (tyL tx [48 + dd, 48, 99, 43]) [57, 57, 99, 43, 32, 48, 99, 43]) 8 ps4)) C kX5_run gL_orders_X5_run m5 dL_orders_282 [0, 1, 2, 3, 4, 5, 6, 7, 8, 9, 10, 11, 12, 13, 14, 15, 16, 17, 18, 19, 20, 21, 22, 23, 24, 25, 26, 27, 28, 29, 30, 31, 32, 33, 34, 35, 36, 37, 38, 39, 40, 41, 42, 43, 44, 45, 46, 47, 48, 49, 50, 51, 52] [] 0 rfl rfl nd_0_1_2_3_4_5_6_7_8_9_10_11_12_13_14_15_16_17_18_19_20_21_22_23_24_25_26_27_28_29_30_31_32_33_34_35_36_37_38_39_40_41_42_43_44_45_46_47_48_49_50_51_52 rfl rfl rfl (by decide) (by decide) (Nat.le_of_ble_eq_true rfl) rfl ((zput_par nd_0_1_2_3_4_5_6_7_8_9_10_11_12_13_14_15_16_17_18_19_20_21_22_23_24_25_26_27_28_29_30_31_32_33_34_35_36_37_38_39_40_41_42_43_44_45_46_47_48_49_50_51_52 rfl).trans rfl) ?_
    refine z_iload C dL_orders_285 rfl ?_
    refine z_ncmp_ne_f C 305 dL_orders_287 (by decide) (by omega) (by omega) (by omega) ?_
    refine z_aload_n C 0 dL_orders_290 rfl rfl ?_
    refine z_iconst C (nI 0) dL_orders_291 (by decide) ?_
    refine z_iload C dL_orders_292 rfl ?_
    refine z_callVr C kX5_size gL_orders_X5_size (l_size0 X.2.1 x0 h0 w0 t S1 1 hG1 (by decide)) dL_orders_294 [0, 1, 2, 3, 4, 5, 6, 7, 8] [] 0 rfl nd_0_1_2_3_4_5_6_7_8 rfl rfl rfl (by decide) (by decide) (Nat.le_of_ble_eq_true rfl) rfl ?_
    refine z_iload C dL_orders_297 rfl ?_
    refine z_iload C dL_orders_299 rfl ?_
    refine z_iadd C dL_orders_301 ?_
    refine z_top (y := nI (uU S 1)) (nI_add _ _) ?_
    refine z_ncmp_eq_t C 307 dL_orders_302 (by decide) (by omega) (by omega) (by omega) ?_
    refine z_aload_n C 0 dL_orders_307 rfl rfl ?_
    refine z_bipush C (nI 57) dL_orders_308 (by decide) ?_
    refine z_callV (wn := (WRd X.2.1 x0 h0 h1 w0 w1 t r S1 o1 kp1 Q1 (tyL (tyL tx [48 + dd, 48, 99, 43]) [57, 57, 57, 99, 43, 32, 48, 99, 43]) 9 ps4)) C kX5_type gL_orders_X5_type (l_typ X.2.1 x0 (t 0) h0 w0 w1 (tyL tx [48 + dd, 48, 99, 43]) [57, 57, 99, 43, 32, 48, 99, 43] ps4 57 8 rfl (by decide) htx2 (by intro c hc9; simp at hc9; omega) (by omega)) dL_orders_310 [0, 51, 52] [] 0 rfl rfl nd_0_51_52 rfl rfl rfl (by decide) (by decide) (Nat.le_of_ble_eq_true rfl) rfl ((zput_par nd_0_51_52 rfl).trans rfl) ?_
    refine z_top (y := nI 9) rfl ?_
    refine z_pop C dL_orders_313 rfl ?_
    refine z_aload_n C 0 dL_orders_314 rfl rfl ?_
    refine z_iload_n C 1 dL_orders_315 rfl rfl ?_
    refine z_callV (wn := (WRd X.2.1 x0 h0 h1 w0 w1 t r S1 o1 kp1 Q1 (tyL (tyL tx [48 + dd, 48, 99, 43]) [57, 57, 57, 99, 43, 32, 48, 99, 43]) 9 ps5)) C kX5_run gL_orders_X5_run m6 dL_orders_316 [0, 1, 2, 3, 4, 5, 6, 7, 8, 9, 10, 11, 12, 13, 14, 15, 16, 17, 18, 19, 20, 21, 22, 23, 24, 25, 26, 27, 28, 29, 30, 31, 32, 33, 34, 35, 36, 37, 38, 39, 40, 41, 42, 43, 44, 45, 46, 47, 48, 49, 50, 51, 52] [] 0 rfl rfl nd_0_1_2_3_4_5_6_7_8_9_10_11_12_13_14_15_16_17_18_19_20_21_22_23_24_25_26_27_28_29_30_31_32_33_34_35_36_37_38_39_40_41_42_43_44_45_46_47_48_49_50_51_52 rfl rfl rfl (by decide) (by decide) (Nat.le_of_ble_eq_true rfl) rfl ((zput_par nd_0_1_2_3_4_5_6_7_8_9_10_11_12_13_14_15_16_17_18_19_20_21_22_23_24_25_26_27_28_29_30_31_32_33_34_35_36_37_38_39_40_41_42_43_44_45_46_47_48_49_50_51_52 rfl).trans rfl) ?_
    refine z_bipush C (-100) dL_orders_319 (by decide) ?_
    refine z_iload C dL_orders_321 rfl ?_
    refine z_isub C dL_orders_323 ?_
    refine z_top (y := (-108)) (by decide) ?_
    refine z_icmp_ne_f C 360 dL_orders_324 (by decide) rfl ?_
    refine z_aload_n C 0 dL_orders_327 rfl rfl ?_
    refine z_callV (wn := (WRd X.2.1 x0 h0 h1 w0 w1 t r S o2 kp2 Q1 (tyL (tyL tx [48 + dd, 48, 99, 43]) [57, 57, 57, 99, 43, 32, 48, 99, 43]) 9 ps5)) C kX5_undo gL_orders_X5_undo m7 dL_orders_328 [0, 1, 2, 3, 4, 5, 6, 7, 8, 9, 10, 11, 12, 13, 14, 15, 16, 17, 18, 19, 20, 21, 22, 23, 24, 25, 26, 27, 28, 29, 30, 31, 32, 33, 34, 35, 36, 37, 38, 39, 40, 41, 42, 43, 44, 45, 46, 47, 48, 49, 50] [] 0 rfl rfl nd_0_1_2_3_4_5_6_7_8_9_10_11_12_13_14_15_16_17_18_19_20_21_22_23_24_25_26_27_28_29_30_31_32_33_34_35_36_37_38_39_40_41_42_43_44_45_46_47_48_49_50 rfl rfl rfl (by decide) (by decide) (Nat.le_of_ble_eq_true rfl) rfl ((zput_par nd_0_1_2_3_4_5_6_7_8_9_10_11_12_13_14_15_16_17_18_19_20_21_22_23_24_25_26_27_28_29_30_31_32_33_34_35_36_37_38_39_40_41_42_43_44_45_46_47_48_49_50 rfl).trans rfl) ?_
    refine z_nif_lt_f C 360 dL_orders_331 (by decide) (by omega) (by trivial) ?_
    refine z_aload_n C 0 dL_orders_334 rfl rfl ?_
    refine z_iconst C (nI 0) dL_orders_335 (by decide) ?_
    refine z_iload C dL_orders_336 rfl ?_
    refine z_callVr C kX5_size gL_orders_X5_size (l_size0 X.2.1 x0 h0 w0 t S 1 hG (by decide)) dL_orders_338 [0, 1, 2, 3, 4, 5, 6, 7, 8] [] 0 rfl nd_0_1_2_3_4_5_6_7_8 rfl rfl rfl (by decide) (by decide) (Nat.le_of_ble_eq_true rfl) rfl ?_
    refine z_iload C dL_orders_341 rfl ?_
    refine z_ncmp_ne_f C 360 dL_orders_343 (by decide) (by omega) (by omega) (by omega) ?_
    refine z_aload_n C 0 dL_orders_346 rfl rfl ?_
    refine z_iconst C (nI 0) dL_orders_347 (by decide) ?_
    refine z_callVr C kX5_count gL_orders_X5_count (l_cnt0 X.2.1 x0 h0 h1 w0 w1 t S o2 kp2 9 ps5  hG ) dL_orders_348 [0, 1, 2, 3, 4, 5, 6, 7, 8, 9, 51] [] 0 rfl nd_0_1_2_3_4_5_6_7_8_9_51 rfl rfl rfl (by decide) (by decide) (Nat.le_of_ble_eq_true rfl) rfl ?_
    refine z_iload C dL_orders_351 rfl ?_
    refine z_ncmp_ne_f C 360 dL_orders_353 (by decide) (by omega) (by omega) (by omega) ?_
    refine z_iconst C (nI 1) dL_orders_356 (by decide) ?_
    refine z_goto C 361 dL_orders_357 (by decide) ?_
    exact z_zret C N dL_orders_361 rfl (rfl) (rfl)

set_option maxHeartbeats 4000000 in
set_option maxRecDepth 100000 in
theorem w_ord11y (E : zE) (x0 h0 h1 w0 w1 : Nat) (t : Nat → Nat) (r : Nat → Nat → Nat) (S S1 : zSt) (o kp o1 o2 kp1 kp2 : Nat) (Q Q1 : Nat → zSt) (tx : Nat → Nat) (ln : Nat) (ps ps1 ps2 ps3 ps4 ps5 : zPs) {B B1 : Nat} (au : Nat) (g h : Int32) (dd lf : Nat) (hG : GG S B) (hG1 : GG S1 B1) (hau : au < 4) (hg1 : g &&& (nI 1) = nI 1) (hg2 : ¬ g &&& (nI 2) = 0) (hd : lw h 10 = dd) (hdd : dd < 10) (hln : ln ≤ 60) (htx : ∀ j, tx j < 65536) (hlf : lf < 100) (hu : uU S1 1 = uU S 1 + 1) (hf : uU S 1 < 8) (ht : tK S = false) (m1 : zM E yX5_run wsX5_run 8 [.ref x0, .int (nI au)] (WRd E x0 h0 h1 w0 w1 t r S o kp Q (tyL tx []) 0 ps) (WRd E x0 h0 h1 w0 w1 t r S o kp Q (tyL tx []) 0 ps1) (some (.int (-100)))) (m2 : zM E yX5_run wsX5_run 8 [.ref x0, .int (nI 4)] (WRd E x0 h0 h1 w0 w1 t r S o kp Q (tyL tx []) 0 ps1) (WRd E x0 h0 h1 w0 w1 t r S o kp Q (tyL tx []) 0 ps1) (some (.int (-1)))) (m3 : zM E yX5_run wsX5_run 8 [.ref x0, .int (nI au)] (WRd E x0 h0 h1 w0 w1 t r S o kp Q (tyL tx [45]) 1 ps1) (WRd E x0 h0 h1 w0 w1 t r S o kp Q (tyL tx [45]) 1 ps2) (some (.int (-101)))) (m4 : zM E yX5_run wsX5_run 8 [.ref x0, .int (nI au)] (WRd E x0 h0 h1 w0 w1 t r S o kp Q (tyL tx [48 + dd, 48, 99, 45]) 4 ps2) (WRd E x0 h0 h1 w0 w1 t r S o kp Q (tyL tx [48 + dd, 48, 99, 45]) 4 ps3) (some (.int (-103)))) (m5 : zM E yX5_run wsX5_run 8 [.ref x0, .int (nI au)] (WRd E x0 h0 h1 w0 w1 t r S o kp Q (tyL (tyL tx [48 + dd, 48, 99, 45]) [57, 57, 99, 43, 32, 48, 99, 43]) 8 ps3) (WRd E x0 h0 h1 w0 w1 t r S1 o1 kp1 Q1 (tyL (tyL tx [48 + dd, 48, 99, 45]) [57, 57, 99, 43, 32, 48, 99, 43]) 8 ps4) (some (.int (nI 1)))) (m6 : zM E yX5_run wsX5_run 8 [.ref x0, .int (nI au)] (WRd E x0 h0 h1 w0 w1 t r S1 o1 kp1 Q1 (tyL (tyL tx [48 + dd, 48, 99, 45]) [57, 57, 57, 99, 43, 32, 48, 99, 43]) 9 ps4) (WRd E x0 h0 h1 w0 w1 t r S1 o1 kp1 Q1 (tyL (tyL tx [48 + dd, 48, 99, 45]) [57, 57, 57, 99, 43, 32, 48, 99, 43]) 9 ps5) (some (.int (-108)))) (m7 : zM E yX5_undo wsX5_undo 5 [.ref x0] (WAd E x0 h0 h1 w0 t r S1 o1 kp1 Q1) (WAd E x0 h0 h1 w0 t r S o2 kp2 Q1) (some (.int (nI lf)))) : zM E yL_orders wsL_orders 9 [.ref x0, .int (nI au), .int g, .int h] (WRd E x0 h0 h1 w0 w1 t r S o kp Q tx ln ps) (WRd E x0 h0 h1 w0 w1 t r S o2 kp2 Q1 (tyL (tyL tx [48 + dd, 48, 99, 45]) [57, 57, 57, 99, 43, 32, 48, 99, 43]) 9 ps5) (some (.int (nI 1))) := by
  refine zM.of kL_orders (Nat.le_of_ble_eq_true rfl) rfl [some (.ref x0), some (.int (nI au)), some (.int g), some (.int h), none, none, none, none, none, none, none] rfl (Nat.le_of_ble_eq_true rfl) ?_
  intro X eX C N
  subst eX
  have hb0 : uU S 0 ≤ 12 := gg_u hG 0
  have hb1 : uU S 1 ≤ 8 := gg_u1 hG
  have hb2 : mK S ≤ 60 := gg_M hG
  have hb3 : uU S1 0 ≤ 12 := gg_u hG1 0
  have hb4 : uU S1 1 ≤ 8 := gg_u1 hG1
  have hb5 : mK S1 ≤ 60 := gg_M hG1
  refine z_aload_n C 0 dL_orders_0 rfl rfl ?_
  refine z_callV (wn := (WRd X.2.1 x0 h0 h1 w0 w1 t r S o kp Q (tyL tx []) 0 ps)) C kX5_clearText gL_orders_X5_clearText (l_clr X.2.1 x0 (t 0) h0 w0 w1 tx ln ps hln) dL_orders_1 [0, 51, 52] [] 0 rfl rfl nd_0_51_52 rfl rfl rfl (by decide) (by decide) (Nat.le_of_ble_eq_true rfl) rfl ((zput_par nd_0_51_52 rfl).trans rfl) ?_
  refine z_pop C dL_orders_4 rfl ?_
  refine z_aload_n C 0 dL_orders_5 rfl rfl ?_
  refine z_iload_n C 1 dL_orders_6 rfl rfl ?_
  refine z_callV (wn := (WRd X.2.1 x0 h0 h1 w0 w1 t r S o kp Q (tyL tx []) 0 ps1)) C kX5_run gL_orders_X5_run m1 dL_orders_7 [0, 1, 2, 3, 4, 5, 6, 7, 8, 9, 10, 11, 12, 13, 14, 15, 16, 17, 18, 19, 20, 21, 22, 23, 24, 25, 26, 27, 28, 29, 30, 31, 32, 33, 34, 35, 36, 37, 38, 39, 40, 41, 42, 43, 44, 45, 46, 47, 48, 49, 50, 51, 52] [] 0 rfl rfl nd_0_1_2_3_4_5_6_7_8_9_10_11_12_13_14_15_16_17_18_19_20_21_22_23_24_25_26_27_28_29_30_31_32_33_34_35_36_37_38_39_40_41_42_43_44_45_46_47_48_49_50_51_52 rfl rfl rfl (by decide) (by decide) (Nat.le_of_ble_eq_true rfl) rfl ((zput_par nd_0_1_2_3_4_5_6_7_8_9_10_11_12_13_14_15_16_17_18_19_20_21_22_23_24_25_26_27_28_29_30_31_32_33_34_35_36_37_38_39_40_41_42_43_44_45_46_47_48_49_50_51_52 rfl).trans rfl) ?_
  refine z_bipush C (-100) dL_orders_10 (by decide) ?_
  refine z_icmp_ne_f C 24 dL_orders_12 (by decide) rfl ?_
  refine z_aload_n C 0 dL_orders_15 rfl rfl ?_
  refine z_iconst C (nI 4) dL_orders_16 (by decide) ?_
  refine z_callV (wn := (WRd X.2.1 x0 h0 h1 w0 w1 t r S o kp Q (tyL tx []) 0 ps1)) C kX5_run gL_orders_X5_run m2 dL_orders_17 [0, 1, 2, 3, 4, 5, 6, 7, 8, 9, 10, 11, 12, 13, 14, 15, 16, 17, 18, 19, 20, 21, 22, 23, 24, 25, 26, 27, 28, 29, 30, 31, 32, 33, 34, 35, 36, 37, 38, 39, 40, 41, 42, 43, 44, 45, 46, 47, 48, 49, 50, 51, 52] [] 0 rfl rfl nd_0_1_2_3_4_5_6_7_8_9_10_11_12_13_14_15_16_17_18_19_20_21_22_23_24_25_26_27_28_29_30_31_32_33_34_35_36_37_38_39_40_41_42_43_44_45_46_47_48_49_50_51_52 rfl rfl rfl (by decide) (by decide) (Nat.le_of_ble_eq_true rfl) rfl ((zput_par nd_0_1_2_3_4_5_6_7_8_9_10_11_12_13_14_15_16_17_18_19_20_21_22_23_24_25_26_27_28_29_30_31_32_33_34_35_36_37_38_39_40_41_42_43_44_45_46_47_48_49_50_51_52 rfl).trans rfl) ?_
  refine z_iconst C (-1) dL_orders_20 (by decide) ?_
  refine z_icmp_eq_t C 26 dL_orders_21 (by decide) rfl ?_
  refine z_iload_n C 2 dL_orders_26 rfl rfl ?_
  refine z_iconst C (nI 1) dL_orders_27 (by decide) ?_
  refine z_iand C dL_orders_28 ?_
  refine z_top (y := nI 1) (hg1) ?_
  refine z_istore C dL_orders_29 (Nat.le_of_ble_eq_true rfl) ?_
  refine z_lv (lv' := [some (.ref x0), some (.int (nI au)), some (.int g), some (.int h), some (.int (nI 1)), none, none, none, none, none, none]) rfl ?_
  refine z_aload_n C 0 dL_orders_31 rfl rfl ?_
  refine z_iconst C (nI 0) dL_orders_32 (by decide) ?_
  refine z_iload C dL_orders_33 rfl ?_
  refine z_callVr C kX5_size gL_orders_X5_size (l_size0 X.2.1 x0 h0 w0 t S 1 hG (by decide)) dL_orders_35 [0, 1, 2, 3, 4, 5, 6, 7, 8] [] 0 rfl nd_0_1_2_3_4_5_6_7_8 rfl rfl rfl (by decide) (by decide) (Nat.le_of_ble_eq_true rfl) rfl ?_
  refine z_istore C dL_orders_38 (Nat.le_of_ble_eq_true rfl) ?_
  refine z_lv (lv' := [some (.ref x0), some (.int (nI au)), some (.int g), some (.int h), some (.int (nI 1)), some (.int (nI (uU S 1))), none, none, none, none, none]) rfl ?_
  refine z_aload_n C 0 dL_orders_40 rfl rfl ?_
  refine z_iconst C (nI 0) dL_orders_41 (by decide) ?_
  refine z_callVr C kX5_count gL_orders_X5_count (l_cnt0 X.2.1 x0 h0 h1 w0 w1 t S o kp 0 ps1  hG ) dL_orders_42 [0, 1, 2, 3, 4, 5, 6, 7, 8, 9, 51] [] 0 rfl nd_0_1_2_3_4_5_6_7_8_9_51 rfl rfl rfl (by decide) (by decide) (Nat.le_of_ble_eq_true rfl) rfl ?_
  refine z_istore C dL_orders_45 (Nat.le_of_ble_eq_true rfl) ?_
  refine z_lv (lv' := [some (.ref x0), some (.int (nI au)), some (.int g), some (.int h), some (.int (nI 1)), some (.int (nI (uU S 1))), some (.int (nI (mK S))), none, none, none, none]) rfl ?_
  refine z_aload_n C 0 dL_orders_47 rfl rfl ?_
  refine z_iconst C (nI 5) dL_orders_48 (by decide) ?_
  refine z_callVr C kX5_count gL_orders_X5_count (l_cnt5n X.2.1 x0 h0 h1 w0 w1 t S o kp 0 ps1  hG ht) dL_orders_49 [0, 1, 2, 3, 4, 5, 6, 7, 8, 9, 51] [] 0 rfl nd_0_1_2_3_4_5_6_7_8_9_51 rfl rfl rfl (by decide) (by decide) (Nat.le_of_ble_eq_true rfl) rfl ?_
  refine z_iconst C (nI 1) dL_orders_52 (by decide) ?_
  refine z_ncmp_ne_t C 60 dL_orders_53 (by decide) (by omega) (by omega) (by omega) ?_
  refine z_iconst C (nI 0) dL_orders_60 (by decide) ?_
  refine z_istore C dL_orders_61 (Nat.le_of_ble_eq_true rfl) ?_
  refine z_lv (lv' := [some (.ref x0), some (.int (nI au)), some (.int g), some (.int h), some (.int (nI 1)), some (.int (nI (uU S 1))), some (.int (nI (mK S))), some (.int (nI 0)), none, none, none]) rfl ?_
  refine z_aload_n C 0 dL_orders_63 rfl rfl ?_
  refine z_iload_n C 2 dL_orders_64 rfl rfl ?_
  refine z_iconst C (nI 2) dL_orders_65 (by decide) ?_
  refine z_iand C dL_orders_66 ?_
  refine z_if_ne_t C 75 dL_orders_67 (by decide) hg2 ?_
  refine z_bipush C (nI 45) dL_orders_75 (by decide) ?_
  refine z_callV (wn := (WRd X.2.1 x0 h0 h1 w0 w1 t r S o kp Q (tyL tx [45]) 1 ps1)) C kX5_type gL_orders_X5_type (l_typ X.2.1 x0 (t 0) h0 w0 w1 tx [] ps1 45 0 rfl (by decide) htx (fun c hc9 => absurd hc9 List.not_mem_nil) (by omega)) dL_orders_77 [0, 51, 52] [] 0 rfl rfl nd_0_51_52 rfl rfl rfl (by decide) (by decide) (Nat.le_of_ble_eq_true rfl) rfl ((zput_par nd_0_51_52 rfl).trans rfl) ?_
  refine z_top (y := nI 1) rfl ?_
  refine z_istore C dL_orders_80 (Nat.le_of_ble_eq_true rfl) ?_
  refine z_lv (lv' := [some (.ref x0), some (.int (nI au)), some (.int g), some (.int h), some (.int (nI 1)), some (.int (nI (uU S 1))), some (.int (nI (mK S))), some (.int (nI 0)), some (.int (nI 1)), none, none]) rfl ?_
  refine z_aload_n C 0 dL_orders_82 rfl rfl ?_
  refine z_iload_n C 1 dL_orders_83 rfl rfl ?_
  refine z_callV (wn := (WRd X.2.1 x0 h0 h1 w0 w1 t r S o kp Q (tyL tx [45]) 1 ps2)) C kX5_run gL_orders_X5_run m3 dL_orders_84 [0, 1, 2, 3, 4, 5, 6, 7, 8, 9, 10, 11, 12, 13, 14, 15, 16, 17, 18, 19, 20, 21, 22, 23, 24, 25, 26, 27, 28, 29, 30, 31, 32, 33, 34, 35, 36, 37, 38, 39, 40, 41, 42, 43, 44, 45, 46, 47, 48, 49, 50, 51, 52] [] 0 rfl rfl nd_0_1_2_3_4_5_6_7_8_9_10_11_12_13_14_15_16_17_18_19_20_21_22_23_24_25_26_27_28_29_30_31_32_33_34_35_36_37_38_39_40_41_42_43_44_45_46_47_48_49_50_51_52 rfl rfl rfl (by decide) (by decide) (Nat.le_of_ble_eq_true rfl) rfl ((zput_par nd_0_1_2_3_4_5_6_7_8_9_10_11_12_13_14_15_16_17_18_19_20_21_22_23_24_25_26_27_28_29_30_31_32_33_34_35_36_37_38_39_40_41_42_43_44_45_46_47_48_49_50_51_52 rfl).trans rfl) ?_
  refine z_bipush C (-100) dL_orders_87 (by decide) ?_
  refine z_iload C dL_orders_89 rfl ?_
  refine z_isub C dL_orders_91 ?_
  refine z_top (y := (-101)) (by decide) ?_
  refine z_icmp_ne_f C 99 dL_orders_92 (by decide) rfl ?_
  refine z_iconst C (nI 1) dL_orders_95 (by decide) ?_
  refine z_goto C 100 dL_orders_96 (by decide) ?_
  refine z_istore C dL_orders_100 (Nat.le_of_ble_eq_true rfl) ?_
  refine z_lv (lv' := [some (.ref x0), some (.int (nI au)), some (.int g), some (.int h), some (.int (nI 1)), some (.int (nI (uU S 1))), some (.int (nI (mK S))), some (.int (nI 0)), some (.int (nI 1)), some (.int (nI 1)), none]) rfl ?_
  refine z_aload_n C 0 dL_orders_102 rfl rfl ?_
  refine z_iload C dL_orders_103 rfl ?_
  refine z_nif_ne_t C 113 dL_orders_105 (by decide) (by omega) (by omega) ?_
  refine z_bipush C (nI 99) dL_orders_113 (by decide) ?_
  refine z_callV (wn := (WRd X.2.1 x0 h0 h1 w0 w1 t r S o kp Q (tyL tx [99, 45]) 2 ps2)) C kX5_type gL_orders_X5_type (l_typ X.2.1 x0 (t 0) h0 w0 w1 tx [45] ps2 99 1 rfl (by decide) htx (by intro c hc9; simp at hc9; omega) (by omega)) dL_orders_115 [0, 51, 52] [] 0 rfl rfl nd_0_51_52 rfl rfl rfl (by decide) (by decide) (Nat.le_of_ble_eq_true rfl) rfl ((zput_par nd_0_51_52 rfl).trans rfl) ?_
  refine z_top (y := nI 2) rfl ?_
  refine z_pop C dL_orders_118 rfl ?_
  refine z_aload_n C 0 dL_orders_119 rfl rfl ?_
  refine z_bipush C (nI 48) dL_orders_120 (by decide) ?_
  refine z_callV (wn := (WRd X.2.1 x0 h0 h1 w0 w1 t r S o kp Q (tyL tx [48, 99, 45]) 3 ps2)) C kX5_type gL_orders_X5_type (l_typ X.2.1 x0 (t 0) h0 w0 w1 tx [99, 45] ps2 48 2 rfl (by decide) htx (by intro c hc9; simp at hc9; omega) (by omega)) dL_orders_122 [0, 51, 52] [] 0 rfl rfl nd_0_51_52 rfl rfl rfl (by decide) (by decide) (Nat.le_of_ble_eq_true rfl) rfl ((zput_par nd_0_51_52 rfl).trans rfl) ?_
  refine z_top (y := nI 3) rfl ?_
  refine z_pop C dL_orders_125 rfl ?_
  refine z_aload_n C 0 dL_orders_126 rfl rfl ?_
  refine z_bipush C (nI 48) dL_orders_127 (by decide) ?_
  refine z_iload_n C 3 dL_orders_129 rfl rfl ?_
  refine z_bipush C (nI 10) dL_orders_130 (by decide) ?_
  refine z_callS C kL_low gL_orders_L_low (l_low X.2.1 h 10 (by decide) (by decide)) dL_orders_132 [.int (nI 48), .ref x0] rfl (by decide) (by decide) (Nat.le_of_ble_eq_true rfl) rfl ?_
  refine z_top (y := nI dd) (congrArg nI hd) ?_
  refine z_iadd C dL_orders_135 ?_
  refine z_top (y := nI (48 + dd)) (nI_add _ _) ?_
  refine z_i2c C (nI (48 + dd)) dL_orders_136 (chr_n (by omega)) ?_
  refine z_callV (wn := (WRd X.2.1 x0 h0 h1 w0 w1 t r S o kp Q (tyL tx [48 + dd, 48, 99, 45]) 4 ps2)) C kX5_type gL_orders_X5_type (l_typ X.2.1 x0 (t 0) h0 w0 w1 tx [48, 99, 45] ps2 (48 + dd) 3 rfl (by decide) htx (by intro c hc9; simp at hc9; omega) (by omega)) dL_orders_137 [0, 51, 52] [] 0 rfl rfl nd_0_51_52 rfl rfl rfl (by decide) (by decide) (Nat.le_of_ble_eq_true rfl) rfl ((zput_par nd_0_51_52 rfl).trans rfl) ?_
  refine z_top (y := nI 4) rfl ?_
  refine z_istore C dL_orders_140 (Nat.le_of_ble_eq_true rfl) ?_
  refine z_lv (lv' := [some (.ref x0), some (.int (nI au)), some (.int g), some (.int h), some (.int (nI 1)), some (.int (nI (uU S 1))), some (.int (nI (mK S))), some (.int (nI 0)), some (.int (nI 4)), some (.int (nI 1)), none]) rfl ?_
  refine z_iload C dL_orders_142 rfl ?_
  refine z_nif_eq_f C 160 dL_orders_144 (by decide) (by omega) (by omega) ?_
  refine z_aload_n C 0 dL_orders_147 rfl rfl ?_
  refine z_iload_n C 1 dL_orders_148 rfl rfl ?_
  refine z_callV (wn := (WRd X.2.1 x0 h0 h1 w0 w1 t r S o kp Q (tyL tx [48 + dd, 48, 99, 45]) 4 ps3)) C kX5_run gL_orders_X5_run m4 dL_orders_149 [0, 1, 2, 3, 4, 5, 6, 7, 8, 9, 10, 11, 12, 13, 14, 15, 16, 17, 18, 19, 20, 21, 22, 23, 24, 25, 26, 27, 28, 29, 30, 31, 32, 33, 34, 35, 36, 37, 38, 39, 40, 41, 42, 43, 44, 45, 46, 47, 48, 49, 50, 51, 52] [] 0 rfl rfl nd_0_1_2_3_4_5_6_7_8_9_10_11_12_13_14_15_16_17_18_19_20_21_22_23_24_25_26_27_28_29_30_31_32_33_34_35_36_37_38_39_40_41_42_43_44_45_46_47_48_49_50_51_52 rfl rfl rfl (by decide) (by decide) (Nat.le_of_ble_eq_true rfl) rfl ((zput_par nd_0_1_2_3_4_5_6_7_8_9_10_11_12_13_14_15_16_17_18_19_20_21_22_23_24_25_26_27_28_29_30_31_32_33_34_35_36_37_38_39_40_41_42_43_44_45_46_47_48_49_50_51_52 rfl).trans rfl) ?_
  refine z_bipush C (-99) dL_orders_152 (by decide) ?_
  refine z_iload C dL_orders_154 rfl ?_
  refine z_isub C dL_orders_156 ?_
  refine z_top (y := (-103)) (by decide) ?_
  refine z_icmp_eq_t C 162 dL_orders_157 (by decide) rfl ?_
  refine z_aload_n C 0 dL_orders_162 rfl rfl ?_
  have htx2 : ∀ j, tyL tx [48 + dd, 48, 99, 45] j < 65536 := tyL_b htx (by intro c hc9; simp at hc9; omega)
  refine z_callV (wn := (WRd X.2.1 x0 h0 h1 w0 w1 t r S o kp Q (tyL (tyL tx [48 + dd, 48, 99, 45]) []) 0 ps3)) C kX5_clearText gL_orders_X5_clearText (l_clr X.2.1 x0 (t 0) h0 w0 w1 (tyL tx [48 + dd, 48, 99, 45]) 4 ps3 (by decide)) dL_orders_163 [0, 51, 52] [] 0 rfl rfl nd_0_51_52 rfl rfl rfl (by decide) (by decide) (Nat.le_of_ble_eq_true rfl) rfl ((zput_par nd_0_51_52 rfl).trans rfl) ?_
  refine z_pop C dL_orders_166 rfl ?_
  refine z_aload_n C 0 dL_orders_167 rfl rfl ?_
  refine z_bipush C (nI 43) dL_orders_168 (by decide) ?_
  refine z_callV (wn := (WRd X.2.1 x0 h0 h1 w0 w1 t r S o kp Q (tyL (tyL tx [48 + dd, 48, 99, 45]) [43]) 1 ps3)) C kX5_type gL_orders_X5_type (l_typ X.2.1 x0 (t 0) h0 w0 w1 (tyL tx [48 + dd, 48, 99, 45]) [] ps3 43 0 rfl (by decide) htx2 (fun c hc9 => absurd hc9 List.not_mem_nil) (by omega)) dL_orders_170 [0, 51, 52] [] 0 rfl rfl nd_0_51_52 rfl rfl rfl (by decide) (by decide) (Nat.le_of_ble_eq_true rfl) rfl ((zput_par nd_0_51_52 rfl).trans rfl) ?_
  refine z_top (y := nI 1) rfl ?_
  refine z_pop C dL_orders_173 rfl ?_
  refine z_aload_n C 0 dL_orders_174 rfl rfl ?_
  refine z_iload C dL_orders_175 rfl ?_
  refine z_nif_ne_t C 185 dL_orders_177 (by decide) (by omega) (by omega) ?_
  refine z_bipush C (nI 99) dL_orders_185 (by decide) ?_
  refine z_callV (wn := (WRd X.2.1 x0 h0 h1 w0 w1 t r S o kp Q (tyL (tyL tx [48 + dd, 48, 99, 45]) [99, 43]) 2 ps3)) C kX5_type gL_orders_X5_type (l_typ X.2.1 x0 (t 0) h0 w0 w1 (tyL tx [48 + dd, 48, 99, 45]) [43] ps3 99 1 rfl (by decide) htx2 (by intro c hc9; simp at hc9; omega) (by omega)) dL_orders_187 [0, 51, 52] [] 0 rfl rfl nd_0_51_52 rfl rfl rfl (by decide) (by decide) (Nat.le_of_ble_eq_true rfl) rfl ((zput_par nd_0_51_52 rfl).trans rfl) ?_
  refine z_top (y := nI 2) rfl ?_
  refine z_pop C dL_orders_190 rfl ?_
  refine z_aload_n C 0 dL_orders_191 rfl rfl ?_
  refine z_bipush C (nI 48) dL_orders_192 (by decide) ?_
  refine z_callV (wn := (WRd X.2.1 x0 h0 h1 w0 w1 t r S o kp Q (tyL (tyL tx [48 + dd, 48, 99, 45]) [48, 99, 43]) 3 ps3)) C kX5_type gL_orders_X5_type (l_typ X.2.1 x0 (t 0) h0 w0 w1 (tyL tx [48 + dd, 48, 99, 45]) [99, 43] ps3 48 2 rfl (by decide) htx2 (by intro c hc9; simp at hc9; omega) (by omega)) dL_orders_194 [0, 51, 52] [] 0 rfl rfl nd_0_51_52 rfl rfl rfl (by decide) (by decide) (Nat.le_of_ble_eq_true rfl) rfl ((zput_par nd_0_51_52 rfl).trans rfl) ?_
  refine z_top (y := nI 3) rfl ?_
  refine z_pop C dL_orders_197 rfl ?_
  refine z_aload_n C 0 dL_orders_198 rfl rfl ?_
  refine z_bipush C (nI 32) dL_orders_199 (by decide) ?_
  refine z_callV (wn := (WRd X.2.1 x0 h0 h1 w0 w1 t r S o kp Q (tyL (tyL tx [48 + dd, 48, 99, 45]) [32, 48, 99, 43]) 4 ps3)) C kX5_type gL_orders_X5_type (l_typ X.2.1 x0 (t 0) h0 w0 w1 (tyL tx [48 + dd, 48, 99, 45]) [48, 99, 43] ps3 32 3 rfl (by decide) htx2 (by intro c hc9; simp at hc9; omega) (by omega)) dL_orders_201 [0, 51, 52] [] 0 rfl rfl nd_0_51_52 rfl rfl rfl (by decide) (by decide) (Nat.le_of_ble_eq_true rfl) rfl ((zput_par nd_0_51_52 rfl).trans rfl) ?_
  refine z_top (y := nI 4) rfl ?_
  refine z_pop C dL_orders_204 rfl ?_
  refine z_aload_n C 0 dL_orders_205 rfl rfl ?_
  refine z_bipush C (nI 43) dL_orders_206 (by decide) ?_
  refine z_callV (wn := (WRd X.2.1 x0 h0 h1 w0 w1 t r S o kp Q (tyL (tyL tx [48 + dd, 48, 99, 45]) [43, 32, 48, 99, 43]) 5 ps3)) C kX5_type gL_orders_X5_type (l_typ X.2.1 x0 (t 0) h0 w0 w1 (tyL tx [48 + dd, 48, 99, 45]) [32, 48, 99, 43] ps3 43 4 rfl (by decide) htx2 (by intro c hc9; simp at hc9; omega) (by omega)) dL_orders_208 [0, 51, 52] [] 0 rfl rfl nd_0_51_52 rfl rfl rfl (by decide) (by decide) (Nat.le_of_ble_eq_true rfl) rfl ((zput_par nd_0_51_52 rfl).trans rfl) ?_
  refine z_top (y := nI 5) rfl ?_
  refine z_pop C dL_orders_211 rfl ?_
  refine z_aload_n C 0 dL_orders_212 rfl rfl ?_
  refine z_iload C dL_orders_213 rfl ?_
  refine z_nif_ne_t C 223 dL_orders_215 (by decide) (by omega) (by omega) ?_
  refine z_bipush C (nI 99) dL_orders_223 (by decide) ?_
  refine z_callV (wn := (WRd X.2.1 x0 h0 h1 w0 w1 t r S o kp Q (tyL (tyL tx [48 + dd, 48, 99, 45]) [99, 43, 32, 48, 99, 43]) 6 ps3)) C kX5_type gL_orders_X5_type (l_typ X.2.1 x0 (t 0) h0 w0 w1 (tyL tx [48 + dd, 48, 99, 45]) [43, 32, 48, 99, 43] ps3 99 5 rfl (by decide) htx2 (by intro c hc9; simp at hc9; omega) (by omega)) dL_orders_225 [0, 51, 52] [] 0 rfl rfl nd_0_51_52 rfl rfl rfl (by decide) (by decide) (Nat.le_of_ble_eq_true rfl) rfl ((zput_par nd_0_51_52 rfl).trans rfl) ?_
  refine z_top (y := nI 6) rfl ?_
  refine z_pop C dL_orders_228 rfl ?_
  refine z_aload_n C 0 dL_orders_229 rfl rfl ?_
  refine z_bipush C (nI 57) dL_orders_230 (by decide) ?_
  refine z_callV (wn := (WRd X.2.1 x0 h0 h1 w0 w1 t r S o kp Q (tyL (tyL tx [48 + dd, 48, 99, 45]) [57, 99, 43, 32, 48, 99, 43]) 7 ps3)) C kX5_type gL_orders_X5_type (l_typ X.2.1 x0 (t 0) h0 w0 w1 (tyL tx [48 + dd, 48, 99, 45]) [99, 43, 32, 48, 99, 43] ps3 57 6 rfl (by decide) htx2 (by intro c hc9; simp at hc9; omega) (by omega)) dL_orders_232 [0, 51, 52] [] 0 rfl rfl nd_0_51_52 rfl rfl rfl (by decide) (by decide) (Nat.le_of_ble_eq_true rfl) rfl ((zput_par nd_0_51_52 rfl).trans rfl) ?_
  refine z_top (y := nI 7) rfl ?_
  refine z_pop C dL_orders_235 rfl ?_
  refine z_aload_n C 0 dL_orders_236 rfl rfl ?_
  refine z_bipush C (nI 57) dL_orders_237 (by decide) ?_
  refine z_callV (wn := (WRd X.2.1 x0 h0 h1 w0 w1 t r S o kp Q (tyL (tyL tx [48 + dd, 48, 99, 45]) [57, 57, 99, 43, 32, 48, 99, 43]) 8 ps3)) C kX5_type gL_orders_X5_type (l_typ X.2.1 x0 (t 0) h0 w0 w1 (tyL tx [48 + dd, 48, 99, 45]) [57, 99, 43, 32, 48, 99, 43] ps3 57 7 rfl (by decide) htx2 (by intro c hc9; simp at hc9; omega) (by omega)) dL_orders_239 [0, 51, 52] [] 0 rfl rfl nd_0_51_52 rfl rfl rfl (by decide) (by decide) (Nat.le_of_ble_eq_true rfl) rfl ((zput_par nd_0_51_52 rfl).trans rfl) ?_
  refine z_top (y := nI 8) rfl ?_
  refine z_istore C dL_orders_242 (Nat.le_of_ble_eq_true rfl) ?_
  refine z_lv (lv' := [some (.ref x0), some (.int (nI au)), some (.int g), some (.int h), some (.int (nI 1)), some (.int (nI (uU S 1))), some (.int (nI (mK S))), some (.int (nI 0)), some (.int (nI 8)), some (.int (nI 1)), none]) rfl ?_
  refine z_iload C dL_orders_244 rfl ?_
  refine z_iload C dL_orders_246 rfl ?_
  refine z_nif_ne_t C 256 dL_orders_248 (by decide) (by omega) (by omega) ?_
  refine z_bipush C (nI 8) dL_orders_256 (by decide) ?_
  refine z_ncmp_eq_f C 273 dL_orders_258 (by decide) (by omega) (by omega) (by omega) ?_
  refine z_iload C dL_orders_261 rfl ?_
  refine z_nif_eq_t C 277 dL_orders_263 (by decide) (by omega) (by omega) ?_
  refine z_iconst C (nI 1) dL_orders_277 (by decide) ?_
  refine z_istore C dL_orders_278 (Nat.le_of_ble_eq_true rfl) ?_
  refine z_lv (lv' := [some (.ref x0), some (.int (nI au)), some (.int g), some (.int h), some (.int (nI 1)), some (.int (nI (uU S 1))), some (.int (nI (mK S))), some (.int (nI 0)), some (.int (nI 8)), some (.int (nI 1)), some (.int (nI 1))]) rfl ?_
  refine z_aload_n C 0 dL_orders_280 rfl rfl ?_
  refine z_iload_n C 1 dL_orders_281 rfl rfl ?_
  refine z_callV (wn := (WRd X.2.1 x0 h0 h1 w0 w1 t r S1 o1 kp1 Q1 (tyL (tyL tx [48 + dd, 48, 99, 45]) [57, 57, 99, 43, 32, 48, 99, 43]) 8 ps4)) C kX5_run gL_orders_X5_run m5 dL_orders_282 [0, 1, 2, 3, 4, 5, 6, 7, 8, 9, 10, 11, 12, 13, 14, 15, 16, 17, 18, 19, 20, 21, 22, 23, 24, 25, 26, 27, 28, 29, 30, 31, 32, 33, 34, 35, 36, 37, 38, 39, 40, 41, 42, 43, 44, 45, 46, 47, 48, 49, 50, 51, 52] [] 0 rfl rfl nd_0_1_2_3_4_5_6_7_8_9_10_11_12_13_14_15_16_17_18_19_20_21_22_23_24_25_26_27_28_29_30_31_32_33_34_35_36_37_38_39_40_41_42_43_44_45_46_47_48_49_50_51_52 rfl rfl rfl (by decide) (by decide) (Nat.le_of_ble_eq_true rfl) rfl ((zput_par nd_0_1_2_3_4_5_6_7_8_9_10_11_12_13_14_15_16_17_18_19_20_21_22_23_24_25_26_27_28_29_30_31_32_33_34_35_36_37_38_39_40_41_42_43_44_45_46_47_48_49_50_51_52 rfl).trans rfl) ?_
  refine z_iload C dL_orders_285 rfl ?_
  refine z_ncmp_ne_f C 305 dL_orders_287 (by decide) (by omega) (by omega) (by omega) ?_
  refine z_aload_n C 0 dL_orders_290 rfl rfl ?_
  refine z_iconst C (nI 0) dL_orders_291 (by decide) ?_
  refine z_iload C dL_orders_292 rfl ?_
  refine z_callVr C kX5_size gL_orders_X5_size (l_size0 X.2.1 x0 h0 w0 t S1 1 hG1 (by decide)) dL_orders_294 [0, 1, 2, 3, 4, 5, 6, 7, 8] [] 0 rfl nd_0_1_2_3_4_5_6_7_8 rfl rfl rfl (by decide) (by decide) (Nat.le_of_ble_eq_true rfl) rfl ?_
  refine z_iload C dL_orders_297 rfl ?_
  refine z_iload C dL_orders_299 rfl ?_
  refine z_iadd C dL_orders_301 ?_
  refine z_top (y := nI ((uU S 1) + 1)) (nI_add _ _) ?_
  refine z_ncmp_eq_t C 307 dL_orders_302 (by decide) (by omega) (by omega) (by omega) ?_
  refine z_aload_n C 0 dL_orders_307 rfl rfl ?_
  refine z_bipush C (nI 57) dL_orders_308 (by decide) ?_
  refine z_callV (wn := (WRd X.2.1 x0 h0 h1 w0 w1 t r S1 o1 kp1 Q1 (tyL (tyL tx [48 + dd, 48, 99, 45]) [57, 57, 57, 99, 43, 32, 48, 99, 43]) 9 ps4)) C kX5_type gL_orders_X5_type (l_typ X.2.1 x0 (t 0) h0 w0 w1 (tyL tx [48 + dd, 48, 99, 45]) [57, 57, 99, 43, 32, 48, 99, 43] ps4 57 8 rfl (by decide) htx2 (by intro c hc9; simp at hc9; omega) (by omega)) dL_orders_310 [0, 51, 52] [] 0 rfl rfl nd_0_51_52 rfl rfl rfl (by decide) (by decide) (Nat.le_of_ble_eq_true rfl) rfl ((zput_par nd_0_51_52 rfl).trans rfl) ?_
  refine z_top (y := nI 9) rfl ?_
  refine z_pop C dL_orders_313 rfl ?_
  refine z_aload_n C 0 dL_orders_314 rfl rfl ?_
  refine z_iload_n C 1 dL_orders_315 rfl rfl ?_
  refine z_callV (wn := (WRd X.2.1 x0 h0 h1 w0 w1 t r S1 o1 kp1 Q1 (tyL (tyL tx [48 + dd, 48, 99, 45]) [57, 57, 57, 99, 43, 32, 48, 99, 43]) 9 ps5)) C kX5_run gL_orders_X5_run m6 dL_orders_316 [0, 1, 2, 3, 4, 5, 6, 7, 8, 9, 10, 11, 12, 13, 14, 15, 16, 17, 18, 19, 20, 21, 22, 23, 24, 25, 26, 27, 28, 29, 30, 31, 32, 33, 34, 35, 36, 37, 38, 39, 40, 41, 42, 43, 44, 45, 46, 47, 48, 49, 50, 51, 52] [] 0 rfl rfl nd_0_1_2_3_4_5_6_7_8_9_10_11_12_13_14_15_16_17_18_19_20_21_22_23_24_25_26_27_28_29_30_31_32_33_34_35_36_37_38_39_40_41_42_43_44_45_46_47_48_49_50_51_52 rfl rfl rfl (by decide) (by decide) (Nat.le_of_ble_eq_true rfl) rfl ((zput_par nd_0_1_2_3_4_5_6_7_8_9_10_11_12_13_14_15_16_17_18_19_20_21_22_23_24_25_26_27_28_29_30_31_32_33_34_35_36_37_38_39_40_41_42_43_44_45_46_47_48_49_50_51_52 rfl).trans rfl) ?_
  refine z_bipush C (-100) dL_orders_319 (by decide) ?_
  refine z_iload C dL_orders_321 rfl ?_
  refine z_isub C dL_orders_323 ?_
  refine z_top (y := (-108)) (by decide) ?_
  refine z_icmp_ne_f C 360 dL_orders_324 (by decide) rfl ?_
  refine z_aload_n C 0 dL_orders_327 rfl rfl ?_
  refine z_callV (wn := (WRd X.2.1 x0 h0 h1 w0 w1 t r S o2 kp2 Q1 (tyL (tyL tx [48 + dd, 48, 99, 45]) [57, 57, 57, 99, 43, 32, 48, 99, 43]) 9 ps5)) C kX5_undo gL_orders_X5_undo m7 dL_orders_328 [0, 1, 2, 3, 4, 5, 6, 7, 8, 9, 10, 11, 12, 13, 14, 15, 16, 17, 18, 19, 20, 21, 22, 23, 24, 25, 26, 27, 28, 29, 30, 31, 32, 33, 34, 35, 36, 37, 38, 39, 40, 41, 42, 43, 44, 45, 46, 47, 48, 49, 50] [] 0 rfl rfl nd_0_1_2_3_4_5_6_7_8_9_10_11_12_13_14_15_16_17_18_19_20_21_22_23_24_25_26_27_28_29_30_31_32_33_34_35_36_37_38_39_40_41_42_43_44_45_46_47_48_49_50 rfl rfl rfl (by decide) (by decide) (Nat.le_of_ble_eq_true rfl) rfl ((zput_par nd_0_1_2_3_4_5_6_7_8_9_10_11_12_13_14_15_16_17_18_19_20_21_22_23_24_25_26_27_28_29_30_31_32_33_34_35_36_37_38_39_40_41_42_43_44_45_46_47_48_49_50 rfl).trans rfl) ?_
  refine z_nif_lt_f C 360 dL_orders_331 (by decide) (by omega) (by trivial) ?_
  refine z_aload_n C 0 dL_orders_334 rfl rfl ?_
  refine z_iconst C (nI 0) dL_orders_335 (by decide) ?_
  refine z_iload C dL_orders_336 rfl ?_
  refine z_callVr C kX5_size gL_orders_X5_size (l_size0 X.2.1 x0 h0 w0 t S 1 hG (by decide)) dL_orders_338 [0, 1, 2, 3, 4, 5, 6, 7, 8] [] 0 rfl nd_0_1_2_3_4_5_6_7_8 rfl rfl rfl (by decide) (by decide) (Nat.le_of_ble_eq_true rfl) rfl ?_
  refine z_iload C dL_orders_341 rfl ?_
  refine z_ncmp_ne_f C 360 dL_orders_343 (by decide) (by omega) (by omega) (by omega) ?_
  refine z_aload_n C 0 dL_orders_346 rfl rfl ?_
  refine z_iconst C (nI 0) dL_orders_347 (by decide) ?_
  refine z_callVr C kX5_count gL_orders_X5_count (l_cnt0 X.2.1 x0 h0 h1 w0 w1 t S o2 kp2 9 ps5  hG ) dL_orders_348 [0, 1, 2, 3, 4, 5, 6, 7, 8, 9, 51] [] 0 rfl nd_0_1_2_3_4_5_6_7_8_9_51 rfl rfl rfl (by decide) (by decide) (Nat.le_of_ble_eq_true rfl) rfl ?_
  refine z_iload C dL_orders_351 rfl ?_
  refine z_ncmp_ne_f C 360 dL_orders_353 (by decide) (by omega) (by omega) (by omega) ?_
  refine z_iconst C (nI 1) dL_orders_356 (by decide) ?_
  refine z_goto C 361 dL_orders_357 (by decide) ?_
  exact z_zret C N dL_orders_361 rfl (rfl) (rfl)

set_option maxHeartbeats 4000000 in
set_option maxRecDepth 100000 in
theorem w_ord11t (E : zE) (x0 h0 h1 w0 w1 : Nat) (t : Nat → Nat) (r : Nat → Nat → Nat) (S S1 : zSt) (o kp o1 o2 kp1 kp2 : Nat) (Q Q1 : Nat → zSt) (tx : Nat → Nat) (ln : Nat) (ps ps1 ps2 ps3 ps4 ps5 : zPs) {B B1 : Nat} (au : Nat) (g h : Int32) (dd lf : Nat) (hG : GG S B) (hG1 : GG S1 B1) (hau : au < 4) (hg1 : g &&& (nI 1) = nI 1) (hg2 : ¬ g &&& (nI 2) = 0) (hd : lw h 10 = dd) (hdd : dd < 10) (hln : ln ≤ 60) (htx : ∀ j, tx j < 65536) (hlf : lf < 100) (hu : uU S1 1 = uU S 1 + 1) (hf : uU S 1 < 8) (ht : tK S = true) (hm : mK S < 60) (m1 : zM E yX5_run wsX5_run 8 [.ref x0, .int (nI au)] (WRd E x0 h0 h1 w0 w1 t r S o kp Q (tyL tx []) 0 ps) (WRd E x0 h0 h1 w0 w1 t r S o kp Q (tyL tx []) 0 ps1) (some (.int (-100)))) (m2 : zM E yX5_run wsX5_run 8 [.ref x0, .int (nI 4)] (WRd E x0 h0 h1 w0 w1 t r S o kp Q (tyL tx []) 0 ps1) (WRd E x0 h0 h1 w0 w1 t r S o kp Q (tyL tx []) 0 ps1) (some (.int (-1)))) (m3 : zM E yX5_run wsX5_run 8 [.ref x0, .int (nI au)] (WRd E x0 h0 h1 w0 w1 t r S o kp Q (tyL tx [45]) 1 ps1) (WRd E x0 h0 h1 w0 w1 t r S o kp Q (tyL tx [45]) 1 ps2) (some (.int (-101)))) (m4 : zM E yX5_run wsX5_run 8 [.ref x0, .int (nI au)] (WRd E x0 h0 h1 w0 w1 t r S o kp Q (tyL tx [48 + dd, 48, 99, 45]) 4 ps2) (WRd E x0 h0 h1 w0 w1 t r S o kp Q (tyL tx [48 + dd, 48, 99, 45]) 4 ps3) (some (.int (-103)))) (m5 : zM E yX5_run wsX5_run 8 [.ref x0, .int (nI au)] (WRd E x0 h0 h1 w0 w1 t r S o kp Q (tyL (tyL tx [48 + dd, 48, 99, 45]) [57, 57, 99, 43, 32, 48, 99, 43]) 8 ps3) (WRd E x0 h0 h1 w0 w1 t r S1 o1 kp1 Q1 (tyL (tyL tx [48 + dd, 48, 99, 45]) [57, 57, 99, 43, 32, 48, 99, 43]) 8 ps4) (some (.int (nI 1)))) (m6 : zM E yX5_run wsX5_run 8 [.ref x0, .int (nI au)] (WRd E x0 h0 h1 w0 w1 t r S1 o1 kp1 Q1 (tyL (tyL tx [48 + dd, 48, 99, 45]) [57, 57, 57, 99, 43, 32, 48, 99, 43]) 9 ps4) (WRd E x0 h0 h1 w0 w1 t r S1 o1 kp1 Q1 (tyL (tyL tx [48 + dd, 48, 99, 45]) [57, 57, 57, 99, 43, 32, 48, 99, 43]) 9 ps5) (some (.int (-108)))) (m7 : zM E yX5_undo wsX5_undo 5 [.ref x0] (WAd E x0 h0 h1 w0 t r S1 o1 kp1 Q1) (WAd E x0 h0 h1 w0 t r S o2 kp2 Q1) (some (.int (nI lf)))) : zM E yL_orders wsL_orders 9 [.ref x0, .int (nI au), .int g, .int h] (WRd E x0 h0 h1 w0 w1 t r S o kp Q tx ln ps) (WRd E x0 h0 h1 w0 w1 t r S o2 kp2 Q1 (tyL (tyL tx [48 + dd, 48, 99, 45]) [57, 57, 57, 99, 43, 32, 48, 99, 43]) 9 ps5) (some (.int (nI 1))) := by
  refine zM.of kL_orders (Nat.le_of_ble_eq_true rfl) rfl [some (.ref x0), some (.int (nI au)), some (.int g), some (.int h), none, none, none, none, none, none, none] rfl (Nat.le_of_ble_eq_true rfl) ?_
  intro X eX C N
  subst eX
  have hb0 : uU S 0 ≤ 12 := gg_u hG 0
  have hb1 : uU S 1 ≤ 8 := gg_u1 hG
  have hb2 : mK S ≤ 60 := gg_M hG
  have hb3 : uU S1 0 ≤ 12 := gg_u hG1 0
  have hb4 : uU S1 1 ≤ 8 := gg_u1 hG1
  have hb5 : mK S1 ≤ 60 := gg_M hG1
  refine z_aload_n C 0 dL_orders_0 rfl rfl ?_
  refine z_callV (wn := (WRd X.2.1 x0 h0 h1 w0 w1 t r S o kp Q (tyL tx []) 0 ps)) C kX5_clearText gL_orders_X5_clearText (l_clr X.2.1 x0 (t 0) h0 w0 w1 tx ln ps hln) dL_orders_1 [0, 51, 52] [] 0 rfl rfl nd_0_51_52 rfl rfl rfl (by decide) (by decide) (Nat.le_of_ble_eq_true rfl) rfl ((zput_par nd_0_51_52 rfl).trans rfl) ?_
  refine z_pop C dL_orders_4 rfl ?_
  refine z_aload_n C 0 dL_orders_5 rfl rfl ?_
  refine z_iload_n C 1 dL_orders_6 rfl rfl ?_
  refine z_callV (wn := (WRd X.2.1 x0 h0 h1 w0 w1 t r S o kp Q (tyL tx []) 0 ps1)) C kX5_run gL_orders_X5_run m1 dL_orders_7 [0, 1, 2, 3, 4, 5, 6, 7, 8, 9, 10, 11, 12, 13, 14, 15, 16, 17, 18, 19, 20, 21, 22, 23, 24, 25, 26, 27, 28, 29, 30, 31, 32, 33, 34, 35, 36, 37, 38, 39, 40, 41, 42, 43, 44, 45, 46, 47, 48, 49, 50, 51, 52] [] 0 rfl rfl nd_0_1_2_3_4_5_6_7_8_9_10_11_12_13_14_15_16_17_18_19_20_21_22_23_24_25_26_27_28_29_30_31_32_33_34_35_36_37_38_39_40_41_42_43_44_45_46_47_48_49_50_51_52 rfl rfl rfl (by decide) (by decide) (Nat.le_of_ble_eq_true rfl) rfl ((zput_par nd_0_1_2_3_4_5_6_7_8_9_10_11_12_13_14_15_16_17_18_19_20_21_22_23_24_25_26_27_28_29_30_31_32_33_34_35_36_37_38_39_40_41_42_43_44_45_46_47_48_49_50_51_52 rfl).trans rfl) ?_
  refine z_bipush C (-100) dL_orders_10 (by decide) ?_
  refine z_icmp_ne_f C 24 dL_orders_12 (by decide) rfl ?_
  refine z_aload_n C 0 dL_orders_15 rfl rfl ?_
  refine z_iconst C (nI 4) dL_orders_16 (by decide) ?_
  refine z_callV (wn := (WRd X.2.1 x0 h0 h1 w0 w1 t r S o kp Q (tyL tx []) 0 ps1)) C kX5_run gL_orders_X5_run m2 dL_orders_17 [0, 1, 2, 3, 4, 5, 6, 7, 8, 9, 10, 11, 12, 13, 14, 15, 16, 17, 18, 19, 20, 21, 22, 23, 24, 25, 26, 27, 28, 29, 30, 31, 32, 33, 34, 35, 36, 37, 38, 39, 40, 41, 42, 43, 44, 45, 46, 47, 48, 49, 50, 51, 52] [] 0 rfl rfl nd_0_1_2_3_4_5_6_7_8_9_10_11_12_13_14_15_16_17_18_19_20_21_22_23_24_25_26_27_28_29_30_31_32_33_34_35_36_37_38_39_40_41_42_43_44_45_46_47_48_49_50_51_52 rfl rfl rfl (by decide) (by decide) (Nat.le_of_ble_eq_true rfl) rfl ((zput_par nd_0_1_2_3_4_5_6_7_8_9_10_11_12_13_14_15_16_17_18_19_20_21_22_23_24_25_26_27_28_29_30_31_32_33_34_35_36_37_38_39_40_41_42_43_44_45_46_47_48_49_50_51_52 rfl).trans rfl) ?_
  refine z_iconst C (-1) dL_orders_20 (by decide) ?_
  refine z_icmp_eq_t C 26 dL_orders_21 (by decide) rfl ?_
  refine z_iload_n C 2 dL_orders_26 rfl rfl ?_
  refine z_iconst C (nI 1) dL_orders_27 (by decide) ?_
  refine z_iand C dL_orders_28 ?_
  refine z_top (y := nI 1) (hg1) ?_
  refine z_istore C dL_orders_29 (Nat.le_of_ble_eq_true rfl) ?_
  refine z_lv (lv' := [some (.ref x0), some (.int (nI au)), some (.int g), some (.int h), some (.int (nI 1)), none, none, none, none, none, none]) rfl ?_
  refine z_aload_n C 0 dL_orders_31 rfl rfl ?_
  refine z_iconst C (nI 0) dL_orders_32 (by decide) ?_
  refine z_iload C dL_orders_33 rfl ?_
  refine z_callVr C kX5_size gL_orders_X5_size (l_size0 X.2.1 x0 h0 w0 t S 1 hG (by decide)) dL_orders_35 [0, 1, 2, 3, 4, 5, 6, 7, 8] [] 0 rfl nd_0_1_2_3_4_5_6_7_8 rfl rfl rfl (by decide) (by decide) (Nat.le_of_ble_eq_true rfl) rfl ?_
  refine z_istore C dL_orders_38 (Nat.le_of_ble_eq_true rfl) ?_
  refine z_lv (lv' := [some (.ref x0), some (.int (nI au)), some (.int g), some (.int h), some (.int (nI 1)), some (.int (nI (uU S 1))), none, none, none, none, none]) rfl ?_
  refine z_aload_n C 0 dL_orders_40 rfl rfl ?_
  refine z_iconst C (nI 0) dL_orders_41 (by decide) ?_
  refine z_callVr C kX5_count gL_orders_X5_count (l_cnt0 X.2.1 x0 h0 h1 w0 w1 t S o kp 0 ps1  hG ) dL_orders_42 [0, 1, 2, 3, 4, 5, 6, 7, 8, 9, 51] [] 0 rfl nd_0_1_2_3_4_5_6_7_8_9_51 rfl rfl rfl (by decide) (by decide) (Nat.le_of_ble_eq_true rfl) rfl ?_
  refine z_istore C dL_orders_45 (Nat.le_of_ble_eq_true rfl) ?_
  refine z_lv (lv' := [some (.ref x0), some (.int (nI au)), some (.int g), some (.int h), some (.int (nI 1)), some (.int (nI (uU S 1))), some (.int (nI (mK S))), none, none, none, none]) rfl ?_
  refine z_aload_n C 0 dL_orders_47 rfl rfl ?_
  refine z_iconst C (nI 5) dL_orders_48 (by decide) ?_
  refine z_callVr C kX5_count gL_orders_X5_count (l_cnt5y X.2.1 x0 h0 h1 w0 w1 t S o kp 0 ps1  hG ht) dL_orders_49 [0, 1, 2, 3, 4, 5, 6, 7, 8, 9, 51] [] 0 rfl nd_0_1_2_3_4_5_6_7_8_9_51 rfl rfl rfl (by decide) (by decide) (Nat.le_of_ble_eq_true rfl) rfl ?_
  refine z_iconst C (nI 1) dL_orders_52 (by decide) ?_
  refine z_ncmp_ne_f C 60 dL_orders_53 (by decide) (by omega) (by omega) (by omega) ?_
  refine z_iconst C (nI 1) dL_orders_56 (by decide) ?_
  refine z_goto C 61 dL_orders_57 (by decide) ?_
  refine z_istore C dL_orders_61 (Nat.le_of_ble_eq_true rfl) ?_
  refine z_lv (lv' := [some (.ref x0), some (.int (nI au)), some (.int g), some (.int h), some (.int (nI 1)), some (.int (nI (uU S 1))), some (.int (nI (mK S))), some (.int (nI 1)), none, none, none]) rfl ?_
  refine z_aload_n C 0 dL_orders_63 rfl rfl ?_
  refine z_iload_n C 2 dL_orders_64 rfl rfl ?_
  refine z_iconst C (nI 2) dL_orders_65 (by decide) ?_
  refine z_iand C dL_orders_66 ?_
  refine z_if_ne_t C 75 dL_orders_67 (by decide) hg2 ?_
  refine z_bipush C (nI 45) dL_orders_75 (by decide) ?_
  refine z_callV (wn := (WRd X.2.1 x0 h0 h1 w0 w1 t r S o kp Q (tyL tx [45]) 1 ps1)) C kX5_type gL_orders_X5_type (l_typ X.2.1 x0 (t 0) h0 w0 w1 tx [] ps1 45 0 rfl (by decide) htx (fun c hc9 => absurd hc9 List.not_mem_nil) (by omega)) dL_orders_77 [0, 51, 52] [] 0 rfl rfl nd_0_51_52 rfl rfl rfl (by decide) (by decide) (Nat.le_of_ble_eq_true rfl) rfl ((zput_par nd_0_51_52 rfl).trans rfl) ?_
  refine z_top (y := nI 1) rfl ?_
  refine z_istore C dL_orders_80 (Nat.le_of_ble_eq_true rfl) ?_
  refine z_lv (lv' := [some (.ref x0), some (.int (nI au)), some (.int g), some (.int h), some (.int (nI 1)), some (.int (nI (uU S 1))), some (.int (nI (mK S))), some (.int (nI 1)), some (.int (nI 1)), none, none]) rfl ?_
  refine z_aload_n C 0 dL_orders_82 rfl rfl ?_
  refine z_iload_n C 1 dL_orders_83 rfl rfl ?_
  refine z_callV (wn := (WRd X.2.1 x0 h0 h1 w0 w1 t r S o kp Q (tyL tx [45]) 1 ps2)) C kX5_run gL_orders_X5_run m3 dL_orders_84 [0, 1, 2, 3, 4, 5, 6, 7, 8, 9, 10, 11, 12, 13, 14, 15, 16, 17, 18, 19, 20, 21, 22, 23, 24, 25, 26, 27, 28, 29, 30, 31, 32, 33, 34, 35, 36, 37, 38, 39, 40, 41, 42, 43, 44, 45, 46, 47, 48, 49, 50, 51, 52] [] 0 rfl rfl nd_0_1_2_3_4_5_6_7_8_9_10_11_12_13_14_15_16_17_18_19_20_21_22_23_24_25_26_27_28_29_30_31_32_33_34_35_36_37_38_39_40_41_42_43_44_45_46_47_48_49_50_51_52 rfl rfl rfl (by decide) (by decide) (Nat.le_of_ble_eq_true rfl) rfl ((zput_par nd_0_1_2_3_4_5_6_7_8_9_10_11_12_13_14_15_16_17_18_19_20_21_22_23_24_25_26_27_28_29_30_31_32_33_34_35_36_37_38_39_40_41_42_43_44_45_46_47_48_49_50_51_52 rfl).trans rfl) ?_
  refine z_bipush C (-100) dL_orders_87 (by decide) ?_
  refine z_iload C dL_orders_89 rfl ?_
  refine z_isub C dL_orders_91 ?_
  refine z_top (y := (-101)) (by decide) ?_
  refine z_icmp_ne_f C 99 dL_orders_92 (by decide) rfl ?_
  refine z_iconst C (nI 1) dL_orders_95 (by decide) ?_
  refine z_goto C 100 dL_orders_96 (by decide) ?_
  refine z_istore C dL_orders_100 (Nat.le_of_ble_eq_true rfl) ?_
  refine z_lv (lv' := [some (.ref x0), some (.int (nI au)), some (.int g), some (.int h), some (.int (nI 1)), some (.int (nI (uU S 1))), some (.int (nI (mK S))), some (.int (nI 1)), some (.int (nI 1)), some (.int (nI 1)), none]) rfl ?_
  refine z_aload_n C 0 dL_orders_102 rfl rfl ?_
  refine z_iload C dL_orders_103 rfl ?_
  refine z_nif_ne_t C 113 dL_orders_105 (by decide) (by omega) (by omega) ?_
  refine z_bipush C (nI 99) dL_orders_113 (by decide) ?_
  refine z_callV (wn := (WRd X.2.1 x0 h0 h1 w0 w1 t r S o kp Q (tyL tx [99, 45]) 2 ps2)) C kX5_type gL_orders_X5_type (l_typ X.2.1 x0 (t 0) h0 w0 w1 tx [45] ps2 99 1 rfl (by decide) htx (by intro c hc9; simp at hc9; omega) (by omega)) dL_orders_115 [0, 51, 52] [] 0 rfl rfl nd_0_51_52 rfl rfl rfl (by decide) (by decide) (Nat.le_of_ble_eq_true rfl) rfl ((zput_par nd_0_51_52 rfl).trans rfl) ?_
  refine z_top (y := nI 2) rfl ?_
  refine z_pop C dL_orders_118 rfl ?_
  refine z_aload_n C 0 dL_orders_119 rfl rfl ?_
  refine z_bipush C (nI 48) dL_orders_120 (by decide) ?_
  refine z_callV (wn := (WRd X.2.1 x0 h0 h1 w0 w1 t r S o kp Q (tyL tx [48, 99, 45]) 3 ps2)) C kX5_type gL_orders_X5_type (l_typ X.2.1 x0 (t 0) h0 w0 w1 tx [99, 45] ps2 48 2 rfl (by decide) htx (by intro c hc9; simp at hc9; omega) (by omega)) dL_orders_122 [0, 51, 52] [] 0 rfl rfl nd_0_51_52 rfl rfl rfl (by decide) (by decide) (Nat.le_of_ble_eq_true rfl) rfl ((zput_par nd_0_51_52 rfl).trans rfl) ?_
  refine z_top (y := nI 3) rfl ?_
  refine z_pop C dL_orders_125 rfl ?_
  refine z_aload_n C 0 dL_orders_126 rfl rfl ?_
  refine z_bipush C (nI 48) dL_orders_127 (by decide) ?_
  refine z_iload_n C 3 dL_orders_129 rfl rfl ?_
  refine z_bipush C (nI 10) dL_orders_130 (by decide) ?_
  refine z_callS C kL_low gL_orders_L_low (l_low X.2.1 h 10 (by decide) (by decide)) dL_orders_132 [.int (nI 48), .ref x0] rfl (by decide) (by decide) (Nat.le_of_ble_eq_true rfl) rfl ?_
  refine z_top (y := nI dd) (congrArg nI hd) ?_
  refine z_iadd C dL_orders_135 ?_
  refine z_top (y := nI (48 + dd)) (nI_add _ _) ?_
  refine z_i2c C (nI (48 + dd)) dL_orders_136 (chr_n (by omega)) ?_
  refine z_callV (wn := (WRd X.2.1 x0 h0 h1 w0 w1 t r S o kp Q (tyL tx [48 + dd, 48, 99, 45]) 4 ps2)) C kX5_type gL_orders_X5_type (l_typ X.2.1 x0 (t 0) h0 w0 w1 tx [48, 99, 45] ps2 (48 + dd) 3 rfl (by decide) htx (by intro c hc9; simp at hc9; omega) (by omega)) dL_orders_137 [0, 51, 52] [] 0 rfl rfl nd_0_51_52 rfl rfl rfl (by decide) (by decide) (Nat.le_of_ble_eq_true rfl) rfl ((zput_par nd_0_51_52 rfl).trans rfl) ?_
  refine z_top (y := nI 4) rfl ?_
  refine z_istore C dL_orders_140 (Nat.le_of_ble_eq_true rfl) ?_
  refine z_lv (lv' := [some (.ref x0), some (.int (nI au)), some (.int g), some (.int h), some (.int (nI 1)), some (.int (nI (uU S 1))), some (.int (nI (mK S))), some (.int (nI 1)), some (.int (nI 4)), some (.int (nI 1)), none]) rfl ?_
  refine z_iload C dL_orders_142 rfl ?_
  refine z_nif_eq_f C 160 dL_orders_144 (by decide) (by omega) (by omega) ?_
  refine z_aload_n C 0 dL_orders_147 rfl rfl ?_
  refine z_iload_n C 1 dL_orders_148 rfl rfl ?_
  refine z_callV (wn := (WRd X.2.1 x0 h0 h1 w0 w1 t r S o kp Q (tyL tx [48 + dd, 48, 99, 45]) 4 ps3)) C kX5_run gL_orders_X5_run m4 dL_orders_149 [0, 1, 2, 3, 4, 5, 6, 7, 8, 9, 10, 11, 12, 13, 14, 15, 16, 17, 18, 19, 20, 21, 22, 23, 24, 25, 26, 27, 28, 29, 30, 31, 32, 33, 34, 35, 36, 37, 38, 39, 40, 41, 42, 43, 44, 45, 46, 47, 48, 49, 50, 51, 52] [] 0 rfl rfl nd_0_1_2_3_4_5_6_7_8_9_10_11_12_13_14_15_16_17_18_19_20_21_22_23_24_25_26_27_28_29_30_31_32_33_34_35_36_37_38_39_40_41_42_43_44_45_46_47_48_49_50_51_52 rfl rfl rfl (by decide) (by decide) (Nat.le_of_ble_eq_true rfl) rfl ((zput_par nd_0_1_2_3_4_5_6_7_8_9_10_11_12_13_14_15_16_17_18_19_20_21_22_23_24_25_26_27_28_29_30_31_32_33_34_35_36_37_38_39_40_41_42_43_44_45_46_47_48_49_50_51_52 rfl).trans rfl) ?_
  refine z_bipush C (-99) dL_orders_152 (by decide) ?_
  refine z_iload C dL_orders_154 rfl ?_
  refine z_isub C dL_orders_156 ?_
  refine z_top (y := (-103)) (by decide) ?_
  refine z_icmp_eq_t C 162 dL_orders_157 (by decide) rfl ?_
  refine z_aload_n C 0 dL_orders_162 rfl rfl ?_
  have htx2 : ∀ j, tyL tx [48 + dd, 48, 99, 45] j < 65536 := tyL_b htx (by intro c hc9; simp at hc9; omega)
  refine z_callV (wn := (WRd X.2.1 x0 h0 h1 w0 w1 t r S o kp Q (tyL (tyL tx [48 + dd, 48, 99, 45]) []) 0 ps3)) C kX5_clearText gL_orders_X5_clearText (l_clr X.2.1 x0 (t 0) h0 w0 w1 (tyL tx [48 + dd, 48, 99, 45]) 4 ps3 (by decide)) dL_orders_163 [0, 51, 52] [] 0 rfl rfl nd_0_51_52 rfl rfl rfl (by decide) (by decide) (Nat.le_of_ble_eq_true rfl) rfl ((zput_par nd_0_51_52 rfl).trans rfl) ?_
  refine z_pop C dL_orders_166 rfl ?_
  refine z_aload_n C 0 dL_orders_167 rfl rfl ?_
  refine z_bipush C (nI 43) dL_orders_168 (by decide) ?_
  refine z_callV (wn := (WRd X.2.1 x0 h0 h1 w0 w1 t r S o kp Q (tyL (tyL tx [48 + dd, 48, 99, 45]) [43]) 1 ps3)) C kX5_type gL_orders_X5_type (l_typ X.2.1 x0 (t 0) h0 w0 w1 (tyL tx [48 + dd, 48, 99, 45]) [] ps3 43 0 rfl (by decide) htx2 (fun c hc9 => absurd hc9 List.not_mem_nil) (by omega)) dL_orders_170 [0, 51, 52] [] 0 rfl rfl nd_0_51_52 rfl rfl rfl (by decide) (by decide) (Nat.le_of_ble_eq_true rfl) rfl ((zput_par nd_0_51_52 rfl).trans rfl) ?_
  refine z_top (y := nI 1) rfl ?_
  refine z_pop C dL_orders_173 rfl ?_
  refine z_aload_n C 0 dL_orders_174 rfl rfl ?_
  refine z_iload C dL_orders_175 rfl ?_
  refine z_nif_ne_t C 185 dL_orders_177 (by decide) (by omega) (by omega) ?_
  refine z_bipush C (nI 99) dL_orders_185 (by decide) ?_
  refine z_callV (wn := (WRd X.2.1 x0 h0 h1 w0 w1 t r S o kp Q (tyL (tyL tx [48 + dd, 48, 99, 45]) [99, 43]) 2 ps3)) C kX5_type gL_orders_X5_type (l_typ X.2.1 x0 (t 0) h0 w0 w1 (tyL tx [48 + dd, 48, 99, 45]) [43] ps3 99 1 rfl (by decide) htx2 (by intro c hc9; simp at hc9; omega) (by omega)) dL_orders_187 [0, 51, 52] [] 0 rfl rfl nd_0_51_52 rfl rfl rfl (by decide) (by decide) (Nat.le_of_ble_eq_true rfl) rfl ((zput_par nd_0_51_52 rfl).trans rfl) ?_
  refine z_top (y := nI 2) rfl ?_
  refine z_pop C dL_orders_190 rfl ?_
  refine z_aload_n C 0 dL_orders_191 rfl rfl ?_
  refine z_bipush C (nI 48) dL_orders_192 (by decide) ?_
  refine z_callV (wn := (WRd X.2.1 x0 h0 h1 w0 w1 t r S o kp Q (tyL (tyL tx [48 + dd, 48, 99, 45]) [48, 99, 43]) 3 ps3)) C kX5_type gL_orders_X5_type (l_typ X.2.1 x0 (t 0) h0 w0 w1 (tyL tx [48 + dd, 48, 99, 45]) [99, 43] ps3 48 2 rfl (by decide) htx2 (by intro c hc9; simp at hc9; omega) (by omega)) dL_orders_194 [0, 51, 52] [] 0 rfl rfl nd_0_51_52 rfl rfl rfl (by decide) (by decide) (Nat.le_of_ble_eq_true rfl) rfl ((zput_par nd_0_51_52 rfl).trans rfl) ?_
  refine z_top (y := nI 3) rfl ?_
  refine z_pop C dL_orders_197 rfl ?_
  refine z_aload_n C 0 dL_orders_198 rfl rfl ?_
  refine z_bipush C (nI 32) dL_orders_199 (by decide) ?_
  refine z_callV (wn := (WRd X.2.1 x0 h0 h1 w0 w1 t r S o kp Q (tyL (tyL tx [48 + dd, 48, 99, 45]) [32, 48, 99, 43]) 4 ps3)) C kX5_type gL_orders_X5_type (l_typ X.2.1 x0 (t 0) h0 w0 w1 (tyL tx [48 + dd, 48, 99, 45]) [48, 99, 43] ps3 32 3 rfl (by decide) htx2 (by intro c hc9; simp at hc9; omega) (by omega)) dL_orders_201 [0, 51, 52] [] 0 rfl rfl nd_0_51_52 rfl rfl rfl (by decide) (by decide) (Nat.le_of_ble_eq_true rfl) rfl ((zput_par nd_0_51_52 rfl).trans rfl) ?_
  refine z_top (y := nI 4) rfl ?_
  refine z_pop C dL_orders_204 rfl ?_
  refine z_aload_n C 0 dL_orders_205 rfl rfl ?_
  refine z_bipush C (nI 43) dL_orders_206 (by decide) ?_
  refine z_callV (wn := (WRd X.2.1 x0 h0 h1 w0 w1 t r S o kp Q (tyL (tyL tx [48 + dd, 48, 99, 45]) [43, 32, 48, 99, 43]) 5 ps3)) C kX5_type gL_orders_X5_type (l_typ X.2.1 x0 (t 0) h0 w0 w1 (tyL tx [48 + dd, 48, 99, 45]) [32, 48, 99, 43] ps3 43 4 rfl (by decide) htx2 (by intro c hc9; simp at hc9; omega) (by omega)) dL_orders_208 [0, 51, 52] [] 0 rfl rfl nd_0_51_52 rfl rfl rfl (by decide) (by decide) (Nat.le_of_ble_eq_true rfl) rfl ((zput_par nd_0_51_52 rfl).trans rfl) ?_
  refine z_top (y := nI 5) rfl ?_
  refine z_pop C dL_orders_211 rfl ?_
  refine z_aload_n C 0 dL_orders_212 rfl rfl ?_
  refine z_iload C dL_orders_213 rfl ?_
  refine z_nif_ne_t C 223 dL_orders_215 (by decide) (by omega) (by omega) ?_
  refine z_bipush C (nI 99) dL_orders_223 (by decide) ?_
  refine z_callV (wn := (WRd X.2.1 x0 h0 h1 w0 w1 t r S o kp Q (tyL (tyL tx [48 + dd, 48, 99, 45]) [99, 43, 32, 48, 99, 43]) 6 ps3)) C kX5_type gL_orders_X5_type (l_typ X.2.1 x0 (t 0) h0 w0 w1 (tyL tx [48 + dd, 48, 99, 45]) [43, 32, 48, 99, 43] ps3 99 5 rfl (by decide) htx2 (by intro c hc9; simp at hc9; omega) (by omega)) dL_orders_225 [0, 51, 52] [] 0 rfl rfl nd_0_51_52 rfl rfl rfl (by decide) (by decide) (Nat.le_of_ble_eq_true rfl) rfl ((zput_par nd_0_51_52 rfl).trans rfl) ?_
  refine z_top (y := nI 6) rfl ?_
  refine z_pop C dL_orders_228 rfl ?_
  refine z_aload_n C 0 dL_orders_229 rfl rfl ?_
  refine z_bipush C (nI 57) dL_orders_230 (by decide) ?_
  refine z_callV (wn := (WRd X.2.1 x0 h0 h1 w0 w1 t r S o kp Q (tyL (tyL tx [48 + dd, 48, 99, 45]) [57, 99, 43, 32, 48, 99, 43]) 7 ps3)) C kX5_type gL_orders_X5_type (l_typ X.2.1 x0 (t 0) h0 w0 w1 (tyL tx [48 + dd, 48, 99, 45]) [99, 43, 32, 48, 99, 43] ps3 57 6 rfl (by decide) htx2 (by intro c hc9; simp at hc9; omega) (by omega)) dL_orders_232 [0, 51, 52] [] 0 rfl rfl nd_0_51_52 rfl rfl rfl (by decide) (by decide) (Nat.le_of_ble_eq_true rfl) rfl ((zput_par nd_0_51_52 rfl).trans rfl) ?_
  refine z_top (y := nI 7) rfl ?_
  refine z_pop C dL_orders_235 rfl ?_
  refine z_aload_n C 0 dL_orders_236 rfl rfl ?_
  refine z_bipush C (nI 57) dL_orders_237 (by decide) ?_
  refine z_callV (wn := (WRd X.2.1 x0 h0 h1 w0 w1 t r S o kp Q (tyL (tyL tx [48 + dd, 48, 99, 45]) [57, 57, 99, 43, 32, 48, 99, 43]) 8 ps3)) C kX5_type gL_orders_X5_type (l_typ X.2.1 x0 (t 0) h0 w0 w1 (tyL tx [48 + dd, 48, 99, 45]) [57, 99, 43, 32, 48, 99, 43] ps3 57 7 rfl (by decide) htx2 (by intro c hc9; simp at hc9; omega) (by omega)) dL_orders_239 [0, 51, 52] [] 0 rfl rfl nd_0_51_52 rfl rfl rfl (by decide) (by decide) (Nat.le_of_ble_eq_true rfl) rfl ((zput_par nd_0_51_52 rfl).trans rfl) ?_
  refine z_top (y := nI 8) rfl ?_
  refine z_istore C dL_orders_242 (Nat.le_of_ble_eq_true rfl) ?_
  refine z_lv (lv' := [some (.ref x0), some (.int (nI au)), some (.int g), some (.int h), some (.int (nI 1)), some (.int (nI (uU S 1))), some (.int (nI (mK S))), some (.int (nI 1)), some (.int (nI 8)), some (.int (nI 1)), none]) rfl ?_
  refine z_iload C dL_orders_244 rfl ?_
  refine z_iload C dL_orders_246 rfl ?_
  refine z_nif_ne_t C 256 dL_orders_248 (by decide) (by omega) (by omega) ?_
  refine z_bipush C (nI 8) dL_orders_256 (by decide) ?_
  refine z_ncmp_eq_f C 273 dL_orders_258 (by decide) (by omega) (by omega) (by omega) ?_
  refine z_iload C dL_orders_261 rfl ?_
  refine z_nif_eq_f C 277 dL_orders_263 (by decide) (by omega) (by omega) ?_
  refine z_iload C dL_orders_266 rfl ?_
  refine z_bipush C (nI 60) dL_orders_268 (by decide) ?_
  refine z_ncmp_ne_t C 277 dL_orders_270 (by decide) (by omega) (by omega) (by omega) ?_
  refine z_iconst C (nI 1) dL_orders_277 (by decide) ?_
  refine z_istore C dL_orders_278 (Nat.le_of_ble_eq_true rfl) ?_
  refine z_lv (lv' := [some (.ref x0), some (.int (nI au)), some (.int g), some (.int h), some (.int (nI 1)), some (.int (nI (uU S 1))), some (.int (nI (mK S))), some (.int (nI 1)), some (.int (nI 8)), some (.int (nI 1)), some (.int (nI 1))]) rfl ?_
  refine z_aload_n C 0 dL_orders_280 rfl rfl ?_
  refine z_iload_n C 1 dL_orders_281 rfl rfl ?_
  refine z_callV (wn := (WRd X.2.1 x0 h0 h1 w0 w1 t r S1 o1 kp1 Q1 (tyL (tyL tx [48 + dd, 48, 99, 45]) [57, 57, 99, 43, 32, 48, 99, 43]) 8 ps4)) C kX5_run gL_orders_X5_run m5 dL_orders_282 [0, 1, 2, 3, 4, 5, 6, 7, 8, 9, 10, 11, 12, 13, 14, 15, 16, 17, 18, 19, 20, 21, 22, 23, 24, 25, 26, 27, 28, 29, 30, 31, 32, 33, 34, 35, 36, 37, 38, 39, 40, 41, 42, 43, 44, 45, 46, 47, 48, 49, 50, 51, 52] [] 0 rfl rfl nd_0_1_2_3_4_5_6_7_8_9_10_11_12_13_14_15_16_17_18_19_20_21_22_23_24_25_26_27_28_29_30_31_32_33_34_35_36_37_38_39_40_41_42_43_44_45_46_47_48_49_50_51_52 rfl rfl rfl (by decide) (by decide) (Nat.le_of_ble_eq_true rfl) rfl ((zput_par nd_0_1_2_3_4_5_6_7_8_9_10_11_12_13_14_15_16_17_18_19_20_21_22_23_24_25_26_27_28_29_30_31_32_33_34_35_36_37_38_39_40_41_42_43_44_45_46_47_48_49_50_51_52 rfl).trans rfl) ?_
  refine z_iload C dL_orders_285 rfl ?_
  refine z_ncmp_ne_f C 305 dL_orders_287 (by decide) (by omega) (by omega) (by omega) ?_
  refine z_aload_n C 0 dL_orders_290 rfl rfl ?_
  refine z_iconst C (nI 0) dL_orders_291 (by decide) ?_
  refine z_iload C dL_orders_292 rfl ?_
  refine z_callVr C kX5_size gL_orders_X5_size (l_size0 X.2.1 x0 h0 w0 t S1 1 hG1 (by decide)) dL_orders_294 [0, 1, 2, 3, 4, 5, 6, 7, 8] [] 0 rfl nd_0_1_2_3_4_5_6_7_8 rfl rfl rfl (by decide) (by decide) (Nat.le_of_ble_eq_true rfl) rfl ?_
  refine z_iload C dL_orders_297 rfl ?_
  refine z_iload C dL_orders_299 rfl ?_
  refine z_iadd C dL_orders_301 ?_
  refine z_top (y := nI ((uU S 1) + 1)) (nI_add _ _) ?_
  refine z_ncmp_eq_t C 307 dL_orders_302 (by decide) (by omega) (by omega) (by omega) ?_
  refine z_aload_n C 0 dL_orders_307 rfl rfl ?_
  refine z_bipush C (nI 57) dL_orders_308 (by decide) ?_
  refine z_callV (wn := (WRd X.2.1 x0 h0 h1 w0 w1 t r S1 o1 kp1 Q1 (tyL (tyL tx [48 + dd, 48, 99, 45]) [57, 57, 57, 99, 43, 32, 48, 99, 43]) 9 ps4)) C kX5_type gL_orders_X5_type (l_typ X.2.1 x0 (t 0) h0 w0 w1 (tyL tx [48 + dd, 48, 99, 45]) [57, 57, 99, 43, 32, 48, 99, 43] ps4 57 8 rfl (by decide) htx2 (by intro c hc9; simp at hc9; omega) (by omega)) dL_orders_310 [0, 51, 52] [] 0 rfl rfl nd_0_51_52 rfl rfl rfl (by decide) (by decide) (Nat.le_of_ble_eq_true rfl) rfl ((zput_par nd_0_51_52 rfl).trans rfl) ?_
  refine z_top (y := nI 9) rfl ?_
  refine z_pop C dL_orders_313 rfl ?_
  refine z_aload_n C 0 dL_orders_314 rfl rfl ?_
  refine z_iload_n C 1 dL_orders_315 rfl rfl ?_
  refine z_callV (wn := (WRd X.2.1 x0 h0 h1 w0 w1 t r S1 o1 kp1 Q1 (tyL (tyL tx [48 + dd, 48, 99, 45]) [57, 57, 57, 99, 43, 32, 48, 99, 43]) 9 ps5)) C kX5_run gL_orders_X5_run m6 dL_orders_316 [0, 1, 2, 3, 4, 5, 6, 7, 8, 9, 10, 11, 12, 13, 14, 15, 16, 17, 18, 19, 20, 21, 22, 23, 24, 25, 26, 27, 28, 29, 30, 31, 32, 33, 34, 35, 36, 37, 38, 39, 40, 41, 42, 43, 44, 45, 46, 47, 48, 49, 50, 51, 52] [] 0 rfl rfl nd_0_1_2_3_4_5_6_7_8_9_10_11_12_13_14_15_16_17_18_19_20_21_22_23_24_25_26_27_28_29_30_31_32_33_34_35_36_37_38_39_40_41_42_43_44_45_46_47_48_49_50_51_52 rfl rfl rfl (by decide) (by decide) (Nat.le_of_ble_eq_true rfl) rfl ((zput_par nd_0_1_2_3_4_5_6_7_8_9_10_11_12_13_14_15_16_17_18_19_20_21_22_23_24_25_26_27_28_29_30_31_32_33_34_35_36_37_38_39_40_41_42_43_44_45_46_47_48_49_50_51_52 rfl).trans rfl) ?_
  refine z_bipush C (-100) dL_orders_319 (by decide) ?_
  refine z_iload C dL_orders_321 rfl ?_
  refine z_isub C dL_orders_323 ?_
  refine z_top (y := (-108)) (by decide) ?_
  refine z_icmp_ne_f C 360 dL_orders_324 (by decide) rfl ?_
  refine z_aload_n C 0 dL_orders_327 rfl rfl ?_
  refine z_callV (wn := (WRd X.2.1 x0 h0 h1 w0 w1 t r S o2 kp2 Q1 (tyL (tyL tx [48 + dd, 48, 99, 45]) [57, 57, 57, 99, 43, 32, 48, 99, 43]) 9 ps5)) C kX5_undo gL_orders_X5_undo m7 dL_orders_328 [0, 1, 2, 3, 4, 5, 6, 7, 8, 9, 10, 11, 12, 13, 14, 15, 16, 17, 18, 19, 20, 21, 22, 23, 24, 25, 26, 27, 28, 29, 30, 31, 32, 33, 34, 35, 36, 37, 38, 39, 40, 41, 42, 43, 44, 45, 46, 47, 48, 49, 50] [] 0 rfl rfl nd_0_1_2_3_4_5_6_7_8_9_10_11_12_13_14_15_16_17_18_19_20_21_22_23_24_25_26_27_28_29_30_31_32_33_34_35_36_37_38_39_40_41_42_43_44_45_46_47_48_49_50 rfl rfl rfl (by decide) (by decide) (Nat.le_of_ble_eq_true rfl) rfl ((zput_par nd_0_1_2_3_4_5_6_7_8_9_10_11_12_13_14_15_16_17_18_19_20_21_22_23_24_25_26_27_28_29_30_31_32_33_34_35_36_37_38_39_40_41_42_43_44_45_46_47_48_49_50 rfl).trans rfl) ?_
  refine z_nif_lt_f C 360 dL_orders_331 (by decide) (by omega) (by trivial) ?_
  refine z_aload_n C 0 dL_orders_334 rfl rfl ?_
  refine z_iconst C (nI 0) dL_orders_335 (by decide) ?_
  refine z_iload C dL_orders_336 rfl ?_
  refine z_callVr C kX5_size gL_orders_X5_size (l_size0 X.2.1 x0 h0 w0 t S 1 hG (by decide)) dL_orders_338 [0, 1, 2, 3, 4, 5, 6, 7, 8] [] 0 rfl nd_0_1_2_3_4_5_6_7_8 rfl rfl rfl (by decide) (by decide) (Nat.le_of_ble_eq_true rfl) rfl ?_
  refine z_iload C dL_orders_341 rfl ?_
  refine z_ncmp_ne_f C 360 dL_orders_343 (by decide) (by omega) (by omega) (by omega) ?_
  refine z_aload_n C 0 dL_orders_346 rfl rfl ?_
  refine z_iconst C (nI 0) dL_orders_347 (by decide) ?_
  refine z_callVr C kX5_count gL_orders_X5_count (l_cnt0 X.2.1 x0 h0 h1 w0 w1 t S o2 kp2 9 ps5  hG ) dL_orders_348 [0, 1, 2, 3, 4, 5, 6, 7, 8, 9, 51] [] 0 rfl nd_0_1_2_3_4_5_6_7_8_9_51 rfl rfl rfl (by decide) (by decide) (Nat.le_of_ble_eq_true rfl) rfl ?_
  refine z_iload C dL_orders_351 rfl ?_
  refine z_ncmp_ne_f C 360 dL_orders_353 (by decide) (by omega) (by omega) (by omega) ?_
  refine z_iconst C (nI 1) dL_orders_356 (by decide) ?_
  refine z_goto C 361 dL_orders_357 (by decide) ?_
  exact z_zret C N dL_orders_361 rfl (rfl) (rfl)

set_option maxHeartbeats 4000000 in
set_option maxRecDepth 100000 in
theorem w_ord11m (E : zE) (x0 h0 h1 w0 w1 : Nat) (t : Nat → Nat) (r : Nat → Nat → Nat) (S S1 : zSt) (o kp o1 o2 kp1 kp2 : Nat) (Q Q1 : Nat → zSt) (tx : Nat → Nat) (ln : Nat) (ps ps1 ps2 ps3 ps4 ps5 : zPs) {B B1 : Nat} (au : Nat) (g h : Int32) (dd lf : Nat) (hG : GG S B) (hG1 : GG S1 B1) (hau : au < 4) (hg1 : g &&& (nI 1) = nI 1) (hg2 : ¬ g &&& (nI 2) = 0) (hd : lw h 10 = dd) (hdd : dd < 10) (hln : ln ≤ 60) (htx : ∀ j, tx j < 65536) (hlf : lf < 100) (hu : uU S1 1 = uU S 1 + 0) (hf : uU S 1 < 8) (ht : tK S = true) (hm : mK S = 60) (m1 : zM E yX5_run wsX5_run 8 [.ref x0, .int (nI au)] (WRd E x0 h0 h1 w0 w1 t r S o kp Q (tyL tx []) 0 ps) (WRd E x0 h0 h1 w0 w1 t r S o kp Q (tyL tx []) 0 ps1) (some (.int (-100)))) (m2 : zM E yX5_run wsX5_run 8 [.ref x0, .int (nI 4)] (WRd E x0 h0 h1 w0 w1 t r S o kp Q (tyL tx []) 0 ps1) (WRd E x0 h0 h1 w0 w1 t r S o kp Q (tyL tx []) 0 ps1) (some (.int (-1)))) (m3 : zM E yX5_run wsX5_run 8 [.ref x0, .int (nI au)] (WRd E x0 h0 h1 w0 w1 t r S o kp Q (tyL tx [45]) 1 ps1) (WRd E x0 h0 h1 w0 w1 t r S o kp Q (tyL tx [45]) 1 ps2) (some (.int (-101)))) (m4 : zM E yX5_run wsX5_run 8 [.ref x0, .int (nI au)] (WRd E x0 h0 h1 w0 w1 t r S o kp Q (tyL tx [48 + dd, 48, 99, 45]) 4 ps2) (WRd E x0 h0 h1 w0 w1 t r S o kp Q (tyL tx [48 + dd, 48, 99, 45]) 4 ps3) (some (.int (-103)))) (m5 : zM E yX5_run wsX5_run 8 [.ref x0, .int (nI au)] (WRd E x0 h0 h1 w0 w1 t r S o kp Q (tyL (tyL tx [48 + dd, 48, 99, 45]) [57, 57, 99, 43, 32, 48, 99, 43]) 8 ps3) (WRd E x0 h0 h1 w0 w1 t r S1 o1 kp1 Q1 (tyL (tyL tx [48 + dd, 48, 99, 45]) [57, 57, 99, 43, 32, 48, 99, 43]) 8 ps4) (some (.int (nI 0)))) (m6 : zM E yX5_run wsX5_run 8 [.ref x0, .int (nI au)] (WRd E x0 h0 h1 w0 w1 t r S1 o1 kp1 Q1 (tyL (tyL tx [48 + dd, 48, 99, 45]) [57, 57, 57, 99, 43, 32, 48, 99, 43]) 9 ps4) (WRd E x0 h0 h1 w0 w1 t r S1 o1 kp1 Q1 (tyL (tyL tx [48 + dd, 48, 99, 45]) [57, 57, 57, 99, 43, 32, 48, 99, 43]) 9 ps5) (some (.int (-108)))) (m7 : zM E yX5_undo wsX5_undo 5 [.ref x0] (WAd E x0 h0 h1 w0 t r S1 o1 kp1 Q1) (WAd E x0 h0 h1 w0 t r S o2 kp2 Q1) (some (.int (nI lf)))) : zM E yL_orders wsL_orders 9 [.ref x0, .int (nI au), .int g, .int h] (WRd E x0 h0 h1 w0 w1 t r S o kp Q tx ln ps) (WRd E x0 h0 h1 w0 w1 t r S o2 kp2 Q1 (tyL (tyL tx [48 + dd, 48, 99, 45]) [57, 57, 57, 99, 43, 32, 48, 99, 43]) 9 ps5) (some (.int (nI 1))) := by
  refine zM.of kL_orders (Nat.le_of_ble_eq_true rfl) rfl [some (.ref x0), some (.int (nI au)), some (.int g), some (.int h), none, none, none, none, none, none, none] rfl (Nat.le_of_ble_eq_true rfl) ?_
  intro X eX C N
  subst eX
  have hb0 : uU S 0 ≤ 12 := gg_u hG 0
  have hb1 : uU S 1 ≤ 8 := gg_u1 hG
  have hb2 : mK S ≤ 60 := gg_M hG
  have hb3 : uU S1 0 ≤ 12 := gg_u hG1 0
  have hb4 : uU S1 1 ≤ 8 := gg_u1 hG1
  have hb5 : mK S1 ≤ 60 := gg_M hG1
  refine z_aload_n C 0 dL_orders_0 rfl rfl ?_
  refine z_callV (wn := (WRd X.2.1 x0 h0 h1 w0 w1 t r S o kp Q (tyL tx []) 0 ps)) C kX5_clearText gL_orders_X5_clearText (l_clr X.2.1 x0 (t 0) h0 w0 w1 tx ln ps hln) dL_orders_1 [0, 51, 52] [] 0 rfl rfl nd_0_51_52 rfl rfl rfl (by decide) (by decide) (Nat.le_of_ble_eq_true rfl) rfl ((zput_par nd_0_51_52 rfl).trans rfl) ?_
  refine z_pop C dL_orders_4 rfl ?_
  refine z_aload_n C 0 dL_orders_5 rfl rfl ?_
  refine z_iload_n C 1 dL_orders_6 rfl rfl ?_
  refine z_callV (wn := (WRd X.2.1 x0 h0 h1 w0 w1 t r S o kp Q (tyL tx []) 0 ps1)) C kX5_run gL_orders_X5_run m1 dL_orders_7 [0, 1, 2, 3, 4, 5, 6, 7, 8, 9, 10, 11, 12, 13, 14, 15, 16, 17, 18, 19, 20, 21, 22, 23, 24, 25, 26, 27, 28, 29, 30, 31, 32, 33, 34, 35, 36, 37, 38, 39, 40, 41, 42, 43, 44, 45, 46, 47, 48, 49, 50, 51, 52] [] 0 rfl rfl nd_0_1_2_3_4_5_6_7_8_9_10_11_12_13_14_15_16_17_18_19_20_21_22_23_24_25_26_27_28_29_30_31_32_33_34_35_36_37_38_39_40_41_42_43_44_45_46_47_48_49_50_51_52 rfl rfl rfl (by decide) (by decide) (Nat.le_of_ble_eq_true rfl) rfl ((zput_par nd_0_1_2_3_4_5_6_7_8_9_10_11_12_13_14_15_16_17_18_19_20_21_22_23_24_25_26_27_28_29_30_31_32_33_34_35_36_37_38_39_40_41_42_43_44_45_46_47_48_49_50_51_52 rfl).trans rfl) ?_
  refine z_bipush C (-100) dL_orders_10 (by decide) ?_
  refine z_icmp_ne_f C 24 dL_orders_12 (by decide) rfl ?_
  refine z_aload_n C 0 dL_orders_15 rfl rfl ?_
  refine z_iconst C (nI 4) dL_orders_16 (by decide) ?_
  refine z_callV (wn := (WRd X.2.1 x0 h0 h1 w0 w1 t r S o kp Q (tyL tx []) 0 ps1)) C kX5_run gL_orders_X5_run m2 dL_orders_17 [0, 1, 2, 3, 4, 5, 6, 7, 8, 9, 10, 11, 12, 13, 14, 15, 16, 17, 18, 19, 20, 21, 22, 23, 24, 25, 26, 27, 28, 29, 30, 31, 32, 33, 34, 35, 36, 37, 38, 39, 40, 41, 42, 43, 44, 45, 46, 47, 48, 49, 50, 51, 52] [] 0 rfl rfl nd_0_1_2_3_4_5_6_7_8_9_10_11_12_13_14_15_16_17_18_19_20_21_22_23_24_25_26_27_28_29_30_31_32_33_34_35_36_37_38_39_40_41_42_43_44_45_46_47_48_49_50_51_52 rfl rfl rfl (by decide) (by decide) (Nat.le_of_ble_eq_true rfl) rfl ((zput_par nd_0_1_2_3_4_5_6_7_8_9_10_11_12_13_14_15_16_17_18_19_20_21_22_23_24_25_26_27_28_29_30_31_32_33_34_35_36_37_38_39_40_41_42_43_44_45_46_47_48_49_50_51_52 rfl).trans rfl) ?_
  refine z_iconst C (-1) dL_orders_20 (by decide) ?_
  refine z_icmp_eq_t C 26 dL_orders_21 (by decide) rfl ?_
  refine z_iload_n C 2 dL_orders_26 rfl rfl ?_
  refine z_iconst C (nI 1) dL_orders_27 (by decide) ?_
  refine z_iand C dL_orders_28 ?_
  refine z_top (y := nI 1) (hg1) ?_
  refine z_istore C dL_orders_29 (Nat.le_of_ble_eq_true rfl) ?_
  refine z_lv (lv' := [some (.ref x0), some (.int (nI au)), some (.int g), some (.int h), some (.int (nI 1)), none, none, none, none, none, none]) rfl ?_
  refine z_aload_n C 0 dL_orders_31 rfl rfl ?_
  refine z_iconst C (nI 0) dL_orders_32 (by decide) ?_
  refine z_iload C dL_orders_33 rfl ?_
  refine z_callVr C kX5_size gL_orders_X5_size (l_size0 X.2.1 x0 h0 w0 t S 1 hG (by decide)) dL_orders_35 [0, 1, 2, 3, 4, 5, 6, 7, 8] [] 0 rfl nd_0_1_2_3_4_5_6_7_8 rfl rfl rfl (by decide) (by decide) (Nat.le_of_ble_eq_true rfl) rfl ?_
  refine z_istore C dL_orders_38 (Nat.le_of_ble_eq_true rfl) ?_
  refine z_lv (lv' := [some (.ref x0), some (.int (nI au)), some (.int g), some (.int h), some (.int (nI 1)), some (.int (nI (uU S 1))), none, none, none, none, none]) rfl ?_
  refine z_aload_n C 0 dL_orders_40 rfl rfl ?_
  refine z_iconst C (nI 0) dL_orders_41 (by decide) ?_
  refine z_callVr C kX5_count gL_orders_X5_count (l_cnt0 X.2.1 x0 h0 h1 w0 w1 t S o kp 0 ps1  hG ) dL_orders_42 [0, 1, 2, 3, 4, 5, 6, 7, 8, 9, 51] [] 0 rfl nd_0_1_2_3_4_5_6_7_8_9_51 rfl rfl rfl (by decide) (by decide) (Nat.le_of_ble_eq_true rfl) rfl ?_
  refine z_istore C dL_orders_45 (Nat.le_of_ble_eq_true rfl) ?_
  refine z_lv (lv' := [some (.ref x0), some (.int (nI au)), some (.int g), some (.int h), some (.int (nI 1)), some (.int (nI (uU S 1))), some (.int (nI (mK S))), none, none, none, none]) rfl ?_
  refine z_aload_n C 0 dL_orders_47 rfl rfl ?_
  refine z_iconst C (nI 5) dL_orders_48 (by decide) ?_
  refine z_callVr C kX5_count gL_orders_X5_count (l_cnt5y X.2.1 x0 h0 h1 w0 w1 t S o kp 0 ps1  hG ht) dL_orders_49 [0, 1, 2, 3, 4, 5, 6, 7, 8, 9, 51] [] 0 rfl nd_0_1_2_3_4_5_6_7_8_9_51 rfl rfl rfl (by decide) (by decide) (Nat.le_of_ble_eq_true rfl) rfl ?_
  refine z_iconst C (nI 1) dL_orders_52 (by decide) ?_
  refine z_ncmp_ne_f C 60 dL_orders_53 (by decide) (by omega) (by omega) (by omega) ?_
  refine z_iconst C (nI 1) dL_orders_56 (by decide) ?_
  refine z_goto C 61 dL_orders_57 (by decide) ?_
  refine z_istore C dL_orders_61 (Nat.le_of_ble_eq_true rfl) ?_
  refine z_lv (lv' := [some (.ref x0), some (.int (nI au)), some (.int g), some (.int h), some (.int (nI 1)), some (.int (nI (uU S 1))), some (.int (nI (mK S))), some (.int (nI 1)), none, none, none]) rfl ?_
  refine z_aload_n C 0 dL_orders_63 rfl rfl ?_
  refine z_iload_n C 2 dL_orders_64 rfl rfl ?_
  refine z_iconst C (nI 2) dL_orders_65 (by decide) ?_
  refine z_iand C dL_orders_66 ?_
  refine z_if_ne_t C 75 dL_orders_67 (by decide) hg2 ?_
  refine z_bipush C (nI 45) dL_orders_75 (by decide) ?_
  refine z_callV (wn := (WRd X.2.1 x0 h0 h1 w0 w1 t r S o kp Q (tyL tx [45]) 1 ps1)) C kX5_type gL_orders_X5_type (l_typ X.2.1 x0 (t 0) h0 w0 w1 tx [] ps1 45 0 rfl (by decide) htx (fun c hc9 => absurd hc9 List.not_mem_nil) (by omega)) dL_orders_77 [0, 51, 52] [] 0 rfl rfl nd_0_51_52 rfl rfl rfl (by decide) (by decide) (Nat.le_of_ble_eq_true rfl) rfl ((zput_par nd_0_51_52 rfl).trans rfl) ?_
  refine z_top (y := nI 1) rfl ?_
  refine z_istore C dL_orders_80 (Nat.le_of_ble_eq_true rfl) ?_
  refine z_lv (lv' := [some (.ref x0), some (.int (nI au)), some (.int g), some (.int h), some (.int (nI 1)), some (.int (nI (uU S 1))), some (.int (nI (mK S))), some (.int (nI 1)), some (.int (nI 1)), none, none]) rfl ?_
  refine z_aload_n C 0 dL_orders_82 rfl rfl ?_
  refine z_iload_n C 1 dL_orders_83 rfl rfl ?_
  refine z_callV (wn := (WRd X.2.1 x0 h0 h1 w0 w1 t r S o kp Q (tyL tx [45]) 1 ps2)) C kX5_run gL_orders_X5_run m3 dL_orders_84 [0, 1, 2, 3, 4, 5, 6, 7, 8, 9, 10, 11, 12, 13, 14, 15, 16, 17, 18, 19, 20, 21, 22, 23, 24, 25, 26, 27, 28, 29, 30, 31, 32, 33, 34, 35, 36, 37, 38, 39, 40, 41, 42, 43, 44, 45, 46, 47, 48, 49, 50, 51, 52] [] 0 rfl rfl nd_0_1_2_3_4_5_6_7_8_9_10_11_12_13_14_15_16_17_18_19_20_21_22_23_24_25_26_27_28_29_30_31_32_33_34_35_36_37_38_39_40_41_42_43_44_45_46_47_48_49_50_51_52 rfl rfl rfl (by decide) (by decide) (Nat.le_of_ble_eq_true rfl) rfl ((zput_par nd_0_1_2_3_4_5_6_7_8_9_10_11_12_13_14_15_16_17_18_19_20_21_22_23_24_25_26_27_28_29_30_31_32_33_34_35_36_37_38_39_40_41_42_43_44_45_46_47_48_49_50_51_52 rfl).trans rfl) ?_
  refine z_bipush C (-100) dL_orders_87 (by decide) ?_
  refine z_iload C dL_orders_89 rfl ?_
  refine z_isub C dL_orders_91 ?_
  refine z_top (y := (-101)) (by decide) ?_
  refine z_icmp_ne_f C 99 dL_orders_92 (by decide) rfl ?_
  refine z_iconst C (nI 1) dL_orders_95 (by decide) ?_
  refine z_goto C 100 dL_orders_96 (by decide) ?_
  refine z_istore C dL_orders_100 (Nat.le_of_ble_eq_true rfl) ?_
  refine z_lv (lv' := [some (.ref x0), some (.int (nI au)), some (.int g), some (.int h), some (.int (nI 1)), some (.int (nI (uU S 1))), some (.int (nI (mK S))), some (.int (nI 1)), some (.int (nI 1)), some (.int (nI 1)), none]) rfl ?_
  refine z_aload_n C 0 dL_orders_102 rfl rfl ?_
  refine z_iload C dL_orders_103 rfl ?_
  refine z_nif_ne_t C 113 dL_orders_105 (by decide) (by omega) (by omega) ?_
  refine z_bipush C (nI 99) dL_orders_113 (by decide) ?_
  refine z_callV (wn := (WRd X.2.1 x0 h0 h1 w0 w1 t r S o kp Q (tyL tx [99, 45]) 2 ps2)) C kX5_type gL_orders_X5_type (l_typ X.2.1 x0 (t 0) h0 w0 w1 tx [45] ps2 99 1 rfl (by decide) htx (by intro c hc9; simp at hc9; omega) (by omega)) dL_orders_115 [0, 51, 52] [] 0 rfl rfl nd_0_51_52 rfl rfl rfl (by decide) (by decide) (Nat.le_of_ble_eq_true rfl) rfl ((zput_par nd_0_51_52 rfl).trans rfl) ?_
  refine z_top (y := nI 2) rfl ?_
  refine z_pop C dL_orders_118 rfl ?_
  refine z_aload_n C 0 dL_orders_119 rfl rfl ?_
  refine z_bipush C (nI 48) dL_orders_120 (by decide) ?_
  refine z_callV (wn := (WRd X.2.1 x0 h0 h1 w0 w1 t r S o kp Q (tyL tx [48, 99, 45]) 3 ps2)) C kX5_type gL_orders_X5_type (l_typ X.2.1 x0 (t 0) h0 w0 w1 tx [99, 45] ps2 48 2 rfl (by decide) htx (by intro c hc9; simp at hc9; omega) (by omega)) dL_orders_122 [0, 51, 52] [] 0 rfl rfl nd_0_51_52 rfl rfl rfl (by decide) (by decide) (Nat.le_of_ble_eq_true rfl) rfl ((zput_par nd_0_51_52 rfl).trans rfl) ?_
  refine z_top (y := nI 3) rfl ?_
  refine z_pop C dL_orders_125 rfl ?_
  refine z_aload_n C 0 dL_orders_126 rfl rfl ?_
  refine z_bipush C (nI 48) dL_orders_127 (by decide) ?_
  refine z_iload_n C 3 dL_orders_129 rfl rfl ?_
  refine z_bipush C (nI 10) dL_orders_130 (by decide) ?_
  refine z_callS C kL_low gL_orders_L_low (l_low X.2.1 h 10 (by decide) (by decide)) dL_orders_132 [.int (nI 48), .ref x0] rfl (by decide) (by decide) (Nat.le_of_ble_eq_true rfl) rfl ?_
  refine z_top (y := nI dd) (congrArg nI hd) ?_
  refine z_iadd C dL_orders_135 ?_
  refine z_top (y := nI (48 + dd)) (nI_add _ _) ?_
  refine z_i2c C (nI (48 + dd)) dL_orders_136 (chr_n (by omega)) ?_
  refine z_callV (wn := (WRd X.2.1 x0 h0 h1 w0 w1 t r S o kp Q (tyL tx [48 + dd, 48, 99, 45]) 4 ps2)) C kX5_type gL_orders_X5_type (l_typ X.2.1 x0 (t 0) h0 w0 w1 tx [48, 99, 45] ps2 (48 + dd) 3 rfl (by decide) htx (by intro c hc9; simp at hc9; omega) (by omega)) dL_orders_137 [0, 51, 52] [] 0 rfl rfl nd_0_51_52 rfl rfl rfl (by decide) (by decide) (Nat.le_of_ble_eq_true rfl) rfl ((zput_par nd_0_51_52 rfl).trans rfl) ?_
  refine z_top (y := nI 4) rfl ?_
  refine z_istore C dL_orders_140 (Nat.le_of_ble_eq_true rfl) ?_
  refine z_lv (lv' := [some (.ref x0), some (.int (nI au)), some (.int g), some (.int h), some (.int (nI 1)), some (.int (nI (uU S 1))), some (.int (nI (mK S))), some (.int (nI 1)), some (.int (nI 4)), some (.int (nI 1)), none]) rfl ?_
  refine z_iload C dL_orders_142 rfl ?_
  refine z_nif_eq_f C 160 dL_orders_144 (by decide) (by omega) (by omega) ?_
  refine z_aload_n C 0 dL_orders_147 rfl rfl ?_
  refine z_iload_n C 1 dL_orders_148 rfl rfl ?_
  refine z_callV (wn := (WRd X.2.1 x0 h0 h1 w0 w1 t r S o kp Q (tyL tx [48 + dd, 48, 99, 45]) 4 ps3)) C kX5_run gL_orders_X5_run m4 dL_orders_149 [0, 1, 2, 3, 4, 5, 6, 7, 8, 9, 10, 11, 12, 13, 14, 15, 16, 17, 18, 19, 20, 21, 22, 23, 24, 25, 26, 27, 28, 29, 30, 31, 32, 33, 34, 35, 36, 37, 38, 39, 40, 41, 42, 43, 44, 45, 46, 47, 48, 49, 50, 51, 52] [] 0 rfl rfl nd_0_1_2_3_4_5_6_7_8_9_10_11_12_13_14_15_16_17_18_19_20_21_22_23_24_25_26_27_28_29_30_31_32_33_34_35_36_37_38_39_40_41_42_43_44_45_46_47_48_49_50_51_52 rfl rfl rfl (by decide) (by decide) (Nat.le_of_ble_eq_true rfl) rfl ((zput_par nd_0_1_2_3_4_5_6_7_8_9_10_11_12_13_14_15_16_17_18_19_20_21_22_23_24_25_26_27_28_29_30_31_32_33_34_35_36_37_38_39_40_41_42_43_44_45_46_47_48_49_50_51_52 rfl).trans rfl) ?_
  refine z_bipush C (-99) dL_orders_152 (by decide) ?_
  refine z_iload C dL_orders_154 rfl ?_
  refine z_isub C dL_orders_156 ?_
  refine z_top (y := (-103)) (by decide) ?_
  refine z_icmp_eq_t C 162 dL_orders_157 (by decide) rfl ?_
  refine z_aload_n C 0 dL_orders_162 rfl rfl ?_
  have htx2 : ∀ j, tyL tx [48 + dd, 48, 99, 45] j < 65536 := tyL_b htx (by intro c hc9; simp at hc9; omega)
  refine z_callV (wn := (WRd X.2.1 x0 h0 h1 w0 w1 t r S o kp Q (tyL (tyL tx [48 + dd, 48, 99, 45]) []) 0 ps3)) C kX5_clearText gL_orders_X5_clearText (l_clr X.2.1 x0 (t 0) h0 w0 w1 (tyL tx [48 + dd, 48, 99, 45]) 4 ps3 (by decide)) dL_orders_163 [0, 51, 52] [] 0 rfl rfl nd_0_51_52 rfl rfl rfl (by decide) (by decide) (Nat.le_of_ble_eq_true rfl) rfl ((zput_par nd_0_51_52 rfl).trans rfl) ?_
  refine z_pop C dL_orders_166 rfl ?_
  refine z_aload_n C 0 dL_orders_167 rfl rfl ?_
  refine z_bipush C (nI 43) dL_orders_168 (by decide) ?_
  refine z_callV (wn := (WRd X.2.1 x0 h0 h1 w0 w1 t r S o kp Q (tyL (tyL tx [48 + dd, 48, 99, 45]) [43]) 1 ps3)) C kX5_type gL_orders_X5_type (l_typ X.2.1 x0 (t 0) h0 w0 w1 (tyL tx [48 + dd, 48, 99, 45]) [] ps3 43 0 rfl (by decide) htx2 (fun c hc9 => absurd hc9 List.not_mem_nil) (by omega)) dL_orders_170 [0, 51, 52] [] 0 rfl rfl nd_0_51_52 rfl rfl rfl (by decide) (by decide) (Nat.le_of_ble_eq_true rfl) rfl ((zput_par nd_0_51_52 rfl).trans rfl) ?_
  refine z_top (y := nI 1) rfl ?_
  refine z_pop C dL_orders_173 rfl ?_
  refine z_aload_n C 0 dL_orders_174 rfl rfl ?_
  refine z_iload C dL_orders_175 rfl ?_
  refine z_nif_ne_t C 185 dL_orders_177 (by decide) (by omega) (by omega) ?_
  refine z_bipush C (nI 99) dL_orders_185 (by decide) ?_
  refine z_callV (wn := (WRd X.2.1 x0 h0 h1 w0 w1 t r S o kp Q (tyL (tyL tx [48 + dd, 48, 99, 45]) [99, 43]) 2 ps3)) C kX5_type gL_orders_X5_type (l_typ X.2.1 x0 (t 0) h0 w0 w1 (tyL tx [48 + dd, 48, 99, 45]) [43] ps3 99 1 rfl (by decide) htx2 (by intro c hc9; simp at hc9; omega) (by omega)) dL_orders_187 [0, 51, 52] [] 0 rfl rfl nd_0_51_52 rfl rfl rfl (by decide) (by decide) (Nat.le_of_ble_eq_true rfl) rfl ((zput_par nd_0_51_52 rfl).trans rfl) ?_
  refine z_top (y := nI 2) rfl ?_
  refine z_pop C dL_orders_190 rfl ?_
  refine z_aload_n C 0 dL_orders_191 rfl rfl ?_
  refine z_bipush C (nI 48) dL_orders_192 (by decide) ?_
  refine z_callV (wn := (WRd X.2.1 x0 h0 h1 w0 w1 t r S o kp Q (tyL (tyL tx [48 + dd, 48, 99, 45]) [48, 99, 43]) 3 ps3)) C kX5_type gL_orders_X5_type (l_typ X.2.1 x0 (t 0) h0 w0 w1 (tyL tx [48 + dd, 48, 99, 45]) [99, 43] ps3 48 2 rfl (by decide) htx2 (by intro c hc9; simp at hc9; omega) (by omega)) dL_orders_194 [0, 51, 52] [] 0 rfl rfl nd_0_51_52 rfl rfl rfl (by decide) (by decide) (Nat.le_of_ble_eq_true rfl) rfl ((zput_par nd_0_51_52 rfl).trans rfl) ?_
  refine z_top (y := nI 3) rfl ?_
  refine z_pop C dL_orders_197 rfl ?_
  refine z_aload_n C 0 dL_orders_198 rfl rfl ?_
  refine z_bipush C (nI 32) dL_orders_199 (by decide) ?_
  refine z_callV (wn := (WRd X.2.1 x0 h0 h1 w0 w1 t r S o kp Q (tyL (tyL tx [48 + dd, 48, 99, 45]) [32, 48, 99, 43]) 4 ps3)) C kX5_type gL_orders_X5_type (l_typ X.2.1 x0 (t 0) h0 w0 w1 (tyL tx [48 + dd, 48, 99, 45]) [48, 99, 43] ps3 32 3 rfl (by decide) htx2 (by intro c hc9; simp at hc9; omega) (by omega)) dL_orders_201 [0, 51, 52] [] 0 rfl rfl nd_0_51_52 rfl rfl rfl (by decide) (by decide) (Nat.le_of_ble_eq_true rfl) rfl ((zput_par nd_0_51_52 rfl).trans rfl) ?_
  refine z_top (y := nI 4) rfl ?_
  refine z_pop C dL_orders_204 rfl ?_
  refine z_aload_n C 0 dL_orders_205 rfl rfl ?_
  refine z_bipush C (nI 43) dL_orders_206 (by decide) ?_
  refine z_callV (wn := (WRd X.2.1 x0 h0 h1 w0 w1 t r S o kp Q (tyL (tyL tx [48 + dd, 48, 99, 45]) [43, 32, 48, 99, 43]) 5 ps3)) C kX5_type gL_orders_X5_type (l_typ X.2.1 x0 (t 0) h0 w0 w1 (tyL tx [48 + dd, 48, 99, 45]) [32, 48, 99, 43] ps3 43 4 rfl (by decide) htx2 (by intro c hc9; simp at hc9; omega) (by omega)) dL_orders_208 [0, 51, 52] [] 0 rfl rfl nd_0_51_52 rfl rfl rfl (by decide) (by decide) (Nat.le_of_ble_eq_true rfl) rfl ((zput_par nd_0_51_52 rfl).trans rfl) ?_
  refine z_top (y := nI 5) rfl ?_
  refine z_pop C dL_orders_211 rfl ?_
  refine z_aload_n C 0 dL_orders_212 rfl rfl ?_
  refine z_iload C dL_orders_213 rfl ?_
  refine z_nif_ne_t C 223 dL_orders_215 (by decide) (by omega) (by omega) ?_
  refine z_bipush C (nI 99) dL_orders_223 (by decide) ?_
  refine z_callV (wn := (WRd X.2.1 x0 h0 h1 w0 w1 t r S o kp Q (tyL (tyL tx [48 + dd, 48, 99, 45]) [99, 43, 32, 48, 99, 43]) 6 ps3)) C kX5_type gL_orders_X5_type (l_typ X.2.1 x0 (t 0) h0 w0 w1 (tyL tx [48 + dd, 48, 99, 45]) [43, 32, 48, 99, 43] ps3 99 5 rfl (by decide) htx2 (by intro c hc9; simp at hc9; omega) (by omega)) dL_orders_225 [0, 51, 52] [] 0 rfl rfl nd_0_51_52 rfl rfl rfl (by decide) (by decide) (Nat.le_of_ble_eq_true rfl) rfl ((zput_par nd_0_51_52 rfl).trans rfl) ?_
  refine z_top (y := nI 6) rfl ?_
  refine z_pop C dL_orders_228 rfl ?_
  refine z_aload_n C 0 dL_orders_229 rfl rfl ?_
  refine z_bipush C (nI 57) dL_orders_230 (by decide) ?_
  refine z_callV (wn := (WRd X.2.1 x0 h0 h1 w0 w1 t r S o kp Q (tyL (tyL tx [48 + dd, 48, 99, 45]) [57, 99, 43, 32, 48, 99, 43]) 7 ps3)) C kX5_type gL_orders_X5_type (l_typ X.2.1 x0 (t 0) h0 w0 w1 (tyL tx [48 + dd, 48, 99, 45]) [99, 43, 32, 48, 99, 43] ps3 57 6 rfl (by decide) htx2 (by intro c hc9; simp at hc9; omega) (by omega)) dL_orders_232 [0, 51, 52] [] 0 rfl rfl nd_0_51_52 rfl rfl rfl (by decide) (by decide) (Nat.le_of_ble_eq_true rfl) rfl ((zput_par nd_0_51_52 rfl).trans rfl) ?_
  refine z_top (y := nI 7) rfl ?_
  refine z_pop C dL_orders_235 rfl ?_
  refine z_aload_n C 0 dL_orders_236 rfl rfl ?_
  refine z_bipush C (nI 57) dL_orders_237 (by decide) ?_
  refine z_callV (wn := (WRd X.2.1 x0 h0 h1 w0 w1 t r S o kp Q (tyL (tyL tx [48 + dd, 48, 99, 45]) [57, 57, 99, 43, 32, 48, 99, 43]) 8 ps3)) C kX5_type gL_orders_X5_type (l_typ X.2.1 x0 (t 0) h0 w0 w1 (tyL tx [48 + dd, 48, 99, 45]) [57, 99, 43, 32, 48, 99, 43] ps3 57 7 rfl (by decide) htx2 (by intro c hc9; simp at hc9; omega) (by omega)) dL_orders_239 [0, 51, 52] [] 0 rfl rfl nd_0_51_52 rfl rfl rfl (by decide) (by decide) (Nat.le_of_ble_eq_true rfl) rfl ((zput_par nd_0_51_52 rfl).trans rfl) ?_
  refine z_top (y := nI 8) rfl ?_
  refine z_istore C dL_orders_242 (Nat.le_of_ble_eq_true rfl) ?_
  refine z_lv (lv' := [some (.ref x0), some (.int (nI au)), some (.int g), some (.int h), some (.int (nI 1)), some (.int (nI (uU S 1))), some (.int (nI (mK S))), some (.int (nI 1)), some (.int (nI 8)), some (.int (nI 1)), none]) rfl ?_
  refine z_iload C dL_orders_244 rfl ?_
  refine z_iload C dL_orders_246 rfl ?_
  refine z_nif_ne_t C 256 dL_orders_248 (by decide) (by omega) (by omega) ?_
  refine z_bipush C (nI 8) dL_orders_256 (by decide) ?_
  refine z_ncmp_eq_f C 273 dL_orders_258 (by decide) (by omega) (by omega) (by omega) ?_
  refine z_iload C dL_orders_261 rfl ?_
  refine z_nif_eq_f C 277 dL_orders_263 (by decide) (by omega) (by omega) ?_
  refine z_iload C dL_orders_266 rfl ?_
  refine z_bipush C (nI 60) dL_orders_268 (by decide) ?_
  refine z_ncmp_ne_f C 277 dL_orders_270 (by decide) (by omega) (by omega) (by omega) ?_
  refine z_iconst C (nI 0) dL_orders_273 (by decide) ?_
  refine z_goto C 278 dL_orders_274 (by decide) ?_
  refine z_istore C dL_orders_278 (Nat.le_of_ble_eq_true rfl) ?_
  refine z_lv (lv' := [some (.ref x0), some (.int (nI au)), some (.int g), some (.int h), some (.int (nI 1)), some (.int (nI (uU S 1))), some (.int (nI (mK S))), some (.int (nI 1)), some (.int (nI 8)), some (.int (nI 1)), some (.int (nI 0))]) rfl ?_
  refine z_aload_n C 0 dL_orders_280 rfl rfl ?_
  refine z_iload_n C 1 dL_orders_281 rfl rfl ?_
  refine z_callV (wn := (WRd X.2.1 x0 h0 h1 w0 w1 t r S1 o1 kp1 Q1 (tyL (tyL tx [48 + dd, 48, 99, 45]) [57, 57, 99, 43, 32, 48, 99, 43]) 8 ps4)) C kX5_run gL_orders_X5_run m5 dL_orders_282 [0, 1, 2, 3, 4, 5, 6, 7, 8, 9, 10, 11, 12, 13, 14, 15, 16, 17, 18, 19, 20, 21, 22, 23, 24, 25, 26, 27, 28, 29, 30, 31, 32, 33, 34, 35, 36, 37, 38, 39, 40, 41, 42, 43, 44, 45, 46, 47, 48, 49, 50, 51, 52] [] 0 rfl rfl nd_0_1_2_3_4_5_6_7_8_9_10_11_12_13_14_15_16_17_18_19_20_21_22_23_24_25_26_27_28_29_30_31_32_33_34_35_36_37_38_39_40_41_42_43_44_45_46_47_48_49_50_51_52 rfl rfl rfl (by decide) (by decide) (Nat.le_of_ble_eq_true rfl) rfl ((zput_par nd_0_1_2_3_4_5_6_7_8_9_10_11_12_13_14_15_16_17_18_19_20_21_22_23_24_25_26_27_28_29_30_31_32_33_34_35_36_37_38_39_40_41_42_43_44_45_46_47_48_49_50_51_52 rfl).trans rfl) ?_
  refine z_iload C dL_orders_285 rfl ?_
  refine z_ncmp_ne_f C 305 dL_orders_287 (by decide) (by omega) (by omega) (by omega) ?_
  refine z_aload_n C 0 dL_orders_290 rfl rfl ?_
  refine z_iconst C (nI 0) dL_orders_291 (by decide) ?_
  refine z_iload C dL_orders_292 rfl ?_
  refine z_callVr C kX5_size gL_orders_X5_size (l_size0 X.2.1 x0 h0 w0 t S1 1 hG1 (by decide)) dL_orders_294 [0, 1, 2, 3, 4, 5, 6, 7, 8] [] 0 rfl nd_0_1_2_3_4_5_6_7_8 rfl rfl rfl (by decide) (by decide) (Nat.le_of_ble_eq_true rfl) rfl ?_
  refine z_iload C dL_orders_297 rfl ?_
  refine z_iload C dL_orders_299 rfl ?_
  refine z_iadd C dL_orders_301 ?_
  refine z_top (y := nI (uU S 1)) (nI_add _ _) ?_
  refine z_ncmp_eq_t C 307 dL_orders_302 (by decide) (by omega) (by omega) (by omega) ?_
  refine z_aload_n C 0 dL_orders_307 rfl rfl ?_
  refine z_bipush C (nI 57) dL_orders_308 (by decide) ?_
  refine z_callV (wn := (WRd X.2.1 x0 h0 h1 w0 w1 t r S1 o1 kp1 Q1 (tyL (tyL tx [48 + dd, 48, 99, 45]) [57, 57, 57, 99, 43, 32, 48, 99, 43]) 9 ps4)) C kX5_type gL_orders_X5_type (l_typ X.2.1 x0 (t 0) h0 w0 w1 (tyL tx [48 + dd, 48, 99, 45]) [57, 57, 99, 43, 32, 48, 99, 43] ps4 57 8 rfl (by decide) htx2 (by intro c hc9; simp at hc9; omega) (by omega)) dL_orders_310 [0, 51, 52] [] 0 rfl rfl nd_0_51_52 rfl rfl rfl (by decide) (by decide) (Nat.le_of_ble_eq_true rfl) rfl ((zput_par nd_0_51_52 rfl).trans rfl) ?_
  refine z_top (y := nI 9) rfl ?_
  refine z_pop C dL_orders_313 rfl ?_
  refine z_aload_n C 0 dL_orders_314 rfl rfl ?_
  refine z_iload_n C 1 dL_orders_315 rfl rfl ?_
  refine z_callV (wn := (WRd X.2.1 x0 h0 h1 w0 w1 t r S1 o1 kp1 Q1 (tyL (tyL tx [48 + dd, 48, 99, 45]) [57, 57, 57, 99, 43, 32, 48, 99, 43]) 9 ps5)) C kX5_run gL_orders_X5_run m6 dL_orders_316 [0, 1, 2, 3, 4, 5, 6, 7, 8, 9, 10, 11, 12, 13, 14, 15, 16, 17, 18, 19, 20, 21, 22, 23, 24, 25, 26, 27, 28, 29, 30, 31, 32, 33, 34, 35, 36, 37, 38, 39, 40, 41, 42, 43, 44, 45, 46, 47, 48, 49, 50, 51, 52] [] 0 rfl rfl nd_0_1_2_3_4_5_6_7_8_9_10_11_12_13_14_15_16_17_18_19_20_21_22_23_24_25_26_27_28_29_30_31_32_33_34_35_36_37_38_39_40_41_42_43_44_45_46_47_48_49_50_51_52 rfl rfl rfl (by decide) (by decide) (Nat.le_of_ble_eq_true rfl) rfl ((zput_par nd_0_1_2_3_4_5_6_7_8_9_10_11_12_13_14_15_16_17_18_19_20_21_22_23_24_25_26_27_28_29_30_31_32_33_34_35_36_37_38_39_40_41_42_43_44_45_46_47_48_49_50_51_52 rfl).trans rfl) ?_
  refine z_bipush C (-100) dL_orders_319 (by decide) ?_
  refine z_iload C dL_orders_321 rfl ?_
  refine z_isub C dL_orders_323 ?_
  refine z_top (y := (-108)) (by decide) ?_
  refine z_icmp_ne_f C 360 dL_orders_324 (by decide) rfl ?_
  refine z_aload_n C 0 dL_orders_327 rfl rfl ?_
  refine z_callV (wn := (WRd X.2.1 x0 h0 h1 w0 w1 t r S o2 kp2 Q1 (tyL (tyL tx [48 + dd, 48, 99, 45]) [57, 57, 57, 99, 43, 32, 48, 99, 43]) 9 ps5)) C kX5_undo gL_orders_X5_undo m7 dL_orders_328 [0, 1, 2, 3, 4, 5, 6, 7, 8, 9, 10, 11, 12, 13, 14, 15, 16, 17, 18, 19, 20, 21, 22, 23, 24, 25, 26, 27, 28, 29, 30, 31, 32, 33, 34, 35, 36, 37, 38, 39, 40, 41, 42, 43, 44, 45, 46, 47, 48, 49, 50] [] 0 rfl rfl nd_0_1_2_3_4_5_6_7_8_9_10_11_12_13_14_15_16_17_18_19_20_21_22_23_24_25_26_27_28_29_30_31_32_33_34_35_36_37_38_39_40_41_42_43_44_45_46_47_48_49_50 rfl rfl rfl (by decide) (by decide) (Nat.le_of_ble_eq_true rfl) rfl ((zput_par nd_0_1_2_3_4_5_6_7_8_9_10_11_12_13_14_15_16_17_18_19_20_21_22_23_24_25_26_27_28_29_30_31_32_33_34_35_36_37_38_39_40_41_42_43_44_45_46_47_48_49_50 rfl).trans rfl) ?_
  refine z_nif_lt_f C 360 dL_orders_331 (by decide) (by omega) (by trivial) ?_
  refine z_aload_n C 0 dL_orders_334 rfl rfl ?_
  refine z_iconst C (nI 0) dL_orders_335 (by decide) ?_
  refine z_iload C dL_orders_336 rfl ?_
  refine z_callVr C kX5_size gL_orders_X5_size (l_size0 X.2.1 x0 h0 w0 t S 1 hG (by decide)) dL_orders_338 [0, 1, 2, 3, 4, 5, 6, 7, 8] [] 0 rfl nd_0_1_2_3_4_5_6_7_8 rfl rfl rfl (by decide) (by decide) (Nat.le_of_ble_eq_true rfl) rfl ?_
  refine z_iload C dL_orders_341 rfl ?_
  refine z_ncmp_ne_f C 360 dL_orders_343 (by decide) (by omega) (by omega) (by omega) ?_
  refine z_aload_n C 0 dL_orders_346 rfl rfl ?_
  refine z_iconst C (nI 0) dL_orders_347 (by decide) ?_
  refine z_callVr C kX5_count gL_orders_X5_count (l_cnt0 X.2.1 x0 h0 h1 w0 w1 t S o2 kp2 9 ps5  hG ) dL_orders_348 [0, 1, 2, 3, 4, 5, 6, 7, 8, 9, 51] [] 0 rfl nd_0_1_2_3_4_5_6_7_8_9_51 rfl rfl rfl (by decide) (by decide) (Nat.le_of_ble_eq_true rfl) rfl ?_
  refine z_iload C dL_orders_351 rfl ?_
  refine z_ncmp_ne_f C 360 dL_orders_353 (by decide) (by omega) (by omega) (by omega) ?_
  refine z_iconst C (nI 1) dL_orders_356 (by decide) ?_
  refine z_goto C 361 dL_orders_357 (by decide) ?_
  exact z_zret C N dL_orders_361 rfl (rfl) (rfl)

set_option maxHeartbeats 4000000 in
set_option maxRecDepth 100000 in
theorem w_ord11f (E : zE) (x0 h0 h1 w0 w1 : Nat) (t : Nat → Nat) (r : Nat → Nat → Nat) (S S1 : zSt) (o kp o1 o2 kp1 kp2 : Nat) (Q Q1 : Nat → zSt) (tx : Nat → Nat) (ln : Nat) (ps ps1 ps2 ps3 ps4 ps5 : zPs) {B B1 : Nat} (au : Nat) (g h : Int32) (dd lf : Nat) (hG : GG S B) (hG1 : GG S1 B1) (hau : au < 4) (hg1 : g &&& (nI 1) = nI 1) (hg2 : ¬ g &&& (nI 2) = 0) (hd : lw h 10 = dd) (hdd : dd < 10) (hln : ln ≤ 60) (htx : ∀ j, tx j < 65536) (hlf : lf < 100) (hu : uU S1 1 = uU S 1 + 0) (hf : uU S 1 = 8) (m1 : zM E yX5_run wsX5_run 8 [.ref x0, .int (nI au)] (WRd E x0 h0 h1 w0 w1 t r S o kp Q (tyL tx []) 0 ps) (WRd E x0 h0 h1 w0 w1 t r S o kp Q (tyL tx []) 0 ps1) (some (.int (-100)))) (m2 : zM E yX5_run wsX5_run 8 [.ref x0, .int (nI 4)] (WRd E x0 h0 h1 w0 w1 t r S o kp Q (tyL tx []) 0 ps1) (WRd E x0 h0 h1 w0 w1 t r S o kp Q (tyL tx []) 0 ps1) (some (.int (-1)))) (m3 : zM E yX5_run wsX5_run 8 [.ref x0, .int (nI au)] (WRd E x0 h0 h1 w0 w1 t r S o kp Q (tyL tx [45]) 1 ps1) (WRd E x0 h0 h1 w0 w1 t r S o kp Q (tyL tx [45]) 1 ps2) (some (.int (-101)))) (m4 : zM E yX5_run wsX5_run 8 [.ref x0, .int (nI au)] (WRd E x0 h0 h1 w0 w1 t r S o kp Q (tyL tx [48 + dd, 48, 99, 45]) 4 ps2) (WRd E x0 h0 h1 w0 w1 t r S o kp Q (tyL tx [48 + dd, 48, 99, 45]) 4 ps3) (some (.int (-103)))) (m5 : zM E yX5_run wsX5_run 8 [.ref x0, .int (nI au)] (WRd E x0 h0 h1 w0 w1 t r S o kp Q (tyL (tyL tx [48 + dd, 48, 99, 45]) [57, 57, 99, 43, 32, 48, 99, 43]) 8 ps3) (WRd E x0 h0 h1 w0 w1 t r S1 o1 kp1 Q1 (tyL (tyL tx [48 + dd, 48, 99, 45]) [57, 57, 99, 43, 32, 48, 99, 43]) 8 ps4) (some (.int (nI 0)))) (m6 : zM E yX5_run wsX5_run 8 [.ref x0, .int (nI au)] (WRd E x0 h0 h1 w0 w1 t r S1 o1 kp1 Q1 (tyL (tyL tx [48 + dd, 48, 99, 45]) [57, 57, 57, 99, 43, 32, 48, 99, 43]) 9 ps4) (WRd E x0 h0 h1 w0 w1 t r S1 o1 kp1 Q1 (tyL (tyL tx [48 + dd, 48, 99, 45]) [57, 57, 57, 99, 43, 32, 48, 99, 43]) 9 ps5) (some (.int (-108)))) (m7 : zM E yX5_undo wsX5_undo 5 [.ref x0] (WAd E x0 h0 h1 w0 t r S1 o1 kp1 Q1) (WAd E x0 h0 h1 w0 t r S o2 kp2 Q1) (some (.int (nI lf)))) : zM E yL_orders wsL_orders 9 [.ref x0, .int (nI au), .int g, .int h] (WRd E x0 h0 h1 w0 w1 t r S o kp Q tx ln ps) (WRd E x0 h0 h1 w0 w1 t r S o2 kp2 Q1 (tyL (tyL tx [48 + dd, 48, 99, 45]) [57, 57, 57, 99, 43, 32, 48, 99, 43]) 9 ps5) (some (.int (nI 1))) := by
  refine zM.of kL_orders (Nat.le_of_ble_eq_true rfl) rfl [some (.ref x0), some (.int (nI au)), some (.int g), some (.int h), none, none, none, none, none, none, none] rfl (Nat.le_of_ble_eq_true rfl) ?_
  intro X eX C N
  subst eX
  have hb0 : uU S 0 ≤ 12 := gg_u hG 0
  have hb1 : uU S 1 ≤ 8 := gg_u1 hG
  have hb2 : mK S ≤ 60 := gg_M hG
  have hb3 : uU S1 0 ≤ 12 := gg_u hG1 0
  have hb4 : uU S1 1 ≤ 8 := gg_u1 hG1
  have hb5 : mK S1 ≤ 60 := gg_M hG1
  refine z_aload_n C 0 dL_orders_0 rfl rfl ?_
  refine z_callV (wn := (WRd X.2.1 x0 h0 h1 w0 w1 t r S o kp Q (tyL tx []) 0 ps)) C kX5_clearText gL_orders_X5_clearText (l_clr X.2.1 x0 (t 0) h0 w0 w1 tx ln ps hln) dL_orders_1 [0, 51, 52] [] 0 rfl rfl nd_0_51_52 rfl rfl rfl (by decide) (by decide) (Nat.le_of_ble_eq_true rfl) rfl ((zput_par nd_0_51_52 rfl).trans rfl) ?_
  refine z_pop C dL_orders_4 rfl ?_
  refine z_aload_n C 0 dL_orders_5 rfl rfl ?_
  refine z_iload_n C 1 dL_orders_6 rfl rfl ?_
  refine z_callV (wn := (WRd X.2.1 x0 h0 h1 w0 w1 t r S o kp Q (tyL tx []) 0 ps1)) C kX5_run gL_orders_X5_run m1 dL_orders_7 [0, 1, 2, 3, 4, 5, 6, 7, 8, 9, 10, 11, 12, 13, 14, 15, 16, 17, 18, 19, 20, 21, 22, 23, 24, 25, 26, 27, 28, 29, 30, 31, 32, 33, 34, 35, 36, 37, 38, 39, 40, 41, 42, 43, 44, 45, 46, 47, 48, 49, 50, 51, 52] [] 0 rfl rfl nd_0_1_2_3_4_5_6_7_8_9_10_11_12_13_14_15_16_17_18_19_20_21_22_23_24_25_26_27_28_29_30_31_32_33_34_35_36_37_38_39_40_41_42_43_44_45_46_47_48_49_50_51_52 rfl rfl rfl (by decide) (by decide) (Nat.le_of_ble_eq_true rfl) rfl ((zput_par nd_0_1_2_3_4_5_6_7_8_9_10_11_12_13_14_15_16_17_18_19_20_21_22_23_24_25_26_27_28_29_30_31_32_33_34_35_36_37_38_39_40_41_42_43_44_45_46_47_48_49_50_51_52 rfl).trans rfl) ?_
  refine z_bipush C (-100) dL_orders_10 (by decide) ?_
  refine z_icmp_ne_f C 24 dL_orders_12 (by decide) rfl ?_
  refine z_aload_n C 0 dL_orders_15 rfl rfl ?_
  refine z_iconst C (nI 4) dL_orders_16 (by decide) ?_
  refine z_callV (wn := (WRd X.2.1 x0 h0 h1 w0 w1 t r S o kp Q (tyL tx []) 0 ps1)) C kX5_run gL_orders_X5_run m2 dL_orders_17 [0, 1, 2, 3, 4, 5, 6, 7, 8, 9, 10, 11, 12, 13, 14, 15, 16, 17, 18, 19, 20, 21, 22, 23, 24, 25, 26, 27, 28, 29, 30, 31, 32, 33, 34, 35, 36, 37, 38, 39, 40, 41, 42, 43, 44, 45, 46, 47, 48, 49, 50, 51, 52] [] 0 rfl rfl nd_0_1_2_3_4_5_6_7_8_9_10_11_12_13_14_15_16_17_18_19_20_21_22_23_24_25_26_27_28_29_30_31_32_33_34_35_36_37_38_39_40_41_42_43_44_45_46_47_48_49_50_51_52 rfl rfl rfl (by decide) (by decide) (Nat.le_of_ble_eq_true rfl) rfl ((zput_par nd_0_1_2_3_4_5_6_7_8_9_10_11_12_13_14_15_16_17_18_19_20_21_22_23_24_25_26_27_28_29_30_31_32_33_34_35_36_37_38_39_40_41_42_43_44_45_46_47_48_49_50_51_52 rfl).trans rfl) ?_
  refine z_iconst C (-1) dL_orders_20 (by decide) ?_
  refine z_icmp_eq_t C 26 dL_orders_21 (by decide) rfl ?_
  refine z_iload_n C 2 dL_orders_26 rfl rfl ?_
  refine z_iconst C (nI 1) dL_orders_27 (by decide) ?_
  refine z_iand C dL_orders_28 ?_
  refine z_top (y := nI 1) (hg1) ?_
  refine z_istore C dL_orders_29 (Nat.le_of_ble_eq_true rfl) ?_
  refine z_lv (lv' := [some (.ref x0), some (.int (nI au)), some (.int g), some (.int h), some (.int (nI 1)), none, none, none, none, none, none]) rfl ?_
  refine z_aload_n C 0 dL_orders_31 rfl rfl ?_
  refine z_iconst C (nI 0) dL_orders_32 (by decide) ?_
  refine z_iload C dL_orders_33 rfl ?_
  refine z_callVr C kX5_size gL_orders_X5_size (l_size0 X.2.1 x0 h0 w0 t S 1 hG (by decide)) dL_orders_35 [0, 1, 2, 3, 4, 5, 6, 7, 8] [] 0 rfl nd_0_1_2_3_4_5_6_7_8 rfl rfl rfl (by decide) (by decide) (Nat.le_of_ble_eq_true rfl) rfl ?_
  refine z_istore C dL_orders_38 (Nat.le_of_ble_eq_true rfl) ?_
  refine z_lv (lv' := [some (.ref x0), some (.int (nI au)), some (.int g), some (.int h), some (.int (nI 1)), some (.int (nI (uU S 1))), none, none, none, none, none]) rfl ?_
  refine z_aload_n C 0 dL_orders_40 rfl rfl ?_
  refine z_iconst C (nI 0) dL_orders_41 (by decide) ?_
  refine z_callVr C kX5_count gL_orders_X5_count (l_cnt0 X.2.1 x0 h0 h1 w0 w1 t S o kp 0 ps1  hG ) dL_orders_42 [0, 1, 2, 3, 4, 5, 6, 7, 8, 9, 51] [] 0 rfl nd_0_1_2_3_4_5_6_7_8_9_51 rfl rfl rfl (by decide) (by decide) (Nat.le_of_ble_eq_true rfl) rfl ?_
  refine z_istore C dL_orders_45 (Nat.le_of_ble_eq_true rfl) ?_
  refine z_lv (lv' := [some (.ref x0), some (.int (nI au)), some (.int g), some (.int h), some (.int (nI 1)), some (.int (nI (uU S 1))), some (.int (nI (mK S))), none, none, none, none]) rfl ?_
  refine z_aload_n C 0 dL_orders_47 rfl rfl ?_
  refine z_iconst C (nI 5) dL_orders_48 (by decide) ?_
  refine z_callVr C kX5_count gL_orders_X5_count (l_cnt5 X.2.1 x0 h0 h1 w0 w1 t S o kp 0 ps1  hG ) dL_orders_49 [0, 1, 2, 3, 4, 5, 6, 7, 8, 9, 51] [] 0 rfl nd_0_1_2_3_4_5_6_7_8_9_51 rfl rfl rfl (by decide) (by decide) (Nat.le_of_ble_eq_true rfl) rfl ?_
  refine z_iconst C (nI 1) dL_orders_52 (by decide) ?_
  refine z_icmp_ne C 60 dL_orders_53 (by decide) (fun h_1 => ?_) (fun h_1 => ?_)
  · refine z_iconst C (nI 0) dL_orders_60 (by decide) ?_
    refine z_istore C dL_orders_61 (Nat.le_of_ble_eq_true rfl) ?_
    refine z_lv (lv' := [some (.ref x0), some (.int (nI au)), some (.int g), some (.int h), some (.int (nI 1)), some (.int (nI (uU S 1))), some (.int (nI (mK S))), some (.int (nI 0)), none, none, none]) rfl ?_
    refine z_aload_n C 0 dL_orders_63 rfl rfl ?_
    refine z_iload_n C 2 dL_orders_64 rfl rfl ?_
    refine z_iconst C (nI 2) dL_orders_65 (by decide) ?_
    refine z_iand C dL_orders_66 ?_
    refine z_if_ne_t C 75 dL_orders_67 (by decide) hg2 ?_
    refine z_bipush C (nI 45) dL_orders_75 (by decide) ?_
    refine z_callV (wn := (WRd X.2.1 x0 h0 h1 w0 w1 t r S o kp Q (tyL tx [45]) 1 ps1)) C kX5_type gL_orders_X5_type (l_typ X.2.1 x0 (t 0) h0 w0 w1 tx [] ps1 45 0 rfl (by decide) htx (fun c hc9 => absurd hc9 List.not_mem_nil) (by omega)) dL_orders_77 [0, 51, 52] [] 0 rfl rfl nd_0_51_52 rfl rfl rfl (by decide) (by decide) (Nat.le_of_ble_eq_true rfl) rfl ((zput_par nd_0_51_52 rfl).trans rfl) ?_
    refine z_top (y := nI 1) rfl ?_
    refine z_istore C dL_orders_80 (Nat.le_of_ble_eq_true rfl) ?_
    refine z_lv (lv' := [some (.ref x0), some (.int (nI au)), some (.int g), some (.int h), some (.int (nI 1)), some (.int (nI (uU S 1))), some (.int (nI (mK S))), some (.int (nI 0)), some (.int (nI 1)), none, none]) rfl ?_
    refine z_aload_n C 0 dL_orders_82 rfl rfl ?_
    refine z_iload_n C 1 dL_orders_83 rfl rfl ?_
    refine z_callV (wn := (WRd X.2.1 x0 h0 h1 w0 w1 t r S o kp Q (tyL tx [45]) 1 ps2)) C kX5_run gL_orders_X5_run m3 dL_orders_84 [0, 1, 2, 3, 4, 5, 6, 7, 8, 9, 10, 11, 12, 13, 14, 15, 16, 17, 18, 19, 20, 21, 22, 23, 24, 25, 26, 27, 28, 29, 30, 31, 32, 33, 34, 35, 36, 37, 38, 39, 40, 41, 42, 43, 44, 45, 46, 47, 48, 49, 50, 51, 52] [] 0 rfl rfl nd_0_1_2_3_4_5_6_7_8_9_10_11_12_13_14_15_16_17_18_19_20_21_22_23_24_25_26_27_28_29_30_31_32_33_34_35_36_37_38_39_40_41_42_43_44_45_46_47_48_49_50_51_52 rfl rfl rfl (by decide) (by decide) (Nat.le_of_ble_eq_true rfl) rfl ((zput_par nd_0_1_2_3_4_5_6_7_8_9_10_11_12_13_14_15_16_17_18_19_20_21_22_23_24_25_26_27_28_29_30_31_32_33_34_35_36_37_38_39_40_41_42_43_44_45_46_47_48_49_50_51_52 rfl).trans rfl) ?_
    refine z_bipush C (-100) dL_orders_87 (by decide) ?_
    refine z_iload C dL_orders_89 rfl ?_
    refine z_isub C dL_orders_91 ?_
    refine z_top (y := (-101)) (by decide) ?_
    refine z_icmp_ne_f C 99 dL_orders_92 (by decide) rfl ?_
    refine z_iconst C (nI 1) dL_orders_95 (by decide) ?_
    refine z_goto C 100 dL_orders_96 (by decide) ?_
    refine z_istore C dL_orders_100 (Nat.le_of_ble_eq_true rfl) ?_
    refine z_lv (lv' := [some (.ref x0), some (.int (nI au)), some (.int g), some (.int h), some (.int (nI 1)), some (.int (nI (uU S 1))), some (.int (nI (mK S))), some (.int (nI 0)), some (.int (nI 1)), some (.int (nI 1)), none]) rfl ?_
    refine z_aload_n C 0 dL_orders_102 rfl rfl ?_
    refine z_iload C dL_orders_103 rfl ?_
    refine z_nif_ne_t C 113 dL_orders_105 (by decide) (by omega) (by omega) ?_
    refine z_bipush C (nI 99) dL_orders_113 (by decide) ?_
    refine z_callV (wn := (WRd X.2.1 x0 h0 h1 w0 w1 t r S o kp Q (tyL tx [99, 45]) 2 ps2)) C kX5_type gL_orders_X5_type (l_typ X.2.1 x0 (t 0) h0 w0 w1 tx [45] ps2 99 1 rfl (by decide) htx (by intro c hc9; simp at hc9; omega) (by omega)) dL_orders_115 [0, 51, 52] [] 0 rfl rfl nd_0_51_52 rfl rfl rfl (by decide) (by decide) (Nat.le_of_ble_eq_true rfl) rfl ((zput_par nd_0_51_52 rfl).trans rfl) ?_
    refine z_top (y := nI 2) rfl ?_
    refine z_pop C dL_orders_118 rfl ?_
    refine z_aload_n C 0 dL_orders_119 rfl rfl ?_
    refine z_bipush C (nI 48) dL_orders_120 (by decide) ?_
    refine z_callV (wn := (WRd X.2.1 x0 h0 h1 w0 w1 t r S o kp Q (tyL tx [48, 99, 45]) 3 ps2)) C kX5_type gL_orders_X5_type (l_typ X.2.1 x0 (t 0) h0 w0 w1 tx [99, 45] ps2 48 2 rfl (by decide) htx (by intro c hc9; simp at hc9; omega) (by omega)) dL_orders_122 [0, 51, 52] [] 0 rfl rfl nd_0_51_52 rfl rfl rfl (by decide) (by decide) (Nat.le_of_ble_eq_true rfl) rfl ((zput_par nd_0_51_52 rfl).trans rfl) ?_
    refine z_top (y := nI 3) rfl ?_
    refine z_pop C dL_orders_125 rfl ?_
    refine z_aload_n C 0 dL_orders_126 rfl rfl ?_
    refine z_bipush C (nI 48) dL_orders_127 (by decide) ?_
    refine z_iload_n C 3 dL_orders_129 rfl rfl ?_
    refine z_bipush C (nI 10) dL_orders_130 (by decide) ?_
    refine z_callS C kL_low gL_orders_L_low (l_low X.2.1 h 10 (by decide) (by decide)) dL_orders_132 [.int (nI 48), .ref x0] rfl (by decide) (by decide) (Nat.le_of_ble_eq_true rfl) rfl ?_
    refine z_top (y := nI dd) (congrArg nI hd) ?_
    refine z_iadd C dL_orders_135 ?_
    refine z_top (y := nI (48 + dd)) (nI_add _ _) ?_
    refine z_i2c C (nI (48 + dd)) dL_orders_136 (chr_n (by omega)) ?_
    refine z_callV (wn := (WRd X.2.1 x0 h0 h1 w0 w1 t r S o kp Q (tyL tx [48 + dd, 48, 99, 45]) 4 ps2)) C kX5_type gL_orders_X5_type (l_typ X.2.1 x0 (t 0) h0 w0 w1 tx [48, 99, 45] ps2 (48 + dd) 3 rfl (by decide) htx (by intro c hc9; simp at hc9; omega) (by omega)) dL_orders_137 [0, 51, 52] [] 0 rfl rfl nd_0_51_52 rfl rfl rfl (by decide) (by decide) (Nat.le_of_ble_eq_true rfl) rfl ((zput_par nd_0_51_52 rfl).trans rfl) ?_
    refine z_top (y := nI 4) rfl ?_
    refine z_istore C dL_orders_140 (Nat.le_of_ble_eq_true rfl) ?_
    refine z_lv (lv' := [some (.ref x0), some (.int (nI au)), some (.int g), some (.int h), some (.int (nI 1)), some (.int (nI (uU S 1))), some (.int (nI (mK S))), some (.int (nI 0)), some (.int (nI 4)), some (.int (nI 1)), none]) rfl ?_
    refine z_iload C dL_orders_142 rfl ?_
    refine z_nif_eq_f C 160 dL_orders_144 (by decide) (by omega) (by omega) ?_
    refine z_aload_n C 0 dL_orders_147 rfl rfl ?_
    refine z_iload_n C 1 dL_orders_148 rfl rfl ?_
    refine z_callV (wn := (WRd X.2.1 x0 h0 h1 w0 w1 t r S o kp Q (tyL tx [48 + dd, 48, 99, 45]) 4 ps3)) C kX5_run gL_orders_X5_run m4 dL_orders_149 [0, 1, 2, 3, 4, 5, 6, 7, 8, 9, 10, 11, 12, 13, 14, 15, 16, 17, 18, 19, 20, 21, 22, 23, 24, 25, 26, 27, 28, 29, 30, 31, 32, 33, 34, 35, 36, 37, 38, 39, 40, 41, 42, 43, 44, 45, 46, 47, 48, 49, 50, 51, 52] [] 0 rfl rfl nd_0_1_2_3_4_5_6_7_8_9_10_11_12_13_14_15_16_17_18_19_20_21_22_23_24_25_26_27_28_29_30_31_32_33_34_35_36_37_38_39_40_41_42_43_44_45_46_47_48_49_50_51_52 rfl rfl rfl (by decide) (by decide) (Nat.le_of_ble_eq_true rfl) rfl ((zput_par nd_0_1_2_3_4_5_6_7_8_9_10_11_12_13_14_15_16_17_18_19_20_21_22_23_24_25_26_27_28_29_30_31_32_33_34_35_36_37_38_39_40_41_42_43_44_45_46_47_48_49_50_51_52 rfl).trans rfl) ?_
    refine z_bipush C (-99) dL_orders_152 (by decide) ?_
    refine z_iload C dL_orders_154 rfl ?_
    refine z_isub C dL_orders_156 ?_
    refine z_top (y := (-103)) (by decide) ?_
    refine z_icmp_eq_t C 162 dL_orders_157 (by decide) rfl ?_
    refine z_aload_n C 0 dL_orders_162 rfl rfl ?_
    have htx2 : ∀ j, tyL tx [48 + dd, 48, 99, 45] j < 65536 := tyL_b htx (by intro c hc9; simp at hc9; omega)
    refine z_callV (wn := (WRd X.2.1 x0 h0 h1 w0 w1 t r S o kp Q (tyL (tyL tx [48 + dd, 48, 99, 45]) []) 0 ps3)) C kX5_clearText gL_orders_X5_clearText (l_clr X.2.1 x0 (t 0) h0 w0 w1 (tyL tx [48 + dd, 48, 99, 45]) 4 ps3 (by decide)) dL_orders_163 [0, 51, 52] [] 0 rfl rfl nd_0_51_52 rfl rfl rfl (by decide) (by decide) (Nat.le_of_ble_eq_true rfl) rfl ((zput_par nd_0_51_52 rfl).trans rfl) ?_
    refine z_pop C dL_orders_166 rfl ?_
    refine z_aload_n C 0 dL_orders_167 rfl rfl ?_
    refine z_bipush C (nI 43) dL_orders_168 (by decide) ?_
    refine z_callV (wn := (WRd X.2.1 x0 h0 h1 w0 w1 t r S o kp Q (tyL (tyL tx [48 + dd, 48, 99, 45]) [43]) 1 ps3)) C kX5_type gL_orders_X5_type (l_typ X.2.1 x0 (t 0) h0 w0 w1 (tyL tx [48 + dd, 48, 99, 45]) [] ps3 43 0 rfl (by decide) htx2 (fun c hc9 => absurd hc9 List.not_mem_nil) (by omega)) dL_orders_170 [0, 51, 52] [] 0 rfl rfl nd_0_51_52 rfl rfl rfl (by decide) (by decide) (Nat.le_of_ble_eq_true rfl) rfl ((zput_par nd_0_51_52 rfl).trans rfl) ?_
    refine z_top (y := nI 1) rfl ?_
    refine z_pop C dL_orders_173 rfl ?_
    refine z_aload_n C 0 dL_orders_174 rfl rfl ?_
    refine z_iload C dL_orders_175 rfl ?_
    refine z_nif_ne_t C 185 dL_orders_177 (by decide) (by omega) (by omega) ?_
    refine z_bipush C (nI 99) dL_orders_185 (by decide) ?_
    refine z_callV (wn := (WRd X.2.1 x0 h0 h1 w0 w1 t r S o kp Q (tyL (tyL tx [48 + dd, 48, 99, 45]) [99, 43]) 2 ps3)) C kX5_type gL_orders_X5_type (l_typ X.2.1 x0 (t 0) h0 w0 w1 (tyL tx [48 + dd, 48, 99, 45]) [43] ps3 99 1 rfl (by decide) htx2 (by intro c hc9; simp at hc9; omega) (by omega)) dL_orders_187 [0, 51, 52] [] 0 rfl rfl nd_0_51_52 rfl rfl rfl (by decide) (by decide) (Nat.le_of_ble_eq_true rfl) rfl ((zput_par nd_0_51_52 rfl).trans rfl) ?_
    refine z_top (y := nI 2) rfl ?_
    refine z_pop C dL_orders_190 rfl ?_
    refine z_aload_n C 0 dL_orders_191 rfl rfl ?_
    refine z_bipush C (nI 48) dL_orders_192 (by decide) ?_
    refine z_callV (wn := (WRd X.2.1 x0 h0 h1 w0 w1 t r S o kp Q (tyL (tyL tx [48 + dd, 48, 99, 45]) [48, 99, 43]) 3 ps3)) C kX5_type gL_orders_X5_type (l_typ X.2.1 x0 (t 0) h0 w0 w1 (tyL tx [48 + dd, 48, 99, 45]) [99, 43] ps3 48 2 rfl (by decide) htx2 (by intro c hc9; simp at hc9; omega) (by omega)) dL_orders_194 [0, 51, 52] [] 0 rfl rfl nd_0_51_52 rfl rfl rfl (by decide) (by decide) (Nat.le_of_ble_eq_true rfl) rfl ((zput_par nd_0_51_52 rfl).trans rfl) ?_
    refine z_top (y := nI 3) rfl ?_
    refine z_pop C dL_orders_197 rfl ?_
    refine z_aload_n C 0 dL_orders_198 rfl rfl ?_
    refine z_bipush C (nI 32) dL_orders_199 (by decide) ?_
    refine z_callV (wn := (WRd X.2.1 x0 h0 h1 w0 w1 t r S o kp Q (tyL (tyL tx [48 + dd, 48, 99, 45]) [32, 48, 99, 43]) 4 ps3)) C kX5_type gL_orders_X5_type (l_typ X.2.1 x0 (t 0) h0 w0 w1 (tyL tx [48 + dd, 48, 99, 45]) [48, 99, 43] ps3 32 3 rfl (by decide) htx2 (by intro c hc9; simp at hc9; omega) (by omega)) dL_orders_201 [0, 51, 52] [] 0 rfl rfl nd_0_51_52 rfl rfl rfl (by decide) (by decide) (Nat.le_of_ble_eq_true rfl) rfl ((zput_par nd_0_51_52 rfl).trans rfl) ?_
    refine z_top (y := nI 4) rfl ?_
    refine z_pop C dL_orders_204 rfl ?_
    refine z_aload_n C 0 dL_orders_205 rfl rfl ?_
    refine z_bipush C (nI 43) dL_orders_206 (by decide) ?_
    refine z_callV (wn := (WRd X.2.1 x0 h0 h1 w0 w1 t r S o kp Q (tyL (tyL tx [48 + dd, 48, 99, 45]) [43, 32, 48, 99, 43]) 5 ps3)) C kX5_type gL_orders_X5_type (l_typ X.2.1 x0 (t 0) h0 w0 w1 (tyL tx [48 + dd, 48, 99, 45]) [32, 48, 99, 43] ps3 43 4 rfl (by decide) htx2 (by intro c hc9; simp at hc9; omega) (by omega)) dL_orders_208 [0, 51, 52] [] 0 rfl rfl nd_0_51_52 rfl rfl rfl (by decide) (by decide) (Nat.le_of_ble_eq_true rfl) rfl ((zput_par nd_0_51_52 rfl).trans rfl) ?_
    refine z_top (y := nI 5) rfl ?_
    refine z_pop C dL_orders_211 rfl ?_
    refine z_aload_n C 0 dL_orders_212 rfl rfl ?_
    refine z_iload C dL_orders_213 rfl ?_
    refine z_nif_ne_t C 223 dL_orders_215 (by decide) (by omega) (by omega) ?_
    refine z_bipush C (nI 99) dL_orders_223 (by decide) ?_
    refine z_callV (wn := (WRd X.2.1 x0 h0 h1 w0 w1 t r S o kp Q (tyL (tyL tx [48 + dd, 48, 99, 45]) [99, 43, 32, 48, 99, 43]) 6 ps3)) C kX5_type gL_orders_X5_type (l_typ X.2.1 x0 (t 0) h0 w0 w1 (tyL tx [48 + dd, 48, 99, 45]) [43, 32, 48, 99, 43] ps3 99 5 rfl (by decide) htx2 (by intro c hc9; simp at hc9; omega) (by omega)) dL_orders_225 [0, 51, 52] [] 0 rfl rfl nd_0_51_52 rfl rfl rfl (by decide) (by decide) (Nat.le_of_ble_eq_true rfl) rfl ((zput_par nd_0_51_52 rfl).trans rfl) ?_
    refine z_top (y := nI 6) rfl ?_
    refine z_pop C dL_orders_228 rfl ?_
    refine z_aload_n C 0 dL_orders_229 rfl rfl ?_
    refine z_bipush C (nI 57) dL_orders_230 (by decide) ?_
    refine z_callV (wn := (WRd X.2.1 x0 h0 h1 w0 w1 t r S o kp Q (tyL (tyL tx [48 + dd, 48, 99, 45]) [57, 99, 43, 32, 48, 99, 43]) 7 ps3)) C kX5_type gL_orders_X5_type (l_typ X.2.1 x0 (t 0) h0 w0 w1 (tyL tx [48 + dd, 48, 99, 45]) [99, 43, 32, 48, 99, 43] ps3 57 6 rfl (by decide) htx2 (by intro c hc9; simp at hc9; omega) (by omega)) dL_orders_232 [0, 51, 52] [] 0 rfl rfl nd_0_51_52 rfl rfl rfl (by decide) (by decide) (Nat.le_of_ble_eq_true rfl) rfl ((zput_par nd_0_51_52 rfl).trans rfl) ?_
    refine z_top (y := nI 7) rfl ?_
    refine z_pop C dL_orders_235 rfl ?_
    refine z_aload_n C 0 dL_orders_236 rfl rfl ?_
    refine z_bipush C (nI 57) dL_orders_237 (by decide) ?_
    refine z_callV (wn := (WRd X.2.1 x0 h0 h1 w0 w1 t r S o kp Q (tyL (tyL tx [48 + dd, 48, 99, 45]) [57, 57, 99, 43, 32, 48, 99, 43]) 8 ps3)) C kX5_type gL_orders_X5_type (l_typ X.2.1 x0 (t 0) h0 w0 w1 (tyL tx [48 + dd, 48, 99, 45]) [57, 99, 43, 32, 48, 99, 43] ps3 57 7 rfl (by decide) htx2 (by intro c hc9; simp at hc9; omega) (by omega)) dL_orders_239 [0, 51, 52] [] 0 rfl rfl nd_0_51_52 rfl rfl rfl (by decide) (by decide) (Nat.le_of_ble_eq_true rfl) rfl ((zput_par nd_0_51_52 rfl).trans rfl) ?_
    refine z_top (y := nI 8) rfl ?_
    refine z_istore C dL_orders_242 (Nat.le_of_ble_eq_true rfl) ?_
    refine z_lv (lv' := [some (.ref x0), some (.int (nI au)), some (.int g), some (.int h), some (.int (nI 1)), some (.int (nI (uU S 1))), some (.int (nI (mK S))), some (.int (nI 0)), some (.int (nI 8)), some (.int (nI 1)), none]) rfl ?_
    refine z_iload C dL_orders_244 rfl ?_
    refine z_iload C dL_orders_246 rfl ?_
    refine z_nif_ne_t C 256 dL_orders_248 (by decide) (by omega) (by omega) ?_
    refine z_bipush C (nI 8) dL_orders_256 (by decide) ?_
    refine z_ncmp_eq_t C 273 dL_orders_258 (by decide) (by omega) (by omega) (by omega) ?_
    refine z_iconst C (nI 0) dL_orders_273 (by decide) ?_
    refine z_goto C 278 dL_orders_274 (by decide) ?_
    refine z_istore C dL_orders_278 (Nat.le_of_ble_eq_true rfl) ?_
    refine z_lv (lv' := [some (.ref x0), some (.int (nI au)), some (.int g), some (.int h), some (.int (nI 1)), some (.int (nI (uU S 1))), some (.int (nI (mK S))), some (.int (nI 0)), some (.int (nI 8)), some (.int (nI 1)), some (.int (nI 0))]) rfl ?_
    refine z_aload_n C 0 dL_orders_280 rfl rfl ?_
    refine z_iload_n C 1 dL_orders_281 rfl rfl ?_
    refine z_callV (wn := (WRd X.2.1 x0 h0 h1 w0 w1 t r S1 o1 kp1 Q1 (tyL (tyL tx [48 + dd, 48, 99, 45]) [57, 57, 99, 43, 32, 48, 99, 43]) 8 ps4)) C kX5_run gL_orders_X5_run m5 dL_orders_282 [0, 1, 2, 3, 4, 5, 6, 7, 8, 9, 10, 11, 12, 13, 14, 15, 16, 17, 18, 19, 20, 21, 22, 23, 24, 25, 26, 27, 28, 29, 30, 31, 32, 33, 34, 35, 36, 37, 38, 39, 40, 41, 42, 43, 44, 45, 46, 47, 48, 49, 50, 51, 52] [] 0 rfl rfl nd_0_1_2_3_4_5_6_7_8_9_10_11_12_13_14_15_16_17_18_19_20_21_22_23_24_25_26_27_28_29_30_31_32_33_34_35_36_37_38_39_40_41_42_43_44_45_46_47_48_49_50_51_52 rfl rfl rfl (by decide) (by decide) (Nat.le_of_ble_eq_true rfl) rfl ((zput_par nd_0_1_2_3_4_5_6_7_8_9_10_11_12_13_14_15_16_17_18_19_20_21_22_23_24_25_26_27_28_29_30_31_32_33_34_35_36_37_38_39_40_41_42_43_44_45_46_47_48_49_50_51_52 rfl).trans rfl) ?_
    refine z_iload C dL_orders_285 rfl ?_
    refine z_ncmp_ne_f C 305 dL_orders_287 (by decide) (by omega) (by omega) (by omega) ?_
    refine z_aload_n C 0 dL_orders_290 rfl rfl ?_
    refine z_iconst C (nI 0) dL_orders_291 (by decide) ?_
    refine z_iload C dL_orders_292 rfl ?_
    refine z_callVr C kX5_size gL_orders_X5_size (l_size0 X.2.1 x0 h0 w0 t S1 1 hG1 (by decide)) dL_orders_294 [0, 1, 2, 3, 4, 5, 6, 7, 8] [] 0 rfl nd_0_1_2_3_4_5_6_7_8 rfl rfl rfl (by decide) (by decide) (Nat.le_of_ble_eq_true rfl) rfl ?_
    refine z_iload C dL_orders_297 rfl ?_
    refine z_iload C dL_orders_299 rfl ?_
    refine z_iadd C dL_orders_301 ?_
    refine z_top (y := nI (uU S 1)) (nI_add _ _) ?_
    refine z_ncmp_eq_t C 307 dL_orders_302 (by decide) (by omega) (by omega) (by omega) ?_
    refine z_aload_n C 0 dL_orders_307 rfl rfl ?_
    refine z_bipush C (nI 57) dL_orders_308 (by decide) ?_
    refine z_callV (wn := (WRd X.2.1 x0 h0 h1 w0 w1 t r S1 o1 kp1 Q1 (tyL (tyL tx [48 + dd, 48, 99, 45]) [57, 57, 57, 99, 43, 32, 48, 99, 43]) 9 ps4)) C kX5_type gL_orders_X5_type (l_typ X.2.1 x0 (t 0) h0 w0 w1 (tyL tx [48 + dd, 48, 99, 45]) [57, 57, 99, 43, 32, 48, 99, 43] ps4 57 8 rfl (by decide) htx2 (by intro c hc9; simp at hc9; omega) (by omega)) dL_orders_310 [0, 51, 52] [] 0 rfl rfl nd_0_51_52 rfl rfl rfl (by decide) (by decide) (Nat.le_of_ble_eq_true rfl) rfl ((zput_par nd_0_51_52 rfl).trans rfl) ?_
    refine z_top (y := nI 9) rfl ?_
    refine z_pop C dL_orders_313 rfl ?_
    refine z_aload_n C 0 dL_orders_314 rfl rfl ?_
    refine z_iload_n C 1 dL_orders_315 rfl rfl ?_
    refine z_callV (wn := (WRd X.2.1 x0 h0 h1 w0 w1 t r S1 o1 kp1 Q1 (tyL (tyL tx [48 + dd, 48, 99, 45]) [57, 57, 57, 99, 43, 32, 48, 99, 43]) 9 ps5)) C kX5_run gL_orders_X5_run m6 dL_orders_316 [0, 1, 2, 3, 4, 5, 6, 7, 8, 9, 10, 11, 12, 13, 14, 15, 16, 17, 18, 19, 20, 21, 22, 23, 24, 25, 26, 27, 28, 29, 30, 31, 32, 33, 34, 35, 36, 37, 38, 39, 40, 41, 42, 43, 44, 45, 46, 47, 48, 49, 50, 51, 52] [] 0 rfl rfl nd_0_1_2_3_4_5_6_7_8_9_10_11_12_13_14_15_16_17_18_19_20_21_22_23_24_25_26_27_28_29_30_31_32_33_34_35_36_37_38_39_40_41_42_43_44_45_46_47_48_49_50_51_52 rfl rfl rfl (by decide) (by decide) (Nat.le_of_ble_eq_true rfl) rfl ((zput_par nd_0_1_2_3_4_5_6_7_8_9_10_11_12_13_14_15_16_17_18_19_20_21_22_23_24_25_26_27_28_29_30_31_32_33_34_35_36_37_38_39_40_41_42_43_44_45_46_47_48_49_50_51_52 rfl).trans rfl) ?_
    refine z_bipush C (-100) dL_orders_319 (by decide) ?_
    refine z_iload C dL_orders_321 rfl ?_
    refine z_isub C dL_orders_323 ?_
    refine z_top (y := (-108)) (by decide) ?_
    refine z_icmp_ne_f C 360 dL_orders_324 (by decide) rfl ?_
    refine z_aload_n C 0 dL_orders_327 rfl rfl ?_
    refine z_callV (wn := (WRd X.2.1 x0 h0 h1 w0 w1 t r S o2 kp2 Q1 (tyL (tyL tx [48 + dd, 48, 99, 45]) [57, 57, 57, 99, 43, 32, 48, 99, 43]) 9 ps5)) C kX5_undo gL_orders_X5_undo m7 dL_orders_328 [0, 1, 2, 3, 4, 5, 6, 7, 8, 9, 10, 11, 12, 13, 14, 15, 16, 17, 18, 19, 20, 21, 22, 23, 24, 25, 26, 27, 28, 29, 30, 31, 32, 33, 34, 35, 36, 37, 38, 39, 40, 41, 42, 43, 44, 45, 46, 47, 48, 49, 50] [] 0 rfl rfl nd_0_1_2_3_4_5_6_7_8_9_10_11_12_13_14_15_16_17_18_19_20_21_22_23_24_25_26_27_28_29_30_31_32_33_34_35_36_37_38_39_40_41_42_43_44_45_46_47_48_49_50 rfl rfl rfl (by decide) (by decide) (Nat.le_of_ble_eq_true rfl) rfl ((zput_par nd_0_1_2_3_4_5_6_7_8_9_10_11_12_13_14_15_16_17_18_19_20_21_22_23_24_25_26_27_28_29_30_31_32_33_34_35_36_37_38_39_40_41_42_43_44_45_46_47_48_49_50 rfl).trans rfl) ?_
    refine z_nif_lt_f C 360 dL_orders_331 (by decide) (by omega) (by trivial) ?_
    refine z_aload_n C 0 dL_orders_334 rfl rfl ?_
    refine z_iconst C (nI 0) dL_orders_335 (by decide) ?_
    refine z_iload C dL_orders_336 rfl ?_
    refine z_callVr C kX5_size gL_orders_X5_size (l_size0 X.2.1 x0 h0 w0 t S 1 hG (by decide)) dL_orders_338 [0, 1, 2, 3, 4, 5, 6, 7, 8] [] 0 rfl nd_0_1_2_3_4_5_6_7_8 rfl rfl rfl (by decide) (by decide) (Nat.le_of_ble_eq_true rfl) rfl ?_
    refine z_iload C dL_orders_341 rfl ?_
    refine z_ncmp_ne_f C 360 dL_orders_343 (by decide) (by omega) (by omega) (by omega) ?_
    refine z_aload_n C 0 dL_orders_346 rfl rfl ?_
    refine z_iconst C (nI 0) dL_orders_347 (by decide) ?_
    refine z_callVr C kX5_count gL_orders_X5_count (l_cnt0 X.2.1 x0 h0 h1 w0 w1 t S o2 kp2 9 ps5  hG ) dL_orders_348 [0, 1, 2, 3, 4, 5, 6, 7, 8, 9, 51] [] 0 rfl nd_0_1_2_3_4_5_6_7_8_9_51 rfl rfl rfl (by decide) (by decide) (Nat.le_of_ble_eq_true rfl) rfl ?_
    refine z_iload C dL_orders_351 rfl ?_
    refine z_ncmp_ne_f C 360 dL_orders_353 (by decide) (by omega) (by omega) (by omega) ?_
    refine z_iconst C (nI 1) dL_orders_356 (by decide) ?_
    refine z_goto C 361 dL_orders_357 (by decide) ?_
    exact z_zret C N dL_orders_361 rfl (rfl) (rfl)
  · refine z_iconst C (nI 1) dL_orders_56 (by decide) ?_
    refine z_goto C 61 dL_orders_57 (by decide) ?_
    refine z_istore C dL_orders_61 (Nat.le_of_ble_eq_true rfl) ?_
    refine z_lv (lv' := [some (.ref x0), some (.int (nI au)), some (.int g), some (.int h), some (.int (nI 1)), some (.int (nI (uU S 1))), some (.int (nI (mK S))), some (.int (nI 1)), none, none, none]) rfl ?_
    refine z_aload_n C 0 dL_orders_63 rfl rfl ?_
    refine z_iload_n C 2 dL_orders_64 rfl rfl ?_
    refine z_iconst C (nI 2) dL_orders_65 (by decide) ?_
    refine z_iand C dL_orders_66 ?_
    refine z_if_ne_t C 75 dL_orders_67 (by decide) hg2 ?_
    refine z_bipush C (nI 45) dL_orders_75 (by decide) ?_
    refine z_callV (wn := (WRd X.2.1 x0 h0 h1 w0 w1 t r S o kp Q (tyL tx [45]) 1 ps1)) C kX5_type gL_orders_X5_type (l_typ X.2.1 x0 (t 0) h0 w0 w1 tx [] ps1 45 0 rfl (by decide) htx (fun c hc9 => absurd hc9 List.not_mem_nil) (by omega)) dL_orders_77 [0, 51, 52] [] 0 rfl rfl nd_0_51_52 rfl rfl rfl (by decide) (by decide) (Nat.le_of_ble_eq_true rfl) rfl ((zput_par nd_0_51_52 rfl).trans rfl) ?_
    refine z_top (y := nI 1) rfl ?_
    refine z_istore C dL_orders_80 (Nat.le_of_ble_eq_true rfl) ?_
    refine z_lv (lv' := [some (.ref x0), some (.int (nI au)), some (.int g), some (.int h), some (.int (nI 1)), some (.int (nI (uU S 1))), some (.int (nI (mK S))), some (.int (nI 1)), some (.int (nI 1)), none, none]) rfl ?_
    refine z_aload_n C 0 dL_orders_82 rfl rfl ?_
    refine z_iload_n C 1 dL_orders_83 rfl rfl ?_
    refine z_callV (wn := (WRd X.2.1 x0 h0 h1 w0 w1 t r S o kp Q (tyL tx [45]) 1 ps2)) C kX5_run gL_orders_X5_run m3 dL_orders_84 [0, 1, 2, 3, 4, 5, 6, 7, 8, 9, 10, 11, 12, 13, 14, 15, 16, 17, 18, 19, 20, 21, 22, 23, 24, 25, 26, 27, 28, 29, 30, 31, 32, 33, 34, 35, 36, 37, 38, 39, 40, 41, 42, 43, 44, 45, 46, 47, 48, 49, 50, 51, 52] [] 0 rfl rfl nd_0_1_2_3_4_5_6_7_8_9_10_11_12_13_14_15_16_17_18_19_20_21_22_23_24_25_26_27_28_29_30_31_32_33_34_35_36_37_38_39_40_41_42_43_44_45_46_47_48_49_50_51_52 rfl rfl rfl (by decide) (by decide) (Nat.le_of_ble_eq_true rfl) rfl ((zput_par nd_0_1_2_3_4_5_6_7_8_9_10_11_12_13_14_15_16_17_18_19_20_21_22_23_24_25_26_27_28_29_30_31_32_33_34_35_36_37_38_39_40_41_42_43_44_45_46_47_48_49_50_51_52 rfl).trans rfl) ?_
    refine z_bipush C (-100) dL_orders_87 (by decide) ?_
    refine z_iload C dL_orders_89 rfl ?_
    refine z_isub C dL_orders_91 ?_
    refine z_top (y := (-101)) (by decide) ?_
    refine z_icmp_ne_f C 99 dL_orders_92 (by decide) rfl ?_
    refine z_iconst C (nI 1) dL_orders_95 (by decide) ?_
    refine z_goto C 100 dL_orders_96 (by decide) ?_
    refine z_istore C dL_orders_100 (Nat.le_of_ble_eq_true rfl) ?_
    refine z_lv (lv' := [some (.ref x0), some (.int (nI au)), some (.int g), some (.int h), some (.int (nI 1)), some (.int (nI (uU S 1))), some (.int (nI (mK S))), some (.int (nI 1)), some (.int (nI 1)), some (.int (nI 1)), none]) rfl ?_
    refine z_aload_n C 0 dL_orders_102 rfl rfl ?_
    refine z_iload C dL_orders_103 rfl ?_
    refine z_nif_ne_t C 113 dL_orders_105 (by decide) (by omega) (by omega) ?_
    refine z_bipush C (nI 99) dL_orders_113 (by decide) ?_
    refine z_callV (wn := (WRd X.2.1 x0 h0 h1 w0 w1 t r S o kp Q (tyL tx [99, 45]) 2 ps2)) C kX5_type gL_orders_X5_type (l_typ X.2.1 x0 (t 0) h0 w0 w1 tx [45] ps2 99 1 rfl (by decide) htx (by intro c hc9; simp at hc9; omega) (by omega)) dL_orders_115 [0, 51, 52] [] 0 rfl rfl nd_0_51_52 rfl rfl rfl (by decide) (by decide) (Nat.le_of_ble_eq_true rfl) rfl ((zput_par nd_0_51_52 rfl).trans rfl) ?_
    refine z_top (y := nI 2) rfl ?_
    refine z_pop C dL_orders_118 rfl ?_
    refine z_aload_n C 0 dL_orders_119 rfl rfl ?_
    refine z_bipush C (nI 48) dL_orders_120 (by decide) ?_
    refine z_callV (wn := (WRd X.2.1 x0 h0 h1 w0 w1 t r S o kp Q (tyL tx [48, 99, 45]) 3 ps2)) C kX5_type gL_orders_X5_type (l_typ X.2.1 x0 (t 0) h0 w0 w1 tx [99, 45] ps2 48 2 rfl (by decide) htx (by intro c hc9; simp at hc9; omega) (by omega)) dL_orders_122 [0, 51, 52] [] 0 rfl rfl nd_0_51_52 rfl rfl rfl (by decide) (by decide) (Nat.le_of_ble_eq_true rfl) rfl ((zput_par nd_0_51_52 rfl).trans rfl) ?_
    refine z_top (y := nI 3) rfl ?_
    refine z_pop C dL_orders_125 rfl ?_
    refine z_aload_n C 0 dL_orders_126 rfl rfl ?_
    refine z_bipush C (nI 48) dL_orders_127 (by decide) ?_
    refine z_iload_n C 3 dL_orders_129 rfl rfl ?_
    refine z_bipush C (nI 10) dL_orders_130 (by decide) ?_
    refine z_callS C kL_low gL_orders_L_low (l_low X.2.1 h 10 (by decide) (by decide)) dL_orders_132 [.int (nI 48), .ref x0] rfl (by decide) (by decide) (Nat.le_of_ble_eq_true rfl) rfl ?_
    refine z_top (y := nI dd) (congrArg nI hd) ?_
    refine z_iadd C dL_orders_135 ?_
    refine z_top (y := nI (48 + dd)) (nI_add _ _) ?_
    refine z_i2c C (nI (48 + dd)) dL_orders_136 (chr_n (by omega)) ?_
    refine z_callV (wn := (WRd X.2.1 x0 h0 h1 w0 w1 t r S o kp Q (tyL tx [48 + dd, 48, 99, 45]) 4 ps2)) C kX5_type gL_orders_X5_type (l_typ X.2.1 x0 (t 0) h0 w0 w1 tx [48, 99, 45] ps2 (48 + dd) 3 rfl (by decide) htx (by intro c hc9; simp at hc9; omega) (by omega)) dL_orders_137 [0, 51, 52] [] 0 rfl rfl nd_0_51_52 rfl rfl rfl (by decide) (by decide) (Nat.le_of_ble_eq_true rfl) rfl ((zput_par nd_0_51_52 rfl).trans rfl) ?_
    refine z_top (y := nI 4) rfl ?_
    refine z_istore C dL_orders_140 (Nat.le_of_ble_eq_true rfl) ?_
    refine z_lv (lv' := [some (.ref x0), some (.int (nI au)), some (.int g), some (.int h), some (.int (nI 1)), some (.int (nI (uU S 1))), some (.int (nI (mK S))), some (.int (nI 1)), some (.int (nI 4)), some (.int (nI 1)), none]) rfl ?_
    refine z_iload C dL_orders_142 rfl ?_
    refine z_nif_eq_f C 160 dL_orders_144 (by decide) (by omega) (by omega) ?_
    refine z_aload_n C 0 dL_orders_147 rfl rfl ?_
    refine z_iload_n C 1 dL_orders_148 rfl rfl ?_
    refine z_callV (wn := (WRd X.2.1 x0 h0 h1 w0 w1 t r S o kp Q (tyL tx [48 + dd, 48, 99, 45]) 4 ps3)) C kX5_run gL_orders_X5_run m4 dL_orders_149 [0, 1, 2, 3, 4, 5, 6, 7, 8, 9, 10, 11, 12, 13, 14, 15, 16, 17, 18, 19, 20, 21, 22, 23, 24, 25, 26, 27, 28, 29, 30, 31, 32, 33, 34, 35, 36, 37, 38, 39, 40, 41, 42, 43, 44, 45, 46, 47, 48, 49, 50, 51, 52] [] 0 rfl rfl nd_0_1_2_3_4_5_6_7_8_9_10_11_12_13_14_15_16_17_18_19_20_21_22_23_24_25_26_27_28_29_30_31_32_33_34_35_36_37_38_39_40_41_42_43_44_45_46_47_48_49_50_51_52 rfl rfl rfl (by decide) (by decide) (Nat.le_of_ble_eq_true rfl) rfl ((zput_par nd_0_1_2_3_4_5_6_7_8_9_10_11_12_13_14_15_16_17_18_19_20_21_22_23_24_25_26_27_28_29_30_31_32_33_34_35_36_37_38_39_40_41_42_43_44_45_46_47_48_49_50_51_52 rfl).trans rfl) ?_
    refine z_bipush C (-99) dL_orders_152 (by decide) ?_
    refine z_iload C dL_orders_154 rfl ?_
    refine z_isub C dL_orders_156 ?_
    refine z_top (y := (-103)) (by decide) ?_
    refine z_icmp_eq_t C 162 dL_orders_157 (by decide) rfl ?_
    refine z_aload_n C 0 dL_orders_162 rfl rfl ?_
    have htx2 : ∀ j, tyL tx [48 + dd, 48, 99, 45] j < 65536 := tyL_b htx (by intro c hc9; simp at hc9; omega)
    refine z_callV (wn := (WRd X.2.1 x0 h0 h1 w0 w1 t r S o kp Q (tyL (tyL tx [48 + dd, 48, 99, 45]) []) 0 ps3)) C kX5_clearText gL_orders_X5_clearText (l_clr X.2.1 x0 (t 0) h0 w0 w1 (tyL tx [48 + dd, 48, 99, 45]) 4 ps3 (by decide)) dL_orders_163 [0, 51, 52] [] 0 rfl rfl nd_0_51_52 rfl rfl rfl (by decide) (by decide) (Nat.le_of_ble_eq_true rfl) rfl ((zput_par nd_0_51_52 rfl).trans rfl) ?_
    refine z_pop C dL_orders_166 rfl ?_
    refine z_aload_n C 0 dL_orders_167 rfl rfl ?_
    refine z_bipush C (nI 43) dL_orders_168 (by decide) ?_
    refine z_callV (wn := (WRd X.2.1 x0 h0 h1 w0 w1 t r S o kp Q (tyL (tyL tx [48 + dd, 48, 99, 45]) [43]) 1 ps3)) C kX5_type gL_orders_X5_type (l_typ X.2.1 x0 (t 0) h0 w0 w1 (tyL tx [48 + dd, 48, 99, 45]) [] ps3 43 0 rfl (by decide) htx2 (fun c hc9 => absurd hc9 List.not_mem_nil) (by omega)) dL_orders_170 [0, 51, 52] [] 0 rfl rfl nd_0_51_52 rfl rfl rfl (by decide) (by decide) (Nat.le_of_ble_eq_true rfl) rfl ((zput_par nd_0_51_52 rfl).trans rfl) ?_
    refine z_top (y := nI 1) rfl ?_
    refine z_pop C dL_orders_173 rfl ?_
    refine z_aload_n C 0 dL_orders_174 rfl rfl ?_
    refine z_iload C dL_orders_175 rfl ?_
    refine z_nif_ne_t C 185 dL_orders_177 (by decide) (by omega) (by omega) ?_
    refine z_bipush C (nI 99) dL_orders_185 (by decide) ?_
    refine z_callV (wn := (WRd X.2.1 x0 h0 h1 w0 w1 t r S o kp Q (tyL (tyL tx [48 + dd, 48, 99, 45]) [99, 43]) 2 ps3)) C kX5_type gL_orders_X5_type (l_typ X.2.1 x0 (t 0) h0 w0 w1 (tyL tx [48 + dd, 48, 99, 45]) [43] ps3 99 1 rfl (by decide) htx2 (by intro c hc9; simp at hc9; omega) (by omega)) dL_orders_187 [0, 51, 52] [] 0 rfl rfl nd_0_51_52 rfl rfl rfl (by decide) (by decide) (Nat.le_of_ble_eq_true rfl) rfl ((zput_par nd_0_51_52 rfl).trans rfl) ?_
    refine z_top (y := nI 2) rfl ?_
    refine z_pop C dL_orders_190 rfl ?_
    refine z_aload_n C 0 dL_orders_191 rfl rfl ?_
    refine z_bipush C (nI 48) dL_orders_192 (by decide) ?_
    refine z_callV (wn := (WRd X.2.1 x0 h0 h1 w0 w1 t r S o kp Q (tyL (tyL tx [48 + dd, 48, 99, 45]) [48, 99, 43]) 3 ps3)) C kX5_type gL_orders_X5_type (l_typ X.2.1 x0 (t 0) h0 w0 w1 (tyL tx [48 + dd, 48, 99, 45]) [99, 43] ps3 48 2 rfl (by decide) htx2 (by intro c hc9; simp at hc9; omega) (by omega)) dL_orders_194 [0, 51, 52] [] 0 rfl rfl nd_0_51_52 rfl rfl rfl (by decide) (by decide) (Nat.le_of_ble_eq_true rfl) rfl ((zput_par nd_0_51_52 rfl).trans rfl) ?_
    refine z_top (y := nI 3) rfl ?_
    refine z_pop C dL_orders_197 rfl ?_
    refine z_aload_n C 0 dL_orders_198 rfl rfl ?_
    refine z_bipush C (nI 32) dL_orders_199 (by decide) ?_
    refine z_callV (wn := (WRd X.2.1 x0 h0 h1 w0 w1 t r S o kp Q (tyL (tyL tx [48 + dd, 48, 99, 45]) [32, 48, 99, 43]) 4 ps3)) C kX5_type gL_orders_X5_type (l_typ X.2.1 x0 (t 0) h0 w0 w1 (tyL tx [48 + dd, 48, 99, 45]) [48, 99, 43] ps3 32 3 rfl (by decide) htx2 (by intro c hc9; simp at hc9; omega) (by omega)) dL_orders_201 [0, 51, 52] [] 0 rfl rfl nd_0_51_52 rfl rfl rfl (by decide) (by decide) (Nat.le_of_ble_eq_true rfl) rfl ((zput_par nd_0_51_52 rfl).trans rfl) ?_
    refine z_top (y := nI 4) rfl ?_
    refine z_pop C dL_orders_204 rfl ?_
    refine z_aload_n C 0 dL_orders_205 rfl rfl ?_
    refine z_bipush C (nI 43) dL_orders_206 (by decide) ?_
    refine z_callV (wn := (WRd X.2.1 x0 h0 h1 w0 w1 t r S o kp Q (tyL (tyL tx [48 + dd, 48, 99, 45]) [43, 32, 48, 99, 43]) 5 ps3)) C kX5_type gL_orders_X5_type (l_typ X.2.1 x0 (t 0) h0 w0 w1 (tyL tx [48 + dd, 48, 99, 45]) [32, 48, 99, 43] ps3 43 4 rfl (by decide) htx2 (by intro c hc9; simp at hc9; omega) (by omega)) dL_orders_208 [0, 51, 52] [] 0 rfl rfl nd_0_51_52 rfl rfl rfl (by decide) (by decide) (Nat.le_of_ble_eq_true rfl) rfl ((zput_par nd_0_51_52 rfl).trans rfl) ?_
    refine z_top (y := nI 5) rfl ?_
    refine z_pop C dL_orders_211 rfl ?_
    refine z_aload_n C 0 dL_orders_212 rfl rfl ?_
    refine z_iload C dL_orders_213 rfl ?_
    refine z_nif_ne_t C 223 dL_orders_215 (by decide) (by omega) (by omega) ?_
    refine z_bipush C (nI 99) dL_orders_223 (by decide) ?_
    refine z_callV (wn := (WRd X.2.1 x0 h0 h1 w0 w1 t r S o kp Q (tyL (tyL tx [48 + dd, 48, 99, 45]) [99, 43, 32, 48, 99, 43]) 6 ps3)) C kX5_type gL_orders_X5_type (l_typ X.2.1 x0 (t 0) h0 w0 w1 (tyL tx [48 + dd, 48, 99, 45]) [43, 32, 48, 99, 43] ps3 99 5 rfl (by decide) htx2 (by intro c hc9; simp at hc9; omega) (by omega)) dL_orders_225 [0, 51, 52] [] 0 rfl rfl nd_0_51_52 rfl rfl rfl (by decide) (by decide) (Nat.le_of_ble_eq_true rfl) rfl ((zput_par nd_0_51_52 rfl).trans rfl) ?_
    refine z_top (y := nI 6) rfl ?_
    refine z_pop C dL_orders_228 rfl ?_
    refine z_aload_n C 0 dL_orders_229 rfl rfl ?_
    refine z_bipush C (nI 57) dL_orders_230 (by decide) ?_
    refine z_callV (wn := (WRd X.2.1 x0 h0 h1 w0 w1 t r S o kp Q (tyL (tyL tx [48 + dd, 48, 99, 45]) [57, 99, 43, 32, 48, 99, 43]) 7 ps3)) C kX5_type gL_orders_X5_type (l_typ X.2.1 x0 (t 0) h0 w0 w1 (tyL tx [48 + dd, 48, 99, 45]) [99, 43, 32, 48, 99, 43] ps3 57 6 rfl (by decide) htx2 (by intro c hc9; simp at hc9; omega) (by omega)) dL_orders_232 [0, 51, 52] [] 0 rfl rfl nd_0_51_52 rfl rfl rfl (by decide) (by decide) (Nat.le_of_ble_eq_true rfl) rfl ((zput_par nd_0_51_52 rfl).trans rfl) ?_
    refine z_top (y := nI 7) rfl ?_
    refine z_pop C dL_orders_235 rfl ?_
    refine z_aload_n C 0 dL_orders_236 rfl rfl ?_
    refine z_bipush C (nI 57) dL_orders_237 (by decide) ?_
    refine z_callV (wn := (WRd X.2.1 x0 h0 h1 w0 w1 t r S o kp Q (tyL (tyL tx [48 + dd, 48, 99, 45]) [57, 57, 99, 43, 32, 48, 99, 43]) 8 ps3)) C kX5_type gL_orders_X5_type (l_typ X.2.1 x0 (t 0) h0 w0 w1 (tyL tx [48 + dd, 48, 99, 45]) [57, 99, 43, 32, 48, 99, 43] ps3 57 7 rfl (by decide) htx2 (by intro c hc9; simp at hc9; omega) (by omega)) dL_orders_239 [0, 51, 52] [] 0 rfl rfl nd_0_51_52 rfl rfl rfl (by decide) (by decide) (Nat.le_of_ble_eq_true rfl) rfl ((zput_par nd_0_51_52 rfl).trans rfl) ?_
    refine z_top (y := nI 8) rfl ?_
    refine z_istore C dL_orders_242 (Nat.le_of_ble_eq_true rfl) ?_
    refine z_lv (lv' := [some (.ref x0), some (.int (nI au)), some (.int g), some (.int h), some (.int (nI 1)), some (.int (nI (uU S 1))), some (.int (nI (mK S))), some (.int (nI 1)), some (.int (nI 8)), some (.int (nI 1)), none]) rfl ?_
    refine z_iload C dL_orders_244 rfl ?_
    refine z_iload C dL_orders_246 rfl ?_
    refine z_nif_ne_t C 256 dL_orders_248 (by decide) (by omega) (by omega) ?_
    refine z_bipush C (nI 8) dL_orders_256 (by decide) ?_
    refine z_ncmp_eq_t C 273 dL_orders_258 (by decide) (by omega) (by omega) (by omega) ?_
    refine z_iconst C (nI 0) dL_orders_273 (by decide) ?_
    refine z_goto C 278 dL_orders_274 (by decide) ?_
    refine z_istore C dL_orders_278 (Nat.le_of_ble_eq_true rfl) ?_
    refine z_lv (lv' := [some (.ref x0), some (.int (nI au)), some (.int g), some (.int h), some (.int (nI 1)), some (.int (nI (uU S 1))), some (.int (nI (mK S))), some (.int (nI 1)), some (.int (nI 8)), some (.int (nI 1)), some (.int (nI 0))]) rfl ?_
    refine z_aload_n C 0 dL_orders_280 rfl rfl ?_
    refine z_iload_n C 1 dL_orders_281 rfl rfl ?_
    refine z_callV (wn := (WRd X.2.1 x0 h0 h1 w0 w1 t r S1 o1 kp1 Q1 (tyL (tyL tx [48 + dd, 48, 99, 45]) [57, 57, 99, 43, 32, 48, 99, 43]) 8 ps4)) C kX5_run gL_orders_X5_run m5 dL_orders_282 [0, 1, 2, 3, 4, 5, 6, 7, 8, 9, 10, 11, 12, 13, 14, 15, 16, 17, 18, 19, 20, 21, 22, 23, 24, 25, 26, 27, 28, 29, 30, 31, 32, 33, 34, 35, 36, 37, 38, 39, 40, 41, 42, 43, 44, 45, 46, 47, 48, 49, 50, 51, 52] [] 0 rfl rfl nd_0_1_2_3_4_5_6_7_8_9_10_11_12_13_14_15_16_17_18_19_20_21_22_23_24_25_26_27_28_29_30_31_32_33_34_35_36_37_38_39_40_41_42_43_44_45_46_47_48_49_50_51_52 rfl rfl rfl (by decide) (by decide) (Nat.le_of_ble_eq_true rfl) rfl ((zput_par nd_0_1_2_3_4_5_6_7_8_9_10_11_12_13_14_15_16_17_18_19_20_21_22_23_24_25_26_27_28_29_30_31_32_33_34_35_36_37_38_39_40_41_42_43_44_45_46_47_48_49_50_51_52 rfl).trans rfl) ?_
    refine z_iload C dL_orders_285 rfl ?_
    refine z_ncmp_ne_f C 305 dL_orders_287 (by decide) (by omega) (by omega) (by omega) ?_
    refine z_aload_n C 0 dL_orders_290 rfl rfl ?_
    refine z_iconst C (nI 0) dL_orders_291 (by decide) ?_
    refine z_iload C dL_orders_292 rfl ?_
    refine z_callVr C kX5_size gL_orders_X5_size (l_size0 X.2.1 x0 h0 w0 t S1 1 hG1 (by decide)) dL_orders_294 [0, 1, 2, 3, 4, 5, 6, 7, 8] [] 0 rfl nd_0_1_2_3_4_5_6_7_8 rfl rfl rfl (by decide) (by decide) (Nat.le_of_ble_eq_true rfl) rfl ?_
    refine z_iload C dL_orders_297 rfl ?_
    refine z_iload C dL_orders_299 rfl ?_
    refine z_iadd C dL_orders_301 ?_
    refine z_top (y := nI (uU S 1)) (nI_add _ _) ?_
    refine z_ncmp_eq_t C 307 dL_orders_302 (by decide) (by omega) (by omega) (by omega) ?_
    refine z_aload_n C 0 dL_orders_307 rfl rfl ?_
    refine z_bipush C (nI 57) dL_orders_308 (by decide) ?_
    refine z_callV (wn := (WRd X.2.1 x0 h0 h1 w0 w1 t r S1 o1 kp1 Q1 (tyL (tyL tx [48 + dd, 48, 99, 45]) [57, 57, 57, 99, 43, 32, 48, 99, 43]) 9 ps4)) C kX5_type gL_orders_X5_type (l_typ X.2.1 x0 (t 0) h0 w0 w1 (tyL tx [48 + dd, 48, 99, 45]) [57, 57, 99, 43, 32, 48, 99, 43] ps4 57 8 rfl (by decide) htx2 (by intro c hc9; simp at hc9; omega) (by omega)) dL_orders_310 [0, 51, 52] [] 0 rfl rfl nd_0_51_52 rfl rfl rfl (by decide) (by decide) (Nat.le_of_ble_eq_true rfl) rfl ((zput_par nd_0_51_52 rfl).trans rfl) ?_
    refine z_top (y := nI 9) rfl ?_
    refine z_pop C dL_orders_313 rfl ?_
    refine z_aload_n C 0 dL_orders_314 rfl rfl ?_
    refine z_iload_n C 1 dL_orders_315 rfl rfl ?_
    refine z_callV (wn := (WRd X.2.1 x0 h0 h1 w0 w1 t r S1 o1 kp1 Q1 (tyL (tyL tx [48 + dd, 48, 99, 45]) [57, 57, 57, 99, 43, 32, 48, 99, 43]) 9 ps5)) C kX5_run gL_orders_X5_run m6 dL_orders_316 [0, 1, 2, 3, 4, 5, 6, 7, 8, 9, 10, 11, 12, 13, 14, 15, 16, 17, 18, 19, 20, 21, 22, 23, 24, 25, 26, 27, 28, 29, 30, 31, 32, 33, 34, 35, 36, 37, 38, 39, 40, 41, 42, 43, 44, 45, 46, 47, 48, 49, 50, 51, 52] [] 0 rfl rfl nd_0_1_2_3_4_5_6_7_8_9_10_11_12_13_14_15_16_17_18_19_20_21_22_23_24_25_26_27_28_29_30_31_32_33_34_35_36_37_38_39_40_41_42_43_44_45_46_47_48_49_50_51_52 rfl rfl rfl (by decide) (by decide) (Nat.le_of_ble_eq_true rfl) rfl ((zput_par nd_0_1_2_3_4_5_6_7_8_9_10_11_12_13_14_15_16_17_18_19_20_21_22_23_24_25_26_27_28_29_30_31_32_33_34_35_36_37_38_39_40_41_42_43_44_45_46_47_48_49_50_51_52 rfl).trans rfl) ?_
    refine z_bipush C (-100) dL_orders_319 (by decide) ?_
    refine z_iload C dL_orders_321 rfl ?_
    refine z_isub C dL_orders_323 ?_
    refine z_top (y := (-108)) (by decide) ?_
    refine z_icmp_ne_f C 360 dL_orders_324 (by decide) rfl ?_
    refine z_aload_n C 0 dL_orders_327 rfl rfl ?_
    refine z_callV (wn := (WRd X.2.1 x0 h0 h1 w0 w1 t r S o2 kp2 Q1 (tyL (tyL tx [48 + dd, 48, 99, 45]) [57, 57, 57, 99, 43, 32, 48, 99, 43]) 9 ps5)) C kX5_undo gL_orders_X5_undo m7 dL_orders_328 [0, 1, 2, 3, 4, 5, 6, 7, 8, 9, 10, 11, 12, 13, 14, 15, 16, 17, 18, 19, 20, 21, 22, 23, 24, 25, 26, 27, 28, 29, 30, 31, 32, 33, 34, 35, 36, 37, 38, 39, 40, 41, 42, 43, 44, 45, 46, 47, 48, 49, 50] [] 0 rfl rfl nd_0_1_2_3_4_5_6_7_8_9_10_11_12_13_14_15_16_17_18_19_20_21_22_23_24_25_26_27_28_29_30_31_32_33_34_35_36_37_38_39_40_41_42_43_44_45_46_47_48_49_50 rfl rfl rfl (by decide) (by decide) (Nat.le_of_ble_eq_true rfl) rfl ((zput_par nd_0_1_2_3_4_5_6_7_8_9_10_11_12_13_14_15_16_17_18_19_20_21_22_23_24_25_26_27_28_29_30_31_32_33_34_35_36_37_38_39_40_41_42_43_44_45_46_47_48_49_50 rfl).trans rfl) ?_
    refine z_nif_lt_f C 360 dL_orders_331 (by decide) (by omega) (by trivial) ?_
    refine z_aload_n C 0 dL_orders_334 rfl rfl ?_
    refine z_iconst C (nI 0) dL_orders_335 (by decide) ?_
    refine z_iload C dL_orders_336 rfl ?_
    refine z_callVr C kX5_size gL_orders_X5_size (l_size0 X.2.1 x0 h0 w0 t S 1 hG (by decide)) dL_orders_338 [0, 1, 2, 3, 4, 5, 6, 7, 8] [] 0 rfl nd_0_1_2_3_4_5_6_7_8 rfl rfl rfl (by decide) (by decide) (Nat.le_of_ble_eq_true rfl) rfl ?_
    refine z_iload C dL_orders_341 rfl ?_
    refine z_ncmp_ne_f C 360 dL_orders_343 (by decide) (by omega) (by omega) (by omega) ?_
    refine z_aload_n C 0 dL_orders_346 rfl rfl ?_
    refine z_iconst C (nI 0) dL_orders_347 (by decide) ?_
    refine z_callVr C kX5_count gL_orders_X5_count (l_cnt0 X.2.1 x0 h0 h1 w0 w1 t S o2 kp2 9 ps5  hG ) dL_orders_348 [0, 1, 2, 3, 4, 5, 6, 7, 8, 9, 51] [] 0 rfl nd_0_1_2_3_4_5_6_7_8_9_51 rfl rfl rfl (by decide) (by decide) (Nat.le_of_ble_eq_true rfl) rfl ?_
    refine z_iload C dL_orders_351 rfl ?_
    refine z_ncmp_ne_f C 360 dL_orders_353 (by decide) (by omega) (by omega) (by omega) ?_
    refine z_iconst C (nI 1) dL_orders_356 (by decide) ?_
    refine z_goto C 361 dL_orders_357 (by decide) ?_
    exact z_zret C N dL_orders_361 rfl (rfl) (rfl)
