set_option maxHeartbeats 4000000 in
set_option maxRecDepth 100000 in
theorem w_stl1z (E : zE) (x0 h0 h1 w0 w1 : Nat) (t : Nat → Nat) (r : Nat → Nat → Nat) (S : zSt) (o kp kp1 kp2 o1 o2 : Nat) (Q Q1 Q2 : Nat → zSt) (tx : Nat → Nat) (ln : Nat) (ps : zPs) {B : Nat} (g : Int32) (hG : GG S B) (hz : mK S = 0) (m1 : zM E yX5_accept wsX5_accept 7 [.ref x0, .int (nI 0)] (WAd E x0 h0 h1 w0 t r S o kp Q) (WAd E x0 h0 h1 w0 t r S o1 kp1 Q1) (some (.int (-1)))) (m2 : zM E yX5_reject wsX5_reject 6 [.ref x0, .int (nI 0)] (WAd E x0 h0 h1 w0 t r S o1 kp1 Q1) (WAd E x0 h0 h1 w0 t r S o2 kp2 Q2) (some (.int (-1)))) : zM E yL_settles wsL_settles 8 [.ref x0, .int g, .int (nI 1)] (WRd E x0 h0 h1 w0 w1 t r S o kp Q tx ln ps) (WRd E x0 h0 h1 w0 w1 t r S o2 kp2 Q2 tx ln ps) (some (.int (nI 1))) := by
  refine zM.of kL_settles (Nat.le_of_ble_eq_true rfl) rfl [some (.ref x0), some (.int g), some (.int (nI 1)), none, none, none, none, none, none, none, none, none, none, none, none, none, none, none, none, none, none] rfl (Nat.le_of_ble_eq_true rfl) ?_
  intro X eX C N
  subst eX
  have hb0 : uU S 0 ≤ 12 := gg_u hG 0
  have hb1 : uU S 1 ≤ 8 := gg_u1 hG
  have hb2 : mK S ≤ 60 := gg_M hG
  refine z_aload_n C 0 dL_settles_0 rfl rfl ?_
  refine z_iconst C (nI 0) dL_settles_1 (by decide) ?_
  refine z_callVr C kX5_count gL_settles_X5_count (l_cnt0 X.2.1 x0 h0 h1 w0 w1 t S o kp ln ps  hG ) dL_settles_2 [0, 1, 2, 3, 4, 5, 6, 7, 8, 9, 51] [] 0 rfl nd_0_1_2_3_4_5_6_7_8_9_51 rfl rfl rfl (by decide) (by decide) (Nat.le_of_ble_eq_true rfl) rfl ?_
  refine z_istore_n C 3 dL_settles_5 rfl (Nat.le_of_ble_eq_true rfl) ?_
  refine z_lv (lv' := [some (.ref x0), some (.int g), some (.int (nI 1)), some (.int (nI (mK S))), none, none, none, none, none, none, none, none, none, none, none, none, none, none, none, none, none]) rfl ?_
  refine z_iload_n C 3 dL_settles_6 rfl rfl ?_
  refine z_nif_ne_f C 34 dL_settles_7 (by decide) (by omega) (by omega) ?_
  refine z_aload_n C 0 dL_settles_10 rfl rfl ?_
  refine z_iconst C (nI 0) dL_settles_11 (by decide) ?_
  refine z_callV (wn := (WRd X.2.1 x0 h0 h1 w0 w1 t r S o1 kp1 Q1 tx ln ps)) C kX5_accept gL_settles_X5_accept m1 dL_settles_12 [0, 1, 2, 3, 4, 5, 6, 7, 8, 9, 10, 11, 12, 13, 14, 15, 16, 17, 18, 19, 20, 21, 22, 23, 24, 25, 26, 27, 28, 29, 30, 31, 32, 33, 34, 35, 36, 37, 38, 39, 40, 41, 42, 43, 44, 45, 46, 47, 48, 49, 50] [] 0 rfl rfl nd_0_1_2_3_4_5_6_7_8_9_10_11_12_13_14_15_16_17_18_19_20_21_22_23_24_25_26_27_28_29_30_31_32_33_34_35_36_37_38_39_40_41_42_43_44_45_46_47_48_49_50 rfl rfl rfl (by decide) (by decide) (Nat.le_of_ble_eq_true rfl) rfl ((zput_par nd_0_1_2_3_4_5_6_7_8_9_10_11_12_13_14_15_16_17_18_19_20_21_22_23_24_25_26_27_28_29_30_31_32_33_34_35_36_37_38_39_40_41_42_43_44_45_46_47_48_49_50 rfl).trans rfl) ?_
  refine z_iconst C (-1) dL_settles_15 (by decide) ?_
  refine z_icmp_ne_f C 32 dL_settles_16 (by decide) rfl ?_
  refine z_aload_n C 0 dL_settles_19 rfl rfl ?_
  refine z_iconst C (nI 0) dL_settles_20 (by decide) ?_
  refine z_callV (wn := (WRd X.2.1 x0 h0 h1 w0 w1 t r S o2 kp2 Q2 tx ln ps)) C kX5_reject gL_settles_X5_reject m2 dL_settles_21 [0, 1, 2, 3, 4, 5, 6, 7, 8, 9, 10, 11, 12, 13, 14, 15, 16, 17, 18, 19, 20, 21, 22, 23, 24, 25, 26, 27, 28, 29, 30, 31, 32, 33, 34, 35, 36, 37, 38, 39, 40, 41, 42, 43, 44, 45, 46, 47, 48, 49, 50] [] 0 rfl rfl nd_0_1_2_3_4_5_6_7_8_9_10_11_12_13_14_15_16_17_18_19_20_21_22_23_24_25_26_27_28_29_30_31_32_33_34_35_36_37_38_39_40_41_42_43_44_45_46_47_48_49_50 rfl rfl rfl (by decide) (by decide) (Nat.le_of_ble_eq_true rfl) rfl ((zput_par nd_0_1_2_3_4_5_6_7_8_9_10_11_12_13_14_15_16_17_18_19_20_21_22_23_24_25_26_27_28_29_30_31_32_33_34_35_36_37_38_39_40_41_42_43_44_45_46_47_48_49_50 rfl).trans rfl) ?_
  refine z_iconst C (-1) dL_settles_24 (by decide) ?_
  refine z_icmp_ne_f C 32 dL_settles_25 (by decide) rfl ?_
  refine z_iconst C (nI 1) dL_settles_28 (by decide) ?_
  refine z_goto C 33 dL_settles_29 (by decide) ?_
  exact z_zret C N dL_settles_33 rfl (rfl) (rfl)

set_option maxHeartbeats 4000000 in
set_option maxRecDepth 100000 in
theorem w_stl1n (E : zE) (x0 h0 h1 w0 w1 : Nat) (t : Nat → Nat) (r : Nat → Nat → Nat) (S : zSt) (o kp kp1 o1 : Nat) (Q Q1 : Nat → zSt) (tx : Nat → Nat) (ln : Nat) (ps : zPs) {B : Nat} (g : Int32) (x : Nat) (hG : GG S B) (hX : lw g (mK S) = x) (hx : x < mK S) (hs : sN S x ≠ 0) (m1 : zM E yX5_accept wsX5_accept 7 [.ref x0, .int (nI x)] (WAd E x0 h0 h1 w0 t r S o kp Q) (WAd E x0 h0 h1 w0 t r S o1 kp1 Q1) (some (.int (-4)))) : zM E yL_settles wsL_settles 8 [.ref x0, .int g, .int (nI 1)] (WRd E x0 h0 h1 w0 w1 t r S o kp Q tx ln ps) (WRd E x0 h0 h1 w0 w1 t r S o1 kp1 Q1 tx ln ps) (some (.int (nI 1))) := by
  refine zM.of kL_settles (Nat.le_of_ble_eq_true rfl) rfl [some (.ref x0), some (.int g), some (.int (nI 1)), none, none, none, none, none, none, none, none, none, none, none, none, none, none, none, none, none, none] rfl (Nat.le_of_ble_eq_true rfl) ?_
  intro X eX C N
  subst eX
  have hb0 : uU S 0 ≤ 12 := gg_u hG 0
  have hb1 : uU S 1 ≤ 8 := gg_u1 hG
  have hb2 : mK S ≤ 60 := gg_M hG
  have hkx := (kN_e hG hx).2
  have hsx := (sN_e hG hx).2
  refine z_aload_n C 0 dL_settles_0 rfl rfl ?_
  refine z_iconst C (nI 0) dL_settles_1 (by decide) ?_
  refine z_callVr C kX5_count gL_settles_X5_count (l_cnt0 X.2.1 x0 h0 h1 w0 w1 t S o kp ln ps  hG ) dL_settles_2 [0, 1, 2, 3, 4, 5, 6, 7, 8, 9, 51] [] 0 rfl nd_0_1_2_3_4_5_6_7_8_9_51 rfl rfl rfl (by decide) (by decide) (Nat.le_of_ble_eq_true rfl) rfl ?_
  refine z_istore_n C 3 dL_settles_5 rfl (Nat.le_of_ble_eq_true rfl) ?_
  refine z_lv (lv' := [some (.ref x0), some (.int g), some (.int (nI 1)), some (.int (nI (mK S))), none, none, none, none, none, none, none, none, none, none, none, none, none, none, none, none, none]) rfl ?_
  refine z_iload_n C 3 dL_settles_6 rfl rfl ?_
  refine z_nif_ne_t C 34 dL_settles_7 (by decide) (by omega) (by omega) ?_
  refine z_iload_n C 1 dL_settles_34 rfl rfl ?_
  refine z_iload_n C 3 dL_settles_35 rfl rfl ?_
  refine z_callS C kL_low gL_settles_L_low (l_low X.2.1 g (mK S) (by omega) (by omega)) dL_settles_36 [] rfl (by decide) (by decide) (Nat.le_of_ble_eq_true rfl) rfl ?_
  refine z_top (y := nI x) (congrArg nI hX) ?_
  refine z_istore C dL_settles_39 (Nat.le_of_ble_eq_true rfl) ?_
  refine z_lv (lv' := [some (.ref x0), some (.int g), some (.int (nI 1)), some (.int (nI (mK S))), some (.int (nI x)), none, none, none, none, none, none, none, none, none, none, none, none, none, none, none, none]) rfl ?_
  refine z_aload_n C 0 dL_settles_41 rfl rfl ?_
  refine z_iload C dL_settles_42 rfl ?_
  refine z_iconst C (nI 0) dL_settles_44 (by decide) ?_
  refine z_callVr C kX5_change gL_settles_X5_change (l_chg0 X.2.1 x0 h0 w0 t S x hG hx) dL_settles_45 [0, 1, 2, 3, 4, 5, 6, 7, 8] [] 0 rfl nd_0_1_2_3_4_5_6_7_8 rfl rfl rfl (by decide) (by decide) (Nat.le_of_ble_eq_true rfl) rfl ?_
  refine z_istore C dL_settles_48 (Nat.le_of_ble_eq_true rfl) ?_
  refine z_lv (lv' := [some (.ref x0), some (.int g), some (.int (nI 1)), some (.int (nI (mK S))), some (.int (nI x)), some (.int (nI (kN S x))), none, none, none, none, none, none, none, none, none, none, none, none, none, none, none]) rfl ?_
  refine z_aload_n C 0 dL_settles_50 rfl rfl ?_
  refine z_iload C dL_settles_51 rfl ?_
  refine z_iconst C (nI 2) dL_settles_53 (by decide) ?_
  refine z_callVr C kX5_change gL_settles_X5_change (l_chg2 X.2.1 x0 h0 w0 t S x hG hx) dL_settles_54 [0, 1, 2, 3, 4, 5, 6, 7, 8] [] 0 rfl nd_0_1_2_3_4_5_6_7_8 rfl rfl rfl (by decide) (by decide) (Nat.le_of_ble_eq_true rfl) rfl ?_
  refine z_nif_ne_t C 64 dL_settles_57 (by decide) (by omega) (by omega) ?_
  refine z_iconst C (nI 0) dL_settles_64 (by decide) ?_
  refine z_istore C dL_settles_65 (Nat.le_of_ble_eq_true rfl) ?_
  refine z_lv (lv' := [some (.ref x0), some (.int g), some (.int (nI 1)), some (.int (nI (mK S))), some (.int (nI x)), some (.int (nI (kN S x))), some (.int (nI 0)), none, none, none, none, none, none, none, none, none, none, none, none, none, none]) rfl ?_
  refine z_aload_n C 0 dL_settles_67 rfl rfl ?_
  refine z_iload_n C 2 dL_settles_68 rfl rfl ?_
  refine z_nif_eq_f C 76 dL_settles_69 (by decide) (by omega) (by omega) ?_
  refine z_iconst C (nI 2) dL_settles_72 (by decide) ?_
  refine z_goto C 77 dL_settles_73 (by decide) ?_
  refine z_callVr C kX5_count gL_settles_X5_count (l_cntK X.2.1 x0 h0 h1 w0 w1 t S o kp ln ps 1 hG (by decide)) dL_settles_77 [0, 1, 2, 3, 4, 5, 6, 7, 8, 9, 51] [] 0 rfl nd_0_1_2_3_4_5_6_7_8_9_51 rfl rfl rfl (by decide) (by decide) (Nat.le_of_ble_eq_true rfl) rfl ?_
  have hg_1 : cnS S 1 ≤ mK S := zc_le _ _
  refine z_istore C dL_settles_80 (Nat.le_of_ble_eq_true rfl) ?_
  refine z_lv (lv' := [some (.ref x0), some (.int g), some (.int (nI 1)), some (.int (nI (mK S))), some (.int (nI x)), some (.int (nI (kN S x))), some (.int (nI 0)), some (.int (nI (cnS S 1))), none, none, none, none, none, none, none, none, none, none, none, none, none]) rfl ?_
  refine z_aload_n C 0 dL_settles_82 rfl rfl ?_
  refine z_iload_n C 2 dL_settles_83 rfl rfl ?_
  refine z_nif_eq_f C 91 dL_settles_84 (by decide) (by omega) (by omega) ?_
  refine z_iconst C (nI 3) dL_settles_87 (by decide) ?_
  refine z_goto C 92 dL_settles_88 (by decide) ?_
  refine z_callVr C kX5_count gL_settles_X5_count (l_cntK X.2.1 x0 h0 h1 w0 w1 t S o kp ln ps 2 hG (by decide)) dL_settles_92 [0, 1, 2, 3, 4, 5, 6, 7, 8, 9, 51] [] 0 rfl nd_0_1_2_3_4_5_6_7_8_9_51 rfl rfl rfl (by decide) (by decide) (Nat.le_of_ble_eq_true rfl) rfl ?_
  have hg_2 : cnS S 2 ≤ mK S := zc_le _ _
  refine z_istore C dL_settles_95 (Nat.le_of_ble_eq_true rfl) ?_
  refine z_lv (lv' := [some (.ref x0), some (.int g), some (.int (nI 1)), some (.int (nI (mK S))), some (.int (nI x)), some (.int (nI (kN S x))), some (.int (nI 0)), some (.int (nI (cnS S 1))), some (.int (nI (cnS S 2))), none, none, none, none, none, none, none, none, none, none, none, none]) rfl ?_
  refine z_aload_n C 0 dL_settles_97 rfl rfl ?_
  refine z_iconst C (nI 4) dL_settles_98 (by decide) ?_
  refine z_callVr C kX5_count gL_settles_X5_count (l_cntK X.2.1 x0 h0 h1 w0 w1 t S o kp ln ps 3 hG (by decide)) dL_settles_99 [0, 1, 2, 3, 4, 5, 6, 7, 8, 9, 51] [] 0 rfl nd_0_1_2_3_4_5_6_7_8_9_51 rfl rfl rfl (by decide) (by decide) (Nat.le_of_ble_eq_true rfl) rfl ?_
  have hg_3 : cnS S 3 ≤ mK S := zc_le _ _
  refine z_istore C dL_settles_102 (Nat.le_of_ble_eq_true rfl) ?_
  refine z_lv (lv' := [some (.ref x0), some (.int g), some (.int (nI 1)), some (.int (nI (mK S))), some (.int (nI x)), some (.int (nI (kN S x))), some (.int (nI 0)), some (.int (nI (cnS S 1))), some (.int (nI (cnS S 2))), some (.int (nI (cnS S 3))), none, none, none, none, none, none, none, none, none, none, none]) rfl ?_
  refine z_aload_n C 0 dL_settles_104 rfl rfl ?_
  refine z_iload C dL_settles_105 rfl ?_
  refine z_iconst C (nI 3) dL_settles_107 (by decide) ?_
  refine z_callVr C kX5_change gL_settles_X5_change (l_chg3 X.2.1 x0 h0 w0 t S x hG hx) dL_settles_108 [0, 1, 2, 3, 4, 5, 6, 7, 8] [] 0 rfl nd_0_1_2_3_4_5_6_7_8 rfl rfl rfl (by decide) (by decide) (Nat.le_of_ble_eq_true rfl) rfl ?_
  refine z_istore C dL_settles_111 (Nat.le_of_ble_eq_true rfl) ?_
  refine z_lv (lv' := [some (.ref x0), some (.int g), some (.int (nI 1)), some (.int (nI (mK S))), some (.int (nI x)), some (.int (nI (kN S x))), some (.int (nI 0)), some (.int (nI (cnS S 1))), some (.int (nI (cnS S 2))), some (.int (nI (cnS S 3))), some (.int (eP (lP S 0 x))), none, none, none, none, none, none, none, none, none, none]) rfl ?_
  refine z_aload_n C 0 dL_settles_113 rfl rfl ?_
  refine z_iload C dL_settles_114 rfl ?_
  refine z_iconst C (nI 4) dL_settles_116 (by decide) ?_
  refine z_callVr C kX5_change gL_settles_X5_change (l_chg4 X.2.1 x0 h0 w0 t S x hG hx) dL_settles_117 [0, 1, 2, 3, 4, 5, 6, 7, 8] [] 0 rfl nd_0_1_2_3_4_5_6_7_8 rfl rfl rfl (by decide) (by decide) (Nat.le_of_ble_eq_true rfl) rfl ?_
  refine z_istore C dL_settles_120 (Nat.le_of_ble_eq_true rfl) ?_
  refine z_lv (lv' := [some (.ref x0), some (.int g), some (.int (nI 1)), some (.int (nI (mK S))), some (.int (nI x)), some (.int (nI (kN S x))), some (.int (nI 0)), some (.int (nI (cnS S 1))), some (.int (nI (cnS S 2))), some (.int (nI (cnS S 3))), some (.int (eP (lP S 0 x))), some (.int (eP (lP S 1 x))), none, none, none, none, none, none, none, none, none]) rfl ?_
  refine z_iload C dL_settles_122 rfl ?_
  refine z_iconst C (nI 2) dL_settles_124 (by decide) ?_
  refine z_idiv C dL_settles_125 (by decide) ?_
  refine z_top (y := nI (kN S x / 2)) (pk_div (by omega) (by decide) (by decide)) ?_
  refine z_istore C dL_settles_126 (Nat.le_of_ble_eq_true rfl) ?_
  refine z_lv (lv' := [some (.ref x0), some (.int g), some (.int (nI 1)), some (.int (nI (mK S))), some (.int (nI x)), some (.int (nI (kN S x))), some (.int (nI 0)), some (.int (nI (cnS S 1))), some (.int (nI (cnS S 2))), some (.int (nI (cnS S 3))), some (.int (eP (lP S 0 x))), some (.int (eP (lP S 1 x))), some (.int (nI (kN S x / 2))), none, none, none, none, none, none, none, none]) rfl ?_
  refine z_iload_n C 2 dL_settles_128 rfl rfl ?_
  refine z_nif_eq_f C 152 dL_settles_129 (by decide) (by omega) (by omega) ?_
  refine z_iload C dL_settles_132 rfl ?_
  refine z_iconst C (nI 1) dL_settles_134 (by decide) ?_
  refine z_ncmp_eq C 144 dL_settles_135 (by decide) (by omega) (by omega) (fun h_4 => ?_) (fun h_4 => ?_)
  · refine z_iconst C (nI 1) dL_settles_144 (by decide) ?_
    refine z_goto C 168 dL_settles_145 (by decide) ?_
    refine z_istore C dL_settles_168 (Nat.le_of_ble_eq_true rfl) ?_
    refine z_lv (lv' := [some (.ref x0), some (.int g), some (.int (nI 1)), some (.int (nI (mK S))), some (.int (nI x)), some (.int (nI (kN S x))), some (.int (nI 0)), some (.int (nI (cnS S 1))), some (.int (nI (cnS S 2))), some (.int (nI (cnS S 3))), some (.int (eP (lP S 0 x))), some (.int (eP (lP S 1 x))), some (.int (nI (kN S x / 2))), some (.int (nI 1)), none, none, none, none, none, none, none]) rfl ?_
    refine z_iload C dL_settles_170 rfl ?_
    refine z_iconst C (nI 4) dL_settles_172 (by decide) ?_
    refine z_ncmp_ne_t C 180 dL_settles_173 (by decide) (by omega) (by omega) (by omega) ?_
    have fd_5 : kN S x / 2 < 2 := by omega
    refine z_aload_n C 0 dL_settles_180 rfl rfl ?_
    refine z_iconst C (nI 0) dL_settles_181 (by decide) ?_
    refine z_iload C dL_settles_182 rfl ?_
    refine z_callVr C kX5_size gL_settles_X5_size (l_size0 X.2.1 x0 h0 w0 t S (kN S x / 2) hG fd_5) dL_settles_184 [0, 1, 2, 3, 4, 5, 6, 7, 8] [] 0 rfl nd_0_1_2_3_4_5_6_7_8 rfl rfl rfl (by decide) (by decide) (Nat.le_of_ble_eq_true rfl) rfl ?_
    refine z_istore C dL_settles_187 (Nat.le_of_ble_eq_true rfl) ?_
    refine z_lv (lv' := [some (.ref x0), some (.int g), some (.int (nI 1)), some (.int (nI (mK S))), some (.int (nI x)), some (.int (nI (kN S x))), some (.int (nI 0)), some (.int (nI (cnS S 1))), some (.int (nI (cnS S 2))), some (.int (nI (cnS S 3))), some (.int (eP (lP S 0 x))), some (.int (eP (lP S 1 x))), some (.int (nI (kN S x / 2))), some (.int (nI 1)), some (.int (nI (uU S (kN S x / 2)))), none, none, none, none, none, none]) rfl ?_
    refine z_aload_n C 0 dL_settles_189 rfl rfl ?_
    refine z_iload C dL_settles_190 rfl ?_
    refine z_iconst C (nI 5) dL_settles_192 (by decide) ?_
    refine z_callVr C kX5_change gL_settles_X5_change (l_chg5n X.2.1 x0 h0 w0 t S x hG hx (by omega)) dL_settles_193 [0, 1, 2, 3, 4, 5, 6, 7, 8] [] 0 rfl nd_0_1_2_3_4_5_6_7_8 rfl rfl rfl (by decide) (by decide) (Nat.le_of_ble_eq_true rfl) rfl ?_
    refine z_istore C dL_settles_196 (Nat.le_of_ble_eq_true rfl) ?_
    refine z_lv (lv' := [some (.ref x0), some (.int g), some (.int (nI 1)), some (.int (nI (mK S))), some (.int (nI x)), some (.int (nI (kN S x))), some (.int (nI 0)), some (.int (nI (cnS S 1))), some (.int (nI (cnS S 2))), some (.int (nI (cnS S 3))), some (.int (eP (lP S 0 x))), some (.int (eP (lP S 1 x))), some (.int (nI (kN S x / 2))), some (.int (nI 1)), some (.int (nI (uU S (kN S x / 2)))), some (.int (-5)), none, none, none, none, none]) rfl ?_
    refine z_iload C dL_settles_198 rfl ?_
    refine z_iconst C (nI 4) dL_settles_200 (by decide) ?_
    refine z_ncmp_eq_f C 209 dL_settles_201 (by decide) (by omega) (by omega) (by omega) ?_
    refine z_iload C dL_settles_204 rfl ?_
    refine z_nif_ne_f C 213 dL_settles_206 (by decide) (by omega) (by omega) ?_
    refine z_iconst C (nI 0) dL_settles_209 (by decide) ?_
    refine z_goto C 232 dL_settles_210 (by decide) ?_
    refine z_istore C dL_settles_232 (Nat.le_of_ble_eq_true rfl) ?_
    refine z_lv (lv' := [some (.ref x0), some (.int g), some (.int (nI 1)), some (.int (nI (mK S))), some (.int (nI x)), some (.int (nI (kN S x))), some (.int (nI 0)), some (.int (nI (cnS S 1))), some (.int (nI (cnS S 2))), some (.int (nI (cnS S 3))), some (.int (eP (lP S 0 x))), some (.int (eP (lP S 1 x))), some (.int (nI (kN S x / 2))), some (.int (nI 1)), some (.int (nI (uU S (kN S x / 2)))), some (.int (-5)), some (.int (nI 0)), none, none, none, none]) rfl ?_
    refine z_iload C dL_settles_234 rfl ?_
    refine z_nif_ne_f C 244 dL_settles_236 (by decide) (by omega) (by omega) ?_
    refine z_bipush C (-4) dL_settles_239 (by decide) ?_
    refine z_goto C 263 dL_settles_241 (by decide) ?_
    refine z_istore C dL_settles_263 (Nat.le_of_ble_eq_true rfl) ?_
    refine z_lv (lv' := [some (.ref x0), some (.int g), some (.int (nI 1)), some (.int (nI (mK S))), some (.int (nI x)), some (.int (nI (kN S x))), some (.int (nI 0)), some (.int (nI (cnS S 1))), some (.int (nI (cnS S 2))), some (.int (nI (cnS S 3))), some (.int (eP (lP S 0 x))), some (.int (eP (lP S 1 x))), some (.int (nI (kN S x / 2))), some (.int (nI 1)), some (.int (nI (uU S (kN S x / 2)))), some (.int (-5)), some (.int (nI 0)), some (.int (-4)), none, none, none]) rfl ?_
    refine z_iload_n C 2 dL_settles_265 rfl rfl ?_
    refine z_nif_eq_f C 278 dL_settles_266 (by decide) (by omega) (by omega) ?_
    refine z_aload_n C 0 dL_settles_269 rfl rfl ?_
    refine z_iload C dL_settles_270 rfl ?_
    refine z_callV (wn := (WRd X.2.1 x0 h0 h1 w0 w1 t r S o1 kp1 Q1 tx ln ps)) C kX5_accept gL_settles_X5_accept m1 dL_settles_272 [0, 1, 2, 3, 4, 5, 6, 7, 8, 9, 10, 11, 12, 13, 14, 15, 16, 17, 18, 19, 20, 21, 22, 23, 24, 25, 26, 27, 28, 29, 30, 31, 32, 33, 34, 35, 36, 37, 38, 39, 40, 41, 42, 43, 44, 45, 46, 47, 48, 49, 50] [] 0 rfl rfl nd_0_1_2_3_4_5_6_7_8_9_10_11_12_13_14_15_16_17_18_19_20_21_22_23_24_25_26_27_28_29_30_31_32_33_34_35_36_37_38_39_40_41_42_43_44_45_46_47_48_49_50 rfl rfl rfl (by decide) (by decide) (Nat.le_of_ble_eq_true rfl) rfl ((zput_par nd_0_1_2_3_4_5_6_7_8_9_10_11_12_13_14_15_16_17_18_19_20_21_22_23_24_25_26_27_28_29_30_31_32_33_34_35_36_37_38_39_40_41_42_43_44_45_46_47_48_49_50 rfl).trans rfl) ?_
    refine z_goto C 284 dL_settles_275 (by decide) ?_
    refine z_istore C dL_settles_284 (Nat.le_of_ble_eq_true rfl) ?_
    refine z_lv (lv' := [some (.ref x0), some (.int g), some (.int (nI 1)), some (.int (nI (mK S))), some (.int (nI x)), some (.int (nI (kN S x))), some (.int (nI 0)), some (.int (nI (cnS S 1))), some (.int (nI (cnS S 2))), some (.int (nI (cnS S 3))), some (.int (eP (lP S 0 x))), some (.int (eP (lP S 1 x))), some (.int (nI (kN S x / 2))), some (.int (nI 1)), some (.int (nI (uU S (kN S x / 2)))), some (.int (-5)), some (.int (nI 0)), some (.int (-4)), some (.int (-4)), none, none]) rfl ?_
    refine z_iload C dL_settles_286 rfl ?_
    refine z_iload C dL_settles_288 rfl ?_
    refine z_icmp_ne_f C 311 dL_settles_290 (by decide) rfl ?_
    refine z_aload_n C 0 dL_settles_293 rfl rfl ?_
    refine z_iload_n C 2 dL_settles_294 rfl rfl ?_
    refine z_nif_eq_f C 302 dL_settles_295 (by decide) (by omega) (by omega) ?_
    refine z_iconst C (nI 3) dL_settles_298 (by decide) ?_
    refine z_goto C 303 dL_settles_299 (by decide) ?_
    refine z_callVr C kX5_count gL_settles_X5_count (l_cntK X.2.1 x0 h0 h1 w0 w1 t S o1 kp1 ln ps 2 hG (by decide)) dL_settles_303 [0, 1, 2, 3, 4, 5, 6, 7, 8, 9, 51] [] 0 rfl nd_0_1_2_3_4_5_6_7_8_9_51 rfl rfl rfl (by decide) (by decide) (Nat.le_of_ble_eq_true rfl) rfl ?_
    have hg_6 : cnS S 2 ≤ mK S := zc_le _ _
    refine z_iload C dL_settles_306 rfl ?_
    refine z_ncmp_eq_t C 313 dL_settles_308 (by decide) (by omega) (by omega) (by omega) ?_
    refine z_iload C dL_settles_313 rfl ?_
    refine z_nif_ne_f C 320 dL_settles_315 (by decide) (by omega) (by omega) ?_
    refine z_iconst C (nI 1) dL_settles_318 (by decide) ?_
    exact z_zret C N dL_settles_319 rfl (rfl) (rfl)
  · refine z_iload C dL_settles_138 rfl ?_
    refine z_iconst C (nI 3) dL_settles_140 (by decide) ?_
    refine z_ncmp_ne C 148 dL_settles_141 (by decide) (by omega) (by omega) (fun h_7 => ?_) (fun h_7 => ?_)
    · refine z_iconst C (nI 0) dL_settles_148 (by decide) ?_
      refine z_goto C 168 dL_settles_149 (by decide) ?_
      refine z_istore C dL_settles_168 (Nat.le_of_ble_eq_true rfl) ?_
      refine z_lv (lv' := [some (.ref x0), some (.int g), some (.int (nI 1)), some (.int (nI (mK S))), some (.int (nI x)), some (.int (nI (kN S x))), some (.int (nI 0)), some (.int (nI (cnS S 1))), some (.int (nI (cnS S 2))), some (.int (nI (cnS S 3))), some (.int (eP (lP S 0 x))), some (.int (eP (lP S 1 x))), some (.int (nI (kN S x / 2))), some (.int (nI 0)), none, none, none, none, none, none, none]) rfl ?_
      refine z_iload C dL_settles_170 rfl ?_
      refine z_iconst C (nI 4) dL_settles_172 (by decide) ?_
      refine z_ncmp_ne C 180 dL_settles_173 (by decide) (by omega) (by omega) (fun h_8 => ?_) (fun h_8 => ?_)
      · have fd_9 : kN S x / 2 < 2 := by omega
        refine z_aload_n C 0 dL_settles_180 rfl rfl ?_
        refine z_iconst C (nI 0) dL_settles_181 (by decide) ?_
        refine z_iload C dL_settles_182 rfl ?_
        refine z_callVr C kX5_size gL_settles_X5_size (l_size0 X.2.1 x0 h0 w0 t S (kN S x / 2) hG fd_9) dL_settles_184 [0, 1, 2, 3, 4, 5, 6, 7, 8] [] 0 rfl nd_0_1_2_3_4_5_6_7_8 rfl rfl rfl (by decide) (by decide) (Nat.le_of_ble_eq_true rfl) rfl ?_
        refine z_istore C dL_settles_187 (Nat.le_of_ble_eq_true rfl) ?_
        refine z_lv (lv' := [some (.ref x0), some (.int g), some (.int (nI 1)), some (.int (nI (mK S))), some (.int (nI x)), some (.int (nI (kN S x))), some (.int (nI 0)), some (.int (nI (cnS S 1))), some (.int (nI (cnS S 2))), some (.int (nI (cnS S 3))), some (.int (eP (lP S 0 x))), some (.int (eP (lP S 1 x))), some (.int (nI (kN S x / 2))), some (.int (nI 0)), some (.int (nI (uU S (kN S x / 2)))), none, none, none, none, none, none]) rfl ?_
        refine z_aload_n C 0 dL_settles_189 rfl rfl ?_
        refine z_iload C dL_settles_190 rfl ?_
        refine z_iconst C (nI 5) dL_settles_192 (by decide) ?_
        refine z_callVr C kX5_change gL_settles_X5_change (l_chg5n X.2.1 x0 h0 w0 t S x hG hx h_8) dL_settles_193 [0, 1, 2, 3, 4, 5, 6, 7, 8] [] 0 rfl nd_0_1_2_3_4_5_6_7_8 rfl rfl rfl (by decide) (by decide) (Nat.le_of_ble_eq_true rfl) rfl ?_
        refine z_istore C dL_settles_196 (Nat.le_of_ble_eq_true rfl) ?_
        refine z_lv (lv' := [some (.ref x0), some (.int g), some (.int (nI 1)), some (.int (nI (mK S))), some (.int (nI x)), some (.int (nI (kN S x))), some (.int (nI 0)), some (.int (nI (cnS S 1))), some (.int (nI (cnS S 2))), some (.int (nI (cnS S 3))), some (.int (eP (lP S 0 x))), some (.int (eP (lP S 1 x))), some (.int (nI (kN S x / 2))), some (.int (nI 0)), some (.int (nI (uU S (kN S x / 2)))), some (.int (-5)), none, none, none, none, none]) rfl ?_
        refine z_iload C dL_settles_198 rfl ?_
        refine z_iconst C (nI 4) dL_settles_200 (by decide) ?_
        refine z_ncmp_eq_f C 209 dL_settles_201 (by decide) (by omega) (by omega) (by omega) ?_
        refine z_iload C dL_settles_204 rfl ?_
        refine z_nif_ne_f C 213 dL_settles_206 (by decide) (by omega) (by omega) ?_
        refine z_iconst C (nI 0) dL_settles_209 (by decide) ?_
        refine z_goto C 232 dL_settles_210 (by decide) ?_
        refine z_istore C dL_settles_232 (Nat.le_of_ble_eq_true rfl) ?_
        refine z_lv (lv' := [some (.ref x0), some (.int g), some (.int (nI 1)), some (.int (nI (mK S))), some (.int (nI x)), some (.int (nI (kN S x))), some (.int (nI 0)), some (.int (nI (cnS S 1))), some (.int (nI (cnS S 2))), some (.int (nI (cnS S 3))), some (.int (eP (lP S 0 x))), some (.int (eP (lP S 1 x))), some (.int (nI (kN S x / 2))), some (.int (nI 0)), some (.int (nI (uU S (kN S x / 2)))), some (.int (-5)), some (.int (nI 0)), none, none, none, none]) rfl ?_
        refine z_iload C dL_settles_234 rfl ?_
        refine z_nif_ne_f C 244 dL_settles_236 (by decide) (by omega) (by omega) ?_
        refine z_bipush C (-4) dL_settles_239 (by decide) ?_
        refine z_goto C 263 dL_settles_241 (by decide) ?_
        refine z_istore C dL_settles_263 (Nat.le_of_ble_eq_true rfl) ?_
        refine z_lv (lv' := [some (.ref x0), some (.int g), some (.int (nI 1)), some (.int (nI (mK S))), some (.int (nI x)), some (.int (nI (kN S x))), some (.int (nI 0)), some (.int (nI (cnS S 1))), some (.int (nI (cnS S 2))), some (.int (nI (cnS S 3))), some (.int (eP (lP S 0 x))), some (.int (eP (lP S 1 x))), some (.int (nI (kN S x / 2))), some (.int (nI 0)), some (.int (nI (uU S (kN S x / 2)))), some (.int (-5)), some (.int (nI 0)), some (.int (-4)), none, none, none]) rfl ?_
        refine z_iload_n C 2 dL_settles_265 rfl rfl ?_
        refine z_nif_eq_f C 278 dL_settles_266 (by decide) (by omega) (by omega) ?_
        refine z_aload_n C 0 dL_settles_269 rfl rfl ?_
        refine z_iload C dL_settles_270 rfl ?_
        refine z_callV (wn := (WRd X.2.1 x0 h0 h1 w0 w1 t r S o1 kp1 Q1 tx ln ps)) C kX5_accept gL_settles_X5_accept m1 dL_settles_272 [0, 1, 2, 3, 4, 5, 6, 7, 8, 9, 10, 11, 12, 13, 14, 15, 16, 17, 18, 19, 20, 21, 22, 23, 24, 25, 26, 27, 28, 29, 30, 31, 32, 33, 34, 35, 36, 37, 38, 39, 40, 41, 42, 43, 44, 45, 46, 47, 48, 49, 50] [] 0 rfl rfl nd_0_1_2_3_4_5_6_7_8_9_10_11_12_13_14_15_16_17_18_19_20_21_22_23_24_25_26_27_28_29_30_31_32_33_34_35_36_37_38_39_40_41_42_43_44_45_46_47_48_49_50 rfl rfl rfl (by decide) (by decide) (Nat.le_of_ble_eq_true rfl) rfl ((zput_par nd_0_1_2_3_4_5_6_7_8_9_10_11_12_13_14_15_16_17_18_19_20_21_22_23_24_25_26_27_28_29_30_31_32_33_34_35_36_37_38_39_40_41_42_43_44_45_46_47_48_49_50 rfl).trans rfl) ?_
        refine z_goto C 284 dL_settles_275 (by decide) ?_
        refine z_istore C dL_settles_284 (Nat.le_of_ble_eq_true rfl) ?_
        refine z_lv (lv' := [some (.ref x0), some (.int g), some (.int (nI 1)), some (.int (nI (mK S))), some (.int (nI x)), some (.int (nI (kN S x))), some (.int (nI 0)), some (.int (nI (cnS S 1))), some (.int (nI (cnS S 2))), some (.int (nI (cnS S 3))), some (.int (eP (lP S 0 x))), some (.int (eP (lP S 1 x))), some (.int (nI (kN S x / 2))), some (.int (nI 0)), some (.int (nI (uU S (kN S x / 2)))), some (.int (-5)), some (.int (nI 0)), some (.int (-4)), some (.int (-4)), none, none]) rfl ?_
        refine z_iload C dL_settles_286 rfl ?_
        refine z_iload C dL_settles_288 rfl ?_
        refine z_icmp_ne_f C 311 dL_settles_290 (by decide) rfl ?_
        refine z_aload_n C 0 dL_settles_293 rfl rfl ?_
        refine z_iload_n C 2 dL_settles_294 rfl rfl ?_
        refine z_nif_eq_f C 302 dL_settles_295 (by decide) (by omega) (by omega) ?_
        refine z_iconst C (nI 3) dL_settles_298 (by decide) ?_
        refine z_goto C 303 dL_settles_299 (by decide) ?_
        refine z_callVr C kX5_count gL_settles_X5_count (l_cntK X.2.1 x0 h0 h1 w0 w1 t S o1 kp1 ln ps 2 hG (by decide)) dL_settles_303 [0, 1, 2, 3, 4, 5, 6, 7, 8, 9, 51] [] 0 rfl nd_0_1_2_3_4_5_6_7_8_9_51 rfl rfl rfl (by decide) (by decide) (Nat.le_of_ble_eq_true rfl) rfl ?_
        have hg_10 : cnS S 2 ≤ mK S := zc_le _ _
        refine z_iload C dL_settles_306 rfl ?_
        refine z_ncmp_eq_t C 313 dL_settles_308 (by decide) (by omega) (by omega) (by omega) ?_
        refine z_iload C dL_settles_313 rfl ?_
        refine z_nif_ne_f C 320 dL_settles_315 (by decide) (by omega) (by omega) ?_
        refine z_iconst C (nI 1) dL_settles_318 (by decide) ?_
        exact z_zret C N dL_settles_319 rfl (rfl) (rfl)
      · refine z_iconst C (nI 0) dL_settles_176 (by decide) ?_
        refine z_goto C 187 dL_settles_177 (by decide) ?_
        refine z_istore C dL_settles_187 (Nat.le_of_ble_eq_true rfl) ?_
        refine z_lv (lv' := [some (.ref x0), some (.int g), some (.int (nI 1)), some (.int (nI (mK S))), some (.int (nI x)), some (.int (nI (kN S x))), some (.int (nI 0)), some (.int (nI (cnS S 1))), some (.int (nI (cnS S 2))), some (.int (nI (cnS S 3))), some (.int (eP (lP S 0 x))), some (.int (eP (lP S 1 x))), some (.int (nI (kN S x / 2))), some (.int (nI 0)), some (.int (nI 0)), none, none, none, none, none, none]) rfl ?_
        refine z_aload_n C 0 dL_settles_189 rfl rfl ?_
        refine z_iload C dL_settles_190 rfl ?_
        refine z_iconst C (nI 5) dL_settles_192 (by decide) ?_
        refine z_callVr C kX5_change gL_settles_X5_change (l_chg5y X.2.1 x0 h0 w0 t S x hG hx h_8) dL_settles_193 [0, 1, 2, 3, 4, 5, 6, 7, 8] [] 0 rfl nd_0_1_2_3_4_5_6_7_8 rfl rfl rfl (by decide) (by decide) (Nat.le_of_ble_eq_true rfl) rfl ?_
        refine z_istore C dL_settles_196 (Nat.le_of_ble_eq_true rfl) ?_
        refine z_lv (lv' := [some (.ref x0), some (.int g), some (.int (nI 1)), some (.int (nI (mK S))), some (.int (nI x)), some (.int (nI (kN S x))), some (.int (nI 0)), some (.int (nI (cnS S 1))), some (.int (nI (cnS S 2))), some (.int (nI (cnS S 3))), some (.int (eP (lP S 0 x))), some (.int (eP (lP S 1 x))), some (.int (nI (kN S x / 2))), some (.int (nI 0)), some (.int (nI 0)), some (.int (nI (vN S x))), none, none, none, none, none]) rfl ?_
        refine z_iload C dL_settles_198 rfl ?_
        refine z_iconst C (nI 4) dL_settles_200 (by decide) ?_
        refine z_ncmp_eq_t C 209 dL_settles_201 (by decide) (by omega) (by omega) (by omega) ?_
        refine z_iconst C (nI 0) dL_settles_209 (by decide) ?_
        refine z_goto C 232 dL_settles_210 (by decide) ?_
        refine z_istore C dL_settles_232 (Nat.le_of_ble_eq_true rfl) ?_
        refine z_lv (lv' := [some (.ref x0), some (.int g), some (.int (nI 1)), some (.int (nI (mK S))), some (.int (nI x)), some (.int (nI (kN S x))), some (.int (nI 0)), some (.int (nI (cnS S 1))), some (.int (nI (cnS S 2))), some (.int (nI (cnS S 3))), some (.int (eP (lP S 0 x))), some (.int (eP (lP S 1 x))), some (.int (nI (kN S x / 2))), some (.int (nI 0)), some (.int (nI 0)), some (.int (nI (vN S x))), some (.int (nI 0)), none, none, none, none]) rfl ?_
        refine z_iload C dL_settles_234 rfl ?_
        refine z_nif_ne_f C 244 dL_settles_236 (by decide) (by omega) (by omega) ?_
        refine z_bipush C (-4) dL_settles_239 (by decide) ?_
        refine z_goto C 263 dL_settles_241 (by decide) ?_
        refine z_istore C dL_settles_263 (Nat.le_of_ble_eq_true rfl) ?_
        refine z_lv (lv' := [some (.ref x0), some (.int g), some (.int (nI 1)), some (.int (nI (mK S))), some (.int (nI x)), some (.int (nI (kN S x))), some (.int (nI 0)), some (.int (nI (cnS S 1))), some (.int (nI (cnS S 2))), some (.int (nI (cnS S 3))), some (.int (eP (lP S 0 x))), some (.int (eP (lP S 1 x))), some (.int (nI (kN S x / 2))), some (.int (nI 0)), some (.int (nI 0)), some (.int (nI (vN S x))), some (.int (nI 0)), some (.int (-4)), none, none, none]) rfl ?_
        refine z_iload_n C 2 dL_settles_265 rfl rfl ?_
        refine z_nif_eq_f C 278 dL_settles_266 (by decide) (by omega) (by omega) ?_
        refine z_aload_n C 0 dL_settles_269 rfl rfl ?_
        refine z_iload C dL_settles_270 rfl ?_
        refine z_callV (wn := (WRd X.2.1 x0 h0 h1 w0 w1 t r S o1 kp1 Q1 tx ln ps)) C kX5_accept gL_settles_X5_accept m1 dL_settles_272 [0, 1, 2, 3, 4, 5, 6, 7, 8, 9, 10, 11, 12, 13, 14, 15, 16, 17, 18, 19, 20, 21, 22, 23, 24, 25, 26, 27, 28, 29, 30, 31, 32, 33, 34, 35, 36, 37, 38, 39, 40, 41, 42, 43, 44, 45, 46, 47, 48, 49, 50] [] 0 rfl rfl nd_0_1_2_3_4_5_6_7_8_9_10_11_12_13_14_15_16_17_18_19_20_21_22_23_24_25_26_27_28_29_30_31_32_33_34_35_36_37_38_39_40_41_42_43_44_45_46_47_48_49_50 rfl rfl rfl (by decide) (by decide) (Nat.le_of_ble_eq_true rfl) rfl ((zput_par nd_0_1_2_3_4_5_6_7_8_9_10_11_12_13_14_15_16_17_18_19_20_21_22_23_24_25_26_27_28_29_30_31_32_33_34_35_36_37_38_39_40_41_42_43_44_45_46_47_48_49_50 rfl).trans rfl) ?_
        refine z_goto C 284 dL_settles_275 (by decide) ?_
        refine z_istore C dL_settles_284 (Nat.le_of_ble_eq_true rfl) ?_
        refine z_lv (lv' := [some (.ref x0), some (.int g), some (.int (nI 1)), some (.int (nI (mK S))), some (.int (nI x)), some (.int (nI (kN S x))), some (.int (nI 0)), some (.int (nI (cnS S 1))), some (.int (nI (cnS S 2))), some (.int (nI (cnS S 3))), some (.int (eP (lP S 0 x))), some (.int (eP (lP S 1 x))), some (.int (nI (kN S x / 2))), some (.int (nI 0)), some (.int (nI 0)), some (.int (nI (vN S x))), some (.int (nI 0)), some (.int (-4)), some (.int (-4)), none, none]) rfl ?_
        refine z_iload C dL_settles_286 rfl ?_
        refine z_iload C dL_settles_288 rfl ?_
        refine z_icmp_ne_f C 311 dL_settles_290 (by decide) rfl ?_
        refine z_aload_n C 0 dL_settles_293 rfl rfl ?_
        refine z_iload_n C 2 dL_settles_294 rfl rfl ?_
        refine z_nif_eq_f C 302 dL_settles_295 (by decide) (by omega) (by omega) ?_
        refine z_iconst C (nI 3) dL_settles_298 (by decide) ?_
        refine z_goto C 303 dL_settles_299 (by decide) ?_
        refine z_callVr C kX5_count gL_settles_X5_count (l_cntK X.2.1 x0 h0 h1 w0 w1 t S o1 kp1 ln ps 2 hG (by decide)) dL_settles_303 [0, 1, 2, 3, 4, 5, 6, 7, 8, 9, 51] [] 0 rfl nd_0_1_2_3_4_5_6_7_8_9_51 rfl rfl rfl (by decide) (by decide) (Nat.le_of_ble_eq_true rfl) rfl ?_
        have hg_11 : cnS S 2 ≤ mK S := zc_le _ _
        refine z_iload C dL_settles_306 rfl ?_
        refine z_ncmp_eq_t C 313 dL_settles_308 (by decide) (by omega) (by omega) (by omega) ?_
        refine z_iload C dL_settles_313 rfl ?_
        refine z_nif_ne_f C 320 dL_settles_315 (by decide) (by omega) (by omega) ?_
        refine z_iconst C (nI 1) dL_settles_318 (by decide) ?_
        exact z_zret C N dL_settles_319 rfl (rfl) (rfl)
    · refine z_iconst C (nI 1) dL_settles_144 (by decide) ?_
      refine z_goto C 168 dL_settles_145 (by decide) ?_
      refine z_istore C dL_settles_168 (Nat.le_of_ble_eq_true rfl) ?_
      refine z_lv (lv' := [some (.ref x0), some (.int g), some (.int (nI 1)), some (.int (nI (mK S))), some (.int (nI x)), some (.int (nI (kN S x))), some (.int (nI 0)), some (.int (nI (cnS S 1))), some (.int (nI (cnS S 2))), some (.int (nI (cnS S 3))), some (.int (eP (lP S 0 x))), some (.int (eP (lP S 1 x))), some (.int (nI (kN S x / 2))), some (.int (nI 1)), none, none, none, none, none, none, none]) rfl ?_
      refine z_iload C dL_settles_170 rfl ?_
      refine z_iconst C (nI 4) dL_settles_172 (by decide) ?_
      refine z_ncmp_ne_t C 180 dL_settles_173 (by decide) (by omega) (by omega) (by omega) ?_
      have fd_12 : kN S x / 2 < 2 := by omega
      refine z_aload_n C 0 dL_settles_180 rfl rfl ?_
      refine z_iconst C (nI 0) dL_settles_181 (by decide) ?_
      refine z_iload C dL_settles_182 rfl ?_
      refine z_callVr C kX5_size gL_settles_X5_size (l_size0 X.2.1 x0 h0 w0 t S (kN S x / 2) hG fd_12) dL_settles_184 [0, 1, 2, 3, 4, 5, 6, 7, 8] [] 0 rfl nd_0_1_2_3_4_5_6_7_8 rfl rfl rfl (by decide) (by decide) (Nat.le_of_ble_eq_true rfl) rfl ?_
      refine z_istore C dL_settles_187 (Nat.le_of_ble_eq_true rfl) ?_
      refine z_lv (lv' := [some (.ref x0), some (.int g), some (.int (nI 1)), some (.int (nI (mK S))), some (.int (nI x)), some (.int (nI (kN S x))), some (.int (nI 0)), some (.int (nI (cnS S 1))), some (.int (nI (cnS S 2))), some (.int (nI (cnS S 3))), some (.int (eP (lP S 0 x))), some (.int (eP (lP S 1 x))), some (.int (nI (kN S x / 2))), some (.int (nI 1)), some (.int (nI (uU S (kN S x / 2)))), none, none, none, none, none, none]) rfl ?_
      refine z_aload_n C 0 dL_settles_189 rfl rfl ?_
      refine z_iload C dL_settles_190 rfl ?_
      refine z_iconst C (nI 5) dL_settles_192 (by decide) ?_
      refine z_callVr C kX5_change gL_settles_X5_change (l_chg5n X.2.1 x0 h0 w0 t S x hG hx (by omega)) dL_settles_193 [0, 1, 2, 3, 4, 5, 6, 7, 8] [] 0 rfl nd_0_1_2_3_4_5_6_7_8 rfl rfl rfl (by decide) (by decide) (Nat.le_of_ble_eq_true rfl) rfl ?_
      refine z_istore C dL_settles_196 (Nat.le_of_ble_eq_true rfl) ?_
      refine z_lv (lv' := [some (.ref x0), some (.int g), some (.int (nI 1)), some (.int (nI (mK S))), some (.int (nI x)), some (.int (nI (kN S x))), some (.int (nI 0)), some (.int (nI (cnS S 1))), some (.int (nI (cnS S 2))), some (.int (nI (cnS S 3))), some (.int (eP (lP S 0 x))), some (.int (eP (lP S 1 x))), some (.int (nI (kN S x / 2))), some (.int (nI 1)), some (.int (nI (uU S (kN S x / 2)))), some (.int (-5)), none, none, none, none, none]) rfl ?_
      refine z_iload C dL_settles_198 rfl ?_
      refine z_iconst C (nI 4) dL_settles_200 (by decide) ?_
      refine z_ncmp_eq_f C 209 dL_settles_201 (by decide) (by omega) (by omega) (by omega) ?_
      refine z_iload C dL_settles_204 rfl ?_
      refine z_nif_ne_f C 213 dL_settles_206 (by decide) (by omega) (by omega) ?_
      refine z_iconst C (nI 0) dL_settles_209 (by decide) ?_
      refine z_goto C 232 dL_settles_210 (by decide) ?_
      refine z_istore C dL_settles_232 (Nat.le_of_ble_eq_true rfl) ?_
      refine z_lv (lv' := [some (.ref x0), some (.int g), some (.int (nI 1)), some (.int (nI (mK S))), some (.int (nI x)), some (.int (nI (kN S x))), some (.int (nI 0)), some (.int (nI (cnS S 1))), some (.int (nI (cnS S 2))), some (.int (nI (cnS S 3))), some (.int (eP (lP S 0 x))), some (.int (eP (lP S 1 x))), some (.int (nI (kN S x / 2))), some (.int (nI 1)), some (.int (nI (uU S (kN S x / 2)))), some (.int (-5)), some (.int (nI 0)), none, none, none, none]) rfl ?_
      refine z_iload C dL_settles_234 rfl ?_
      refine z_nif_ne_f C 244 dL_settles_236 (by decide) (by omega) (by omega) ?_
      refine z_bipush C (-4) dL_settles_239 (by decide) ?_
      refine z_goto C 263 dL_settles_241 (by decide) ?_
      refine z_istore C dL_settles_263 (Nat.le_of_ble_eq_true rfl) ?_
      refine z_lv (lv' := [some (.ref x0), some (.int g), some (.int (nI 1)), some (.int (nI (mK S))), some (.int (nI x)), some (.int (nI (kN S x))), some (.int (nI 0)), some (.int (nI (cnS S 1))), some (.int (nI (cnS S 2))), some (.int (nI (cnS S 3))), some (.int (eP (lP S 0 x))), some (.int (eP (lP S 1 x))), some (.int (nI (kN S x / 2))), some (.int (nI 1)), some (.int (nI (uU S (kN S x / 2)))), some (.int (-5)), some (.int (nI 0)), some (.int (-4)), none, none, none]) rfl ?_
      refine z_iload_n C 2 dL_settles_265 rfl rfl ?_
      refine z_nif_eq_f C 278 dL_settles_266 (by decide) (by omega) (by omega) ?_
      refine z_aload_n C 0 dL_settles_269 rfl rfl ?_
      refine z_iload C dL_settles_270 rfl ?_
      refine z_callV (wn := (WRd X.2.1 x0 h0 h1 w0 w1 t r S o1 kp1 Q1 tx ln ps)) C kX5_accept gL_settles_X5_accept m1 dL_settles_272 [0, 1, 2, 3, 4, 5, 6, 7, 8, 9, 10, 11, 12, 13, 14, 15, 16, 17, 18, 19, 20, 21, 22, 23, 24, 25, 26, 27, 28, 29, 30, 31, 32, 33, 34, 35, 36, 37, 38, 39, 40, 41, 42, 43, 44, 45, 46, 47, 48, 49, 50] [] 0 rfl rfl nd_0_1_2_3_4_5_6_7_8_9_10_11_12_13_14_15_16_17_18_19_20_21_22_23_24_25_26_27_28_29_30_31_32_33_34_35_36_37_38_39_40_41_42_43_44_45_46_47_48_49_50 rfl rfl rfl (by decide) (by decide) (Nat.le_of_ble_eq_true rfl) rfl ((zput_par nd_0_1_2_3_4_5_6_7_8_9_10_11_12_13_14_15_16_17_18_19_20_21_22_23_24_25_26_27_28_29_30_31_32_33_34_35_36_37_38_39_40_41_42_43_44_45_46_47_48_49_50 rfl).trans rfl) ?_
      refine z_goto C 284 dL_settles_275 (by decide) ?_
      refine z_istore C dL_settles_284 (Nat.le_of_ble_eq_true rfl) ?_
      refine z_lv (lv' := [some (.ref x0), some (.int g), some (.int (nI 1)), some (.int (nI (mK S))), some (.int (nI x)), some (.int (nI (kN S x))), some (.int (nI 0)), some (.int (nI (cnS S 1))), some (.int (nI (cnS S 2))), some (.int (nI (cnS S 3))), some (.int (eP (lP S 0 x))), some (.int (eP (lP S 1 x))), some (.int (nI (kN S x / 2))), some (.int (nI 1)), some (.int (nI (uU S (kN S x / 2)))), some (.int (-5)), some (.int (nI 0)), some (.int (-4)), some (.int (-4)), none, none]) rfl ?_
      refine z_iload C dL_settles_286 rfl ?_
      refine z_iload C dL_settles_288 rfl ?_
      refine z_icmp_ne_f C 311 dL_settles_290 (by decide) rfl ?_
      refine z_aload_n C 0 dL_settles_293 rfl rfl ?_
      refine z_iload_n C 2 dL_settles_294 rfl rfl ?_
      refine z_nif_eq_f C 302 dL_settles_295 (by decide) (by omega) (by omega) ?_
      refine z_iconst C (nI 3) dL_settles_298 (by decide) ?_
      refine z_goto C 303 dL_settles_299 (by decide) ?_
      refine z_callVr C kX5_count gL_settles_X5_count (l_cntK X.2.1 x0 h0 h1 w0 w1 t S o1 kp1 ln ps 2 hG (by decide)) dL_settles_303 [0, 1, 2, 3, 4, 5, 6, 7, 8, 9, 51] [] 0 rfl nd_0_1_2_3_4_5_6_7_8_9_51 rfl rfl rfl (by decide) (by decide) (Nat.le_of_ble_eq_true rfl) rfl ?_
      have hg_13 : cnS S 2 ≤ mK S := zc_le _ _
      refine z_iload C dL_settles_306 rfl ?_
      refine z_ncmp_eq_t C 313 dL_settles_308 (by decide) (by omega) (by omega) (by omega) ?_
      refine z_iload C dL_settles_313 rfl ?_
      refine z_nif_ne_f C 320 dL_settles_315 (by decide) (by omega) (by omega) ?_
      refine z_iconst C (nI 1) dL_settles_318 (by decide) ?_
      exact z_zret C N dL_settles_319 rfl (rfl) (rfl)

set_option maxHeartbeats 4000000 in
set_option maxRecDepth 100000 in
theorem w_stl10 (E : zE) (x0 h0 h1 w0 w1 : Nat) (t : Nat → Nat) (r : Nat → Nat → Nat) (S S1 : zSt) (o kp kp1 o1 : Nat) (Q Q1 : Nat → zSt) (tx : Nat → Nat) (ln : Nat) (ps : zPs) {B B1 : Nat} (g : Int32) (x P : Nat) (hG : GG S B) (hG1 : GG S1 B1) (hX : lw g (mK S) = x) (hx : x < mK S) (hk : kN S x = 0) (hs : sN S x = 0) (hp : P < uU S 0) (hl : lP S 0 x = P + 1) (hl0 : lP S 1 x = 0) (hm : mK S1 = mK S) (hct : cnS S1 1 = cnS S 1 + (1 + zc (sup S x) (mK S))) (hco : cnS S1 2 = cnS S 2) (hc3 : cnS S1 3 = cnS S 3) (hs1 : sN S1 x = 1) (hu : uU S1 0 = uU S 0) (m1 : zM E yX5_accept wsX5_accept 7 [.ref x0, .int (nI x)] (WAd E x0 h0 h1 w0 t r S o kp Q) (WAd E x0 h0 h1 w0 t r S1 o1 kp1 Q1) (some (.int (nI (1 + zc (sup S x) (mK S)))))) : zM E yL_settles wsL_settles 8 [.ref x0, .int g, .int (nI 1)] (WRd E x0 h0 h1 w0 w1 t r S o kp Q tx ln ps) (WRd E x0 h0 h1 w0 w1 t r S1 o1 kp1 Q1 tx ln ps) (some (.int (nI 1))) := by
  refine zM.of kL_settles (Nat.le_of_ble_eq_true rfl) rfl [some (.ref x0), some (.int g), some (.int (nI 1)), none, none, none, none, none, none, none, none, none, none, none, none, none, none, none, none, none, none] rfl (Nat.le_of_ble_eq_true rfl) ?_
  intro X eX C N
  subst eX
  have hb0 : uU S 0 ≤ 12 := gg_u hG 0
  have hb1 : uU S 1 ≤ 8 := gg_u1 hG
  have hb2 : mK S ≤ 60 := gg_M hG
  have hb3 : uU S1 0 ≤ 12 := gg_u hG1 0
  have hb4 : uU S1 1 ≤ 8 := gg_u1 hG1
  have hb5 : mK S1 ≤ 60 := gg_M hG1
  have hkx := (kN_e hG hx).2
  have hsx := (sN_e hG hx).2
  refine z_aload_n C 0 dL_settles_0 rfl rfl ?_
  refine z_iconst C (nI 0) dL_settles_1 (by decide) ?_
  refine z_callVr C kX5_count gL_settles_X5_count (l_cnt0 X.2.1 x0 h0 h1 w0 w1 t S o kp ln ps  hG ) dL_settles_2 [0, 1, 2, 3, 4, 5, 6, 7, 8, 9, 51] [] 0 rfl nd_0_1_2_3_4_5_6_7_8_9_51 rfl rfl rfl (by decide) (by decide) (Nat.le_of_ble_eq_true rfl) rfl ?_
  refine z_istore_n C 3 dL_settles_5 rfl (Nat.le_of_ble_eq_true rfl) ?_
  refine z_lv (lv' := [some (.ref x0), some (.int g), some (.int (nI 1)), some (.int (nI (mK S))), none, none, none, none, none, none, none, none, none, none, none, none, none, none, none, none, none]) rfl ?_
  refine z_iload_n C 3 dL_settles_6 rfl rfl ?_
  refine z_nif_ne_t C 34 dL_settles_7 (by decide) (by omega) (by omega) ?_
  refine z_iload_n C 1 dL_settles_34 rfl rfl ?_
  refine z_iload_n C 3 dL_settles_35 rfl rfl ?_
  refine z_callS C kL_low gL_settles_L_low (l_low X.2.1 g (mK S) (by omega) (by omega)) dL_settles_36 [] rfl (by decide) (by decide) (Nat.le_of_ble_eq_true rfl) rfl ?_
  refine z_top (y := nI x) (congrArg nI hX) ?_
  refine z_istore C dL_settles_39 (Nat.le_of_ble_eq_true rfl) ?_
  refine z_lv (lv' := [some (.ref x0), some (.int g), some (.int (nI 1)), some (.int (nI (mK S))), some (.int (nI x)), none, none, none, none, none, none, none, none, none, none, none, none, none, none, none, none]) rfl ?_
  refine z_aload_n C 0 dL_settles_41 rfl rfl ?_
  refine z_iload C dL_settles_42 rfl ?_
  refine z_iconst C (nI 0) dL_settles_44 (by decide) ?_
  refine z_callVr C kX5_change gL_settles_X5_change (l_chg0 X.2.1 x0 h0 w0 t S x hG hx) dL_settles_45 [0, 1, 2, 3, 4, 5, 6, 7, 8] [] 0 rfl nd_0_1_2_3_4_5_6_7_8 rfl rfl rfl (by decide) (by decide) (Nat.le_of_ble_eq_true rfl) rfl ?_
  refine z_istore C dL_settles_48 (Nat.le_of_ble_eq_true rfl) ?_
  refine z_lv (lv' := [some (.ref x0), some (.int g), some (.int (nI 1)), some (.int (nI (mK S))), some (.int (nI x)), some (.int (nI (kN S x))), none, none, none, none, none, none, none, none, none, none, none, none, none, none, none]) rfl ?_
  refine z_aload_n C 0 dL_settles_50 rfl rfl ?_
  refine z_iload C dL_settles_51 rfl ?_
  refine z_iconst C (nI 2) dL_settles_53 (by decide) ?_
  refine z_callVr C kX5_change gL_settles_X5_change (l_chg2 X.2.1 x0 h0 w0 t S x hG hx) dL_settles_54 [0, 1, 2, 3, 4, 5, 6, 7, 8] [] 0 rfl nd_0_1_2_3_4_5_6_7_8 rfl rfl rfl (by decide) (by decide) (Nat.le_of_ble_eq_true rfl) rfl ?_
  refine z_nif_ne_f C 64 dL_settles_57 (by decide) (by omega) (by omega) ?_
  refine z_iconst C (nI 1) dL_settles_60 (by decide) ?_
  refine z_goto C 65 dL_settles_61 (by decide) ?_
  refine z_istore C dL_settles_65 (Nat.le_of_ble_eq_true rfl) ?_
  refine z_lv (lv' := [some (.ref x0), some (.int g), some (.int (nI 1)), some (.int (nI (mK S))), some (.int (nI x)), some (.int (nI (kN S x))), some (.int (nI 1)), none, none, none, none, none, none, none, none, none, none, none, none, none, none]) rfl ?_
  refine z_aload_n C 0 dL_settles_67 rfl rfl ?_
  refine z_iload_n C 2 dL_settles_68 rfl rfl ?_
  refine z_nif_eq_f C 76 dL_settles_69 (by decide) (by omega) (by omega) ?_
  refine z_iconst C (nI 2) dL_settles_72 (by decide) ?_
  refine z_goto C 77 dL_settles_73 (by decide) ?_
  refine z_callVr C kX5_count gL_settles_X5_count (l_cntK X.2.1 x0 h0 h1 w0 w1 t S o kp ln ps 1 hG (by decide)) dL_settles_77 [0, 1, 2, 3, 4, 5, 6, 7, 8, 9, 51] [] 0 rfl nd_0_1_2_3_4_5_6_7_8_9_51 rfl rfl rfl (by decide) (by decide) (Nat.le_of_ble_eq_true rfl) rfl ?_
  have hg_1 : cnS S 1 ≤ mK S := zc_le _ _
  refine z_istore C dL_settles_80 (Nat.le_of_ble_eq_true rfl) ?_
  refine z_lv (lv' := [some (.ref x0), some (.int g), some (.int (nI 1)), some (.int (nI (mK S))), some (.int (nI x)), some (.int (nI (kN S x))), some (.int (nI 1)), some (.int (nI (cnS S 1))), none, none, none, none, none, none, none, none, none, none, none, none, none]) rfl ?_
  refine z_aload_n C 0 dL_settles_82 rfl rfl ?_
  refine z_iload_n C 2 dL_settles_83 rfl rfl ?_
  refine z_nif_eq_f C 91 dL_settles_84 (by decide) (by omega) (by omega) ?_
  refine z_iconst C (nI 3) dL_settles_87 (by decide) ?_
  refine z_goto C 92 dL_settles_88 (by decide) ?_
  refine z_callVr C kX5_count gL_settles_X5_count (l_cntK X.2.1 x0 h0 h1 w0 w1 t S o kp ln ps 2 hG (by decide)) dL_settles_92 [0, 1, 2, 3, 4, 5, 6, 7, 8, 9, 51] [] 0 rfl nd_0_1_2_3_4_5_6_7_8_9_51 rfl rfl rfl (by decide) (by decide) (Nat.le_of_ble_eq_true rfl) rfl ?_
  have hg_2 : cnS S 2 ≤ mK S := zc_le _ _
  refine z_istore C dL_settles_95 (Nat.le_of_ble_eq_true rfl) ?_
  refine z_lv (lv' := [some (.ref x0), some (.int g), some (.int (nI 1)), some (.int (nI (mK S))), some (.int (nI x)), some (.int (nI (kN S x))), some (.int (nI 1)), some (.int (nI (cnS S 1))), some (.int (nI (cnS S 2))), none, none, none, none, none, none, none, none, none, none, none, none]) rfl ?_
  refine z_aload_n C 0 dL_settles_97 rfl rfl ?_
  refine z_iconst C (nI 4) dL_settles_98 (by decide) ?_
  refine z_callVr C kX5_count gL_settles_X5_count (l_cntK X.2.1 x0 h0 h1 w0 w1 t S o kp ln ps 3 hG (by decide)) dL_settles_99 [0, 1, 2, 3, 4, 5, 6, 7, 8, 9, 51] [] 0 rfl nd_0_1_2_3_4_5_6_7_8_9_51 rfl rfl rfl (by decide) (by decide) (Nat.le_of_ble_eq_true rfl) rfl ?_
  have hg_3 : cnS S 3 ≤ mK S := zc_le _ _
  refine z_istore C dL_settles_102 (Nat.le_of_ble_eq_true rfl) ?_
  refine z_lv (lv' := [some (.ref x0), some (.int g), some (.int (nI 1)), some (.int (nI (mK S))), some (.int (nI x)), some (.int (nI (kN S x))), some (.int (nI 1)), some (.int (nI (cnS S 1))), some (.int (nI (cnS S 2))), some (.int (nI (cnS S 3))), none, none, none, none, none, none, none, none, none, none, none]) rfl ?_
  refine z_aload_n C 0 dL_settles_104 rfl rfl ?_
  refine z_iload C dL_settles_105 rfl ?_
  refine z_iconst C (nI 3) dL_settles_107 (by decide) ?_
  refine z_callVr C kX5_change gL_settles_X5_change (l_chg3y X.2.1 x0 h0 w0 t S x P hG hx hl) dL_settles_108 [0, 1, 2, 3, 4, 5, 6, 7, 8] [] 0 rfl nd_0_1_2_3_4_5_6_7_8 rfl rfl rfl (by decide) (by decide) (Nat.le_of_ble_eq_true rfl) rfl ?_
  refine z_istore C dL_settles_111 (Nat.le_of_ble_eq_true rfl) ?_
  refine z_lv (lv' := [some (.ref x0), some (.int g), some (.int (nI 1)), some (.int (nI (mK S))), some (.int (nI x)), some (.int (nI (kN S x))), some (.int (nI 1)), some (.int (nI (cnS S 1))), some (.int (nI (cnS S 2))), some (.int (nI (cnS S 3))), some (.int (nI P)), none, none, none, none, none, none, none, none, none, none]) rfl ?_
  refine z_aload_n C 0 dL_settles_113 rfl rfl ?_
  refine z_iload C dL_settles_114 rfl ?_
  refine z_iconst C (nI 4) dL_settles_116 (by decide) ?_
  refine z_callVr C kX5_change gL_settles_X5_change (l_chg4n X.2.1 x0 h0 w0 t S x hG hx hl0) dL_settles_117 [0, 1, 2, 3, 4, 5, 6, 7, 8] [] 0 rfl nd_0_1_2_3_4_5_6_7_8 rfl rfl rfl (by decide) (by decide) (Nat.le_of_ble_eq_true rfl) rfl ?_
  refine z_istore C dL_settles_120 (Nat.le_of_ble_eq_true rfl) ?_
  refine z_lv (lv' := [some (.ref x0), some (.int g), some (.int (nI 1)), some (.int (nI (mK S))), some (.int (nI x)), some (.int (nI (kN S x))), some (.int (nI 1)), some (.int (nI (cnS S 1))), some (.int (nI (cnS S 2))), some (.int (nI (cnS S 3))), some (.int (nI P)), some (.int (-5)), none, none, none, none, none, none, none, none, none]) rfl ?_
  refine z_iload C dL_settles_122 rfl ?_
  refine z_iconst C (nI 2) dL_settles_124 (by decide) ?_
  refine z_idiv C dL_settles_125 (by decide) ?_
  refine z_top (y := nI 0) (by rw [hk]; decide) ?_
  refine z_istore C dL_settles_126 (Nat.le_of_ble_eq_true rfl) ?_
  refine z_lv (lv' := [some (.ref x0), some (.int g), some (.int (nI 1)), some (.int (nI (mK S))), some (.int (nI x)), some (.int (nI (kN S x))), some (.int (nI 1)), some (.int (nI (cnS S 1))), some (.int (nI (cnS S 2))), some (.int (nI (cnS S 3))), some (.int (nI P)), some (.int (-5)), some (.int (nI 0)), none, none, none, none, none, none, none, none]) rfl ?_
  refine z_iload_n C 2 dL_settles_128 rfl rfl ?_
  refine z_nif_eq_f C 152 dL_settles_129 (by decide) (by omega) (by omega) ?_
  refine z_iload C dL_settles_132 rfl ?_
  refine z_iconst C (nI 1) dL_settles_134 (by decide) ?_
  refine z_ncmp_eq_f C 144 dL_settles_135 (by decide) (by omega) (by omega) (by omega) ?_
  refine z_iload C dL_settles_138 rfl ?_
  refine z_iconst C (nI 3) dL_settles_140 (by decide) ?_
  refine z_ncmp_ne_t C 148 dL_settles_141 (by decide) (by omega) (by omega) (by omega) ?_
  refine z_iconst C (nI 0) dL_settles_148 (by decide) ?_
  refine z_goto C 168 dL_settles_149 (by decide) ?_
  refine z_istore C dL_settles_168 (Nat.le_of_ble_eq_true rfl) ?_
  refine z_lv (lv' := [some (.ref x0), some (.int g), some (.int (nI 1)), some (.int (nI (mK S))), some (.int (nI x)), some (.int (nI (kN S x))), some (.int (nI 1)), some (.int (nI (cnS S 1))), some (.int (nI (cnS S 2))), some (.int (nI (cnS S 3))), some (.int (nI P)), some (.int (-5)), some (.int (nI 0)), some (.int (nI 0)), none, none, none, none, none, none, none]) rfl ?_
  refine z_iload C dL_settles_170 rfl ?_
  refine z_iconst C (nI 4) dL_settles_172 (by decide) ?_
  refine z_ncmp_ne_t C 180 dL_settles_173 (by decide) (by omega) (by omega) (by omega) ?_
  refine z_aload_n C 0 dL_settles_180 rfl rfl ?_
  refine z_iconst C (nI 0) dL_settles_181 (by decide) ?_
  refine z_iload C dL_settles_182 rfl ?_
  refine z_callVr C kX5_size gL_settles_X5_size (l_size0 X.2.1 x0 h0 w0 t S 0 hG (by decide)) dL_settles_184 [0, 1, 2, 3, 4, 5, 6, 7, 8] [] 0 rfl nd_0_1_2_3_4_5_6_7_8 rfl rfl rfl (by decide) (by decide) (Nat.le_of_ble_eq_true rfl) rfl ?_
  refine z_istore C dL_settles_187 (Nat.le_of_ble_eq_true rfl) ?_
  refine z_lv (lv' := [some (.ref x0), some (.int g), some (.int (nI 1)), some (.int (nI (mK S))), some (.int (nI x)), some (.int (nI (kN S x))), some (.int (nI 1)), some (.int (nI (cnS S 1))), some (.int (nI (cnS S 2))), some (.int (nI (cnS S 3))), some (.int (nI P)), some (.int (-5)), some (.int (nI 0)), some (.int (nI 0)), some (.int (nI (uU S 0))), none, none, none, none, none, none]) rfl ?_
  refine z_aload_n C 0 dL_settles_189 rfl rfl ?_
  refine z_iload C dL_settles_190 rfl ?_
  refine z_iconst C (nI 5) dL_settles_192 (by decide) ?_
  refine z_callVr C kX5_change gL_settles_X5_change (l_chg5n X.2.1 x0 h0 w0 t S x hG hx (by omega)) dL_settles_193 [0, 1, 2, 3, 4, 5, 6, 7, 8] [] 0 rfl nd_0_1_2_3_4_5_6_7_8 rfl rfl rfl (by decide) (by decide) (Nat.le_of_ble_eq_true rfl) rfl ?_
  refine z_istore C dL_settles_196 (Nat.le_of_ble_eq_true rfl) ?_
  refine z_lv (lv' := [some (.ref x0), some (.int g), some (.int (nI 1)), some (.int (nI (mK S))), some (.int (nI x)), some (.int (nI (kN S x))), some (.int (nI 1)), some (.int (nI (cnS S 1))), some (.int (nI (cnS S 2))), some (.int (nI (cnS S 3))), some (.int (nI P)), some (.int (-5)), some (.int (nI 0)), some (.int (nI 0)), some (.int (nI (uU S 0))), some (.int (-5)), none, none, none, none, none]) rfl ?_
  refine z_iload C dL_settles_198 rfl ?_
  refine z_iconst C (nI 4) dL_settles_200 (by decide) ?_
  refine z_ncmp_eq_f C 209 dL_settles_201 (by decide) (by omega) (by omega) (by omega) ?_
  refine z_iload C dL_settles_204 rfl ?_
  refine z_nif_ne_t C 213 dL_settles_206 (by decide) (by omega) (by omega) ?_
  refine z_aload_n C 0 dL_settles_213 rfl rfl ?_
  refine z_iload C dL_settles_214 rfl ?_
  refine z_iload C dL_settles_216 rfl ?_
  refine z_nif_ne_f C 226 dL_settles_218 (by decide) (by omega) (by omega) ?_
  refine z_iload C dL_settles_221 rfl ?_
  refine z_goto C 228 dL_settles_223 (by decide) ?_
  refine z_iconst C (nI 4) dL_settles_228 (by decide) ?_
  refine z_callVr C kX5_line gL_settles_X5_line (l_line4 X.2.1 x0 h0 w0 t S 0 P hG (by decide) hp) dL_settles_229 [0, 1, 2, 3, 4, 5, 6, 7, 8] [] 0 rfl nd_0_1_2_3_4_5_6_7_8 rfl rfl rfl (by decide) (by decide) (Nat.le_of_ble_eq_true rfl) rfl ?_
  refine z_istore C dL_settles_232 (Nat.le_of_ble_eq_true rfl) ?_
  refine z_lv (lv' := [some (.ref x0), some (.int g), some (.int (nI 1)), some (.int (nI (mK S))), some (.int (nI x)), some (.int (nI (kN S x))), some (.int (nI 1)), some (.int (nI (cnS S 1))), some (.int (nI (cnS S 2))), some (.int (nI (cnS S 3))), some (.int (nI P)), some (.int (-5)), some (.int (nI 0)), some (.int (nI 0)), some (.int (nI (uU S 0))), some (.int (-5)), some (.int (nI (nSt S 0 P))), none, none, none, none]) rfl ?_
  refine z_iload C dL_settles_234 rfl ?_
  refine z_nif_ne_t C 244 dL_settles_236 (by decide) (by omega) (by omega) ?_
  refine z_iconst C (nI 1) dL_settles_244 (by decide) ?_
  refine z_aload_n C 0 dL_settles_245 rfl rfl ?_
  refine z_iload C dL_settles_246 rfl ?_
  refine z_iload_n C 2 dL_settles_248 rfl rfl ?_
  refine z_nif_eq_f C 257 dL_settles_249 (by decide) (by omega) (by omega) ?_
  refine z_bipush C (nI 7) dL_settles_252 (by decide) ?_
  refine z_goto C 259 dL_settles_254 (by decide) ?_
  refine z_callVr C kX5_change gL_settles_X5_change (l_chg7 X.2.1 x0 h0 w0 t S x hG hx) dL_settles_259 [0, 1, 2, 3, 4, 5, 6, 7, 8] [.int (nI 1)] 0 rfl nd_0_1_2_3_4_5_6_7_8 rfl rfl rfl (by decide) (by decide) (Nat.le_of_ble_eq_true rfl) rfl ?_
  have hg_4 : zc (sup S x) (mK S) ≤ mK S := zc_le _ _
  refine z_iadd C dL_settles_262 ?_
  refine z_top (y := nI (1 + (zc (sup S x) (mK S)))) (nI_add _ _) ?_
  refine z_istore C dL_settles_263 (Nat.le_of_ble_eq_true rfl) ?_
  refine z_lv (lv' := [some (.ref x0), some (.int g), some (.int (nI 1)), some (.int (nI (mK S))), some (.int (nI x)), some (.int (nI (kN S x))), some (.int (nI 1)), some (.int (nI (cnS S 1))), some (.int (nI (cnS S 2))), some (.int (nI (cnS S 3))), some (.int (nI P)), some (.int (-5)), some (.int (nI 0)), some (.int (nI 0)), some (.int (nI (uU S 0))), some (.int (-5)), some (.int (nI (nSt S 0 P))), some (.int (nI (1 + (zc (sup S x) (mK S))))), none, none, none]) rfl ?_
  refine z_iload_n C 2 dL_settles_265 rfl rfl ?_
  refine z_nif_eq_f C 278 dL_settles_266 (by decide) (by omega) (by omega) ?_
  refine z_aload_n C 0 dL_settles_269 rfl rfl ?_
  refine z_iload C dL_settles_270 rfl ?_
  refine z_callV (wn := (WRd X.2.1 x0 h0 h1 w0 w1 t r S1 o1 kp1 Q1 tx ln ps)) C kX5_accept gL_settles_X5_accept m1 dL_settles_272 [0, 1, 2, 3, 4, 5, 6, 7, 8, 9, 10, 11, 12, 13, 14, 15, 16, 17, 18, 19, 20, 21, 22, 23, 24, 25, 26, 27, 28, 29, 30, 31, 32, 33, 34, 35, 36, 37, 38, 39, 40, 41, 42, 43, 44, 45, 46, 47, 48, 49, 50] [] 0 rfl rfl nd_0_1_2_3_4_5_6_7_8_9_10_11_12_13_14_15_16_17_18_19_20_21_22_23_24_25_26_27_28_29_30_31_32_33_34_35_36_37_38_39_40_41_42_43_44_45_46_47_48_49_50 rfl rfl rfl (by decide) (by decide) (Nat.le_of_ble_eq_true rfl) rfl ((zput_par nd_0_1_2_3_4_5_6_7_8_9_10_11_12_13_14_15_16_17_18_19_20_21_22_23_24_25_26_27_28_29_30_31_32_33_34_35_36_37_38_39_40_41_42_43_44_45_46_47_48_49_50 rfl).trans rfl) ?_
  refine z_goto C 284 dL_settles_275 (by decide) ?_
  refine z_istore C dL_settles_284 (Nat.le_of_ble_eq_true rfl) ?_
  refine z_lv (lv' := [some (.ref x0), some (.int g), some (.int (nI 1)), some (.int (nI (mK S))), some (.int (nI x)), some (.int (nI (kN S x))), some (.int (nI 1)), some (.int (nI (cnS S 1))), some (.int (nI (cnS S 2))), some (.int (nI (cnS S 3))), some (.int (nI P)), some (.int (-5)), some (.int (nI 0)), some (.int (nI 0)), some (.int (nI (uU S 0))), some (.int (-5)), some (.int (nI (nSt S 0 P))), some (.int (nI (1 + (zc (sup S x) (mK S))))), some (.int (nI (1 + zc (sup S x) (mK S)))), none, none]) rfl ?_
  refine z_iload C dL_settles_286 rfl ?_
  refine z_iload C dL_settles_288 rfl ?_
  refine z_ncmp_ne_f C 311 dL_settles_290 (by decide) (by omega) (by omega) (by omega) ?_
  refine z_aload_n C 0 dL_settles_293 rfl rfl ?_
  refine z_iload_n C 2 dL_settles_294 rfl rfl ?_
  refine z_nif_eq_f C 302 dL_settles_295 (by decide) (by omega) (by omega) ?_
  refine z_iconst C (nI 3) dL_settles_298 (by decide) ?_
  refine z_goto C 303 dL_settles_299 (by decide) ?_
  refine z_callVr C kX5_count gL_settles_X5_count (l_cntK X.2.1 x0 h0 h1 w0 w1 t S1 o1 kp1 ln ps 2 hG1 (by decide)) dL_settles_303 [0, 1, 2, 3, 4, 5, 6, 7, 8, 9, 51] [] 0 rfl nd_0_1_2_3_4_5_6_7_8_9_51 rfl rfl rfl (by decide) (by decide) (Nat.le_of_ble_eq_true rfl) rfl ?_
  have hg_5 : cnS S1 2 ≤ mK S1 := zc_le _ _
  refine z_iload C dL_settles_306 rfl ?_
  refine z_ncmp_eq_t C 313 dL_settles_308 (by decide) (by omega) (by omega) (by omega) ?_
  refine z_iload C dL_settles_313 rfl ?_
  refine z_nif_ne_t C 320 dL_settles_315 (by decide) (by omega) (by omega) ?_
  refine z_iload_n C 2 dL_settles_320 rfl rfl ?_
  refine z_nif_eq_f C 333 dL_settles_321 (by decide) (by omega) (by omega) ?_
  refine z_iload C dL_settles_324 rfl ?_
  refine z_nif_eq_t C 333 dL_settles_326 (by decide) (by omega) (by omega) ?_
  refine z_iconst C (nI 0) dL_settles_333 (by decide) ?_
  refine z_istore C dL_settles_334 (Nat.le_of_ble_eq_true rfl) ?_
  refine z_lv (lv' := [some (.ref x0), some (.int g), some (.int (nI 1)), some (.int (nI (mK S))), some (.int (nI x)), some (.int (nI (kN S x))), some (.int (nI 1)), some (.int (nI (cnS S 1))), some (.int (nI (cnS S 2))), some (.int (nI (cnS S 3))), some (.int (nI P)), some (.int (-5)), some (.int (nI 0)), some (.int (nI 0)), some (.int (nI (uU S 0))), some (.int (-5)), some (.int (nI (nSt S 0 P))), some (.int (nI (1 + (zc (sup S x) (mK S))))), some (.int (nI (1 + zc (sup S x) (mK S)))), some (.int (nI 0)), none]) rfl ?_
  refine z_aload_n C 0 dL_settles_336 rfl rfl ?_
  refine z_iload_n C 2 dL_settles_337 rfl rfl ?_
  refine z_nif_eq_f C 345 dL_settles_338 (by decide) (by omega) (by omega) ?_
  refine z_iconst C (nI 2) dL_settles_341 (by decide) ?_
  refine z_goto C 346 dL_settles_342 (by decide) ?_
  refine z_callVr C kX5_count gL_settles_X5_count (l_cntK X.2.1 x0 h0 h1 w0 w1 t S1 o1 kp1 ln ps 1 hG1 (by decide)) dL_settles_346 [0, 1, 2, 3, 4, 5, 6, 7, 8, 9, 51] [] 0 rfl nd_0_1_2_3_4_5_6_7_8_9_51 rfl rfl rfl (by decide) (by decide) (Nat.le_of_ble_eq_true rfl) rfl ?_
  have hg_6 : cnS S1 1 ≤ mK S1 := zc_le _ _
  refine z_iload C dL_settles_349 rfl ?_
  refine z_iload C dL_settles_351 rfl ?_
  refine z_iadd C dL_settles_353 ?_
  refine z_top (y := nI ((cnS S 1) + (1 + (zc (sup S x) (mK S))))) (nI_add _ _) ?_
  refine z_ncmp_ne_f C 402 dL_settles_354 (by decide) (by omega) (by omega) (by omega) ?_
  refine z_aload_n C 0 dL_settles_357 rfl rfl ?_
  refine z_iconst C (nI 4) dL_settles_358 (by decide) ?_
  refine z_callVr C kX5_count gL_settles_X5_count (l_cntK X.2.1 x0 h0 h1 w0 w1 t S1 o1 kp1 ln ps 3 hG1 (by decide)) dL_settles_359 [0, 1, 2, 3, 4, 5, 6, 7, 8, 9, 51] [] 0 rfl nd_0_1_2_3_4_5_6_7_8_9_51 rfl rfl rfl (by decide) (by decide) (Nat.le_of_ble_eq_true rfl) rfl ?_
  have hg_7 : cnS S1 3 ≤ mK S1 := zc_le _ _
  refine z_iload C dL_settles_362 rfl ?_
  refine z_iload C dL_settles_364 rfl ?_
  refine z_nif_eq_t C 374 dL_settles_366 (by decide) (by omega) (by omega) ?_
  refine z_iconst C (nI 0) dL_settles_374 (by decide) ?_
  refine z_iadd C dL_settles_375 ?_
  refine z_top (y := nI (cnS S 3)) (nI_add _ _) ?_
  refine z_ncmp_ne_f C 402 dL_settles_376 (by decide) (by omega) (by omega) (by omega) ?_
  refine z_aload_n C 0 dL_settles_379 rfl rfl ?_
  refine z_iload C dL_settles_380 rfl ?_
  refine z_iconst C (nI 2) dL_settles_382 (by decide) ?_
  refine z_callVr C kX5_change gL_settles_X5_change (l_chg2 X.2.1 x0 h0 w0 t S1 x hG1 (by omega)) dL_settles_383 [0, 1, 2, 3, 4, 5, 6, 7, 8] [] 0 rfl nd_0_1_2_3_4_5_6_7_8 rfl rfl rfl (by decide) (by decide) (Nat.le_of_ble_eq_true rfl) rfl ?_
  refine z_iload_n C 2 dL_settles_386 rfl rfl ?_
  refine z_nif_eq_f C 394 dL_settles_387 (by decide) (by omega) (by omega) ?_
  refine z_iconst C (nI 1) dL_settles_390 (by decide) ?_
  refine z_goto C 395 dL_settles_391 (by decide) ?_
  refine z_ncmp_ne_f C 402 dL_settles_395 (by decide) (by omega) (by omega) (by omega) ?_
  refine z_iconst C (nI 1) dL_settles_398 (by decide) ?_
  refine z_goto C 403 dL_settles_399 (by decide) ?_
  refine z_istore C dL_settles_403 (Nat.le_of_ble_eq_true rfl) ?_
  refine z_lv (lv' := [some (.ref x0), some (.int g), some (.int (nI 1)), some (.int (nI (mK S))), some (.int (nI x)), some (.int (nI (kN S x))), some (.int (nI 1)), some (.int (nI (cnS S 1))), some (.int (nI (cnS S 2))), some (.int (nI (cnS S 3))), some (.int (nI P)), some (.int (-5)), some (.int (nI 0)), some (.int (nI 0)), some (.int (nI (uU S 0))), some (.int (-5)), some (.int (nI (nSt S 0 P))), some (.int (nI (1 + (zc (sup S x) (mK S))))), some (.int (nI (1 + zc (sup S x) (mK S)))), some (.int (nI 0)), some (.int (nI 1))]) rfl ?_
  refine z_iload C dL_settles_405 rfl ?_
  refine z_iconst C (nI 4) dL_settles_407 (by decide) ?_
  refine z_ncmp_ne_t C 496 dL_settles_408 (by decide) (by omega) (by omega) (by omega) ?_
  refine z_iload C dL_settles_496 rfl ?_
  refine z_nif_eq_f C 528 dL_settles_498 (by decide) (by omega) (by omega) ?_
  refine z_aload_n C 0 dL_settles_501 rfl rfl ?_
  refine z_iconst C (nI 0) dL_settles_502 (by decide) ?_
  refine z_iload C dL_settles_503 rfl ?_
  refine z_callVr C kX5_size gL_settles_X5_size (l_size0 X.2.1 x0 h0 w0 t S1 0 hG1 (by decide)) dL_settles_505 [0, 1, 2, 3, 4, 5, 6, 7, 8] [] 0 rfl nd_0_1_2_3_4_5_6_7_8 rfl rfl rfl (by decide) (by decide) (Nat.le_of_ble_eq_true rfl) rfl ?_
  refine z_iload C dL_settles_508 rfl ?_
  refine z_iload C dL_settles_510 rfl ?_
  refine z_nif_eq_t C 519 dL_settles_512 (by decide) (by omega) (by omega) ?_
  refine z_iconst C (nI 0) dL_settles_519 (by decide) ?_
  refine z_isub C dL_settles_520 ?_
  refine z_top (y := nI ((uU S 0) - 0)) ((pk_sub (by omega)).trans (congrArg nI (by omega))) ?_
  refine z_ncmp_ne_f C 528 dL_settles_521 (by decide) (by omega) (by omega) (by omega) ?_
  refine z_iconst C (nI 1) dL_settles_524 (by decide) ?_
  refine z_goto C 529 dL_settles_525 (by decide) ?_
  exact z_zret C N dL_settles_529 rfl (rfl) (rfl)

set_option maxHeartbeats 4000000 in
set_option maxRecDepth 100000 in
theorem w_stl11 (E : zE) (x0 h0 h1 w0 w1 : Nat) (t : Nat → Nat) (r : Nat → Nat → Nat) (S S1 : zSt) (o kp kp1 o1 : Nat) (Q Q1 : Nat → zSt) (tx : Nat → Nat) (ln : Nat) (ps : zPs) {B B1 : Nat} (g : Int32) (x P : Nat) (hG : GG S B) (hG1 : GG S1 B1) (hX : lw g (mK S) = x) (hx : x < mK S) (hk : kN S x = 1) (hs : sN S x = 0) (hp : P < uU S 0) (hl : lP S 0 x = P + 1) (hl0 : lP S 1 x = 0) (hm : mK S1 = mK S) (hct : cnS S1 1 = cnS S 1 + (1 + zc (sup S x) (mK S))) (hco : cnS S1 2 = cnS S 2) (hc3 : cnS S1 3 = cnS S 3 + nSt S 0 P) (hs1 : sN S1 x = 1) (hu : uU S1 0 + 1 = uU S 0) (m1 : zM E yX5_accept wsX5_accept 7 [.ref x0, .int (nI x)] (WAd E x0 h0 h1 w0 t r S o kp Q) (WAd E x0 h0 h1 w0 t r S1 o1 kp1 Q1) (some (.int (nI (1 + zc (sup S x) (mK S)))))) : zM E yL_settles wsL_settles 8 [.ref x0, .int g, .int (nI 1)] (WRd E x0 h0 h1 w0 w1 t r S o kp Q tx ln ps) (WRd E x0 h0 h1 w0 w1 t r S1 o1 kp1 Q1 tx ln ps) (some (.int (nI 1))) := by
  refine zM.of kL_settles (Nat.le_of_ble_eq_true rfl) rfl [some (.ref x0), some (.int g), some (.int (nI 1)), none, none, none, none, none, none, none, none, none, none, none, none, none, none, none, none, none, none] rfl (Nat.le_of_ble_eq_true rfl) ?_
  intro X eX C N
  subst eX
  have hb0 : uU S 0 ≤ 12 := gg_u hG 0
  have hb1 : uU S 1 ≤ 8 := gg_u1 hG
  have hb2 : mK S ≤ 60 := gg_M hG
  have hb3 : uU S1 0 ≤ 12 := gg_u hG1 0
  have hb4 : uU S1 1 ≤ 8 := gg_u1 hG1
  have hb5 : mK S1 ≤ 60 := gg_M hG1
  have hkx := (kN_e hG hx).2
  have hsx := (sN_e hG hx).2
  refine z_aload_n C 0 dL_settles_0 rfl rfl ?_
  refine z_iconst C (nI 0) dL_settles_1 (by decide) ?_
  refine z_callVr C kX5_count gL_settles_X5_count (l_cnt0 X.2.1 x0 h0 h1 w0 w1 t S o kp ln ps  hG ) dL_settles_2 [0, 1, 2, 3, 4, 5, 6, 7, 8, 9, 51] [] 0 rfl nd_0_1_2_3_4_5_6_7_8_9_51 rfl rfl rfl (by decide) (by decide) (Nat.le_of_ble_eq_true rfl) rfl ?_
  refine z_istore_n C 3 dL_settles_5 rfl (Nat.le_of_ble_eq_true rfl) ?_
  refine z_lv (lv' := [some (.ref x0), some (.int g), some (.int (nI 1)), some (.int (nI (mK S))), none, none, none, none, none, none, none, none, none, none, none, none, none, none, none, none, none]) rfl ?_
  refine z_iload_n C 3 dL_settles_6 rfl rfl ?_
  refine z_nif_ne_t C 34 dL_settles_7 (by decide) (by omega) (by omega) ?_
  refine z_iload_n C 1 dL_settles_34 rfl rfl ?_
  refine z_iload_n C 3 dL_settles_35 rfl rfl ?_
  refine z_callS C kL_low gL_settles_L_low (l_low X.2.1 g (mK S) (by omega) (by omega)) dL_settles_36 [] rfl (by decide) (by decide) (Nat.le_of_ble_eq_true rfl) rfl ?_
  refine z_top (y := nI x) (congrArg nI hX) ?_
  refine z_istore C dL_settles_39 (Nat.le_of_ble_eq_true rfl) ?_
  refine z_lv (lv' := [some (.ref x0), some (.int g), some (.int (nI 1)), some (.int (nI (mK S))), some (.int (nI x)), none, none, none, none, none, none, none, none, none, none, none, none, none, none, none, none]) rfl ?_
  refine z_aload_n C 0 dL_settles_41 rfl rfl ?_
  refine z_iload C dL_settles_42 rfl ?_
  refine z_iconst C (nI 0) dL_settles_44 (by decide) ?_
  refine z_callVr C kX5_change gL_settles_X5_change (l_chg0 X.2.1 x0 h0 w0 t S x hG hx) dL_settles_45 [0, 1, 2, 3, 4, 5, 6, 7, 8] [] 0 rfl nd_0_1_2_3_4_5_6_7_8 rfl rfl rfl (by decide) (by decide) (Nat.le_of_ble_eq_true rfl) rfl ?_
  refine z_istore C dL_settles_48 (Nat.le_of_ble_eq_true rfl) ?_
  refine z_lv (lv' := [some (.ref x0), some (.int g), some (.int (nI 1)), some (.int (nI (mK S))), some (.int (nI x)), some (.int (nI (kN S x))), none, none, none, none, none, none, none, none, none, none, none, none, none, none, none]) rfl ?_
  refine z_aload_n C 0 dL_settles_50 rfl rfl ?_
  refine z_iload C dL_settles_51 rfl ?_
  refine z_iconst C (nI 2) dL_settles_53 (by decide) ?_
  refine z_callVr C kX5_change gL_settles_X5_change (l_chg2 X.2.1 x0 h0 w0 t S x hG hx) dL_settles_54 [0, 1, 2, 3, 4, 5, 6, 7, 8] [] 0 rfl nd_0_1_2_3_4_5_6_7_8 rfl rfl rfl (by decide) (by decide) (Nat.le_of_ble_eq_true rfl) rfl ?_
  refine z_nif_ne_f C 64 dL_settles_57 (by decide) (by omega) (by omega) ?_
  refine z_iconst C (nI 1) dL_settles_60 (by decide) ?_
  refine z_goto C 65 dL_settles_61 (by decide) ?_
  refine z_istore C dL_settles_65 (Nat.le_of_ble_eq_true rfl) ?_
  refine z_lv (lv' := [some (.ref x0), some (.int g), some (.int (nI 1)), some (.int (nI (mK S))), some (.int (nI x)), some (.int (nI (kN S x))), some (.int (nI 1)), none, none, none, none, none, none, none, none, none, none, none, none, none, none]) rfl ?_
  refine z_aload_n C 0 dL_settles_67 rfl rfl ?_
  refine z_iload_n C 2 dL_settles_68 rfl rfl ?_
  refine z_nif_eq_f C 76 dL_settles_69 (by decide) (by omega) (by omega) ?_
  refine z_iconst C (nI 2) dL_settles_72 (by decide) ?_
  refine z_goto C 77 dL_settles_73 (by decide) ?_
  refine z_callVr C kX5_count gL_settles_X5_count (l_cntK X.2.1 x0 h0 h1 w0 w1 t S o kp ln ps 1 hG (by decide)) dL_settles_77 [0, 1, 2, 3, 4, 5, 6, 7, 8, 9, 51] [] 0 rfl nd_0_1_2_3_4_5_6_7_8_9_51 rfl rfl rfl (by decide) (by decide) (Nat.le_of_ble_eq_true rfl) rfl ?_
  have hg_1 : cnS S 1 ≤ mK S := zc_le _ _
  refine z_istore C dL_settles_80 (Nat.le_of_ble_eq_true rfl) ?_
  refine z_lv (lv' := [some (.ref x0), some (.int g), some (.int (nI 1)), some (.int (nI (mK S))), some (.int (nI x)), some (.int (nI (kN S x))), some (.int (nI 1)), some (.int (nI (cnS S 1))), none, none, none, none, none, none, none, none, none, none, none, none, none]) rfl ?_
  refine z_aload_n C 0 dL_settles_82 rfl rfl ?_
  refine z_iload_n C 2 dL_settles_83 rfl rfl ?_
  refine z_nif_eq_f C 91 dL_settles_84 (by decide) (by omega) (by omega) ?_
  refine z_iconst C (nI 3) dL_settles_87 (by decide) ?_
  refine z_goto C 92 dL_settles_88 (by decide) ?_
  refine z_callVr C kX5_count gL_settles_X5_count (l_cntK X.2.1 x0 h0 h1 w0 w1 t S o kp ln ps 2 hG (by decide)) dL_settles_92 [0, 1, 2, 3, 4, 5, 6, 7, 8, 9, 51] [] 0 rfl nd_0_1_2_3_4_5_6_7_8_9_51 rfl rfl rfl (by decide) (by decide) (Nat.le_of_ble_eq_true rfl) rfl ?_
  have hg_2 : cnS S 2 ≤ mK S := zc_le _ _
  refine z_istore C dL_settles_95 (Nat.le_of_ble_eq_true rfl) ?_
  refine z_lv (lv' := [some (.ref x0), some (.int g), some (.int (nI 1)), some (.int (nI (mK S))), some (.int (nI x)), some (.int (nI (kN S x))), some (.int (nI 1)), some (.int (nI (cnS S 1))), some (.int (nI (cnS S 2))), none, none, none, none, none, none, none, none, none, none, none, none]) rfl ?_
  refine z_aload_n C 0 dL_settles_97 rfl rfl ?_
  refine z_iconst C (nI 4) dL_settles_98 (by decide) ?_
  refine z_callVr C kX5_count gL_settles_X5_count (l_cntK X.2.1 x0 h0 h1 w0 w1 t S o kp ln ps 3 hG (by decide)) dL_settles_99 [0, 1, 2, 3, 4, 5, 6, 7, 8, 9, 51] [] 0 rfl nd_0_1_2_3_4_5_6_7_8_9_51 rfl rfl rfl (by decide) (by decide) (Nat.le_of_ble_eq_true rfl) rfl ?_
  have hg_3 : cnS S 3 ≤ mK S := zc_le _ _
  refine z_istore C dL_settles_102 (Nat.le_of_ble_eq_true rfl) ?_
  refine z_lv (lv' := [some (.ref x0), some (.int g), some (.int (nI 1)), some (.int (nI (mK S))), some (.int (nI x)), some (.int (nI (kN S x))), some (.int (nI 1)), some (.int (nI (cnS S 1))), some (.int (nI (cnS S 2))), some (.int (nI (cnS S 3))), none, none, none, none, none, none, none, none, none, none, none]) rfl ?_
  refine z_aload_n C 0 dL_settles_104 rfl rfl ?_
  refine z_iload C dL_settles_105 rfl ?_
  refine z_iconst C (nI 3) dL_settles_107 (by decide) ?_
  refine z_callVr C kX5_change gL_settles_X5_change (l_chg3y X.2.1 x0 h0 w0 t S x P hG hx hl) dL_settles_108 [0, 1, 2, 3, 4, 5, 6, 7, 8] [] 0 rfl nd_0_1_2_3_4_5_6_7_8 rfl rfl rfl (by decide) (by decide) (Nat.le_of_ble_eq_true rfl) rfl ?_
  refine z_istore C dL_settles_111 (Nat.le_of_ble_eq_true rfl) ?_
  refine z_lv (lv' := [some (.ref x0), some (.int g), some (.int (nI 1)), some (.int (nI (mK S))), some (.int (nI x)), some (.int (nI (kN S x))), some (.int (nI 1)), some (.int (nI (cnS S 1))), some (.int (nI (cnS S 2))), some (.int (nI (cnS S 3))), some (.int (nI P)), none, none, none, none, none, none, none, none, none, none]) rfl ?_
  refine z_aload_n C 0 dL_settles_113 rfl rfl ?_
  refine z_iload C dL_settles_114 rfl ?_
  refine z_iconst C (nI 4) dL_settles_116 (by decide) ?_
  refine z_callVr C kX5_change gL_settles_X5_change (l_chg4n X.2.1 x0 h0 w0 t S x hG hx hl0) dL_settles_117 [0, 1, 2, 3, 4, 5, 6, 7, 8] [] 0 rfl nd_0_1_2_3_4_5_6_7_8 rfl rfl rfl (by decide) (by decide) (Nat.le_of_ble_eq_true rfl) rfl ?_
  refine z_istore C dL_settles_120 (Nat.le_of_ble_eq_true rfl) ?_
  refine z_lv (lv' := [some (.ref x0), some (.int g), some (.int (nI 1)), some (.int (nI (mK S))), some (.int (nI x)), some (.int (nI (kN S x))), some (.int (nI 1)), some (.int (nI (cnS S 1))), some (.int (nI (cnS S 2))), some (.int (nI (cnS S 3))), some (.int (nI P)), some (.int (-5)), none, none, none, none, none, none, none, none, none]) rfl ?_
  refine z_iload C dL_settles_122 rfl ?_
  refine z_iconst C (nI 2) dL_settles_124 (by decide) ?_
  refine z_idiv C dL_settles_125 (by decide) ?_
  refine z_top (y := nI 0) (by rw [hk]; decide) ?_
  refine z_istore C dL_settles_126 (Nat.le_of_ble_eq_true rfl) ?_
  refine z_lv (lv' := [some (.ref x0), some (.int g), some (.int (nI 1)), some (.int (nI (mK S))), some (.int (nI x)), some (.int (nI (kN S x))), some (.int (nI 1)), some (.int (nI (cnS S 1))), some (.int (nI (cnS S 2))), some (.int (nI (cnS S 3))), some (.int (nI P)), some (.int (-5)), some (.int (nI 0)), none, none, none, none, none, none, none, none]) rfl ?_
  refine z_iload_n C 2 dL_settles_128 rfl rfl ?_
  refine z_nif_eq_f C 152 dL_settles_129 (by decide) (by omega) (by omega) ?_
  refine z_iload C dL_settles_132 rfl ?_
  refine z_iconst C (nI 1) dL_settles_134 (by decide) ?_
  refine z_ncmp_eq_t C 144 dL_settles_135 (by decide) (by omega) (by omega) (by omega) ?_
  refine z_iconst C (nI 1) dL_settles_144 (by decide) ?_
  refine z_goto C 168 dL_settles_145 (by decide) ?_
  refine z_istore C dL_settles_168 (Nat.le_of_ble_eq_true rfl) ?_
  refine z_lv (lv' := [some (.ref x0), some (.int g), some (.int (nI 1)), some (.int (nI (mK S))), some (.int (nI x)), some (.int (nI (kN S x))), some (.int (nI 1)), some (.int (nI (cnS S 1))), some (.int (nI (cnS S 2))), some (.int (nI (cnS S 3))), some (.int (nI P)), some (.int (-5)), some (.int (nI 0)), some (.int (nI 1)), none, none, none, none, none, none, none]) rfl ?_
  refine z_iload C dL_settles_170 rfl ?_
  refine z_iconst C (nI 4) dL_settles_172 (by decide) ?_
  refine z_ncmp_ne_t C 180 dL_settles_173 (by decide) (by omega) (by omega) (by omega) ?_
  refine z_aload_n C 0 dL_settles_180 rfl rfl ?_
  refine z_iconst C (nI 0) dL_settles_181 (by decide) ?_
  refine z_iload C dL_settles_182 rfl ?_
  refine z_callVr C kX5_size gL_settles_X5_size (l_size0 X.2.1 x0 h0 w0 t S 0 hG (by decide)) dL_settles_184 [0, 1, 2, 3, 4, 5, 6, 7, 8] [] 0 rfl nd_0_1_2_3_4_5_6_7_8 rfl rfl rfl (by decide) (by decide) (Nat.le_of_ble_eq_true rfl) rfl ?_
  refine z_istore C dL_settles_187 (Nat.le_of_ble_eq_true rfl) ?_
  refine z_lv (lv' := [some (.ref x0), some (.int g), some (.int (nI 1)), some (.int (nI (mK S))), some (.int (nI x)), some (.int (nI (kN S x))), some (.int (nI 1)), some (.int (nI (cnS S 1))), some (.int (nI (cnS S 2))), some (.int (nI (cnS S 3))), some (.int (nI P)), some (.int (-5)), some (.int (nI 0)), some (.int (nI 1)), some (.int (nI (uU S 0))), none, none, none, none, none, none]) rfl ?_
  refine z_aload_n C 0 dL_settles_189 rfl rfl ?_
  refine z_iload C dL_settles_190 rfl ?_
  refine z_iconst C (nI 5) dL_settles_192 (by decide) ?_
  refine z_callVr C kX5_change gL_settles_X5_change (l_chg5n X.2.1 x0 h0 w0 t S x hG hx (by omega)) dL_settles_193 [0, 1, 2, 3, 4, 5, 6, 7, 8] [] 0 rfl nd_0_1_2_3_4_5_6_7_8 rfl rfl rfl (by decide) (by decide) (Nat.le_of_ble_eq_true rfl) rfl ?_
  refine z_istore C dL_settles_196 (Nat.le_of_ble_eq_true rfl) ?_
  refine z_lv (lv' := [some (.ref x0), some (.int g), some (.int (nI 1)), some (.int (nI (mK S))), some (.int (nI x)), some (.int (nI (kN S x))), some (.int (nI 1)), some (.int (nI (cnS S 1))), some (.int (nI (cnS S 2))), some (.int (nI (cnS S 3))), some (.int (nI P)), some (.int (-5)), some (.int (nI 0)), some (.int (nI 1)), some (.int (nI (uU S 0))), some (.int (-5)), none, none, none, none, none]) rfl ?_
  refine z_iload C dL_settles_198 rfl ?_
  refine z_iconst C (nI 4) dL_settles_200 (by decide) ?_
  refine z_ncmp_eq_f C 209 dL_settles_201 (by decide) (by omega) (by omega) (by omega) ?_
  refine z_iload C dL_settles_204 rfl ?_
  refine z_nif_ne_t C 213 dL_settles_206 (by decide) (by omega) (by omega) ?_
  refine z_aload_n C 0 dL_settles_213 rfl rfl ?_
  refine z_iload C dL_settles_214 rfl ?_
  refine z_iload C dL_settles_216 rfl ?_
  refine z_nif_ne_f C 226 dL_settles_218 (by decide) (by omega) (by omega) ?_
  refine z_iload C dL_settles_221 rfl ?_
  refine z_goto C 228 dL_settles_223 (by decide) ?_
  refine z_iconst C (nI 4) dL_settles_228 (by decide) ?_
  refine z_callVr C kX5_line gL_settles_X5_line (l_line4 X.2.1 x0 h0 w0 t S 0 P hG (by decide) hp) dL_settles_229 [0, 1, 2, 3, 4, 5, 6, 7, 8] [] 0 rfl nd_0_1_2_3_4_5_6_7_8 rfl rfl rfl (by decide) (by decide) (Nat.le_of_ble_eq_true rfl) rfl ?_
  refine z_istore C dL_settles_232 (Nat.le_of_ble_eq_true rfl) ?_
  refine z_lv (lv' := [some (.ref x0), some (.int g), some (.int (nI 1)), some (.int (nI (mK S))), some (.int (nI x)), some (.int (nI (kN S x))), some (.int (nI 1)), some (.int (nI (cnS S 1))), some (.int (nI (cnS S 2))), some (.int (nI (cnS S 3))), some (.int (nI P)), some (.int (-5)), some (.int (nI 0)), some (.int (nI 1)), some (.int (nI (uU S 0))), some (.int (-5)), some (.int (nI (nSt S 0 P))), none, none, none, none]) rfl ?_
  refine z_iload C dL_settles_234 rfl ?_
  refine z_nif_ne_t C 244 dL_settles_236 (by decide) (by omega) (by omega) ?_
  refine z_iconst C (nI 1) dL_settles_244 (by decide) ?_
  refine z_aload_n C 0 dL_settles_245 rfl rfl ?_
  refine z_iload C dL_settles_246 rfl ?_
  refine z_iload_n C 2 dL_settles_248 rfl rfl ?_
  refine z_nif_eq_f C 257 dL_settles_249 (by decide) (by omega) (by omega) ?_
  refine z_bipush C (nI 7) dL_settles_252 (by decide) ?_
  refine z_goto C 259 dL_settles_254 (by decide) ?_
  refine z_callVr C kX5_change gL_settles_X5_change (l_chg7 X.2.1 x0 h0 w0 t S x hG hx) dL_settles_259 [0, 1, 2, 3, 4, 5, 6, 7, 8] [.int (nI 1)] 0 rfl nd_0_1_2_3_4_5_6_7_8 rfl rfl rfl (by decide) (by decide) (Nat.le_of_ble_eq_true rfl) rfl ?_
  have hg_4 : zc (sup S x) (mK S) ≤ mK S := zc_le _ _
  refine z_iadd C dL_settles_262 ?_
  refine z_top (y := nI (1 + (zc (sup S x) (mK S)))) (nI_add _ _) ?_
  refine z_istore C dL_settles_263 (Nat.le_of_ble_eq_true rfl) ?_
  refine z_lv (lv' := [some (.ref x0), some (.int g), some (.int (nI 1)), some (.int (nI (mK S))), some (.int (nI x)), some (.int (nI (kN S x))), some (.int (nI 1)), some (.int (nI (cnS S 1))), some (.int (nI (cnS S 2))), some (.int (nI (cnS S 3))), some (.int (nI P)), some (.int (-5)), some (.int (nI 0)), some (.int (nI 1)), some (.int (nI (uU S 0))), some (.int (-5)), some (.int (nI (nSt S 0 P))), some (.int (nI (1 + (zc (sup S x) (mK S))))), none, none, none]) rfl ?_
  refine z_iload_n C 2 dL_settles_265 rfl rfl ?_
  refine z_nif_eq_f C 278 dL_settles_266 (by decide) (by omega) (by omega) ?_
  refine z_aload_n C 0 dL_settles_269 rfl rfl ?_
  refine z_iload C dL_settles_270 rfl ?_
  refine z_callV (wn := (WRd X.2.1 x0 h0 h1 w0 w1 t r S1 o1 kp1 Q1 tx ln ps)) C kX5_accept gL_settles_X5_accept m1 dL_settles_272 [0, 1, 2, 3, 4, 5, 6, 7, 8, 9, 10, 11, 12, 13, 14, 15, 16, 17, 18, 19, 20, 21, 22, 23, 24, 25, 26, 27, 28, 29, 30, 31, 32, 33, 34, 35, 36, 37, 38, 39, 40, 41, 42, 43, 44, 45, 46, 47, 48, 49, 50] [] 0 rfl rfl nd_0_1_2_3_4_5_6_7_8_9_10_11_12_13_14_15_16_17_18_19_20_21_22_23_24_25_26_27_28_29_30_31_32_33_34_35_36_37_38_39_40_41_42_43_44_45_46_47_48_49_50 rfl rfl rfl (by decide) (by decide) (Nat.le_of_ble_eq_true rfl) rfl ((zput_par nd_0_1_2_3_4_5_6_7_8_9_10_11_12_13_14_15_16_17_18_19_20_21_22_23_24_25_26_27_28_29_30_31_32_33_34_35_36_37_38_39_40_41_42_43_44_45_46_47_48_49_50 rfl).trans rfl) ?_
  refine z_goto C 284 dL_settles_275 (by decide) ?_
  refine z_istore C dL_settles_284 (Nat.le_of_ble_eq_true rfl) ?_
  refine z_lv (lv' := [some (.ref x0), some (.int g), some (.int (nI 1)), some (.int (nI (mK S))), some (.int (nI x)), some (.int (nI (kN S x))), some (.int (nI 1)), some (.int (nI (cnS S 1))), some (.int (nI (cnS S 2))), some (.int (nI (cnS S 3))), some (.int (nI P)), some (.int (-5)), some (.int (nI 0)), some (.int (nI 1)), some (.int (nI (uU S 0))), some (.int (-5)), some (.int (nI (nSt S 0 P))), some (.int (nI (1 + (zc (sup S x) (mK S))))), some (.int (nI (1 + zc (sup S x) (mK S)))), none, none]) rfl ?_
  refine z_iload C dL_settles_286 rfl ?_
  refine z_iload C dL_settles_288 rfl ?_
  refine z_ncmp_ne_f C 311 dL_settles_290 (by decide) (by omega) (by omega) (by omega) ?_
  refine z_aload_n C 0 dL_settles_293 rfl rfl ?_
  refine z_iload_n C 2 dL_settles_294 rfl rfl ?_
  refine z_nif_eq_f C 302 dL_settles_295 (by decide) (by omega) (by omega) ?_
  refine z_iconst C (nI 3) dL_settles_298 (by decide) ?_
  refine z_goto C 303 dL_settles_299 (by decide) ?_
  refine z_callVr C kX5_count gL_settles_X5_count (l_cntK X.2.1 x0 h0 h1 w0 w1 t S1 o1 kp1 ln ps 2 hG1 (by decide)) dL_settles_303 [0, 1, 2, 3, 4, 5, 6, 7, 8, 9, 51] [] 0 rfl nd_0_1_2_3_4_5_6_7_8_9_51 rfl rfl rfl (by decide) (by decide) (Nat.le_of_ble_eq_true rfl) rfl ?_
  have hg_5 : cnS S1 2 ≤ mK S1 := zc_le _ _
  refine z_iload C dL_settles_306 rfl ?_
  refine z_ncmp_eq_t C 313 dL_settles_308 (by decide) (by omega) (by omega) (by omega) ?_
  refine z_iload C dL_settles_313 rfl ?_
  refine z_nif_ne_t C 320 dL_settles_315 (by decide) (by omega) (by omega) ?_
  refine z_iload_n C 2 dL_settles_320 rfl rfl ?_
  refine z_nif_eq_f C 333 dL_settles_321 (by decide) (by omega) (by omega) ?_
  refine z_iload C dL_settles_324 rfl ?_
  refine z_nif_eq_f C 333 dL_settles_326 (by decide) (by omega) (by omega) ?_
  refine z_iconst C (nI 1) dL_settles_329 (by decide) ?_
  refine z_goto C 334 dL_settles_330 (by decide) ?_
  refine z_istore C dL_settles_334 (Nat.le_of_ble_eq_true rfl) ?_
  refine z_lv (lv' := [some (.ref x0), some (.int g), some (.int (nI 1)), some (.int (nI (mK S))), some (.int (nI x)), some (.int (nI (kN S x))), some (.int (nI 1)), some (.int (nI (cnS S 1))), some (.int (nI (cnS S 2))), some (.int (nI (cnS S 3))), some (.int (nI P)), some (.int (-5)), some (.int (nI 0)), some (.int (nI 1)), some (.int (nI (uU S 0))), some (.int (-5)), some (.int (nI (nSt S 0 P))), some (.int (nI (1 + (zc (sup S x) (mK S))))), some (.int (nI (1 + zc (sup S x) (mK S)))), some (.int (nI 1)), none]) rfl ?_
  refine z_aload_n C 0 dL_settles_336 rfl rfl ?_
  refine z_iload_n C 2 dL_settles_337 rfl rfl ?_
  refine z_nif_eq_f C 345 dL_settles_338 (by decide) (by omega) (by omega) ?_
  refine z_iconst C (nI 2) dL_settles_341 (by decide) ?_
  refine z_goto C 346 dL_settles_342 (by decide) ?_
  refine z_callVr C kX5_count gL_settles_X5_count (l_cntK X.2.1 x0 h0 h1 w0 w1 t S1 o1 kp1 ln ps 1 hG1 (by decide)) dL_settles_346 [0, 1, 2, 3, 4, 5, 6, 7, 8, 9, 51] [] 0 rfl nd_0_1_2_3_4_5_6_7_8_9_51 rfl rfl rfl (by decide) (by decide) (Nat.le_of_ble_eq_true rfl) rfl ?_
  have hg_6 : cnS S1 1 ≤ mK S1 := zc_le _ _
  refine z_iload C dL_settles_349 rfl ?_
  refine z_iload C dL_settles_351 rfl ?_
  refine z_iadd C dL_settles_353 ?_
  refine z_top (y := nI ((cnS S 1) + (1 + (zc (sup S x) (mK S))))) (nI_add _ _) ?_
  refine z_ncmp_ne_f C 402 dL_settles_354 (by decide) (by omega) (by omega) (by omega) ?_
  refine z_aload_n C 0 dL_settles_357 rfl rfl ?_
  refine z_iconst C (nI 4) dL_settles_358 (by decide) ?_
  refine z_callVr C kX5_count gL_settles_X5_count (l_cntK X.2.1 x0 h0 h1 w0 w1 t S1 o1 kp1 ln ps 3 hG1 (by decide)) dL_settles_359 [0, 1, 2, 3, 4, 5, 6, 7, 8, 9, 51] [] 0 rfl nd_0_1_2_3_4_5_6_7_8_9_51 rfl rfl rfl (by decide) (by decide) (Nat.le_of_ble_eq_true rfl) rfl ?_
  have hg_7 : cnS S1 3 ≤ mK S1 := zc_le _ _
  refine z_iload C dL_settles_362 rfl ?_
  refine z_iload C dL_settles_364 rfl ?_
  refine z_nif_eq_f C 374 dL_settles_366 (by decide) (by omega) (by omega) ?_
  refine z_iload C dL_settles_369 rfl ?_
  refine z_goto C 375 dL_settles_371 (by decide) ?_
  refine z_iadd C dL_settles_375 ?_
  refine z_top (y := nI ((cnS S 3) + (nSt S 0 P))) (nI_add _ _) ?_
  refine z_ncmp_ne_f C 402 dL_settles_376 (by decide) (by omega) (by omega) (by omega) ?_
  refine z_aload_n C 0 dL_settles_379 rfl rfl ?_
  refine z_iload C dL_settles_380 rfl ?_
  refine z_iconst C (nI 2) dL_settles_382 (by decide) ?_
  refine z_callVr C kX5_change gL_settles_X5_change (l_chg2 X.2.1 x0 h0 w0 t S1 x hG1 (by omega)) dL_settles_383 [0, 1, 2, 3, 4, 5, 6, 7, 8] [] 0 rfl nd_0_1_2_3_4_5_6_7_8 rfl rfl rfl (by decide) (by decide) (Nat.le_of_ble_eq_true rfl) rfl ?_
  refine z_iload_n C 2 dL_settles_386 rfl rfl ?_
  refine z_nif_eq_f C 394 dL_settles_387 (by decide) (by omega) (by omega) ?_
  refine z_iconst C (nI 1) dL_settles_390 (by decide) ?_
  refine z_goto C 395 dL_settles_391 (by decide) ?_
  refine z_ncmp_ne_f C 402 dL_settles_395 (by decide) (by omega) (by omega) (by omega) ?_
  refine z_iconst C (nI 1) dL_settles_398 (by decide) ?_
  refine z_goto C 403 dL_settles_399 (by decide) ?_
  refine z_istore C dL_settles_403 (Nat.le_of_ble_eq_true rfl) ?_
  refine z_lv (lv' := [some (.ref x0), some (.int g), some (.int (nI 1)), some (.int (nI (mK S))), some (.int (nI x)), some (.int (nI (kN S x))), some (.int (nI 1)), some (.int (nI (cnS S 1))), some (.int (nI (cnS S 2))), some (.int (nI (cnS S 3))), some (.int (nI P)), some (.int (-5)), some (.int (nI 0)), some (.int (nI 1)), some (.int (nI (uU S 0))), some (.int (-5)), some (.int (nI (nSt S 0 P))), some (.int (nI (1 + (zc (sup S x) (mK S))))), some (.int (nI (1 + zc (sup S x) (mK S)))), some (.int (nI 1)), some (.int (nI 1))]) rfl ?_
  refine z_iload C dL_settles_405 rfl ?_
  refine z_iconst C (nI 4) dL_settles_407 (by decide) ?_
  refine z_ncmp_ne_t C 496 dL_settles_408 (by decide) (by omega) (by omega) (by omega) ?_
  refine z_iload C dL_settles_496 rfl ?_
  refine z_nif_eq_f C 528 dL_settles_498 (by decide) (by omega) (by omega) ?_
  refine z_aload_n C 0 dL_settles_501 rfl rfl ?_
  refine z_iconst C (nI 0) dL_settles_502 (by decide) ?_
  refine z_iload C dL_settles_503 rfl ?_
  refine z_callVr C kX5_size gL_settles_X5_size (l_size0 X.2.1 x0 h0 w0 t S1 0 hG1 (by decide)) dL_settles_505 [0, 1, 2, 3, 4, 5, 6, 7, 8] [] 0 rfl nd_0_1_2_3_4_5_6_7_8 rfl rfl rfl (by decide) (by decide) (Nat.le_of_ble_eq_true rfl) rfl ?_
  refine z_iload C dL_settles_508 rfl ?_
  refine z_iload C dL_settles_510 rfl ?_
  refine z_nif_eq_f C 519 dL_settles_512 (by decide) (by omega) (by omega) ?_
  refine z_iconst C (nI 1) dL_settles_515 (by decide) ?_
  refine z_goto C 520 dL_settles_516 (by decide) ?_
  refine z_isub C dL_settles_520 ?_
  refine z_top (y := nI ((uU S 0) - 1)) ((pk_sub (by omega)).trans (congrArg nI (by omega))) ?_
  refine z_ncmp_ne_f C 528 dL_settles_521 (by decide) (by omega) (by omega) (by omega) ?_
  refine z_iconst C (nI 1) dL_settles_524 (by decide) ?_
  refine z_goto C 529 dL_settles_525 (by decide) ?_
  exact z_zret C N dL_settles_529 rfl (rfl) (rfl)

set_option maxHeartbeats 4000000 in
set_option maxRecDepth 100000 in
theorem w_stl12 (E : zE) (x0 h0 h1 w0 w1 : Nat) (t : Nat → Nat) (r : Nat → Nat → Nat) (S S1 : zSt) (o kp kp1 o1 : Nat) (Q Q1 : Nat → zSt) (tx : Nat → Nat) (ln : Nat) (ps : zPs) {B B1 : Nat} (g : Int32) (x P : Nat) (hG : GG S B) (hG1 : GG S1 B1) (hX : lw g (mK S) = x) (hx : x < mK S) (hk : kN S x = 2) (hs : sN S x = 0) (hp : P < uU S 1) (hl : lP S 1 x = P + 1) (hl0 : lP S 0 x = 0) (hm : mK S1 = mK S) (hct : cnS S1 1 = cnS S 1 + (1 + zc (sup S x) (mK S))) (hco : cnS S1 2 = cnS S 2) (hc3 : cnS S1 3 = cnS S 3) (hs1 : sN S1 x = 1) (hu : uU S1 1 = uU S 1) (m1 : zM E yX5_accept wsX5_accept 7 [.ref x0, .int (nI x)] (WAd E x0 h0 h1 w0 t r S o kp Q) (WAd E x0 h0 h1 w0 t r S1 o1 kp1 Q1) (some (.int (nI (1 + zc (sup S x) (mK S)))))) : zM E yL_settles wsL_settles 8 [.ref x0, .int g, .int (nI 1)] (WRd E x0 h0 h1 w0 w1 t r S o kp Q tx ln ps) (WRd E x0 h0 h1 w0 w1 t r S1 o1 kp1 Q1 tx ln ps) (some (.int (nI 1))) := by
  refine zM.of kL_settles (Nat.le_of_ble_eq_true rfl) rfl [some (.ref x0), some (.int g), some (.int (nI 1)), none, none, none, none, none, none, none, none, none, none, none, none, none, none, none, none, none, none] rfl (Nat.le_of_ble_eq_true rfl) ?_
  intro X eX C N
  subst eX
  have hb0 : uU S 0 ≤ 12 := gg_u hG 0
  have hb1 : uU S 1 ≤ 8 := gg_u1 hG
  have hb2 : mK S ≤ 60 := gg_M hG
  have hb3 : uU S1 0 ≤ 12 := gg_u hG1 0
  have hb4 : uU S1 1 ≤ 8 := gg_u1 hG1
  have hb5 : mK S1 ≤ 60 := gg_M hG1
  have hkx := (kN_e hG hx).2
  have hsx := (sN_e hG hx).2
  refine z_aload_n C 0 dL_settles_0 rfl rfl ?_
  refine z_iconst C (nI 0) dL_settles_1 (by decide) ?_
  refine z_callVr C kX5_count gL_settles_X5_count (l_cnt0 X.2.1 x0 h0 h1 w0 w1 t S o kp ln ps  hG ) dL_settles_2 [0, 1, 2, 3, 4, 5, 6, 7, 8, 9, 51] [] 0 rfl nd_0_1_2_3_4_5_6_7_8_9_51 rfl rfl rfl (by decide) (by decide) (Nat.le_of_ble_eq_true rfl) rfl ?_
  refine z_istore_n C 3 dL_settles_5 rfl (Nat.le_of_ble_eq_true rfl) ?_
  refine z_lv (lv' := [some (.ref x0), some (.int g), some (.int (nI 1)), some (.int (nI (mK S))), none, none, none, none, none, none, none, none, none, none, none, none, none, none, none, none, none]) rfl ?_
  refine z_iload_n C 3 dL_settles_6 rfl rfl ?_
  refine z_nif_ne_t C 34 dL_settles_7 (by decide) (by omega) (by omega) ?_
  refine z_iload_n C 1 dL_settles_34 rfl rfl ?_
  refine z_iload_n C 3 dL_settles_35 rfl rfl ?_
  refine z_callS C kL_low gL_settles_L_low (l_low X.2.1 g (mK S) (by omega) (by omega)) dL_settles_36 [] rfl (by decide) (by decide) (Nat.le_of_ble_eq_true rfl) rfl ?_
  refine z_top (y := nI x) (congrArg nI hX) ?_
  refine z_istore C dL_settles_39 (Nat.le_of_ble_eq_true rfl) ?_
  refine z_lv (lv' := [some (.ref x0), some (.int g), some (.int (nI 1)), some (.int (nI (mK S))), some (.int (nI x)), none, none, none, none, none, none, none, none, none, none, none, none, none, none, none, none]) rfl ?_
  refine z_aload_n C 0 dL_settles_41 rfl rfl ?_
  refine z_iload C dL_settles_42 rfl ?_
  refine z_iconst C (nI 0) dL_settles_44 (by decide) ?_
  refine z_callVr C kX5_change gL_settles_X5_change (l_chg0 X.2.1 x0 h0 w0 t S x hG hx) dL_settles_45 [0, 1, 2, 3, 4, 5, 6, 7, 8] [] 0 rfl nd_0_1_2_3_4_5_6_7_8 rfl rfl rfl (by decide) (by decide) (Nat.le_of_ble_eq_true rfl) rfl ?_
  refine z_istore C dL_settles_48 (Nat.le_of_ble_eq_true rfl) ?_
  refine z_lv (lv' := [some (.ref x0), some (.int g), some (.int (nI 1)), some (.int (nI (mK S))), some (.int (nI x)), some (.int (nI (kN S x))), none, none, none, none, none, none, none, none, none, none, none, none, none, none, none]) rfl ?_
  refine z_aload_n C 0 dL_settles_50 rfl rfl ?_
  refine z_iload C dL_settles_51 rfl ?_
  refine z_iconst C (nI 2) dL_settles_53 (by decide) ?_
  refine z_callVr C kX5_change gL_settles_X5_change (l_chg2 X.2.1 x0 h0 w0 t S x hG hx) dL_settles_54 [0, 1, 2, 3, 4, 5, 6, 7, 8] [] 0 rfl nd_0_1_2_3_4_5_6_7_8 rfl rfl rfl (by decide) (by decide) (Nat.le_of_ble_eq_true rfl) rfl ?_
  refine z_nif_ne_f C 64 dL_settles_57 (by decide) (by omega) (by omega) ?_
  refine z_iconst C (nI 1) dL_settles_60 (by decide) ?_
  refine z_goto C 65 dL_settles_61 (by decide) ?_
  refine z_istore C dL_settles_65 (Nat.le_of_ble_eq_true rfl) ?_
  refine z_lv (lv' := [some (.ref x0), some (.int g), some (.int (nI 1)), some (.int (nI (mK S))), some (.int (nI x)), some (.int (nI (kN S x))), some (.int (nI 1)), none, none, none, none, none, none, none, none, none, none, none, none, none, none]) rfl ?_
  refine z_aload_n C 0 dL_settles_67 rfl rfl ?_
  refine z_iload_n C 2 dL_settles_68 rfl rfl ?_
  refine z_nif_eq_f C 76 dL_settles_69 (by decide) (by omega) (by omega) ?_
  refine z_iconst C (nI 2) dL_settles_72 (by decide) ?_
  refine z_goto C 77 dL_settles_73 (by decide) ?_
  refine z_callVr C kX5_count gL_settles_X5_count (l_cntK X.2.1 x0 h0 h1 w0 w1 t S o kp ln ps 1 hG (by decide)) dL_settles_77 [0, 1, 2, 3, 4, 5, 6, 7, 8, 9, 51] [] 0 rfl nd_0_1_2_3_4_5_6_7_8_9_51 rfl rfl rfl (by decide) (by decide) (Nat.le_of_ble_eq_true rfl) rfl ?_
  have hg_1 : cnS S 1 ≤ mK S := zc_le _ _
  refine z_istore C dL_settles_80 (Nat.le_of_ble_eq_true rfl) ?_
  refine z_lv (lv' := [some (.ref x0), some (.int g), some (.int (nI 1)), some (.int (nI (mK S))), some (.int (nI x)), some (.int (nI (kN S x))), some (.int (nI 1)), some (.int (nI (cnS S 1))), none, none, none, none, none, none, none, none, none, none, none, none, none]) rfl ?_
  refine z_aload_n C 0 dL_settles_82 rfl rfl ?_
  refine z_iload_n C 2 dL_settles_83 rfl rfl ?_
  refine z_nif_eq_f C 91 dL_settles_84 (by decide) (by omega) (by omega) ?_
  refine z_iconst C (nI 3) dL_settles_87 (by decide) ?_
  refine z_goto C 92 dL_settles_88 (by decide) ?_
  refine z_callVr C kX5_count gL_settles_X5_count (l_cntK X.2.1 x0 h0 h1 w0 w1 t S o kp ln ps 2 hG (by decide)) dL_settles_92 [0, 1, 2, 3, 4, 5, 6, 7, 8, 9, 51] [] 0 rfl nd_0_1_2_3_4_5_6_7_8_9_51 rfl rfl rfl (by decide) (by decide) (Nat.le_of_ble_eq_true rfl) rfl ?_
  have hg_2 : cnS S 2 ≤ mK S := zc_le _ _
  refine z_istore C dL_settles_95 (Nat.le_of_ble_eq_true rfl) ?_
  refine z_lv (lv' := [some (.ref x0), some (.int g), some (.int (nI 1)), some (.int (nI (mK S))), some (.int (nI x)), some (.int (nI (kN S x))), some (.int (nI 1)), some (.int (nI (cnS S 1))), some (.int (nI (cnS S 2))), none, none, none, none, none, none, none, none, none, none, none, none]) rfl ?_
  refine z_aload_n C 0 dL_settles_97 rfl rfl ?_
  refine z_iconst C (nI 4) dL_settles_98 (by decide) ?_
  refine z_callVr C kX5_count gL_settles_X5_count (l_cntK X.2.1 x0 h0 h1 w0 w1 t S o kp ln ps 3 hG (by decide)) dL_settles_99 [0, 1, 2, 3, 4, 5, 6, 7, 8, 9, 51] [] 0 rfl nd_0_1_2_3_4_5_6_7_8_9_51 rfl rfl rfl (by decide) (by decide) (Nat.le_of_ble_eq_true rfl) rfl ?_
  have hg_3 : cnS S 3 ≤ mK S := zc_le _ _
  refine z_istore C dL_settles_102 (Nat.le_of_ble_eq_true rfl) ?_
  refine z_lv (lv' := [some (.ref x0), some (.int g), some (.int (nI 1)), some (.int (nI (mK S))), some (.int (nI x)), some (.int (nI (kN S x))), some (.int (nI 1)), some (.int (nI (cnS S 1))), some (.int (nI (cnS S 2))), some (.int (nI (cnS S 3))), none, none, none, none, none, none, none, none, none, none, none]) rfl ?_
  refine z_aload_n C 0 dL_settles_104 rfl rfl ?_
  refine z_iload C dL_settles_105 rfl ?_
  refine z_iconst C (nI 3) dL_settles_107 (by decide) ?_
  refine z_callVr C kX5_change gL_settles_X5_change (l_chg3n X.2.1 x0 h0 w0 t S x hG hx hl0) dL_settles_108 [0, 1, 2, 3, 4, 5, 6, 7, 8] [] 0 rfl nd_0_1_2_3_4_5_6_7_8 rfl rfl rfl (by decide) (by decide) (Nat.le_of_ble_eq_true rfl) rfl ?_
  refine z_istore C dL_settles_111 (Nat.le_of_ble_eq_true rfl) ?_
  refine z_lv (lv' := [some (.ref x0), some (.int g), some (.int (nI 1)), some (.int (nI (mK S))), some (.int (nI x)), some (.int (nI (kN S x))), some (.int (nI 1)), some (.int (nI (cnS S 1))), some (.int (nI (cnS S 2))), some (.int (nI (cnS S 3))), some (.int (-5)), none, none, none, none, none, none, none, none, none, none]) rfl ?_
  refine z_aload_n C 0 dL_settles_113 rfl rfl ?_
  refine z_iload C dL_settles_114 rfl ?_
  refine z_iconst C (nI 4) dL_settles_116 (by decide) ?_
  refine z_callVr C kX5_change gL_settles_X5_change (l_chg4y X.2.1 x0 h0 w0 t S x P hG hx hl) dL_settles_117 [0, 1, 2, 3, 4, 5, 6, 7, 8] [] 0 rfl nd_0_1_2_3_4_5_6_7_8 rfl rfl rfl (by decide) (by decide) (Nat.le_of_ble_eq_true rfl) rfl ?_
  refine z_istore C dL_settles_120 (Nat.le_of_ble_eq_true rfl) ?_
  refine z_lv (lv' := [some (.ref x0), some (.int g), some (.int (nI 1)), some (.int (nI (mK S))), some (.int (nI x)), some (.int (nI (kN S x))), some (.int (nI 1)), some (.int (nI (cnS S 1))), some (.int (nI (cnS S 2))), some (.int (nI (cnS S 3))), some (.int (-5)), some (.int (nI P)), none, none, none, none, none, none, none, none, none]) rfl ?_
  refine z_iload C dL_settles_122 rfl ?_
  refine z_iconst C (nI 2) dL_settles_124 (by decide) ?_
  refine z_idiv C dL_settles_125 (by decide) ?_
  refine z_top (y := nI 1) (by rw [hk]; decide) ?_
  refine z_istore C dL_settles_126 (Nat.le_of_ble_eq_true rfl) ?_
  refine z_lv (lv' := [some (.ref x0), some (.int g), some (.int (nI 1)), some (.int (nI (mK S))), some (.int (nI x)), some (.int (nI (kN S x))), some (.int (nI 1)), some (.int (nI (cnS S 1))), some (.int (nI (cnS S 2))), some (.int (nI (cnS S 3))), some (.int (-5)), some (.int (nI P)), some (.int (nI 1)), none, none, none, none, none, none, none, none]) rfl ?_
  refine z_iload_n C 2 dL_settles_128 rfl rfl ?_
  refine z_nif_eq_f C 152 dL_settles_129 (by decide) (by omega) (by omega) ?_
  refine z_iload C dL_settles_132 rfl ?_
  refine z_iconst C (nI 1) dL_settles_134 (by decide) ?_
  refine z_ncmp_eq_f C 144 dL_settles_135 (by decide) (by omega) (by omega) (by omega) ?_
  refine z_iload C dL_settles_138 rfl ?_
  refine z_iconst C (nI 3) dL_settles_140 (by decide) ?_
  refine z_ncmp_ne_t C 148 dL_settles_141 (by decide) (by omega) (by omega) (by omega) ?_
  refine z_iconst C (nI 0) dL_settles_148 (by decide) ?_
  refine z_goto C 168 dL_settles_149 (by decide) ?_
  refine z_istore C dL_settles_168 (Nat.le_of_ble_eq_true rfl) ?_
  refine z_lv (lv' := [some (.ref x0), some (.int g), some (.int (nI 1)), some (.int (nI (mK S))), some (.int (nI x)), some (.int (nI (kN S x))), some (.int (nI 1)), some (.int (nI (cnS S 1))), some (.int (nI (cnS S 2))), some (.int (nI (cnS S 3))), some (.int (-5)), some (.int (nI P)), some (.int (nI 1)), some (.int (nI 0)), none, none, none, none, none, none, none]) rfl ?_
  refine z_iload C dL_settles_170 rfl ?_
  refine z_iconst C (nI 4) dL_settles_172 (by decide) ?_
  refine z_ncmp_ne_t C 180 dL_settles_173 (by decide) (by omega) (by omega) (by omega) ?_
  refine z_aload_n C 0 dL_settles_180 rfl rfl ?_
  refine z_iconst C (nI 0) dL_settles_181 (by decide) ?_
  refine z_iload C dL_settles_182 rfl ?_
  refine z_callVr C kX5_size gL_settles_X5_size (l_size0 X.2.1 x0 h0 w0 t S 1 hG (by decide)) dL_settles_184 [0, 1, 2, 3, 4, 5, 6, 7, 8] [] 0 rfl nd_0_1_2_3_4_5_6_7_8 rfl rfl rfl (by decide) (by decide) (Nat.le_of_ble_eq_true rfl) rfl ?_
  refine z_istore C dL_settles_187 (Nat.le_of_ble_eq_true rfl) ?_
  refine z_lv (lv' := [some (.ref x0), some (.int g), some (.int (nI 1)), some (.int (nI (mK S))), some (.int (nI x)), some (.int (nI (kN S x))), some (.int (nI 1)), some (.int (nI (cnS S 1))), some (.int (nI (cnS S 2))), some (.int (nI (cnS S 3))), some (.int (-5)), some (.int (nI P)), some (.int (nI 1)), some (.int (nI 0)), some (.int (nI (uU S 1))), none, none, none, none, none, none]) rfl ?_
  refine z_aload_n C 0 dL_settles_189 rfl rfl ?_
  refine z_iload C dL_settles_190 rfl ?_
  refine z_iconst C (nI 5) dL_settles_192 (by decide) ?_
  refine z_callVr C kX5_change gL_settles_X5_change (l_chg5n X.2.1 x0 h0 w0 t S x hG hx (by omega)) dL_settles_193 [0, 1, 2, 3, 4, 5, 6, 7, 8] [] 0 rfl nd_0_1_2_3_4_5_6_7_8 rfl rfl rfl (by decide) (by decide) (Nat.le_of_ble_eq_true rfl) rfl ?_
  refine z_istore C dL_settles_196 (Nat.le_of_ble_eq_true rfl) ?_
  refine z_lv (lv' := [some (.ref x0), some (.int g), some (.int (nI 1)), some (.int (nI (mK S))), some (.int (nI x)), some (.int (nI (kN S x))), some (.int (nI 1)), some (.int (nI (cnS S 1))), some (.int (nI (cnS S 2))), some (.int (nI (cnS S 3))), some (.int (-5)), some (.int (nI P)), some (.int (nI 1)), some (.int (nI 0)), some (.int (nI (uU S 1))), some (.int (-5)), none, none, none, none, none]) rfl ?_
  refine z_iload C dL_settles_198 rfl ?_
  refine z_iconst C (nI 4) dL_settles_200 (by decide) ?_
  refine z_ncmp_eq_f C 209 dL_settles_201 (by decide) (by omega) (by omega) (by omega) ?_
  refine z_iload C dL_settles_204 rfl ?_
  refine z_nif_ne_t C 213 dL_settles_206 (by decide) (by omega) (by omega) ?_
  refine z_aload_n C 0 dL_settles_213 rfl rfl ?_
  refine z_iload C dL_settles_214 rfl ?_
  refine z_iload C dL_settles_216 rfl ?_
  refine z_nif_ne_t C 226 dL_settles_218 (by decide) (by omega) (by omega) ?_
  refine z_iload C dL_settles_226 rfl ?_
  refine z_iconst C (nI 4) dL_settles_228 (by decide) ?_
  refine z_callVr C kX5_line gL_settles_X5_line (l_line4 X.2.1 x0 h0 w0 t S 1 P hG (by decide) hp) dL_settles_229 [0, 1, 2, 3, 4, 5, 6, 7, 8] [] 0 rfl nd_0_1_2_3_4_5_6_7_8 rfl rfl rfl (by decide) (by decide) (Nat.le_of_ble_eq_true rfl) rfl ?_
  refine z_istore C dL_settles_232 (Nat.le_of_ble_eq_true rfl) ?_
  refine z_lv (lv' := [some (.ref x0), some (.int g), some (.int (nI 1)), some (.int (nI (mK S))), some (.int (nI x)), some (.int (nI (kN S x))), some (.int (nI 1)), some (.int (nI (cnS S 1))), some (.int (nI (cnS S 2))), some (.int (nI (cnS S 3))), some (.int (-5)), some (.int (nI P)), some (.int (nI 1)), some (.int (nI 0)), some (.int (nI (uU S 1))), some (.int (-5)), some (.int (nI (nSt S 1 P))), none, none, none, none]) rfl ?_
  refine z_iload C dL_settles_234 rfl ?_
  refine z_nif_ne_t C 244 dL_settles_236 (by decide) (by omega) (by omega) ?_
  refine z_iconst C (nI 1) dL_settles_244 (by decide) ?_
  refine z_aload_n C 0 dL_settles_245 rfl rfl ?_
  refine z_iload C dL_settles_246 rfl ?_
  refine z_iload_n C 2 dL_settles_248 rfl rfl ?_
  refine z_nif_eq_f C 257 dL_settles_249 (by decide) (by omega) (by omega) ?_
  refine z_bipush C (nI 7) dL_settles_252 (by decide) ?_
  refine z_goto C 259 dL_settles_254 (by decide) ?_
  refine z_callVr C kX5_change gL_settles_X5_change (l_chg7 X.2.1 x0 h0 w0 t S x hG hx) dL_settles_259 [0, 1, 2, 3, 4, 5, 6, 7, 8] [.int (nI 1)] 0 rfl nd_0_1_2_3_4_5_6_7_8 rfl rfl rfl (by decide) (by decide) (Nat.le_of_ble_eq_true rfl) rfl ?_
  have hg_4 : zc (sup S x) (mK S) ≤ mK S := zc_le _ _
  refine z_iadd C dL_settles_262 ?_
  refine z_top (y := nI (1 + (zc (sup S x) (mK S)))) (nI_add _ _) ?_
  refine z_istore C dL_settles_263 (Nat.le_of_ble_eq_true rfl) ?_
  refine z_lv (lv' := [some (.ref x0), some (.int g), some (.int (nI 1)), some (.int (nI (mK S))), some (.int (nI x)), some (.int (nI (kN S x))), some (.int (nI 1)), some (.int (nI (cnS S 1))), some (.int (nI (cnS S 2))), some (.int (nI (cnS S 3))), some (.int (-5)), some (.int (nI P)), some (.int (nI 1)), some (.int (nI 0)), some (.int (nI (uU S 1))), some (.int (-5)), some (.int (nI (nSt S 1 P))), some (.int (nI (1 + (zc (sup S x) (mK S))))), none, none, none]) rfl ?_
  refine z_iload_n C 2 dL_settles_265 rfl rfl ?_
  refine z_nif_eq_f C 278 dL_settles_266 (by decide) (by omega) (by omega) ?_
  refine z_aload_n C 0 dL_settles_269 rfl rfl ?_
  refine z_iload C dL_settles_270 rfl ?_
  refine z_callV (wn := (WRd X.2.1 x0 h0 h1 w0 w1 t r S1 o1 kp1 Q1 tx ln ps)) C kX5_accept gL_settles_X5_accept m1 dL_settles_272 [0, 1, 2, 3, 4, 5, 6, 7, 8, 9, 10, 11, 12, 13, 14, 15, 16, 17, 18, 19, 20, 21, 22, 23, 24, 25, 26, 27, 28, 29, 30, 31, 32, 33, 34, 35, 36, 37, 38, 39, 40, 41, 42, 43, 44, 45, 46, 47, 48, 49, 50] [] 0 rfl rfl nd_0_1_2_3_4_5_6_7_8_9_10_11_12_13_14_15_16_17_18_19_20_21_22_23_24_25_26_27_28_29_30_31_32_33_34_35_36_37_38_39_40_41_42_43_44_45_46_47_48_49_50 rfl rfl rfl (by decide) (by decide) (Nat.le_of_ble_eq_true rfl) rfl ((zput_par nd_0_1_2_3_4_5_6_7_8_9_10_11_12_13_14_15_16_17_18_19_20_21_22_23_24_25_26_27_28_29_30_31_32_33_34_35_36_37_38_39_40_41_42_43_44_45_46_47_48_49_50 rfl).trans rfl) ?_
  refine z_goto C 284 dL_settles_275 (by decide) ?_
  refine z_istore C dL_settles_284 (Nat.le_of_ble_eq_true rfl) ?_
  refine z_lv (lv' := [some (.ref x0), some (.int g), some (.int (nI 1)), some (.int (nI (mK S))), some (.int (nI x)), some (.int (nI (kN S x))), some (.int (nI 1)), some (.int (nI (cnS S 1))), some (.int (nI (cnS S 2))), some (.int (nI (cnS S 3))), some (.int (-5)), some (.int (nI P)), some (.int (nI 1)), some (.int (nI 0)), some (.int (nI (uU S 1))), some (.int (-5)), some (.int (nI (nSt S 1 P))), some (.int (nI (1 + (zc (sup S x) (mK S))))), some (.int (nI (1 + zc (sup S x) (mK S)))), none, none]) rfl ?_
  refine z_iload C dL_settles_286 rfl ?_
  refine z_iload C dL_settles_288 rfl ?_
  refine z_ncmp_ne_f C 311 dL_settles_290 (by decide) (by omega) (by omega) (by omega) ?_
  refine z_aload_n C 0 dL_settles_293 rfl rfl ?_
  refine z_iload_n C 2 dL_settles_294 rfl rfl ?_
  refine z_nif_eq_f C 302 dL_settles_295 (by decide) (by omega) (by omega) ?_
  refine z_iconst C (nI 3) dL_settles_298 (by decide) ?_
  refine z_goto C 303 dL_settles_299 (by decide) ?_
  refine z_callVr C kX5_count gL_settles_X5_count (l_cntK X.2.1 x0 h0 h1 w0 w1 t S1 o1 kp1 ln ps 2 hG1 (by decide)) dL_settles_303 [0, 1, 2, 3, 4, 5, 6, 7, 8, 9, 51] [] 0 rfl nd_0_1_2_3_4_5_6_7_8_9_51 rfl rfl rfl (by decide) (by decide) (Nat.le_of_ble_eq_true rfl) rfl ?_
  have hg_5 : cnS S1 2 ≤ mK S1 := zc_le _ _
  refine z_iload C dL_settles_306 rfl ?_
  refine z_ncmp_eq_t C 313 dL_settles_308 (by decide) (by omega) (by omega) (by omega) ?_
  refine z_iload C dL_settles_313 rfl ?_
  refine z_nif_ne_t C 320 dL_settles_315 (by decide) (by omega) (by omega) ?_
  refine z_iload_n C 2 dL_settles_320 rfl rfl ?_
  refine z_nif_eq_f C 333 dL_settles_321 (by decide) (by omega) (by omega) ?_
  refine z_iload C dL_settles_324 rfl ?_
  refine z_nif_eq_t C 333 dL_settles_326 (by decide) (by omega) (by omega) ?_
  refine z_iconst C (nI 0) dL_settles_333 (by decide) ?_
  refine z_istore C dL_settles_334 (Nat.le_of_ble_eq_true rfl) ?_
  refine z_lv (lv' := [some (.ref x0), some (.int g), some (.int (nI 1)), some (.int (nI (mK S))), some (.int (nI x)), some (.int (nI (kN S x))), some (.int (nI 1)), some (.int (nI (cnS S 1))), some (.int (nI (cnS S 2))), some (.int (nI (cnS S 3))), some (.int (-5)), some (.int (nI P)), some (.int (nI 1)), some (.int (nI 0)), some (.int (nI (uU S 1))), some (.int (-5)), some (.int (nI (nSt S 1 P))), some (.int (nI (1 + (zc (sup S x) (mK S))))), some (.int (nI (1 + zc (sup S x) (mK S)))), some (.int (nI 0)), none]) rfl ?_
  refine z_aload_n C 0 dL_settles_336 rfl rfl ?_
  refine z_iload_n C 2 dL_settles_337 rfl rfl ?_
  refine z_nif_eq_f C 345 dL_settles_338 (by decide) (by omega) (by omega) ?_
  refine z_iconst C (nI 2) dL_settles_341 (by decide) ?_
  refine z_goto C 346 dL_settles_342 (by decide) ?_
  refine z_callVr C kX5_count gL_settles_X5_count (l_cntK X.2.1 x0 h0 h1 w0 w1 t S1 o1 kp1 ln ps 1 hG1 (by decide)) dL_settles_346 [0, 1, 2, 3, 4, 5, 6, 7, 8, 9, 51] [] 0 rfl nd_0_1_2_3_4_5_6_7_8_9_51 rfl rfl rfl (by decide) (by decide) (Nat.le_of_ble_eq_true rfl) rfl ?_
  have hg_6 : cnS S1 1 ≤ mK S1 := zc_le _ _
  refine z_iload C dL_settles_349 rfl ?_
  refine z_iload C dL_settles_351 rfl ?_
  refine z_iadd C dL_settles_353 ?_
  refine z_top (y := nI ((cnS S 1) + (1 + (zc (sup S x) (mK S))))) (nI_add _ _) ?_
  refine z_ncmp_ne_f C 402 dL_settles_354 (by decide) (by omega) (by omega) (by omega) ?_
  refine z_aload_n C 0 dL_settles_357 rfl rfl ?_
  refine z_iconst C (nI 4) dL_settles_358 (by decide) ?_
  refine z_callVr C kX5_count gL_settles_X5_count (l_cntK X.2.1 x0 h0 h1 w0 w1 t S1 o1 kp1 ln ps 3 hG1 (by decide)) dL_settles_359 [0, 1, 2, 3, 4, 5, 6, 7, 8, 9, 51] [] 0 rfl nd_0_1_2_3_4_5_6_7_8_9_51 rfl rfl rfl (by decide) (by decide) (Nat.le_of_ble_eq_true rfl) rfl ?_
  have hg_7 : cnS S1 3 ≤ mK S1 := zc_le _ _
  refine z_iload C dL_settles_362 rfl ?_
  refine z_iload C dL_settles_364 rfl ?_
  refine z_nif_eq_t C 374 dL_settles_366 (by decide) (by omega) (by omega) ?_
  refine z_iconst C (nI 0) dL_settles_374 (by decide) ?_
  refine z_iadd C dL_settles_375 ?_
  refine z_top (y := nI (cnS S 3)) (nI_add _ _) ?_
  refine z_ncmp_ne_f C 402 dL_settles_376 (by decide) (by omega) (by omega) (by omega) ?_
  refine z_aload_n C 0 dL_settles_379 rfl rfl ?_
  refine z_iload C dL_settles_380 rfl ?_
  refine z_iconst C (nI 2) dL_settles_382 (by decide) ?_
  refine z_callVr C kX5_change gL_settles_X5_change (l_chg2 X.2.1 x0 h0 w0 t S1 x hG1 (by omega)) dL_settles_383 [0, 1, 2, 3, 4, 5, 6, 7, 8] [] 0 rfl nd_0_1_2_3_4_5_6_7_8 rfl rfl rfl (by decide) (by decide) (Nat.le_of_ble_eq_true rfl) rfl ?_
  refine z_iload_n C 2 dL_settles_386 rfl rfl ?_
  refine z_nif_eq_f C 394 dL_settles_387 (by decide) (by omega) (by omega) ?_
  refine z_iconst C (nI 1) dL_settles_390 (by decide) ?_
  refine z_goto C 395 dL_settles_391 (by decide) ?_
  refine z_ncmp_ne_f C 402 dL_settles_395 (by decide) (by omega) (by omega) (by omega) ?_
  refine z_iconst C (nI 1) dL_settles_398 (by decide) ?_
  refine z_goto C 403 dL_settles_399 (by decide) ?_
  refine z_istore C dL_settles_403 (Nat.le_of_ble_eq_true rfl) ?_
  refine z_lv (lv' := [some (.ref x0), some (.int g), some (.int (nI 1)), some (.int (nI (mK S))), some (.int (nI x)), some (.int (nI (kN S x))), some (.int (nI 1)), some (.int (nI (cnS S 1))), some (.int (nI (cnS S 2))), some (.int (nI (cnS S 3))), some (.int (-5)), some (.int (nI P)), some (.int (nI 1)), some (.int (nI 0)), some (.int (nI (uU S 1))), some (.int (-5)), some (.int (nI (nSt S 1 P))), some (.int (nI (1 + (zc (sup S x) (mK S))))), some (.int (nI (1 + zc (sup S x) (mK S)))), some (.int (nI 0)), some (.int (nI 1))]) rfl ?_
  refine z_iload C dL_settles_405 rfl ?_
  refine z_iconst C (nI 4) dL_settles_407 (by decide) ?_
  refine z_ncmp_ne_t C 496 dL_settles_408 (by decide) (by omega) (by omega) (by omega) ?_
  refine z_iload C dL_settles_496 rfl ?_
  refine z_nif_eq_f C 528 dL_settles_498 (by decide) (by omega) (by omega) ?_
  refine z_aload_n C 0 dL_settles_501 rfl rfl ?_
  refine z_iconst C (nI 0) dL_settles_502 (by decide) ?_
  refine z_iload C dL_settles_503 rfl ?_
  refine z_callVr C kX5_size gL_settles_X5_size (l_size0 X.2.1 x0 h0 w0 t S1 1 hG1 (by decide)) dL_settles_505 [0, 1, 2, 3, 4, 5, 6, 7, 8] [] 0 rfl nd_0_1_2_3_4_5_6_7_8 rfl rfl rfl (by decide) (by decide) (Nat.le_of_ble_eq_true rfl) rfl ?_
  refine z_iload C dL_settles_508 rfl ?_
  refine z_iload C dL_settles_510 rfl ?_
  refine z_nif_eq_t C 519 dL_settles_512 (by decide) (by omega) (by omega) ?_
  refine z_iconst C (nI 0) dL_settles_519 (by decide) ?_
  refine z_isub C dL_settles_520 ?_
  refine z_top (y := nI ((uU S 1) - 0)) ((pk_sub (by omega)).trans (congrArg nI (by omega))) ?_
  refine z_ncmp_ne_f C 528 dL_settles_521 (by decide) (by omega) (by omega) (by omega) ?_
  refine z_iconst C (nI 1) dL_settles_524 (by decide) ?_
  refine z_goto C 529 dL_settles_525 (by decide) ?_
  exact z_zret C N dL_settles_529 rfl (rfl) (rfl)

set_option maxHeartbeats 4000000 in
set_option maxRecDepth 100000 in
theorem w_stl13 (E : zE) (x0 h0 h1 w0 w1 : Nat) (t : Nat → Nat) (r : Nat → Nat → Nat) (S S1 : zSt) (o kp kp1 o1 : Nat) (Q Q1 : Nat → zSt) (tx : Nat → Nat) (ln : Nat) (ps : zPs) {B B1 : Nat} (g : Int32) (x P : Nat) (hG : GG S B) (hG1 : GG S1 B1) (hX : lw g (mK S) = x) (hx : x < mK S) (hk : kN S x = 3) (hs : sN S x = 0) (hp : P < uU S 1) (hl : lP S 1 x = P + 1) (hl0 : lP S 0 x = 0) (hm : mK S1 = mK S) (hct : cnS S1 1 = cnS S 1 + (1 + zc (sup S x) (mK S))) (hco : cnS S1 2 = cnS S 2) (hc3 : cnS S1 3 = cnS S 3 + nSt S 1 P) (hs1 : sN S1 x = 1) (hu : uU S1 1 + 1 = uU S 1) (m1 : zM E yX5_accept wsX5_accept 7 [.ref x0, .int (nI x)] (WAd E x0 h0 h1 w0 t r S o kp Q) (WAd E x0 h0 h1 w0 t r S1 o1 kp1 Q1) (some (.int (nI (1 + zc (sup S x) (mK S)))))) : zM E yL_settles wsL_settles 8 [.ref x0, .int g, .int (nI 1)] (WRd E x0 h0 h1 w0 w1 t r S o kp Q tx ln ps) (WRd E x0 h0 h1 w0 w1 t r S1 o1 kp1 Q1 tx ln ps) (some (.int (nI 1))) := by
  refine zM.of kL_settles (Nat.le_of_ble_eq_true rfl) rfl [some (.ref x0), some (.int g), some (.int (nI 1)), none, none, none, none, none, none, none, none, none, none, none, none, none, none, none, none, none, none] rfl (Nat.le_of_ble_eq_true rfl) ?_
  intro X eX C N
  subst eX
  have hb0 : uU S 0 ≤ 12 := gg_u hG 0
  have hb1 : uU S 1 ≤ 8 := gg_u1 hG
  have hb2 : mK S ≤ 60 := gg_M hG
  have hb3 : uU S1 0 ≤ 12 := gg_u hG1 0
  have hb4 : uU S1 1 ≤ 8 := gg_u1 hG1
  have hb5 : mK S1 ≤ 60 := gg_M hG1
  have hkx := (kN_e hG hx).2
  have hsx := (sN_e hG hx).2
  refine z_aload_n C 0 dL_settles_0 rfl rfl ?_
  refine z_iconst C (nI 0) dL_settles_1 (by decide) ?_
  refine z_callVr C kX5_count gL_settles_X5_count (l_cnt0 X.2.1 x0 h0 h1 w0 w1 t S o kp ln ps  hG ) dL_settles_2 [0, 1, 2, 3, 4, 5, 6, 7, 8, 9, 51] [] 0 rfl nd_0_1_2_3_4_5_6_7_8_9_51 rfl rfl rfl (by decide) (by decide) (Nat.le_of_ble_eq_true rfl) rfl ?_
  refine z_istore_n C 3 dL_settles_5 rfl (Nat.le_of_ble_eq_true rfl) ?_
  refine z_lv (lv' := [some (.ref x0), some (.int g), some (.int (nI 1)), some (.int (nI (mK S))), none, none, none, none, none, none, none, none, none, none, none, none, none, none, none, none, none]) rfl ?_
  refine z_iload_n C 3 dL_settles_6 rfl rfl ?_
  refine z_nif_ne_t C 34 dL_settles_7 (by decide) (by omega) (by omega) ?_
  refine z_iload_n C 1 dL_settles_34 rfl rfl ?_
  refine z_iload_n C 3 dL_settles_35 rfl rfl ?_
  refine z_callS C kL_low gL_settles_L_low (l_low X.2.1 g (mK S) (by omega) (by omega)) dL_settles_36 [] rfl (by decide) (by decide) (Nat.le_of_ble_eq_true rfl) rfl ?_
  refine z_top (y := nI x) (congrArg nI hX) ?_
  refine z_istore C dL_settles_39 (Nat.le_of_ble_eq_true rfl) ?_
  refine z_lv (lv' := [some (.ref x0), some (.int g), some (.int (nI 1)), some (.int (nI (mK S))), some (.int (nI x)), none, none, none, none, none, none, none, none, none, none, none, none, none, none, none, none]) rfl ?_
  refine z_aload_n C 0 dL_settles_41 rfl rfl ?_
  refine z_iload C dL_settles_42 rfl ?_
  refine z_iconst C (nI 0) dL_settles_44 (by decide) ?_
  refine z_callVr C kX5_change gL_settles_X5_change (l_chg0 X.2.1 x0 h0 w0 t S x hG hx) dL_settles_45 [0, 1, 2, 3, 4, 5, 6, 7, 8] [] 0 rfl nd_0_1_2_3_4_5_6_7_8 rfl rfl rfl (by decide) (by decide) (Nat.le_of_ble_eq_true rfl) rfl ?_
  refine z_istore C dL_settles_48 (Nat.le_of_ble_eq_true rfl) ?_
  refine z_lv (lv' := [some (.ref x0), some (.int g), some (.int (nI 1)), some (.int (nI (mK S))), some (.int (nI x)), some (.int (nI (kN S x))), none, none, none, none, none, none, none, none, none, none, none, none, none, none, none]) rfl ?_
  refine z_aload_n C 0 dL_settles_50 rfl rfl ?_
  refine z_iload C dL_settles_51 rfl ?_
  refine z_iconst C (nI 2) dL_settles_53 (by decide) ?_
  refine z_callVr C kX5_change gL_settles_X5_change (l_chg2 X.2.1 x0 h0 w0 t S x hG hx) dL_settles_54 [0, 1, 2, 3, 4, 5, 6, 7, 8] [] 0 rfl nd_0_1_2_3_4_5_6_7_8 rfl rfl rfl (by decide) (by decide) (Nat.le_of_ble_eq_true rfl) rfl ?_
  refine z_nif_ne_f C 64 dL_settles_57 (by decide) (by omega) (by omega) ?_
  refine z_iconst C (nI 1) dL_settles_60 (by decide) ?_
  refine z_goto C 65 dL_settles_61 (by decide) ?_
  refine z_istore C dL_settles_65 (Nat.le_of_ble_eq_true rfl) ?_
  refine z_lv (lv' := [some (.ref x0), some (.int g), some (.int (nI 1)), some (.int (nI (mK S))), some (.int (nI x)), some (.int (nI (kN S x))), some (.int (nI 1)), none, none, none, none, none, none, none, none, none, none, none, none, none, none]) rfl ?_
  refine z_aload_n C 0 dL_settles_67 rfl rfl ?_
  refine z_iload_n C 2 dL_settles_68 rfl rfl ?_
  refine z_nif_eq_f C 76 dL_settles_69 (by decide) (by omega) (by omega) ?_
  refine z_iconst C (nI 2) dL_settles_72 (by decide) ?_
  refine z_goto C 77 dL_settles_73 (by decide) ?_
  refine z_callVr C kX5_count gL_settles_X5_count (l_cntK X.2.1 x0 h0 h1 w0 w1 t S o kp ln ps 1 hG (by decide)) dL_settles_77 [0, 1, 2, 3, 4, 5, 6, 7, 8, 9, 51] [] 0 rfl nd_0_1_2_3_4_5_6_7_8_9_51 rfl rfl rfl (by decide) (by decide) (Nat.le_of_ble_eq_true rfl) rfl ?_
  have hg_1 : cnS S 1 ≤ mK S := zc_le _ _
  refine z_istore C dL_settles_80 (Nat.le_of_ble_eq_true rfl) ?_
  refine z_lv (lv' := [some (.ref x0), some (.int g), some (.int (nI 1)), some (.int (nI (mK S))), some (.int (nI x)), some (.int (nI (kN S x))), some (.int (nI 1)), some (.int (nI (cnS S 1))), none, none, none, none, none, none, none, none, none, none, none, none, none]) rfl ?_
  refine z_aload_n C 0 dL_settles_82 rfl rfl ?_
  refine z_iload_n C 2 dL_settles_83 rfl rfl ?_
  refine z_nif_eq_f C 91 dL_settles_84 (by decide) (by omega) (by omega) ?_
  refine z_iconst C (nI 3) dL_settles_87 (by decide) ?_
  refine z_goto C 92 dL_settles_88 (by decide) ?_
  refine z_callVr C kX5_count gL_settles_X5_count (l_cntK X.2.1 x0 h0 h1 w0 w1 t S o kp ln ps 2 hG (by decide)) dL_settles_92 [0, 1, 2, 3, 4, 5, 6, 7, 8, 9, 51] [] 0 rfl nd_0_1_2_3_4_5_6_7_8_9_51 rfl rfl rfl (by decide) (by decide) (Nat.le_of_ble_eq_true rfl) rfl ?_
  have hg_2 : cnS S 2 ≤ mK S := zc_le _ _
  refine z_istore C dL_settles_95 (Nat.le_of_ble_eq_true rfl) ?_
  refine z_lv (lv' := [some (.ref x0), some (.int g), some (.int (nI 1)), some (.int (nI (mK S))), some (.int (nI x)), some (.int (nI (kN S x))), some (.int (nI 1)), some (.int (nI (cnS S 1))), some (.int (nI (cnS S 2))), none, none, none, none, none, none, none, none, none, none, none, none]) rfl ?_
  refine z_aload_n C 0 dL_settles_97 rfl rfl ?_
  refine z_iconst C (nI 4) dL_settles_98 (by decide) ?_
  refine z_callVr C kX5_count gL_settles_X5_count (l_cntK X.2.1 x0 h0 h1 w0 w1 t S o kp ln ps 3 hG (by decide)) dL_settles_99 [0, 1, 2, 3, 4, 5, 6, 7, 8, 9, 51] [] 0 rfl nd_0_1_2_3_4_5_6_7_8_9_51 rfl rfl rfl (by decide) (by decide) (Nat.le_of_ble_eq_true rfl) rfl ?_
  have hg_3 : cnS S 3 ≤ mK S := zc_le _ _
  refine z_istore C dL_settles_102 (Nat.le_of_ble_eq_true rfl) ?_
  refine z_lv (lv' := [some (.ref x0), some (.int g), some (.int (nI 1)), some (.int (nI (mK S))), some (.int (nI x)), some (.int (nI (kN S x))), some (.int (nI 1)), some (.int (nI (cnS S 1))), some (.int (nI (cnS S 2))), some (.int (nI (cnS S 3))), none, none, none, none, none, none, none, none, none, none, none]) rfl ?_
  refine z_aload_n C 0 dL_settles_104 rfl rfl ?_
  refine z_iload C dL_settles_105 rfl ?_
  refine z_iconst C (nI 3) dL_settles_107 (by decide) ?_
  refine z_callVr C kX5_change gL_settles_X5_change (l_chg3n X.2.1 x0 h0 w0 t S x hG hx hl0) dL_settles_108 [0, 1, 2, 3, 4, 5, 6, 7, 8] [] 0 rfl nd_0_1_2_3_4_5_6_7_8 rfl rfl rfl (by decide) (by decide) (Nat.le_of_ble_eq_true rfl) rfl ?_
  refine z_istore C dL_settles_111 (Nat.le_of_ble_eq_true rfl) ?_
  refine z_lv (lv' := [some (.ref x0), some (.int g), some (.int (nI 1)), some (.int (nI (mK S))), some (.int (nI x)), some (.int (nI (kN S x))), some (.int (nI 1)), some (.int (nI (cnS S 1))), some (.int (nI (cnS S 2))), some (.int (nI (cnS S 3))), some (.int (-5)), none, none, none, none, none, none, none, none, none, none]) rfl ?_
  refine z_aload_n C 0 dL_settles_113 rfl rfl ?_
  refine z_iload C dL_settles_114 rfl ?_
  refine z_iconst C (nI 4) dL_settles_116 (by decide) ?_
  refine z_callVr C kX5_change gL_settles_X5_change (l_chg4y X.2.1 x0 h0 w0 t S x P hG hx hl) dL_settles_117 [0, 1, 2, 3, 4, 5, 6, 7, 8] [] 0 rfl nd_0_1_2_3_4_5_6_7_8 rfl rfl rfl (by decide) (by decide) (Nat.le_of_ble_eq_true rfl) rfl ?_
  refine z_istore C dL_settles_120 (Nat.le_of_ble_eq_true rfl) ?_
  refine z_lv (lv' := [some (.ref x0), some (.int g), some (.int (nI 1)), some (.int (nI (mK S))), some (.int (nI x)), some (.int (nI (kN S x))), some (.int (nI 1)), some (.int (nI (cnS S 1))), some (.int (nI (cnS S 2))), some (.int (nI (cnS S 3))), some (.int (-5)), some (.int (nI P)), none, none, none, none, none, none, none, none, none]) rfl ?_
  refine z_iload C dL_settles_122 rfl ?_
  refine z_iconst C (nI 2) dL_settles_124 (by decide) ?_
  refine z_idiv C dL_settles_125 (by decide) ?_
  refine z_top (y := nI 1) (by rw [hk]; decide) ?_
  refine z_istore C dL_settles_126 (Nat.le_of_ble_eq_true rfl) ?_
  refine z_lv (lv' := [some (.ref x0), some (.int g), some (.int (nI 1)), some (.int (nI (mK S))), some (.int (nI x)), some (.int (nI (kN S x))), some (.int (nI 1)), some (.int (nI (cnS S 1))), some (.int (nI (cnS S 2))), some (.int (nI (cnS S 3))), some (.int (-5)), some (.int (nI P)), some (.int (nI 1)), none, none, none, none, none, none, none, none]) rfl ?_
  refine z_iload_n C 2 dL_settles_128 rfl rfl ?_
  refine z_nif_eq_f C 152 dL_settles_129 (by decide) (by omega) (by omega) ?_
  refine z_iload C dL_settles_132 rfl ?_
  refine z_iconst C (nI 1) dL_settles_134 (by decide) ?_
  refine z_ncmp_eq_f C 144 dL_settles_135 (by decide) (by omega) (by omega) (by omega) ?_
  refine z_iload C dL_settles_138 rfl ?_
  refine z_iconst C (nI 3) dL_settles_140 (by decide) ?_
  refine z_ncmp_ne_f C 148 dL_settles_141 (by decide) (by omega) (by omega) (by omega) ?_
  refine z_iconst C (nI 1) dL_settles_144 (by decide) ?_
  refine z_goto C 168 dL_settles_145 (by decide) ?_
  refine z_istore C dL_settles_168 (Nat.le_of_ble_eq_true rfl) ?_
  refine z_lv (lv' := [some (.ref x0), some (.int g), some (.int (nI 1)), some (.int (nI (mK S))), some (.int (nI x)), some (.int (nI (kN S x))), some (.int (nI 1)), some (.int (nI (cnS S 1))), some (.int (nI (cnS S 2))), some (.int (nI (cnS S 3))), some (.int (-5)), some (.int (nI P)), some (.int (nI 1)), some (.int (nI 1)), none, none, none, none, none, none, none]) rfl ?_
  refine z_iload C dL_settles_170 rfl ?_
  refine z_iconst C (nI 4) dL_settles_172 (by decide) ?_
  refine z_ncmp_ne_t C 180 dL_settles_173 (by decide) (by omega) (by omega) (by omega) ?_
  refine z_aload_n C 0 dL_settles_180 rfl rfl ?_
  refine z_iconst C (nI 0) dL_settles_181 (by decide) ?_
  refine z_iload C dL_settles_182 rfl ?_
  refine z_callVr C kX5_size gL_settles_X5_size (l_size0 X.2.1 x0 h0 w0 t S 1 hG (by decide)) dL_settles_184 [0, 1, 2, 3, 4, 5, 6, 7, 8] [] 0 rfl nd_0_1_2_3_4_5_6_7_8 rfl rfl rfl (by decide) (by decide) (Nat.le_of_ble_eq_true rfl) rfl ?_
  refine z_istore C dL_settles_187 (Nat.le_of_ble_eq_true rfl) ?_
  refine z_lv (lv' := [some (.ref x0), some (.int g), some (.int (nI 1)), some (.int (nI (mK S))), some (.int (nI x)), some (.int (nI (kN S x))), some (.int (nI 1)), some (.int (nI (cnS S 1))), some (.int (nI (cnS S 2))), some (.int (nI (cnS S 3))), some (.int (-5)), some (.int (nI P)), some (.int (nI 1)), some (.int (nI 1)), some (.int (nI (uU S 1))), none, none, none, none, none, none]) rfl ?_
  refine z_aload_n C 0 dL_settles_189 rfl rfl ?_
  refine z_iload C dL_settles_190 rfl ?_
  refine z_iconst C (nI 5) dL_settles_192 (by decide) ?_
  refine z_callVr C kX5_change gL_settles_X5_change (l_chg5n X.2.1 x0 h0 w0 t S x hG hx (by omega)) dL_settles_193 [0, 1, 2, 3, 4, 5, 6, 7, 8] [] 0 rfl nd_0_1_2_3_4_5_6_7_8 rfl rfl rfl (by decide) (by decide) (Nat.le_of_ble_eq_true rfl) rfl ?_
  refine z_istore C dL_settles_196 (Nat.le_of_ble_eq_true rfl) ?_
  refine z_lv (lv' := [some (.ref x0), some (.int g), some (.int (nI 1)), some (.int (nI (mK S))), some (.int (nI x)), some (.int (nI (kN S x))), some (.int (nI 1)), some (.int (nI (cnS S 1))), some (.int (nI (cnS S 2))), some (.int (nI (cnS S 3))), some (.int (-5)), some (.int (nI P)), some (.int (nI 1)), some (.int (nI 1)), some (.int (nI (uU S 1))), some (.int (-5)), none, none, none, none, none]) rfl ?_
  refine z_iload C dL_settles_198 rfl ?_
  refine z_iconst C (nI 4) dL_settles_200 (by decide) ?_
  refine z_ncmp_eq_f C 209 dL_settles_201 (by decide) (by omega) (by omega) (by omega) ?_
  refine z_iload C dL_settles_204 rfl ?_
  refine z_nif_ne_t C 213 dL_settles_206 (by decide) (by omega) (by omega) ?_
  refine z_aload_n C 0 dL_settles_213 rfl rfl ?_
  refine z_iload C dL_settles_214 rfl ?_
  refine z_iload C dL_settles_216 rfl ?_
  refine z_nif_ne_t C 226 dL_settles_218 (by decide) (by omega) (by omega) ?_
  refine z_iload C dL_settles_226 rfl ?_
  refine z_iconst C (nI 4) dL_settles_228 (by decide) ?_
  refine z_callVr C kX5_line gL_settles_X5_line (l_line4 X.2.1 x0 h0 w0 t S 1 P hG (by decide) hp) dL_settles_229 [0, 1, 2, 3, 4, 5, 6, 7, 8] [] 0 rfl nd_0_1_2_3_4_5_6_7_8 rfl rfl rfl (by decide) (by decide) (Nat.le_of_ble_eq_true rfl) rfl ?_
  refine z_istore C dL_settles_232 (Nat.le_of_ble_eq_true rfl) ?_
  refine z_lv (lv' := [some (.ref x0), some (.int g), some (.int (nI 1)), some (.int (nI (mK S))), some (.int (nI x)), some (.int (nI (kN S x))), some (.int (nI 1)), some (.int (nI (cnS S 1))), some (.int (nI (cnS S 2))), some (.int (nI (cnS S 3))), some (.int (-5)), some (.int (nI P)), some (.int (nI 1)), some (.int (nI 1)), some (.int (nI (uU S 1))), some (.int (-5)), some (.int (nI (nSt S 1 P))), none, none, none, none]) rfl ?_
  refine z_iload C dL_settles_234 rfl ?_
  refine z_nif_ne_t C 244 dL_settles_236 (by decide) (by omega) (by omega) ?_
  refine z_iconst C (nI 1) dL_settles_244 (by decide) ?_
  refine z_aload_n C 0 dL_settles_245 rfl rfl ?_
  refine z_iload C dL_settles_246 rfl ?_
  refine z_iload_n C 2 dL_settles_248 rfl rfl ?_
  refine z_nif_eq_f C 257 dL_settles_249 (by decide) (by omega) (by omega) ?_
  refine z_bipush C (nI 7) dL_settles_252 (by decide) ?_
  refine z_goto C 259 dL_settles_254 (by decide) ?_
  refine z_callVr C kX5_change gL_settles_X5_change (l_chg7 X.2.1 x0 h0 w0 t S x hG hx) dL_settles_259 [0, 1, 2, 3, 4, 5, 6, 7, 8] [.int (nI 1)] 0 rfl nd_0_1_2_3_4_5_6_7_8 rfl rfl rfl (by decide) (by decide) (Nat.le_of_ble_eq_true rfl) rfl ?_
  have hg_4 : zc (sup S x) (mK S) ≤ mK S := zc_le _ _
  refine z_iadd C dL_settles_262 ?_
  refine z_top (y := nI (1 + (zc (sup S x) (mK S)))) (nI_add _ _) ?_
  refine z_istore C dL_settles_263 (Nat.le_of_ble_eq_true rfl) ?_
  refine z_lv (lv' := [some (.ref x0), some (.int g), some (.int (nI 1)), some (.int (nI (mK S))), some (.int (nI x)), some (.int (nI (kN S x))), some (.int (nI 1)), some (.int (nI (cnS S 1))), some (.int (nI (cnS S 2))), some (.int (nI (cnS S 3))), some (.int (-5)), some (.int (nI P)), some (.int (nI 1)), some (.int (nI 1)), some (.int (nI (uU S 1))), some (.int (-5)), some (.int (nI (nSt S 1 P))), some (.int (nI (1 + (zc (sup S x) (mK S))))), none, none, none]) rfl ?_
  refine z_iload_n C 2 dL_settles_265 rfl rfl ?_
  refine z_nif_eq_f C 278 dL_settles_266 (by decide) (by omega) (by omega) ?_
  refine z_aload_n C 0 dL_settles_269 rfl rfl ?_
  refine z_iload C dL_settles_270 rfl ?_
  refine z_callV (wn := (WRd X.2.1 x0 h0 h1 w0 w1 t r S1 o1 kp1 Q1 tx ln ps)) C kX5_accept gL_settles_X5_accept m1 dL_settles_272 [0, 1, 2, 3, 4, 5, 6, 7, 8, 9, 10, 11, 12, 13, 14, 15, 16, 17, 18, 19, 20, 21, 22, 23, 24, 25, 26, 27, 28, 29, 30, 31, 32, 33, 34, 35, 36, 37, 38, 39, 40, 41, 42, 43, 44, 45, 46, 47, 48, 49, 50] [] 0 rfl rfl nd_0_1_2_3_4_5_6_7_8_9_10_11_12_13_14_15_16_17_18_19_20_21_22_23_24_25_26_27_28_29_30_31_32_33_34_35_36_37_38_39_40_41_42_43_44_45_46_47_48_49_50 rfl rfl rfl (by decide) (by decide) (Nat.le_of_ble_eq_true rfl) rfl ((zput_par nd_0_1_2_3_4_5_6_7_8_9_10_11_12_13_14_15_16_17_18_19_20_21_22_23_24_25_26_27_28_29_30_31_32_33_34_35_36_37_38_39_40_41_42_43_44_45_46_47_48_49_50 rfl).trans rfl) ?_
  refine z_goto C 284 dL_settles_275 (by decide) ?_
  refine z_istore C dL_settles_284 (Nat.le_of_ble_eq_true rfl) ?_
  refine z_lv (lv' := [some (.ref x0), some (.int g), some (.int (nI 1)), some (.int (nI (mK S))), some (.int (nI x)), some (.int (nI (kN S x))), some (.int (nI 1)), some (.int (nI (cnS S 1))), some (.int (nI (cnS S 2))), some (.int (nI (cnS S 3))), some (.int (-5)), some (.int (nI P)), some (.int (nI 1)), some (.int (nI 1)), some (.int (nI (uU S 1))), some (.int (-5)), some (.int (nI (nSt S 1 P))), some (.int (nI (1 + (zc (sup S x) (mK S))))), some (.int (nI (1 + zc (sup S x) (mK S)))), none, none]) rfl ?_
  refine z_iload C dL_settles_286 rfl ?_
  refine z_iload C dL_settles_288 rfl ?_
  refine z_ncmp_ne_f C 311 dL_settles_290 (by decide) (by omega) (by omega) (by omega) ?_
  refine z_aload_n C 0 dL_settles_293 rfl rfl ?_
  refine z_iload_n C 2 dL_settles_294 rfl rfl ?_
  refine z_nif_eq_f C 302 dL_settles_295 (by decide) (by omega) (by omega) ?_
  refine z_iconst C (nI 3) dL_settles_298 (by decide) ?_
  refine z_goto C 303 dL_settles_299 (by decide) ?_
  refine z_callVr C kX5_count gL_settles_X5_count (l_cntK X.2.1 x0 h0 h1 w0 w1 t S1 o1 kp1 ln ps 2 hG1 (by decide)) dL_settles_303 [0, 1, 2, 3, 4, 5, 6, 7, 8, 9, 51] [] 0 rfl nd_0_1_2_3_4_5_6_7_8_9_51 rfl rfl rfl (by decide) (by decide) (Nat.le_of_ble_eq_true rfl) rfl ?_
  have hg_5 : cnS S1 2 ≤ mK S1 := zc_le _ _
  refine z_iload C dL_settles_306 rfl ?_
  refine z_ncmp_eq_t C 313 dL_settles_308 (by decide) (by omega) (by omega) (by omega) ?_
  refine z_iload C dL_settles_313 rfl ?_
  refine z_nif_ne_t C 320 dL_settles_315 (by decide) (by omega) (by omega) ?_
  refine z_iload_n C 2 dL_settles_320 rfl rfl ?_
  refine z_nif_eq_f C 333 dL_settles_321 (by decide) (by omega) (by omega) ?_
  refine z_iload C dL_settles_324 rfl ?_
  refine z_nif_eq_f C 333 dL_settles_326 (by decide) (by omega) (by omega) ?_
  refine z_iconst C (nI 1) dL_settles_329 (by decide) ?_
  refine z_goto C 334 dL_settles_330 (by decide) ?_
  refine z_istore C dL_settles_334 (Nat.le_of_ble_eq_true rfl) ?_
  refine z_lv (lv' := [some (.ref x0), some (.int g), some (.int (nI 1)), some (.int (nI (mK S))), some (.int (nI x)), some (.int (nI (kN S x))), some (.int (nI 1)), some (.int (nI (cnS S 1))), some (.int (nI (cnS S 2))), some (.int (nI (cnS S 3))), some (.int (-5)), some (.int (nI P)), some (.int (nI 1)), some (.int (nI 1)), some (.int (nI (uU S 1))), some (.int (-5)), some (.int (nI (nSt S 1 P))), some (.int (nI (1 + (zc (sup S x) (mK S))))), some (.int (nI (1 + zc (sup S x) (mK S)))), some (.int (nI 1)), none]) rfl ?_
  refine z_aload_n C 0 dL_settles_336 rfl rfl ?_
  refine z_iload_n C 2 dL_settles_337 rfl rfl ?_
  refine z_nif_eq_f C 345 dL_settles_338 (by decide) (by omega) (by omega) ?_
  refine z_iconst C (nI 2) dL_settles_341 (by decide) ?_
  refine z_goto C 346 dL_settles_342 (by decide) ?_
  refine z_callVr C kX5_count gL_settles_X5_count (l_cntK X.2.1 x0 h0 h1 w0 w1 t S1 o1 kp1 ln ps 1 hG1 (by decide)) dL_settles_346 [0, 1, 2, 3, 4, 5, 6, 7, 8, 9, 51] [] 0 rfl nd_0_1_2_3_4_5_6_7_8_9_51 rfl rfl rfl (by decide) (by decide) (Nat.le_of_ble_eq_true rfl) rfl ?_
  have hg_6 : cnS S1 1 ≤ mK S1 := zc_le _ _
  refine z_iload C dL_settles_349 rfl ?_
  refine z_iload C dL_settles_351 rfl ?_
  refine z_iadd C dL_settles_353 ?_
  refine z_top (y := nI ((cnS S 1) + (1 + (zc (sup S x) (mK S))))) (nI_add _ _) ?_
  refine z_ncmp_ne_f C 402 dL_settles_354 (by decide) (by omega) (by omega) (by omega) ?_
  refine z_aload_n C 0 dL_settles_357 rfl rfl ?_
  refine z_iconst C (nI 4) dL_settles_358 (by decide) ?_
  refine z_callVr C kX5_count gL_settles_X5_count (l_cntK X.2.1 x0 h0 h1 w0 w1 t S1 o1 kp1 ln ps 3 hG1 (by decide)) dL_settles_359 [0, 1, 2, 3, 4, 5, 6, 7, 8, 9, 51] [] 0 rfl nd_0_1_2_3_4_5_6_7_8_9_51 rfl rfl rfl (by decide) (by decide) (Nat.le_of_ble_eq_true rfl) rfl ?_
  have hg_7 : cnS S1 3 ≤ mK S1 := zc_le _ _
  refine z_iload C dL_settles_362 rfl ?_
  refine z_iload C dL_settles_364 rfl ?_
  refine z_nif_eq_f C 374 dL_settles_366 (by decide) (by omega) (by omega) ?_
  refine z_iload C dL_settles_369 rfl ?_
  refine z_goto C 375 dL_settles_371 (by decide) ?_
  refine z_iadd C dL_settles_375 ?_
  refine z_top (y := nI ((cnS S 3) + (nSt S 1 P))) (nI_add _ _) ?_
  refine z_ncmp_ne_f C 402 dL_settles_376 (by decide) (by omega) (by omega) (by omega) ?_
  refine z_aload_n C 0 dL_settles_379 rfl rfl ?_
  refine z_iload C dL_settles_380 rfl ?_
  refine z_iconst C (nI 2) dL_settles_382 (by decide) ?_
  refine z_callVr C kX5_change gL_settles_X5_change (l_chg2 X.2.1 x0 h0 w0 t S1 x hG1 (by omega)) dL_settles_383 [0, 1, 2, 3, 4, 5, 6, 7, 8] [] 0 rfl nd_0_1_2_3_4_5_6_7_8 rfl rfl rfl (by decide) (by decide) (Nat.le_of_ble_eq_true rfl) rfl ?_
  refine z_iload_n C 2 dL_settles_386 rfl rfl ?_
  refine z_nif_eq_f C 394 dL_settles_387 (by decide) (by omega) (by omega) ?_
  refine z_iconst C (nI 1) dL_settles_390 (by decide) ?_
  refine z_goto C 395 dL_settles_391 (by decide) ?_
  refine z_ncmp_ne_f C 402 dL_settles_395 (by decide) (by omega) (by omega) (by omega) ?_
  refine z_iconst C (nI 1) dL_settles_398 (by decide) ?_
  refine z_goto C 403 dL_settles_399 (by decide) ?_
  refine z_istore C dL_settles_403 (Nat.le_of_ble_eq_true rfl) ?_
  refine z_lv (lv' := [some (.ref x0), some (.int g), some (.int (nI 1)), some (.int (nI (mK S))), some (.int (nI x)), some (.int (nI (kN S x))), some (.int (nI 1)), some (.int (nI (cnS S 1))), some (.int (nI (cnS S 2))), some (.int (nI (cnS S 3))), some (.int (-5)), some (.int (nI P)), some (.int (nI 1)), some (.int (nI 1)), some (.int (nI (uU S 1))), some (.int (-5)), some (.int (nI (nSt S 1 P))), some (.int (nI (1 + (zc (sup S x) (mK S))))), some (.int (nI (1 + zc (sup S x) (mK S)))), some (.int (nI 1)), some (.int (nI 1))]) rfl ?_
  refine z_iload C dL_settles_405 rfl ?_
  refine z_iconst C (nI 4) dL_settles_407 (by decide) ?_
  refine z_ncmp_ne_t C 496 dL_settles_408 (by decide) (by omega) (by omega) (by omega) ?_
  refine z_iload C dL_settles_496 rfl ?_
  refine z_nif_eq_f C 528 dL_settles_498 (by decide) (by omega) (by omega) ?_
  refine z_aload_n C 0 dL_settles_501 rfl rfl ?_
  refine z_iconst C (nI 0) dL_settles_502 (by decide) ?_
  refine z_iload C dL_settles_503 rfl ?_
  refine z_callVr C kX5_size gL_settles_X5_size (l_size0 X.2.1 x0 h0 w0 t S1 1 hG1 (by decide)) dL_settles_505 [0, 1, 2, 3, 4, 5, 6, 7, 8] [] 0 rfl nd_0_1_2_3_4_5_6_7_8 rfl rfl rfl (by decide) (by decide) (Nat.le_of_ble_eq_true rfl) rfl ?_
  refine z_iload C dL_settles_508 rfl ?_
  refine z_iload C dL_settles_510 rfl ?_
  refine z_nif_eq_f C 519 dL_settles_512 (by decide) (by omega) (by omega) ?_
  refine z_iconst C (nI 1) dL_settles_515 (by decide) ?_
  refine z_goto C 520 dL_settles_516 (by decide) ?_
  refine z_isub C dL_settles_520 ?_
  refine z_top (y := nI ((uU S 1) - 1)) ((pk_sub (by omega)).trans (congrArg nI (by omega))) ?_
  refine z_ncmp_ne_f C 528 dL_settles_521 (by decide) (by omega) (by omega) (by omega) ?_
  refine z_iconst C (nI 1) dL_settles_524 (by decide) ?_
  refine z_goto C 529 dL_settles_525 (by decide) ?_
  exact z_zret C N dL_settles_529 rfl (rfl) (rfl)

set_option maxHeartbeats 4000000 in
set_option maxRecDepth 100000 in
theorem w_stl14 (E : zE) (x0 h0 h1 w0 w1 : Nat) (t : Nat → Nat) (r : Nat → Nat → Nat) (S S1 : zSt) (o kp kp1 o1 : Nat) (Q Q1 : Nat → zSt) (tx : Nat → Nat) (ln : Nat) (ps : zPs) {B B1 : Nat} (g : Int32) (x P Q9 : Nat) (hG : GG S B) (hG1 : GG S1 B1) (hX : lw g (mK S) = x) (hx : x < mK S) (hk : kN S x = 4) (hs : sN S x = 0) (hp : P < uU S 0) (hl : lP S 0 x = P + 1) (hq : Q9 < uU S 1) (hl1 : lP S 1 x = Q9 + 1) (hm : mK S1 = mK S) (hct : cnS S1 1 = cnS S 1 + (1 + zc (sup S x) (mK S))) (hco : cnS S1 2 = cnS S 2) (hc3 : cnS S1 3 = cnS S 3) (hs1 : sN S1 x = 1) (hu0 : uU S1 0 = uU S 0) (hu1 : uU S1 1 = uU S 1) (hN0 : Nw S1 0 P = false) (hN1 : Nw S1 1 Q9 = false) (hbs : bse S1 P Q9 = nI (vN S x)) (m1 : zM E yX5_accept wsX5_accept 7 [.ref x0, .int (nI x)] (WAd E x0 h0 h1 w0 t r S o kp Q) (WAd E x0 h0 h1 w0 t r S1 o1 kp1 Q1) (some (.int (nI (1 + zc (sup S x) (mK S)))))) : zM E yL_settles wsL_settles 8 [.ref x0, .int g, .int (nI 1)] (WRd E x0 h0 h1 w0 w1 t r S o kp Q tx ln ps) (WRd E x0 h0 h1 w0 w1 t r S1 o1 kp1 Q1 tx ln ps) (some (.int (nI 1))) := by
  refine zM.of kL_settles (Nat.le_of_ble_eq_true rfl) rfl [some (.ref x0), some (.int g), some (.int (nI 1)), none, none, none, none, none, none, none, none, none, none, none, none, none, none, none, none, none, none] rfl (Nat.le_of_ble_eq_true rfl) ?_
  intro X eX C N
  subst eX
  have hb0 : uU S 0 ≤ 12 := gg_u hG 0
  have hb1 : uU S 1 ≤ 8 := gg_u1 hG
  have hb2 : mK S ≤ 60 := gg_M hG
  have hb3 : uU S1 0 ≤ 12 := gg_u hG1 0
  have hb4 : uU S1 1 ≤ 8 := gg_u1 hG1
  have hb5 : mK S1 ≤ 60 := gg_M hG1
  have hkx := (kN_e hG hx).2
  have hsx := (sN_e hG hx).2
  have hv9 := vN_lt hG hx hk
  refine z_aload_n C 0 dL_settles_0 rfl rfl ?_
  refine z_iconst C (nI 0) dL_settles_1 (by decide) ?_
  refine z_callVr C kX5_count gL_settles_X5_count (l_cnt0 X.2.1 x0 h0 h1 w0 w1 t S o kp ln ps  hG ) dL_settles_2 [0, 1, 2, 3, 4, 5, 6, 7, 8, 9, 51] [] 0 rfl nd_0_1_2_3_4_5_6_7_8_9_51 rfl rfl rfl (by decide) (by decide) (Nat.le_of_ble_eq_true rfl) rfl ?_
  refine z_istore_n C 3 dL_settles_5 rfl (Nat.le_of_ble_eq_true rfl) ?_
  refine z_lv (lv' := [some (.ref x0), some (.int g), some (.int (nI 1)), some (.int (nI (mK S))), none, none, none, none, none, none, none, none, none, none, none, none, none, none, none, none, none]) rfl ?_
  refine z_iload_n C 3 dL_settles_6 rfl rfl ?_
  refine z_nif_ne_t C 34 dL_settles_7 (by decide) (by omega) (by omega) ?_
  refine z_iload_n C 1 dL_settles_34 rfl rfl ?_
  refine z_iload_n C 3 dL_settles_35 rfl rfl ?_
  refine z_callS C kL_low gL_settles_L_low (l_low X.2.1 g (mK S) (by omega) (by omega)) dL_settles_36 [] rfl (by decide) (by decide) (Nat.le_of_ble_eq_true rfl) rfl ?_
  refine z_top (y := nI x) (congrArg nI hX) ?_
  refine z_istore C dL_settles_39 (Nat.le_of_ble_eq_true rfl) ?_
  refine z_lv (lv' := [some (.ref x0), some (.int g), some (.int (nI 1)), some (.int (nI (mK S))), some (.int (nI x)), none, none, none, none, none, none, none, none, none, none, none, none, none, none, none, none]) rfl ?_
  refine z_aload_n C 0 dL_settles_41 rfl rfl ?_
  refine z_iload C dL_settles_42 rfl ?_
  refine z_iconst C (nI 0) dL_settles_44 (by decide) ?_
  refine z_callVr C kX5_change gL_settles_X5_change (l_chg0 X.2.1 x0 h0 w0 t S x hG hx) dL_settles_45 [0, 1, 2, 3, 4, 5, 6, 7, 8] [] 0 rfl nd_0_1_2_3_4_5_6_7_8 rfl rfl rfl (by decide) (by decide) (Nat.le_of_ble_eq_true rfl) rfl ?_
  refine z_istore C dL_settles_48 (Nat.le_of_ble_eq_true rfl) ?_
  refine z_lv (lv' := [some (.ref x0), some (.int g), some (.int (nI 1)), some (.int (nI (mK S))), some (.int (nI x)), some (.int (nI (kN S x))), none, none, none, none, none, none, none, none, none, none, none, none, none, none, none]) rfl ?_
  refine z_aload_n C 0 dL_settles_50 rfl rfl ?_
  refine z_iload C dL_settles_51 rfl ?_
  refine z_iconst C (nI 2) dL_settles_53 (by decide) ?_
  refine z_callVr C kX5_change gL_settles_X5_change (l_chg2 X.2.1 x0 h0 w0 t S x hG hx) dL_settles_54 [0, 1, 2, 3, 4, 5, 6, 7, 8] [] 0 rfl nd_0_1_2_3_4_5_6_7_8 rfl rfl rfl (by decide) (by decide) (Nat.le_of_ble_eq_true rfl) rfl ?_
  refine z_nif_ne_f C 64 dL_settles_57 (by decide) (by omega) (by omega) ?_
  refine z_iconst C (nI 1) dL_settles_60 (by decide) ?_
  refine z_goto C 65 dL_settles_61 (by decide) ?_
  refine z_istore C dL_settles_65 (Nat.le_of_ble_eq_true rfl) ?_
  refine z_lv (lv' := [some (.ref x0), some (.int g), some (.int (nI 1)), some (.int (nI (mK S))), some (.int (nI x)), some (.int (nI (kN S x))), some (.int (nI 1)), none, none, none, none, none, none, none, none, none, none, none, none, none, none]) rfl ?_
  refine z_aload_n C 0 dL_settles_67 rfl rfl ?_
  refine z_iload_n C 2 dL_settles_68 rfl rfl ?_
  refine z_nif_eq_f C 76 dL_settles_69 (by decide) (by omega) (by omega) ?_
  refine z_iconst C (nI 2) dL_settles_72 (by decide) ?_
  refine z_goto C 77 dL_settles_73 (by decide) ?_
  refine z_callVr C kX5_count gL_settles_X5_count (l_cntK X.2.1 x0 h0 h1 w0 w1 t S o kp ln ps 1 hG (by decide)) dL_settles_77 [0, 1, 2, 3, 4, 5, 6, 7, 8, 9, 51] [] 0 rfl nd_0_1_2_3_4_5_6_7_8_9_51 rfl rfl rfl (by decide) (by decide) (Nat.le_of_ble_eq_true rfl) rfl ?_
  have hg_1 : cnS S 1 ≤ mK S := zc_le _ _
  refine z_istore C dL_settles_80 (Nat.le_of_ble_eq_true rfl) ?_
  refine z_lv (lv' := [some (.ref x0), some (.int g), some (.int (nI 1)), some (.int (nI (mK S))), some (.int (nI x)), some (.int (nI (kN S x))), some (.int (nI 1)), some (.int (nI (cnS S 1))), none, none, none, none, none, none, none, none, none, none, none, none, none]) rfl ?_
  refine z_aload_n C 0 dL_settles_82 rfl rfl ?_
  refine z_iload_n C 2 dL_settles_83 rfl rfl ?_
  refine z_nif_eq_f C 91 dL_settles_84 (by decide) (by omega) (by omega) ?_
  refine z_iconst C (nI 3) dL_settles_87 (by decide) ?_
  refine z_goto C 92 dL_settles_88 (by decide) ?_
  refine z_callVr C kX5_count gL_settles_X5_count (l_cntK X.2.1 x0 h0 h1 w0 w1 t S o kp ln ps 2 hG (by decide)) dL_settles_92 [0, 1, 2, 3, 4, 5, 6, 7, 8, 9, 51] [] 0 rfl nd_0_1_2_3_4_5_6_7_8_9_51 rfl rfl rfl (by decide) (by decide) (Nat.le_of_ble_eq_true rfl) rfl ?_
  have hg_2 : cnS S 2 ≤ mK S := zc_le _ _
  refine z_istore C dL_settles_95 (Nat.le_of_ble_eq_true rfl) ?_
  refine z_lv (lv' := [some (.ref x0), some (.int g), some (.int (nI 1)), some (.int (nI (mK S))), some (.int (nI x)), some (.int (nI (kN S x))), some (.int (nI 1)), some (.int (nI (cnS S 1))), some (.int (nI (cnS S 2))), none, none, none, none, none, none, none, none, none, none, none, none]) rfl ?_
  refine z_aload_n C 0 dL_settles_97 rfl rfl ?_
  refine z_iconst C (nI 4) dL_settles_98 (by decide) ?_
  refine z_callVr C kX5_count gL_settles_X5_count (l_cntK X.2.1 x0 h0 h1 w0 w1 t S o kp ln ps 3 hG (by decide)) dL_settles_99 [0, 1, 2, 3, 4, 5, 6, 7, 8, 9, 51] [] 0 rfl nd_0_1_2_3_4_5_6_7_8_9_51 rfl rfl rfl (by decide) (by decide) (Nat.le_of_ble_eq_true rfl) rfl ?_
  have hg_3 : cnS S 3 ≤ mK S := zc_le _ _
  refine z_istore C dL_settles_102 (Nat.le_of_ble_eq_true rfl) ?_
  refine z_lv (lv' := [some (.ref x0), some (.int g), some (.int (nI 1)), some (.int (nI (mK S))), some (.int (nI x)), some (.int (nI (kN S x))), some (.int (nI 1)), some (.int (nI (cnS S 1))), some (.int (nI (cnS S 2))), some (.int (nI (cnS S 3))), none, none, none, none, none, none, none, none, none, none, none]) rfl ?_
  refine z_aload_n C 0 dL_settles_104 rfl rfl ?_
  refine z_iload C dL_settles_105 rfl ?_
  refine z_iconst C (nI 3) dL_settles_107 (by decide) ?_
  refine z_callVr C kX5_change gL_settles_X5_change (l_chg3y X.2.1 x0 h0 w0 t S x P hG hx hl) dL_settles_108 [0, 1, 2, 3, 4, 5, 6, 7, 8] [] 0 rfl nd_0_1_2_3_4_5_6_7_8 rfl rfl rfl (by decide) (by decide) (Nat.le_of_ble_eq_true rfl) rfl ?_
  refine z_istore C dL_settles_111 (Nat.le_of_ble_eq_true rfl) ?_
  refine z_lv (lv' := [some (.ref x0), some (.int g), some (.int (nI 1)), some (.int (nI (mK S))), some (.int (nI x)), some (.int (nI (kN S x))), some (.int (nI 1)), some (.int (nI (cnS S 1))), some (.int (nI (cnS S 2))), some (.int (nI (cnS S 3))), some (.int (nI P)), none, none, none, none, none, none, none, none, none, none]) rfl ?_
  refine z_aload_n C 0 dL_settles_113 rfl rfl ?_
  refine z_iload C dL_settles_114 rfl ?_
  refine z_iconst C (nI 4) dL_settles_116 (by decide) ?_
  refine z_callVr C kX5_change gL_settles_X5_change (l_chg4y X.2.1 x0 h0 w0 t S x Q9 hG hx hl1) dL_settles_117 [0, 1, 2, 3, 4, 5, 6, 7, 8] [] 0 rfl nd_0_1_2_3_4_5_6_7_8 rfl rfl rfl (by decide) (by decide) (Nat.le_of_ble_eq_true rfl) rfl ?_
  refine z_istore C dL_settles_120 (Nat.le_of_ble_eq_true rfl) ?_
  refine z_lv (lv' := [some (.ref x0), some (.int g), some (.int (nI 1)), some (.int (nI (mK S))), some (.int (nI x)), some (.int (nI (kN S x))), some (.int (nI 1)), some (.int (nI (cnS S 1))), some (.int (nI (cnS S 2))), some (.int (nI (cnS S 3))), some (.int (nI P)), some (.int (nI Q9)), none, none, none, none, none, none, none, none, none]) rfl ?_
  refine z_iload C dL_settles_122 rfl ?_
  refine z_iconst C (nI 2) dL_settles_124 (by decide) ?_
  refine z_idiv C dL_settles_125 (by decide) ?_
  refine z_top (y := nI 2) (by rw [hk]; decide) ?_
  refine z_istore C dL_settles_126 (Nat.le_of_ble_eq_true rfl) ?_
  refine z_lv (lv' := [some (.ref x0), some (.int g), some (.int (nI 1)), some (.int (nI (mK S))), some (.int (nI x)), some (.int (nI (kN S x))), some (.int (nI 1)), some (.int (nI (cnS S 1))), some (.int (nI (cnS S 2))), some (.int (nI (cnS S 3))), some (.int (nI P)), some (.int (nI Q9)), some (.int (nI 2)), none, none, none, none, none, none, none, none]) rfl ?_
  refine z_iload_n C 2 dL_settles_128 rfl rfl ?_
  refine z_nif_eq_f C 152 dL_settles_129 (by decide) (by omega) (by omega) ?_
  refine z_iload C dL_settles_132 rfl ?_
  refine z_iconst C (nI 1) dL_settles_134 (by decide) ?_
  refine z_ncmp_eq_f C 144 dL_settles_135 (by decide) (by omega) (by omega) (by omega) ?_
  refine z_iload C dL_settles_138 rfl ?_
  refine z_iconst C (nI 3) dL_settles_140 (by decide) ?_
  refine z_ncmp_ne_t C 148 dL_settles_141 (by decide) (by omega) (by omega) (by omega) ?_
  refine z_iconst C (nI 0) dL_settles_148 (by decide) ?_
  refine z_goto C 168 dL_settles_149 (by decide) ?_
  refine z_istore C dL_settles_168 (Nat.le_of_ble_eq_true rfl) ?_
  refine z_lv (lv' := [some (.ref x0), some (.int g), some (.int (nI 1)), some (.int (nI (mK S))), some (.int (nI x)), some (.int (nI (kN S x))), some (.int (nI 1)), some (.int (nI (cnS S 1))), some (.int (nI (cnS S 2))), some (.int (nI (cnS S 3))), some (.int (nI P)), some (.int (nI Q9)), some (.int (nI 2)), some (.int (nI 0)), none, none, none, none, none, none, none]) rfl ?_
  refine z_iload C dL_settles_170 rfl ?_
  refine z_iconst C (nI 4) dL_settles_172 (by decide) ?_
  refine z_ncmp_ne_f C 180 dL_settles_173 (by decide) (by omega) (by omega) (by omega) ?_
  refine z_iconst C (nI 0) dL_settles_176 (by decide) ?_
  refine z_goto C 187 dL_settles_177 (by decide) ?_
  refine z_istore C dL_settles_187 (Nat.le_of_ble_eq_true rfl) ?_
  refine z_lv (lv' := [some (.ref x0), some (.int g), some (.int (nI 1)), some (.int (nI (mK S))), some (.int (nI x)), some (.int (nI (kN S x))), some (.int (nI 1)), some (.int (nI (cnS S 1))), some (.int (nI (cnS S 2))), some (.int (nI (cnS S 3))), some (.int (nI P)), some (.int (nI Q9)), some (.int (nI 2)), some (.int (nI 0)), some (.int (nI 0)), none, none, none, none, none, none]) rfl ?_
  refine z_aload_n C 0 dL_settles_189 rfl rfl ?_
  refine z_iload C dL_settles_190 rfl ?_
  refine z_iconst C (nI 5) dL_settles_192 (by decide) ?_
  refine z_callVr C kX5_change gL_settles_X5_change (l_chg5y X.2.1 x0 h0 w0 t S x hG hx hk) dL_settles_193 [0, 1, 2, 3, 4, 5, 6, 7, 8] [] 0 rfl nd_0_1_2_3_4_5_6_7_8 rfl rfl rfl (by decide) (by decide) (Nat.le_of_ble_eq_true rfl) rfl ?_
  refine z_istore C dL_settles_196 (Nat.le_of_ble_eq_true rfl) ?_
  refine z_lv (lv' := [some (.ref x0), some (.int g), some (.int (nI 1)), some (.int (nI (mK S))), some (.int (nI x)), some (.int (nI (kN S x))), some (.int (nI 1)), some (.int (nI (cnS S 1))), some (.int (nI (cnS S 2))), some (.int (nI (cnS S 3))), some (.int (nI P)), some (.int (nI Q9)), some (.int (nI 2)), some (.int (nI 0)), some (.int (nI 0)), some (.int (nI (vN S x))), none, none, none, none, none]) rfl ?_
  refine z_iload C dL_settles_198 rfl ?_
  refine z_iconst C (nI 4) dL_settles_200 (by decide) ?_
  refine z_ncmp_eq_t C 209 dL_settles_201 (by decide) (by omega) (by omega) (by omega) ?_
  refine z_iconst C (nI 0) dL_settles_209 (by decide) ?_
  refine z_goto C 232 dL_settles_210 (by decide) ?_
  refine z_istore C dL_settles_232 (Nat.le_of_ble_eq_true rfl) ?_
  refine z_lv (lv' := [some (.ref x0), some (.int g), some (.int (nI 1)), some (.int (nI (mK S))), some (.int (nI x)), some (.int (nI (kN S x))), some (.int (nI 1)), some (.int (nI (cnS S 1))), some (.int (nI (cnS S 2))), some (.int (nI (cnS S 3))), some (.int (nI P)), some (.int (nI Q9)), some (.int (nI 2)), some (.int (nI 0)), some (.int (nI 0)), some (.int (nI (vN S x))), some (.int (nI 0)), none, none, none, none]) rfl ?_
  refine z_iload C dL_settles_234 rfl ?_
  refine z_nif_ne_t C 244 dL_settles_236 (by decide) (by omega) (by omega) ?_
  refine z_iconst C (nI 1) dL_settles_244 (by decide) ?_
  refine z_aload_n C 0 dL_settles_245 rfl rfl ?_
  refine z_iload C dL_settles_246 rfl ?_
  refine z_iload_n C 2 dL_settles_248 rfl rfl ?_
  refine z_nif_eq_f C 257 dL_settles_249 (by decide) (by omega) (by omega) ?_
  refine z_bipush C (nI 7) dL_settles_252 (by decide) ?_
  refine z_goto C 259 dL_settles_254 (by decide) ?_
  refine z_callVr C kX5_change gL_settles_X5_change (l_chg7 X.2.1 x0 h0 w0 t S x hG hx) dL_settles_259 [0, 1, 2, 3, 4, 5, 6, 7, 8] [.int (nI 1)] 0 rfl nd_0_1_2_3_4_5_6_7_8 rfl rfl rfl (by decide) (by decide) (Nat.le_of_ble_eq_true rfl) rfl ?_
  have hg_4 : zc (sup S x) (mK S) ≤ mK S := zc_le _ _
  refine z_iadd C dL_settles_262 ?_
  refine z_top (y := nI (1 + (zc (sup S x) (mK S)))) (nI_add _ _) ?_
  refine z_istore C dL_settles_263 (Nat.le_of_ble_eq_true rfl) ?_
  refine z_lv (lv' := [some (.ref x0), some (.int g), some (.int (nI 1)), some (.int (nI (mK S))), some (.int (nI x)), some (.int (nI (kN S x))), some (.int (nI 1)), some (.int (nI (cnS S 1))), some (.int (nI (cnS S 2))), some (.int (nI (cnS S 3))), some (.int (nI P)), some (.int (nI Q9)), some (.int (nI 2)), some (.int (nI 0)), some (.int (nI 0)), some (.int (nI (vN S x))), some (.int (nI 0)), some (.int (nI (1 + (zc (sup S x) (mK S))))), none, none, none]) rfl ?_
  refine z_iload_n C 2 dL_settles_265 rfl rfl ?_
  refine z_nif_eq_f C 278 dL_settles_266 (by decide) (by omega) (by omega) ?_
  refine z_aload_n C 0 dL_settles_269 rfl rfl ?_
  refine z_iload C dL_settles_270 rfl ?_
  refine z_callV (wn := (WRd X.2.1 x0 h0 h1 w0 w1 t r S1 o1 kp1 Q1 tx ln ps)) C kX5_accept gL_settles_X5_accept m1 dL_settles_272 [0, 1, 2, 3, 4, 5, 6, 7, 8, 9, 10, 11, 12, 13, 14, 15, 16, 17, 18, 19, 20, 21, 22, 23, 24, 25, 26, 27, 28, 29, 30, 31, 32, 33, 34, 35, 36, 37, 38, 39, 40, 41, 42, 43, 44, 45, 46, 47, 48, 49, 50] [] 0 rfl rfl nd_0_1_2_3_4_5_6_7_8_9_10_11_12_13_14_15_16_17_18_19_20_21_22_23_24_25_26_27_28_29_30_31_32_33_34_35_36_37_38_39_40_41_42_43_44_45_46_47_48_49_50 rfl rfl rfl (by decide) (by decide) (Nat.le_of_ble_eq_true rfl) rfl ((zput_par nd_0_1_2_3_4_5_6_7_8_9_10_11_12_13_14_15_16_17_18_19_20_21_22_23_24_25_26_27_28_29_30_31_32_33_34_35_36_37_38_39_40_41_42_43_44_45_46_47_48_49_50 rfl).trans rfl) ?_
  refine z_goto C 284 dL_settles_275 (by decide) ?_
  refine z_istore C dL_settles_284 (Nat.le_of_ble_eq_true rfl) ?_
  refine z_lv (lv' := [some (.ref x0), some (.int g), some (.int (nI 1)), some (.int (nI (mK S))), some (.int (nI x)), some (.int (nI (kN S x))), some (.int (nI 1)), some (.int (nI (cnS S 1))), some (.int (nI (cnS S 2))), some (.int (nI (cnS S 3))), some (.int (nI P)), some (.int (nI Q9)), some (.int (nI 2)), some (.int (nI 0)), some (.int (nI 0)), some (.int (nI (vN S x))), some (.int (nI 0)), some (.int (nI (1 + (zc (sup S x) (mK S))))), some (.int (nI (1 + zc (sup S x) (mK S)))), none, none]) rfl ?_
  refine z_iload C dL_settles_286 rfl ?_
  refine z_iload C dL_settles_288 rfl ?_
  refine z_ncmp_ne_f C 311 dL_settles_290 (by decide) (by omega) (by omega) (by omega) ?_
  refine z_aload_n C 0 dL_settles_293 rfl rfl ?_
  refine z_iload_n C 2 dL_settles_294 rfl rfl ?_
  refine z_nif_eq_f C 302 dL_settles_295 (by decide) (by omega) (by omega) ?_
  refine z_iconst C (nI 3) dL_settles_298 (by decide) ?_
  refine z_goto C 303 dL_settles_299 (by decide) ?_
  refine z_callVr C kX5_count gL_settles_X5_count (l_cntK X.2.1 x0 h0 h1 w0 w1 t S1 o1 kp1 ln ps 2 hG1 (by decide)) dL_settles_303 [0, 1, 2, 3, 4, 5, 6, 7, 8, 9, 51] [] 0 rfl nd_0_1_2_3_4_5_6_7_8_9_51 rfl rfl rfl (by decide) (by decide) (Nat.le_of_ble_eq_true rfl) rfl ?_
  have hg_5 : cnS S1 2 ≤ mK S1 := zc_le _ _
  refine z_iload C dL_settles_306 rfl ?_
  refine z_ncmp_eq_t C 313 dL_settles_308 (by decide) (by omega) (by omega) (by omega) ?_
  refine z_iload C dL_settles_313 rfl ?_
  refine z_nif_ne_t C 320 dL_settles_315 (by decide) (by omega) (by omega) ?_
  refine z_iload_n C 2 dL_settles_320 rfl rfl ?_
  refine z_nif_eq_f C 333 dL_settles_321 (by decide) (by omega) (by omega) ?_
  refine z_iload C dL_settles_324 rfl ?_
  refine z_nif_eq_t C 333 dL_settles_326 (by decide) (by omega) (by omega) ?_
  refine z_iconst C (nI 0) dL_settles_333 (by decide) ?_
  refine z_istore C dL_settles_334 (Nat.le_of_ble_eq_true rfl) ?_
  refine z_lv (lv' := [some (.ref x0), some (.int g), some (.int (nI 1)), some (.int (nI (mK S))), some (.int (nI x)), some (.int (nI (kN S x))), some (.int (nI 1)), some (.int (nI (cnS S 1))), some (.int (nI (cnS S 2))), some (.int (nI (cnS S 3))), some (.int (nI P)), some (.int (nI Q9)), some (.int (nI 2)), some (.int (nI 0)), some (.int (nI 0)), some (.int (nI (vN S x))), some (.int (nI 0)), some (.int (nI (1 + (zc (sup S x) (mK S))))), some (.int (nI (1 + zc (sup S x) (mK S)))), some (.int (nI 0)), none]) rfl ?_
  refine z_aload_n C 0 dL_settles_336 rfl rfl ?_
  refine z_iload_n C 2 dL_settles_337 rfl rfl ?_
  refine z_nif_eq_f C 345 dL_settles_338 (by decide) (by omega) (by omega) ?_
  refine z_iconst C (nI 2) dL_settles_341 (by decide) ?_
  refine z_goto C 346 dL_settles_342 (by decide) ?_
  refine z_callVr C kX5_count gL_settles_X5_count (l_cntK X.2.1 x0 h0 h1 w0 w1 t S1 o1 kp1 ln ps 1 hG1 (by decide)) dL_settles_346 [0, 1, 2, 3, 4, 5, 6, 7, 8, 9, 51] [] 0 rfl nd_0_1_2_3_4_5_6_7_8_9_51 rfl rfl rfl (by decide) (by decide) (Nat.le_of_ble_eq_true rfl) rfl ?_
  have hg_6 : cnS S1 1 ≤ mK S1 := zc_le _ _
  refine z_iload C dL_settles_349 rfl ?_
  refine z_iload C dL_settles_351 rfl ?_
  refine z_iadd C dL_settles_353 ?_
  refine z_top (y := nI ((cnS S 1) + (1 + (zc (sup S x) (mK S))))) (nI_add _ _) ?_
  refine z_ncmp_ne_f C 402 dL_settles_354 (by decide) (by omega) (by omega) (by omega) ?_
  refine z_aload_n C 0 dL_settles_357 rfl rfl ?_
  refine z_iconst C (nI 4) dL_settles_358 (by decide) ?_
  refine z_callVr C kX5_count gL_settles_X5_count (l_cntK X.2.1 x0 h0 h1 w0 w1 t S1 o1 kp1 ln ps 3 hG1 (by decide)) dL_settles_359 [0, 1, 2, 3, 4, 5, 6, 7, 8, 9, 51] [] 0 rfl nd_0_1_2_3_4_5_6_7_8_9_51 rfl rfl rfl (by decide) (by decide) (Nat.le_of_ble_eq_true rfl) rfl ?_
  have hg_7 : cnS S1 3 ≤ mK S1 := zc_le _ _
  refine z_iload C dL_settles_362 rfl ?_
  refine z_iload C dL_settles_364 rfl ?_
  refine z_nif_eq_t C 374 dL_settles_366 (by decide) (by omega) (by omega) ?_
  refine z_iconst C (nI 0) dL_settles_374 (by decide) ?_
  refine z_iadd C dL_settles_375 ?_
  refine z_top (y := nI (cnS S 3)) (nI_add _ _) ?_
  refine z_ncmp_ne_f C 402 dL_settles_376 (by decide) (by omega) (by omega) (by omega) ?_
  refine z_aload_n C 0 dL_settles_379 rfl rfl ?_
  refine z_iload C dL_settles_380 rfl ?_
  refine z_iconst C (nI 2) dL_settles_382 (by decide) ?_
  refine z_callVr C kX5_change gL_settles_X5_change (l_chg2 X.2.1 x0 h0 w0 t S1 x hG1 (by omega)) dL_settles_383 [0, 1, 2, 3, 4, 5, 6, 7, 8] [] 0 rfl nd_0_1_2_3_4_5_6_7_8 rfl rfl rfl (by decide) (by decide) (Nat.le_of_ble_eq_true rfl) rfl ?_
  refine z_iload_n C 2 dL_settles_386 rfl rfl ?_
  refine z_nif_eq_f C 394 dL_settles_387 (by decide) (by omega) (by omega) ?_
  refine z_iconst C (nI 1) dL_settles_390 (by decide) ?_
  refine z_goto C 395 dL_settles_391 (by decide) ?_
  refine z_ncmp_ne_f C 402 dL_settles_395 (by decide) (by omega) (by omega) (by omega) ?_
  refine z_iconst C (nI 1) dL_settles_398 (by decide) ?_
  refine z_goto C 403 dL_settles_399 (by decide) ?_
  refine z_istore C dL_settles_403 (Nat.le_of_ble_eq_true rfl) ?_
  refine z_lv (lv' := [some (.ref x0), some (.int g), some (.int (nI 1)), some (.int (nI (mK S))), some (.int (nI x)), some (.int (nI (kN S x))), some (.int (nI 1)), some (.int (nI (cnS S 1))), some (.int (nI (cnS S 2))), some (.int (nI (cnS S 3))), some (.int (nI P)), some (.int (nI Q9)), some (.int (nI 2)), some (.int (nI 0)), some (.int (nI 0)), some (.int (nI (vN S x))), some (.int (nI 0)), some (.int (nI (1 + (zc (sup S x) (mK S))))), some (.int (nI (1 + zc (sup S x) (mK S)))), some (.int (nI 0)), some (.int (nI 1))]) rfl ?_
  refine z_iload C dL_settles_405 rfl ?_
  refine z_iconst C (nI 4) dL_settles_407 (by decide) ?_
  refine z_ncmp_ne_f C 496 dL_settles_408 (by decide) (by omega) (by omega) (by omega) ?_
  refine z_iload C dL_settles_411 rfl ?_
  refine z_nif_eq_f C 494 dL_settles_413 (by decide) (by omega) (by omega) ?_
  refine z_iload_n C 2 dL_settles_416 rfl rfl ?_
  refine z_nif_eq_f C 490 dL_settles_417 (by decide) (by omega) (by omega) ?_
  refine z_aload_n C 0 dL_settles_420 rfl rfl ?_
  refine z_iconst C (nI 0) dL_settles_421 (by decide) ?_
  refine z_iload C dL_settles_422 rfl ?_
  refine z_iconst C (nI 0) dL_settles_424 (by decide) ?_
  refine z_callVr C kX5_line gL_settles_X5_line (l_line0n X.2.1 x0 h0 w0 t S1 0 P hG1 (by decide) (by omega) hN0) dL_settles_425 [0, 1, 2, 3, 4, 5, 6, 7, 8] [] 0 rfl nd_0_1_2_3_4_5_6_7_8 rfl rfl rfl (by decide) (by decide) (Nat.le_of_ble_eq_true rfl) rfl ?_
  refine z_bipush C (-5) dL_settles_428 (by decide) ?_
  refine z_icmp_ne_f C 494 dL_settles_430 (by decide) rfl ?_
  refine z_aload_n C 0 dL_settles_433 rfl rfl ?_
  refine z_iconst C (nI 1) dL_settles_434 (by decide) ?_
  refine z_iload C dL_settles_435 rfl ?_
  refine z_iconst C (nI 0) dL_settles_437 (by decide) ?_
  refine z_callVr C kX5_line gL_settles_X5_line (l_line0n X.2.1 x0 h0 w0 t S1 1 Q9 hG1 (by decide) (by omega) hN1) dL_settles_438 [0, 1, 2, 3, 4, 5, 6, 7, 8] [] 0 rfl nd_0_1_2_3_4_5_6_7_8 rfl rfl rfl (by decide) (by decide) (Nat.le_of_ble_eq_true rfl) rfl ?_
  refine z_bipush C (-5) dL_settles_441 (by decide) ?_
  refine z_icmp_ne_f C 494 dL_settles_443 (by decide) rfl ?_
  refine z_aload_n C 0 dL_settles_446 rfl rfl ?_
  refine z_iload C dL_settles_447 rfl ?_
  refine z_iload C dL_settles_449 rfl ?_
  refine z_iconst C (nI 0) dL_settles_451 (by decide) ?_
  rcases Nat.lt_or_ge (0) (kS S1 P Q9) with hq_8 | hq_8
  · have fk_9 : sX S1 P Q9 0 < mK S1 := (sX_f hG1 (by omega) (by omega) hq_8).1
    have fk_10 : kN S1 (sX S1 P Q9 0) = 4 := (sX_f hG1 (by omega) (by omega) hq_8).2.1
    have fk_11 : sN S1 (sX S1 P Q9 0) = 0 := (sX_f hG1 (by omega) (by omega) hq_8).2.2.1
    refine z_callVr C kX5_setting gL_settles_X5_setting (l_setY X.2.1 x0 h0 w0 t S1 P Q9 0 hG1 (by omega) (by omega) hq_8) dL_settles_452 [0, 1, 2, 3, 4, 5, 6, 7, 8] [] 0 rfl nd_0_1_2_3_4_5_6_7_8 rfl rfl rfl (by decide) (by decide) (Nat.le_of_ble_eq_true rfl) rfl ?_
    have hg_12 : sX S1 P Q9 0 < mK S1 := (sX_t hG1 (by omega)).1
    refine z_nif_lt_f C 476 dL_settles_455 (by decide) (by omega) (by trivial) ?_
    refine z_aload_n C 0 dL_settles_458 rfl rfl ?_
    refine z_aload_n C 0 dL_settles_459 rfl rfl ?_
    refine z_iload C dL_settles_460 rfl ?_
    refine z_iload C dL_settles_462 rfl ?_
    refine z_iconst C (nI 0) dL_settles_464 (by decide) ?_
    refine z_callVr C kX5_setting gL_settles_X5_setting (l_setY X.2.1 x0 h0 w0 t S1 P Q9 0 hG1 (by omega) (by omega) hq_8) dL_settles_465 [0, 1, 2, 3, 4, 5, 6, 7, 8] [.ref x0] 0 rfl nd_0_1_2_3_4_5_6_7_8 rfl rfl rfl (by decide) (by decide) (Nat.le_of_ble_eq_true rfl) rfl ?_
    have hg_13 : sX S1 P Q9 0 < mK S1 := (sX_t hG1 (by omega)).1
    refine z_bipush C (nI 6) dL_settles_468 (by decide) ?_
    refine z_callVr C kX5_change gL_settles_X5_change (l_chg6y X.2.1 x0 h0 w0 t S1 (sX S1 P Q9 0) hG1 fk_9 fk_10 fk_11) dL_settles_470 [0, 1, 2, 3, 4, 5, 6, 7, 8] [] 0 rfl nd_0_1_2_3_4_5_6_7_8 rfl rfl rfl (by decide) (by decide) (Nat.le_of_ble_eq_true rfl) rfl ?_
    have fe_14 : bN S1 (sX S1 P Q9 0) < 10000 := (bN_X hG1 (by omega) (by omega) (show 0 < kS S1 P Q9 by omega)).2.1
    have fe_15 : bN S1 (sX S1 P Q9 0) = vN S x := (nI_eq (by omega) (by omega)).mp ((bse_p hG1 (by omega) (by omega) (show 0 < kS S1 P Q9 by omega)).trans hbs)
    refine z_goto C 485 dL_settles_473 (by decide) ?_
    refine z_iload C dL_settles_485 rfl ?_
    refine z_ncmp_ne_f C 494 dL_settles_487 (by decide) (by omega) (by omega) (by omega) ?_
    refine z_iconst C (nI 1) dL_settles_490 (by decide) ?_
    refine z_goto C 495 dL_settles_491 (by decide) ?_
    exact z_zret C N dL_settles_495 rfl (rfl) (rfl)
  · refine z_callVr C kX5_setting gL_settles_X5_setting (l_setN X.2.1 x0 h0 w0 t S1 P Q9 0 hG1 (by omega) (by omega) hq_8 (by decide)) dL_settles_452 [0, 1, 2, 3, 4, 5, 6, 7, 8] [] 0 rfl nd_0_1_2_3_4_5_6_7_8 rfl rfl rfl (by decide) (by decide) (Nat.le_of_ble_eq_true rfl) rfl ?_
    refine z_if_lt_t C 476 dL_settles_455 (by decide) (by decide) ?_
    refine z_aload_n C 0 dL_settles_476 rfl rfl ?_
    refine z_iconst C (nI 0) dL_settles_477 (by decide) ?_
    refine z_iload C dL_settles_478 rfl ?_
    refine z_iload C dL_settles_480 rfl ?_
    refine z_callVr C kX5_cell gL_settles_X5_cell (l_cell0 X.2.1 x0 h0 w0 t S1 P Q9 hG1 (by omega) (by omega)) dL_settles_482 [0, 1, 2, 3, 4, 5, 6, 7, 8] [] 0 rfl nd_0_1_2_3_4_5_6_7_8 rfl rfl rfl (by decide) (by decide) (Nat.le_of_ble_eq_true rfl) rfl ?_
    refine z_top (y := nI (vN S x)) ((cV_0 hG1 (by omega)).trans hbs) ?_
    refine z_iload C dL_settles_485 rfl ?_
    refine z_ncmp_ne_f C 494 dL_settles_487 (by decide) (by omega) (by omega) (by omega) ?_
    refine z_iconst C (nI 1) dL_settles_490 (by decide) ?_
    refine z_goto C 495 dL_settles_491 (by decide) ?_
    exact z_zret C N dL_settles_495 rfl (rfl) (rfl)

set_option maxHeartbeats 4000000 in
set_option maxRecDepth 100000 in
theorem w_stl0z (E : zE) (x0 h0 h1 w0 w1 : Nat) (t : Nat → Nat) (r : Nat → Nat → Nat) (S : zSt) (o kp kp1 kp2 o1 o2 : Nat) (Q Q1 Q2 : Nat → zSt) (tx : Nat → Nat) (ln : Nat) (ps : zPs) {B : Nat} (g : Int32) (hG : GG S B) (hz : mK S = 0) (m1 : zM E yX5_accept wsX5_accept 7 [.ref x0, .int (nI 0)] (WAd E x0 h0 h1 w0 t r S o kp Q) (WAd E x0 h0 h1 w0 t r S o1 kp1 Q1) (some (.int (-1)))) (m2 : zM E yX5_reject wsX5_reject 6 [.ref x0, .int (nI 0)] (WAd E x0 h0 h1 w0 t r S o1 kp1 Q1) (WAd E x0 h0 h1 w0 t r S o2 kp2 Q2) (some (.int (-1)))) : zM E yL_settles wsL_settles 8 [.ref x0, .int g, .int (nI 0)] (WRd E x0 h0 h1 w0 w1 t r S o kp Q tx ln ps) (WRd E x0 h0 h1 w0 w1 t r S o2 kp2 Q2 tx ln ps) (some (.int (nI 1))) := by
  refine zM.of kL_settles (Nat.le_of_ble_eq_true rfl) rfl [some (.ref x0), some (.int g), some (.int (nI 0)), none, none, none, none, none, none, none, none, none, none, none, none, none, none, none, none, none, none] rfl (Nat.le_of_ble_eq_true rfl) ?_
  intro X eX C N
  subst eX
  have hb0 : uU S 0 ≤ 12 := gg_u hG 0
  have hb1 : uU S 1 ≤ 8 := gg_u1 hG
  have hb2 : mK S ≤ 60 := gg_M hG
  refine z_aload_n C 0 dL_settles_0 rfl rfl ?_
  refine z_iconst C (nI 0) dL_settles_1 (by decide) ?_
  refine z_callVr C kX5_count gL_settles_X5_count (l_cnt0 X.2.1 x0 h0 h1 w0 w1 t S o kp ln ps  hG ) dL_settles_2 [0, 1, 2, 3, 4, 5, 6, 7, 8, 9, 51] [] 0 rfl nd_0_1_2_3_4_5_6_7_8_9_51 rfl rfl rfl (by decide) (by decide) (Nat.le_of_ble_eq_true rfl) rfl ?_
  refine z_istore_n C 3 dL_settles_5 rfl (Nat.le_of_ble_eq_true rfl) ?_
  refine z_lv (lv' := [some (.ref x0), some (.int g), some (.int (nI 0)), some (.int (nI (mK S))), none, none, none, none, none, none, none, none, none, none, none, none, none, none, none, none, none]) rfl ?_
  refine z_iload_n C 3 dL_settles_6 rfl rfl ?_
  refine z_nif_ne_f C 34 dL_settles_7 (by decide) (by omega) (by omega) ?_
  refine z_aload_n C 0 dL_settles_10 rfl rfl ?_
  refine z_iconst C (nI 0) dL_settles_11 (by decide) ?_
  refine z_callV (wn := (WRd X.2.1 x0 h0 h1 w0 w1 t r S o1 kp1 Q1 tx ln ps)) C kX5_accept gL_settles_X5_accept m1 dL_settles_12 [0, 1, 2, 3, 4, 5, 6, 7, 8, 9, 10, 11, 12, 13, 14, 15, 16, 17, 18, 19, 20, 21, 22, 23, 24, 25, 26, 27, 28, 29, 30, 31, 32, 33, 34, 35, 36, 37, 38, 39, 40, 41, 42, 43, 44, 45, 46, 47, 48, 49, 50] [] 0 rfl rfl nd_0_1_2_3_4_5_6_7_8_9_10_11_12_13_14_15_16_17_18_19_20_21_22_23_24_25_26_27_28_29_30_31_32_33_34_35_36_37_38_39_40_41_42_43_44_45_46_47_48_49_50 rfl rfl rfl (by decide) (by decide) (Nat.le_of_ble_eq_true rfl) rfl ((zput_par nd_0_1_2_3_4_5_6_7_8_9_10_11_12_13_14_15_16_17_18_19_20_21_22_23_24_25_26_27_28_29_30_31_32_33_34_35_36_37_38_39_40_41_42_43_44_45_46_47_48_49_50 rfl).trans rfl) ?_
  refine z_iconst C (-1) dL_settles_15 (by decide) ?_
  refine z_icmp_ne_f C 32 dL_settles_16 (by decide) rfl ?_
  refine z_aload_n C 0 dL_settles_19 rfl rfl ?_
  refine z_iconst C (nI 0) dL_settles_20 (by decide) ?_
  refine z_callV (wn := (WRd X.2.1 x0 h0 h1 w0 w1 t r S o2 kp2 Q2 tx ln ps)) C kX5_reject gL_settles_X5_reject m2 dL_settles_21 [0, 1, 2, 3, 4, 5, 6, 7, 8, 9, 10, 11, 12, 13, 14, 15, 16, 17, 18, 19, 20, 21, 22, 23, 24, 25, 26, 27, 28, 29, 30, 31, 32, 33, 34, 35, 36, 37, 38, 39, 40, 41, 42, 43, 44, 45, 46, 47, 48, 49, 50] [] 0 rfl rfl nd_0_1_2_3_4_5_6_7_8_9_10_11_12_13_14_15_16_17_18_19_20_21_22_23_24_25_26_27_28_29_30_31_32_33_34_35_36_37_38_39_40_41_42_43_44_45_46_47_48_49_50 rfl rfl rfl (by decide) (by decide) (Nat.le_of_ble_eq_true rfl) rfl ((zput_par nd_0_1_2_3_4_5_6_7_8_9_10_11_12_13_14_15_16_17_18_19_20_21_22_23_24_25_26_27_28_29_30_31_32_33_34_35_36_37_38_39_40_41_42_43_44_45_46_47_48_49_50 rfl).trans rfl) ?_
  refine z_iconst C (-1) dL_settles_24 (by decide) ?_
  refine z_icmp_ne_f C 32 dL_settles_25 (by decide) rfl ?_
  refine z_iconst C (nI 1) dL_settles_28 (by decide) ?_
  refine z_goto C 33 dL_settles_29 (by decide) ?_
  exact z_zret C N dL_settles_33 rfl (rfl) (rfl)

set_option maxHeartbeats 4000000 in
set_option maxRecDepth 100000 in
theorem w_stl0n (E : zE) (x0 h0 h1 w0 w1 : Nat) (t : Nat → Nat) (r : Nat → Nat → Nat) (S : zSt) (o kp kp1 o1 : Nat) (Q Q1 : Nat → zSt) (tx : Nat → Nat) (ln : Nat) (ps : zPs) {B : Nat} (g : Int32) (x : Nat) (hG : GG S B) (hX : lw g (mK S) = x) (hx : x < mK S) (hs : sN S x ≠ 0) (m1 : zM E yX5_reject wsX5_reject 6 [.ref x0, .int (nI x)] (WAd E x0 h0 h1 w0 t r S o kp Q) (WAd E x0 h0 h1 w0 t r S o1 kp1 Q1) (some (.int (-4)))) : zM E yL_settles wsL_settles 8 [.ref x0, .int g, .int (nI 0)] (WRd E x0 h0 h1 w0 w1 t r S o kp Q tx ln ps) (WRd E x0 h0 h1 w0 w1 t r S o1 kp1 Q1 tx ln ps) (some (.int (nI 1))) := by
  refine zM.of kL_settles (Nat.le_of_ble_eq_true rfl) rfl [some (.ref x0), some (.int g), some (.int (nI 0)), none, none, none, none, none, none, none, none, none, none, none, none, none, none, none, none, none, none] rfl (Nat.le_of_ble_eq_true rfl) ?_
  intro X eX C N
  subst eX
  have hb0 : uU S 0 ≤ 12 := gg_u hG 0
  have hb1 : uU S 1 ≤ 8 := gg_u1 hG
  have hb2 : mK S ≤ 60 := gg_M hG
  have hkx := (kN_e hG hx).2
  have hsx := (sN_e hG hx).2
  refine z_aload_n C 0 dL_settles_0 rfl rfl ?_
  refine z_iconst C (nI 0) dL_settles_1 (by decide) ?_
  refine z_callVr C kX5_count gL_settles_X5_count (l_cnt0 X.2.1 x0 h0 h1 w0 w1 t S o kp ln ps  hG ) dL_settles_2 [0, 1, 2, 3, 4, 5, 6, 7, 8, 9, 51] [] 0 rfl nd_0_1_2_3_4_5_6_7_8_9_51 rfl rfl rfl (by decide) (by decide) (Nat.le_of_ble_eq_true rfl) rfl ?_
  refine z_istore_n C 3 dL_settles_5 rfl (Nat.le_of_ble_eq_true rfl) ?_
  refine z_lv (lv' := [some (.ref x0), some (.int g), some (.int (nI 0)), some (.int (nI (mK S))), none, none, none, none, none, none, none, none, none, none, none, none, none, none, none, none, none]) rfl ?_
  refine z_iload_n C 3 dL_settles_6 rfl rfl ?_
  refine z_nif_ne_t C 34 dL_settles_7 (by decide) (by omega) (by omega) ?_
  refine z_iload_n C 1 dL_settles_34 rfl rfl ?_
  refine z_iload_n C 3 dL_settles_35 rfl rfl ?_
  refine z_callS C kL_low gL_settles_L_low (l_low X.2.1 g (mK S) (by omega) (by omega)) dL_settles_36 [] rfl (by decide) (by decide) (Nat.le_of_ble_eq_true rfl) rfl ?_
  refine z_top (y := nI x) (congrArg nI hX) ?_
  refine z_istore C dL_settles_39 (Nat.le_of_ble_eq_true rfl) ?_
  refine z_lv (lv' := [some (.ref x0), some (.int g), some (.int (nI 0)), some (.int (nI (mK S))), some (.int (nI x)), none, none, none, none, none, none, none, none, none, none, none, none, none, none, none, none]) rfl ?_
  refine z_aload_n C 0 dL_settles_41 rfl rfl ?_
  refine z_iload C dL_settles_42 rfl ?_
  refine z_iconst C (nI 0) dL_settles_44 (by decide) ?_
  refine z_callVr C kX5_change gL_settles_X5_change (l_chg0 X.2.1 x0 h0 w0 t S x hG hx) dL_settles_45 [0, 1, 2, 3, 4, 5, 6, 7, 8] [] 0 rfl nd_0_1_2_3_4_5_6_7_8 rfl rfl rfl (by decide) (by decide) (Nat.le_of_ble_eq_true rfl) rfl ?_
  refine z_istore C dL_settles_48 (Nat.le_of_ble_eq_true rfl) ?_
  refine z_lv (lv' := [some (.ref x0), some (.int g), some (.int (nI 0)), some (.int (nI (mK S))), some (.int (nI x)), some (.int (nI (kN S x))), none, none, none, none, none, none, none, none, none, none, none, none, none, none, none]) rfl ?_
  refine z_aload_n C 0 dL_settles_50 rfl rfl ?_
  refine z_iload C dL_settles_51 rfl ?_
  refine z_iconst C (nI 2) dL_settles_53 (by decide) ?_
  refine z_callVr C kX5_change gL_settles_X5_change (l_chg2 X.2.1 x0 h0 w0 t S x hG hx) dL_settles_54 [0, 1, 2, 3, 4, 5, 6, 7, 8] [] 0 rfl nd_0_1_2_3_4_5_6_7_8 rfl rfl rfl (by decide) (by decide) (Nat.le_of_ble_eq_true rfl) rfl ?_
  refine z_nif_ne_t C 64 dL_settles_57 (by decide) (by omega) (by omega) ?_
  refine z_iconst C (nI 0) dL_settles_64 (by decide) ?_
  refine z_istore C dL_settles_65 (Nat.le_of_ble_eq_true rfl) ?_
  refine z_lv (lv' := [some (.ref x0), some (.int g), some (.int (nI 0)), some (.int (nI (mK S))), some (.int (nI x)), some (.int (nI (kN S x))), some (.int (nI 0)), none, none, none, none, none, none, none, none, none, none, none, none, none, none]) rfl ?_
  refine z_aload_n C 0 dL_settles_67 rfl rfl ?_
  refine z_iload_n C 2 dL_settles_68 rfl rfl ?_
  refine z_nif_eq_t C 76 dL_settles_69 (by decide) (by omega) (by omega) ?_
  refine z_iconst C (nI 3) dL_settles_76 (by decide) ?_
  refine z_callVr C kX5_count gL_settles_X5_count (l_cntK X.2.1 x0 h0 h1 w0 w1 t S o kp ln ps 2 hG (by decide)) dL_settles_77 [0, 1, 2, 3, 4, 5, 6, 7, 8, 9, 51] [] 0 rfl nd_0_1_2_3_4_5_6_7_8_9_51 rfl rfl rfl (by decide) (by decide) (Nat.le_of_ble_eq_true rfl) rfl ?_
  have hg_1 : cnS S 2 ≤ mK S := zc_le _ _
  refine z_istore C dL_settles_80 (Nat.le_of_ble_eq_true rfl) ?_
  refine z_lv (lv' := [some (.ref x0), some (.int g), some (.int (nI 0)), some (.int (nI (mK S))), some (.int (nI x)), some (.int (nI (kN S x))), some (.int (nI 0)), some (.int (nI (cnS S 2))), none, none, none, none, none, none, none, none, none, none, none, none, none]) rfl ?_
  refine z_aload_n C 0 dL_settles_82 rfl rfl ?_
  refine z_iload_n C 2 dL_settles_83 rfl rfl ?_
  refine z_nif_eq_t C 91 dL_settles_84 (by decide) (by omega) (by omega) ?_
  refine z_iconst C (nI 2) dL_settles_91 (by decide) ?_
  refine z_callVr C kX5_count gL_settles_X5_count (l_cntK X.2.1 x0 h0 h1 w0 w1 t S o kp ln ps 1 hG (by decide)) dL_settles_92 [0, 1, 2, 3, 4, 5, 6, 7, 8, 9, 51] [] 0 rfl nd_0_1_2_3_4_5_6_7_8_9_51 rfl rfl rfl (by decide) (by decide) (Nat.le_of_ble_eq_true rfl) rfl ?_
  have hg_2 : cnS S 1 ≤ mK S := zc_le _ _
  refine z_istore C dL_settles_95 (Nat.le_of_ble_eq_true rfl) ?_
  refine z_lv (lv' := [some (.ref x0), some (.int g), some (.int (nI 0)), some (.int (nI (mK S))), some (.int (nI x)), some (.int (nI (kN S x))), some (.int (nI 0)), some (.int (nI (cnS S 2))), some (.int (nI (cnS S 1))), none, none, none, none, none, none, none, none, none, none, none, none]) rfl ?_
  refine z_aload_n C 0 dL_settles_97 rfl rfl ?_
  refine z_iconst C (nI 4) dL_settles_98 (by decide) ?_
  refine z_callVr C kX5_count gL_settles_X5_count (l_cntK X.2.1 x0 h0 h1 w0 w1 t S o kp ln ps 3 hG (by decide)) dL_settles_99 [0, 1, 2, 3, 4, 5, 6, 7, 8, 9, 51] [] 0 rfl nd_0_1_2_3_4_5_6_7_8_9_51 rfl rfl rfl (by decide) (by decide) (Nat.le_of_ble_eq_true rfl) rfl ?_
  have hg_3 : cnS S 3 ≤ mK S := zc_le _ _
  refine z_istore C dL_settles_102 (Nat.le_of_ble_eq_true rfl) ?_
  refine z_lv (lv' := [some (.ref x0), some (.int g), some (.int (nI 0)), some (.int (nI (mK S))), some (.int (nI x)), some (.int (nI (kN S x))), some (.int (nI 0)), some (.int (nI (cnS S 2))), some (.int (nI (cnS S 1))), some (.int (nI (cnS S 3))), none, none, none, none, none, none, none, none, none, none, none]) rfl ?_
  refine z_aload_n C 0 dL_settles_104 rfl rfl ?_
  refine z_iload C dL_settles_105 rfl ?_
  refine z_iconst C (nI 3) dL_settles_107 (by decide) ?_
  refine z_callVr C kX5_change gL_settles_X5_change (l_chg3 X.2.1 x0 h0 w0 t S x hG hx) dL_settles_108 [0, 1, 2, 3, 4, 5, 6, 7, 8] [] 0 rfl nd_0_1_2_3_4_5_6_7_8 rfl rfl rfl (by decide) (by decide) (Nat.le_of_ble_eq_true rfl) rfl ?_
  refine z_istore C dL_settles_111 (Nat.le_of_ble_eq_true rfl) ?_
  refine z_lv (lv' := [some (.ref x0), some (.int g), some (.int (nI 0)), some (.int (nI (mK S))), some (.int (nI x)), some (.int (nI (kN S x))), some (.int (nI 0)), some (.int (nI (cnS S 2))), some (.int (nI (cnS S 1))), some (.int (nI (cnS S 3))), some (.int (eP (lP S 0 x))), none, none, none, none, none, none, none, none, none, none]) rfl ?_
  refine z_aload_n C 0 dL_settles_113 rfl rfl ?_
  refine z_iload C dL_settles_114 rfl ?_
  refine z_iconst C (nI 4) dL_settles_116 (by decide) ?_
  refine z_callVr C kX5_change gL_settles_X5_change (l_chg4 X.2.1 x0 h0 w0 t S x hG hx) dL_settles_117 [0, 1, 2, 3, 4, 5, 6, 7, 8] [] 0 rfl nd_0_1_2_3_4_5_6_7_8 rfl rfl rfl (by decide) (by decide) (Nat.le_of_ble_eq_true rfl) rfl ?_
  refine z_istore C dL_settles_120 (Nat.le_of_ble_eq_true rfl) ?_
  refine z_lv (lv' := [some (.ref x0), some (.int g), some (.int (nI 0)), some (.int (nI (mK S))), some (.int (nI x)), some (.int (nI (kN S x))), some (.int (nI 0)), some (.int (nI (cnS S 2))), some (.int (nI (cnS S 1))), some (.int (nI (cnS S 3))), some (.int (eP (lP S 0 x))), some (.int (eP (lP S 1 x))), none, none, none, none, none, none, none, none, none]) rfl ?_
  refine z_iload C dL_settles_122 rfl ?_
  refine z_iconst C (nI 2) dL_settles_124 (by decide) ?_
  refine z_idiv C dL_settles_125 (by decide) ?_
  refine z_top (y := nI (kN S x / 2)) (pk_div (by omega) (by decide) (by decide)) ?_
  refine z_istore C dL_settles_126 (Nat.le_of_ble_eq_true rfl) ?_
  refine z_lv (lv' := [some (.ref x0), some (.int g), some (.int (nI 0)), some (.int (nI (mK S))), some (.int (nI x)), some (.int (nI (kN S x))), some (.int (nI 0)), some (.int (nI (cnS S 2))), some (.int (nI (cnS S 1))), some (.int (nI (cnS S 3))), some (.int (eP (lP S 0 x))), some (.int (eP (lP S 1 x))), some (.int (nI (kN S x / 2))), none, none, none, none, none, none, none, none]) rfl ?_
  refine z_iload_n C 2 dL_settles_128 rfl rfl ?_
  refine z_nif_eq_t C 152 dL_settles_129 (by decide) (by omega) (by omega) ?_
  refine z_iload C dL_settles_152 rfl ?_
  refine z_nif_eq C 163 dL_settles_154 (by decide) (by omega) (fun h_4 => ?_) (fun h_4 => ?_)
  · refine z_iconst C (nI 1) dL_settles_163 (by decide) ?_
    refine z_goto C 168 dL_settles_164 (by decide) ?_
    refine z_istore C dL_settles_168 (Nat.le_of_ble_eq_true rfl) ?_
    refine z_lv (lv' := [some (.ref x0), some (.int g), some (.int (nI 0)), some (.int (nI (mK S))), some (.int (nI x)), some (.int (nI (kN S x))), some (.int (nI 0)), some (.int (nI (cnS S 2))), some (.int (nI (cnS S 1))), some (.int (nI (cnS S 3))), some (.int (eP (lP S 0 x))), some (.int (eP (lP S 1 x))), some (.int (nI (kN S x / 2))), some (.int (nI 1)), none, none, none, none, none, none, none]) rfl ?_
    refine z_iload C dL_settles_170 rfl ?_
    refine z_iconst C (nI 4) dL_settles_172 (by decide) ?_
    refine z_ncmp_ne_t C 180 dL_settles_173 (by decide) (by omega) (by omega) (by omega) ?_
    have fd_5 : kN S x / 2 < 2 := by omega
    refine z_aload_n C 0 dL_settles_180 rfl rfl ?_
    refine z_iconst C (nI 0) dL_settles_181 (by decide) ?_
    refine z_iload C dL_settles_182 rfl ?_
    refine z_callVr C kX5_size gL_settles_X5_size (l_size0 X.2.1 x0 h0 w0 t S (kN S x / 2) hG fd_5) dL_settles_184 [0, 1, 2, 3, 4, 5, 6, 7, 8] [] 0 rfl nd_0_1_2_3_4_5_6_7_8 rfl rfl rfl (by decide) (by decide) (Nat.le_of_ble_eq_true rfl) rfl ?_
    refine z_istore C dL_settles_187 (Nat.le_of_ble_eq_true rfl) ?_
    refine z_lv (lv' := [some (.ref x0), some (.int g), some (.int (nI 0)), some (.int (nI (mK S))), some (.int (nI x)), some (.int (nI (kN S x))), some (.int (nI 0)), some (.int (nI (cnS S 2))), some (.int (nI (cnS S 1))), some (.int (nI (cnS S 3))), some (.int (eP (lP S 0 x))), some (.int (eP (lP S 1 x))), some (.int (nI (kN S x / 2))), some (.int (nI 1)), some (.int (nI (uU S (kN S x / 2)))), none, none, none, none, none, none]) rfl ?_
    refine z_aload_n C 0 dL_settles_189 rfl rfl ?_
    refine z_iload C dL_settles_190 rfl ?_
    refine z_iconst C (nI 5) dL_settles_192 (by decide) ?_
    refine z_callVr C kX5_change gL_settles_X5_change (l_chg5n X.2.1 x0 h0 w0 t S x hG hx (by omega)) dL_settles_193 [0, 1, 2, 3, 4, 5, 6, 7, 8] [] 0 rfl nd_0_1_2_3_4_5_6_7_8 rfl rfl rfl (by decide) (by decide) (Nat.le_of_ble_eq_true rfl) rfl ?_
    refine z_istore C dL_settles_196 (Nat.le_of_ble_eq_true rfl) ?_
    refine z_lv (lv' := [some (.ref x0), some (.int g), some (.int (nI 0)), some (.int (nI (mK S))), some (.int (nI x)), some (.int (nI (kN S x))), some (.int (nI 0)), some (.int (nI (cnS S 2))), some (.int (nI (cnS S 1))), some (.int (nI (cnS S 3))), some (.int (eP (lP S 0 x))), some (.int (eP (lP S 1 x))), some (.int (nI (kN S x / 2))), some (.int (nI 1)), some (.int (nI (uU S (kN S x / 2)))), some (.int (-5)), none, none, none, none, none]) rfl ?_
    refine z_iload C dL_settles_198 rfl ?_
    refine z_iconst C (nI 4) dL_settles_200 (by decide) ?_
    refine z_ncmp_eq_f C 209 dL_settles_201 (by decide) (by omega) (by omega) (by omega) ?_
    refine z_iload C dL_settles_204 rfl ?_
    refine z_nif_ne_f C 213 dL_settles_206 (by decide) (by omega) (by omega) ?_
    refine z_iconst C (nI 0) dL_settles_209 (by decide) ?_
    refine z_goto C 232 dL_settles_210 (by decide) ?_
    refine z_istore C dL_settles_232 (Nat.le_of_ble_eq_true rfl) ?_
    refine z_lv (lv' := [some (.ref x0), some (.int g), some (.int (nI 0)), some (.int (nI (mK S))), some (.int (nI x)), some (.int (nI (kN S x))), some (.int (nI 0)), some (.int (nI (cnS S 2))), some (.int (nI (cnS S 1))), some (.int (nI (cnS S 3))), some (.int (eP (lP S 0 x))), some (.int (eP (lP S 1 x))), some (.int (nI (kN S x / 2))), some (.int (nI 1)), some (.int (nI (uU S (kN S x / 2)))), some (.int (-5)), some (.int (nI 0)), none, none, none, none]) rfl ?_
    refine z_iload C dL_settles_234 rfl ?_
    refine z_nif_ne_f C 244 dL_settles_236 (by decide) (by omega) (by omega) ?_
    refine z_bipush C (-4) dL_settles_239 (by decide) ?_
    refine z_goto C 263 dL_settles_241 (by decide) ?_
    refine z_istore C dL_settles_263 (Nat.le_of_ble_eq_true rfl) ?_
    refine z_lv (lv' := [some (.ref x0), some (.int g), some (.int (nI 0)), some (.int (nI (mK S))), some (.int (nI x)), some (.int (nI (kN S x))), some (.int (nI 0)), some (.int (nI (cnS S 2))), some (.int (nI (cnS S 1))), some (.int (nI (cnS S 3))), some (.int (eP (lP S 0 x))), some (.int (eP (lP S 1 x))), some (.int (nI (kN S x / 2))), some (.int (nI 1)), some (.int (nI (uU S (kN S x / 2)))), some (.int (-5)), some (.int (nI 0)), some (.int (-4)), none, none, none]) rfl ?_
    refine z_iload_n C 2 dL_settles_265 rfl rfl ?_
    refine z_nif_eq_t C 278 dL_settles_266 (by decide) (by omega) (by omega) ?_
    refine z_aload_n C 0 dL_settles_278 rfl rfl ?_
    refine z_iload C dL_settles_279 rfl ?_
    refine z_callV (wn := (WRd X.2.1 x0 h0 h1 w0 w1 t r S o1 kp1 Q1 tx ln ps)) C kX5_reject gL_settles_X5_reject m1 dL_settles_281 [0, 1, 2, 3, 4, 5, 6, 7, 8, 9, 10, 11, 12, 13, 14, 15, 16, 17, 18, 19, 20, 21, 22, 23, 24, 25, 26, 27, 28, 29, 30, 31, 32, 33, 34, 35, 36, 37, 38, 39, 40, 41, 42, 43, 44, 45, 46, 47, 48, 49, 50] [] 0 rfl rfl nd_0_1_2_3_4_5_6_7_8_9_10_11_12_13_14_15_16_17_18_19_20_21_22_23_24_25_26_27_28_29_30_31_32_33_34_35_36_37_38_39_40_41_42_43_44_45_46_47_48_49_50 rfl rfl rfl (by decide) (by decide) (Nat.le_of_ble_eq_true rfl) rfl ((zput_par nd_0_1_2_3_4_5_6_7_8_9_10_11_12_13_14_15_16_17_18_19_20_21_22_23_24_25_26_27_28_29_30_31_32_33_34_35_36_37_38_39_40_41_42_43_44_45_46_47_48_49_50 rfl).trans rfl) ?_
    refine z_istore C dL_settles_284 (Nat.le_of_ble_eq_true rfl) ?_
    refine z_lv (lv' := [some (.ref x0), some (.int g), some (.int (nI 0)), some (.int (nI (mK S))), some (.int (nI x)), some (.int (nI (kN S x))), some (.int (nI 0)), some (.int (nI (cnS S 2))), some (.int (nI (cnS S 1))), some (.int (nI (cnS S 3))), some (.int (eP (lP S 0 x))), some (.int (eP (lP S 1 x))), some (.int (nI (kN S x / 2))), some (.int (nI 1)), some (.int (nI (uU S (kN S x / 2)))), some (.int (-5)), some (.int (nI 0)), some (.int (-4)), some (.int (-4)), none, none]) rfl ?_
    refine z_iload C dL_settles_286 rfl ?_
    refine z_iload C dL_settles_288 rfl ?_
    refine z_icmp_ne_f C 311 dL_settles_290 (by decide) rfl ?_
    refine z_aload_n C 0 dL_settles_293 rfl rfl ?_
    refine z_iload_n C 2 dL_settles_294 rfl rfl ?_
    refine z_nif_eq_t C 302 dL_settles_295 (by decide) (by omega) (by omega) ?_
    refine z_iconst C (nI 2) dL_settles_302 (by decide) ?_
    refine z_callVr C kX5_count gL_settles_X5_count (l_cntK X.2.1 x0 h0 h1 w0 w1 t S o1 kp1 ln ps 1 hG (by decide)) dL_settles_303 [0, 1, 2, 3, 4, 5, 6, 7, 8, 9, 51] [] 0 rfl nd_0_1_2_3_4_5_6_7_8_9_51 rfl rfl rfl (by decide) (by decide) (Nat.le_of_ble_eq_true rfl) rfl ?_
    have hg_6 : cnS S 1 ≤ mK S := zc_le _ _
    refine z_iload C dL_settles_306 rfl ?_
    refine z_ncmp_eq_t C 313 dL_settles_308 (by decide) (by omega) (by omega) (by omega) ?_
    refine z_iload C dL_settles_313 rfl ?_
    refine z_nif_ne_f C 320 dL_settles_315 (by decide) (by omega) (by omega) ?_
    refine z_iconst C (nI 1) dL_settles_318 (by decide) ?_
    exact z_zret C N dL_settles_319 rfl (rfl) (rfl)
  · refine z_iload C dL_settles_157 rfl ?_
    refine z_iconst C (nI 2) dL_settles_159 (by decide) ?_
    refine z_ncmp_ne C 167 dL_settles_160 (by decide) (by omega) (by omega) (fun h_7 => ?_) (fun h_7 => ?_)
    · refine z_iconst C (nI 0) dL_settles_167 (by decide) ?_
      refine z_istore C dL_settles_168 (Nat.le_of_ble_eq_true rfl) ?_
      refine z_lv (lv' := [some (.ref x0), some (.int g), some (.int (nI 0)), some (.int (nI (mK S))), some (.int (nI x)), some (.int (nI (kN S x))), some (.int (nI 0)), some (.int (nI (cnS S 2))), some (.int (nI (cnS S 1))), some (.int (nI (cnS S 3))), some (.int (eP (lP S 0 x))), some (.int (eP (lP S 1 x))), some (.int (nI (kN S x / 2))), some (.int (nI 0)), none, none, none, none, none, none, none]) rfl ?_
      refine z_iload C dL_settles_170 rfl ?_
      refine z_iconst C (nI 4) dL_settles_172 (by decide) ?_
      refine z_ncmp_ne C 180 dL_settles_173 (by decide) (by omega) (by omega) (fun h_8 => ?_) (fun h_8 => ?_)
      · have fd_9 : kN S x / 2 < 2 := by omega
        refine z_aload_n C 0 dL_settles_180 rfl rfl ?_
        refine z_iconst C (nI 0) dL_settles_181 (by decide) ?_
        refine z_iload C dL_settles_182 rfl ?_
        refine z_callVr C kX5_size gL_settles_X5_size (l_size0 X.2.1 x0 h0 w0 t S (kN S x / 2) hG fd_9) dL_settles_184 [0, 1, 2, 3, 4, 5, 6, 7, 8] [] 0 rfl nd_0_1_2_3_4_5_6_7_8 rfl rfl rfl (by decide) (by decide) (Nat.le_of_ble_eq_true rfl) rfl ?_
        refine z_istore C dL_settles_187 (Nat.le_of_ble_eq_true rfl) ?_
        refine z_lv (lv' := [some (.ref x0), some (.int g), some (.int (nI 0)), some (.int (nI (mK S))), some (.int (nI x)), some (.int (nI (kN S x))), some (.int (nI 0)), some (.int (nI (cnS S 2))), some (.int (nI (cnS S 1))), some (.int (nI (cnS S 3))), some (.int (eP (lP S 0 x))), some (.int (eP (lP S 1 x))), some (.int (nI (kN S x / 2))), some (.int (nI 0)), some (.int (nI (uU S (kN S x / 2)))), none, none, none, none, none, none]) rfl ?_
        refine z_aload_n C 0 dL_settles_189 rfl rfl ?_
        refine z_iload C dL_settles_190 rfl ?_
        refine z_iconst C (nI 5) dL_settles_192 (by decide) ?_
        refine z_callVr C kX5_change gL_settles_X5_change (l_chg5n X.2.1 x0 h0 w0 t S x hG hx h_8) dL_settles_193 [0, 1, 2, 3, 4, 5, 6, 7, 8] [] 0 rfl nd_0_1_2_3_4_5_6_7_8 rfl rfl rfl (by decide) (by decide) (Nat.le_of_ble_eq_true rfl) rfl ?_
        refine z_istore C dL_settles_196 (Nat.le_of_ble_eq_true rfl) ?_
        refine z_lv (lv' := [some (.ref x0), some (.int g), some (.int (nI 0)), some (.int (nI (mK S))), some (.int (nI x)), some (.int (nI (kN S x))), some (.int (nI 0)), some (.int (nI (cnS S 2))), some (.int (nI (cnS S 1))), some (.int (nI (cnS S 3))), some (.int (eP (lP S 0 x))), some (.int (eP (lP S 1 x))), some (.int (nI (kN S x / 2))), some (.int (nI 0)), some (.int (nI (uU S (kN S x / 2)))), some (.int (-5)), none, none, none, none, none]) rfl ?_
        refine z_iload C dL_settles_198 rfl ?_
        refine z_iconst C (nI 4) dL_settles_200 (by decide) ?_
        refine z_ncmp_eq_f C 209 dL_settles_201 (by decide) (by omega) (by omega) (by omega) ?_
        refine z_iload C dL_settles_204 rfl ?_
        refine z_nif_ne_f C 213 dL_settles_206 (by decide) (by omega) (by omega) ?_
        refine z_iconst C (nI 0) dL_settles_209 (by decide) ?_
        refine z_goto C 232 dL_settles_210 (by decide) ?_
        refine z_istore C dL_settles_232 (Nat.le_of_ble_eq_true rfl) ?_
        refine z_lv (lv' := [some (.ref x0), some (.int g), some (.int (nI 0)), some (.int (nI (mK S))), some (.int (nI x)), some (.int (nI (kN S x))), some (.int (nI 0)), some (.int (nI (cnS S 2))), some (.int (nI (cnS S 1))), some (.int (nI (cnS S 3))), some (.int (eP (lP S 0 x))), some (.int (eP (lP S 1 x))), some (.int (nI (kN S x / 2))), some (.int (nI 0)), some (.int (nI (uU S (kN S x / 2)))), some (.int (-5)), some (.int (nI 0)), none, none, none, none]) rfl ?_
        refine z_iload C dL_settles_234 rfl ?_
        refine z_nif_ne_f C 244 dL_settles_236 (by decide) (by omega) (by omega) ?_
        refine z_bipush C (-4) dL_settles_239 (by decide) ?_
        refine z_goto C 263 dL_settles_241 (by decide) ?_
        refine z_istore C dL_settles_263 (Nat.le_of_ble_eq_true rfl) ?_
        refine z_lv (lv' := [some (.ref x0), some (.int g), some (.int (nI 0)), some (.int (nI (mK S))), some (.int (nI x)), some (.int (nI (kN S x))), some (.int (nI 0)), some (.int (nI (cnS S 2))), some (.int (nI (cnS S 1))), some (.int (nI (cnS S 3))), some (.int (eP (lP S 0 x))), some (.int (eP (lP S 1 x))), some (.int (nI (kN S x / 2))), some (.int (nI 0)), some (.int (nI (uU S (kN S x / 2)))), some (.int (-5)), some (.int (nI 0)), some (.int (-4)), none, none, none]) rfl ?_
        refine z_iload_n C 2 dL_settles_265 rfl rfl ?_
        refine z_nif_eq_t C 278 dL_settles_266 (by decide) (by omega) (by omega) ?_
        refine z_aload_n C 0 dL_settles_278 rfl rfl ?_
        refine z_iload C dL_settles_279 rfl ?_
        refine z_callV (wn := (WRd X.2.1 x0 h0 h1 w0 w1 t r S o1 kp1 Q1 tx ln ps)) C kX5_reject gL_settles_X5_reject m1 dL_settles_281 [0, 1, 2, 3, 4, 5, 6, 7, 8, 9, 10, 11, 12, 13, 14, 15, 16, 17, 18, 19, 20, 21, 22, 23, 24, 25, 26, 27, 28, 29, 30, 31, 32, 33, 34, 35, 36, 37, 38, 39, 40, 41, 42, 43, 44, 45, 46, 47, 48, 49, 50] [] 0 rfl rfl nd_0_1_2_3_4_5_6_7_8_9_10_11_12_13_14_15_16_17_18_19_20_21_22_23_24_25_26_27_28_29_30_31_32_33_34_35_36_37_38_39_40_41_42_43_44_45_46_47_48_49_50 rfl rfl rfl (by decide) (by decide) (Nat.le_of_ble_eq_true rfl) rfl ((zput_par nd_0_1_2_3_4_5_6_7_8_9_10_11_12_13_14_15_16_17_18_19_20_21_22_23_24_25_26_27_28_29_30_31_32_33_34_35_36_37_38_39_40_41_42_43_44_45_46_47_48_49_50 rfl).trans rfl) ?_
        refine z_istore C dL_settles_284 (Nat.le_of_ble_eq_true rfl) ?_
        refine z_lv (lv' := [some (.ref x0), some (.int g), some (.int (nI 0)), some (.int (nI (mK S))), some (.int (nI x)), some (.int (nI (kN S x))), some (.int (nI 0)), some (.int (nI (cnS S 2))), some (.int (nI (cnS S 1))), some (.int (nI (cnS S 3))), some (.int (eP (lP S 0 x))), some (.int (eP (lP S 1 x))), some (.int (nI (kN S x / 2))), some (.int (nI 0)), some (.int (nI (uU S (kN S x / 2)))), some (.int (-5)), some (.int (nI 0)), some (.int (-4)), some (.int (-4)), none, none]) rfl ?_
        refine z_iload C dL_settles_286 rfl ?_
        refine z_iload C dL_settles_288 rfl ?_
        refine z_icmp_ne_f C 311 dL_settles_290 (by decide) rfl ?_
        refine z_aload_n C 0 dL_settles_293 rfl rfl ?_
        refine z_iload_n C 2 dL_settles_294 rfl rfl ?_
        refine z_nif_eq_t C 302 dL_settles_295 (by decide) (by omega) (by omega) ?_
        refine z_iconst C (nI 2) dL_settles_302 (by decide) ?_
        refine z_callVr C kX5_count gL_settles_X5_count (l_cntK X.2.1 x0 h0 h1 w0 w1 t S o1 kp1 ln ps 1 hG (by decide)) dL_settles_303 [0, 1, 2, 3, 4, 5, 6, 7, 8, 9, 51] [] 0 rfl nd_0_1_2_3_4_5_6_7_8_9_51 rfl rfl rfl (by decide) (by decide) (Nat.le_of_ble_eq_true rfl) rfl ?_
        have hg_10 : cnS S 1 ≤ mK S := zc_le _ _
        refine z_iload C dL_settles_306 rfl ?_
        refine z_ncmp_eq_t C 313 dL_settles_308 (by decide) (by omega) (by omega) (by omega) ?_
        refine z_iload C dL_settles_313 rfl ?_
        refine z_nif_ne_f C 320 dL_settles_315 (by decide) (by omega) (by omega) ?_
        refine z_iconst C (nI 1) dL_settles_318 (by decide) ?_
        exact z_zret C N dL_settles_319 rfl (rfl) (rfl)
      · refine z_iconst C (nI 0) dL_settles_176 (by decide) ?_
        refine z_goto C 187 dL_settles_177 (by decide) ?_
        refine z_istore C dL_settles_187 (Nat.le_of_ble_eq_true rfl) ?_
        refine z_lv (lv' := [some (.ref x0), some (.int g), some (.int (nI 0)), some (.int (nI (mK S))), some (.int (nI x)), some (.int (nI (kN S x))), some (.int (nI 0)), some (.int (nI (cnS S 2))), some (.int (nI (cnS S 1))), some (.int (nI (cnS S 3))), some (.int (eP (lP S 0 x))), some (.int (eP (lP S 1 x))), some (.int (nI (kN S x / 2))), some (.int (nI 0)), some (.int (nI 0)), none, none, none, none, none, none]) rfl ?_
        refine z_aload_n C 0 dL_settles_189 rfl rfl ?_
        refine z_iload C dL_settles_190 rfl ?_
        refine z_iconst C (nI 5) dL_settles_192 (by decide) ?_
        refine z_callVr C kX5_change gL_settles_X5_change (l_chg5y X.2.1 x0 h0 w0 t S x hG hx h_8) dL_settles_193 [0, 1, 2, 3, 4, 5, 6, 7, 8] [] 0 rfl nd_0_1_2_3_4_5_6_7_8 rfl rfl rfl (by decide) (by decide) (Nat.le_of_ble_eq_true rfl) rfl ?_
        refine z_istore C dL_settles_196 (Nat.le_of_ble_eq_true rfl) ?_
        refine z_lv (lv' := [some (.ref x0), some (.int g), some (.int (nI 0)), some (.int (nI (mK S))), some (.int (nI x)), some (.int (nI (kN S x))), some (.int (nI 0)), some (.int (nI (cnS S 2))), some (.int (nI (cnS S 1))), some (.int (nI (cnS S 3))), some (.int (eP (lP S 0 x))), some (.int (eP (lP S 1 x))), some (.int (nI (kN S x / 2))), some (.int (nI 0)), some (.int (nI 0)), some (.int (nI (vN S x))), none, none, none, none, none]) rfl ?_
        refine z_iload C dL_settles_198 rfl ?_
        refine z_iconst C (nI 4) dL_settles_200 (by decide) ?_
        refine z_ncmp_eq_t C 209 dL_settles_201 (by decide) (by omega) (by omega) (by omega) ?_
        refine z_iconst C (nI 0) dL_settles_209 (by decide) ?_
        refine z_goto C 232 dL_settles_210 (by decide) ?_
        refine z_istore C dL_settles_232 (Nat.le_of_ble_eq_true rfl) ?_
        refine z_lv (lv' := [some (.ref x0), some (.int g), some (.int (nI 0)), some (.int (nI (mK S))), some (.int (nI x)), some (.int (nI (kN S x))), some (.int (nI 0)), some (.int (nI (cnS S 2))), some (.int (nI (cnS S 1))), some (.int (nI (cnS S 3))), some (.int (eP (lP S 0 x))), some (.int (eP (lP S 1 x))), some (.int (nI (kN S x / 2))), some (.int (nI 0)), some (.int (nI 0)), some (.int (nI (vN S x))), some (.int (nI 0)), none, none, none, none]) rfl ?_
        refine z_iload C dL_settles_234 rfl ?_
        refine z_nif_ne_f C 244 dL_settles_236 (by decide) (by omega) (by omega) ?_
        refine z_bipush C (-4) dL_settles_239 (by decide) ?_
        refine z_goto C 263 dL_settles_241 (by decide) ?_
        refine z_istore C dL_settles_263 (Nat.le_of_ble_eq_true rfl) ?_
        refine z_lv (lv' := [some (.ref x0), some (.int g), some (.int (nI 0)), some (.int (nI (mK S))), some (.int (nI x)), some (.int (nI (kN S x))), some (.int (nI 0)), some (.int (nI (cnS S 2))), some (.int (nI (cnS S 1))), some (.int (nI (cnS S 3))), some (.int (eP (lP S 0 x))), some (.int (eP (lP S 1 x))), some (.int (nI (kN S x / 2))), some (.int (nI 0)), some (.int (nI 0)), some (.int (nI (vN S x))), some (.int (nI 0)), some (.int (-4)), none, none, none]) rfl ?_
        refine z_iload_n C 2 dL_settles_265 rfl rfl ?_
        refine z_nif_eq_t C 278 dL_settles_266 (by decide) (by omega) (by omega) ?_
        refine z_aload_n C 0 dL_settles_278 rfl rfl ?_
        refine z_iload C dL_settles_279 rfl ?_
        refine z_callV (wn := (WRd X.2.1 x0 h0 h1 w0 w1 t r S o1 kp1 Q1 tx ln ps)) C kX5_reject gL_settles_X5_reject m1 dL_settles_281 [0, 1, 2, 3, 4, 5, 6, 7, 8, 9, 10, 11, 12, 13, 14, 15, 16, 17, 18, 19, 20, 21, 22, 23, 24, 25, 26, 27, 28, 29, 30, 31, 32, 33, 34, 35, 36, 37, 38, 39, 40, 41, 42, 43, 44, 45, 46, 47, 48, 49, 50] [] 0 rfl rfl nd_0_1_2_3_4_5_6_7_8_9_10_11_12_13_14_15_16_17_18_19_20_21_22_23_24_25_26_27_28_29_30_31_32_33_34_35_36_37_38_39_40_41_42_43_44_45_46_47_48_49_50 rfl rfl rfl (by decide) (by decide) (Nat.le_of_ble_eq_true rfl) rfl ((zput_par nd_0_1_2_3_4_5_6_7_8_9_10_11_12_13_14_15_16_17_18_19_20_21_22_23_24_25_26_27_28_29_30_31_32_33_34_35_36_37_38_39_40_41_42_43_44_45_46_47_48_49_50 rfl).trans rfl) ?_
        refine z_istore C dL_settles_284 (Nat.le_of_ble_eq_true rfl) ?_
        refine z_lv (lv' := [some (.ref x0), some (.int g), some (.int (nI 0)), some (.int (nI (mK S))), some (.int (nI x)), some (.int (nI (kN S x))), some (.int (nI 0)), some (.int (nI (cnS S 2))), some (.int (nI (cnS S 1))), some (.int (nI (cnS S 3))), some (.int (eP (lP S 0 x))), some (.int (eP (lP S 1 x))), some (.int (nI (kN S x / 2))), some (.int (nI 0)), some (.int (nI 0)), some (.int (nI (vN S x))), some (.int (nI 0)), some (.int (-4)), some (.int (-4)), none, none]) rfl ?_
        refine z_iload C dL_settles_286 rfl ?_
        refine z_iload C dL_settles_288 rfl ?_
        refine z_icmp_ne_f C 311 dL_settles_290 (by decide) rfl ?_
        refine z_aload_n C 0 dL_settles_293 rfl rfl ?_
        refine z_iload_n C 2 dL_settles_294 rfl rfl ?_
        refine z_nif_eq_t C 302 dL_settles_295 (by decide) (by omega) (by omega) ?_
        refine z_iconst C (nI 2) dL_settles_302 (by decide) ?_
        refine z_callVr C kX5_count gL_settles_X5_count (l_cntK X.2.1 x0 h0 h1 w0 w1 t S o1 kp1 ln ps 1 hG (by decide)) dL_settles_303 [0, 1, 2, 3, 4, 5, 6, 7, 8, 9, 51] [] 0 rfl nd_0_1_2_3_4_5_6_7_8_9_51 rfl rfl rfl (by decide) (by decide) (Nat.le_of_ble_eq_true rfl) rfl ?_
        have hg_11 : cnS S 1 ≤ mK S := zc_le _ _
        refine z_iload C dL_settles_306 rfl ?_
        refine z_ncmp_eq_t C 313 dL_settles_308 (by decide) (by omega) (by omega) (by omega) ?_
        refine z_iload C dL_settles_313 rfl ?_
        refine z_nif_ne_f C 320 dL_settles_315 (by decide) (by omega) (by omega) ?_
        refine z_iconst C (nI 1) dL_settles_318 (by decide) ?_
        exact z_zret C N dL_settles_319 rfl (rfl) (rfl)
    · refine z_iconst C (nI 1) dL_settles_163 (by decide) ?_
      refine z_goto C 168 dL_settles_164 (by decide) ?_
      refine z_istore C dL_settles_168 (Nat.le_of_ble_eq_true rfl) ?_
      refine z_lv (lv' := [some (.ref x0), some (.int g), some (.int (nI 0)), some (.int (nI (mK S))), some (.int (nI x)), some (.int (nI (kN S x))), some (.int (nI 0)), some (.int (nI (cnS S 2))), some (.int (nI (cnS S 1))), some (.int (nI (cnS S 3))), some (.int (eP (lP S 0 x))), some (.int (eP (lP S 1 x))), some (.int (nI (kN S x / 2))), some (.int (nI 1)), none, none, none, none, none, none, none]) rfl ?_
      refine z_iload C dL_settles_170 rfl ?_
      refine z_iconst C (nI 4) dL_settles_172 (by decide) ?_
      refine z_ncmp_ne_t C 180 dL_settles_173 (by decide) (by omega) (by omega) (by omega) ?_
      have fd_12 : kN S x / 2 < 2 := by omega
      refine z_aload_n C 0 dL_settles_180 rfl rfl ?_
      refine z_iconst C (nI 0) dL_settles_181 (by decide) ?_
      refine z_iload C dL_settles_182 rfl ?_
      refine z_callVr C kX5_size gL_settles_X5_size (l_size0 X.2.1 x0 h0 w0 t S (kN S x / 2) hG fd_12) dL_settles_184 [0, 1, 2, 3, 4, 5, 6, 7, 8] [] 0 rfl nd_0_1_2_3_4_5_6_7_8 rfl rfl rfl (by decide) (by decide) (Nat.le_of_ble_eq_true rfl) rfl ?_
      refine z_istore C dL_settles_187 (Nat.le_of_ble_eq_true rfl) ?_
      refine z_lv (lv' := [some (.ref x0), some (.int g), some (.int (nI 0)), some (.int (nI (mK S))), some (.int (nI x)), some (.int (nI (kN S x))), some (.int (nI 0)), some (.int (nI (cnS S 2))), some (.int (nI (cnS S 1))), some (.int (nI (cnS S 3))), some (.int (eP (lP S 0 x))), some (.int (eP (lP S 1 x))), some (.int (nI (kN S x / 2))), some (.int (nI 1)), some (.int (nI (uU S (kN S x / 2)))), none, none, none, none, none, none]) rfl ?_
      refine z_aload_n C 0 dL_settles_189 rfl rfl ?_
      refine z_iload C dL_settles_190 rfl ?_
      refine z_iconst C (nI 5) dL_settles_192 (by decide) ?_
      refine z_callVr C kX5_change gL_settles_X5_change (l_chg5n X.2.1 x0 h0 w0 t S x hG hx (by omega)) dL_settles_193 [0, 1, 2, 3, 4, 5, 6, 7, 8] [] 0 rfl nd_0_1_2_3_4_5_6_7_8 rfl rfl rfl (by decide) (by decide) (Nat.le_of_ble_eq_true rfl) rfl ?_
      refine z_istore C dL_settles_196 (Nat.le_of_ble_eq_true rfl) ?_
      refine z_lv (lv' := [some (.ref x0), some (.int g), some (.int (nI 0)), some (.int (nI (mK S))), some (.int (nI x)), some (.int (nI (kN S x))), some (.int (nI 0)), some (.int (nI (cnS S 2))), some (.int (nI (cnS S 1))), some (.int (nI (cnS S 3))), some (.int (eP (lP S 0 x))), some (.int (eP (lP S 1 x))), some (.int (nI (kN S x / 2))), some (.int (nI 1)), some (.int (nI (uU S (kN S x / 2)))), some (.int (-5)), none, none, none, none, none]) rfl ?_
      refine z_iload C dL_settles_198 rfl ?_
      refine z_iconst C (nI 4) dL_settles_200 (by decide) ?_
      refine z_ncmp_eq_f C 209 dL_settles_201 (by decide) (by omega) (by omega) (by omega) ?_
      refine z_iload C dL_settles_204 rfl ?_
      refine z_nif_ne_f C 213 dL_settles_206 (by decide) (by omega) (by omega) ?_
      refine z_iconst C (nI 0) dL_settles_209 (by decide) ?_
      refine z_goto C 232 dL_settles_210 (by decide) ?_
      refine z_istore C dL_settles_232 (Nat.le_of_ble_eq_true rfl) ?_
      refine z_lv (lv' := [some (.ref x0), some (.int g), some (.int (nI 0)), some (.int (nI (mK S))), some (.int (nI x)), some (.int (nI (kN S x))), some (.int (nI 0)), some (.int (nI (cnS S 2))), some (.int (nI (cnS S 1))), some (.int (nI (cnS S 3))), some (.int (eP (lP S 0 x))), some (.int (eP (lP S 1 x))), some (.int (nI (kN S x / 2))), some (.int (nI 1)), some (.int (nI (uU S (kN S x / 2)))), some (.int (-5)), some (.int (nI 0)), none, none, none, none]) rfl ?_
      refine z_iload C dL_settles_234 rfl ?_
      refine z_nif_ne_f C 244 dL_settles_236 (by decide) (by omega) (by omega) ?_
      refine z_bipush C (-4) dL_settles_239 (by decide) ?_
      refine z_goto C 263 dL_settles_241 (by decide) ?_
      refine z_istore C dL_settles_263 (Nat.le_of_ble_eq_true rfl) ?_
      refine z_lv (lv' := [some (.ref x0), some (.int g), some (.int (nI 0)), some (.int (nI (mK S))), some (.int (nI x)), some (.int (nI (kN S x))), some (.int (nI 0)), some (.int (nI (cnS S 2))), some (.int (nI (cnS S 1))), some (.int (nI (cnS S 3))), some (.int (eP (lP S 0 x))), some (.int (eP (lP S 1 x))), some (.int (nI (kN S x / 2))), some (.int (nI 1)), some (.int (nI (uU S (kN S x / 2)))), some (.int (-5)), some (.int (nI 0)), some (.int (-4)), none, none, none]) rfl ?_
      refine z_iload_n C 2 dL_settles_265 rfl rfl ?_
      refine z_nif_eq_t C 278 dL_settles_266 (by decide) (by omega) (by omega) ?_
      refine z_aload_n C 0 dL_settles_278 rfl rfl ?_
      refine z_iload C dL_settles_279 rfl ?_
      refine z_callV (wn := (WRd X.2.1 x0 h0 h1 w0 w1 t r S o1 kp1 Q1 tx ln ps)) C kX5_reject gL_settles_X5_reject m1 dL_settles_281 [0, 1, 2, 3, 4, 5, 6, 7, 8, 9, 10, 11, 12, 13, 14, 15, 16, 17, 18, 19, 20, 21, 22, 23, 24, 25, 26, 27, 28, 29, 30, 31, 32, 33, 34, 35, 36, 37, 38, 39, 40, 41, 42, 43, 44, 45, 46, 47, 48, 49, 50] [] 0 rfl rfl nd_0_1_2_3_4_5_6_7_8_9_10_11_12_13_14_15_16_17_18_19_20_21_22_23_24_25_26_27_28_29_30_31_32_33_34_35_36_37_38_39_40_41_42_43_44_45_46_47_48_49_50 rfl rfl rfl (by decide) (by decide) (Nat.le_of_ble_eq_true rfl) rfl ((zput_par nd_0_1_2_3_4_5_6_7_8_9_10_11_12_13_14_15_16_17_18_19_20_21_22_23_24_25_26_27_28_29_30_31_32_33_34_35_36_37_38_39_40_41_42_43_44_45_46_47_48_49_50 rfl).trans rfl) ?_
      refine z_istore C dL_settles_284 (Nat.le_of_ble_eq_true rfl) ?_
      refine z_lv (lv' := [some (.ref x0), some (.int g), some (.int (nI 0)), some (.int (nI (mK S))), some (.int (nI x)), some (.int (nI (kN S x))), some (.int (nI 0)), some (.int (nI (cnS S 2))), some (.int (nI (cnS S 1))), some (.int (nI (cnS S 3))), some (.int (eP (lP S 0 x))), some (.int (eP (lP S 1 x))), some (.int (nI (kN S x / 2))), some (.int (nI 1)), some (.int (nI (uU S (kN S x / 2)))), some (.int (-5)), some (.int (nI 0)), some (.int (-4)), some (.int (-4)), none, none]) rfl ?_
      refine z_iload C dL_settles_286 rfl ?_
      refine z_iload C dL_settles_288 rfl ?_
      refine z_icmp_ne_f C 311 dL_settles_290 (by decide) rfl ?_
      refine z_aload_n C 0 dL_settles_293 rfl rfl ?_
      refine z_iload_n C 2 dL_settles_294 rfl rfl ?_
      refine z_nif_eq_t C 302 dL_settles_295 (by decide) (by omega) (by omega) ?_
      refine z_iconst C (nI 2) dL_settles_302 (by decide) ?_
      refine z_callVr C kX5_count gL_settles_X5_count (l_cntK X.2.1 x0 h0 h1 w0 w1 t S o1 kp1 ln ps 1 hG (by decide)) dL_settles_303 [0, 1, 2, 3, 4, 5, 6, 7, 8, 9, 51] [] 0 rfl nd_0_1_2_3_4_5_6_7_8_9_51 rfl rfl rfl (by decide) (by decide) (Nat.le_of_ble_eq_true rfl) rfl ?_
      have hg_13 : cnS S 1 ≤ mK S := zc_le _ _
      refine z_iload C dL_settles_306 rfl ?_
      refine z_ncmp_eq_t C 313 dL_settles_308 (by decide) (by omega) (by omega) (by omega) ?_
      refine z_iload C dL_settles_313 rfl ?_
      refine z_nif_ne_f C 320 dL_settles_315 (by decide) (by omega) (by omega) ?_
      refine z_iconst C (nI 1) dL_settles_318 (by decide) ?_
      exact z_zret C N dL_settles_319 rfl (rfl) (rfl)

set_option maxHeartbeats 4000000 in
set_option maxRecDepth 100000 in
theorem w_stl00 (E : zE) (x0 h0 h1 w0 w1 : Nat) (t : Nat → Nat) (r : Nat → Nat → Nat) (S S1 : zSt) (o kp kp1 o1 : Nat) (Q Q1 : Nat → zSt) (tx : Nat → Nat) (ln : Nat) (ps : zPs) {B B1 : Nat} (g : Int32) (x P : Nat) (hG : GG S B) (hG1 : GG S1 B1) (hX : lw g (mK S) = x) (hx : x < mK S) (hk : kN S x = 0) (hs : sN S x = 0) (hp : P < uU S 0) (hl : lP S 0 x = P + 1) (hl0 : lP S 1 x = 0) (hm : mK S1 = mK S) (hct : cnS S1 2 = cnS S 2 + (1 + zc (dpt S x) (mK S))) (hco : cnS S1 1 = cnS S 1) (hc3 : cnS S1 3 = cnS S 3) (hs1 : sN S1 x = 2) (hu : uU S1 0 + 1 = uU S 0) (m1 : zM E yX5_reject wsX5_reject 6 [.ref x0, .int (nI x)] (WAd E x0 h0 h1 w0 t r S o kp Q) (WAd E x0 h0 h1 w0 t r S1 o1 kp1 Q1) (some (.int (nI (1 + zc (dpt S x) (mK S)))))) : zM E yL_settles wsL_settles 8 [.ref x0, .int g, .int (nI 0)] (WRd E x0 h0 h1 w0 w1 t r S o kp Q tx ln ps) (WRd E x0 h0 h1 w0 w1 t r S1 o1 kp1 Q1 tx ln ps) (some (.int (nI 1))) := by
  refine zM.of kL_settles (Nat.le_of_ble_eq_true rfl) rfl [some (.ref x0), some (.int g), some (.int (nI 0)), none, none, none, none, none, none, none, none, none, none, none, none, none, none, none, none, none, none] rfl (Nat.le_of_ble_eq_true rfl) ?_
  intro X eX C N
  subst eX
  have hb0 : uU S 0 ≤ 12 := gg_u hG 0
  have hb1 : uU S 1 ≤ 8 := gg_u1 hG
  have hb2 : mK S ≤ 60 := gg_M hG
  have hb3 : uU S1 0 ≤ 12 := gg_u hG1 0
  have hb4 : uU S1 1 ≤ 8 := gg_u1 hG1
  have hb5 : mK S1 ≤ 60 := gg_M hG1
  have hkx := (kN_e hG hx).2
  have hsx := (sN_e hG hx).2
  refine z_aload_n C 0 dL_settles_0 rfl rfl ?_
  refine z_iconst C (nI 0) dL_settles_1 (by decide) ?_
  refine z_callVr C kX5_count gL_settles_X5_count (l_cnt0 X.2.1 x0 h0 h1 w0 w1 t S o kp ln ps  hG ) dL_settles_2 [0, 1, 2, 3, 4, 5, 6, 7, 8, 9, 51] [] 0 rfl nd_0_1_2_3_4_5_6_7_8_9_51 rfl rfl rfl (by decide) (by decide) (Nat.le_of_ble_eq_true rfl) rfl ?_
  refine z_istore_n C 3 dL_settles_5 rfl (Nat.le_of_ble_eq_true rfl) ?_
  refine z_lv (lv' := [some (.ref x0), some (.int g), some (.int (nI 0)), some (.int (nI (mK S))), none, none, none, none, none, none, none, none, none, none, none, none, none, none, none, none, none]) rfl ?_
  refine z_iload_n C 3 dL_settles_6 rfl rfl ?_
  refine z_nif_ne_t C 34 dL_settles_7 (by decide) (by omega) (by omega) ?_
  refine z_iload_n C 1 dL_settles_34 rfl rfl ?_
  refine z_iload_n C 3 dL_settles_35 rfl rfl ?_
  refine z_callS C kL_low gL_settles_L_low (l_low X.2.1 g (mK S) (by omega) (by omega)) dL_settles_36 [] rfl (by decide) (by decide) (Nat.le_of_ble_eq_true rfl) rfl ?_
  refine z_top (y := nI x) (congrArg nI hX) ?_
  refine z_istore C dL_settles_39 (Nat.le_of_ble_eq_true rfl) ?_
  refine z_lv (lv' := [some (.ref x0), some (.int g), some (.int (nI 0)), some (.int (nI (mK S))), some (.int (nI x)), none, none, none, none, none, none, none, none, none, none, none, none, none, none, none, none]) rfl ?_
  refine z_aload_n C 0 dL_settles_41 rfl rfl ?_
  refine z_iload C dL_settles_42 rfl ?_
  refine z_iconst C (nI 0) dL_settles_44 (by decide) ?_
  refine z_callVr C kX5_change gL_settles_X5_change (l_chg0 X.2.1 x0 h0 w0 t S x hG hx) dL_settles_45 [0, 1, 2, 3, 4, 5, 6, 7, 8] [] 0 rfl nd_0_1_2_3_4_5_6_7_8 rfl rfl rfl (by decide) (by decide) (Nat.le_of_ble_eq_true rfl) rfl ?_
  refine z_istore C dL_settles_48 (Nat.le_of_ble_eq_true rfl) ?_
  refine z_lv (lv' := [some (.ref x0), some (.int g), some (.int (nI 0)), some (.int (nI (mK S))), some (.int (nI x)), some (.int (nI (kN S x))), none, none, none, none, none, none, none, none, none, none, none, none, none, none, none]) rfl ?_
  refine z_aload_n C 0 dL_settles_50 rfl rfl ?_
  refine z_iload C dL_settles_51 rfl ?_
  refine z_iconst C (nI 2) dL_settles_53 (by decide) ?_
  refine z_callVr C kX5_change gL_settles_X5_change (l_chg2 X.2.1 x0 h0 w0 t S x hG hx) dL_settles_54 [0, 1, 2, 3, 4, 5, 6, 7, 8] [] 0 rfl nd_0_1_2_3_4_5_6_7_8 rfl rfl rfl (by decide) (by decide) (Nat.le_of_ble_eq_true rfl) rfl ?_
  refine z_nif_ne_f C 64 dL_settles_57 (by decide) (by omega) (by omega) ?_
  refine z_iconst C (nI 1) dL_settles_60 (by decide) ?_
  refine z_goto C 65 dL_settles_61 (by decide) ?_
  refine z_istore C dL_settles_65 (Nat.le_of_ble_eq_true rfl) ?_
  refine z_lv (lv' := [some (.ref x0), some (.int g), some (.int (nI 0)), some (.int (nI (mK S))), some (.int (nI x)), some (.int (nI (kN S x))), some (.int (nI 1)), none, none, none, none, none, none, none, none, none, none, none, none, none, none]) rfl ?_
  refine z_aload_n C 0 dL_settles_67 rfl rfl ?_
  refine z_iload_n C 2 dL_settles_68 rfl rfl ?_
  refine z_nif_eq_t C 76 dL_settles_69 (by decide) (by omega) (by omega) ?_
  refine z_iconst C (nI 3) dL_settles_76 (by decide) ?_
  refine z_callVr C kX5_count gL_settles_X5_count (l_cntK X.2.1 x0 h0 h1 w0 w1 t S o kp ln ps 2 hG (by decide)) dL_settles_77 [0, 1, 2, 3, 4, 5, 6, 7, 8, 9, 51] [] 0 rfl nd_0_1_2_3_4_5_6_7_8_9_51 rfl rfl rfl (by decide) (by decide) (Nat.le_of_ble_eq_true rfl) rfl ?_
  have hg_1 : cnS S 2 ≤ mK S := zc_le _ _
  refine z_istore C dL_settles_80 (Nat.le_of_ble_eq_true rfl) ?_
  refine z_lv (lv' := [some (.ref x0), some (.int g), some (.int (nI 0)), some (.int (nI (mK S))), some (.int (nI x)), some (.int (nI (kN S x))), some (.int (nI 1)), some (.int (nI (cnS S 2))), none, none, none, none, none, none, none, none, none, none, none, none, none]) rfl ?_
  refine z_aload_n C 0 dL_settles_82 rfl rfl ?_
  refine z_iload_n C 2 dL_settles_83 rfl rfl ?_
  refine z_nif_eq_t C 91 dL_settles_84 (by decide) (by omega) (by omega) ?_
  refine z_iconst C (nI 2) dL_settles_91 (by decide) ?_
  refine z_callVr C kX5_count gL_settles_X5_count (l_cntK X.2.1 x0 h0 h1 w0 w1 t S o kp ln ps 1 hG (by decide)) dL_settles_92 [0, 1, 2, 3, 4, 5, 6, 7, 8, 9, 51] [] 0 rfl nd_0_1_2_3_4_5_6_7_8_9_51 rfl rfl rfl (by decide) (by decide) (Nat.le_of_ble_eq_true rfl) rfl ?_
  have hg_2 : cnS S 1 ≤ mK S := zc_le _ _
  refine z_istore C dL_settles_95 (Nat.le_of_ble_eq_true rfl) ?_
  refine z_lv (lv' := [some (.ref x0), some (.int g), some (.int (nI 0)), some (.int (nI (mK S))), some (.int (nI x)), some (.int (nI (kN S x))), some (.int (nI 1)), some (.int (nI (cnS S 2))), some (.int (nI (cnS S 1))), none, none, none, none, none, none, none, none, none, none, none, none]) rfl ?_
  refine z_aload_n C 0 dL_settles_97 rfl rfl ?_
  refine z_iconst C (nI 4) dL_settles_98 (by decide) ?_
  refine z_callVr C kX5_count gL_settles_X5_count (l_cntK X.2.1 x0 h0 h1 w0 w1 t S o kp ln ps 3 hG (by decide)) dL_settles_99 [0, 1, 2, 3, 4, 5, 6, 7, 8, 9, 51] [] 0 rfl nd_0_1_2_3_4_5_6_7_8_9_51 rfl rfl rfl (by decide) (by decide) (Nat.le_of_ble_eq_true rfl) rfl ?_
  have hg_3 : cnS S 3 ≤ mK S := zc_le _ _
  refine z_istore C dL_settles_102 (Nat.le_of_ble_eq_true rfl) ?_
  refine z_lv (lv' := [some (.ref x0), some (.int g), some (.int (nI 0)), some (.int (nI (mK S))), some (.int (nI x)), some (.int (nI (kN S x))), some (.int (nI 1)), some (.int (nI (cnS S 2))), some (.int (nI (cnS S 1))), some (.int (nI (cnS S 3))), none, none, none, none, none, none, none, none, none, none, none]) rfl ?_
  refine z_aload_n C 0 dL_settles_104 rfl rfl ?_
  refine z_iload C dL_settles_105 rfl ?_
  refine z_iconst C (nI 3) dL_settles_107 (by decide) ?_
  refine z_callVr C kX5_change gL_settles_X5_change (l_chg3y X.2.1 x0 h0 w0 t S x P hG hx hl) dL_settles_108 [0, 1, 2, 3, 4, 5, 6, 7, 8] [] 0 rfl nd_0_1_2_3_4_5_6_7_8 rfl rfl rfl (by decide) (by decide) (Nat.le_of_ble_eq_true rfl) rfl ?_
  refine z_istore C dL_settles_111 (Nat.le_of_ble_eq_true rfl) ?_
  refine z_lv (lv' := [some (.ref x0), some (.int g), some (.int (nI 0)), some (.int (nI (mK S))), some (.int (nI x)), some (.int (nI (kN S x))), some (.int (nI 1)), some (.int (nI (cnS S 2))), some (.int (nI (cnS S 1))), some (.int (nI (cnS S 3))), some (.int (nI P)), none, none, none, none, none, none, none, none, none, none]) rfl ?_
  refine z_aload_n C 0 dL_settles_113 rfl rfl ?_
  refine z_iload C dL_settles_114 rfl ?_
  refine z_iconst C (nI 4) dL_settles_116 (by decide) ?_
  refine z_callVr C kX5_change gL_settles_X5_change (l_chg4n X.2.1 x0 h0 w0 t S x hG hx hl0) dL_settles_117 [0, 1, 2, 3, 4, 5, 6, 7, 8] [] 0 rfl nd_0_1_2_3_4_5_6_7_8 rfl rfl rfl (by decide) (by decide) (Nat.le_of_ble_eq_true rfl) rfl ?_
  refine z_istore C dL_settles_120 (Nat.le_of_ble_eq_true rfl) ?_
  refine z_lv (lv' := [some (.ref x0), some (.int g), some (.int (nI 0)), some (.int (nI (mK S))), some (.int (nI x)), some (.int (nI (kN S x))), some (.int (nI 1)), some (.int (nI (cnS S 2))), some (.int (nI (cnS S 1))), some (.int (nI (cnS S 3))), some (.int (nI P)), some (.int (-5)), none, none, none, none, none, none, none, none, none]) rfl ?_
  refine z_iload C dL_settles_122 rfl ?_
  refine z_iconst C (nI 2) dL_settles_124 (by decide) ?_
  refine z_idiv C dL_settles_125 (by decide) ?_
  refine z_top (y := nI 0) (by rw [hk]; decide) ?_
  refine z_istore C dL_settles_126 (Nat.le_of_ble_eq_true rfl) ?_
  refine z_lv (lv' := [some (.ref x0), some (.int g), some (.int (nI 0)), some (.int (nI (mK S))), some (.int (nI x)), some (.int (nI (kN S x))), some (.int (nI 1)), some (.int (nI (cnS S 2))), some (.int (nI (cnS S 1))), some (.int (nI (cnS S 3))), some (.int (nI P)), some (.int (-5)), some (.int (nI 0)), none, none, none, none, none, none, none, none]) rfl ?_
  refine z_iload_n C 2 dL_settles_128 rfl rfl ?_
  refine z_nif_eq_t C 152 dL_settles_129 (by decide) (by omega) (by omega) ?_
  refine z_iload C dL_settles_152 rfl ?_
  refine z_nif_eq_t C 163 dL_settles_154 (by decide) (by omega) (by omega) ?_
  refine z_iconst C (nI 1) dL_settles_163 (by decide) ?_
  refine z_goto C 168 dL_settles_164 (by decide) ?_
  refine z_istore C dL_settles_168 (Nat.le_of_ble_eq_true rfl) ?_
  refine z_lv (lv' := [some (.ref x0), some (.int g), some (.int (nI 0)), some (.int (nI (mK S))), some (.int (nI x)), some (.int (nI (kN S x))), some (.int (nI 1)), some (.int (nI (cnS S 2))), some (.int (nI (cnS S 1))), some (.int (nI (cnS S 3))), some (.int (nI P)), some (.int (-5)), some (.int (nI 0)), some (.int (nI 1)), none, none, none, none, none, none, none]) rfl ?_
  refine z_iload C dL_settles_170 rfl ?_
  refine z_iconst C (nI 4) dL_settles_172 (by decide) ?_
  refine z_ncmp_ne_t C 180 dL_settles_173 (by decide) (by omega) (by omega) (by omega) ?_
  refine z_aload_n C 0 dL_settles_180 rfl rfl ?_
  refine z_iconst C (nI 0) dL_settles_181 (by decide) ?_
  refine z_iload C dL_settles_182 rfl ?_
  refine z_callVr C kX5_size gL_settles_X5_size (l_size0 X.2.1 x0 h0 w0 t S 0 hG (by decide)) dL_settles_184 [0, 1, 2, 3, 4, 5, 6, 7, 8] [] 0 rfl nd_0_1_2_3_4_5_6_7_8 rfl rfl rfl (by decide) (by decide) (Nat.le_of_ble_eq_true rfl) rfl ?_
  refine z_istore C dL_settles_187 (Nat.le_of_ble_eq_true rfl) ?_
  refine z_lv (lv' := [some (.ref x0), some (.int g), some (.int (nI 0)), some (.int (nI (mK S))), some (.int (nI x)), some (.int (nI (kN S x))), some (.int (nI 1)), some (.int (nI (cnS S 2))), some (.int (nI (cnS S 1))), some (.int (nI (cnS S 3))), some (.int (nI P)), some (.int (-5)), some (.int (nI 0)), some (.int (nI 1)), some (.int (nI (uU S 0))), none, none, none, none, none, none]) rfl ?_
  refine z_aload_n C 0 dL_settles_189 rfl rfl ?_
  refine z_iload C dL_settles_190 rfl ?_
  refine z_iconst C (nI 5) dL_settles_192 (by decide) ?_
  refine z_callVr C kX5_change gL_settles_X5_change (l_chg5n X.2.1 x0 h0 w0 t S x hG hx (by omega)) dL_settles_193 [0, 1, 2, 3, 4, 5, 6, 7, 8] [] 0 rfl nd_0_1_2_3_4_5_6_7_8 rfl rfl rfl (by decide) (by decide) (Nat.le_of_ble_eq_true rfl) rfl ?_
  refine z_istore C dL_settles_196 (Nat.le_of_ble_eq_true rfl) ?_
  refine z_lv (lv' := [some (.ref x0), some (.int g), some (.int (nI 0)), some (.int (nI (mK S))), some (.int (nI x)), some (.int (nI (kN S x))), some (.int (nI 1)), some (.int (nI (cnS S 2))), some (.int (nI (cnS S 1))), some (.int (nI (cnS S 3))), some (.int (nI P)), some (.int (-5)), some (.int (nI 0)), some (.int (nI 1)), some (.int (nI (uU S 0))), some (.int (-5)), none, none, none, none, none]) rfl ?_
  refine z_iload C dL_settles_198 rfl ?_
  refine z_iconst C (nI 4) dL_settles_200 (by decide) ?_
  refine z_ncmp_eq_f C 209 dL_settles_201 (by decide) (by omega) (by omega) (by omega) ?_
  refine z_iload C dL_settles_204 rfl ?_
  refine z_nif_ne_t C 213 dL_settles_206 (by decide) (by omega) (by omega) ?_
  refine z_aload_n C 0 dL_settles_213 rfl rfl ?_
  refine z_iload C dL_settles_214 rfl ?_
  refine z_iload C dL_settles_216 rfl ?_
  refine z_nif_ne_f C 226 dL_settles_218 (by decide) (by omega) (by omega) ?_
  refine z_iload C dL_settles_221 rfl ?_
  refine z_goto C 228 dL_settles_223 (by decide) ?_
  refine z_iconst C (nI 4) dL_settles_228 (by decide) ?_
  refine z_callVr C kX5_line gL_settles_X5_line (l_line4 X.2.1 x0 h0 w0 t S 0 P hG (by decide) hp) dL_settles_229 [0, 1, 2, 3, 4, 5, 6, 7, 8] [] 0 rfl nd_0_1_2_3_4_5_6_7_8 rfl rfl rfl (by decide) (by decide) (Nat.le_of_ble_eq_true rfl) rfl ?_
  refine z_istore C dL_settles_232 (Nat.le_of_ble_eq_true rfl) ?_
  refine z_lv (lv' := [some (.ref x0), some (.int g), some (.int (nI 0)), some (.int (nI (mK S))), some (.int (nI x)), some (.int (nI (kN S x))), some (.int (nI 1)), some (.int (nI (cnS S 2))), some (.int (nI (cnS S 1))), some (.int (nI (cnS S 3))), some (.int (nI P)), some (.int (-5)), some (.int (nI 0)), some (.int (nI 1)), some (.int (nI (uU S 0))), some (.int (-5)), some (.int (nI (nSt S 0 P))), none, none, none, none]) rfl ?_
  refine z_iload C dL_settles_234 rfl ?_
  refine z_nif_ne_t C 244 dL_settles_236 (by decide) (by omega) (by omega) ?_
  refine z_iconst C (nI 1) dL_settles_244 (by decide) ?_
  refine z_aload_n C 0 dL_settles_245 rfl rfl ?_
  refine z_iload C dL_settles_246 rfl ?_
  refine z_iload_n C 2 dL_settles_248 rfl rfl ?_
  refine z_nif_eq_t C 257 dL_settles_249 (by decide) (by omega) (by omega) ?_
  refine z_bipush C (nI 8) dL_settles_257 (by decide) ?_
  refine z_callVr C kX5_change gL_settles_X5_change (l_chg8 X.2.1 x0 h0 w0 t S x hG hx) dL_settles_259 [0, 1, 2, 3, 4, 5, 6, 7, 8] [.int (nI 1)] 0 rfl nd_0_1_2_3_4_5_6_7_8 rfl rfl rfl (by decide) (by decide) (Nat.le_of_ble_eq_true rfl) rfl ?_
  have hg_4 : zc (dpt S x) (mK S) ≤ mK S := zc_le _ _
  refine z_iadd C dL_settles_262 ?_
  refine z_top (y := nI (1 + (zc (dpt S x) (mK S)))) (nI_add _ _) ?_
  refine z_istore C dL_settles_263 (Nat.le_of_ble_eq_true rfl) ?_
  refine z_lv (lv' := [some (.ref x0), some (.int g), some (.int (nI 0)), some (.int (nI (mK S))), some (.int (nI x)), some (.int (nI (kN S x))), some (.int (nI 1)), some (.int (nI (cnS S 2))), some (.int (nI (cnS S 1))), some (.int (nI (cnS S 3))), some (.int (nI P)), some (.int (-5)), some (.int (nI 0)), some (.int (nI 1)), some (.int (nI (uU S 0))), some (.int (-5)), some (.int (nI (nSt S 0 P))), some (.int (nI (1 + (zc (dpt S x) (mK S))))), none, none, none]) rfl ?_
  refine z_iload_n C 2 dL_settles_265 rfl rfl ?_
  refine z_nif_eq_t C 278 dL_settles_266 (by decide) (by omega) (by omega) ?_
  refine z_aload_n C 0 dL_settles_278 rfl rfl ?_
  refine z_iload C dL_settles_279 rfl ?_
  refine z_callV (wn := (WRd X.2.1 x0 h0 h1 w0 w1 t r S1 o1 kp1 Q1 tx ln ps)) C kX5_reject gL_settles_X5_reject m1 dL_settles_281 [0, 1, 2, 3, 4, 5, 6, 7, 8, 9, 10, 11, 12, 13, 14, 15, 16, 17, 18, 19, 20, 21, 22, 23, 24, 25, 26, 27, 28, 29, 30, 31, 32, 33, 34, 35, 36, 37, 38, 39, 40, 41, 42, 43, 44, 45, 46, 47, 48, 49, 50] [] 0 rfl rfl nd_0_1_2_3_4_5_6_7_8_9_10_11_12_13_14_15_16_17_18_19_20_21_22_23_24_25_26_27_28_29_30_31_32_33_34_35_36_37_38_39_40_41_42_43_44_45_46_47_48_49_50 rfl rfl rfl (by decide) (by decide) (Nat.le_of_ble_eq_true rfl) rfl ((zput_par nd_0_1_2_3_4_5_6_7_8_9_10_11_12_13_14_15_16_17_18_19_20_21_22_23_24_25_26_27_28_29_30_31_32_33_34_35_36_37_38_39_40_41_42_43_44_45_46_47_48_49_50 rfl).trans rfl) ?_
  refine z_istore C dL_settles_284 (Nat.le_of_ble_eq_true rfl) ?_
  refine z_lv (lv' := [some (.ref x0), some (.int g), some (.int (nI 0)), some (.int (nI (mK S))), some (.int (nI x)), some (.int (nI (kN S x))), some (.int (nI 1)), some (.int (nI (cnS S 2))), some (.int (nI (cnS S 1))), some (.int (nI (cnS S 3))), some (.int (nI P)), some (.int (-5)), some (.int (nI 0)), some (.int (nI 1)), some (.int (nI (uU S 0))), some (.int (-5)), some (.int (nI (nSt S 0 P))), some (.int (nI (1 + (zc (dpt S x) (mK S))))), some (.int (nI (1 + zc (dpt S x) (mK S)))), none, none]) rfl ?_
  refine z_iload C dL_settles_286 rfl ?_
  refine z_iload C dL_settles_288 rfl ?_
  refine z_ncmp_ne_f C 311 dL_settles_290 (by decide) (by omega) (by omega) (by omega) ?_
  refine z_aload_n C 0 dL_settles_293 rfl rfl ?_
  refine z_iload_n C 2 dL_settles_294 rfl rfl ?_
  refine z_nif_eq_t C 302 dL_settles_295 (by decide) (by omega) (by omega) ?_
  refine z_iconst C (nI 2) dL_settles_302 (by decide) ?_
  refine z_callVr C kX5_count gL_settles_X5_count (l_cntK X.2.1 x0 h0 h1 w0 w1 t S1 o1 kp1 ln ps 1 hG1 (by decide)) dL_settles_303 [0, 1, 2, 3, 4, 5, 6, 7, 8, 9, 51] [] 0 rfl nd_0_1_2_3_4_5_6_7_8_9_51 rfl rfl rfl (by decide) (by decide) (Nat.le_of_ble_eq_true rfl) rfl ?_
  have hg_5 : cnS S1 1 ≤ mK S1 := zc_le _ _
  refine z_iload C dL_settles_306 rfl ?_
  refine z_ncmp_eq_t C 313 dL_settles_308 (by decide) (by omega) (by omega) (by omega) ?_
  refine z_iload C dL_settles_313 rfl ?_
  refine z_nif_ne_t C 320 dL_settles_315 (by decide) (by omega) (by omega) ?_
  refine z_iload_n C 2 dL_settles_320 rfl rfl ?_
  refine z_nif_eq_t C 333 dL_settles_321 (by decide) (by omega) (by omega) ?_
  refine z_iconst C (nI 0) dL_settles_333 (by decide) ?_
  refine z_istore C dL_settles_334 (Nat.le_of_ble_eq_true rfl) ?_
  refine z_lv (lv' := [some (.ref x0), some (.int g), some (.int (nI 0)), some (.int (nI (mK S))), some (.int (nI x)), some (.int (nI (kN S x))), some (.int (nI 1)), some (.int (nI (cnS S 2))), some (.int (nI (cnS S 1))), some (.int (nI (cnS S 3))), some (.int (nI P)), some (.int (-5)), some (.int (nI 0)), some (.int (nI 1)), some (.int (nI (uU S 0))), some (.int (-5)), some (.int (nI (nSt S 0 P))), some (.int (nI (1 + (zc (dpt S x) (mK S))))), some (.int (nI (1 + zc (dpt S x) (mK S)))), some (.int (nI 0)), none]) rfl ?_
  refine z_aload_n C 0 dL_settles_336 rfl rfl ?_
  refine z_iload_n C 2 dL_settles_337 rfl rfl ?_
  refine z_nif_eq_t C 345 dL_settles_338 (by decide) (by omega) (by omega) ?_
  refine z_iconst C (nI 3) dL_settles_345 (by decide) ?_
  refine z_callVr C kX5_count gL_settles_X5_count (l_cntK X.2.1 x0 h0 h1 w0 w1 t S1 o1 kp1 ln ps 2 hG1 (by decide)) dL_settles_346 [0, 1, 2, 3, 4, 5, 6, 7, 8, 9, 51] [] 0 rfl nd_0_1_2_3_4_5_6_7_8_9_51 rfl rfl rfl (by decide) (by decide) (Nat.le_of_ble_eq_true rfl) rfl ?_
  have hg_6 : cnS S1 2 ≤ mK S1 := zc_le _ _
  refine z_iload C dL_settles_349 rfl ?_
  refine z_iload C dL_settles_351 rfl ?_
  refine z_iadd C dL_settles_353 ?_
  refine z_top (y := nI ((cnS S 2) + (1 + (zc (dpt S x) (mK S))))) (nI_add _ _) ?_
  refine z_ncmp_ne_f C 402 dL_settles_354 (by decide) (by omega) (by omega) (by omega) ?_
  refine z_aload_n C 0 dL_settles_357 rfl rfl ?_
  refine z_iconst C (nI 4) dL_settles_358 (by decide) ?_
  refine z_callVr C kX5_count gL_settles_X5_count (l_cntK X.2.1 x0 h0 h1 w0 w1 t S1 o1 kp1 ln ps 3 hG1 (by decide)) dL_settles_359 [0, 1, 2, 3, 4, 5, 6, 7, 8, 9, 51] [] 0 rfl nd_0_1_2_3_4_5_6_7_8_9_51 rfl rfl rfl (by decide) (by decide) (Nat.le_of_ble_eq_true rfl) rfl ?_
  have hg_7 : cnS S1 3 ≤ mK S1 := zc_le _ _
  refine z_iload C dL_settles_362 rfl ?_
  refine z_iload C dL_settles_364 rfl ?_
  refine z_nif_eq_t C 374 dL_settles_366 (by decide) (by omega) (by omega) ?_
  refine z_iconst C (nI 0) dL_settles_374 (by decide) ?_
  refine z_iadd C dL_settles_375 ?_
  refine z_top (y := nI (cnS S 3)) (nI_add _ _) ?_
  refine z_ncmp_ne_f C 402 dL_settles_376 (by decide) (by omega) (by omega) (by omega) ?_
  refine z_aload_n C 0 dL_settles_379 rfl rfl ?_
  refine z_iload C dL_settles_380 rfl ?_
  refine z_iconst C (nI 2) dL_settles_382 (by decide) ?_
  refine z_callVr C kX5_change gL_settles_X5_change (l_chg2 X.2.1 x0 h0 w0 t S1 x hG1 (by omega)) dL_settles_383 [0, 1, 2, 3, 4, 5, 6, 7, 8] [] 0 rfl nd_0_1_2_3_4_5_6_7_8 rfl rfl rfl (by decide) (by decide) (Nat.le_of_ble_eq_true rfl) rfl ?_
  refine z_iload_n C 2 dL_settles_386 rfl rfl ?_
  refine z_nif_eq_t C 394 dL_settles_387 (by decide) (by omega) (by omega) ?_
  refine z_iconst C (nI 2) dL_settles_394 (by decide) ?_
  refine z_ncmp_ne_f C 402 dL_settles_395 (by decide) (by omega) (by omega) (by omega) ?_
  refine z_iconst C (nI 1) dL_settles_398 (by decide) ?_
  refine z_goto C 403 dL_settles_399 (by decide) ?_
  refine z_istore C dL_settles_403 (Nat.le_of_ble_eq_true rfl) ?_
  refine z_lv (lv' := [some (.ref x0), some (.int g), some (.int (nI 0)), some (.int (nI (mK S))), some (.int (nI x)), some (.int (nI (kN S x))), some (.int (nI 1)), some (.int (nI (cnS S 2))), some (.int (nI (cnS S 1))), some (.int (nI (cnS S 3))), some (.int (nI P)), some (.int (-5)), some (.int (nI 0)), some (.int (nI 1)), some (.int (nI (uU S 0))), some (.int (-5)), some (.int (nI (nSt S 0 P))), some (.int (nI (1 + (zc (dpt S x) (mK S))))), some (.int (nI (1 + zc (dpt S x) (mK S)))), some (.int (nI 0)), some (.int (nI 1))]) rfl ?_
  refine z_iload C dL_settles_405 rfl ?_
  refine z_iconst C (nI 4) dL_settles_407 (by decide) ?_
  refine z_ncmp_ne_t C 496 dL_settles_408 (by decide) (by omega) (by omega) (by omega) ?_
  refine z_iload C dL_settles_496 rfl ?_
  refine z_nif_eq_f C 528 dL_settles_498 (by decide) (by omega) (by omega) ?_
  refine z_aload_n C 0 dL_settles_501 rfl rfl ?_
  refine z_iconst C (nI 0) dL_settles_502 (by decide) ?_
  refine z_iload C dL_settles_503 rfl ?_
  refine z_callVr C kX5_size gL_settles_X5_size (l_size0 X.2.1 x0 h0 w0 t S1 0 hG1 (by decide)) dL_settles_505 [0, 1, 2, 3, 4, 5, 6, 7, 8] [] 0 rfl nd_0_1_2_3_4_5_6_7_8 rfl rfl rfl (by decide) (by decide) (Nat.le_of_ble_eq_true rfl) rfl ?_
  refine z_iload C dL_settles_508 rfl ?_
  refine z_iload C dL_settles_510 rfl ?_
  refine z_nif_eq_f C 519 dL_settles_512 (by decide) (by omega) (by omega) ?_
  refine z_iconst C (nI 1) dL_settles_515 (by decide) ?_
  refine z_goto C 520 dL_settles_516 (by decide) ?_
  refine z_isub C dL_settles_520 ?_
  refine z_top (y := nI ((uU S 0) - 1)) ((pk_sub (by omega)).trans (congrArg nI (by omega))) ?_
  refine z_ncmp_ne_f C 528 dL_settles_521 (by decide) (by omega) (by omega) (by omega) ?_
  refine z_iconst C (nI 1) dL_settles_524 (by decide) ?_
  refine z_goto C 529 dL_settles_525 (by decide) ?_
  exact z_zret C N dL_settles_529 rfl (rfl) (rfl)

set_option maxHeartbeats 4000000 in
set_option maxRecDepth 100000 in
theorem w_stl01 (E : zE) (x0 h0 h1 w0 w1 : Nat) (t : Nat → Nat) (r : Nat → Nat → Nat) (S S1 : zSt) (o kp kp1 o1 : Nat) (Q Q1 : Nat → zSt) (tx : Nat → Nat) (ln : Nat) (ps : zPs) {B B1 : Nat} (g : Int32) (x P : Nat) (hG : GG S B) (hG1 : GG S1 B1) (hX : lw g (mK S) = x) (hx : x < mK S) (hk : kN S x = 1) (hs : sN S x = 0) (hp : P < uU S 0) (hl : lP S 0 x = P + 1) (hl0 : lP S 1 x = 0) (hm : mK S1 = mK S) (hct : cnS S1 2 = cnS S 2 + (1 + zc (dpt S x) (mK S))) (hco : cnS S1 1 = cnS S 1) (hc3 : cnS S1 3 = cnS S 3) (hs1 : sN S1 x = 2) (hu : uU S1 0 = uU S 0) (m1 : zM E yX5_reject wsX5_reject 6 [.ref x0, .int (nI x)] (WAd E x0 h0 h1 w0 t r S o kp Q) (WAd E x0 h0 h1 w0 t r S1 o1 kp1 Q1) (some (.int (nI (1 + zc (dpt S x) (mK S)))))) : zM E yL_settles wsL_settles 8 [.ref x0, .int g, .int (nI 0)] (WRd E x0 h0 h1 w0 w1 t r S o kp Q tx ln ps) (WRd E x0 h0 h1 w0 w1 t r S1 o1 kp1 Q1 tx ln ps) (some (.int (nI 1))) := by
  refine zM.of kL_settles (Nat.le_of_ble_eq_true rfl) rfl [some (.ref x0), some (.int g), some (.int (nI 0)), none, none, none, none, none, none, none, none, none, none, none, none, none, none, none, none, none, none] rfl (Nat.le_of_ble_eq_true rfl) ?_
  intro X eX C N
  subst eX
  have hb0 : uU S 0 ≤ 12 := gg_u hG 0
  have hb1 : uU S 1 ≤ 8 := gg_u1 hG
  have hb2 : mK S ≤ 60 := gg_M hG
  have hb3 : uU S1 0 ≤ 12 := gg_u hG1 0
  have hb4 : uU S1 1 ≤ 8 := gg_u1 hG1
  have hb5 : mK S1 ≤ 60 := gg_M hG1
  have hkx := (kN_e hG hx).2
  have hsx := (sN_e hG hx).2
  refine z_aload_n C 0 dL_settles_0 rfl rfl ?_
  refine z_iconst C (nI 0) dL_settles_1 (by decide) ?_
  refine z_callVr C kX5_count gL_settles_X5_count (l_cnt0 X.2.1 x0 h0 h1 w0 w1 t S o kp ln ps  hG ) dL_settles_2 [0, 1, 2, 3, 4, 5, 6, 7, 8, 9, 51] [] 0 rfl nd_0_1_2_3_4_5_6_7_8_9_51 rfl rfl rfl (by decide) (by decide) (Nat.le_of_ble_eq_true rfl) rfl ?_
  refine z_istore_n C 3 dL_settles_5 rfl (Nat.le_of_ble_eq_true rfl) ?_
  refine z_lv (lv' := [some (.ref x0), some (.int g), some (.int (nI 0)), some (.int (nI (mK S))), none, none, none, none, none, none, none, none, none, none, none, none, none, none, none, none, none]) rfl ?_
  refine z_iload_n C 3 dL_settles_6 rfl rfl ?_
  refine z_nif_ne_t C 34 dL_settles_7 (by decide) (by omega) (by omega) ?_
  refine z_iload_n C 1 dL_settles_34 rfl rfl ?_
  refine z_iload_n C 3 dL_settles_35 rfl rfl ?_
  refine z_callS C kL_low gL_settles_L_low (l_low X.2.1 g (mK S) (by omega) (by omega)) dL_settles_36 [] rfl (by decide) (by decide) (Nat.le_of_ble_eq_true rfl) rfl ?_
  refine z_top (y := nI x) (congrArg nI hX) ?_
  refine z_istore C dL_settles_39 (Nat.le_of_ble_eq_true rfl) ?_
  refine z_lv (lv' := [some (.ref x0), some (.int g), some (.int (nI 0)), some (.int (nI (mK S))), some (.int (nI x)), none, none, none, none, none, none, none, none, none, none, none, none, none, none, none, none]) rfl ?_
  refine z_aload_n C 0 dL_settles_41 rfl rfl ?_
  refine z_iload C dL_settles_42 rfl ?_
  refine z_iconst C (nI 0) dL_settles_44 (by decide) ?_
  refine z_callVr C kX5_change gL_settles_X5_change (l_chg0 X.2.1 x0 h0 w0 t S x hG hx) dL_settles_45 [0, 1, 2, 3, 4, 5, 6, 7, 8] [] 0 rfl nd_0_1_2_3_4_5_6_7_8 rfl rfl rfl (by decide) (by decide) (Nat.le_of_ble_eq_true rfl) rfl ?_
  refine z_istore C dL_settles_48 (Nat.le_of_ble_eq_true rfl) ?_
  refine z_lv (lv' := [some (.ref x0), some (.int g), some (.int (nI 0)), some (.int (nI (mK S))), some (.int (nI x)), some (.int (nI (kN S x))), none, none, none, none, none, none, none, none, none, none, none, none, none, none, none]) rfl ?_
  refine z_aload_n C 0 dL_settles_50 rfl rfl ?_
  refine z_iload C dL_settles_51 rfl ?_
  refine z_iconst C (nI 2) dL_settles_53 (by decide) ?_
  refine z_callVr C kX5_change gL_settles_X5_change (l_chg2 X.2.1 x0 h0 w0 t S x hG hx) dL_settles_54 [0, 1, 2, 3, 4, 5, 6, 7, 8] [] 0 rfl nd_0_1_2_3_4_5_6_7_8 rfl rfl rfl (by decide) (by decide) (Nat.le_of_ble_eq_true rfl) rfl ?_
  refine z_nif_ne_f C 64 dL_settles_57 (by decide) (by omega) (by omega) ?_
  refine z_iconst C (nI 1) dL_settles_60 (by decide) ?_
  refine z_goto C 65 dL_settles_61 (by decide) ?_
  refine z_istore C dL_settles_65 (Nat.le_of_ble_eq_true rfl) ?_
  refine z_lv (lv' := [some (.ref x0), some (.int g), some (.int (nI 0)), some (.int (nI (mK S))), some (.int (nI x)), some (.int (nI (kN S x))), some (.int (nI 1)), none, none, none, none, none, none, none, none, none, none, none, none, none, none]) rfl ?_
  refine z_aload_n C 0 dL_settles_67 rfl rfl ?_
  refine z_iload_n C 2 dL_settles_68 rfl rfl ?_
  refine z_nif_eq_t C 76 dL_settles_69 (by decide) (by omega) (by omega) ?_
  refine z_iconst C (nI 3) dL_settles_76 (by decide) ?_
  refine z_callVr C kX5_count gL_settles_X5_count (l_cntK X.2.1 x0 h0 h1 w0 w1 t S o kp ln ps 2 hG (by decide)) dL_settles_77 [0, 1, 2, 3, 4, 5, 6, 7, 8, 9, 51] [] 0 rfl nd_0_1_2_3_4_5_6_7_8_9_51 rfl rfl rfl (by decide) (by decide) (Nat.le_of_ble_eq_true rfl) rfl ?_
  have hg_1 : cnS S 2 ≤ mK S := zc_le _ _
  refine z_istore C dL_settles_80 (Nat.le_of_ble_eq_true rfl) ?_
  refine z_lv (lv' := [some (.ref x0), some (.int g), some (.int (nI 0)), some (.int (nI (mK S))), some (.int (nI x)), some (.int (nI (kN S x))), some (.int (nI 1)), some (.int (nI (cnS S 2))), none, none, none, none, none, none, none, none, none, none, none, none, none]) rfl ?_
  refine z_aload_n C 0 dL_settles_82 rfl rfl ?_
  refine z_iload_n C 2 dL_settles_83 rfl rfl ?_
  refine z_nif_eq_t C 91 dL_settles_84 (by decide) (by omega) (by omega) ?_
  refine z_iconst C (nI 2) dL_settles_91 (by decide) ?_
  refine z_callVr C kX5_count gL_settles_X5_count (l_cntK X.2.1 x0 h0 h1 w0 w1 t S o kp ln ps 1 hG (by decide)) dL_settles_92 [0, 1, 2, 3, 4, 5, 6, 7, 8, 9, 51] [] 0 rfl nd_0_1_2_3_4_5_6_7_8_9_51 rfl rfl rfl (by decide) (by decide) (Nat.le_of_ble_eq_true rfl) rfl ?_
  have hg_2 : cnS S 1 ≤ mK S := zc_le _ _
  refine z_istore C dL_settles_95 (Nat.le_of_ble_eq_true rfl) ?_
  refine z_lv (lv' := [some (.ref x0), some (.int g), some (.int (nI 0)), some (.int (nI (mK S))), some (.int (nI x)), some (.int (nI (kN S x))), some (.int (nI 1)), some (.int (nI (cnS S 2))), some (.int (nI (cnS S 1))), none, none, none, none, none, none, none, none, none, none, none, none]) rfl ?_
  refine z_aload_n C 0 dL_settles_97 rfl rfl ?_
  refine z_iconst C (nI 4) dL_settles_98 (by decide) ?_
  refine z_callVr C kX5_count gL_settles_X5_count (l_cntK X.2.1 x0 h0 h1 w0 w1 t S o kp ln ps 3 hG (by decide)) dL_settles_99 [0, 1, 2, 3, 4, 5, 6, 7, 8, 9, 51] [] 0 rfl nd_0_1_2_3_4_5_6_7_8_9_51 rfl rfl rfl (by decide) (by decide) (Nat.le_of_ble_eq_true rfl) rfl ?_
  have hg_3 : cnS S 3 ≤ mK S := zc_le _ _
  refine z_istore C dL_settles_102 (Nat.le_of_ble_eq_true rfl) ?_
  refine z_lv (lv' := [some (.ref x0), some (.int g), some (.int (nI 0)), some (.int (nI (mK S))), some (.int (nI x)), some (.int (nI (kN S x))), some (.int (nI 1)), some (.int (nI (cnS S 2))), some (.int (nI (cnS S 1))), some (.int (nI (cnS S 3))), none, none, none, none, none, none, none, none, none, none, none]) rfl ?_
  refine z_aload_n C 0 dL_settles_104 rfl rfl ?_
  refine z_iload C dL_settles_105 rfl ?_
  refine z_iconst C (nI 3) dL_settles_107 (by decide) ?_
  refine z_callVr C kX5_change gL_settles_X5_change (l_chg3y X.2.1 x0 h0 w0 t S x P hG hx hl) dL_settles_108 [0, 1, 2, 3, 4, 5, 6, 7, 8] [] 0 rfl nd_0_1_2_3_4_5_6_7_8 rfl rfl rfl (by decide) (by decide) (Nat.le_of_ble_eq_true rfl) rfl ?_
  refine z_istore C dL_settles_111 (Nat.le_of_ble_eq_true rfl) ?_
  refine z_lv (lv' := [some (.ref x0), some (.int g), some (.int (nI 0)), some (.int (nI (mK S))), some (.int (nI x)), some (.int (nI (kN S x))), some (.int (nI 1)), some (.int (nI (cnS S 2))), some (.int (nI (cnS S 1))), some (.int (nI (cnS S 3))), some (.int (nI P)), none, none, none, none, none, none, none, none, none, none]) rfl ?_
  refine z_aload_n C 0 dL_settles_113 rfl rfl ?_
  refine z_iload C dL_settles_114 rfl ?_
  refine z_iconst C (nI 4) dL_settles_116 (by decide) ?_
  refine z_callVr C kX5_change gL_settles_X5_change (l_chg4n X.2.1 x0 h0 w0 t S x hG hx hl0) dL_settles_117 [0, 1, 2, 3, 4, 5, 6, 7, 8] [] 0 rfl nd_0_1_2_3_4_5_6_7_8 rfl rfl rfl (by decide) (by decide) (Nat.le_of_ble_eq_true rfl) rfl ?_
  refine z_istore C dL_settles_120 (Nat.le_of_ble_eq_true rfl) ?_
  refine z_lv (lv' := [some (.ref x0), some (.int g), some (.int (nI 0)), some (.int (nI (mK S))), some (.int (nI x)), some (.int (nI (kN S x))), some (.int (nI 1)), some (.int (nI (cnS S 2))), some (.int (nI (cnS S 1))), some (.int (nI (cnS S 3))), some (.int (nI P)), some (.int (-5)), none, none, none, none, none, none, none, none, none]) rfl ?_
  refine z_iload C dL_settles_122 rfl ?_
  refine z_iconst C (nI 2) dL_settles_124 (by decide) ?_
  refine z_idiv C dL_settles_125 (by decide) ?_
  refine z_top (y := nI 0) (by rw [hk]; decide) ?_
  refine z_istore C dL_settles_126 (Nat.le_of_ble_eq_true rfl) ?_
  refine z_lv (lv' := [some (.ref x0), some (.int g), some (.int (nI 0)), some (.int (nI (mK S))), some (.int (nI x)), some (.int (nI (kN S x))), some (.int (nI 1)), some (.int (nI (cnS S 2))), some (.int (nI (cnS S 1))), some (.int (nI (cnS S 3))), some (.int (nI P)), some (.int (-5)), some (.int (nI 0)), none, none, none, none, none, none, none, none]) rfl ?_
  refine z_iload_n C 2 dL_settles_128 rfl rfl ?_
  refine z_nif_eq_t C 152 dL_settles_129 (by decide) (by omega) (by omega) ?_
  refine z_iload C dL_settles_152 rfl ?_
  refine z_nif_eq_f C 163 dL_settles_154 (by decide) (by omega) (by omega) ?_
  refine z_iload C dL_settles_157 rfl ?_
  refine z_iconst C (nI 2) dL_settles_159 (by decide) ?_
  refine z_ncmp_ne_t C 167 dL_settles_160 (by decide) (by omega) (by omega) (by omega) ?_
  refine z_iconst C (nI 0) dL_settles_167 (by decide) ?_
  refine z_istore C dL_settles_168 (Nat.le_of_ble_eq_true rfl) ?_
  refine z_lv (lv' := [some (.ref x0), some (.int g), some (.int (nI 0)), some (.int (nI (mK S))), some (.int (nI x)), some (.int (nI (kN S x))), some (.int (nI 1)), some (.int (nI (cnS S 2))), some (.int (nI (cnS S 1))), some (.int (nI (cnS S 3))), some (.int (nI P)), some (.int (-5)), some (.int (nI 0)), some (.int (nI 0)), none, none, none, none, none, none, none]) rfl ?_
  refine z_iload C dL_settles_170 rfl ?_
  refine z_iconst C (nI 4) dL_settles_172 (by decide) ?_
  refine z_ncmp_ne_t C 180 dL_settles_173 (by decide) (by omega) (by omega) (by omega) ?_
  refine z_aload_n C 0 dL_settles_180 rfl rfl ?_
  refine z_iconst C (nI 0) dL_settles_181 (by decide) ?_
  refine z_iload C dL_settles_182 rfl ?_
  refine z_callVr C kX5_size gL_settles_X5_size (l_size0 X.2.1 x0 h0 w0 t S 0 hG (by decide)) dL_settles_184 [0, 1, 2, 3, 4, 5, 6, 7, 8] [] 0 rfl nd_0_1_2_3_4_5_6_7_8 rfl rfl rfl (by decide) (by decide) (Nat.le_of_ble_eq_true rfl) rfl ?_
  refine z_istore C dL_settles_187 (Nat.le_of_ble_eq_true rfl) ?_
  refine z_lv (lv' := [some (.ref x0), some (.int g), some (.int (nI 0)), some (.int (nI (mK S))), some (.int (nI x)), some (.int (nI (kN S x))), some (.int (nI 1)), some (.int (nI (cnS S 2))), some (.int (nI (cnS S 1))), some (.int (nI (cnS S 3))), some (.int (nI P)), some (.int (-5)), some (.int (nI 0)), some (.int (nI 0)), some (.int (nI (uU S 0))), none, none, none, none, none, none]) rfl ?_
  refine z_aload_n C 0 dL_settles_189 rfl rfl ?_
  refine z_iload C dL_settles_190 rfl ?_
  refine z_iconst C (nI 5) dL_settles_192 (by decide) ?_
  refine z_callVr C kX5_change gL_settles_X5_change (l_chg5n X.2.1 x0 h0 w0 t S x hG hx (by omega)) dL_settles_193 [0, 1, 2, 3, 4, 5, 6, 7, 8] [] 0 rfl nd_0_1_2_3_4_5_6_7_8 rfl rfl rfl (by decide) (by decide) (Nat.le_of_ble_eq_true rfl) rfl ?_
  refine z_istore C dL_settles_196 (Nat.le_of_ble_eq_true rfl) ?_
  refine z_lv (lv' := [some (.ref x0), some (.int g), some (.int (nI 0)), some (.int (nI (mK S))), some (.int (nI x)), some (.int (nI (kN S x))), some (.int (nI 1)), some (.int (nI (cnS S 2))), some (.int (nI (cnS S 1))), some (.int (nI (cnS S 3))), some (.int (nI P)), some (.int (-5)), some (.int (nI 0)), some (.int (nI 0)), some (.int (nI (uU S 0))), some (.int (-5)), none, none, none, none, none]) rfl ?_
  refine z_iload C dL_settles_198 rfl ?_
  refine z_iconst C (nI 4) dL_settles_200 (by decide) ?_
  refine z_ncmp_eq_f C 209 dL_settles_201 (by decide) (by omega) (by omega) (by omega) ?_
  refine z_iload C dL_settles_204 rfl ?_
  refine z_nif_ne_t C 213 dL_settles_206 (by decide) (by omega) (by omega) ?_
  refine z_aload_n C 0 dL_settles_213 rfl rfl ?_
  refine z_iload C dL_settles_214 rfl ?_
  refine z_iload C dL_settles_216 rfl ?_
  refine z_nif_ne_f C 226 dL_settles_218 (by decide) (by omega) (by omega) ?_
  refine z_iload C dL_settles_221 rfl ?_
  refine z_goto C 228 dL_settles_223 (by decide) ?_
  refine z_iconst C (nI 4) dL_settles_228 (by decide) ?_
  refine z_callVr C kX5_line gL_settles_X5_line (l_line4 X.2.1 x0 h0 w0 t S 0 P hG (by decide) hp) dL_settles_229 [0, 1, 2, 3, 4, 5, 6, 7, 8] [] 0 rfl nd_0_1_2_3_4_5_6_7_8 rfl rfl rfl (by decide) (by decide) (Nat.le_of_ble_eq_true rfl) rfl ?_
  refine z_istore C dL_settles_232 (Nat.le_of_ble_eq_true rfl) ?_
  refine z_lv (lv' := [some (.ref x0), some (.int g), some (.int (nI 0)), some (.int (nI (mK S))), some (.int (nI x)), some (.int (nI (kN S x))), some (.int (nI 1)), some (.int (nI (cnS S 2))), some (.int (nI (cnS S 1))), some (.int (nI (cnS S 3))), some (.int (nI P)), some (.int (-5)), some (.int (nI 0)), some (.int (nI 0)), some (.int (nI (uU S 0))), some (.int (-5)), some (.int (nI (nSt S 0 P))), none, none, none, none]) rfl ?_
  refine z_iload C dL_settles_234 rfl ?_
  refine z_nif_ne_t C 244 dL_settles_236 (by decide) (by omega) (by omega) ?_
  refine z_iconst C (nI 1) dL_settles_244 (by decide) ?_
  refine z_aload_n C 0 dL_settles_245 rfl rfl ?_
  refine z_iload C dL_settles_246 rfl ?_
  refine z_iload_n C 2 dL_settles_248 rfl rfl ?_
  refine z_nif_eq_t C 257 dL_settles_249 (by decide) (by omega) (by omega) ?_
  refine z_bipush C (nI 8) dL_settles_257 (by decide) ?_
  refine z_callVr C kX5_change gL_settles_X5_change (l_chg8 X.2.1 x0 h0 w0 t S x hG hx) dL_settles_259 [0, 1, 2, 3, 4, 5, 6, 7, 8] [.int (nI 1)] 0 rfl nd_0_1_2_3_4_5_6_7_8 rfl rfl rfl (by decide) (by decide) (Nat.le_of_ble_eq_true rfl) rfl ?_
  have hg_4 : zc (dpt S x) (mK S) ≤ mK S := zc_le _ _
  refine z_iadd C dL_settles_262 ?_
  refine z_top (y := nI (1 + (zc (dpt S x) (mK S)))) (nI_add _ _) ?_
  refine z_istore C dL_settles_263 (Nat.le_of_ble_eq_true rfl) ?_
  refine z_lv (lv' := [some (.ref x0), some (.int g), some (.int (nI 0)), some (.int (nI (mK S))), some (.int (nI x)), some (.int (nI (kN S x))), some (.int (nI 1)), some (.int (nI (cnS S 2))), some (.int (nI (cnS S 1))), some (.int (nI (cnS S 3))), some (.int (nI P)), some (.int (-5)), some (.int (nI 0)), some (.int (nI 0)), some (.int (nI (uU S 0))), some (.int (-5)), some (.int (nI (nSt S 0 P))), some (.int (nI (1 + (zc (dpt S x) (mK S))))), none, none, none]) rfl ?_
  refine z_iload_n C 2 dL_settles_265 rfl rfl ?_
  refine z_nif_eq_t C 278 dL_settles_266 (by decide) (by omega) (by omega) ?_
  refine z_aload_n C 0 dL_settles_278 rfl rfl ?_
  refine z_iload C dL_settles_279 rfl ?_
  refine z_callV (wn := (WRd X.2.1 x0 h0 h1 w0 w1 t r S1 o1 kp1 Q1 tx ln ps)) C kX5_reject gL_settles_X5_reject m1 dL_settles_281 [0, 1, 2, 3, 4, 5, 6, 7, 8, 9, 10, 11, 12, 13, 14, 15, 16, 17, 18, 19, 20, 21, 22, 23, 24, 25, 26, 27, 28, 29, 30, 31, 32, 33, 34, 35, 36, 37, 38, 39, 40, 41, 42, 43, 44, 45, 46, 47, 48, 49, 50] [] 0 rfl rfl nd_0_1_2_3_4_5_6_7_8_9_10_11_12_13_14_15_16_17_18_19_20_21_22_23_24_25_26_27_28_29_30_31_32_33_34_35_36_37_38_39_40_41_42_43_44_45_46_47_48_49_50 rfl rfl rfl (by decide) (by decide) (Nat.le_of_ble_eq_true rfl) rfl ((zput_par nd_0_1_2_3_4_5_6_7_8_9_10_11_12_13_14_15_16_17_18_19_20_21_22_23_24_25_26_27_28_29_30_31_32_33_34_35_36_37_38_39_40_41_42_43_44_45_46_47_48_49_50 rfl).trans rfl) ?_
  refine z_istore C dL_settles_284 (Nat.le_of_ble_eq_true rfl) ?_
  refine z_lv (lv' := [some (.ref x0), some (.int g), some (.int (nI 0)), some (.int (nI (mK S))), some (.int (nI x)), some (.int (nI (kN S x))), some (.int (nI 1)), some (.int (nI (cnS S 2))), some (.int (nI (cnS S 1))), some (.int (nI (cnS S 3))), some (.int (nI P)), some (.int (-5)), some (.int (nI 0)), some (.int (nI 0)), some (.int (nI (uU S 0))), some (.int (-5)), some (.int (nI (nSt S 0 P))), some (.int (nI (1 + (zc (dpt S x) (mK S))))), some (.int (nI (1 + zc (dpt S x) (mK S)))), none, none]) rfl ?_
  refine z_iload C dL_settles_286 rfl ?_
  refine z_iload C dL_settles_288 rfl ?_
  refine z_ncmp_ne_f C 311 dL_settles_290 (by decide) (by omega) (by omega) (by omega) ?_
  refine z_aload_n C 0 dL_settles_293 rfl rfl ?_
  refine z_iload_n C 2 dL_settles_294 rfl rfl ?_
  refine z_nif_eq_t C 302 dL_settles_295 (by decide) (by omega) (by omega) ?_
  refine z_iconst C (nI 2) dL_settles_302 (by decide) ?_
  refine z_callVr C kX5_count gL_settles_X5_count (l_cntK X.2.1 x0 h0 h1 w0 w1 t S1 o1 kp1 ln ps 1 hG1 (by decide)) dL_settles_303 [0, 1, 2, 3, 4, 5, 6, 7, 8, 9, 51] [] 0 rfl nd_0_1_2_3_4_5_6_7_8_9_51 rfl rfl rfl (by decide) (by decide) (Nat.le_of_ble_eq_true rfl) rfl ?_
  have hg_5 : cnS S1 1 ≤ mK S1 := zc_le _ _
  refine z_iload C dL_settles_306 rfl ?_
  refine z_ncmp_eq_t C 313 dL_settles_308 (by decide) (by omega) (by omega) (by omega) ?_
  refine z_iload C dL_settles_313 rfl ?_
  refine z_nif_ne_t C 320 dL_settles_315 (by decide) (by omega) (by omega) ?_
  refine z_iload_n C 2 dL_settles_320 rfl rfl ?_
  refine z_nif_eq_t C 333 dL_settles_321 (by decide) (by omega) (by omega) ?_
  refine z_iconst C (nI 0) dL_settles_333 (by decide) ?_
  refine z_istore C dL_settles_334 (Nat.le_of_ble_eq_true rfl) ?_
  refine z_lv (lv' := [some (.ref x0), some (.int g), some (.int (nI 0)), some (.int (nI (mK S))), some (.int (nI x)), some (.int (nI (kN S x))), some (.int (nI 1)), some (.int (nI (cnS S 2))), some (.int (nI (cnS S 1))), some (.int (nI (cnS S 3))), some (.int (nI P)), some (.int (-5)), some (.int (nI 0)), some (.int (nI 0)), some (.int (nI (uU S 0))), some (.int (-5)), some (.int (nI (nSt S 0 P))), some (.int (nI (1 + (zc (dpt S x) (mK S))))), some (.int (nI (1 + zc (dpt S x) (mK S)))), some (.int (nI 0)), none]) rfl ?_
  refine z_aload_n C 0 dL_settles_336 rfl rfl ?_
  refine z_iload_n C 2 dL_settles_337 rfl rfl ?_
  refine z_nif_eq_t C 345 dL_settles_338 (by decide) (by omega) (by omega) ?_
  refine z_iconst C (nI 3) dL_settles_345 (by decide) ?_
  refine z_callVr C kX5_count gL_settles_X5_count (l_cntK X.2.1 x0 h0 h1 w0 w1 t S1 o1 kp1 ln ps 2 hG1 (by decide)) dL_settles_346 [0, 1, 2, 3, 4, 5, 6, 7, 8, 9, 51] [] 0 rfl nd_0_1_2_3_4_5_6_7_8_9_51 rfl rfl rfl (by decide) (by decide) (Nat.le_of_ble_eq_true rfl) rfl ?_
  have hg_6 : cnS S1 2 ≤ mK S1 := zc_le _ _
  refine z_iload C dL_settles_349 rfl ?_
  refine z_iload C dL_settles_351 rfl ?_
  refine z_iadd C dL_settles_353 ?_
  refine z_top (y := nI ((cnS S 2) + (1 + (zc (dpt S x) (mK S))))) (nI_add _ _) ?_
  refine z_ncmp_ne_f C 402 dL_settles_354 (by decide) (by omega) (by omega) (by omega) ?_
  refine z_aload_n C 0 dL_settles_357 rfl rfl ?_
  refine z_iconst C (nI 4) dL_settles_358 (by decide) ?_
  refine z_callVr C kX5_count gL_settles_X5_count (l_cntK X.2.1 x0 h0 h1 w0 w1 t S1 o1 kp1 ln ps 3 hG1 (by decide)) dL_settles_359 [0, 1, 2, 3, 4, 5, 6, 7, 8, 9, 51] [] 0 rfl nd_0_1_2_3_4_5_6_7_8_9_51 rfl rfl rfl (by decide) (by decide) (Nat.le_of_ble_eq_true rfl) rfl ?_
  have hg_7 : cnS S1 3 ≤ mK S1 := zc_le _ _
  refine z_iload C dL_settles_362 rfl ?_
  refine z_iload C dL_settles_364 rfl ?_
  refine z_nif_eq_t C 374 dL_settles_366 (by decide) (by omega) (by omega) ?_
  refine z_iconst C (nI 0) dL_settles_374 (by decide) ?_
  refine z_iadd C dL_settles_375 ?_
  refine z_top (y := nI (cnS S 3)) (nI_add _ _) ?_
  refine z_ncmp_ne_f C 402 dL_settles_376 (by decide) (by omega) (by omega) (by omega) ?_
  refine z_aload_n C 0 dL_settles_379 rfl rfl ?_
  refine z_iload C dL_settles_380 rfl ?_
  refine z_iconst C (nI 2) dL_settles_382 (by decide) ?_
  refine z_callVr C kX5_change gL_settles_X5_change (l_chg2 X.2.1 x0 h0 w0 t S1 x hG1 (by omega)) dL_settles_383 [0, 1, 2, 3, 4, 5, 6, 7, 8] [] 0 rfl nd_0_1_2_3_4_5_6_7_8 rfl rfl rfl (by decide) (by decide) (Nat.le_of_ble_eq_true rfl) rfl ?_
  refine z_iload_n C 2 dL_settles_386 rfl rfl ?_
  refine z_nif_eq_t C 394 dL_settles_387 (by decide) (by omega) (by omega) ?_
  refine z_iconst C (nI 2) dL_settles_394 (by decide) ?_
  refine z_ncmp_ne_f C 402 dL_settles_395 (by decide) (by omega) (by omega) (by omega) ?_
  refine z_iconst C (nI 1) dL_settles_398 (by decide) ?_
  refine z_goto C 403 dL_settles_399 (by decide) ?_
  refine z_istore C dL_settles_403 (Nat.le_of_ble_eq_true rfl) ?_
  refine z_lv (lv' := [some (.ref x0), some (.int g), some (.int (nI 0)), some (.int (nI (mK S))), some (.int (nI x)), some (.int (nI (kN S x))), some (.int (nI 1)), some (.int (nI (cnS S 2))), some (.int (nI (cnS S 1))), some (.int (nI (cnS S 3))), some (.int (nI P)), some (.int (-5)), some (.int (nI 0)), some (.int (nI 0)), some (.int (nI (uU S 0))), some (.int (-5)), some (.int (nI (nSt S 0 P))), some (.int (nI (1 + (zc (dpt S x) (mK S))))), some (.int (nI (1 + zc (dpt S x) (mK S)))), some (.int (nI 0)), some (.int (nI 1))]) rfl ?_
  refine z_iload C dL_settles_405 rfl ?_
  refine z_iconst C (nI 4) dL_settles_407 (by decide) ?_
  refine z_ncmp_ne_t C 496 dL_settles_408 (by decide) (by omega) (by omega) (by omega) ?_
  refine z_iload C dL_settles_496 rfl ?_
  refine z_nif_eq_f C 528 dL_settles_498 (by decide) (by omega) (by omega) ?_
  refine z_aload_n C 0 dL_settles_501 rfl rfl ?_
  refine z_iconst C (nI 0) dL_settles_502 (by decide) ?_
  refine z_iload C dL_settles_503 rfl ?_
  refine z_callVr C kX5_size gL_settles_X5_size (l_size0 X.2.1 x0 h0 w0 t S1 0 hG1 (by decide)) dL_settles_505 [0, 1, 2, 3, 4, 5, 6, 7, 8] [] 0 rfl nd_0_1_2_3_4_5_6_7_8 rfl rfl rfl (by decide) (by decide) (Nat.le_of_ble_eq_true rfl) rfl ?_
  refine z_iload C dL_settles_508 rfl ?_
  refine z_iload C dL_settles_510 rfl ?_
  refine z_nif_eq_t C 519 dL_settles_512 (by decide) (by omega) (by omega) ?_
  refine z_iconst C (nI 0) dL_settles_519 (by decide) ?_
  refine z_isub C dL_settles_520 ?_
  refine z_top (y := nI ((uU S 0) - 0)) ((pk_sub (by omega)).trans (congrArg nI (by omega))) ?_
  refine z_ncmp_ne_f C 528 dL_settles_521 (by decide) (by omega) (by omega) (by omega) ?_
  refine z_iconst C (nI 1) dL_settles_524 (by decide) ?_
  refine z_goto C 529 dL_settles_525 (by decide) ?_
  exact z_zret C N dL_settles_529 rfl (rfl) (rfl)

set_option maxHeartbeats 4000000 in
set_option maxRecDepth 100000 in
theorem w_stl02 (E : zE) (x0 h0 h1 w0 w1 : Nat) (t : Nat → Nat) (r : Nat → Nat → Nat) (S S1 : zSt) (o kp kp1 o1 : Nat) (Q Q1 : Nat → zSt) (tx : Nat → Nat) (ln : Nat) (ps : zPs) {B B1 : Nat} (g : Int32) (x P : Nat) (hG : GG S B) (hG1 : GG S1 B1) (hX : lw g (mK S) = x) (hx : x < mK S) (hk : kN S x = 2) (hs : sN S x = 0) (hp : P < uU S 1) (hl : lP S 1 x = P + 1) (hl0 : lP S 0 x = 0) (hm : mK S1 = mK S) (hct : cnS S1 2 = cnS S 2 + (1 + zc (dpt S x) (mK S))) (hco : cnS S1 1 = cnS S 1) (hc3 : cnS S1 3 = cnS S 3) (hs1 : sN S1 x = 2) (hu : uU S1 1 + 1 = uU S 1) (m1 : zM E yX5_reject wsX5_reject 6 [.ref x0, .int (nI x)] (WAd E x0 h0 h1 w0 t r S o kp Q) (WAd E x0 h0 h1 w0 t r S1 o1 kp1 Q1) (some (.int (nI (1 + zc (dpt S x) (mK S)))))) : zM E yL_settles wsL_settles 8 [.ref x0, .int g, .int (nI 0)] (WRd E x0 h0 h1 w0 w1 t r S o kp Q tx ln ps) (WRd E x0 h0 h1 w0 w1 t r S1 o1 kp1 Q1 tx ln ps) (some (.int (nI 1))) := by
  refine zM.of kL_settles (Nat.le_of_ble_eq_true rfl) rfl [some (.ref x0), some (.int g), some (.int (nI 0)), none, none, none, none, none, none, none, none, none, none, none, none, none, none, none, none, none, none] rfl (Nat.le_of_ble_eq_true rfl) ?_
  intro X eX C N
  subst eX
  have hb0 : uU S 0 ≤ 12 := gg_u hG 0
  have hb1 : uU S 1 ≤ 8 := gg_u1 hG
  have hb2 : mK S ≤ 60 := gg_M hG
  have hb3 : uU S1 0 ≤ 12 := gg_u hG1 0
  have hb4 : uU S1 1 ≤ 8 := gg_u1 hG1
  have hb5 : mK S1 ≤ 60 := gg_M hG1
  have hkx := (kN_e hG hx).2
  have hsx := (sN_e hG hx).2
  refine z_aload_n C 0 dL_settles_0 rfl rfl ?_
  refine z_iconst C (nI 0) dL_settles_1 (by decide) ?_
  refine z_callVr C kX5_count gL_settles_X5_count (l_cnt0 X.2.1 x0 h0 h1 w0 w1 t S o kp ln ps  hG ) dL_settles_2 [0, 1, 2, 3, 4, 5, 6, 7, 8, 9, 51] [] 0 rfl nd_0_1_2_3_4_5_6_7_8_9_51 rfl rfl rfl (by decide) (by decide) (Nat.le_of_ble_eq_true rfl) rfl ?_
  refine z_istore_n C 3 dL_settles_5 rfl (Nat.le_of_ble_eq_true rfl) ?_
  refine z_lv (lv' := [some (.ref x0), some (.int g), some (.int (nI 0)), some (.int (nI (mK S))), none, none, none, none, none, none, none, none, none, none, none, none, none, none, none, none, none]) rfl ?_
  refine z_iload_n C 3 dL_settles_6 rfl rfl ?_
  refine z_nif_ne_t C 34 dL_settles_7 (by decide) (by omega) (by omega) ?_
  refine z_iload_n C 1 dL_settles_34 rfl rfl ?_
  refine z_iload_n C 3 dL_settles_35 rfl rfl ?_
  refine z_callS C kL_low gL_settles_L_low (l_low X.2.1 g (mK S) (by omega) (by omega)) dL_settles_36 [] rfl (by decide) (by decide) (Nat.le_of_ble_eq_true rfl) rfl ?_
  refine z_top (y := nI x) (congrArg nI hX) ?_
  refine z_istore C dL_settles_39 (Nat.le_of_ble_eq_true rfl) ?_
  refine z_lv (lv' := [some (.ref x0), some (.int g), some (.int (nI 0)), some (.int (nI (mK S))), some (.int (nI x)), none, none, none, none, none, none, none, none, none, none, none, none, none, none, none, none]) rfl ?_
  refine z_aload_n C 0 dL_settles_41 rfl rfl ?_
  refine z_iload C dL_settles_42 rfl ?_
  refine z_iconst C (nI 0) dL_settles_44 (by decide) ?_
  refine z_callVr C kX5_change gL_settles_X5_change (l_chg0 X.2.1 x0 h0 w0 t S x hG hx) dL_settles_45 [0, 1, 2, 3, 4, 5, 6, 7, 8] [] 0 rfl nd_0_1_2_3_4_5_6_7_8 rfl rfl rfl (by decide) (by decide) (Nat.le_of_ble_eq_true rfl) rfl ?_
  refine z_istore C dL_settles_48 (Nat.le_of_ble_eq_true rfl) ?_
  refine z_lv (lv' := [some (.ref x0), some (.int g), some (.int (nI 0)), some (.int (nI (mK S))), some (.int (nI x)), some (.int (nI (kN S x))), none, none, none, none, none, none, none, none, none, none, none, none, none, none, none]) rfl ?_
  refine z_aload_n C 0 dL_settles_50 rfl rfl ?_
  refine z_iload C dL_settles_51 rfl ?_
  refine z_iconst C (nI 2) dL_settles_53 (by decide) ?_
  refine z_callVr C kX5_change gL_settles_X5_change (l_chg2 X.2.1 x0 h0 w0 t S x hG hx) dL_settles_54 [0, 1, 2, 3, 4, 5, 6, 7, 8] [] 0 rfl nd_0_1_2_3_4_5_6_7_8 rfl rfl rfl (by decide) (by decide) (Nat.le_of_ble_eq_true rfl) rfl ?_
  refine z_nif_ne_f C 64 dL_settles_57 (by decide) (by omega) (by omega) ?_
  refine z_iconst C (nI 1) dL_settles_60 (by decide) ?_
  refine z_goto C 65 dL_settles_61 (by decide) ?_
  refine z_istore C dL_settles_65 (Nat.le_of_ble_eq_true rfl) ?_
  refine z_lv (lv' := [some (.ref x0), some (.int g), some (.int (nI 0)), some (.int (nI (mK S))), some (.int (nI x)), some (.int (nI (kN S x))), some (.int (nI 1)), none, none, none, none, none, none, none, none, none, none, none, none, none, none]) rfl ?_
  refine z_aload_n C 0 dL_settles_67 rfl rfl ?_
  refine z_iload_n C 2 dL_settles_68 rfl rfl ?_
  refine z_nif_eq_t C 76 dL_settles_69 (by decide) (by omega) (by omega) ?_
  refine z_iconst C (nI 3) dL_settles_76 (by decide) ?_
  refine z_callVr C kX5_count gL_settles_X5_count (l_cntK X.2.1 x0 h0 h1 w0 w1 t S o kp ln ps 2 hG (by decide)) dL_settles_77 [0, 1, 2, 3, 4, 5, 6, 7, 8, 9, 51] [] 0 rfl nd_0_1_2_3_4_5_6_7_8_9_51 rfl rfl rfl (by decide) (by decide) (Nat.le_of_ble_eq_true rfl) rfl ?_
  have hg_1 : cnS S 2 ≤ mK S := zc_le _ _
  refine z_istore C dL_settles_80 (Nat.le_of_ble_eq_true rfl) ?_
  refine z_lv (lv' := [some (.ref x0), some (.int g), some (.int (nI 0)), some (.int (nI (mK S))), some (.int (nI x)), some (.int (nI (kN S x))), some (.int (nI 1)), some (.int (nI (cnS S 2))), none, none, none, none, none, none, none, none, none, none, none, none, none]) rfl ?_
  refine z_aload_n C 0 dL_settles_82 rfl rfl ?_
  refine z_iload_n C 2 dL_settles_83 rfl rfl ?_
  refine z_nif_eq_t C 91 dL_settles_84 (by decide) (by omega) (by omega) ?_
  refine z_iconst C (nI 2) dL_settles_91 (by decide) ?_
  refine z_callVr C kX5_count gL_settles_X5_count (l_cntK X.2.1 x0 h0 h1 w0 w1 t S o kp ln ps 1 hG (by decide)) dL_settles_92 [0, 1, 2, 3, 4, 5, 6, 7, 8, 9, 51] [] 0 rfl nd_0_1_2_3_4_5_6_7_8_9_51 rfl rfl rfl (by decide) (by decide) (Nat.le_of_ble_eq_true rfl) rfl ?_
  have hg_2 : cnS S 1 ≤ mK S := zc_le _ _
  refine z_istore C dL_settles_95 (Nat.le_of_ble_eq_true rfl) ?_
  refine z_lv (lv' := [some (.ref x0), some (.int g), some (.int (nI 0)), some (.int (nI (mK S))), some (.int (nI x)), some (.int (nI (kN S x))), some (.int (nI 1)), some (.int (nI (cnS S 2))), some (.int (nI (cnS S 1))), none, none, none, none, none, none, none, none, none, none, none, none]) rfl ?_
  refine z_aload_n C 0 dL_settles_97 rfl rfl ?_
  refine z_iconst C (nI 4) dL_settles_98 (by decide) ?_
  refine z_callVr C kX5_count gL_settles_X5_count (l_cntK X.2.1 x0 h0 h1 w0 w1 t S o kp ln ps 3 hG (by decide)) dL_settles_99 [0, 1, 2, 3, 4, 5, 6, 7, 8, 9, 51] [] 0 rfl nd_0_1_2_3_4_5_6_7_8_9_51 rfl rfl rfl (by decide) (by decide) (Nat.le_of_ble_eq_true rfl) rfl ?_
  have hg_3 : cnS S 3 ≤ mK S := zc_le _ _
  refine z_istore C dL_settles_102 (Nat.le_of_ble_eq_true rfl) ?_
  refine z_lv (lv' := [some (.ref x0), some (.int g), some (.int (nI 0)), some (.int (nI (mK S))), some (.int (nI x)), some (.int (nI (kN S x))), some (.int (nI 1)), some (.int (nI (cnS S 2))), some (.int (nI (cnS S 1))), some (.int (nI (cnS S 3))), none, none, none, none, none, none, none, none, none, none, none]) rfl ?_
  refine z_aload_n C 0 dL_settles_104 rfl rfl ?_
  refine z_iload C dL_settles_105 rfl ?_
  refine z_iconst C (nI 3) dL_settles_107 (by decide) ?_
  refine z_callVr C kX5_change gL_settles_X5_change (l_chg3n X.2.1 x0 h0 w0 t S x hG hx hl0) dL_settles_108 [0, 1, 2, 3, 4, 5, 6, 7, 8] [] 0 rfl nd_0_1_2_3_4_5_6_7_8 rfl rfl rfl (by decide) (by decide) (Nat.le_of_ble_eq_true rfl) rfl ?_
  refine z_istore C dL_settles_111 (Nat.le_of_ble_eq_true rfl) ?_
  refine z_lv (lv' := [some (.ref x0), some (.int g), some (.int (nI 0)), some (.int (nI (mK S))), some (.int (nI x)), some (.int (nI (kN S x))), some (.int (nI 1)), some (.int (nI (cnS S 2))), some (.int (nI (cnS S 1))), some (.int (nI (cnS S 3))), some (.int (-5)), none, none, none, none, none, none, none, none, none, none]) rfl ?_
  refine z_aload_n C 0 dL_settles_113 rfl rfl ?_
  refine z_iload C dL_settles_114 rfl ?_
  refine z_iconst C (nI 4) dL_settles_116 (by decide) ?_
  refine z_callVr C kX5_change gL_settles_X5_change (l_chg4y X.2.1 x0 h0 w0 t S x P hG hx hl) dL_settles_117 [0, 1, 2, 3, 4, 5, 6, 7, 8] [] 0 rfl nd_0_1_2_3_4_5_6_7_8 rfl rfl rfl (by decide) (by decide) (Nat.le_of_ble_eq_true rfl) rfl ?_
  refine z_istore C dL_settles_120 (Nat.le_of_ble_eq_true rfl) ?_
  refine z_lv (lv' := [some (.ref x0), some (.int g), some (.int (nI 0)), some (.int (nI (mK S))), some (.int (nI x)), some (.int (nI (kN S x))), some (.int (nI 1)), some (.int (nI (cnS S 2))), some (.int (nI (cnS S 1))), some (.int (nI (cnS S 3))), some (.int (-5)), some (.int (nI P)), none, none, none, none, none, none, none, none, none]) rfl ?_
  refine z_iload C dL_settles_122 rfl ?_
  refine z_iconst C (nI 2) dL_settles_124 (by decide) ?_
  refine z_idiv C dL_settles_125 (by decide) ?_
  refine z_top (y := nI 1) (by rw [hk]; decide) ?_
  refine z_istore C dL_settles_126 (Nat.le_of_ble_eq_true rfl) ?_
  refine z_lv (lv' := [some (.ref x0), some (.int g), some (.int (nI 0)), some (.int (nI (mK S))), some (.int (nI x)), some (.int (nI (kN S x))), some (.int (nI 1)), some (.int (nI (cnS S 2))), some (.int (nI (cnS S 1))), some (.int (nI (cnS S 3))), some (.int (-5)), some (.int (nI P)), some (.int (nI 1)), none, none, none, none, none, none, none, none]) rfl ?_
  refine z_iload_n C 2 dL_settles_128 rfl rfl ?_
  refine z_nif_eq_t C 152 dL_settles_129 (by decide) (by omega) (by omega) ?_
  refine z_iload C dL_settles_152 rfl ?_
  refine z_nif_eq_f C 163 dL_settles_154 (by decide) (by omega) (by omega) ?_
  refine z_iload C dL_settles_157 rfl ?_
  refine z_iconst C (nI 2) dL_settles_159 (by decide) ?_
  refine z_ncmp_ne_f C 167 dL_settles_160 (by decide) (by omega) (by omega) (by omega) ?_
  refine z_iconst C (nI 1) dL_settles_163 (by decide) ?_
  refine z_goto C 168 dL_settles_164 (by decide) ?_
  refine z_istore C dL_settles_168 (Nat.le_of_ble_eq_true rfl) ?_
  refine z_lv (lv' := [some (.ref x0), some (.int g), some (.int (nI 0)), some (.int (nI (mK S))), some (.int (nI x)), some (.int (nI (kN S x))), some (.int (nI 1)), some (.int (nI (cnS S 2))), some (.int (nI (cnS S 1))), some (.int (nI (cnS S 3))), some (.int (-5)), some (.int (nI P)), some (.int (nI 1)), some (.int (nI 1)), none, none, none, none, none, none, none]) rfl ?_
  refine z_iload C dL_settles_170 rfl ?_
  refine z_iconst C (nI 4) dL_settles_172 (by decide) ?_
  refine z_ncmp_ne_t C 180 dL_settles_173 (by decide) (by omega) (by omega) (by omega) ?_
  refine z_aload_n C 0 dL_settles_180 rfl rfl ?_
  refine z_iconst C (nI 0) dL_settles_181 (by decide) ?_
  refine z_iload C dL_settles_182 rfl ?_
  refine z_callVr C kX5_size gL_settles_X5_size (l_size0 X.2.1 x0 h0 w0 t S 1 hG (by decide)) dL_settles_184 [0, 1, 2, 3, 4, 5, 6, 7, 8] [] 0 rfl nd_0_1_2_3_4_5_6_7_8 rfl rfl rfl (by decide) (by decide) (Nat.le_of_ble_eq_true rfl) rfl ?_
  refine z_istore C dL_settles_187 (Nat.le_of_ble_eq_true rfl) ?_
  refine z_lv (lv' := [some (.ref x0), some (.int g), some (.int (nI 0)), some (.int (nI (mK S))), some (.int (nI x)), some (.int (nI (kN S x))), some (.int (nI 1)), some (.int (nI (cnS S 2))), some (.int (nI (cnS S 1))), some (.int (nI (cnS S 3))), some (.int (-5)), some (.int (nI P)), some (.int (nI 1)), some (.int (nI 1)), some (.int (nI (uU S 1))), none, none, none, none, none, none]) rfl ?_
  refine z_aload_n C 0 dL_settles_189 rfl rfl ?_
  refine z_iload C dL_settles_190 rfl ?_
  refine z_iconst C (nI 5) dL_settles_192 (by decide) ?_
  refine z_callVr C kX5_change gL_settles_X5_change (l_chg5n X.2.1 x0 h0 w0 t S x hG hx (by omega)) dL_settles_193 [0, 1, 2, 3, 4, 5, 6, 7, 8] [] 0 rfl nd_0_1_2_3_4_5_6_7_8 rfl rfl rfl (by decide) (by decide) (Nat.le_of_ble_eq_true rfl) rfl ?_
  refine z_istore C dL_settles_196 (Nat.le_of_ble_eq_true rfl) ?_
  refine z_lv (lv' := [some (.ref x0), some (.int g), some (.int (nI 0)), some (.int (nI (mK S))), some (.int (nI x)), some (.int (nI (kN S x))), some (.int (nI 1)), some (.int (nI (cnS S 2))), some (.int (nI (cnS S 1))), some (.int (nI (cnS S 3))), some (.int (-5)), some (.int (nI P)), some (.int (nI 1)), some (.int (nI 1)), some (.int (nI (uU S 1))), some (.int (-5)), none, none, none, none, none]) rfl ?_
  refine z_iload C dL_settles_198 rfl ?_
  refine z_iconst C (nI 4) dL_settles_200 (by decide) ?_
  refine z_ncmp_eq_f C 209 dL_settles_201 (by decide) (by omega) (by omega) (by omega) ?_
  refine z_iload C dL_settles_204 rfl ?_
  refine z_nif_ne_t C 213 dL_settles_206 (by decide) (by omega) (by omega) ?_
  refine z_aload_n C 0 dL_settles_213 rfl rfl ?_
  refine z_iload C dL_settles_214 rfl ?_
  refine z_iload C dL_settles_216 rfl ?_
  refine z_nif_ne_t C 226 dL_settles_218 (by decide) (by omega) (by omega) ?_
  refine z_iload C dL_settles_226 rfl ?_
  refine z_iconst C (nI 4) dL_settles_228 (by decide) ?_
  refine z_callVr C kX5_line gL_settles_X5_line (l_line4 X.2.1 x0 h0 w0 t S 1 P hG (by decide) hp) dL_settles_229 [0, 1, 2, 3, 4, 5, 6, 7, 8] [] 0 rfl nd_0_1_2_3_4_5_6_7_8 rfl rfl rfl (by decide) (by decide) (Nat.le_of_ble_eq_true rfl) rfl ?_
  refine z_istore C dL_settles_232 (Nat.le_of_ble_eq_true rfl) ?_
  refine z_lv (lv' := [some (.ref x0), some (.int g), some (.int (nI 0)), some (.int (nI (mK S))), some (.int (nI x)), some (.int (nI (kN S x))), some (.int (nI 1)), some (.int (nI (cnS S 2))), some (.int (nI (cnS S 1))), some (.int (nI (cnS S 3))), some (.int (-5)), some (.int (nI P)), some (.int (nI 1)), some (.int (nI 1)), some (.int (nI (uU S 1))), some (.int (-5)), some (.int (nI (nSt S 1 P))), none, none, none, none]) rfl ?_
  refine z_iload C dL_settles_234 rfl ?_
  refine z_nif_ne_t C 244 dL_settles_236 (by decide) (by omega) (by omega) ?_
  refine z_iconst C (nI 1) dL_settles_244 (by decide) ?_
  refine z_aload_n C 0 dL_settles_245 rfl rfl ?_
  refine z_iload C dL_settles_246 rfl ?_
  refine z_iload_n C 2 dL_settles_248 rfl rfl ?_
  refine z_nif_eq_t C 257 dL_settles_249 (by decide) (by omega) (by omega) ?_
  refine z_bipush C (nI 8) dL_settles_257 (by decide) ?_
  refine z_callVr C kX5_change gL_settles_X5_change (l_chg8 X.2.1 x0 h0 w0 t S x hG hx) dL_settles_259 [0, 1, 2, 3, 4, 5, 6, 7, 8] [.int (nI 1)] 0 rfl nd_0_1_2_3_4_5_6_7_8 rfl rfl rfl (by decide) (by decide) (Nat.le_of_ble_eq_true rfl) rfl ?_
  have hg_4 : zc (dpt S x) (mK S) ≤ mK S := zc_le _ _
  refine z_iadd C dL_settles_262 ?_
  refine z_top (y := nI (1 + (zc (dpt S x) (mK S)))) (nI_add _ _) ?_
  refine z_istore C dL_settles_263 (Nat.le_of_ble_eq_true rfl) ?_
  refine z_lv (lv' := [some (.ref x0), some (.int g), some (.int (nI 0)), some (.int (nI (mK S))), some (.int (nI x)), some (.int (nI (kN S x))), some (.int (nI 1)), some (.int (nI (cnS S 2))), some (.int (nI (cnS S 1))), some (.int (nI (cnS S 3))), some (.int (-5)), some (.int (nI P)), some (.int (nI 1)), some (.int (nI 1)), some (.int (nI (uU S 1))), some (.int (-5)), some (.int (nI (nSt S 1 P))), some (.int (nI (1 + (zc (dpt S x) (mK S))))), none, none, none]) rfl ?_
  refine z_iload_n C 2 dL_settles_265 rfl rfl ?_
  refine z_nif_eq_t C 278 dL_settles_266 (by decide) (by omega) (by omega) ?_
  refine z_aload_n C 0 dL_settles_278 rfl rfl ?_
  refine z_iload C dL_settles_279 rfl ?_
  refine z_callV (wn := (WRd X.2.1 x0 h0 h1 w0 w1 t r S1 o1 kp1 Q1 tx ln ps)) C kX5_reject gL_settles_X5_reject m1 dL_settles_281 [0, 1, 2, 3, 4, 5, 6, 7, 8, 9, 10, 11, 12, 13, 14, 15, 16, 17, 18, 19, 20, 21, 22, 23, 24, 25, 26, 27, 28, 29, 30, 31, 32, 33, 34, 35, 36, 37, 38, 39, 40, 41, 42, 43, 44, 45, 46, 47, 48, 49, 50] [] 0 rfl rfl nd_0_1_2_3_4_5_6_7_8_9_10_11_12_13_14_15_16_17_18_19_20_21_22_23_24_25_26_27_28_29_30_31_32_33_34_35_36_37_38_39_40_41_42_43_44_45_46_47_48_49_50 rfl rfl rfl (by decide) (by decide) (Nat.le_of_ble_eq_true rfl) rfl ((zput_par nd_0_1_2_3_4_5_6_7_8_9_10_11_12_13_14_15_16_17_18_19_20_21_22_23_24_25_26_27_28_29_30_31_32_33_34_35_36_37_38_39_40_41_42_43_44_45_46_47_48_49_50 rfl).trans rfl) ?_
  refine z_istore C dL_settles_284 (Nat.le_of_ble_eq_true rfl) ?_
  refine z_lv (lv' := [some (.ref x0), some (.int g), some (.int (nI 0)), some (.int (nI (mK S))), some (.int (nI x)), some (.int (nI (kN S x))), some (.int (nI 1)), some (.int (nI (cnS S 2))), some (.int (nI (cnS S 1))), some (.int (nI (cnS S 3))), some (.int (-5)), some (.int (nI P)), some (.int (nI 1)), some (.int (nI 1)), some (.int (nI (uU S 1))), some (.int (-5)), some (.int (nI (nSt S 1 P))), some (.int (nI (1 + (zc (dpt S x) (mK S))))), some (.int (nI (1 + zc (dpt S x) (mK S)))), none, none]) rfl ?_
  refine z_iload C dL_settles_286 rfl ?_
  refine z_iload C dL_settles_288 rfl ?_
  refine z_ncmp_ne_f C 311 dL_settles_290 (by decide) (by omega) (by omega) (by omega) ?_
  refine z_aload_n C 0 dL_settles_293 rfl rfl ?_
  refine z_iload_n C 2 dL_settles_294 rfl rfl ?_
  refine z_nif_eq_t C 302 dL_settles_295 (by decide) (by omega) (by omega) ?_
  refine z_iconst C (nI 2) dL_settles_302 (by decide) ?_
  refine z_callVr C kX5_count gL_settles_X5_count (l_cntK X.2.1 x0 h0 h1 w0 w1 t S1 o1 kp1 ln ps 1 hG1 (by decide)) dL_settles_303 [0, 1, 2, 3, 4, 5, 6, 7, 8, 9, 51] [] 0 rfl nd_0_1_2_3_4_5_6_7_8_9_51 rfl rfl rfl (by decide) (by decide) (Nat.le_of_ble_eq_true rfl) rfl ?_
  have hg_5 : cnS S1 1 ≤ mK S1 := zc_le _ _
  refine z_iload C dL_settles_306 rfl ?_
  refine z_ncmp_eq_t C 313 dL_settles_308 (by decide) (by omega) (by omega) (by omega) ?_
  refine z_iload C dL_settles_313 rfl ?_
  refine z_nif_ne_t C 320 dL_settles_315 (by decide) (by omega) (by omega) ?_
  refine z_iload_n C 2 dL_settles_320 rfl rfl ?_
  refine z_nif_eq_t C 333 dL_settles_321 (by decide) (by omega) (by omega) ?_
  refine z_iconst C (nI 0) dL_settles_333 (by decide) ?_
  refine z_istore C dL_settles_334 (Nat.le_of_ble_eq_true rfl) ?_
  refine z_lv (lv' := [some (.ref x0), some (.int g), some (.int (nI 0)), some (.int (nI (mK S))), some (.int (nI x)), some (.int (nI (kN S x))), some (.int (nI 1)), some (.int (nI (cnS S 2))), some (.int (nI (cnS S 1))), some (.int (nI (cnS S 3))), some (.int (-5)), some (.int (nI P)), some (.int (nI 1)), some (.int (nI 1)), some (.int (nI (uU S 1))), some (.int (-5)), some (.int (nI (nSt S 1 P))), some (.int (nI (1 + (zc (dpt S x) (mK S))))), some (.int (nI (1 + zc (dpt S x) (mK S)))), some (.int (nI 0)), none]) rfl ?_
  refine z_aload_n C 0 dL_settles_336 rfl rfl ?_
  refine z_iload_n C 2 dL_settles_337 rfl rfl ?_
  refine z_nif_eq_t C 345 dL_settles_338 (by decide) (by omega) (by omega) ?_
  refine z_iconst C (nI 3) dL_settles_345 (by decide) ?_
  refine z_callVr C kX5_count gL_settles_X5_count (l_cntK X.2.1 x0 h0 h1 w0 w1 t S1 o1 kp1 ln ps 2 hG1 (by decide)) dL_settles_346 [0, 1, 2, 3, 4, 5, 6, 7, 8, 9, 51] [] 0 rfl nd_0_1_2_3_4_5_6_7_8_9_51 rfl rfl rfl (by decide) (by decide) (Nat.le_of_ble_eq_true rfl) rfl ?_
  have hg_6 : cnS S1 2 ≤ mK S1 := zc_le _ _
  refine z_iload C dL_settles_349 rfl ?_
  refine z_iload C dL_settles_351 rfl ?_
  refine z_iadd C dL_settles_353 ?_
  refine z_top (y := nI ((cnS S 2) + (1 + (zc (dpt S x) (mK S))))) (nI_add _ _) ?_
  refine z_ncmp_ne_f C 402 dL_settles_354 (by decide) (by omega) (by omega) (by omega) ?_
  refine z_aload_n C 0 dL_settles_357 rfl rfl ?_
  refine z_iconst C (nI 4) dL_settles_358 (by decide) ?_
  refine z_callVr C kX5_count gL_settles_X5_count (l_cntK X.2.1 x0 h0 h1 w0 w1 t S1 o1 kp1 ln ps 3 hG1 (by decide)) dL_settles_359 [0, 1, 2, 3, 4, 5, 6, 7, 8, 9, 51] [] 0 rfl nd_0_1_2_3_4_5_6_7_8_9_51 rfl rfl rfl (by decide) (by decide) (Nat.le_of_ble_eq_true rfl) rfl ?_
  have hg_7 : cnS S1 3 ≤ mK S1 := zc_le _ _
  refine z_iload C dL_settles_362 rfl ?_
  refine z_iload C dL_settles_364 rfl ?_
  refine z_nif_eq_t C 374 dL_settles_366 (by decide) (by omega) (by omega) ?_
  refine z_iconst C (nI 0) dL_settles_374 (by decide) ?_
  refine z_iadd C dL_settles_375 ?_
  refine z_top (y := nI (cnS S 3)) (nI_add _ _) ?_
  refine z_ncmp_ne_f C 402 dL_settles_376 (by decide) (by omega) (by omega) (by omega) ?_
  refine z_aload_n C 0 dL_settles_379 rfl rfl ?_
  refine z_iload C dL_settles_380 rfl ?_
  refine z_iconst C (nI 2) dL_settles_382 (by decide) ?_
  refine z_callVr C kX5_change gL_settles_X5_change (l_chg2 X.2.1 x0 h0 w0 t S1 x hG1 (by omega)) dL_settles_383 [0, 1, 2, 3, 4, 5, 6, 7, 8] [] 0 rfl nd_0_1_2_3_4_5_6_7_8 rfl rfl rfl (by decide) (by decide) (Nat.le_of_ble_eq_true rfl) rfl ?_
  refine z_iload_n C 2 dL_settles_386 rfl rfl ?_
  refine z_nif_eq_t C 394 dL_settles_387 (by decide) (by omega) (by omega) ?_
  refine z_iconst C (nI 2) dL_settles_394 (by decide) ?_
  refine z_ncmp_ne_f C 402 dL_settles_395 (by decide) (by omega) (by omega) (by omega) ?_
  refine z_iconst C (nI 1) dL_settles_398 (by decide) ?_
  refine z_goto C 403 dL_settles_399 (by decide) ?_
  refine z_istore C dL_settles_403 (Nat.le_of_ble_eq_true rfl) ?_
  refine z_lv (lv' := [some (.ref x0), some (.int g), some (.int (nI 0)), some (.int (nI (mK S))), some (.int (nI x)), some (.int (nI (kN S x))), some (.int (nI 1)), some (.int (nI (cnS S 2))), some (.int (nI (cnS S 1))), some (.int (nI (cnS S 3))), some (.int (-5)), some (.int (nI P)), some (.int (nI 1)), some (.int (nI 1)), some (.int (nI (uU S 1))), some (.int (-5)), some (.int (nI (nSt S 1 P))), some (.int (nI (1 + (zc (dpt S x) (mK S))))), some (.int (nI (1 + zc (dpt S x) (mK S)))), some (.int (nI 0)), some (.int (nI 1))]) rfl ?_
  refine z_iload C dL_settles_405 rfl ?_
  refine z_iconst C (nI 4) dL_settles_407 (by decide) ?_
  refine z_ncmp_ne_t C 496 dL_settles_408 (by decide) (by omega) (by omega) (by omega) ?_
  refine z_iload C dL_settles_496 rfl ?_
  refine z_nif_eq_f C 528 dL_settles_498 (by decide) (by omega) (by omega) ?_
  refine z_aload_n C 0 dL_settles_501 rfl rfl ?_
  refine z_iconst C (nI 0) dL_settles_502 (by decide) ?_
  refine z_iload C dL_settles_503 rfl ?_
  refine z_callVr C kX5_size gL_settles_X5_size (l_size0 X.2.1 x0 h0 w0 t S1 1 hG1 (by decide)) dL_settles_505 [0, 1, 2, 3, 4, 5, 6, 7, 8] [] 0 rfl nd_0_1_2_3_4_5_6_7_8 rfl rfl rfl (by decide) (by decide) (Nat.le_of_ble_eq_true rfl) rfl ?_
  refine z_iload C dL_settles_508 rfl ?_
  refine z_iload C dL_settles_510 rfl ?_
  refine z_nif_eq_f C 519 dL_settles_512 (by decide) (by omega) (by omega) ?_
  refine z_iconst C (nI 1) dL_settles_515 (by decide) ?_
  refine z_goto C 520 dL_settles_516 (by decide) ?_
  refine z_isub C dL_settles_520 ?_
  refine z_top (y := nI ((uU S 1) - 1)) ((pk_sub (by omega)).trans (congrArg nI (by omega))) ?_
  refine z_ncmp_ne_f C 528 dL_settles_521 (by decide) (by omega) (by omega) (by omega) ?_
  refine z_iconst C (nI 1) dL_settles_524 (by decide) ?_
  refine z_goto C 529 dL_settles_525 (by decide) ?_
  exact z_zret C N dL_settles_529 rfl (rfl) (rfl)

set_option maxHeartbeats 4000000 in
set_option maxRecDepth 100000 in
theorem w_stl03 (E : zE) (x0 h0 h1 w0 w1 : Nat) (t : Nat → Nat) (r : Nat → Nat → Nat) (S S1 : zSt) (o kp kp1 o1 : Nat) (Q Q1 : Nat → zSt) (tx : Nat → Nat) (ln : Nat) (ps : zPs) {B B1 : Nat} (g : Int32) (x P : Nat) (hG : GG S B) (hG1 : GG S1 B1) (hX : lw g (mK S) = x) (hx : x < mK S) (hk : kN S x = 3) (hs : sN S x = 0) (hp : P < uU S 1) (hl : lP S 1 x = P + 1) (hl0 : lP S 0 x = 0) (hm : mK S1 = mK S) (hct : cnS S1 2 = cnS S 2 + (1 + zc (dpt S x) (mK S))) (hco : cnS S1 1 = cnS S 1) (hc3 : cnS S1 3 = cnS S 3) (hs1 : sN S1 x = 2) (hu : uU S1 1 = uU S 1) (m1 : zM E yX5_reject wsX5_reject 6 [.ref x0, .int (nI x)] (WAd E x0 h0 h1 w0 t r S o kp Q) (WAd E x0 h0 h1 w0 t r S1 o1 kp1 Q1) (some (.int (nI (1 + zc (dpt S x) (mK S)))))) : zM E yL_settles wsL_settles 8 [.ref x0, .int g, .int (nI 0)] (WRd E x0 h0 h1 w0 w1 t r S o kp Q tx ln ps) (WRd E x0 h0 h1 w0 w1 t r S1 o1 kp1 Q1 tx ln ps) (some (.int (nI 1))) := by
  refine zM.of kL_settles (Nat.le_of_ble_eq_true rfl) rfl [some (.ref x0), some (.int g), some (.int (nI 0)), none, none, none, none, none, none, none, none, none, none, none, none, none, none, none, none, none, none] rfl (Nat.le_of_ble_eq_true rfl) ?_
  intro X eX C N
  subst eX
  have hb0 : uU S 0 ≤ 12 := gg_u hG 0
  have hb1 : uU S 1 ≤ 8 := gg_u1 hG
  have hb2 : mK S ≤ 60 := gg_M hG
  have hb3 : uU S1 0 ≤ 12 := gg_u hG1 0
  have hb4 : uU S1 1 ≤ 8 := gg_u1 hG1
  have hb5 : mK S1 ≤ 60 := gg_M hG1
  have hkx := (kN_e hG hx).2
  have hsx := (sN_e hG hx).2
  refine z_aload_n C 0 dL_settles_0 rfl rfl ?_
  refine z_iconst C (nI 0) dL_settles_1 (by decide) ?_
  refine z_callVr C kX5_count gL_settles_X5_count (l_cnt0 X.2.1 x0 h0 h1 w0 w1 t S o kp ln ps  hG ) dL_settles_2 [0, 1, 2, 3, 4, 5, 6, 7, 8, 9, 51] [] 0 rfl nd_0_1_2_3_4_5_6_7_8_9_51 rfl rfl rfl (by decide) (by decide) (Nat.le_of_ble_eq_true rfl) rfl ?_
  refine z_istore_n C 3 dL_settles_5 rfl (Nat.le_of_ble_eq_true rfl) ?_
  refine z_lv (lv' := [some (.ref x0), some (.int g), some (.int (nI 0)), some (.int (nI (mK S))), none, none, none, none, none, none, none, none, none, none, none, none, none, none, none, none, none]) rfl ?_
  refine z_iload_n C 3 dL_settles_6 rfl rfl ?_
  refine z_nif_ne_t C 34 dL_settles_7 (by decide) (by omega) (by omega) ?_
  refine z_iload_n C 1 dL_settles_34 rfl rfl ?_
  refine z_iload_n C 3 dL_settles_35 rfl rfl ?_
  refine z_callS C kL_low gL_settles_L_low (l_low X.2.1 g (mK S) (by omega) (by omega)) dL_settles_36 [] rfl (by decide) (by decide) (Nat.le_of_ble_eq_true rfl) rfl ?_
  refine z_top (y := nI x) (congrArg nI hX) ?_
  refine z_istore C dL_settles_39 (Nat.le_of_ble_eq_true rfl) ?_
  refine z_lv (lv' := [some (.ref x0), some (.int g), some (.int (nI 0)), some (.int (nI (mK S))), some (.int (nI x)), none, none, none, none, none, none, none, none, none, none, none, none, none, none, none, none]) rfl ?_
  refine z_aload_n C 0 dL_settles_41 rfl rfl ?_
  refine z_iload C dL_settles_42 rfl ?_
  refine z_iconst C (nI 0) dL_settles_44 (by decide) ?_
  refine z_callVr C kX5_change gL_settles_X5_change (l_chg0 X.2.1 x0 h0 w0 t S x hG hx) dL_settles_45 [0, 1, 2, 3, 4, 5, 6, 7, 8] [] 0 rfl nd_0_1_2_3_4_5_6_7_8 rfl rfl rfl (by decide) (by decide) (Nat.le_of_ble_eq_true rfl) rfl ?_
  refine z_istore C dL_settles_48 (Nat.le_of_ble_eq_true rfl) ?_
  refine z_lv (lv' := [some (.ref x0), some (.int g), some (.int (nI 0)), some (.int (nI (mK S))), some (.int (nI x)), some (.int (nI (kN S x))), none, none, none, none, none, none, none, none, none, none, none, none, none, none, none]) rfl ?_
  refine z_aload_n C 0 dL_settles_50 rfl rfl ?_
  refine z_iload C dL_settles_51 rfl ?_
  refine z_iconst C (nI 2) dL_settles_53 (by decide) ?_
  refine z_callVr C kX5_change gL_settles_X5_change (l_chg2 X.2.1 x0 h0 w0 t S x hG hx) dL_settles_54 [0, 1, 2, 3, 4, 5, 6, 7, 8] [] 0 rfl nd_0_1_2_3_4_5_6_7_8 rfl rfl rfl (by decide) (by decide) (Nat.le_of_ble_eq_true rfl) rfl ?_
  refine z_nif_ne_f C 64 dL_settles_57 (by decide) (by omega) (by omega) ?_
  refine z_iconst C (nI 1) dL_settles_60 (by decide) ?_
  refine z_goto C 65 dL_settles_61 (by decide) ?_
  refine z_istore C dL_settles_65 (Nat.le_of_ble_eq_true rfl) ?_
  refine z_lv (lv' := [some (.ref x0), some (.int g), some (.int (nI 0)), some (.int (nI (mK S))), some (.int (nI x)), some (.int (nI (kN S x))), some (.int (nI 1)), none, none, none, none, none, none, none, none, none, none, none, none, none, none]) rfl ?_
  refine z_aload_n C 0 dL_settles_67 rfl rfl ?_
  refine z_iload_n C 2 dL_settles_68 rfl rfl ?_
  refine z_nif_eq_t C 76 dL_settles_69 (by decide) (by omega) (by omega) ?_
  refine z_iconst C (nI 3) dL_settles_76 (by decide) ?_
  refine z_callVr C kX5_count gL_settles_X5_count (l_cntK X.2.1 x0 h0 h1 w0 w1 t S o kp ln ps 2 hG (by decide)) dL_settles_77 [0, 1, 2, 3, 4, 5, 6, 7, 8, 9, 51] [] 0 rfl nd_0_1_2_3_4_5_6_7_8_9_51 rfl rfl rfl (by decide) (by decide) (Nat.le_of_ble_eq_true rfl) rfl ?_
  have hg_1 : cnS S 2 ≤ mK S := zc_le _ _
  refine z_istore C dL_settles_80 (Nat.le_of_ble_eq_true rfl) ?_
  refine z_lv (lv' := [some (.ref x0), some (.int g), some (.int (nI 0)), some (.int (nI (mK S))), some (.int (nI x)), some (.int (nI (kN S x))), some (.int (nI 1)), some (.int (nI (cnS S 2))), none, none, none, none, none, none, none, none, none, none, none, none, none]) rfl ?_
  refine z_aload_n C 0 dL_settles_82 rfl rfl ?_
  refine z_iload_n C 2 dL_settles_83 rfl rfl ?_
  refine z_nif_eq_t C 91 dL_settles_84 (by decide) (by omega) (by omega) ?_
  refine z_iconst C (nI 2) dL_settles_91 (by decide) ?_
  refine z_callVr C kX5_count gL_settles_X5_count (l_cntK X.2.1 x0 h0 h1 w0 w1 t S o kp ln ps 1 hG (by decide)) dL_settles_92 [0, 1, 2, 3, 4, 5, 6, 7, 8, 9, 51] [] 0 rfl nd_0_1_2_3_4_5_6_7_8_9_51 rfl rfl rfl (by decide) (by decide) (Nat.le_of_ble_eq_true rfl) rfl ?_
  have hg_2 : cnS S 1 ≤ mK S := zc_le _ _
  refine z_istore C dL_settles_95 (Nat.le_of_ble_eq_true rfl) ?_
  refine z_lv (lv' := [some (.ref x0), some (.int g), some (.int (nI 0)), some (.int (nI (mK S))), some (.int (nI x)), some (.int (nI (kN S x))), some (.int (nI 1)), some (.int (nI (cnS S 2))), some (.int (nI (cnS S 1))), none, none, none, none, none, none, none, none, none, none, none, none]) rfl ?_
  refine z_aload_n C 0 dL_settles_97 rfl rfl ?_
  refine z_iconst C (nI 4) dL_settles_98 (by decide) ?_
  refine z_callVr C kX5_count gL_settles_X5_count (l_cntK X.2.1 x0 h0 h1 w0 w1 t S o kp ln ps 3 hG (by decide)) dL_settles_99 [0, 1, 2, 3, 4, 5, 6, 7, 8, 9, 51] [] 0 rfl nd_0_1_2_3_4_5_6_7_8_9_51 rfl rfl rfl (by decide) (by decide) (Nat.le_of_ble_eq_true rfl) rfl ?_
  have hg_3 : cnS S 3 ≤ mK S := zc_le _ _
  refine z_istore C dL_settles_102 (Nat.le_of_ble_eq_true rfl) ?_
  refine z_lv (lv' := [some (.ref x0), some (.int g), some (.int (nI 0)), some (.int (nI (mK S))), some (.int (nI x)), some (.int (nI (kN S x))), some (.int (nI 1)), some (.int (nI (cnS S 2))), some (.int (nI (cnS S 1))), some (.int (nI (cnS S 3))), none, none, none, none, none, none, none, none, none, none, none]) rfl ?_
  refine z_aload_n C 0 dL_settles_104 rfl rfl ?_
  refine z_iload C dL_settles_105 rfl ?_
  refine z_iconst C (nI 3) dL_settles_107 (by decide) ?_
  refine z_callVr C kX5_change gL_settles_X5_change (l_chg3n X.2.1 x0 h0 w0 t S x hG hx hl0) dL_settles_108 [0, 1, 2, 3, 4, 5, 6, 7, 8] [] 0 rfl nd_0_1_2_3_4_5_6_7_8 rfl rfl rfl (by decide) (by decide) (Nat.le_of_ble_eq_true rfl) rfl ?_
  refine z_istore C dL_settles_111 (Nat.le_of_ble_eq_true rfl) ?_
  refine z_lv (lv' := [some (.ref x0), some (.int g), some (.int (nI 0)), some (.int (nI (mK S))), some (.int (nI x)), some (.int (nI (kN S x))), some (.int (nI 1)), some (.int (nI (cnS S 2))), some (.int (nI (cnS S 1))), some (.int (nI (cnS S 3))), some (.int (-5)), none, none, none, none, none, none, none, none, none, none]) rfl ?_
  refine z_aload_n C 0 dL_settles_113 rfl rfl ?_
  refine z_iload C dL_settles_114 rfl ?_
  refine z_iconst C (nI 4) dL_settles_116 (by decide) ?_
  refine z_callVr C kX5_change gL_settles_X5_change (l_chg4y X.2.1 x0 h0 w0 t S x P hG hx hl) dL_settles_117 [0, 1, 2, 3, 4, 5, 6, 7, 8] [] 0 rfl nd_0_1_2_3_4_5_6_7_8 rfl rfl rfl (by decide) (by decide) (Nat.le_of_ble_eq_true rfl) rfl ?_
  refine z_istore C dL_settles_120 (Nat.le_of_ble_eq_true rfl) ?_
  refine z_lv (lv' := [some (.ref x0), some (.int g), some (.int (nI 0)), some (.int (nI (mK S))), some (.int (nI x)), some (.int (nI (kN S x))), some (.int (nI 1)), some (.int (nI (cnS S 2))), some (.int (nI (cnS S 1))), some (.int (nI (cnS S 3))), some (.int (-5)), some (.int (nI P)), none, none, none, none, none, none, none, none, none]) rfl ?_
  refine z_iload C dL_settles_122 rfl ?_
  refine z_iconst C (nI 2) dL_settles_124 (by decide) ?_
  refine z_idiv C dL_settles_125 (by decide) ?_
  refine z_top (y := nI 1) (by rw [hk]; decide) ?_
  refine z_istore C dL_settles_126 (Nat.le_of_ble_eq_true rfl) ?_
  refine z_lv (lv' := [some (.ref x0), some (.int g), some (.int (nI 0)), some (.int (nI (mK S))), some (.int (nI x)), some (.int (nI (kN S x))), some (.int (nI 1)), some (.int (nI (cnS S 2))), some (.int (nI (cnS S 1))), some (.int (nI (cnS S 3))), some (.int (-5)), some (.int (nI P)), some (.int (nI 1)), none, none, none, none, none, none, none, none]) rfl ?_
  refine z_iload_n C 2 dL_settles_128 rfl rfl ?_
  refine z_nif_eq_t C 152 dL_settles_129 (by decide) (by omega) (by omega) ?_
  refine z_iload C dL_settles_152 rfl ?_
  refine z_nif_eq_f C 163 dL_settles_154 (by decide) (by omega) (by omega) ?_
  refine z_iload C dL_settles_157 rfl ?_
  refine z_iconst C (nI 2) dL_settles_159 (by decide) ?_
  refine z_ncmp_ne_t C 167 dL_settles_160 (by decide) (by omega) (by omega) (by omega) ?_
  refine z_iconst C (nI 0) dL_settles_167 (by decide) ?_
  refine z_istore C dL_settles_168 (Nat.le_of_ble_eq_true rfl) ?_
  refine z_lv (lv' := [some (.ref x0), some (.int g), some (.int (nI 0)), some (.int (nI (mK S))), some (.int (nI x)), some (.int (nI (kN S x))), some (.int (nI 1)), some (.int (nI (cnS S 2))), some (.int (nI (cnS S 1))), some (.int (nI (cnS S 3))), some (.int (-5)), some (.int (nI P)), some (.int (nI 1)), some (.int (nI 0)), none, none, none, none, none, none, none]) rfl ?_
  refine z_iload C dL_settles_170 rfl ?_
  refine z_iconst C (nI 4) dL_settles_172 (by decide) ?_
  refine z_ncmp_ne_t C 180 dL_settles_173 (by decide) (by omega) (by omega) (by omega) ?_
  refine z_aload_n C 0 dL_settles_180 rfl rfl ?_
  refine z_iconst C (nI 0) dL_settles_181 (by decide) ?_
  refine z_iload C dL_settles_182 rfl ?_
  refine z_callVr C kX5_size gL_settles_X5_size (l_size0 X.2.1 x0 h0 w0 t S 1 hG (by decide)) dL_settles_184 [0, 1, 2, 3, 4, 5, 6, 7, 8] [] 0 rfl nd_0_1_2_3_4_5_6_7_8 rfl rfl rfl (by decide) (by decide) (Nat.le_of_ble_eq_true rfl) rfl ?_
  refine z_istore C dL_settles_187 (Nat.le_of_ble_eq_true rfl) ?_
  refine z_lv (lv' := [some (.ref x0), some (.int g), some (.int (nI 0)), some (.int (nI (mK S))), some (.int (nI x)), some (.int (nI (kN S x))), some (.int (nI 1)), some (.int (nI (cnS S 2))), some (.int (nI (cnS S 1))), some (.int (nI (cnS S 3))), some (.int (-5)), some (.int (nI P)), some (.int (nI 1)), some (.int (nI 0)), some (.int (nI (uU S 1))), none, none, none, none, none, none]) rfl ?_
  refine z_aload_n C 0 dL_settles_189 rfl rfl ?_
  refine z_iload C dL_settles_190 rfl ?_
  refine z_iconst C (nI 5) dL_settles_192 (by decide) ?_
  refine z_callVr C kX5_change gL_settles_X5_change (l_chg5n X.2.1 x0 h0 w0 t S x hG hx (by omega)) dL_settles_193 [0, 1, 2, 3, 4, 5, 6, 7, 8] [] 0 rfl nd_0_1_2_3_4_5_6_7_8 rfl rfl rfl (by decide) (by decide) (Nat.le_of_ble_eq_true rfl) rfl ?_
  refine z_istore C dL_settles_196 (Nat.le_of_ble_eq_true rfl) ?_
  refine z_lv (lv' := [some (.ref x0), some (.int g), some (.int (nI 0)), some (.int (nI (mK S))), some (.int (nI x)), some (.int (nI (kN S x))), some (.int (nI 1)), some (.int (nI (cnS S 2))), some (.int (nI (cnS S 1))), some (.int (nI (cnS S 3))), some (.int (-5)), some (.int (nI P)), some (.int (nI 1)), some (.int (nI 0)), some (.int (nI (uU S 1))), some (.int (-5)), none, none, none, none, none]) rfl ?_
  refine z_iload C dL_settles_198 rfl ?_
  refine z_iconst C (nI 4) dL_settles_200 (by decide) ?_
  refine z_ncmp_eq_f C 209 dL_settles_201 (by decide) (by omega) (by omega) (by omega) ?_
  refine z_iload C dL_settles_204 rfl ?_
  refine z_nif_ne_t C 213 dL_settles_206 (by decide) (by omega) (by omega) ?_
  refine z_aload_n C 0 dL_settles_213 rfl rfl ?_
  refine z_iload C dL_settles_214 rfl ?_
  refine z_iload C dL_settles_216 rfl ?_
  refine z_nif_ne_t C 226 dL_settles_218 (by decide) (by omega) (by omega) ?_
  refine z_iload C dL_settles_226 rfl ?_
  refine z_iconst C (nI 4) dL_settles_228 (by decide) ?_
  refine z_callVr C kX5_line gL_settles_X5_line (l_line4 X.2.1 x0 h0 w0 t S 1 P hG (by decide) hp) dL_settles_229 [0, 1, 2, 3, 4, 5, 6, 7, 8] [] 0 rfl nd_0_1_2_3_4_5_6_7_8 rfl rfl rfl (by decide) (by decide) (Nat.le_of_ble_eq_true rfl) rfl ?_
  refine z_istore C dL_settles_232 (Nat.le_of_ble_eq_true rfl) ?_
  refine z_lv (lv' := [some (.ref x0), some (.int g), some (.int (nI 0)), some (.int (nI (mK S))), some (.int (nI x)), some (.int (nI (kN S x))), some (.int (nI 1)), some (.int (nI (cnS S 2))), some (.int (nI (cnS S 1))), some (.int (nI (cnS S 3))), some (.int (-5)), some (.int (nI P)), some (.int (nI 1)), some (.int (nI 0)), some (.int (nI (uU S 1))), some (.int (-5)), some (.int (nI (nSt S 1 P))), none, none, none, none]) rfl ?_
  refine z_iload C dL_settles_234 rfl ?_
  refine z_nif_ne_t C 244 dL_settles_236 (by decide) (by omega) (by omega) ?_
  refine z_iconst C (nI 1) dL_settles_244 (by decide) ?_
  refine z_aload_n C 0 dL_settles_245 rfl rfl ?_
  refine z_iload C dL_settles_246 rfl ?_
  refine z_iload_n C 2 dL_settles_248 rfl rfl ?_
  refine z_nif_eq_t C 257 dL_settles_249 (by decide) (by omega) (by omega) ?_
  refine z_bipush C (nI 8) dL_settles_257 (by decide) ?_
  refine z_callVr C kX5_change gL_settles_X5_change (l_chg8 X.2.1 x0 h0 w0 t S x hG hx) dL_settles_259 [0, 1, 2, 3, 4, 5, 6, 7, 8] [.int (nI 1)] 0 rfl nd_0_1_2_3_4_5_6_7_8 rfl rfl rfl (by decide) (by decide) (Nat.le_of_ble_eq_true rfl) rfl ?_
  have hg_4 : zc (dpt S x) (mK S) ≤ mK S := zc_le _ _
  refine z_iadd C dL_settles_262 ?_
  refine z_top (y := nI (1 + (zc (dpt S x) (mK S)))) (nI_add _ _) ?_
  refine z_istore C dL_settles_263 (Nat.le_of_ble_eq_true rfl) ?_
  refine z_lv (lv' := [some (.ref x0), some (.int g), some (.int (nI 0)), some (.int (nI (mK S))), some (.int (nI x)), some (.int (nI (kN S x))), some (.int (nI 1)), some (.int (nI (cnS S 2))), some (.int (nI (cnS S 1))), some (.int (nI (cnS S 3))), some (.int (-5)), some (.int (nI P)), some (.int (nI 1)), some (.int (nI 0)), some (.int (nI (uU S 1))), some (.int (-5)), some (.int (nI (nSt S 1 P))), some (.int (nI (1 + (zc (dpt S x) (mK S))))), none, none, none]) rfl ?_
  refine z_iload_n C 2 dL_settles_265 rfl rfl ?_
  refine z_nif_eq_t C 278 dL_settles_266 (by decide) (by omega) (by omega) ?_
  refine z_aload_n C 0 dL_settles_278 rfl rfl ?_
  refine z_iload C dL_settles_279 rfl ?_
  refine z_callV (wn := (WRd X.2.1 x0 h0 h1 w0 w1 t r S1 o1 kp1 Q1 tx ln ps)) C kX5_reject gL_settles_X5_reject m1 dL_settles_281 [0, 1, 2, 3, 4, 5, 6, 7, 8, 9, 10, 11, 12, 13, 14, 15, 16, 17, 18, 19, 20, 21, 22, 23, 24, 25, 26, 27, 28, 29, 30, 31, 32, 33, 34, 35, 36, 37, 38, 39, 40, 41, 42, 43, 44, 45, 46, 47, 48, 49, 50] [] 0 rfl rfl nd_0_1_2_3_4_5_6_7_8_9_10_11_12_13_14_15_16_17_18_19_20_21_22_23_24_25_26_27_28_29_30_31_32_33_34_35_36_37_38_39_40_41_42_43_44_45_46_47_48_49_50 rfl rfl rfl (by decide) (by decide) (Nat.le_of_ble_eq_true rfl) rfl ((zput_par nd_0_1_2_3_4_5_6_7_8_9_10_11_12_13_14_15_16_17_18_19_20_21_22_23_24_25_26_27_28_29_30_31_32_33_34_35_36_37_38_39_40_41_42_43_44_45_46_47_48_49_50 rfl).trans rfl) ?_
  refine z_istore C dL_settles_284 (Nat.le_of_ble_eq_true rfl) ?_
  refine z_lv (lv' := [some (.ref x0), some (.int g), some (.int (nI 0)), some (.int (nI (mK S))), some (.int (nI x)), some (.int (nI (kN S x))), some (.int (nI 1)), some (.int (nI (cnS S 2))), some (.int (nI (cnS S 1))), some (.int (nI (cnS S 3))), some (.int (-5)), some (.int (nI P)), some (.int (nI 1)), some (.int (nI 0)), some (.int (nI (uU S 1))), some (.int (-5)), some (.int (nI (nSt S 1 P))), some (.int (nI (1 + (zc (dpt S x) (mK S))))), some (.int (nI (1 + zc (dpt S x) (mK S)))), none, none]) rfl ?_
  refine z_iload C dL_settles_286 rfl ?_
  refine z_iload C dL_settles_288 rfl ?_
  refine z_ncmp_ne_f C 311 dL_settles_290 (by decide) (by omega) (by omega) (by omega) ?_
  refine z_aload_n C 0 dL_settles_293 rfl rfl ?_
  refine z_iload_n C 2 dL_settles_294 rfl rfl ?_
  refine z_nif_eq_t C 302 dL_settles_295 (by decide) (by omega) (by omega) ?_
  refine z_iconst C (nI 2) dL_settles_302 (by decide) ?_
  refine z_callVr C kX5_count gL_settles_X5_count (l_cntK X.2.1 x0 h0 h1 w0 w1 t S1 o1 kp1 ln ps 1 hG1 (by decide)) dL_settles_303 [0, 1, 2, 3, 4, 5, 6, 7, 8, 9, 51] [] 0 rfl nd_0_1_2_3_4_5_6_7_8_9_51 rfl rfl rfl (by decide) (by decide) (Nat.le_of_ble_eq_true rfl) rfl ?_
  have hg_5 : cnS S1 1 ≤ mK S1 := zc_le _ _
  refine z_iload C dL_settles_306 rfl ?_
  refine z_ncmp_eq_t C 313 dL_settles_308 (by decide) (by omega) (by omega) (by omega) ?_
  refine z_iload C dL_settles_313 rfl ?_
  refine z_nif_ne_t C 320 dL_settles_315 (by decide) (by omega) (by omega) ?_
  refine z_iload_n C 2 dL_settles_320 rfl rfl ?_
  refine z_nif_eq_t C 333 dL_settles_321 (by decide) (by omega) (by omega) ?_
  refine z_iconst C (nI 0) dL_settles_333 (by decide) ?_
  refine z_istore C dL_settles_334 (Nat.le_of_ble_eq_true rfl) ?_
  refine z_lv (lv' := [some (.ref x0), some (.int g), some (.int (nI 0)), some (.int (nI (mK S))), some (.int (nI x)), some (.int (nI (kN S x))), some (.int (nI 1)), some (.int (nI (cnS S 2))), some (.int (nI (cnS S 1))), some (.int (nI (cnS S 3))), some (.int (-5)), some (.int (nI P)), some (.int (nI 1)), some (.int (nI 0)), some (.int (nI (uU S 1))), some (.int (-5)), some (.int (nI (nSt S 1 P))), some (.int (nI (1 + (zc (dpt S x) (mK S))))), some (.int (nI (1 + zc (dpt S x) (mK S)))), some (.int (nI 0)), none]) rfl ?_
  refine z_aload_n C 0 dL_settles_336 rfl rfl ?_
  refine z_iload_n C 2 dL_settles_337 rfl rfl ?_
  refine z_nif_eq_t C 345 dL_settles_338 (by decide) (by omega) (by omega) ?_
  refine z_iconst C (nI 3) dL_settles_345 (by decide) ?_
  refine z_callVr C kX5_count gL_settles_X5_count (l_cntK X.2.1 x0 h0 h1 w0 w1 t S1 o1 kp1 ln ps 2 hG1 (by decide)) dL_settles_346 [0, 1, 2, 3, 4, 5, 6, 7, 8, 9, 51] [] 0 rfl nd_0_1_2_3_4_5_6_7_8_9_51 rfl rfl rfl (by decide) (by decide) (Nat.le_of_ble_eq_true rfl) rfl ?_
  have hg_6 : cnS S1 2 ≤ mK S1 := zc_le _ _
  refine z_iload C dL_settles_349 rfl ?_
  refine z_iload C dL_settles_351 rfl ?_
  refine z_iadd C dL_settles_353 ?_
  refine z_top (y := nI ((cnS S 2) + (1 + (zc (dpt S x) (mK S))))) (nI_add _ _) ?_
  refine z_ncmp_ne_f C 402 dL_settles_354 (by decide) (by omega) (by omega) (by omega) ?_
  refine z_aload_n C 0 dL_settles_357 rfl rfl ?_
  refine z_iconst C (nI 4) dL_settles_358 (by decide) ?_
  refine z_callVr C kX5_count gL_settles_X5_count (l_cntK X.2.1 x0 h0 h1 w0 w1 t S1 o1 kp1 ln ps 3 hG1 (by decide)) dL_settles_359 [0, 1, 2, 3, 4, 5, 6, 7, 8, 9, 51] [] 0 rfl nd_0_1_2_3_4_5_6_7_8_9_51 rfl rfl rfl (by decide) (by decide) (Nat.le_of_ble_eq_true rfl) rfl ?_
  have hg_7 : cnS S1 3 ≤ mK S1 := zc_le _ _
  refine z_iload C dL_settles_362 rfl ?_
  refine z_iload C dL_settles_364 rfl ?_
  refine z_nif_eq_t C 374 dL_settles_366 (by decide) (by omega) (by omega) ?_
  refine z_iconst C (nI 0) dL_settles_374 (by decide) ?_
  refine z_iadd C dL_settles_375 ?_
  refine z_top (y := nI (cnS S 3)) (nI_add _ _) ?_
  refine z_ncmp_ne_f C 402 dL_settles_376 (by decide) (by omega) (by omega) (by omega) ?_
  refine z_aload_n C 0 dL_settles_379 rfl rfl ?_
  refine z_iload C dL_settles_380 rfl ?_
  refine z_iconst C (nI 2) dL_settles_382 (by decide) ?_
  refine z_callVr C kX5_change gL_settles_X5_change (l_chg2 X.2.1 x0 h0 w0 t S1 x hG1 (by omega)) dL_settles_383 [0, 1, 2, 3, 4, 5, 6, 7, 8] [] 0 rfl nd_0_1_2_3_4_5_6_7_8 rfl rfl rfl (by decide) (by decide) (Nat.le_of_ble_eq_true rfl) rfl ?_
  refine z_iload_n C 2 dL_settles_386 rfl rfl ?_
  refine z_nif_eq_t C 394 dL_settles_387 (by decide) (by omega) (by omega) ?_
  refine z_iconst C (nI 2) dL_settles_394 (by decide) ?_
  refine z_ncmp_ne_f C 402 dL_settles_395 (by decide) (by omega) (by omega) (by omega) ?_
  refine z_iconst C (nI 1) dL_settles_398 (by decide) ?_
  refine z_goto C 403 dL_settles_399 (by decide) ?_
  refine z_istore C dL_settles_403 (Nat.le_of_ble_eq_true rfl) ?_
  refine z_lv (lv' := [some (.ref x0), some (.int g), some (.int (nI 0)), some (.int (nI (mK S))), some (.int (nI x)), some (.int (nI (kN S x))), some (.int (nI 1)), some (.int (nI (cnS S 2))), some (.int (nI (cnS S 1))), some (.int (nI (cnS S 3))), some (.int (-5)), some (.int (nI P)), some (.int (nI 1)), some (.int (nI 0)), some (.int (nI (uU S 1))), some (.int (-5)), some (.int (nI (nSt S 1 P))), some (.int (nI (1 + (zc (dpt S x) (mK S))))), some (.int (nI (1 + zc (dpt S x) (mK S)))), some (.int (nI 0)), some (.int (nI 1))]) rfl ?_
  refine z_iload C dL_settles_405 rfl ?_
  refine z_iconst C (nI 4) dL_settles_407 (by decide) ?_
  refine z_ncmp_ne_t C 496 dL_settles_408 (by decide) (by omega) (by omega) (by omega) ?_
  refine z_iload C dL_settles_496 rfl ?_
  refine z_nif_eq_f C 528 dL_settles_498 (by decide) (by omega) (by omega) ?_
  refine z_aload_n C 0 dL_settles_501 rfl rfl ?_
  refine z_iconst C (nI 0) dL_settles_502 (by decide) ?_
  refine z_iload C dL_settles_503 rfl ?_
  refine z_callVr C kX5_size gL_settles_X5_size (l_size0 X.2.1 x0 h0 w0 t S1 1 hG1 (by decide)) dL_settles_505 [0, 1, 2, 3, 4, 5, 6, 7, 8] [] 0 rfl nd_0_1_2_3_4_5_6_7_8 rfl rfl rfl (by decide) (by decide) (Nat.le_of_ble_eq_true rfl) rfl ?_
  refine z_iload C dL_settles_508 rfl ?_
  refine z_iload C dL_settles_510 rfl ?_
  refine z_nif_eq_t C 519 dL_settles_512 (by decide) (by omega) (by omega) ?_
  refine z_iconst C (nI 0) dL_settles_519 (by decide) ?_
  refine z_isub C dL_settles_520 ?_
  refine z_top (y := nI ((uU S 1) - 0)) ((pk_sub (by omega)).trans (congrArg nI (by omega))) ?_
  refine z_ncmp_ne_f C 528 dL_settles_521 (by decide) (by omega) (by omega) (by omega) ?_
  refine z_iconst C (nI 1) dL_settles_524 (by decide) ?_
  refine z_goto C 529 dL_settles_525 (by decide) ?_
  exact z_zret C N dL_settles_529 rfl (rfl) (rfl)

set_option maxHeartbeats 4000000 in
set_option maxRecDepth 100000 in
theorem w_stl04 (E : zE) (x0 h0 h1 w0 w1 : Nat) (t : Nat → Nat) (r : Nat → Nat → Nat) (S S1 : zSt) (o kp kp1 o1 : Nat) (Q Q1 : Nat → zSt) (tx : Nat → Nat) (ln : Nat) (ps : zPs) {B B1 : Nat} (g : Int32) (x P Q9 : Nat) (hG : GG S B) (hG1 : GG S1 B1) (hX : lw g (mK S) = x) (hx : x < mK S) (hk : kN S x = 4) (hs : sN S x = 0) (hp : P < uU S 0) (hl : lP S 0 x = P + 1) (hq : Q9 < uU S 1) (hl1 : lP S 1 x = Q9 + 1) (hm : mK S1 = mK S) (hct : cnS S1 2 = cnS S 2 + (1 + zc (dpt S x) (mK S))) (hco : cnS S1 1 = cnS S 1) (hc3 : cnS S1 3 = cnS S 3) (hs1 : sN S1 x = 2) (m1 : zM E yX5_reject wsX5_reject 6 [.ref x0, .int (nI x)] (WAd E x0 h0 h1 w0 t r S o kp Q) (WAd E x0 h0 h1 w0 t r S1 o1 kp1 Q1) (some (.int (nI (1 + zc (dpt S x) (mK S)))))) : zM E yL_settles wsL_settles 8 [.ref x0, .int g, .int (nI 0)] (WRd E x0 h0 h1 w0 w1 t r S o kp Q tx ln ps) (WRd E x0 h0 h1 w0 w1 t r S1 o1 kp1 Q1 tx ln ps) (some (.int (nI 1))) := by
  refine zM.of kL_settles (Nat.le_of_ble_eq_true rfl) rfl [some (.ref x0), some (.int g), some (.int (nI 0)), none, none, none, none, none, none, none, none, none, none, none, none, none, none, none, none, none, none] rfl (Nat.le_of_ble_eq_true rfl) ?_
  intro X eX C N
  subst eX
  have hb0 : uU S 0 ≤ 12 := gg_u hG 0
  have hb1 : uU S 1 ≤ 8 := gg_u1 hG
  have hb2 : mK S ≤ 60 := gg_M hG
  have hb3 : uU S1 0 ≤ 12 := gg_u hG1 0
  have hb4 : uU S1 1 ≤ 8 := gg_u1 hG1
  have hb5 : mK S1 ≤ 60 := gg_M hG1
  have hkx := (kN_e hG hx).2
  have hsx := (sN_e hG hx).2
  have hv9 := vN_lt hG hx hk
  refine z_aload_n C 0 dL_settles_0 rfl rfl ?_
  refine z_iconst C (nI 0) dL_settles_1 (by decide) ?_
  refine z_callVr C kX5_count gL_settles_X5_count (l_cnt0 X.2.1 x0 h0 h1 w0 w1 t S o kp ln ps  hG ) dL_settles_2 [0, 1, 2, 3, 4, 5, 6, 7, 8, 9, 51] [] 0 rfl nd_0_1_2_3_4_5_6_7_8_9_51 rfl rfl rfl (by decide) (by decide) (Nat.le_of_ble_eq_true rfl) rfl ?_
  refine z_istore_n C 3 dL_settles_5 rfl (Nat.le_of_ble_eq_true rfl) ?_
  refine z_lv (lv' := [some (.ref x0), some (.int g), some (.int (nI 0)), some (.int (nI (mK S))), none, none, none, none, none, none, none, none, none, none, none, none, none, none, none, none, none]) rfl ?_
  refine z_iload_n C 3 dL_settles_6 rfl rfl ?_
  refine z_nif_ne_t C 34 dL_settles_7 (by decide) (by omega) (by omega) ?_
  refine z_iload_n C 1 dL_settles_34 rfl rfl ?_
  refine z_iload_n C 3 dL_settles_35 rfl rfl ?_
  refine z_callS C kL_low gL_settles_L_low (l_low X.2.1 g (mK S) (by omega) (by omega)) dL_settles_36 [] rfl (by decide) (by decide) (Nat.le_of_ble_eq_true rfl) rfl ?_
  refine z_top (y := nI x) (congrArg nI hX) ?_
  refine z_istore C dL_settles_39 (Nat.le_of_ble_eq_true rfl) ?_
  refine z_lv (lv' := [some (.ref x0), some (.int g), some (.int (nI 0)), some (.int (nI (mK S))), some (.int (nI x)), none, none, none, none, none, none, none, none, none, none, none, none, none, none, none, none]) rfl ?_
  refine z_aload_n C 0 dL_settles_41 rfl rfl ?_
  refine z_iload C dL_settles_42 rfl ?_
  refine z_iconst C (nI 0) dL_settles_44 (by decide) ?_
  refine z_callVr C kX5_change gL_settles_X5_change (l_chg0 X.2.1 x0 h0 w0 t S x hG hx) dL_settles_45 [0, 1, 2, 3, 4, 5, 6, 7, 8] [] 0 rfl nd_0_1_2_3_4_5_6_7_8 rfl rfl rfl (by decide) (by decide) (Nat.le_of_ble_eq_true rfl) rfl ?_
  refine z_istore C dL_settles_48 (Nat.le_of_ble_eq_true rfl) ?_
  refine z_lv (lv' := [some (.ref x0), some (.int g), some (.int (nI 0)), some (.int (nI (mK S))), some (.int (nI x)), some (.int (nI (kN S x))), none, none, none, none, none, none, none, none, none, none, none, none, none, none, none]) rfl ?_
  refine z_aload_n C 0 dL_settles_50 rfl rfl ?_
  refine z_iload C dL_settles_51 rfl ?_
  refine z_iconst C (nI 2) dL_settles_53 (by decide) ?_
  refine z_callVr C kX5_change gL_settles_X5_change (l_chg2 X.2.1 x0 h0 w0 t S x hG hx) dL_settles_54 [0, 1, 2, 3, 4, 5, 6, 7, 8] [] 0 rfl nd_0_1_2_3_4_5_6_7_8 rfl rfl rfl (by decide) (by decide) (Nat.le_of_ble_eq_true rfl) rfl ?_
  refine z_nif_ne_f C 64 dL_settles_57 (by decide) (by omega) (by omega) ?_
  refine z_iconst C (nI 1) dL_settles_60 (by decide) ?_
  refine z_goto C 65 dL_settles_61 (by decide) ?_
  refine z_istore C dL_settles_65 (Nat.le_of_ble_eq_true rfl) ?_
  refine z_lv (lv' := [some (.ref x0), some (.int g), some (.int (nI 0)), some (.int (nI (mK S))), some (.int (nI x)), some (.int (nI (kN S x))), some (.int (nI 1)), none, none, none, none, none, none, none, none, none, none, none, none, none, none]) rfl ?_
  refine z_aload_n C 0 dL_settles_67 rfl rfl ?_
  refine z_iload_n C 2 dL_settles_68 rfl rfl ?_
  refine z_nif_eq_t C 76 dL_settles_69 (by decide) (by omega) (by omega) ?_
  refine z_iconst C (nI 3) dL_settles_76 (by decide) ?_
  refine z_callVr C kX5_count gL_settles_X5_count (l_cntK X.2.1 x0 h0 h1 w0 w1 t S o kp ln ps 2 hG (by decide)) dL_settles_77 [0, 1, 2, 3, 4, 5, 6, 7, 8, 9, 51] [] 0 rfl nd_0_1_2_3_4_5_6_7_8_9_51 rfl rfl rfl (by decide) (by decide) (Nat.le_of_ble_eq_true rfl) rfl ?_
  have hg_1 : cnS S 2 ≤ mK S := zc_le _ _
  refine z_istore C dL_settles_80 (Nat.le_of_ble_eq_true rfl) ?_
  refine z_lv (lv' := [some (.ref x0), some (.int g), some (.int (nI 0)), some (.int (nI (mK S))), some (.int (nI x)), some (.int (nI (kN S x))), some (.int (nI 1)), some (.int (nI (cnS S 2))), none, none, none, none, none, none, none, none, none, none, none, none, none]) rfl ?_
  refine z_aload_n C 0 dL_settles_82 rfl rfl ?_
  refine z_iload_n C 2 dL_settles_83 rfl rfl ?_
  refine z_nif_eq_t C 91 dL_settles_84 (by decide) (by omega) (by omega) ?_
  refine z_iconst C (nI 2) dL_settles_91 (by decide) ?_
  refine z_callVr C kX5_count gL_settles_X5_count (l_cntK X.2.1 x0 h0 h1 w0 w1 t S o kp ln ps 1 hG (by decide)) dL_settles_92 [0, 1, 2, 3, 4, 5, 6, 7, 8, 9, 51] [] 0 rfl nd_0_1_2_3_4_5_6_7_8_9_51 rfl rfl rfl (by decide) (by decide) (Nat.le_of_ble_eq_true rfl) rfl ?_
  have hg_2 : cnS S 1 ≤ mK S := zc_le _ _
  refine z_istore C dL_settles_95 (Nat.le_of_ble_eq_true rfl) ?_
  refine z_lv (lv' := [some (.ref x0), some (.int g), some (.int (nI 0)), some (.int (nI (mK S))), some (.int (nI x)), some (.int (nI (kN S x))), some (.int (nI 1)), some (.int (nI (cnS S 2))), some (.int (nI (cnS S 1))), none, none, none, none, none, none, none, none, none, none, none, none]) rfl ?_
  refine z_aload_n C 0 dL_settles_97 rfl rfl ?_
  refine z_iconst C (nI 4) dL_settles_98 (by decide) ?_
  refine z_callVr C kX5_count gL_settles_X5_count (l_cntK X.2.1 x0 h0 h1 w0 w1 t S o kp ln ps 3 hG (by decide)) dL_settles_99 [0, 1, 2, 3, 4, 5, 6, 7, 8, 9, 51] [] 0 rfl nd_0_1_2_3_4_5_6_7_8_9_51 rfl rfl rfl (by decide) (by decide) (Nat.le_of_ble_eq_true rfl) rfl ?_
  have hg_3 : cnS S 3 ≤ mK S := zc_le _ _
  refine z_istore C dL_settles_102 (Nat.le_of_ble_eq_true rfl) ?_
  refine z_lv (lv' := [some (.ref x0), some (.int g), some (.int (nI 0)), some (.int (nI (mK S))), some (.int (nI x)), some (.int (nI (kN S x))), some (.int (nI 1)), some (.int (nI (cnS S 2))), some (.int (nI (cnS S 1))), some (.int (nI (cnS S 3))), none, none, none, none, none, none, none, none, none, none, none]) rfl ?_
  refine z_aload_n C 0 dL_settles_104 rfl rfl ?_
  refine z_iload C dL_settles_105 rfl ?_
  refine z_iconst C (nI 3) dL_settles_107 (by decide) ?_
  refine z_callVr C kX5_change gL_settles_X5_change (l_chg3y X.2.1 x0 h0 w0 t S x P hG hx hl) dL_settles_108 [0, 1, 2, 3, 4, 5, 6, 7, 8] [] 0 rfl nd_0_1_2_3_4_5_6_7_8 rfl rfl rfl (by decide) (by decide) (Nat.le_of_ble_eq_true rfl) rfl ?_
  refine z_istore C dL_settles_111 (Nat.le_of_ble_eq_true rfl) ?_
  refine z_lv (lv' := [some (.ref x0), some (.int g), some (.int (nI 0)), some (.int (nI (mK S))), some (.int (nI x)), some (.int (nI (kN S x))), some (.int (nI 1)), some (.int (nI (cnS S 2))), some (.int (nI (cnS S 1))), some (.int (nI (cnS S 3))), some (.int (nI P)), none, none, none, none, none, none, none, none, none, none]) rfl ?_
  refine z_aload_n C 0 dL_settles_113 rfl rfl ?_
  refine z_iload C dL_settles_114 rfl ?_
  refine z_iconst C (nI 4) dL_settles_116 (by decide) ?_
  refine z_callVr C kX5_change gL_settles_X5_change (l_chg4y X.2.1 x0 h0 w0 t S x Q9 hG hx hl1) dL_settles_117 [0, 1, 2, 3, 4, 5, 6, 7, 8] [] 0 rfl nd_0_1_2_3_4_5_6_7_8 rfl rfl rfl (by decide) (by decide) (Nat.le_of_ble_eq_true rfl) rfl ?_
  refine z_istore C dL_settles_120 (Nat.le_of_ble_eq_true rfl) ?_
  refine z_lv (lv' := [some (.ref x0), some (.int g), some (.int (nI 0)), some (.int (nI (mK S))), some (.int (nI x)), some (.int (nI (kN S x))), some (.int (nI 1)), some (.int (nI (cnS S 2))), some (.int (nI (cnS S 1))), some (.int (nI (cnS S 3))), some (.int (nI P)), some (.int (nI Q9)), none, none, none, none, none, none, none, none, none]) rfl ?_
  refine z_iload C dL_settles_122 rfl ?_
  refine z_iconst C (nI 2) dL_settles_124 (by decide) ?_
  refine z_idiv C dL_settles_125 (by decide) ?_
  refine z_top (y := nI 2) (by rw [hk]; decide) ?_
  refine z_istore C dL_settles_126 (Nat.le_of_ble_eq_true rfl) ?_
  refine z_lv (lv' := [some (.ref x0), some (.int g), some (.int (nI 0)), some (.int (nI (mK S))), some (.int (nI x)), some (.int (nI (kN S x))), some (.int (nI 1)), some (.int (nI (cnS S 2))), some (.int (nI (cnS S 1))), some (.int (nI (cnS S 3))), some (.int (nI P)), some (.int (nI Q9)), some (.int (nI 2)), none, none, none, none, none, none, none, none]) rfl ?_
  refine z_iload_n C 2 dL_settles_128 rfl rfl ?_
  refine z_nif_eq_t C 152 dL_settles_129 (by decide) (by omega) (by omega) ?_
  refine z_iload C dL_settles_152 rfl ?_
  refine z_nif_eq_f C 163 dL_settles_154 (by decide) (by omega) (by omega) ?_
  refine z_iload C dL_settles_157 rfl ?_
  refine z_iconst C (nI 2) dL_settles_159 (by decide) ?_
  refine z_ncmp_ne_t C 167 dL_settles_160 (by decide) (by omega) (by omega) (by omega) ?_
  refine z_iconst C (nI 0) dL_settles_167 (by decide) ?_
  refine z_istore C dL_settles_168 (Nat.le_of_ble_eq_true rfl) ?_
  refine z_lv (lv' := [some (.ref x0), some (.int g), some (.int (nI 0)), some (.int (nI (mK S))), some (.int (nI x)), some (.int (nI (kN S x))), some (.int (nI 1)), some (.int (nI (cnS S 2))), some (.int (nI (cnS S 1))), some (.int (nI (cnS S 3))), some (.int (nI P)), some (.int (nI Q9)), some (.int (nI 2)), some (.int (nI 0)), none, none, none, none, none, none, none]) rfl ?_
  refine z_iload C dL_settles_170 rfl ?_
  refine z_iconst C (nI 4) dL_settles_172 (by decide) ?_
  refine z_ncmp_ne_f C 180 dL_settles_173 (by decide) (by omega) (by omega) (by omega) ?_
  refine z_iconst C (nI 0) dL_settles_176 (by decide) ?_
  refine z_goto C 187 dL_settles_177 (by decide) ?_
  refine z_istore C dL_settles_187 (Nat.le_of_ble_eq_true rfl) ?_
  refine z_lv (lv' := [some (.ref x0), some (.int g), some (.int (nI 0)), some (.int (nI (mK S))), some (.int (nI x)), some (.int (nI (kN S x))), some (.int (nI 1)), some (.int (nI (cnS S 2))), some (.int (nI (cnS S 1))), some (.int (nI (cnS S 3))), some (.int (nI P)), some (.int (nI Q9)), some (.int (nI 2)), some (.int (nI 0)), some (.int (nI 0)), none, none, none, none, none, none]) rfl ?_
  refine z_aload_n C 0 dL_settles_189 rfl rfl ?_
  refine z_iload C dL_settles_190 rfl ?_
  refine z_iconst C (nI 5) dL_settles_192 (by decide) ?_
  refine z_callVr C kX5_change gL_settles_X5_change (l_chg5y X.2.1 x0 h0 w0 t S x hG hx hk) dL_settles_193 [0, 1, 2, 3, 4, 5, 6, 7, 8] [] 0 rfl nd_0_1_2_3_4_5_6_7_8 rfl rfl rfl (by decide) (by decide) (Nat.le_of_ble_eq_true rfl) rfl ?_
  refine z_istore C dL_settles_196 (Nat.le_of_ble_eq_true rfl) ?_
  refine z_lv (lv' := [some (.ref x0), some (.int g), some (.int (nI 0)), some (.int (nI (mK S))), some (.int (nI x)), some (.int (nI (kN S x))), some (.int (nI 1)), some (.int (nI (cnS S 2))), some (.int (nI (cnS S 1))), some (.int (nI (cnS S 3))), some (.int (nI P)), some (.int (nI Q9)), some (.int (nI 2)), some (.int (nI 0)), some (.int (nI 0)), some (.int (nI (vN S x))), none, none, none, none, none]) rfl ?_
  refine z_iload C dL_settles_198 rfl ?_
  refine z_iconst C (nI 4) dL_settles_200 (by decide) ?_
  refine z_ncmp_eq_t C 209 dL_settles_201 (by decide) (by omega) (by omega) (by omega) ?_
  refine z_iconst C (nI 0) dL_settles_209 (by decide) ?_
  refine z_goto C 232 dL_settles_210 (by decide) ?_
  refine z_istore C dL_settles_232 (Nat.le_of_ble_eq_true rfl) ?_
  refine z_lv (lv' := [some (.ref x0), some (.int g), some (.int (nI 0)), some (.int (nI (mK S))), some (.int (nI x)), some (.int (nI (kN S x))), some (.int (nI 1)), some (.int (nI (cnS S 2))), some (.int (nI (cnS S 1))), some (.int (nI (cnS S 3))), some (.int (nI P)), some (.int (nI Q9)), some (.int (nI 2)), some (.int (nI 0)), some (.int (nI 0)), some (.int (nI (vN S x))), some (.int (nI 0)), none, none, none, none]) rfl ?_
  refine z_iload C dL_settles_234 rfl ?_
  refine z_nif_ne_t C 244 dL_settles_236 (by decide) (by omega) (by omega) ?_
  refine z_iconst C (nI 1) dL_settles_244 (by decide) ?_
  refine z_aload_n C 0 dL_settles_245 rfl rfl ?_
  refine z_iload C dL_settles_246 rfl ?_
  refine z_iload_n C 2 dL_settles_248 rfl rfl ?_
  refine z_nif_eq_t C 257 dL_settles_249 (by decide) (by omega) (by omega) ?_
  refine z_bipush C (nI 8) dL_settles_257 (by decide) ?_
  refine z_callVr C kX5_change gL_settles_X5_change (l_chg8 X.2.1 x0 h0 w0 t S x hG hx) dL_settles_259 [0, 1, 2, 3, 4, 5, 6, 7, 8] [.int (nI 1)] 0 rfl nd_0_1_2_3_4_5_6_7_8 rfl rfl rfl (by decide) (by decide) (Nat.le_of_ble_eq_true rfl) rfl ?_
  have hg_4 : zc (dpt S x) (mK S) ≤ mK S := zc_le _ _
  refine z_iadd C dL_settles_262 ?_
  refine z_top (y := nI (1 + (zc (dpt S x) (mK S)))) (nI_add _ _) ?_
  refine z_istore C dL_settles_263 (Nat.le_of_ble_eq_true rfl) ?_
  refine z_lv (lv' := [some (.ref x0), some (.int g), some (.int (nI 0)), some (.int (nI (mK S))), some (.int (nI x)), some (.int (nI (kN S x))), some (.int (nI 1)), some (.int (nI (cnS S 2))), some (.int (nI (cnS S 1))), some (.int (nI (cnS S 3))), some (.int (nI P)), some (.int (nI Q9)), some (.int (nI 2)), some (.int (nI 0)), some (.int (nI 0)), some (.int (nI (vN S x))), some (.int (nI 0)), some (.int (nI (1 + (zc (dpt S x) (mK S))))), none, none, none]) rfl ?_
  refine z_iload_n C 2 dL_settles_265 rfl rfl ?_
  refine z_nif_eq_t C 278 dL_settles_266 (by decide) (by omega) (by omega) ?_
  refine z_aload_n C 0 dL_settles_278 rfl rfl ?_
  refine z_iload C dL_settles_279 rfl ?_
  refine z_callV (wn := (WRd X.2.1 x0 h0 h1 w0 w1 t r S1 o1 kp1 Q1 tx ln ps)) C kX5_reject gL_settles_X5_reject m1 dL_settles_281 [0, 1, 2, 3, 4, 5, 6, 7, 8, 9, 10, 11, 12, 13, 14, 15, 16, 17, 18, 19, 20, 21, 22, 23, 24, 25, 26, 27, 28, 29, 30, 31, 32, 33, 34, 35, 36, 37, 38, 39, 40, 41, 42, 43, 44, 45, 46, 47, 48, 49, 50] [] 0 rfl rfl nd_0_1_2_3_4_5_6_7_8_9_10_11_12_13_14_15_16_17_18_19_20_21_22_23_24_25_26_27_28_29_30_31_32_33_34_35_36_37_38_39_40_41_42_43_44_45_46_47_48_49_50 rfl rfl rfl (by decide) (by decide) (Nat.le_of_ble_eq_true rfl) rfl ((zput_par nd_0_1_2_3_4_5_6_7_8_9_10_11_12_13_14_15_16_17_18_19_20_21_22_23_24_25_26_27_28_29_30_31_32_33_34_35_36_37_38_39_40_41_42_43_44_45_46_47_48_49_50 rfl).trans rfl) ?_
  refine z_istore C dL_settles_284 (Nat.le_of_ble_eq_true rfl) ?_
  refine z_lv (lv' := [some (.ref x0), some (.int g), some (.int (nI 0)), some (.int (nI (mK S))), some (.int (nI x)), some (.int (nI (kN S x))), some (.int (nI 1)), some (.int (nI (cnS S 2))), some (.int (nI (cnS S 1))), some (.int (nI (cnS S 3))), some (.int (nI P)), some (.int (nI Q9)), some (.int (nI 2)), some (.int (nI 0)), some (.int (nI 0)), some (.int (nI (vN S x))), some (.int (nI 0)), some (.int (nI (1 + (zc (dpt S x) (mK S))))), some (.int (nI (1 + zc (dpt S x) (mK S)))), none, none]) rfl ?_
  refine z_iload C dL_settles_286 rfl ?_
  refine z_iload C dL_settles_288 rfl ?_
  refine z_ncmp_ne_f C 311 dL_settles_290 (by decide) (by omega) (by omega) (by omega) ?_
  refine z_aload_n C 0 dL_settles_293 rfl rfl ?_
  refine z_iload_n C 2 dL_settles_294 rfl rfl ?_
  refine z_nif_eq_t C 302 dL_settles_295 (by decide) (by omega) (by omega) ?_
  refine z_iconst C (nI 2) dL_settles_302 (by decide) ?_
  refine z_callVr C kX5_count gL_settles_X5_count (l_cntK X.2.1 x0 h0 h1 w0 w1 t S1 o1 kp1 ln ps 1 hG1 (by decide)) dL_settles_303 [0, 1, 2, 3, 4, 5, 6, 7, 8, 9, 51] [] 0 rfl nd_0_1_2_3_4_5_6_7_8_9_51 rfl rfl rfl (by decide) (by decide) (Nat.le_of_ble_eq_true rfl) rfl ?_
  have hg_5 : cnS S1 1 ≤ mK S1 := zc_le _ _
  refine z_iload C dL_settles_306 rfl ?_
  refine z_ncmp_eq_t C 313 dL_settles_308 (by decide) (by omega) (by omega) (by omega) ?_
  refine z_iload C dL_settles_313 rfl ?_
  refine z_nif_ne_t C 320 dL_settles_315 (by decide) (by omega) (by omega) ?_
  refine z_iload_n C 2 dL_settles_320 rfl rfl ?_
  refine z_nif_eq_t C 333 dL_settles_321 (by decide) (by omega) (by omega) ?_
  refine z_iconst C (nI 0) dL_settles_333 (by decide) ?_
  refine z_istore C dL_settles_334 (Nat.le_of_ble_eq_true rfl) ?_
  refine z_lv (lv' := [some (.ref x0), some (.int g), some (.int (nI 0)), some (.int (nI (mK S))), some (.int (nI x)), some (.int (nI (kN S x))), some (.int (nI 1)), some (.int (nI (cnS S 2))), some (.int (nI (cnS S 1))), some (.int (nI (cnS S 3))), some (.int (nI P)), some (.int (nI Q9)), some (.int (nI 2)), some (.int (nI 0)), some (.int (nI 0)), some (.int (nI (vN S x))), some (.int (nI 0)), some (.int (nI (1 + (zc (dpt S x) (mK S))))), some (.int (nI (1 + zc (dpt S x) (mK S)))), some (.int (nI 0)), none]) rfl ?_
  refine z_aload_n C 0 dL_settles_336 rfl rfl ?_
  refine z_iload_n C 2 dL_settles_337 rfl rfl ?_
  refine z_nif_eq_t C 345 dL_settles_338 (by decide) (by omega) (by omega) ?_
  refine z_iconst C (nI 3) dL_settles_345 (by decide) ?_
  refine z_callVr C kX5_count gL_settles_X5_count (l_cntK X.2.1 x0 h0 h1 w0 w1 t S1 o1 kp1 ln ps 2 hG1 (by decide)) dL_settles_346 [0, 1, 2, 3, 4, 5, 6, 7, 8, 9, 51] [] 0 rfl nd_0_1_2_3_4_5_6_7_8_9_51 rfl rfl rfl (by decide) (by decide) (Nat.le_of_ble_eq_true rfl) rfl ?_
  have hg_6 : cnS S1 2 ≤ mK S1 := zc_le _ _
  refine z_iload C dL_settles_349 rfl ?_
  refine z_iload C dL_settles_351 rfl ?_
  refine z_iadd C dL_settles_353 ?_
  refine z_top (y := nI ((cnS S 2) + (1 + (zc (dpt S x) (mK S))))) (nI_add _ _) ?_
  refine z_ncmp_ne_f C 402 dL_settles_354 (by decide) (by omega) (by omega) (by omega) ?_
  refine z_aload_n C 0 dL_settles_357 rfl rfl ?_
  refine z_iconst C (nI 4) dL_settles_358 (by decide) ?_
  refine z_callVr C kX5_count gL_settles_X5_count (l_cntK X.2.1 x0 h0 h1 w0 w1 t S1 o1 kp1 ln ps 3 hG1 (by decide)) dL_settles_359 [0, 1, 2, 3, 4, 5, 6, 7, 8, 9, 51] [] 0 rfl nd_0_1_2_3_4_5_6_7_8_9_51 rfl rfl rfl (by decide) (by decide) (Nat.le_of_ble_eq_true rfl) rfl ?_
  have hg_7 : cnS S1 3 ≤ mK S1 := zc_le _ _
  refine z_iload C dL_settles_362 rfl ?_
  refine z_iload C dL_settles_364 rfl ?_
  refine z_nif_eq_t C 374 dL_settles_366 (by decide) (by omega) (by omega) ?_
  refine z_iconst C (nI 0) dL_settles_374 (by decide) ?_
  refine z_iadd C dL_settles_375 ?_
  refine z_top (y := nI (cnS S 3)) (nI_add _ _) ?_
  refine z_ncmp_ne_f C 402 dL_settles_376 (by decide) (by omega) (by omega) (by omega) ?_
  refine z_aload_n C 0 dL_settles_379 rfl rfl ?_
  refine z_iload C dL_settles_380 rfl ?_
  refine z_iconst C (nI 2) dL_settles_382 (by decide) ?_
  refine z_callVr C kX5_change gL_settles_X5_change (l_chg2 X.2.1 x0 h0 w0 t S1 x hG1 (by omega)) dL_settles_383 [0, 1, 2, 3, 4, 5, 6, 7, 8] [] 0 rfl nd_0_1_2_3_4_5_6_7_8 rfl rfl rfl (by decide) (by decide) (Nat.le_of_ble_eq_true rfl) rfl ?_
  refine z_iload_n C 2 dL_settles_386 rfl rfl ?_
  refine z_nif_eq_t C 394 dL_settles_387 (by decide) (by omega) (by omega) ?_
  refine z_iconst C (nI 2) dL_settles_394 (by decide) ?_
  refine z_ncmp_ne_f C 402 dL_settles_395 (by decide) (by omega) (by omega) (by omega) ?_
  refine z_iconst C (nI 1) dL_settles_398 (by decide) ?_
  refine z_goto C 403 dL_settles_399 (by decide) ?_
  refine z_istore C dL_settles_403 (Nat.le_of_ble_eq_true rfl) ?_
  refine z_lv (lv' := [some (.ref x0), some (.int g), some (.int (nI 0)), some (.int (nI (mK S))), some (.int (nI x)), some (.int (nI (kN S x))), some (.int (nI 1)), some (.int (nI (cnS S 2))), some (.int (nI (cnS S 1))), some (.int (nI (cnS S 3))), some (.int (nI P)), some (.int (nI Q9)), some (.int (nI 2)), some (.int (nI 0)), some (.int (nI 0)), some (.int (nI (vN S x))), some (.int (nI 0)), some (.int (nI (1 + (zc (dpt S x) (mK S))))), some (.int (nI (1 + zc (dpt S x) (mK S)))), some (.int (nI 0)), some (.int (nI 1))]) rfl ?_
  refine z_iload C dL_settles_405 rfl ?_
  refine z_iconst C (nI 4) dL_settles_407 (by decide) ?_
  refine z_ncmp_ne_f C 496 dL_settles_408 (by decide) (by omega) (by omega) (by omega) ?_
  refine z_iload C dL_settles_411 rfl ?_
  refine z_nif_eq_f C 494 dL_settles_413 (by decide) (by omega) (by omega) ?_
  refine z_iload_n C 2 dL_settles_416 rfl rfl ?_
  refine z_nif_eq_t C 490 dL_settles_417 (by decide) (by omega) (by omega) ?_
  refine z_iconst C (nI 1) dL_settles_490 (by decide) ?_
  refine z_goto C 495 dL_settles_491 (by decide) ?_
  exact z_zret C N dL_settles_495 rfl (rfl) (rfl)
