set_option maxHeartbeats 4000000 in
set_option maxRecDepth 100000 in
theorem w_setz0 (E : zE) (x0 h0 h1 w0 w1 : Nat) (t : Nat → Nat) (r : Nat → Nat → Nat) (S S1 : zSt) (o kp kp1 o1 : Nat) (Q Q1 : Nat → zSt) (tx : Nat → Nat) (ln : Nat) (ps : zPs) {B B1 : Nat} (au : Nat) (g h : Int32) (hG : GG S B) (hG1 : GG S1 B1) (hau : au < 4) (hz : uU S 0 = 0) (m1 : zM E yX5_set wsX5_set 6 [.ref x0, .int (nI au), .int (nI 0), .int (nI 0), .int (nI 1)] (WAd E x0 h0 h1 w0 t r S o kp Q) (WAd E x0 h0 h1 w0 t r S1 o1 kp1 Q1) (some (.int (-1)))) : zM E yL_sets wsL_sets 7 [.ref x0, .int (nI au), .int g, .int h] (WRd E x0 h0 h1 w0 w1 t r S o kp Q tx ln ps) (WRd E x0 h0 h1 w0 w1 t r S1 o1 kp1 Q1 tx ln ps) (some (.int (nI 1))) := by
  refine zM.of kL_sets (Nat.le_of_ble_eq_true rfl) rfl [some (.ref x0), some (.int (nI au)), some (.int g), some (.int h), none, none, none, none, none, none, none, none, none, none, none, none, none, none] rfl (Nat.le_of_ble_eq_true rfl) ?_
  intro X eX C N
  subst eX
  have hb0 : uU S 0 ≤ 12 := gg_u hG 0
  have hb1 : uU S 1 ≤ 8 := gg_u1 hG
  have hb2 : mK S ≤ 60 := gg_M hG
  have hb3 : uU S1 0 ≤ 12 := gg_u hG1 0
  have hb4 : uU S1 1 ≤ 8 := gg_u1 hG1
  have hb5 : mK S1 ≤ 60 := gg_M hG1
  refine z_aload_n C 0 dL_sets_0 rfl rfl ?_
  refine z_iconst C (nI 0) dL_sets_1 (by decide) ?_
  refine z_iconst C (nI 0) dL_sets_2 (by decide) ?_
  refine z_callVr C kX5_size gL_sets_X5_size (l_size0 X.2.1 x0 h0 w0 t S 0 hG (by decide)) dL_sets_3 [0, 1, 2, 3, 4, 5, 6, 7, 8] [] 0 rfl nd_0_1_2_3_4_5_6_7_8 rfl rfl rfl (by decide) (by decide) (Nat.le_of_ble_eq_true rfl) rfl ?_
  refine z_istore C dL_sets_6 (Nat.le_of_ble_eq_true rfl) ?_
  refine z_lv (lv' := [some (.ref x0), some (.int (nI au)), some (.int g), some (.int h), some (.int (nI (uU S 0))), none, none, none, none, none, none, none, none, none, none, none, none, none]) rfl ?_
  refine z_aload_n C 0 dL_sets_8 rfl rfl ?_
  refine z_iconst C (nI 0) dL_sets_9 (by decide) ?_
  refine z_iconst C (nI 1) dL_sets_10 (by decide) ?_
  refine z_callVr C kX5_size gL_sets_X5_size (l_size0 X.2.1 x0 h0 w0 t S 1 hG (by decide)) dL_sets_11 [0, 1, 2, 3, 4, 5, 6, 7, 8] [] 0 rfl nd_0_1_2_3_4_5_6_7_8 rfl rfl rfl (by decide) (by decide) (Nat.le_of_ble_eq_true rfl) rfl ?_
  refine z_istore C dL_sets_14 (Nat.le_of_ble_eq_true rfl) ?_
  refine z_lv (lv' := [some (.ref x0), some (.int (nI au)), some (.int g), some (.int h), some (.int (nI (uU S 0))), some (.int (nI (uU S 1))), none, none, none, none, none, none, none, none, none, none, none, none]) rfl ?_
  refine z_iload C dL_sets_16 rfl ?_
  refine z_nif_eq_t C 26 dL_sets_18 (by decide) (by omega) (by omega) ?_
  refine z_aload_n C 0 dL_sets_26 rfl rfl ?_
  refine z_iload_n C 1 dL_sets_27 rfl rfl ?_
  refine z_iconst C (nI 0) dL_sets_28 (by decide) ?_
  refine z_iconst C (nI 0) dL_sets_29 (by decide) ?_
  refine z_iconst C (nI 1) dL_sets_30 (by decide) ?_
  refine z_callV (wn := (WRd X.2.1 x0 h0 h1 w0 w1 t r S1 o1 kp1 Q1 tx ln ps)) C kX5_set gL_sets_X5_set m1 dL_sets_31 [0, 1, 2, 3, 4, 5, 6, 7, 8, 9, 10, 11, 12, 13, 14, 15, 16, 17, 18, 19, 20, 21, 22, 23, 24, 25, 26, 27, 28, 29, 30, 31, 32, 33, 34, 35, 36, 37, 38, 39, 40, 41, 42, 43, 44, 45, 46, 47, 48, 49, 50] [] 0 rfl rfl nd_0_1_2_3_4_5_6_7_8_9_10_11_12_13_14_15_16_17_18_19_20_21_22_23_24_25_26_27_28_29_30_31_32_33_34_35_36_37_38_39_40_41_42_43_44_45_46_47_48_49_50 rfl rfl rfl (by decide) (by decide) (Nat.le_of_ble_eq_true rfl) rfl ((zput_par nd_0_1_2_3_4_5_6_7_8_9_10_11_12_13_14_15_16_17_18_19_20_21_22_23_24_25_26_27_28_29_30_31_32_33_34_35_36_37_38_39_40_41_42_43_44_45_46_47_48_49_50 rfl).trans rfl) ?_
  refine z_iconst C (-1) dL_sets_34 (by decide) ?_
  refine z_icmp_ne_f C 42 dL_sets_35 (by decide) rfl ?_
  refine z_iconst C (nI 1) dL_sets_38 (by decide) ?_
  refine z_goto C 43 dL_sets_39 (by decide) ?_
  exact z_zret C N dL_sets_43 rfl (rfl) (rfl)

set_option maxHeartbeats 4000000 in
set_option maxRecDepth 100000 in
theorem w_setz1 (E : zE) (x0 h0 h1 w0 w1 : Nat) (t : Nat → Nat) (r : Nat → Nat → Nat) (S S1 : zSt) (o kp kp1 o1 : Nat) (Q Q1 : Nat → zSt) (tx : Nat → Nat) (ln : Nat) (ps : zPs) {B B1 : Nat} (au : Nat) (g h : Int32) (hG : GG S B) (hG1 : GG S1 B1) (hau : au < 4) (hz : 0 < uU S 0) (hz1 : uU S 1 = 0) (m1 : zM E yX5_set wsX5_set 6 [.ref x0, .int (nI au), .int (nI 0), .int (nI 0), .int (nI 1)] (WAd E x0 h0 h1 w0 t r S o kp Q) (WAd E x0 h0 h1 w0 t r S1 o1 kp1 Q1) (some (.int (-1)))) : zM E yL_sets wsL_sets 7 [.ref x0, .int (nI au), .int g, .int h] (WRd E x0 h0 h1 w0 w1 t r S o kp Q tx ln ps) (WRd E x0 h0 h1 w0 w1 t r S1 o1 kp1 Q1 tx ln ps) (some (.int (nI 1))) := by
  refine zM.of kL_sets (Nat.le_of_ble_eq_true rfl) rfl [some (.ref x0), some (.int (nI au)), some (.int g), some (.int h), none, none, none, none, none, none, none, none, none, none, none, none, none, none] rfl (Nat.le_of_ble_eq_true rfl) ?_
  intro X eX C N
  subst eX
  have hb0 : uU S 0 ≤ 12 := gg_u hG 0
  have hb1 : uU S 1 ≤ 8 := gg_u1 hG
  have hb2 : mK S ≤ 60 := gg_M hG
  have hb3 : uU S1 0 ≤ 12 := gg_u hG1 0
  have hb4 : uU S1 1 ≤ 8 := gg_u1 hG1
  have hb5 : mK S1 ≤ 60 := gg_M hG1
  refine z_aload_n C 0 dL_sets_0 rfl rfl ?_
  refine z_iconst C (nI 0) dL_sets_1 (by decide) ?_
  refine z_iconst C (nI 0) dL_sets_2 (by decide) ?_
  refine z_callVr C kX5_size gL_sets_X5_size (l_size0 X.2.1 x0 h0 w0 t S 0 hG (by decide)) dL_sets_3 [0, 1, 2, 3, 4, 5, 6, 7, 8] [] 0 rfl nd_0_1_2_3_4_5_6_7_8 rfl rfl rfl (by decide) (by decide) (Nat.le_of_ble_eq_true rfl) rfl ?_
  refine z_istore C dL_sets_6 (Nat.le_of_ble_eq_true rfl) ?_
  refine z_lv (lv' := [some (.ref x0), some (.int (nI au)), some (.int g), some (.int h), some (.int (nI (uU S 0))), none, none, none, none, none, none, none, none, none, none, none, none, none]) rfl ?_
  refine z_aload_n C 0 dL_sets_8 rfl rfl ?_
  refine z_iconst C (nI 0) dL_sets_9 (by decide) ?_
  refine z_iconst C (nI 1) dL_sets_10 (by decide) ?_
  refine z_callVr C kX5_size gL_sets_X5_size (l_size0 X.2.1 x0 h0 w0 t S 1 hG (by decide)) dL_sets_11 [0, 1, 2, 3, 4, 5, 6, 7, 8] [] 0 rfl nd_0_1_2_3_4_5_6_7_8 rfl rfl rfl (by decide) (by decide) (Nat.le_of_ble_eq_true rfl) rfl ?_
  refine z_istore C dL_sets_14 (Nat.le_of_ble_eq_true rfl) ?_
  refine z_lv (lv' := [some (.ref x0), some (.int (nI au)), some (.int g), some (.int h), some (.int (nI (uU S 0))), some (.int (nI (uU S 1))), none, none, none, none, none, none, none, none, none, none, none, none]) rfl ?_
  refine z_iload C dL_sets_16 rfl ?_
  refine z_nif_eq_f C 26 dL_sets_18 (by decide) (by omega) (by omega) ?_
  refine z_iload C dL_sets_21 rfl ?_
  refine z_nif_ne_f C 44 dL_sets_23 (by decide) (by omega) (by omega) ?_
  refine z_aload_n C 0 dL_sets_26 rfl rfl ?_
  refine z_iload_n C 1 dL_sets_27 rfl rfl ?_
  refine z_iconst C (nI 0) dL_sets_28 (by decide) ?_
  refine z_iconst C (nI 0) dL_sets_29 (by decide) ?_
  refine z_iconst C (nI 1) dL_sets_30 (by decide) ?_
  refine z_callV (wn := (WRd X.2.1 x0 h0 h1 w0 w1 t r S1 o1 kp1 Q1 tx ln ps)) C kX5_set gL_sets_X5_set m1 dL_sets_31 [0, 1, 2, 3, 4, 5, 6, 7, 8, 9, 10, 11, 12, 13, 14, 15, 16, 17, 18, 19, 20, 21, 22, 23, 24, 25, 26, 27, 28, 29, 30, 31, 32, 33, 34, 35, 36, 37, 38, 39, 40, 41, 42, 43, 44, 45, 46, 47, 48, 49, 50] [] 0 rfl rfl nd_0_1_2_3_4_5_6_7_8_9_10_11_12_13_14_15_16_17_18_19_20_21_22_23_24_25_26_27_28_29_30_31_32_33_34_35_36_37_38_39_40_41_42_43_44_45_46_47_48_49_50 rfl rfl rfl (by decide) (by decide) (Nat.le_of_ble_eq_true rfl) rfl ((zput_par nd_0_1_2_3_4_5_6_7_8_9_10_11_12_13_14_15_16_17_18_19_20_21_22_23_24_25_26_27_28_29_30_31_32_33_34_35_36_37_38_39_40_41_42_43_44_45_46_47_48_49_50 rfl).trans rfl) ?_
  refine z_iconst C (-1) dL_sets_34 (by decide) ?_
  refine z_icmp_ne_f C 42 dL_sets_35 (by decide) rfl ?_
  refine z_iconst C (nI 1) dL_sets_38 (by decide) ?_
  refine z_goto C 43 dL_sets_39 (by decide) ?_
  exact z_zret C N dL_sets_43 rfl (rfl) (rfl)

set_option maxHeartbeats 4000000 in
set_option maxRecDepth 100000 in
theorem w_setn0 (E : zE) (x0 h0 h1 w0 w1 : Nat) (t : Nat → Nat) (r : Nat → Nat → Nat) (S : zSt) (o kp kp1 kp2 o1 o2 : Nat) (Q Q1 Q2 : Nat → zSt) (tx : Nat → Nat) (ln : Nat) (ps : zPs) {B : Nat} (au : Nat) (g h : Int32) (rr cc v : Nat) (hG : GG S B) (hau : au < 4) (hR : lw g (uU S 0) = rr) (hr : rr < uU S 0) (hC : lw (g >>> (nI 4 &&& 31)) (uU S 1) = cc) (hc : cc < uU S 1) (hV : lw h 5 = v) (hv : v < 5) (hD0 : Dm S 0 rr = true) (m1 : zM E yX5_set wsX5_set 6 [.ref x0, .int (nI au), .int (nI rr), .int (nI cc), .int (nI v)] (WAd E x0 h0 h1 w0 t r S o kp Q) (WAd E x0 h0 h1 w0 t r S o1 kp1 Q1) (some (.int (-4)))) (m2 : zM E yX5_set wsX5_set 6 [.ref x0, .int (nI au), .int (nI rr), .int (nI cc), .int (nI 10000)] (WAd E x0 h0 h1 w0 t r S o1 kp1 Q1) (WAd E x0 h0 h1 w0 t r S o2 kp2 Q2) (some (.int (-2)))) : zM E yL_sets wsL_sets 7 [.ref x0, .int (nI au), .int g, .int h] (WRd E x0 h0 h1 w0 w1 t r S o kp Q tx ln ps) (WRd E x0 h0 h1 w0 w1 t r S o2 kp2 Q2 tx ln ps) (some (.int (nI 1))) := by
  refine zM.of kL_sets (Nat.le_of_ble_eq_true rfl) rfl [some (.ref x0), some (.int (nI au)), some (.int g), some (.int h), none, none, none, none, none, none, none, none, none, none, none, none, none, none] rfl (Nat.le_of_ble_eq_true rfl) ?_
  intro X eX C N
  subst eX
  have hb0 : uU S 0 ≤ 12 := gg_u hG 0
  have hb1 : uU S 1 ≤ 8 := gg_u1 hG
  have hb2 : mK S ≤ 60 := gg_M hG
  have hks : kS S rr cc ≤ mK S := zc_le _ _
  have hxr : xR S 0 rr < mK S := (Dm_t hD0).1
  refine z_aload_n C 0 dL_sets_0 rfl rfl ?_
  refine z_iconst C (nI 0) dL_sets_1 (by decide) ?_
  refine z_iconst C (nI 0) dL_sets_2 (by decide) ?_
  refine z_callVr C kX5_size gL_sets_X5_size (l_size0 X.2.1 x0 h0 w0 t S 0 hG (by decide)) dL_sets_3 [0, 1, 2, 3, 4, 5, 6, 7, 8] [] 0 rfl nd_0_1_2_3_4_5_6_7_8 rfl rfl rfl (by decide) (by decide) (Nat.le_of_ble_eq_true rfl) rfl ?_
  refine z_istore C dL_sets_6 (Nat.le_of_ble_eq_true rfl) ?_
  refine z_lv (lv' := [some (.ref x0), some (.int (nI au)), some (.int g), some (.int h), some (.int (nI (uU S 0))), none, none, none, none, none, none, none, none, none, none, none, none, none]) rfl ?_
  refine z_aload_n C 0 dL_sets_8 rfl rfl ?_
  refine z_iconst C (nI 0) dL_sets_9 (by decide) ?_
  refine z_iconst C (nI 1) dL_sets_10 (by decide) ?_
  refine z_callVr C kX5_size gL_sets_X5_size (l_size0 X.2.1 x0 h0 w0 t S 1 hG (by decide)) dL_sets_11 [0, 1, 2, 3, 4, 5, 6, 7, 8] [] 0 rfl nd_0_1_2_3_4_5_6_7_8 rfl rfl rfl (by decide) (by decide) (Nat.le_of_ble_eq_true rfl) rfl ?_
  refine z_istore C dL_sets_14 (Nat.le_of_ble_eq_true rfl) ?_
  refine z_lv (lv' := [some (.ref x0), some (.int (nI au)), some (.int g), some (.int h), some (.int (nI (uU S 0))), some (.int (nI (uU S 1))), none, none, none, none, none, none, none, none, none, none, none, none]) rfl ?_
  refine z_iload C dL_sets_16 rfl ?_
  refine z_nif_eq_f C 26 dL_sets_18 (by decide) (by omega) (by omega) ?_
  refine z_iload C dL_sets_21 rfl ?_
  refine z_nif_ne_t C 44 dL_sets_23 (by decide) (by omega) (by omega) ?_
  refine z_iload_n C 2 dL_sets_44 rfl rfl ?_
  refine z_iload C dL_sets_45 rfl ?_
  refine z_callS C kL_low gL_sets_L_low (l_low X.2.1 g (uU S 0) (by omega) (by omega)) dL_sets_47 [] rfl (by decide) (by decide) (Nat.le_of_ble_eq_true rfl) rfl ?_
  refine z_top (y := nI rr) (congrArg nI hR) ?_
  refine z_istore C dL_sets_50 (Nat.le_of_ble_eq_true rfl) ?_
  refine z_lv (lv' := [some (.ref x0), some (.int (nI au)), some (.int g), some (.int h), some (.int (nI (uU S 0))), some (.int (nI (uU S 1))), some (.int (nI rr)), none, none, none, none, none, none, none, none, none, none, none]) rfl ?_
  refine z_iload_n C 2 dL_sets_52 rfl rfl ?_
  refine z_iconst C (nI 4) dL_sets_53 (by decide) ?_
  refine z_ishr C dL_sets_54 ?_
  refine z_iload C dL_sets_55 rfl ?_
  refine z_callS C kL_low gL_sets_L_low (l_low X.2.1 (g >>> ((nI 4) &&& 31)) (uU S 1) (by omega) (by omega)) dL_sets_57 [] rfl (by decide) (by decide) (Nat.le_of_ble_eq_true rfl) rfl ?_
  refine z_top (y := nI cc) (congrArg nI hC) ?_
  refine z_istore C dL_sets_60 (Nat.le_of_ble_eq_true rfl) ?_
  refine z_lv (lv' := [some (.ref x0), some (.int (nI au)), some (.int g), some (.int h), some (.int (nI (uU S 0))), some (.int (nI (uU S 1))), some (.int (nI rr)), some (.int (nI cc)), none, none, none, none, none, none, none, none, none, none]) rfl ?_
  refine z_iload_n C 3 dL_sets_62 rfl rfl ?_
  refine z_iconst C (nI 5) dL_sets_63 (by decide) ?_
  refine z_callS C kL_low gL_sets_L_low (l_low X.2.1 h 5 (by decide) (by decide)) dL_sets_64 [] rfl (by decide) (by decide) (Nat.le_of_ble_eq_true rfl) rfl ?_
  refine z_top (y := nI v) (congrArg nI hV) ?_
  refine z_istore C dL_sets_67 (Nat.le_of_ble_eq_true rfl) ?_
  refine z_lv (lv' := [some (.ref x0), some (.int (nI au)), some (.int g), some (.int h), some (.int (nI (uU S 0))), some (.int (nI (uU S 1))), some (.int (nI rr)), some (.int (nI cc)), some (.int (nI v)), none, none, none, none, none, none, none, none, none]) rfl ?_
  refine z_aload_n C 0 dL_sets_69 rfl rfl ?_
  refine z_iconst C (nI 0) dL_sets_70 (by decide) ?_
  refine z_callVr C kX5_count gL_sets_X5_count (l_cnt0 X.2.1 x0 h0 h1 w0 w1 t S o kp ln ps  hG ) dL_sets_71 [0, 1, 2, 3, 4, 5, 6, 7, 8, 9, 51] [] 0 rfl nd_0_1_2_3_4_5_6_7_8_9_51 rfl rfl rfl (by decide) (by decide) (Nat.le_of_ble_eq_true rfl) rfl ?_
  refine z_istore C dL_sets_74 (Nat.le_of_ble_eq_true rfl) ?_
  refine z_lv (lv' := [some (.ref x0), some (.int (nI au)), some (.int g), some (.int h), some (.int (nI (uU S 0))), some (.int (nI (uU S 1))), some (.int (nI rr)), some (.int (nI cc)), some (.int (nI v)), some (.int (nI (mK S))), none, none, none, none, none, none, none, none]) rfl ?_
  refine z_aload_n C 0 dL_sets_76 rfl rfl ?_
  refine z_iconst C (nI 5) dL_sets_77 (by decide) ?_
  refine z_callVr C kX5_count gL_sets_X5_count (l_cnt5 X.2.1 x0 h0 h1 w0 w1 t S o kp ln ps  hG ) dL_sets_78 [0, 1, 2, 3, 4, 5, 6, 7, 8, 9, 51] [] 0 rfl nd_0_1_2_3_4_5_6_7_8_9_51 rfl rfl rfl (by decide) (by decide) (Nat.le_of_ble_eq_true rfl) rfl ?_
  refine z_iconst C (nI 1) dL_sets_81 (by decide) ?_
  refine z_icmp_ne C 89 dL_sets_82 (by decide) (fun h_1 => ?_) (fun h_1 => ?_)
  · refine z_iconst C (nI 0) dL_sets_89 (by decide) ?_
    refine z_istore C dL_sets_90 (Nat.le_of_ble_eq_true rfl) ?_
    refine z_lv (lv' := [some (.ref x0), some (.int (nI au)), some (.int g), some (.int h), some (.int (nI (uU S 0))), some (.int (nI (uU S 1))), some (.int (nI rr)), some (.int (nI cc)), some (.int (nI v)), some (.int (nI (mK S))), some (.int (nI 0)), none, none, none, none, none, none, none]) rfl ?_
    refine z_iconst C (nI 0) dL_sets_92 (by decide) ?_
    refine z_istore C dL_sets_93 (Nat.le_of_ble_eq_true rfl) ?_
    refine z_lv (lv' := [some (.ref x0), some (.int (nI au)), some (.int g), some (.int h), some (.int (nI (uU S 0))), some (.int (nI (uU S 1))), some (.int (nI rr)), some (.int (nI cc)), some (.int (nI v)), some (.int (nI (mK S))), some (.int (nI 0)), some (.int (nI 0)), none, none, none, none, none, none]) rfl ?_
    have hL95 : ∀ (dd95 : Nat) (n : Nat), kS S rr cc - n = dd95 → (n ≤ kS S rr cc) → zG X 0 0 (WRd X.2.1 x0 h0 h1 w0 w1 t r S o kp Q tx ln ps) [some (.ref x0), some (.int (nI au)), some (.int g), some (.int h), some (.int (nI (uU S 0))), some (.int (nI (uU S 1))), some (.int (nI rr)), some (.int (nI cc)), some (.int (nI v)), some (.int (nI (mK S))), some (.int (nI 0)), some (.int (nI n)), none, none, none, none, none, none] [] 95 := by
      intro dd95
      induction dd95 using Nat.strongRecOn with
      | _ dd95 ih95 =>
        intro n hdd95 hn
        refine z_aload_n C 0 dL_sets_95 rfl rfl ?_
        refine z_iload C dL_sets_96 rfl ?_
        refine z_iload C dL_sets_98 rfl ?_
        refine z_iload C dL_sets_100 rfl ?_
        rcases Nat.lt_or_ge (n) (kS S rr cc) with hq_2 | hq_2
        · have fk_3 : sX S rr cc n < mK S := (sX_f hG (by omega) (by omega) hq_2).1
          have fk_4 : kN S (sX S rr cc n) = 4 := (sX_f hG (by omega) (by omega) hq_2).2.1
          have fk_5 : sN S (sX S rr cc n) = 0 := (sX_f hG (by omega) (by omega) hq_2).2.2.1
          refine z_callVr C kX5_setting gL_sets_X5_setting (l_setY X.2.1 x0 h0 w0 t S rr cc n hG hr hc hq_2) dL_sets_102 [0, 1, 2, 3, 4, 5, 6, 7, 8] [] 0 rfl nd_0_1_2_3_4_5_6_7_8 rfl rfl rfl (by decide) (by decide) (Nat.le_of_ble_eq_true rfl) rfl ?_
          have hg_6 : sX S rr cc n < mK S := (sX_t hG (by omega)).1
          refine z_nif_lt_f C 114 dL_sets_105 (by decide) (by omega) (by trivial) ?_
          refine z_iinc C (nI (n + 1)) dL_sets_108 rfl (zi_1 _) ?_
          refine z_lv (lv' := [some (.ref x0), some (.int (nI au)), some (.int g), some (.int h), some (.int (nI (uU S 0))), some (.int (nI (uU S 1))), some (.int (nI rr)), some (.int (nI cc)), some (.int (nI v)), some (.int (nI (mK S))), some (.int (nI 0)), some (.int (nI (n + 1))), none, none, none, none, none, none]) rfl ?_
          refine z_goto C 95 dL_sets_111 (by decide) ?_
          exact ih95 (kS S rr cc - (n + 1)) (by omega) (n + 1) rfl (by omega)
        · refine z_callVr C kX5_setting gL_sets_X5_setting (l_setN X.2.1 x0 h0 w0 t S rr cc n hG hr hc hq_2 (by omega)) dL_sets_102 [0, 1, 2, 3, 4, 5, 6, 7, 8] [] 0 rfl nd_0_1_2_3_4_5_6_7_8 rfl rfl rfl (by decide) (by decide) (Nat.le_of_ble_eq_true rfl) rfl ?_
          refine z_if_lt_t C 114 dL_sets_105 (by decide) (by decide) ?_
          obtain rfl : n = kS S rr cc := (by omega)
          refine z_iload C dL_sets_114 rfl ?_
          refine z_nif_ne C 123 dL_sets_116 (by decide) (by omega) (fun h_7 => ?_) (fun h_7 => ?_)
          · have fq_8 : sX S rr cc (kS S rr cc - 1) < mK S := (sX_f hG hr hc (show kS S rr cc - 1 < kS S rr cc by omega)).1
            have fq_9 : kN S (sX S rr cc (kS S rr cc - 1)) = 4 := (sX_f hG hr hc (show kS S rr cc - 1 < kS S rr cc by omega)).2.1
            have fq_10 : sN S (sX S rr cc (kS S rr cc - 1)) = 0 := (sX_f hG hr hc (show kS S rr cc - 1 < kS S rr cc by omega)).2.2.1
            have fq_11 : aN S (sX S rr cc (kS S rr cc - 1)) < 4 := (aN_e hG (sX_f hG hr hc (show kS S rr cc - 1 < kS S rr cc by omega)).1).2
            have fq_12 : bN S (sX S rr cc (kS S rr cc - 1)) < 10000 := (bN_e hG (sX_f hG hr hc (show kS S rr cc - 1 < kS S rr cc by omega)).1 (sX_f hG hr hc (show kS S rr cc - 1 < kS S rr cc by omega)).2.1 (sX_f hG hr hc (show kS S rr cc - 1 < kS S rr cc by omega)).2.2.1).2
            refine z_aload_n C 0 dL_sets_123 rfl rfl ?_
            refine z_iload C dL_sets_124 rfl ?_
            refine z_iload C dL_sets_126 rfl ?_
            refine z_iload C dL_sets_128 rfl ?_
            refine z_iconst C (nI 1) dL_sets_130 (by decide) ?_
            refine z_isub C dL_sets_131 ?_
            refine z_top (y := nI ((kS S rr cc) - 1)) ((pk_sub (by omega)).trans (congrArg nI (by omega))) ?_
            refine z_callVr C kX5_setting gL_sets_X5_setting (l_setY X.2.1 x0 h0 w0 t S rr cc ((kS S rr cc) - 1) hG hr hc (by omega)) dL_sets_132 [0, 1, 2, 3, 4, 5, 6, 7, 8] [] 0 rfl nd_0_1_2_3_4_5_6_7_8 rfl rfl rfl (by decide) (by decide) (Nat.le_of_ble_eq_true rfl) rfl ?_
            have hg_13 : sX S rr cc ((kS S rr cc) - 1) < mK S := (sX_t hG (by omega)).1
            refine z_istore C dL_sets_135 (Nat.le_of_ble_eq_true rfl) ?_
            refine z_lv (lv' := [some (.ref x0), some (.int (nI au)), some (.int g), some (.int h), some (.int (nI (uU S 0))), some (.int (nI (uU S 1))), some (.int (nI rr)), some (.int (nI cc)), some (.int (nI v)), some (.int (nI (mK S))), some (.int (nI 0)), some (.int (nI (kS S rr cc))), some (.int (nI (sX S rr cc ((kS S rr cc) - 1)))), none, none, none, none, none]) rfl ?_
            refine z_iload C dL_sets_137 rfl ?_
            refine z_nif_lt_f C 157 dL_sets_139 (by decide) (by omega) (by trivial) ?_
            refine z_aload_n C 0 dL_sets_142 rfl rfl ?_
            refine z_iload C dL_sets_143 rfl ?_
            refine z_iconst C (nI 1) dL_sets_145 (by decide) ?_
            refine z_callVr C kX5_change gL_sets_X5_change (l_chg1 X.2.1 x0 h0 w0 t S (sX S rr cc ((kS S rr cc) - 1)) hG fq_8) dL_sets_146 [0, 1, 2, 3, 4, 5, 6, 7, 8] [] 0 rfl nd_0_1_2_3_4_5_6_7_8 rfl rfl rfl (by decide) (by decide) (Nat.le_of_ble_eq_true rfl) rfl ?_
            refine z_iload_n C 1 dL_sets_149 rfl rfl ?_
            refine z_ncmp_ne C 157 dL_sets_150 (by decide) (by omega) (by omega) (fun h_14 => ?_) (fun h_14 => ?_)
            · refine z_iconst C (nI 0) dL_sets_157 (by decide) ?_
              refine z_istore C dL_sets_158 (Nat.le_of_ble_eq_true rfl) ?_
              refine z_lv (lv' := [some (.ref x0), some (.int (nI au)), some (.int g), some (.int h), some (.int (nI (uU S 0))), some (.int (nI (uU S 1))), some (.int (nI rr)), some (.int (nI cc)), some (.int (nI v)), some (.int (nI (mK S))), some (.int (nI 0)), some (.int (nI (kS S rr cc))), some (.int (nI (sX S rr cc ((kS S rr cc) - 1)))), some (.int (nI 0)), none, none, none, none]) rfl ?_
              refine z_aload_n C 0 dL_sets_160 rfl rfl ?_
              refine z_iconst C (nI 0) dL_sets_161 (by decide) ?_
              refine z_iload C dL_sets_162 rfl ?_
              refine z_iconst C (nI 1) dL_sets_164 (by decide) ?_
              refine z_callVr C kX5_line gL_sets_X5_line (l_line1y X.2.1 x0 h0 w0 t S 0 rr hG (by decide) hr hD0) dL_sets_165 [0, 1, 2, 3, 4, 5, 6, 7, 8] [] 0 rfl nd_0_1_2_3_4_5_6_7_8 rfl rfl rfl (by decide) (by decide) (Nat.le_of_ble_eq_true rfl) rfl ?_
              refine z_nif_ge_t C 196 dL_sets_168 (by decide) (by omega) (by trivial) ?_
              refine z_iconst C (nI 1) dL_sets_196 (by decide) ?_
              refine z_goto C 201 dL_sets_197 (by decide) ?_
              refine z_istore C dL_sets_201 (Nat.le_of_ble_eq_true rfl) ?_
              refine z_lv (lv' := [some (.ref x0), some (.int (nI au)), some (.int g), some (.int h), some (.int (nI (uU S 0))), some (.int (nI (uU S 1))), some (.int (nI rr)), some (.int (nI cc)), some (.int (nI v)), some (.int (nI (mK S))), some (.int (nI 0)), some (.int (nI (kS S rr cc))), some (.int (nI (sX S rr cc ((kS S rr cc) - 1)))), some (.int (nI 0)), some (.int (nI 1)), none, none, none]) rfl ?_
              refine z_iload C dL_sets_203 rfl ?_
              refine z_nif_eq_t C 225 dL_sets_205 (by decide) (by omega) (by omega) ?_
              refine z_iconst C (nI 0) dL_sets_225 (by decide) ?_
              refine z_istore C dL_sets_226 (Nat.le_of_ble_eq_true rfl) ?_
              refine z_lv (lv' := [some (.ref x0), some (.int (nI au)), some (.int g), some (.int h), some (.int (nI (uU S 0))), some (.int (nI (uU S 1))), some (.int (nI rr)), some (.int (nI cc)), some (.int (nI v)), some (.int (nI (mK S))), some (.int (nI 0)), some (.int (nI (kS S rr cc))), some (.int (nI (sX S rr cc ((kS S rr cc) - 1)))), some (.int (nI 0)), some (.int (nI 1)), some (.int (nI 0)), none, none]) rfl ?_
              refine z_iload C dL_sets_228 rfl ?_
              refine z_nif_eq_f C 238 dL_sets_230 (by decide) (by omega) (by omega) ?_
              refine z_bipush C (-4) dL_sets_233 (by decide) ?_
              refine z_goto C 273 dL_sets_235 (by decide) ?_
              refine z_istore C dL_sets_273 (Nat.le_of_ble_eq_true rfl) ?_
              refine z_lv (lv' := [some (.ref x0), some (.int (nI au)), some (.int g), some (.int h), some (.int (nI (uU S 0))), some (.int (nI (uU S 1))), some (.int (nI rr)), some (.int (nI cc)), some (.int (nI v)), some (.int (nI (mK S))), some (.int (nI 0)), some (.int (nI (kS S rr cc))), some (.int (nI (sX S rr cc ((kS S rr cc) - 1)))), some (.int (nI 0)), some (.int (nI 1)), some (.int (nI 0)), some (.int (-4)), none]) rfl ?_
              refine z_aload_n C 0 dL_sets_275 rfl rfl ?_
              refine z_iload_n C 1 dL_sets_276 rfl rfl ?_
              refine z_iload C dL_sets_277 rfl ?_
              refine z_iload C dL_sets_279 rfl ?_
              refine z_iload C dL_sets_281 rfl ?_
              refine z_callV (wn := (WRd X.2.1 x0 h0 h1 w0 w1 t r S o1 kp1 Q1 tx ln ps)) C kX5_set gL_sets_X5_set m1 dL_sets_283 [0, 1, 2, 3, 4, 5, 6, 7, 8, 9, 10, 11, 12, 13, 14, 15, 16, 17, 18, 19, 20, 21, 22, 23, 24, 25, 26, 27, 28, 29, 30, 31, 32, 33, 34, 35, 36, 37, 38, 39, 40, 41, 42, 43, 44, 45, 46, 47, 48, 49, 50] [] 0 rfl rfl nd_0_1_2_3_4_5_6_7_8_9_10_11_12_13_14_15_16_17_18_19_20_21_22_23_24_25_26_27_28_29_30_31_32_33_34_35_36_37_38_39_40_41_42_43_44_45_46_47_48_49_50 rfl rfl rfl (by decide) (by decide) (Nat.le_of_ble_eq_true rfl) rfl ((zput_par nd_0_1_2_3_4_5_6_7_8_9_10_11_12_13_14_15_16_17_18_19_20_21_22_23_24_25_26_27_28_29_30_31_32_33_34_35_36_37_38_39_40_41_42_43_44_45_46_47_48_49_50 rfl).trans rfl) ?_
              refine z_iload C dL_sets_286 rfl ?_
              refine z_icmp_ne_f C 308 dL_sets_288 (by decide) rfl ?_
              refine z_aload_n C 0 dL_sets_291 rfl rfl ?_
              refine z_iload_n C 1 dL_sets_292 rfl rfl ?_
              refine z_iload C dL_sets_293 rfl ?_
              refine z_iload C dL_sets_295 rfl ?_
              refine z_sipush C (nI 10000) dL_sets_297 (by decide) ?_
              refine z_callV (wn := (WRd X.2.1 x0 h0 h1 w0 w1 t r S o2 kp2 Q2 tx ln ps)) C kX5_set gL_sets_X5_set m2 dL_sets_300 [0, 1, 2, 3, 4, 5, 6, 7, 8, 9, 10, 11, 12, 13, 14, 15, 16, 17, 18, 19, 20, 21, 22, 23, 24, 25, 26, 27, 28, 29, 30, 31, 32, 33, 34, 35, 36, 37, 38, 39, 40, 41, 42, 43, 44, 45, 46, 47, 48, 49, 50] [] 0 rfl rfl nd_0_1_2_3_4_5_6_7_8_9_10_11_12_13_14_15_16_17_18_19_20_21_22_23_24_25_26_27_28_29_30_31_32_33_34_35_36_37_38_39_40_41_42_43_44_45_46_47_48_49_50 rfl rfl rfl (by decide) (by decide) (Nat.le_of_ble_eq_true rfl) rfl ((zput_par nd_0_1_2_3_4_5_6_7_8_9_10_11_12_13_14_15_16_17_18_19_20_21_22_23_24_25_26_27_28_29_30_31_32_33_34_35_36_37_38_39_40_41_42_43_44_45_46_47_48_49_50 rfl).trans rfl) ?_
              refine z_bipush C (-2) dL_sets_303 (by decide) ?_
              refine z_icmp_eq_t C 310 dL_sets_305 (by decide) rfl ?_
              refine z_iload C dL_sets_310 rfl ?_
              refine z_if_ge_f C 336 dL_sets_312 (by decide) (by decide) ?_
              refine z_aload_n C 0 dL_sets_315 rfl rfl ?_
              refine z_iload C dL_sets_316 rfl ?_
              refine z_iload C dL_sets_318 rfl ?_
              refine z_iload C dL_sets_320 rfl ?_
              refine z_callVr C kX5_setting gL_sets_X5_setting (l_setN X.2.1 x0 h0 w0 t S rr cc (kS S rr cc) hG hr hc hn (by omega)) dL_sets_322 [0, 1, 2, 3, 4, 5, 6, 7, 8] [] 0 rfl nd_0_1_2_3_4_5_6_7_8 rfl rfl rfl (by decide) (by decide) (Nat.le_of_ble_eq_true rfl) rfl ?_
              refine z_bipush C (-5) dL_sets_325 (by decide) ?_
              refine z_icmp_ne_f C 334 dL_sets_327 (by decide) rfl ?_
              refine z_iconst C (nI 1) dL_sets_330 (by decide) ?_
              refine z_goto C 335 dL_sets_331 (by decide) ?_
              exact z_zret C N dL_sets_335 rfl (rfl) (rfl)
            · refine z_iconst C (nI 1) dL_sets_153 (by decide) ?_
              refine z_goto C 158 dL_sets_154 (by decide) ?_
              refine z_istore C dL_sets_158 (Nat.le_of_ble_eq_true rfl) ?_
              refine z_lv (lv' := [some (.ref x0), some (.int (nI au)), some (.int g), some (.int h), some (.int (nI (uU S 0))), some (.int (nI (uU S 1))), some (.int (nI rr)), some (.int (nI cc)), some (.int (nI v)), some (.int (nI (mK S))), some (.int (nI 0)), some (.int (nI (kS S rr cc))), some (.int (nI (sX S rr cc ((kS S rr cc) - 1)))), some (.int (nI 1)), none, none, none, none]) rfl ?_
              refine z_aload_n C 0 dL_sets_160 rfl rfl ?_
              refine z_iconst C (nI 0) dL_sets_161 (by decide) ?_
              refine z_iload C dL_sets_162 rfl ?_
              refine z_iconst C (nI 1) dL_sets_164 (by decide) ?_
              refine z_callVr C kX5_line gL_sets_X5_line (l_line1y X.2.1 x0 h0 w0 t S 0 rr hG (by decide) hr hD0) dL_sets_165 [0, 1, 2, 3, 4, 5, 6, 7, 8] [] 0 rfl nd_0_1_2_3_4_5_6_7_8 rfl rfl rfl (by decide) (by decide) (Nat.le_of_ble_eq_true rfl) rfl ?_
              refine z_nif_ge_t C 196 dL_sets_168 (by decide) (by omega) (by trivial) ?_
              refine z_iconst C (nI 1) dL_sets_196 (by decide) ?_
              refine z_goto C 201 dL_sets_197 (by decide) ?_
              refine z_istore C dL_sets_201 (Nat.le_of_ble_eq_true rfl) ?_
              refine z_lv (lv' := [some (.ref x0), some (.int (nI au)), some (.int g), some (.int h), some (.int (nI (uU S 0))), some (.int (nI (uU S 1))), some (.int (nI rr)), some (.int (nI cc)), some (.int (nI v)), some (.int (nI (mK S))), some (.int (nI 0)), some (.int (nI (kS S rr cc))), some (.int (nI (sX S rr cc ((kS S rr cc) - 1)))), some (.int (nI 1)), some (.int (nI 1)), none, none, none]) rfl ?_
              refine z_iload C dL_sets_203 rfl ?_
              refine z_nif_eq_f C 225 dL_sets_205 (by decide) (by omega) (by omega) ?_
              refine z_aload_n C 0 dL_sets_208 rfl rfl ?_
              refine z_iload C dL_sets_209 rfl ?_
              refine z_bipush C (nI 6) dL_sets_211 (by decide) ?_
              refine z_callVr C kX5_change gL_sets_X5_change (l_chg6y X.2.1 x0 h0 w0 t S (sX S rr cc ((kS S rr cc) - 1)) hG fq_8 fq_9 fq_10) dL_sets_213 [0, 1, 2, 3, 4, 5, 6, 7, 8] [] 0 rfl nd_0_1_2_3_4_5_6_7_8 rfl rfl rfl (by decide) (by decide) (Nat.le_of_ble_eq_true rfl) rfl ?_
              refine z_iload C dL_sets_216 rfl ?_
              refine z_ncmp_ne C 225 dL_sets_218 (by decide) (by omega) (by omega) (fun h_15 => ?_) (fun h_15 => ?_)
              · refine z_iconst C (nI 0) dL_sets_225 (by decide) ?_
                refine z_istore C dL_sets_226 (Nat.le_of_ble_eq_true rfl) ?_
                refine z_lv (lv' := [some (.ref x0), some (.int (nI au)), some (.int g), some (.int h), some (.int (nI (uU S 0))), some (.int (nI (uU S 1))), some (.int (nI rr)), some (.int (nI cc)), some (.int (nI v)), some (.int (nI (mK S))), some (.int (nI 0)), some (.int (nI (kS S rr cc))), some (.int (nI (sX S rr cc ((kS S rr cc) - 1)))), some (.int (nI 1)), some (.int (nI 1)), some (.int (nI 0)), none, none]) rfl ?_
                refine z_iload C dL_sets_228 rfl ?_
                refine z_nif_eq_f C 238 dL_sets_230 (by decide) (by omega) (by omega) ?_
                refine z_bipush C (-4) dL_sets_233 (by decide) ?_
                refine z_goto C 273 dL_sets_235 (by decide) ?_
                refine z_istore C dL_sets_273 (Nat.le_of_ble_eq_true rfl) ?_
                refine z_lv (lv' := [some (.ref x0), some (.int (nI au)), some (.int g), some (.int h), some (.int (nI (uU S 0))), some (.int (nI (uU S 1))), some (.int (nI rr)), some (.int (nI cc)), some (.int (nI v)), some (.int (nI (mK S))), some (.int (nI 0)), some (.int (nI (kS S rr cc))), some (.int (nI (sX S rr cc ((kS S rr cc) - 1)))), some (.int (nI 1)), some (.int (nI 1)), some (.int (nI 0)), some (.int (-4)), none]) rfl ?_
                refine z_aload_n C 0 dL_sets_275 rfl rfl ?_
                refine z_iload_n C 1 dL_sets_276 rfl rfl ?_
                refine z_iload C dL_sets_277 rfl ?_
                refine z_iload C dL_sets_279 rfl ?_
                refine z_iload C dL_sets_281 rfl ?_
                refine z_callV (wn := (WRd X.2.1 x0 h0 h1 w0 w1 t r S o1 kp1 Q1 tx ln ps)) C kX5_set gL_sets_X5_set m1 dL_sets_283 [0, 1, 2, 3, 4, 5, 6, 7, 8, 9, 10, 11, 12, 13, 14, 15, 16, 17, 18, 19, 20, 21, 22, 23, 24, 25, 26, 27, 28, 29, 30, 31, 32, 33, 34, 35, 36, 37, 38, 39, 40, 41, 42, 43, 44, 45, 46, 47, 48, 49, 50] [] 0 rfl rfl nd_0_1_2_3_4_5_6_7_8_9_10_11_12_13_14_15_16_17_18_19_20_21_22_23_24_25_26_27_28_29_30_31_32_33_34_35_36_37_38_39_40_41_42_43_44_45_46_47_48_49_50 rfl rfl rfl (by decide) (by decide) (Nat.le_of_ble_eq_true rfl) rfl ((zput_par nd_0_1_2_3_4_5_6_7_8_9_10_11_12_13_14_15_16_17_18_19_20_21_22_23_24_25_26_27_28_29_30_31_32_33_34_35_36_37_38_39_40_41_42_43_44_45_46_47_48_49_50 rfl).trans rfl) ?_
                refine z_iload C dL_sets_286 rfl ?_
                refine z_icmp_ne_f C 308 dL_sets_288 (by decide) rfl ?_
                refine z_aload_n C 0 dL_sets_291 rfl rfl ?_
                refine z_iload_n C 1 dL_sets_292 rfl rfl ?_
                refine z_iload C dL_sets_293 rfl ?_
                refine z_iload C dL_sets_295 rfl ?_
                refine z_sipush C (nI 10000) dL_sets_297 (by decide) ?_
                refine z_callV (wn := (WRd X.2.1 x0 h0 h1 w0 w1 t r S o2 kp2 Q2 tx ln ps)) C kX5_set gL_sets_X5_set m2 dL_sets_300 [0, 1, 2, 3, 4, 5, 6, 7, 8, 9, 10, 11, 12, 13, 14, 15, 16, 17, 18, 19, 20, 21, 22, 23, 24, 25, 26, 27, 28, 29, 30, 31, 32, 33, 34, 35, 36, 37, 38, 39, 40, 41, 42, 43, 44, 45, 46, 47, 48, 49, 50] [] 0 rfl rfl nd_0_1_2_3_4_5_6_7_8_9_10_11_12_13_14_15_16_17_18_19_20_21_22_23_24_25_26_27_28_29_30_31_32_33_34_35_36_37_38_39_40_41_42_43_44_45_46_47_48_49_50 rfl rfl rfl (by decide) (by decide) (Nat.le_of_ble_eq_true rfl) rfl ((zput_par nd_0_1_2_3_4_5_6_7_8_9_10_11_12_13_14_15_16_17_18_19_20_21_22_23_24_25_26_27_28_29_30_31_32_33_34_35_36_37_38_39_40_41_42_43_44_45_46_47_48_49_50 rfl).trans rfl) ?_
                refine z_bipush C (-2) dL_sets_303 (by decide) ?_
                refine z_icmp_eq_t C 310 dL_sets_305 (by decide) rfl ?_
                refine z_iload C dL_sets_310 rfl ?_
                refine z_if_ge_f C 336 dL_sets_312 (by decide) (by decide) ?_
                refine z_aload_n C 0 dL_sets_315 rfl rfl ?_
                refine z_iload C dL_sets_316 rfl ?_
                refine z_iload C dL_sets_318 rfl ?_
                refine z_iload C dL_sets_320 rfl ?_
                refine z_callVr C kX5_setting gL_sets_X5_setting (l_setN X.2.1 x0 h0 w0 t S rr cc (kS S rr cc) hG hr hc hn (by omega)) dL_sets_322 [0, 1, 2, 3, 4, 5, 6, 7, 8] [] 0 rfl nd_0_1_2_3_4_5_6_7_8 rfl rfl rfl (by decide) (by decide) (Nat.le_of_ble_eq_true rfl) rfl ?_
                refine z_bipush C (-5) dL_sets_325 (by decide) ?_
                refine z_icmp_ne_f C 334 dL_sets_327 (by decide) rfl ?_
                refine z_iconst C (nI 1) dL_sets_330 (by decide) ?_
                refine z_goto C 335 dL_sets_331 (by decide) ?_
                exact z_zret C N dL_sets_335 rfl (rfl) (rfl)
              · refine z_iconst C (nI 1) dL_sets_221 (by decide) ?_
                refine z_goto C 226 dL_sets_222 (by decide) ?_
                refine z_istore C dL_sets_226 (Nat.le_of_ble_eq_true rfl) ?_
                refine z_lv (lv' := [some (.ref x0), some (.int (nI au)), some (.int g), some (.int h), some (.int (nI (uU S 0))), some (.int (nI (uU S 1))), some (.int (nI rr)), some (.int (nI cc)), some (.int (nI v)), some (.int (nI (mK S))), some (.int (nI 0)), some (.int (nI (kS S rr cc))), some (.int (nI (sX S rr cc ((kS S rr cc) - 1)))), some (.int (nI 1)), some (.int (nI 1)), some (.int (nI 1)), none, none]) rfl ?_
                refine z_iload C dL_sets_228 rfl ?_
                refine z_nif_eq_f C 238 dL_sets_230 (by decide) (by omega) (by omega) ?_
                refine z_bipush C (-4) dL_sets_233 (by decide) ?_
                refine z_goto C 273 dL_sets_235 (by decide) ?_
                refine z_istore C dL_sets_273 (Nat.le_of_ble_eq_true rfl) ?_
                refine z_lv (lv' := [some (.ref x0), some (.int (nI au)), some (.int g), some (.int h), some (.int (nI (uU S 0))), some (.int (nI (uU S 1))), some (.int (nI rr)), some (.int (nI cc)), some (.int (nI v)), some (.int (nI (mK S))), some (.int (nI 0)), some (.int (nI (kS S rr cc))), some (.int (nI (sX S rr cc ((kS S rr cc) - 1)))), some (.int (nI 1)), some (.int (nI 1)), some (.int (nI 1)), some (.int (-4)), none]) rfl ?_
                refine z_aload_n C 0 dL_sets_275 rfl rfl ?_
                refine z_iload_n C 1 dL_sets_276 rfl rfl ?_
                refine z_iload C dL_sets_277 rfl ?_
                refine z_iload C dL_sets_279 rfl ?_
                refine z_iload C dL_sets_281 rfl ?_
                refine z_callV (wn := (WRd X.2.1 x0 h0 h1 w0 w1 t r S o1 kp1 Q1 tx ln ps)) C kX5_set gL_sets_X5_set m1 dL_sets_283 [0, 1, 2, 3, 4, 5, 6, 7, 8, 9, 10, 11, 12, 13, 14, 15, 16, 17, 18, 19, 20, 21, 22, 23, 24, 25, 26, 27, 28, 29, 30, 31, 32, 33, 34, 35, 36, 37, 38, 39, 40, 41, 42, 43, 44, 45, 46, 47, 48, 49, 50] [] 0 rfl rfl nd_0_1_2_3_4_5_6_7_8_9_10_11_12_13_14_15_16_17_18_19_20_21_22_23_24_25_26_27_28_29_30_31_32_33_34_35_36_37_38_39_40_41_42_43_44_45_46_47_48_49_50 rfl rfl rfl (by decide) (by decide) (Nat.le_of_ble_eq_true rfl) rfl ((zput_par nd_0_1_2_3_4_5_6_7_8_9_10_11_12_13_14_15_16_17_18_19_20_21_22_23_24_25_26_27_28_29_30_31_32_33_34_35_36_37_38_39_40_41_42_43_44_45_46_47_48_49_50 rfl).trans rfl) ?_
                refine z_iload C dL_sets_286 rfl ?_
                refine z_icmp_ne_f C 308 dL_sets_288 (by decide) rfl ?_
                refine z_aload_n C 0 dL_sets_291 rfl rfl ?_
                refine z_iload_n C 1 dL_sets_292 rfl rfl ?_
                refine z_iload C dL_sets_293 rfl ?_
                refine z_iload C dL_sets_295 rfl ?_
                refine z_sipush C (nI 10000) dL_sets_297 (by decide) ?_
                refine z_callV (wn := (WRd X.2.1 x0 h0 h1 w0 w1 t r S o2 kp2 Q2 tx ln ps)) C kX5_set gL_sets_X5_set m2 dL_sets_300 [0, 1, 2, 3, 4, 5, 6, 7, 8, 9, 10, 11, 12, 13, 14, 15, 16, 17, 18, 19, 20, 21, 22, 23, 24, 25, 26, 27, 28, 29, 30, 31, 32, 33, 34, 35, 36, 37, 38, 39, 40, 41, 42, 43, 44, 45, 46, 47, 48, 49, 50] [] 0 rfl rfl nd_0_1_2_3_4_5_6_7_8_9_10_11_12_13_14_15_16_17_18_19_20_21_22_23_24_25_26_27_28_29_30_31_32_33_34_35_36_37_38_39_40_41_42_43_44_45_46_47_48_49_50 rfl rfl rfl (by decide) (by decide) (Nat.le_of_ble_eq_true rfl) rfl ((zput_par nd_0_1_2_3_4_5_6_7_8_9_10_11_12_13_14_15_16_17_18_19_20_21_22_23_24_25_26_27_28_29_30_31_32_33_34_35_36_37_38_39_40_41_42_43_44_45_46_47_48_49_50 rfl).trans rfl) ?_
                refine z_bipush C (-2) dL_sets_303 (by decide) ?_
                refine z_icmp_eq_t C 310 dL_sets_305 (by decide) rfl ?_
                refine z_iload C dL_sets_310 rfl ?_
                refine z_if_ge_f C 336 dL_sets_312 (by decide) (by decide) ?_
                refine z_aload_n C 0 dL_sets_315 rfl rfl ?_
                refine z_iload C dL_sets_316 rfl ?_
                refine z_iload C dL_sets_318 rfl ?_
                refine z_iload C dL_sets_320 rfl ?_
                refine z_callVr C kX5_setting gL_sets_X5_setting (l_setN X.2.1 x0 h0 w0 t S rr cc (kS S rr cc) hG hr hc hn (by omega)) dL_sets_322 [0, 1, 2, 3, 4, 5, 6, 7, 8] [] 0 rfl nd_0_1_2_3_4_5_6_7_8 rfl rfl rfl (by decide) (by decide) (Nat.le_of_ble_eq_true rfl) rfl ?_
                refine z_bipush C (-5) dL_sets_325 (by decide) ?_
                refine z_icmp_ne_f C 334 dL_sets_327 (by decide) rfl ?_
                refine z_iconst C (nI 1) dL_sets_330 (by decide) ?_
                refine z_goto C 335 dL_sets_331 (by decide) ?_
                exact z_zret C N dL_sets_335 rfl (rfl) (rfl)
          · refine z_iconst C (-1) dL_sets_119 (by decide) ?_
            refine z_goto C 135 dL_sets_120 (by decide) ?_
            refine z_istore C dL_sets_135 (Nat.le_of_ble_eq_true rfl) ?_
            refine z_lv (lv' := [some (.ref x0), some (.int (nI au)), some (.int g), some (.int h), some (.int (nI (uU S 0))), some (.int (nI (uU S 1))), some (.int (nI rr)), some (.int (nI cc)), some (.int (nI v)), some (.int (nI (mK S))), some (.int (nI 0)), some (.int (nI (kS S rr cc))), some (.int (-1)), none, none, none, none, none]) rfl ?_
            refine z_iload C dL_sets_137 rfl ?_
            refine z_if_lt_t C 157 dL_sets_139 (by decide) (by decide) ?_
            refine z_iconst C (nI 0) dL_sets_157 (by decide) ?_
            refine z_istore C dL_sets_158 (Nat.le_of_ble_eq_true rfl) ?_
            refine z_lv (lv' := [some (.ref x0), some (.int (nI au)), some (.int g), some (.int h), some (.int (nI (uU S 0))), some (.int (nI (uU S 1))), some (.int (nI rr)), some (.int (nI cc)), some (.int (nI v)), some (.int (nI (mK S))), some (.int (nI 0)), some (.int (nI (kS S rr cc))), some (.int (-1)), some (.int (nI 0)), none, none, none, none]) rfl ?_
            refine z_aload_n C 0 dL_sets_160 rfl rfl ?_
            refine z_iconst C (nI 0) dL_sets_161 (by decide) ?_
            refine z_iload C dL_sets_162 rfl ?_
            refine z_iconst C (nI 1) dL_sets_164 (by decide) ?_
            refine z_callVr C kX5_line gL_sets_X5_line (l_line1y X.2.1 x0 h0 w0 t S 0 rr hG (by decide) hr hD0) dL_sets_165 [0, 1, 2, 3, 4, 5, 6, 7, 8] [] 0 rfl nd_0_1_2_3_4_5_6_7_8 rfl rfl rfl (by decide) (by decide) (Nat.le_of_ble_eq_true rfl) rfl ?_
            refine z_nif_ge_t C 196 dL_sets_168 (by decide) (by omega) (by trivial) ?_
            refine z_iconst C (nI 1) dL_sets_196 (by decide) ?_
            refine z_goto C 201 dL_sets_197 (by decide) ?_
            refine z_istore C dL_sets_201 (Nat.le_of_ble_eq_true rfl) ?_
            refine z_lv (lv' := [some (.ref x0), some (.int (nI au)), some (.int g), some (.int h), some (.int (nI (uU S 0))), some (.int (nI (uU S 1))), some (.int (nI rr)), some (.int (nI cc)), some (.int (nI v)), some (.int (nI (mK S))), some (.int (nI 0)), some (.int (nI (kS S rr cc))), some (.int (-1)), some (.int (nI 0)), some (.int (nI 1)), none, none, none]) rfl ?_
            refine z_iload C dL_sets_203 rfl ?_
            refine z_nif_eq_t C 225 dL_sets_205 (by decide) (by omega) (by omega) ?_
            refine z_iconst C (nI 0) dL_sets_225 (by decide) ?_
            refine z_istore C dL_sets_226 (Nat.le_of_ble_eq_true rfl) ?_
            refine z_lv (lv' := [some (.ref x0), some (.int (nI au)), some (.int g), some (.int h), some (.int (nI (uU S 0))), some (.int (nI (uU S 1))), some (.int (nI rr)), some (.int (nI cc)), some (.int (nI v)), some (.int (nI (mK S))), some (.int (nI 0)), some (.int (nI (kS S rr cc))), some (.int (-1)), some (.int (nI 0)), some (.int (nI 1)), some (.int (nI 0)), none, none]) rfl ?_
            refine z_iload C dL_sets_228 rfl ?_
            refine z_nif_eq_f C 238 dL_sets_230 (by decide) (by omega) (by omega) ?_
            refine z_bipush C (-4) dL_sets_233 (by decide) ?_
            refine z_goto C 273 dL_sets_235 (by decide) ?_
            refine z_istore C dL_sets_273 (Nat.le_of_ble_eq_true rfl) ?_
            refine z_lv (lv' := [some (.ref x0), some (.int (nI au)), some (.int g), some (.int h), some (.int (nI (uU S 0))), some (.int (nI (uU S 1))), some (.int (nI rr)), some (.int (nI cc)), some (.int (nI v)), some (.int (nI (mK S))), some (.int (nI 0)), some (.int (nI (kS S rr cc))), some (.int (-1)), some (.int (nI 0)), some (.int (nI 1)), some (.int (nI 0)), some (.int (-4)), none]) rfl ?_
            refine z_aload_n C 0 dL_sets_275 rfl rfl ?_
            refine z_iload_n C 1 dL_sets_276 rfl rfl ?_
            refine z_iload C dL_sets_277 rfl ?_
            refine z_iload C dL_sets_279 rfl ?_
            refine z_iload C dL_sets_281 rfl ?_
            refine z_callV (wn := (WRd X.2.1 x0 h0 h1 w0 w1 t r S o1 kp1 Q1 tx ln ps)) C kX5_set gL_sets_X5_set m1 dL_sets_283 [0, 1, 2, 3, 4, 5, 6, 7, 8, 9, 10, 11, 12, 13, 14, 15, 16, 17, 18, 19, 20, 21, 22, 23, 24, 25, 26, 27, 28, 29, 30, 31, 32, 33, 34, 35, 36, 37, 38, 39, 40, 41, 42, 43, 44, 45, 46, 47, 48, 49, 50] [] 0 rfl rfl nd_0_1_2_3_4_5_6_7_8_9_10_11_12_13_14_15_16_17_18_19_20_21_22_23_24_25_26_27_28_29_30_31_32_33_34_35_36_37_38_39_40_41_42_43_44_45_46_47_48_49_50 rfl rfl rfl (by decide) (by decide) (Nat.le_of_ble_eq_true rfl) rfl ((zput_par nd_0_1_2_3_4_5_6_7_8_9_10_11_12_13_14_15_16_17_18_19_20_21_22_23_24_25_26_27_28_29_30_31_32_33_34_35_36_37_38_39_40_41_42_43_44_45_46_47_48_49_50 rfl).trans rfl) ?_
            refine z_iload C dL_sets_286 rfl ?_
            refine z_icmp_ne_f C 308 dL_sets_288 (by decide) rfl ?_
            refine z_aload_n C 0 dL_sets_291 rfl rfl ?_
            refine z_iload_n C 1 dL_sets_292 rfl rfl ?_
            refine z_iload C dL_sets_293 rfl ?_
            refine z_iload C dL_sets_295 rfl ?_
            refine z_sipush C (nI 10000) dL_sets_297 (by decide) ?_
            refine z_callV (wn := (WRd X.2.1 x0 h0 h1 w0 w1 t r S o2 kp2 Q2 tx ln ps)) C kX5_set gL_sets_X5_set m2 dL_sets_300 [0, 1, 2, 3, 4, 5, 6, 7, 8, 9, 10, 11, 12, 13, 14, 15, 16, 17, 18, 19, 20, 21, 22, 23, 24, 25, 26, 27, 28, 29, 30, 31, 32, 33, 34, 35, 36, 37, 38, 39, 40, 41, 42, 43, 44, 45, 46, 47, 48, 49, 50] [] 0 rfl rfl nd_0_1_2_3_4_5_6_7_8_9_10_11_12_13_14_15_16_17_18_19_20_21_22_23_24_25_26_27_28_29_30_31_32_33_34_35_36_37_38_39_40_41_42_43_44_45_46_47_48_49_50 rfl rfl rfl (by decide) (by decide) (Nat.le_of_ble_eq_true rfl) rfl ((zput_par nd_0_1_2_3_4_5_6_7_8_9_10_11_12_13_14_15_16_17_18_19_20_21_22_23_24_25_26_27_28_29_30_31_32_33_34_35_36_37_38_39_40_41_42_43_44_45_46_47_48_49_50 rfl).trans rfl) ?_
            refine z_bipush C (-2) dL_sets_303 (by decide) ?_
            refine z_icmp_eq_t C 310 dL_sets_305 (by decide) rfl ?_
            refine z_iload C dL_sets_310 rfl ?_
            refine z_if_ge_f C 336 dL_sets_312 (by decide) (by decide) ?_
            refine z_aload_n C 0 dL_sets_315 rfl rfl ?_
            refine z_iload C dL_sets_316 rfl ?_
            refine z_iload C dL_sets_318 rfl ?_
            refine z_iload C dL_sets_320 rfl ?_
            refine z_callVr C kX5_setting gL_sets_X5_setting (l_setN X.2.1 x0 h0 w0 t S rr cc (kS S rr cc) hG hr hc hn (by omega)) dL_sets_322 [0, 1, 2, 3, 4, 5, 6, 7, 8] [] 0 rfl nd_0_1_2_3_4_5_6_7_8 rfl rfl rfl (by decide) (by decide) (Nat.le_of_ble_eq_true rfl) rfl ?_
            refine z_bipush C (-5) dL_sets_325 (by decide) ?_
            refine z_icmp_ne_f C 334 dL_sets_327 (by decide) rfl ?_
            refine z_iconst C (nI 1) dL_sets_330 (by decide) ?_
            refine z_goto C 335 dL_sets_331 (by decide) ?_
            exact z_zret C N dL_sets_335 rfl (rfl) (rfl)
    exact hL95 _ 0 rfl (by omega)
  · refine z_iconst C (nI 1) dL_sets_85 (by decide) ?_
    refine z_goto C 90 dL_sets_86 (by decide) ?_
    refine z_istore C dL_sets_90 (Nat.le_of_ble_eq_true rfl) ?_
    refine z_lv (lv' := [some (.ref x0), some (.int (nI au)), some (.int g), some (.int h), some (.int (nI (uU S 0))), some (.int (nI (uU S 1))), some (.int (nI rr)), some (.int (nI cc)), some (.int (nI v)), some (.int (nI (mK S))), some (.int (nI 1)), none, none, none, none, none, none, none]) rfl ?_
    refine z_iconst C (nI 0) dL_sets_92 (by decide) ?_
    refine z_istore C dL_sets_93 (Nat.le_of_ble_eq_true rfl) ?_
    refine z_lv (lv' := [some (.ref x0), some (.int (nI au)), some (.int g), some (.int h), some (.int (nI (uU S 0))), some (.int (nI (uU S 1))), some (.int (nI rr)), some (.int (nI cc)), some (.int (nI v)), some (.int (nI (mK S))), some (.int (nI 1)), some (.int (nI 0)), none, none, none, none, none, none]) rfl ?_
    have hL95 : ∀ (dd95 : Nat) (n : Nat), kS S rr cc - n = dd95 → (n ≤ kS S rr cc) → zG X 0 0 (WRd X.2.1 x0 h0 h1 w0 w1 t r S o kp Q tx ln ps) [some (.ref x0), some (.int (nI au)), some (.int g), some (.int h), some (.int (nI (uU S 0))), some (.int (nI (uU S 1))), some (.int (nI rr)), some (.int (nI cc)), some (.int (nI v)), some (.int (nI (mK S))), some (.int (nI 1)), some (.int (nI n)), none, none, none, none, none, none] [] 95 := by
      intro dd95
      induction dd95 using Nat.strongRecOn with
      | _ dd95 ih95 =>
        intro n hdd95 hn
        refine z_aload_n C 0 dL_sets_95 rfl rfl ?_
        refine z_iload C dL_sets_96 rfl ?_
        refine z_iload C dL_sets_98 rfl ?_
        refine z_iload C dL_sets_100 rfl ?_
        rcases Nat.lt_or_ge (n) (kS S rr cc) with hq_16 | hq_16
        · have fk_17 : sX S rr cc n < mK S := (sX_f hG (by omega) (by omega) hq_16).1
          have fk_18 : kN S (sX S rr cc n) = 4 := (sX_f hG (by omega) (by omega) hq_16).2.1
          have fk_19 : sN S (sX S rr cc n) = 0 := (sX_f hG (by omega) (by omega) hq_16).2.2.1
          refine z_callVr C kX5_setting gL_sets_X5_setting (l_setY X.2.1 x0 h0 w0 t S rr cc n hG hr hc hq_16) dL_sets_102 [0, 1, 2, 3, 4, 5, 6, 7, 8] [] 0 rfl nd_0_1_2_3_4_5_6_7_8 rfl rfl rfl (by decide) (by decide) (Nat.le_of_ble_eq_true rfl) rfl ?_
          have hg_20 : sX S rr cc n < mK S := (sX_t hG (by omega)).1
          refine z_nif_lt_f C 114 dL_sets_105 (by decide) (by omega) (by trivial) ?_
          refine z_iinc C (nI (n + 1)) dL_sets_108 rfl (zi_1 _) ?_
          refine z_lv (lv' := [some (.ref x0), some (.int (nI au)), some (.int g), some (.int h), some (.int (nI (uU S 0))), some (.int (nI (uU S 1))), some (.int (nI rr)), some (.int (nI cc)), some (.int (nI v)), some (.int (nI (mK S))), some (.int (nI 1)), some (.int (nI (n + 1))), none, none, none, none, none, none]) rfl ?_
          refine z_goto C 95 dL_sets_111 (by decide) ?_
          exact ih95 (kS S rr cc - (n + 1)) (by omega) (n + 1) rfl (by omega)
        · refine z_callVr C kX5_setting gL_sets_X5_setting (l_setN X.2.1 x0 h0 w0 t S rr cc n hG hr hc hq_16 (by omega)) dL_sets_102 [0, 1, 2, 3, 4, 5, 6, 7, 8] [] 0 rfl nd_0_1_2_3_4_5_6_7_8 rfl rfl rfl (by decide) (by decide) (Nat.le_of_ble_eq_true rfl) rfl ?_
          refine z_if_lt_t C 114 dL_sets_105 (by decide) (by decide) ?_
          obtain rfl : n = kS S rr cc := (by omega)
          refine z_iload C dL_sets_114 rfl ?_
          refine z_nif_ne C 123 dL_sets_116 (by decide) (by omega) (fun h_21 => ?_) (fun h_21 => ?_)
          · have fq_22 : sX S rr cc (kS S rr cc - 1) < mK S := (sX_f hG hr hc (show kS S rr cc - 1 < kS S rr cc by omega)).1
            have fq_23 : kN S (sX S rr cc (kS S rr cc - 1)) = 4 := (sX_f hG hr hc (show kS S rr cc - 1 < kS S rr cc by omega)).2.1
            have fq_24 : sN S (sX S rr cc (kS S rr cc - 1)) = 0 := (sX_f hG hr hc (show kS S rr cc - 1 < kS S rr cc by omega)).2.2.1
            have fq_25 : aN S (sX S rr cc (kS S rr cc - 1)) < 4 := (aN_e hG (sX_f hG hr hc (show kS S rr cc - 1 < kS S rr cc by omega)).1).2
            have fq_26 : bN S (sX S rr cc (kS S rr cc - 1)) < 10000 := (bN_e hG (sX_f hG hr hc (show kS S rr cc - 1 < kS S rr cc by omega)).1 (sX_f hG hr hc (show kS S rr cc - 1 < kS S rr cc by omega)).2.1 (sX_f hG hr hc (show kS S rr cc - 1 < kS S rr cc by omega)).2.2.1).2
            refine z_aload_n C 0 dL_sets_123 rfl rfl ?_
            refine z_iload C dL_sets_124 rfl ?_
            refine z_iload C dL_sets_126 rfl ?_
            refine z_iload C dL_sets_128 rfl ?_
            refine z_iconst C (nI 1) dL_sets_130 (by decide) ?_
            refine z_isub C dL_sets_131 ?_
            refine z_top (y := nI ((kS S rr cc) - 1)) ((pk_sub (by omega)).trans (congrArg nI (by omega))) ?_
            refine z_callVr C kX5_setting gL_sets_X5_setting (l_setY X.2.1 x0 h0 w0 t S rr cc ((kS S rr cc) - 1) hG hr hc (by omega)) dL_sets_132 [0, 1, 2, 3, 4, 5, 6, 7, 8] [] 0 rfl nd_0_1_2_3_4_5_6_7_8 rfl rfl rfl (by decide) (by decide) (Nat.le_of_ble_eq_true rfl) rfl ?_
            have hg_27 : sX S rr cc ((kS S rr cc) - 1) < mK S := (sX_t hG (by omega)).1
            refine z_istore C dL_sets_135 (Nat.le_of_ble_eq_true rfl) ?_
            refine z_lv (lv' := [some (.ref x0), some (.int (nI au)), some (.int g), some (.int h), some (.int (nI (uU S 0))), some (.int (nI (uU S 1))), some (.int (nI rr)), some (.int (nI cc)), some (.int (nI v)), some (.int (nI (mK S))), some (.int (nI 1)), some (.int (nI (kS S rr cc))), some (.int (nI (sX S rr cc ((kS S rr cc) - 1)))), none, none, none, none, none]) rfl ?_
            refine z_iload C dL_sets_137 rfl ?_
            refine z_nif_lt_f C 157 dL_sets_139 (by decide) (by omega) (by trivial) ?_
            refine z_aload_n C 0 dL_sets_142 rfl rfl ?_
            refine z_iload C dL_sets_143 rfl ?_
            refine z_iconst C (nI 1) dL_sets_145 (by decide) ?_
            refine z_callVr C kX5_change gL_sets_X5_change (l_chg1 X.2.1 x0 h0 w0 t S (sX S rr cc ((kS S rr cc) - 1)) hG fq_22) dL_sets_146 [0, 1, 2, 3, 4, 5, 6, 7, 8] [] 0 rfl nd_0_1_2_3_4_5_6_7_8 rfl rfl rfl (by decide) (by decide) (Nat.le_of_ble_eq_true rfl) rfl ?_
            refine z_iload_n C 1 dL_sets_149 rfl rfl ?_
            refine z_ncmp_ne C 157 dL_sets_150 (by decide) (by omega) (by omega) (fun h_28 => ?_) (fun h_28 => ?_)
            · refine z_iconst C (nI 0) dL_sets_157 (by decide) ?_
              refine z_istore C dL_sets_158 (Nat.le_of_ble_eq_true rfl) ?_
              refine z_lv (lv' := [some (.ref x0), some (.int (nI au)), some (.int g), some (.int h), some (.int (nI (uU S 0))), some (.int (nI (uU S 1))), some (.int (nI rr)), some (.int (nI cc)), some (.int (nI v)), some (.int (nI (mK S))), some (.int (nI 1)), some (.int (nI (kS S rr cc))), some (.int (nI (sX S rr cc ((kS S rr cc) - 1)))), some (.int (nI 0)), none, none, none, none]) rfl ?_
              refine z_aload_n C 0 dL_sets_160 rfl rfl ?_
              refine z_iconst C (nI 0) dL_sets_161 (by decide) ?_
              refine z_iload C dL_sets_162 rfl ?_
              refine z_iconst C (nI 1) dL_sets_164 (by decide) ?_
              refine z_callVr C kX5_line gL_sets_X5_line (l_line1y X.2.1 x0 h0 w0 t S 0 rr hG (by decide) hr hD0) dL_sets_165 [0, 1, 2, 3, 4, 5, 6, 7, 8] [] 0 rfl nd_0_1_2_3_4_5_6_7_8 rfl rfl rfl (by decide) (by decide) (Nat.le_of_ble_eq_true rfl) rfl ?_
              refine z_nif_ge_t C 196 dL_sets_168 (by decide) (by omega) (by trivial) ?_
              refine z_iconst C (nI 1) dL_sets_196 (by decide) ?_
              refine z_goto C 201 dL_sets_197 (by decide) ?_
              refine z_istore C dL_sets_201 (Nat.le_of_ble_eq_true rfl) ?_
              refine z_lv (lv' := [some (.ref x0), some (.int (nI au)), some (.int g), some (.int h), some (.int (nI (uU S 0))), some (.int (nI (uU S 1))), some (.int (nI rr)), some (.int (nI cc)), some (.int (nI v)), some (.int (nI (mK S))), some (.int (nI 1)), some (.int (nI (kS S rr cc))), some (.int (nI (sX S rr cc ((kS S rr cc) - 1)))), some (.int (nI 0)), some (.int (nI 1)), none, none, none]) rfl ?_
              refine z_iload C dL_sets_203 rfl ?_
              refine z_nif_eq_t C 225 dL_sets_205 (by decide) (by omega) (by omega) ?_
              refine z_iconst C (nI 0) dL_sets_225 (by decide) ?_
              refine z_istore C dL_sets_226 (Nat.le_of_ble_eq_true rfl) ?_
              refine z_lv (lv' := [some (.ref x0), some (.int (nI au)), some (.int g), some (.int h), some (.int (nI (uU S 0))), some (.int (nI (uU S 1))), some (.int (nI rr)), some (.int (nI cc)), some (.int (nI v)), some (.int (nI (mK S))), some (.int (nI 1)), some (.int (nI (kS S rr cc))), some (.int (nI (sX S rr cc ((kS S rr cc) - 1)))), some (.int (nI 0)), some (.int (nI 1)), some (.int (nI 0)), none, none]) rfl ?_
              refine z_iload C dL_sets_228 rfl ?_
              refine z_nif_eq_f C 238 dL_sets_230 (by decide) (by omega) (by omega) ?_
              refine z_bipush C (-4) dL_sets_233 (by decide) ?_
              refine z_goto C 273 dL_sets_235 (by decide) ?_
              refine z_istore C dL_sets_273 (Nat.le_of_ble_eq_true rfl) ?_
              refine z_lv (lv' := [some (.ref x0), some (.int (nI au)), some (.int g), some (.int h), some (.int (nI (uU S 0))), some (.int (nI (uU S 1))), some (.int (nI rr)), some (.int (nI cc)), some (.int (nI v)), some (.int (nI (mK S))), some (.int (nI 1)), some (.int (nI (kS S rr cc))), some (.int (nI (sX S rr cc ((kS S rr cc) - 1)))), some (.int (nI 0)), some (.int (nI 1)), some (.int (nI 0)), some (.int (-4)), none]) rfl ?_
              refine z_aload_n C 0 dL_sets_275 rfl rfl ?_
              refine z_iload_n C 1 dL_sets_276 rfl rfl ?_
              refine z_iload C dL_sets_277 rfl ?_
              refine z_iload C dL_sets_279 rfl ?_
              refine z_iload C dL_sets_281 rfl ?_
              refine z_callV (wn := (WRd X.2.1 x0 h0 h1 w0 w1 t r S o1 kp1 Q1 tx ln ps)) C kX5_set gL_sets_X5_set m1 dL_sets_283 [0, 1, 2, 3, 4, 5, 6, 7, 8, 9, 10, 11, 12, 13, 14, 15, 16, 17, 18, 19, 20, 21, 22, 23, 24, 25, 26, 27, 28, 29, 30, 31, 32, 33, 34, 35, 36, 37, 38, 39, 40, 41, 42, 43, 44, 45, 46, 47, 48, 49, 50] [] 0 rfl rfl nd_0_1_2_3_4_5_6_7_8_9_10_11_12_13_14_15_16_17_18_19_20_21_22_23_24_25_26_27_28_29_30_31_32_33_34_35_36_37_38_39_40_41_42_43_44_45_46_47_48_49_50 rfl rfl rfl (by decide) (by decide) (Nat.le_of_ble_eq_true rfl) rfl ((zput_par nd_0_1_2_3_4_5_6_7_8_9_10_11_12_13_14_15_16_17_18_19_20_21_22_23_24_25_26_27_28_29_30_31_32_33_34_35_36_37_38_39_40_41_42_43_44_45_46_47_48_49_50 rfl).trans rfl) ?_
              refine z_iload C dL_sets_286 rfl ?_
              refine z_icmp_ne_f C 308 dL_sets_288 (by decide) rfl ?_
              refine z_aload_n C 0 dL_sets_291 rfl rfl ?_
              refine z_iload_n C 1 dL_sets_292 rfl rfl ?_
              refine z_iload C dL_sets_293 rfl ?_
              refine z_iload C dL_sets_295 rfl ?_
              refine z_sipush C (nI 10000) dL_sets_297 (by decide) ?_
              refine z_callV (wn := (WRd X.2.1 x0 h0 h1 w0 w1 t r S o2 kp2 Q2 tx ln ps)) C kX5_set gL_sets_X5_set m2 dL_sets_300 [0, 1, 2, 3, 4, 5, 6, 7, 8, 9, 10, 11, 12, 13, 14, 15, 16, 17, 18, 19, 20, 21, 22, 23, 24, 25, 26, 27, 28, 29, 30, 31, 32, 33, 34, 35, 36, 37, 38, 39, 40, 41, 42, 43, 44, 45, 46, 47, 48, 49, 50] [] 0 rfl rfl nd_0_1_2_3_4_5_6_7_8_9_10_11_12_13_14_15_16_17_18_19_20_21_22_23_24_25_26_27_28_29_30_31_32_33_34_35_36_37_38_39_40_41_42_43_44_45_46_47_48_49_50 rfl rfl rfl (by decide) (by decide) (Nat.le_of_ble_eq_true rfl) rfl ((zput_par nd_0_1_2_3_4_5_6_7_8_9_10_11_12_13_14_15_16_17_18_19_20_21_22_23_24_25_26_27_28_29_30_31_32_33_34_35_36_37_38_39_40_41_42_43_44_45_46_47_48_49_50 rfl).trans rfl) ?_
              refine z_bipush C (-2) dL_sets_303 (by decide) ?_
              refine z_icmp_eq_t C 310 dL_sets_305 (by decide) rfl ?_
              refine z_iload C dL_sets_310 rfl ?_
              refine z_if_ge_f C 336 dL_sets_312 (by decide) (by decide) ?_
              refine z_aload_n C 0 dL_sets_315 rfl rfl ?_
              refine z_iload C dL_sets_316 rfl ?_
              refine z_iload C dL_sets_318 rfl ?_
              refine z_iload C dL_sets_320 rfl ?_
              refine z_callVr C kX5_setting gL_sets_X5_setting (l_setN X.2.1 x0 h0 w0 t S rr cc (kS S rr cc) hG hr hc hn (by omega)) dL_sets_322 [0, 1, 2, 3, 4, 5, 6, 7, 8] [] 0 rfl nd_0_1_2_3_4_5_6_7_8 rfl rfl rfl (by decide) (by decide) (Nat.le_of_ble_eq_true rfl) rfl ?_
              refine z_bipush C (-5) dL_sets_325 (by decide) ?_
              refine z_icmp_ne_f C 334 dL_sets_327 (by decide) rfl ?_
              refine z_iconst C (nI 1) dL_sets_330 (by decide) ?_
              refine z_goto C 335 dL_sets_331 (by decide) ?_
              exact z_zret C N dL_sets_335 rfl (rfl) (rfl)
            · refine z_iconst C (nI 1) dL_sets_153 (by decide) ?_
              refine z_goto C 158 dL_sets_154 (by decide) ?_
              refine z_istore C dL_sets_158 (Nat.le_of_ble_eq_true rfl) ?_
              refine z_lv (lv' := [some (.ref x0), some (.int (nI au)), some (.int g), some (.int h), some (.int (nI (uU S 0))), some (.int (nI (uU S 1))), some (.int (nI rr)), some (.int (nI cc)), some (.int (nI v)), some (.int (nI (mK S))), some (.int (nI 1)), some (.int (nI (kS S rr cc))), some (.int (nI (sX S rr cc ((kS S rr cc) - 1)))), some (.int (nI 1)), none, none, none, none]) rfl ?_
              refine z_aload_n C 0 dL_sets_160 rfl rfl ?_
              refine z_iconst C (nI 0) dL_sets_161 (by decide) ?_
              refine z_iload C dL_sets_162 rfl ?_
              refine z_iconst C (nI 1) dL_sets_164 (by decide) ?_
              refine z_callVr C kX5_line gL_sets_X5_line (l_line1y X.2.1 x0 h0 w0 t S 0 rr hG (by decide) hr hD0) dL_sets_165 [0, 1, 2, 3, 4, 5, 6, 7, 8] [] 0 rfl nd_0_1_2_3_4_5_6_7_8 rfl rfl rfl (by decide) (by decide) (Nat.le_of_ble_eq_true rfl) rfl ?_
              refine z_nif_ge_t C 196 dL_sets_168 (by decide) (by omega) (by trivial) ?_
              refine z_iconst C (nI 1) dL_sets_196 (by decide) ?_
              refine z_goto C 201 dL_sets_197 (by decide) ?_
              refine z_istore C dL_sets_201 (Nat.le_of_ble_eq_true rfl) ?_
              refine z_lv (lv' := [some (.ref x0), some (.int (nI au)), some (.int g), some (.int h), some (.int (nI (uU S 0))), some (.int (nI (uU S 1))), some (.int (nI rr)), some (.int (nI cc)), some (.int (nI v)), some (.int (nI (mK S))), some (.int (nI 1)), some (.int (nI (kS S rr cc))), some (.int (nI (sX S rr cc ((kS S rr cc) - 1)))), some (.int (nI 1)), some (.int (nI 1)), none, none, none]) rfl ?_
              refine z_iload C dL_sets_203 rfl ?_
              refine z_nif_eq_f C 225 dL_sets_205 (by decide) (by omega) (by omega) ?_
              refine z_aload_n C 0 dL_sets_208 rfl rfl ?_
              refine z_iload C dL_sets_209 rfl ?_
              refine z_bipush C (nI 6) dL_sets_211 (by decide) ?_
              refine z_callVr C kX5_change gL_sets_X5_change (l_chg6y X.2.1 x0 h0 w0 t S (sX S rr cc ((kS S rr cc) - 1)) hG fq_22 fq_23 fq_24) dL_sets_213 [0, 1, 2, 3, 4, 5, 6, 7, 8] [] 0 rfl nd_0_1_2_3_4_5_6_7_8 rfl rfl rfl (by decide) (by decide) (Nat.le_of_ble_eq_true rfl) rfl ?_
              refine z_iload C dL_sets_216 rfl ?_
              refine z_ncmp_ne C 225 dL_sets_218 (by decide) (by omega) (by omega) (fun h_29 => ?_) (fun h_29 => ?_)
              · refine z_iconst C (nI 0) dL_sets_225 (by decide) ?_
                refine z_istore C dL_sets_226 (Nat.le_of_ble_eq_true rfl) ?_
                refine z_lv (lv' := [some (.ref x0), some (.int (nI au)), some (.int g), some (.int h), some (.int (nI (uU S 0))), some (.int (nI (uU S 1))), some (.int (nI rr)), some (.int (nI cc)), some (.int (nI v)), some (.int (nI (mK S))), some (.int (nI 1)), some (.int (nI (kS S rr cc))), some (.int (nI (sX S rr cc ((kS S rr cc) - 1)))), some (.int (nI 1)), some (.int (nI 1)), some (.int (nI 0)), none, none]) rfl ?_
                refine z_iload C dL_sets_228 rfl ?_
                refine z_nif_eq_f C 238 dL_sets_230 (by decide) (by omega) (by omega) ?_
                refine z_bipush C (-4) dL_sets_233 (by decide) ?_
                refine z_goto C 273 dL_sets_235 (by decide) ?_
                refine z_istore C dL_sets_273 (Nat.le_of_ble_eq_true rfl) ?_
                refine z_lv (lv' := [some (.ref x0), some (.int (nI au)), some (.int g), some (.int h), some (.int (nI (uU S 0))), some (.int (nI (uU S 1))), some (.int (nI rr)), some (.int (nI cc)), some (.int (nI v)), some (.int (nI (mK S))), some (.int (nI 1)), some (.int (nI (kS S rr cc))), some (.int (nI (sX S rr cc ((kS S rr cc) - 1)))), some (.int (nI 1)), some (.int (nI 1)), some (.int (nI 0)), some (.int (-4)), none]) rfl ?_
                refine z_aload_n C 0 dL_sets_275 rfl rfl ?_
                refine z_iload_n C 1 dL_sets_276 rfl rfl ?_
                refine z_iload C dL_sets_277 rfl ?_
                refine z_iload C dL_sets_279 rfl ?_
                refine z_iload C dL_sets_281 rfl ?_
                refine z_callV (wn := (WRd X.2.1 x0 h0 h1 w0 w1 t r S o1 kp1 Q1 tx ln ps)) C kX5_set gL_sets_X5_set m1 dL_sets_283 [0, 1, 2, 3, 4, 5, 6, 7, 8, 9, 10, 11, 12, 13, 14, 15, 16, 17, 18, 19, 20, 21, 22, 23, 24, 25, 26, 27, 28, 29, 30, 31, 32, 33, 34, 35, 36, 37, 38, 39, 40, 41, 42, 43, 44, 45, 46, 47, 48, 49, 50] [] 0 rfl rfl nd_0_1_2_3_4_5_6_7_8_9_10_11_12_13_14_15_16_17_18_19_20_21_22_23_24_25_26_27_28_29_30_31_32_33_34_35_36_37_38_39_40_41_42_43_44_45_46_47_48_49_50 rfl rfl rfl (by decide) (by decide) (Nat.le_of_ble_eq_true rfl) rfl ((zput_par nd_0_1_2_3_4_5_6_7_8_9_10_11_12_13_14_15_16_17_18_19_20_21_22_23_24_25_26_27_28_29_30_31_32_33_34_35_36_37_38_39_40_41_42_43_44_45_46_47_48_49_50 rfl).trans rfl) ?_
                refine z_iload C dL_sets_286 rfl ?_
                refine z_icmp_ne_f C 308 dL_sets_288 (by decide) rfl ?_
                refine z_aload_n C 0 dL_sets_291 rfl rfl ?_
                refine z_iload_n C 1 dL_sets_292 rfl rfl ?_
                refine z_iload C dL_sets_293 rfl ?_
                refine z_iload C dL_sets_295 rfl ?_
                refine z_sipush C (nI 10000) dL_sets_297 (by decide) ?_
                refine z_callV (wn := (WRd X.2.1 x0 h0 h1 w0 w1 t r S o2 kp2 Q2 tx ln ps)) C kX5_set gL_sets_X5_set m2 dL_sets_300 [0, 1, 2, 3, 4, 5, 6, 7, 8, 9, 10, 11, 12, 13, 14, 15, 16, 17, 18, 19, 20, 21, 22, 23, 24, 25, 26, 27, 28, 29, 30, 31, 32, 33, 34, 35, 36, 37, 38, 39, 40, 41, 42, 43, 44, 45, 46, 47, 48, 49, 50] [] 0 rfl rfl nd_0_1_2_3_4_5_6_7_8_9_10_11_12_13_14_15_16_17_18_19_20_21_22_23_24_25_26_27_28_29_30_31_32_33_34_35_36_37_38_39_40_41_42_43_44_45_46_47_48_49_50 rfl rfl rfl (by decide) (by decide) (Nat.le_of_ble_eq_true rfl) rfl ((zput_par nd_0_1_2_3_4_5_6_7_8_9_10_11_12_13_14_15_16_17_18_19_20_21_22_23_24_25_26_27_28_29_30_31_32_33_34_35_36_37_38_39_40_41_42_43_44_45_46_47_48_49_50 rfl).trans rfl) ?_
                refine z_bipush C (-2) dL_sets_303 (by decide) ?_
                refine z_icmp_eq_t C 310 dL_sets_305 (by decide) rfl ?_
                refine z_iload C dL_sets_310 rfl ?_
                refine z_if_ge_f C 336 dL_sets_312 (by decide) (by decide) ?_
                refine z_aload_n C 0 dL_sets_315 rfl rfl ?_
                refine z_iload C dL_sets_316 rfl ?_
                refine z_iload C dL_sets_318 rfl ?_
                refine z_iload C dL_sets_320 rfl ?_
                refine z_callVr C kX5_setting gL_sets_X5_setting (l_setN X.2.1 x0 h0 w0 t S rr cc (kS S rr cc) hG hr hc hn (by omega)) dL_sets_322 [0, 1, 2, 3, 4, 5, 6, 7, 8] [] 0 rfl nd_0_1_2_3_4_5_6_7_8 rfl rfl rfl (by decide) (by decide) (Nat.le_of_ble_eq_true rfl) rfl ?_
                refine z_bipush C (-5) dL_sets_325 (by decide) ?_
                refine z_icmp_ne_f C 334 dL_sets_327 (by decide) rfl ?_
                refine z_iconst C (nI 1) dL_sets_330 (by decide) ?_
                refine z_goto C 335 dL_sets_331 (by decide) ?_
                exact z_zret C N dL_sets_335 rfl (rfl) (rfl)
              · refine z_iconst C (nI 1) dL_sets_221 (by decide) ?_
                refine z_goto C 226 dL_sets_222 (by decide) ?_
                refine z_istore C dL_sets_226 (Nat.le_of_ble_eq_true rfl) ?_
                refine z_lv (lv' := [some (.ref x0), some (.int (nI au)), some (.int g), some (.int h), some (.int (nI (uU S 0))), some (.int (nI (uU S 1))), some (.int (nI rr)), some (.int (nI cc)), some (.int (nI v)), some (.int (nI (mK S))), some (.int (nI 1)), some (.int (nI (kS S rr cc))), some (.int (nI (sX S rr cc ((kS S rr cc) - 1)))), some (.int (nI 1)), some (.int (nI 1)), some (.int (nI 1)), none, none]) rfl ?_
                refine z_iload C dL_sets_228 rfl ?_
                refine z_nif_eq_f C 238 dL_sets_230 (by decide) (by omega) (by omega) ?_
                refine z_bipush C (-4) dL_sets_233 (by decide) ?_
                refine z_goto C 273 dL_sets_235 (by decide) ?_
                refine z_istore C dL_sets_273 (Nat.le_of_ble_eq_true rfl) ?_
                refine z_lv (lv' := [some (.ref x0), some (.int (nI au)), some (.int g), some (.int h), some (.int (nI (uU S 0))), some (.int (nI (uU S 1))), some (.int (nI rr)), some (.int (nI cc)), some (.int (nI v)), some (.int (nI (mK S))), some (.int (nI 1)), some (.int (nI (kS S rr cc))), some (.int (nI (sX S rr cc ((kS S rr cc) - 1)))), some (.int (nI 1)), some (.int (nI 1)), some (.int (nI 1)), some (.int (-4)), none]) rfl ?_
                refine z_aload_n C 0 dL_sets_275 rfl rfl ?_
                refine z_iload_n C 1 dL_sets_276 rfl rfl ?_
                refine z_iload C dL_sets_277 rfl ?_
                refine z_iload C dL_sets_279 rfl ?_
                refine z_iload C dL_sets_281 rfl ?_
                refine z_callV (wn := (WRd X.2.1 x0 h0 h1 w0 w1 t r S o1 kp1 Q1 tx ln ps)) C kX5_set gL_sets_X5_set m1 dL_sets_283 [0, 1, 2, 3, 4, 5, 6, 7, 8, 9, 10, 11, 12, 13, 14, 15, 16, 17, 18, 19, 20, 21, 22, 23, 24, 25, 26, 27, 28, 29, 30, 31, 32, 33, 34, 35, 36, 37, 38, 39, 40, 41, 42, 43, 44, 45, 46, 47, 48, 49, 50] [] 0 rfl rfl nd_0_1_2_3_4_5_6_7_8_9_10_11_12_13_14_15_16_17_18_19_20_21_22_23_24_25_26_27_28_29_30_31_32_33_34_35_36_37_38_39_40_41_42_43_44_45_46_47_48_49_50 rfl rfl rfl (by decide) (by decide) (Nat.le_of_ble_eq_true rfl) rfl ((zput_par nd_0_1_2_3_4_5_6_7_8_9_10_11_12_13_14_15_16_17_18_19_20_21_22_23_24_25_26_27_28_29_30_31_32_33_34_35_36_37_38_39_40_41_42_43_44_45_46_47_48_49_50 rfl).trans rfl) ?_
                refine z_iload C dL_sets_286 rfl ?_
                refine z_icmp_ne_f C 308 dL_sets_288 (by decide) rfl ?_
                refine z_aload_n C 0 dL_sets_291 rfl rfl ?_
                refine z_iload_n C 1 dL_sets_292 rfl rfl ?_
                refine z_iload C dL_sets_293 rfl ?_
                refine z_iload C dL_sets_295 rfl ?_
                refine z_sipush C (nI 10000) dL_sets_297 (by decide) ?_
                refine z_callV (wn := (WRd X.2.1 x0 h0 h1 w0 w1 t r S o2 kp2 Q2 tx ln ps)) C kX5_set gL_sets_X5_set m2 dL_sets_300 [0, 1, 2, 3, 4, 5, 6, 7, 8, 9, 10, 11, 12, 13, 14, 15, 16, 17, 18, 19, 20, 21, 22, 23, 24, 25, 26, 27, 28, 29, 30, 31, 32, 33, 34, 35, 36, 37, 38, 39, 40, 41, 42, 43, 44, 45, 46, 47, 48, 49, 50] [] 0 rfl rfl nd_0_1_2_3_4_5_6_7_8_9_10_11_12_13_14_15_16_17_18_19_20_21_22_23_24_25_26_27_28_29_30_31_32_33_34_35_36_37_38_39_40_41_42_43_44_45_46_47_48_49_50 rfl rfl rfl (by decide) (by decide) (Nat.le_of_ble_eq_true rfl) rfl ((zput_par nd_0_1_2_3_4_5_6_7_8_9_10_11_12_13_14_15_16_17_18_19_20_21_22_23_24_25_26_27_28_29_30_31_32_33_34_35_36_37_38_39_40_41_42_43_44_45_46_47_48_49_50 rfl).trans rfl) ?_
                refine z_bipush C (-2) dL_sets_303 (by decide) ?_
                refine z_icmp_eq_t C 310 dL_sets_305 (by decide) rfl ?_
                refine z_iload C dL_sets_310 rfl ?_
                refine z_if_ge_f C 336 dL_sets_312 (by decide) (by decide) ?_
                refine z_aload_n C 0 dL_sets_315 rfl rfl ?_
                refine z_iload C dL_sets_316 rfl ?_
                refine z_iload C dL_sets_318 rfl ?_
                refine z_iload C dL_sets_320 rfl ?_
                refine z_callVr C kX5_setting gL_sets_X5_setting (l_setN X.2.1 x0 h0 w0 t S rr cc (kS S rr cc) hG hr hc hn (by omega)) dL_sets_322 [0, 1, 2, 3, 4, 5, 6, 7, 8] [] 0 rfl nd_0_1_2_3_4_5_6_7_8 rfl rfl rfl (by decide) (by decide) (Nat.le_of_ble_eq_true rfl) rfl ?_
                refine z_bipush C (-5) dL_sets_325 (by decide) ?_
                refine z_icmp_ne_f C 334 dL_sets_327 (by decide) rfl ?_
                refine z_iconst C (nI 1) dL_sets_330 (by decide) ?_
                refine z_goto C 335 dL_sets_331 (by decide) ?_
                exact z_zret C N dL_sets_335 rfl (rfl) (rfl)
          · refine z_iconst C (-1) dL_sets_119 (by decide) ?_
            refine z_goto C 135 dL_sets_120 (by decide) ?_
            refine z_istore C dL_sets_135 (Nat.le_of_ble_eq_true rfl) ?_
            refine z_lv (lv' := [some (.ref x0), some (.int (nI au)), some (.int g), some (.int h), some (.int (nI (uU S 0))), some (.int (nI (uU S 1))), some (.int (nI rr)), some (.int (nI cc)), some (.int (nI v)), some (.int (nI (mK S))), some (.int (nI 1)), some (.int (nI (kS S rr cc))), some (.int (-1)), none, none, none, none, none]) rfl ?_
            refine z_iload C dL_sets_137 rfl ?_
            refine z_if_lt_t C 157 dL_sets_139 (by decide) (by decide) ?_
            refine z_iconst C (nI 0) dL_sets_157 (by decide) ?_
            refine z_istore C dL_sets_158 (Nat.le_of_ble_eq_true rfl) ?_
            refine z_lv (lv' := [some (.ref x0), some (.int (nI au)), some (.int g), some (.int h), some (.int (nI (uU S 0))), some (.int (nI (uU S 1))), some (.int (nI rr)), some (.int (nI cc)), some (.int (nI v)), some (.int (nI (mK S))), some (.int (nI 1)), some (.int (nI (kS S rr cc))), some (.int (-1)), some (.int (nI 0)), none, none, none, none]) rfl ?_
            refine z_aload_n C 0 dL_sets_160 rfl rfl ?_
            refine z_iconst C (nI 0) dL_sets_161 (by decide) ?_
            refine z_iload C dL_sets_162 rfl ?_
            refine z_iconst C (nI 1) dL_sets_164 (by decide) ?_
            refine z_callVr C kX5_line gL_sets_X5_line (l_line1y X.2.1 x0 h0 w0 t S 0 rr hG (by decide) hr hD0) dL_sets_165 [0, 1, 2, 3, 4, 5, 6, 7, 8] [] 0 rfl nd_0_1_2_3_4_5_6_7_8 rfl rfl rfl (by decide) (by decide) (Nat.le_of_ble_eq_true rfl) rfl ?_
            refine z_nif_ge_t C 196 dL_sets_168 (by decide) (by omega) (by trivial) ?_
            refine z_iconst C (nI 1) dL_sets_196 (by decide) ?_
            refine z_goto C 201 dL_sets_197 (by decide) ?_
            refine z_istore C dL_sets_201 (Nat.le_of_ble_eq_true rfl) ?_
            refine z_lv (lv' := [some (.ref x0), some (.int (nI au)), some (.int g), some (.int h), some (.int (nI (uU S 0))), some (.int (nI (uU S 1))), some (.int (nI rr)), some (.int (nI cc)), some (.int (nI v)), some (.int (nI (mK S))), some (.int (nI 1)), some (.int (nI (kS S rr cc))), some (.int (-1)), some (.int (nI 0)), some (.int (nI 1)), none, none, none]) rfl ?_
            refine z_iload C dL_sets_203 rfl ?_
            refine z_nif_eq_t C 225 dL_sets_205 (by decide) (by omega) (by omega) ?_
            refine z_iconst C (nI 0) dL_sets_225 (by decide) ?_
            refine z_istore C dL_sets_226 (Nat.le_of_ble_eq_true rfl) ?_
            refine z_lv (lv' := [some (.ref x0), some (.int (nI au)), some (.int g), some (.int h), some (.int (nI (uU S 0))), some (.int (nI (uU S 1))), some (.int (nI rr)), some (.int (nI cc)), some (.int (nI v)), some (.int (nI (mK S))), some (.int (nI 1)), some (.int (nI (kS S rr cc))), some (.int (-1)), some (.int (nI 0)), some (.int (nI 1)), some (.int (nI 0)), none, none]) rfl ?_
            refine z_iload C dL_sets_228 rfl ?_
            refine z_nif_eq_f C 238 dL_sets_230 (by decide) (by omega) (by omega) ?_
            refine z_bipush C (-4) dL_sets_233 (by decide) ?_
            refine z_goto C 273 dL_sets_235 (by decide) ?_
            refine z_istore C dL_sets_273 (Nat.le_of_ble_eq_true rfl) ?_
            refine z_lv (lv' := [some (.ref x0), some (.int (nI au)), some (.int g), some (.int h), some (.int (nI (uU S 0))), some (.int (nI (uU S 1))), some (.int (nI rr)), some (.int (nI cc)), some (.int (nI v)), some (.int (nI (mK S))), some (.int (nI 1)), some (.int (nI (kS S rr cc))), some (.int (-1)), some (.int (nI 0)), some (.int (nI 1)), some (.int (nI 0)), some (.int (-4)), none]) rfl ?_
            refine z_aload_n C 0 dL_sets_275 rfl rfl ?_
            refine z_iload_n C 1 dL_sets_276 rfl rfl ?_
            refine z_iload C dL_sets_277 rfl ?_
            refine z_iload C dL_sets_279 rfl ?_
            refine z_iload C dL_sets_281 rfl ?_
            refine z_callV (wn := (WRd X.2.1 x0 h0 h1 w0 w1 t r S o1 kp1 Q1 tx ln ps)) C kX5_set gL_sets_X5_set m1 dL_sets_283 [0, 1, 2, 3, 4, 5, 6, 7, 8, 9, 10, 11, 12, 13, 14, 15, 16, 17, 18, 19, 20, 21, 22, 23, 24, 25, 26, 27, 28, 29, 30, 31, 32, 33, 34, 35, 36, 37, 38, 39, 40, 41, 42, 43, 44, 45, 46, 47, 48, 49, 50] [] 0 rfl rfl nd_0_1_2_3_4_5_6_7_8_9_10_11_12_13_14_15_16_17_18_19_20_21_22_23_24_25_26_27_28_29_30_31_32_33_34_35_36_37_38_39_40_41_42_43_44_45_46_47_48_49_50 rfl rfl rfl (by decide) (by decide) (Nat.le_of_ble_eq_true rfl) rfl ((zput_par nd_0_1_2_3_4_5_6_7_8_9_10_11_12_13_14_15_16_17_18_19_20_21_22_23_24_25_26_27_28_29_30_31_32_33_34_35_36_37_38_39_40_41_42_43_44_45_46_47_48_49_50 rfl).trans rfl) ?_
            refine z_iload C dL_sets_286 rfl ?_
            refine z_icmp_ne_f C 308 dL_sets_288 (by decide) rfl ?_
            refine z_aload_n C 0 dL_sets_291 rfl rfl ?_
            refine z_iload_n C 1 dL_sets_292 rfl rfl ?_
            refine z_iload C dL_sets_293 rfl ?_
            refine z_iload C dL_sets_295 rfl ?_
            refine z_sipush C (nI 10000) dL_sets_297 (by decide) ?_
            refine z_callV (wn := (WRd X.2.1 x0 h0 h1 w0 w1 t r S o2 kp2 Q2 tx ln ps)) C kX5_set gL_sets_X5_set m2 dL_sets_300 [0, 1, 2, 3, 4, 5, 6, 7, 8, 9, 10, 11, 12, 13, 14, 15, 16, 17, 18, 19, 20, 21, 22, 23, 24, 25, 26, 27, 28, 29, 30, 31, 32, 33, 34, 35, 36, 37, 38, 39, 40, 41, 42, 43, 44, 45, 46, 47, 48, 49, 50] [] 0 rfl rfl nd_0_1_2_3_4_5_6_7_8_9_10_11_12_13_14_15_16_17_18_19_20_21_22_23_24_25_26_27_28_29_30_31_32_33_34_35_36_37_38_39_40_41_42_43_44_45_46_47_48_49_50 rfl rfl rfl (by decide) (by decide) (Nat.le_of_ble_eq_true rfl) rfl ((zput_par nd_0_1_2_3_4_5_6_7_8_9_10_11_12_13_14_15_16_17_18_19_20_21_22_23_24_25_26_27_28_29_30_31_32_33_34_35_36_37_38_39_40_41_42_43_44_45_46_47_48_49_50 rfl).trans rfl) ?_
            refine z_bipush C (-2) dL_sets_303 (by decide) ?_
            refine z_icmp_eq_t C 310 dL_sets_305 (by decide) rfl ?_
            refine z_iload C dL_sets_310 rfl ?_
            refine z_if_ge_f C 336 dL_sets_312 (by decide) (by decide) ?_
            refine z_aload_n C 0 dL_sets_315 rfl rfl ?_
            refine z_iload C dL_sets_316 rfl ?_
            refine z_iload C dL_sets_318 rfl ?_
            refine z_iload C dL_sets_320 rfl ?_
            refine z_callVr C kX5_setting gL_sets_X5_setting (l_setN X.2.1 x0 h0 w0 t S rr cc (kS S rr cc) hG hr hc hn (by omega)) dL_sets_322 [0, 1, 2, 3, 4, 5, 6, 7, 8] [] 0 rfl nd_0_1_2_3_4_5_6_7_8 rfl rfl rfl (by decide) (by decide) (Nat.le_of_ble_eq_true rfl) rfl ?_
            refine z_bipush C (-5) dL_sets_325 (by decide) ?_
            refine z_icmp_ne_f C 334 dL_sets_327 (by decide) rfl ?_
            refine z_iconst C (nI 1) dL_sets_330 (by decide) ?_
            refine z_goto C 335 dL_sets_331 (by decide) ?_
            exact z_zret C N dL_sets_335 rfl (rfl) (rfl)
    exact hL95 _ 0 rfl (by omega)

set_option maxHeartbeats 4000000 in
set_option maxRecDepth 100000 in
theorem w_setn1 (E : zE) (x0 h0 h1 w0 w1 : Nat) (t : Nat → Nat) (r : Nat → Nat → Nat) (S : zSt) (o kp kp1 kp2 o1 o2 : Nat) (Q Q1 Q2 : Nat → zSt) (tx : Nat → Nat) (ln : Nat) (ps : zPs) {B : Nat} (au : Nat) (g h : Int32) (rr cc v : Nat) (hG : GG S B) (hau : au < 4) (hR : lw g (uU S 0) = rr) (hr : rr < uU S 0) (hC : lw (g >>> (nI 4 &&& 31)) (uU S 1) = cc) (hc : cc < uU S 1) (hV : lw h 5 = v) (hv : v < 5) (hD0 : Dm S 0 rr = false) (hD1 : Dm S 1 cc = true) (m1 : zM E yX5_set wsX5_set 6 [.ref x0, .int (nI au), .int (nI rr), .int (nI cc), .int (nI v)] (WAd E x0 h0 h1 w0 t r S o kp Q) (WAd E x0 h0 h1 w0 t r S o1 kp1 Q1) (some (.int (-4)))) (m2 : zM E yX5_set wsX5_set 6 [.ref x0, .int (nI au), .int (nI rr), .int (nI cc), .int (nI 10000)] (WAd E x0 h0 h1 w0 t r S o1 kp1 Q1) (WAd E x0 h0 h1 w0 t r S o2 kp2 Q2) (some (.int (-2)))) : zM E yL_sets wsL_sets 7 [.ref x0, .int (nI au), .int g, .int h] (WRd E x0 h0 h1 w0 w1 t r S o kp Q tx ln ps) (WRd E x0 h0 h1 w0 w1 t r S o2 kp2 Q2 tx ln ps) (some (.int (nI 1))) := by
  refine zM.of kL_sets (Nat.le_of_ble_eq_true rfl) rfl [some (.ref x0), some (.int (nI au)), some (.int g), some (.int h), none, none, none, none, none, none, none, none, none, none, none, none, none, none] rfl (Nat.le_of_ble_eq_true rfl) ?_
  intro X eX C N
  subst eX
  have hb0 : uU S 0 ≤ 12 := gg_u hG 0
  have hb1 : uU S 1 ≤ 8 := gg_u1 hG
  have hb2 : mK S ≤ 60 := gg_M hG
  have hks : kS S rr cc ≤ mK S := zc_le _ _
  have hxr : xR S 1 cc < mK S := (Dm_t hD1).1
  refine z_aload_n C 0 dL_sets_0 rfl rfl ?_
  refine z_iconst C (nI 0) dL_sets_1 (by decide) ?_
  refine z_iconst C (nI 0) dL_sets_2 (by decide) ?_
  refine z_callVr C kX5_size gL_sets_X5_size (l_size0 X.2.1 x0 h0 w0 t S 0 hG (by decide)) dL_sets_3 [0, 1, 2, 3, 4, 5, 6, 7, 8] [] 0 rfl nd_0_1_2_3_4_5_6_7_8 rfl rfl rfl (by decide) (by decide) (Nat.le_of_ble_eq_true rfl) rfl ?_
  refine z_istore C dL_sets_6 (Nat.le_of_ble_eq_true rfl) ?_
  refine z_lv (lv' := [some (.ref x0), some (.int (nI au)), some (.int g), some (.int h), some (.int (nI (uU S 0))), none, none, none, none, none, none, none, none, none, none, none, none, none]) rfl ?_
  refine z_aload_n C 0 dL_sets_8 rfl rfl ?_
  refine z_iconst C (nI 0) dL_sets_9 (by decide) ?_
  refine z_iconst C (nI 1) dL_sets_10 (by decide) ?_
  refine z_callVr C kX5_size gL_sets_X5_size (l_size0 X.2.1 x0 h0 w0 t S 1 hG (by decide)) dL_sets_11 [0, 1, 2, 3, 4, 5, 6, 7, 8] [] 0 rfl nd_0_1_2_3_4_5_6_7_8 rfl rfl rfl (by decide) (by decide) (Nat.le_of_ble_eq_true rfl) rfl ?_
  refine z_istore C dL_sets_14 (Nat.le_of_ble_eq_true rfl) ?_
  refine z_lv (lv' := [some (.ref x0), some (.int (nI au)), some (.int g), some (.int h), some (.int (nI (uU S 0))), some (.int (nI (uU S 1))), none, none, none, none, none, none, none, none, none, none, none, none]) rfl ?_
  refine z_iload C dL_sets_16 rfl ?_
  refine z_nif_eq_f C 26 dL_sets_18 (by decide) (by omega) (by omega) ?_
  refine z_iload C dL_sets_21 rfl ?_
  refine z_nif_ne_t C 44 dL_sets_23 (by decide) (by omega) (by omega) ?_
  refine z_iload_n C 2 dL_sets_44 rfl rfl ?_
  refine z_iload C dL_sets_45 rfl ?_
  refine z_callS C kL_low gL_sets_L_low (l_low X.2.1 g (uU S 0) (by omega) (by omega)) dL_sets_47 [] rfl (by decide) (by decide) (Nat.le_of_ble_eq_true rfl) rfl ?_
  refine z_top (y := nI rr) (congrArg nI hR) ?_
  refine z_istore C dL_sets_50 (Nat.le_of_ble_eq_true rfl) ?_
  refine z_lv (lv' := [some (.ref x0), some (.int (nI au)), some (.int g), some (.int h), some (.int (nI (uU S 0))), some (.int (nI (uU S 1))), some (.int (nI rr)), none, none, none, none, none, none, none, none, none, none, none]) rfl ?_
  refine z_iload_n C 2 dL_sets_52 rfl rfl ?_
  refine z_iconst C (nI 4) dL_sets_53 (by decide) ?_
  refine z_ishr C dL_sets_54 ?_
  refine z_iload C dL_sets_55 rfl ?_
  refine z_callS C kL_low gL_sets_L_low (l_low X.2.1 (g >>> ((nI 4) &&& 31)) (uU S 1) (by omega) (by omega)) dL_sets_57 [] rfl (by decide) (by decide) (Nat.le_of_ble_eq_true rfl) rfl ?_
  refine z_top (y := nI cc) (congrArg nI hC) ?_
  refine z_istore C dL_sets_60 (Nat.le_of_ble_eq_true rfl) ?_
  refine z_lv (lv' := [some (.ref x0), some (.int (nI au)), some (.int g), some (.int h), some (.int (nI (uU S 0))), some (.int (nI (uU S 1))), some (.int (nI rr)), some (.int (nI cc)), none, none, none, none, none, none, none, none, none, none]) rfl ?_
  refine z_iload_n C 3 dL_sets_62 rfl rfl ?_
  refine z_iconst C (nI 5) dL_sets_63 (by decide) ?_
  refine z_callS C kL_low gL_sets_L_low (l_low X.2.1 h 5 (by decide) (by decide)) dL_sets_64 [] rfl (by decide) (by decide) (Nat.le_of_ble_eq_true rfl) rfl ?_
  refine z_top (y := nI v) (congrArg nI hV) ?_
  refine z_istore C dL_sets_67 (Nat.le_of_ble_eq_true rfl) ?_
  refine z_lv (lv' := [some (.ref x0), some (.int (nI au)), some (.int g), some (.int h), some (.int (nI (uU S 0))), some (.int (nI (uU S 1))), some (.int (nI rr)), some (.int (nI cc)), some (.int (nI v)), none, none, none, none, none, none, none, none, none]) rfl ?_
  refine z_aload_n C 0 dL_sets_69 rfl rfl ?_
  refine z_iconst C (nI 0) dL_sets_70 (by decide) ?_
  refine z_callVr C kX5_count gL_sets_X5_count (l_cnt0 X.2.1 x0 h0 h1 w0 w1 t S o kp ln ps  hG ) dL_sets_71 [0, 1, 2, 3, 4, 5, 6, 7, 8, 9, 51] [] 0 rfl nd_0_1_2_3_4_5_6_7_8_9_51 rfl rfl rfl (by decide) (by decide) (Nat.le_of_ble_eq_true rfl) rfl ?_
  refine z_istore C dL_sets_74 (Nat.le_of_ble_eq_true rfl) ?_
  refine z_lv (lv' := [some (.ref x0), some (.int (nI au)), some (.int g), some (.int h), some (.int (nI (uU S 0))), some (.int (nI (uU S 1))), some (.int (nI rr)), some (.int (nI cc)), some (.int (nI v)), some (.int (nI (mK S))), none, none, none, none, none, none, none, none]) rfl ?_
  refine z_aload_n C 0 dL_sets_76 rfl rfl ?_
  refine z_iconst C (nI 5) dL_sets_77 (by decide) ?_
  refine z_callVr C kX5_count gL_sets_X5_count (l_cnt5 X.2.1 x0 h0 h1 w0 w1 t S o kp ln ps  hG ) dL_sets_78 [0, 1, 2, 3, 4, 5, 6, 7, 8, 9, 51] [] 0 rfl nd_0_1_2_3_4_5_6_7_8_9_51 rfl rfl rfl (by decide) (by decide) (Nat.le_of_ble_eq_true rfl) rfl ?_
  refine z_iconst C (nI 1) dL_sets_81 (by decide) ?_
  refine z_icmp_ne C 89 dL_sets_82 (by decide) (fun h_1 => ?_) (fun h_1 => ?_)
  · refine z_iconst C (nI 0) dL_sets_89 (by decide) ?_
    refine z_istore C dL_sets_90 (Nat.le_of_ble_eq_true rfl) ?_
    refine z_lv (lv' := [some (.ref x0), some (.int (nI au)), some (.int g), some (.int h), some (.int (nI (uU S 0))), some (.int (nI (uU S 1))), some (.int (nI rr)), some (.int (nI cc)), some (.int (nI v)), some (.int (nI (mK S))), some (.int (nI 0)), none, none, none, none, none, none, none]) rfl ?_
    refine z_iconst C (nI 0) dL_sets_92 (by decide) ?_
    refine z_istore C dL_sets_93 (Nat.le_of_ble_eq_true rfl) ?_
    refine z_lv (lv' := [some (.ref x0), some (.int (nI au)), some (.int g), some (.int h), some (.int (nI (uU S 0))), some (.int (nI (uU S 1))), some (.int (nI rr)), some (.int (nI cc)), some (.int (nI v)), some (.int (nI (mK S))), some (.int (nI 0)), some (.int (nI 0)), none, none, none, none, none, none]) rfl ?_
    have hL95 : ∀ (dd95 : Nat) (n : Nat), kS S rr cc - n = dd95 → (n ≤ kS S rr cc) → zG X 0 0 (WRd X.2.1 x0 h0 h1 w0 w1 t r S o kp Q tx ln ps) [some (.ref x0), some (.int (nI au)), some (.int g), some (.int h), some (.int (nI (uU S 0))), some (.int (nI (uU S 1))), some (.int (nI rr)), some (.int (nI cc)), some (.int (nI v)), some (.int (nI (mK S))), some (.int (nI 0)), some (.int (nI n)), none, none, none, none, none, none] [] 95 := by
      intro dd95
      induction dd95 using Nat.strongRecOn with
      | _ dd95 ih95 =>
        intro n hdd95 hn
        refine z_aload_n C 0 dL_sets_95 rfl rfl ?_
        refine z_iload C dL_sets_96 rfl ?_
        refine z_iload C dL_sets_98 rfl ?_
        refine z_iload C dL_sets_100 rfl ?_
        rcases Nat.lt_or_ge (n) (kS S rr cc) with hq_2 | hq_2
        · have fk_3 : sX S rr cc n < mK S := (sX_f hG (by omega) (by omega) hq_2).1
          have fk_4 : kN S (sX S rr cc n) = 4 := (sX_f hG (by omega) (by omega) hq_2).2.1
          have fk_5 : sN S (sX S rr cc n) = 0 := (sX_f hG (by omega) (by omega) hq_2).2.2.1
          refine z_callVr C kX5_setting gL_sets_X5_setting (l_setY X.2.1 x0 h0 w0 t S rr cc n hG hr hc hq_2) dL_sets_102 [0, 1, 2, 3, 4, 5, 6, 7, 8] [] 0 rfl nd_0_1_2_3_4_5_6_7_8 rfl rfl rfl (by decide) (by decide) (Nat.le_of_ble_eq_true rfl) rfl ?_
          have hg_6 : sX S rr cc n < mK S := (sX_t hG (by omega)).1
          refine z_nif_lt_f C 114 dL_sets_105 (by decide) (by omega) (by trivial) ?_
          refine z_iinc C (nI (n + 1)) dL_sets_108 rfl (zi_1 _) ?_
          refine z_lv (lv' := [some (.ref x0), some (.int (nI au)), some (.int g), some (.int h), some (.int (nI (uU S 0))), some (.int (nI (uU S 1))), some (.int (nI rr)), some (.int (nI cc)), some (.int (nI v)), some (.int (nI (mK S))), some (.int (nI 0)), some (.int (nI (n + 1))), none, none, none, none, none, none]) rfl ?_
          refine z_goto C 95 dL_sets_111 (by decide) ?_
          exact ih95 (kS S rr cc - (n + 1)) (by omega) (n + 1) rfl (by omega)
        · refine z_callVr C kX5_setting gL_sets_X5_setting (l_setN X.2.1 x0 h0 w0 t S rr cc n hG hr hc hq_2 (by omega)) dL_sets_102 [0, 1, 2, 3, 4, 5, 6, 7, 8] [] 0 rfl nd_0_1_2_3_4_5_6_7_8 rfl rfl rfl (by decide) (by decide) (Nat.le_of_ble_eq_true rfl) rfl ?_
          refine z_if_lt_t C 114 dL_sets_105 (by decide) (by decide) ?_
          obtain rfl : n = kS S rr cc := (by omega)
          refine z_iload C dL_sets_114 rfl ?_
          refine z_nif_ne C 123 dL_sets_116 (by decide) (by omega) (fun h_7 => ?_) (fun h_7 => ?_)
          · have fq_8 : sX S rr cc (kS S rr cc - 1) < mK S := (sX_f hG hr hc (show kS S rr cc - 1 < kS S rr cc by omega)).1
            have fq_9 : kN S (sX S rr cc (kS S rr cc - 1)) = 4 := (sX_f hG hr hc (show kS S rr cc - 1 < kS S rr cc by omega)).2.1
            have fq_10 : sN S (sX S rr cc (kS S rr cc - 1)) = 0 := (sX_f hG hr hc (show kS S rr cc - 1 < kS S rr cc by omega)).2.2.1
            have fq_11 : aN S (sX S rr cc (kS S rr cc - 1)) < 4 := (aN_e hG (sX_f hG hr hc (show kS S rr cc - 1 < kS S rr cc by omega)).1).2
            have fq_12 : bN S (sX S rr cc (kS S rr cc - 1)) < 10000 := (bN_e hG (sX_f hG hr hc (show kS S rr cc - 1 < kS S rr cc by omega)).1 (sX_f hG hr hc (show kS S rr cc - 1 < kS S rr cc by omega)).2.1 (sX_f hG hr hc (show kS S rr cc - 1 < kS S rr cc by omega)).2.2.1).2
            refine z_aload_n C 0 dL_sets_123 rfl rfl ?_
            refine z_iload C dL_sets_124 rfl ?_
            refine z_iload C dL_sets_126 rfl ?_
            refine z_iload C dL_sets_128 rfl ?_
            refine z_iconst C (nI 1) dL_sets_130 (by decide) ?_
            refine z_isub C dL_sets_131 ?_
            refine z_top (y := nI ((kS S rr cc) - 1)) ((pk_sub (by omega)).trans (congrArg nI (by omega))) ?_
            refine z_callVr C kX5_setting gL_sets_X5_setting (l_setY X.2.1 x0 h0 w0 t S rr cc ((kS S rr cc) - 1) hG hr hc (by omega)) dL_sets_132 [0, 1, 2, 3, 4, 5, 6, 7, 8] [] 0 rfl nd_0_1_2_3_4_5_6_7_8 rfl rfl rfl (by decide) (by decide) (Nat.le_of_ble_eq_true rfl) rfl ?_
            have hg_13 : sX S rr cc ((kS S rr cc) - 1) < mK S := (sX_t hG (by omega)).1
            refine z_istore C dL_sets_135 (Nat.le_of_ble_eq_true rfl) ?_
            refine z_lv (lv' := [some (.ref x0), some (.int (nI au)), some (.int g), some (.int h), some (.int (nI (uU S 0))), some (.int (nI (uU S 1))), some (.int (nI rr)), some (.int (nI cc)), some (.int (nI v)), some (.int (nI (mK S))), some (.int (nI 0)), some (.int (nI (kS S rr cc))), some (.int (nI (sX S rr cc ((kS S rr cc) - 1)))), none, none, none, none, none]) rfl ?_
            refine z_iload C dL_sets_137 rfl ?_
            refine z_nif_lt_f C 157 dL_sets_139 (by decide) (by omega) (by trivial) ?_
            refine z_aload_n C 0 dL_sets_142 rfl rfl ?_
            refine z_iload C dL_sets_143 rfl ?_
            refine z_iconst C (nI 1) dL_sets_145 (by decide) ?_
            refine z_callVr C kX5_change gL_sets_X5_change (l_chg1 X.2.1 x0 h0 w0 t S (sX S rr cc ((kS S rr cc) - 1)) hG fq_8) dL_sets_146 [0, 1, 2, 3, 4, 5, 6, 7, 8] [] 0 rfl nd_0_1_2_3_4_5_6_7_8 rfl rfl rfl (by decide) (by decide) (Nat.le_of_ble_eq_true rfl) rfl ?_
            refine z_iload_n C 1 dL_sets_149 rfl rfl ?_
            refine z_ncmp_ne C 157 dL_sets_150 (by decide) (by omega) (by omega) (fun h_14 => ?_) (fun h_14 => ?_)
            · refine z_iconst C (nI 0) dL_sets_157 (by decide) ?_
              refine z_istore C dL_sets_158 (Nat.le_of_ble_eq_true rfl) ?_
              refine z_lv (lv' := [some (.ref x0), some (.int (nI au)), some (.int g), some (.int h), some (.int (nI (uU S 0))), some (.int (nI (uU S 1))), some (.int (nI rr)), some (.int (nI cc)), some (.int (nI v)), some (.int (nI (mK S))), some (.int (nI 0)), some (.int (nI (kS S rr cc))), some (.int (nI (sX S rr cc ((kS S rr cc) - 1)))), some (.int (nI 0)), none, none, none, none]) rfl ?_
              refine z_aload_n C 0 dL_sets_160 rfl rfl ?_
              refine z_iconst C (nI 0) dL_sets_161 (by decide) ?_
              refine z_iload C dL_sets_162 rfl ?_
              refine z_iconst C (nI 1) dL_sets_164 (by decide) ?_
              refine z_callVr C kX5_line gL_sets_X5_line (l_line1n X.2.1 x0 h0 w0 t S 0 rr hG (by decide) hr hD0) dL_sets_165 [0, 1, 2, 3, 4, 5, 6, 7, 8] [] 0 rfl nd_0_1_2_3_4_5_6_7_8 rfl rfl rfl (by decide) (by decide) (Nat.le_of_ble_eq_true rfl) rfl ?_
              refine z_if_ge_f C 196 dL_sets_168 (by decide) (by decide) ?_
              refine z_aload_n C 0 dL_sets_171 rfl rfl ?_
              refine z_iconst C (nI 1) dL_sets_172 (by decide) ?_
              refine z_iload C dL_sets_173 rfl ?_
              refine z_iconst C (nI 1) dL_sets_175 (by decide) ?_
              refine z_callVr C kX5_line gL_sets_X5_line (l_line1y X.2.1 x0 h0 w0 t S 1 cc hG (by decide) hc hD1) dL_sets_176 [0, 1, 2, 3, 4, 5, 6, 7, 8] [] 0 rfl nd_0_1_2_3_4_5_6_7_8 rfl rfl rfl (by decide) (by decide) (Nat.le_of_ble_eq_true rfl) rfl ?_
              refine z_nif_ge_t C 196 dL_sets_179 (by decide) (by omega) (by trivial) ?_
              refine z_iconst C (nI 1) dL_sets_196 (by decide) ?_
              refine z_goto C 201 dL_sets_197 (by decide) ?_
              refine z_istore C dL_sets_201 (Nat.le_of_ble_eq_true rfl) ?_
              refine z_lv (lv' := [some (.ref x0), some (.int (nI au)), some (.int g), some (.int h), some (.int (nI (uU S 0))), some (.int (nI (uU S 1))), some (.int (nI rr)), some (.int (nI cc)), some (.int (nI v)), some (.int (nI (mK S))), some (.int (nI 0)), some (.int (nI (kS S rr cc))), some (.int (nI (sX S rr cc ((kS S rr cc) - 1)))), some (.int (nI 0)), some (.int (nI 1)), none, none, none]) rfl ?_
              refine z_iload C dL_sets_203 rfl ?_
              refine z_nif_eq_t C 225 dL_sets_205 (by decide) (by omega) (by omega) ?_
              refine z_iconst C (nI 0) dL_sets_225 (by decide) ?_
              refine z_istore C dL_sets_226 (Nat.le_of_ble_eq_true rfl) ?_
              refine z_lv (lv' := [some (.ref x0), some (.int (nI au)), some (.int g), some (.int h), some (.int (nI (uU S 0))), some (.int (nI (uU S 1))), some (.int (nI rr)), some (.int (nI cc)), some (.int (nI v)), some (.int (nI (mK S))), some (.int (nI 0)), some (.int (nI (kS S rr cc))), some (.int (nI (sX S rr cc ((kS S rr cc) - 1)))), some (.int (nI 0)), some (.int (nI 1)), some (.int (nI 0)), none, none]) rfl ?_
              refine z_iload C dL_sets_228 rfl ?_
              refine z_nif_eq_f C 238 dL_sets_230 (by decide) (by omega) (by omega) ?_
              refine z_bipush C (-4) dL_sets_233 (by decide) ?_
              refine z_goto C 273 dL_sets_235 (by decide) ?_
              refine z_istore C dL_sets_273 (Nat.le_of_ble_eq_true rfl) ?_
              refine z_lv (lv' := [some (.ref x0), some (.int (nI au)), some (.int g), some (.int h), some (.int (nI (uU S 0))), some (.int (nI (uU S 1))), some (.int (nI rr)), some (.int (nI cc)), some (.int (nI v)), some (.int (nI (mK S))), some (.int (nI 0)), some (.int (nI (kS S rr cc))), some (.int (nI (sX S rr cc ((kS S rr cc) - 1)))), some (.int (nI 0)), some (.int (nI 1)), some (.int (nI 0)), some (.int (-4)), none]) rfl ?_
              refine z_aload_n C 0 dL_sets_275 rfl rfl ?_
              refine z_iload_n C 1 dL_sets_276 rfl rfl ?_
              refine z_iload C dL_sets_277 rfl ?_
              refine z_iload C dL_sets_279 rfl ?_
              refine z_iload C dL_sets_281 rfl ?_
              refine z_callV (wn := (WRd X.2.1 x0 h0 h1 w0 w1 t r S o1 kp1 Q1 tx ln ps)) C kX5_set gL_sets_X5_set m1 dL_sets_283 [0, 1, 2, 3, 4, 5, 6, 7, 8, 9, 10, 11, 12, 13, 14, 15, 16, 17, 18, 19, 20, 21, 22, 23, 24, 25, 26, 27, 28, 29, 30, 31, 32, 33, 34, 35, 36, 37, 38, 39, 40, 41, 42, 43, 44, 45, 46, 47, 48, 49, 50] [] 0 rfl rfl nd_0_1_2_3_4_5_6_7_8_9_10_11_12_13_14_15_16_17_18_19_20_21_22_23_24_25_26_27_28_29_30_31_32_33_34_35_36_37_38_39_40_41_42_43_44_45_46_47_48_49_50 rfl rfl rfl (by decide) (by decide) (Nat.le_of_ble_eq_true rfl) rfl ((zput_par nd_0_1_2_3_4_5_6_7_8_9_10_11_12_13_14_15_16_17_18_19_20_21_22_23_24_25_26_27_28_29_30_31_32_33_34_35_36_37_38_39_40_41_42_43_44_45_46_47_48_49_50 rfl).trans rfl) ?_
              refine z_iload C dL_sets_286 rfl ?_
              refine z_icmp_ne_f C 308 dL_sets_288 (by decide) rfl ?_
              refine z_aload_n C 0 dL_sets_291 rfl rfl ?_
              refine z_iload_n C 1 dL_sets_292 rfl rfl ?_
              refine z_iload C dL_sets_293 rfl ?_
              refine z_iload C dL_sets_295 rfl ?_
              refine z_sipush C (nI 10000) dL_sets_297 (by decide) ?_
              refine z_callV (wn := (WRd X.2.1 x0 h0 h1 w0 w1 t r S o2 kp2 Q2 tx ln ps)) C kX5_set gL_sets_X5_set m2 dL_sets_300 [0, 1, 2, 3, 4, 5, 6, 7, 8, 9, 10, 11, 12, 13, 14, 15, 16, 17, 18, 19, 20, 21, 22, 23, 24, 25, 26, 27, 28, 29, 30, 31, 32, 33, 34, 35, 36, 37, 38, 39, 40, 41, 42, 43, 44, 45, 46, 47, 48, 49, 50] [] 0 rfl rfl nd_0_1_2_3_4_5_6_7_8_9_10_11_12_13_14_15_16_17_18_19_20_21_22_23_24_25_26_27_28_29_30_31_32_33_34_35_36_37_38_39_40_41_42_43_44_45_46_47_48_49_50 rfl rfl rfl (by decide) (by decide) (Nat.le_of_ble_eq_true rfl) rfl ((zput_par nd_0_1_2_3_4_5_6_7_8_9_10_11_12_13_14_15_16_17_18_19_20_21_22_23_24_25_26_27_28_29_30_31_32_33_34_35_36_37_38_39_40_41_42_43_44_45_46_47_48_49_50 rfl).trans rfl) ?_
              refine z_bipush C (-2) dL_sets_303 (by decide) ?_
              refine z_icmp_eq_t C 310 dL_sets_305 (by decide) rfl ?_
              refine z_iload C dL_sets_310 rfl ?_
              refine z_if_ge_f C 336 dL_sets_312 (by decide) (by decide) ?_
              refine z_aload_n C 0 dL_sets_315 rfl rfl ?_
              refine z_iload C dL_sets_316 rfl ?_
              refine z_iload C dL_sets_318 rfl ?_
              refine z_iload C dL_sets_320 rfl ?_
              refine z_callVr C kX5_setting gL_sets_X5_setting (l_setN X.2.1 x0 h0 w0 t S rr cc (kS S rr cc) hG hr hc hn (by omega)) dL_sets_322 [0, 1, 2, 3, 4, 5, 6, 7, 8] [] 0 rfl nd_0_1_2_3_4_5_6_7_8 rfl rfl rfl (by decide) (by decide) (Nat.le_of_ble_eq_true rfl) rfl ?_
              refine z_bipush C (-5) dL_sets_325 (by decide) ?_
              refine z_icmp_ne_f C 334 dL_sets_327 (by decide) rfl ?_
              refine z_iconst C (nI 1) dL_sets_330 (by decide) ?_
              refine z_goto C 335 dL_sets_331 (by decide) ?_
              exact z_zret C N dL_sets_335 rfl (rfl) (rfl)
            · refine z_iconst C (nI 1) dL_sets_153 (by decide) ?_
              refine z_goto C 158 dL_sets_154 (by decide) ?_
              refine z_istore C dL_sets_158 (Nat.le_of_ble_eq_true rfl) ?_
              refine z_lv (lv' := [some (.ref x0), some (.int (nI au)), some (.int g), some (.int h), some (.int (nI (uU S 0))), some (.int (nI (uU S 1))), some (.int (nI rr)), some (.int (nI cc)), some (.int (nI v)), some (.int (nI (mK S))), some (.int (nI 0)), some (.int (nI (kS S rr cc))), some (.int (nI (sX S rr cc ((kS S rr cc) - 1)))), some (.int (nI 1)), none, none, none, none]) rfl ?_
              refine z_aload_n C 0 dL_sets_160 rfl rfl ?_
              refine z_iconst C (nI 0) dL_sets_161 (by decide) ?_
              refine z_iload C dL_sets_162 rfl ?_
              refine z_iconst C (nI 1) dL_sets_164 (by decide) ?_
              refine z_callVr C kX5_line gL_sets_X5_line (l_line1n X.2.1 x0 h0 w0 t S 0 rr hG (by decide) hr hD0) dL_sets_165 [0, 1, 2, 3, 4, 5, 6, 7, 8] [] 0 rfl nd_0_1_2_3_4_5_6_7_8 rfl rfl rfl (by decide) (by decide) (Nat.le_of_ble_eq_true rfl) rfl ?_
              refine z_if_ge_f C 196 dL_sets_168 (by decide) (by decide) ?_
              refine z_aload_n C 0 dL_sets_171 rfl rfl ?_
              refine z_iconst C (nI 1) dL_sets_172 (by decide) ?_
              refine z_iload C dL_sets_173 rfl ?_
              refine z_iconst C (nI 1) dL_sets_175 (by decide) ?_
              refine z_callVr C kX5_line gL_sets_X5_line (l_line1y X.2.1 x0 h0 w0 t S 1 cc hG (by decide) hc hD1) dL_sets_176 [0, 1, 2, 3, 4, 5, 6, 7, 8] [] 0 rfl nd_0_1_2_3_4_5_6_7_8 rfl rfl rfl (by decide) (by decide) (Nat.le_of_ble_eq_true rfl) rfl ?_
              refine z_nif_ge_t C 196 dL_sets_179 (by decide) (by omega) (by trivial) ?_
              refine z_iconst C (nI 1) dL_sets_196 (by decide) ?_
              refine z_goto C 201 dL_sets_197 (by decide) ?_
              refine z_istore C dL_sets_201 (Nat.le_of_ble_eq_true rfl) ?_
              refine z_lv (lv' := [some (.ref x0), some (.int (nI au)), some (.int g), some (.int h), some (.int (nI (uU S 0))), some (.int (nI (uU S 1))), some (.int (nI rr)), some (.int (nI cc)), some (.int (nI v)), some (.int (nI (mK S))), some (.int (nI 0)), some (.int (nI (kS S rr cc))), some (.int (nI (sX S rr cc ((kS S rr cc) - 1)))), some (.int (nI 1)), some (.int (nI 1)), none, none, none]) rfl ?_
              refine z_iload C dL_sets_203 rfl ?_
              refine z_nif_eq_f C 225 dL_sets_205 (by decide) (by omega) (by omega) ?_
              refine z_aload_n C 0 dL_sets_208 rfl rfl ?_
              refine z_iload C dL_sets_209 rfl ?_
              refine z_bipush C (nI 6) dL_sets_211 (by decide) ?_
              refine z_callVr C kX5_change gL_sets_X5_change (l_chg6y X.2.1 x0 h0 w0 t S (sX S rr cc ((kS S rr cc) - 1)) hG fq_8 fq_9 fq_10) dL_sets_213 [0, 1, 2, 3, 4, 5, 6, 7, 8] [] 0 rfl nd_0_1_2_3_4_5_6_7_8 rfl rfl rfl (by decide) (by decide) (Nat.le_of_ble_eq_true rfl) rfl ?_
              refine z_iload C dL_sets_216 rfl ?_
              refine z_ncmp_ne C 225 dL_sets_218 (by decide) (by omega) (by omega) (fun h_15 => ?_) (fun h_15 => ?_)
              · refine z_iconst C (nI 0) dL_sets_225 (by decide) ?_
                refine z_istore C dL_sets_226 (Nat.le_of_ble_eq_true rfl) ?_
                refine z_lv (lv' := [some (.ref x0), some (.int (nI au)), some (.int g), some (.int h), some (.int (nI (uU S 0))), some (.int (nI (uU S 1))), some (.int (nI rr)), some (.int (nI cc)), some (.int (nI v)), some (.int (nI (mK S))), some (.int (nI 0)), some (.int (nI (kS S rr cc))), some (.int (nI (sX S rr cc ((kS S rr cc) - 1)))), some (.int (nI 1)), some (.int (nI 1)), some (.int (nI 0)), none, none]) rfl ?_
                refine z_iload C dL_sets_228 rfl ?_
                refine z_nif_eq_f C 238 dL_sets_230 (by decide) (by omega) (by omega) ?_
                refine z_bipush C (-4) dL_sets_233 (by decide) ?_
                refine z_goto C 273 dL_sets_235 (by decide) ?_
                refine z_istore C dL_sets_273 (Nat.le_of_ble_eq_true rfl) ?_
                refine z_lv (lv' := [some (.ref x0), some (.int (nI au)), some (.int g), some (.int h), some (.int (nI (uU S 0))), some (.int (nI (uU S 1))), some (.int (nI rr)), some (.int (nI cc)), some (.int (nI v)), some (.int (nI (mK S))), some (.int (nI 0)), some (.int (nI (kS S rr cc))), some (.int (nI (sX S rr cc ((kS S rr cc) - 1)))), some (.int (nI 1)), some (.int (nI 1)), some (.int (nI 0)), some (.int (-4)), none]) rfl ?_
                refine z_aload_n C 0 dL_sets_275 rfl rfl ?_
                refine z_iload_n C 1 dL_sets_276 rfl rfl ?_
                refine z_iload C dL_sets_277 rfl ?_
                refine z_iload C dL_sets_279 rfl ?_
                refine z_iload C dL_sets_281 rfl ?_
                refine z_callV (wn := (WRd X.2.1 x0 h0 h1 w0 w1 t r S o1 kp1 Q1 tx ln ps)) C kX5_set gL_sets_X5_set m1 dL_sets_283 [0, 1, 2, 3, 4, 5, 6, 7, 8, 9, 10, 11, 12, 13, 14, 15, 16, 17, 18, 19, 20, 21, 22, 23, 24, 25, 26, 27, 28, 29, 30, 31, 32, 33, 34, 35, 36, 37, 38, 39, 40, 41, 42, 43, 44, 45, 46, 47, 48, 49, 50] [] 0 rfl rfl nd_0_1_2_3_4_5_6_7_8_9_10_11_12_13_14_15_16_17_18_19_20_21_22_23_24_25_26_27_28_29_30_31_32_33_34_35_36_37_38_39_40_41_42_43_44_45_46_47_48_49_50 rfl rfl rfl (by decide) (by decide) (Nat.le_of_ble_eq_true rfl) rfl ((zput_par nd_0_1_2_3_4_5_6_7_8_9_10_11_12_13_14_15_16_17_18_19_20_21_22_23_24_25_26_27_28_29_30_31_32_33_34_35_36_37_38_39_40_41_42_43_44_45_46_47_48_49_50 rfl).trans rfl) ?_
                refine z_iload C dL_sets_286 rfl ?_
                refine z_icmp_ne_f C 308 dL_sets_288 (by decide) rfl ?_
                refine z_aload_n C 0 dL_sets_291 rfl rfl ?_
                refine z_iload_n C 1 dL_sets_292 rfl rfl ?_
                refine z_iload C dL_sets_293 rfl ?_
                refine z_iload C dL_sets_295 rfl ?_
                refine z_sipush C (nI 10000) dL_sets_297 (by decide) ?_
                refine z_callV (wn := (WRd X.2.1 x0 h0 h1 w0 w1 t r S o2 kp2 Q2 tx ln ps)) C kX5_set gL_sets_X5_set m2 dL_sets_300 [0, 1, 2, 3, 4, 5, 6, 7, 8, 9, 10, 11, 12, 13, 14, 15, 16, 17, 18, 19, 20, 21, 22, 23, 24, 25, 26, 27, 28, 29, 30, 31, 32, 33, 34, 35, 36, 37, 38, 39, 40, 41, 42, 43, 44, 45, 46, 47, 48, 49, 50] [] 0 rfl rfl nd_0_1_2_3_4_5_6_7_8_9_10_11_12_13_14_15_16_17_18_19_20_21_22_23_24_25_26_27_28_29_30_31_32_33_34_35_36_37_38_39_40_41_42_43_44_45_46_47_48_49_50 rfl rfl rfl (by decide) (by decide) (Nat.le_of_ble_eq_true rfl) rfl ((zput_par nd_0_1_2_3_4_5_6_7_8_9_10_11_12_13_14_15_16_17_18_19_20_21_22_23_24_25_26_27_28_29_30_31_32_33_34_35_36_37_38_39_40_41_42_43_44_45_46_47_48_49_50 rfl).trans rfl) ?_
                refine z_bipush C (-2) dL_sets_303 (by decide) ?_
                refine z_icmp_eq_t C 310 dL_sets_305 (by decide) rfl ?_
                refine z_iload C dL_sets_310 rfl ?_
                refine z_if_ge_f C 336 dL_sets_312 (by decide) (by decide) ?_
                refine z_aload_n C 0 dL_sets_315 rfl rfl ?_
                refine z_iload C dL_sets_316 rfl ?_
                refine z_iload C dL_sets_318 rfl ?_
                refine z_iload C dL_sets_320 rfl ?_
                refine z_callVr C kX5_setting gL_sets_X5_setting (l_setN X.2.1 x0 h0 w0 t S rr cc (kS S rr cc) hG hr hc hn (by omega)) dL_sets_322 [0, 1, 2, 3, 4, 5, 6, 7, 8] [] 0 rfl nd_0_1_2_3_4_5_6_7_8 rfl rfl rfl (by decide) (by decide) (Nat.le_of_ble_eq_true rfl) rfl ?_
                refine z_bipush C (-5) dL_sets_325 (by decide) ?_
                refine z_icmp_ne_f C 334 dL_sets_327 (by decide) rfl ?_
                refine z_iconst C (nI 1) dL_sets_330 (by decide) ?_
                refine z_goto C 335 dL_sets_331 (by decide) ?_
                exact z_zret C N dL_sets_335 rfl (rfl) (rfl)
              · refine z_iconst C (nI 1) dL_sets_221 (by decide) ?_
                refine z_goto C 226 dL_sets_222 (by decide) ?_
                refine z_istore C dL_sets_226 (Nat.le_of_ble_eq_true rfl) ?_
                refine z_lv (lv' := [some (.ref x0), some (.int (nI au)), some (.int g), some (.int h), some (.int (nI (uU S 0))), some (.int (nI (uU S 1))), some (.int (nI rr)), some (.int (nI cc)), some (.int (nI v)), some (.int (nI (mK S))), some (.int (nI 0)), some (.int (nI (kS S rr cc))), some (.int (nI (sX S rr cc ((kS S rr cc) - 1)))), some (.int (nI 1)), some (.int (nI 1)), some (.int (nI 1)), none, none]) rfl ?_
                refine z_iload C dL_sets_228 rfl ?_
                refine z_nif_eq_f C 238 dL_sets_230 (by decide) (by omega) (by omega) ?_
                refine z_bipush C (-4) dL_sets_233 (by decide) ?_
                refine z_goto C 273 dL_sets_235 (by decide) ?_
                refine z_istore C dL_sets_273 (Nat.le_of_ble_eq_true rfl) ?_
                refine z_lv (lv' := [some (.ref x0), some (.int (nI au)), some (.int g), some (.int h), some (.int (nI (uU S 0))), some (.int (nI (uU S 1))), some (.int (nI rr)), some (.int (nI cc)), some (.int (nI v)), some (.int (nI (mK S))), some (.int (nI 0)), some (.int (nI (kS S rr cc))), some (.int (nI (sX S rr cc ((kS S rr cc) - 1)))), some (.int (nI 1)), some (.int (nI 1)), some (.int (nI 1)), some (.int (-4)), none]) rfl ?_
                refine z_aload_n C 0 dL_sets_275 rfl rfl ?_
                refine z_iload_n C 1 dL_sets_276 rfl rfl ?_
                refine z_iload C dL_sets_277 rfl ?_
                refine z_iload C dL_sets_279 rfl ?_
                refine z_iload C dL_sets_281 rfl ?_
                refine z_callV (wn := (WRd X.2.1 x0 h0 h1 w0 w1 t r S o1 kp1 Q1 tx ln ps)) C kX5_set gL_sets_X5_set m1 dL_sets_283 [0, 1, 2, 3, 4, 5, 6, 7, 8, 9, 10, 11, 12, 13, 14, 15, 16, 17, 18, 19, 20, 21, 22, 23, 24, 25, 26, 27, 28, 29, 30, 31, 32, 33, 34, 35, 36, 37, 38, 39, 40, 41, 42, 43, 44, 45, 46, 47, 48, 49, 50] [] 0 rfl rfl nd_0_1_2_3_4_5_6_7_8_9_10_11_12_13_14_15_16_17_18_19_20_21_22_23_24_25_26_27_28_29_30_31_32_33_34_35_36_37_38_39_40_41_42_43_44_45_46_47_48_49_50 rfl rfl rfl (by decide) (by decide) (Nat.le_of_ble_eq_true rfl) rfl ((zput_par nd_0_1_2_3_4_5_6_7_8_9_10_11_12_13_14_15_16_17_18_19_20_21_22_23_24_25_26_27_28_29_30_31_32_33_34_35_36_37_38_39_40_41_42_43_44_45_46_47_48_49_50 rfl).trans rfl) ?_
                refine z_iload C dL_sets_286 rfl ?_
                refine z_icmp_ne_f C 308 dL_sets_288 (by decide) rfl ?_
                refine z_aload_n C 0 dL_sets_291 rfl rfl ?_
                refine z_iload_n C 1 dL_sets_292 rfl rfl ?_
                refine z_iload C dL_sets_293 rfl ?_
                refine z_iload C dL_sets_295 rfl ?_
                refine z_sipush C (nI 10000) dL_sets_297 (by decide) ?_
                refine z_callV (wn := (WRd X.2.1 x0 h0 h1 w0 w1 t r S o2 kp2 Q2 tx ln ps)) C kX5_set gL_sets_X5_set m2 dL_sets_300 [0, 1, 2, 3, 4, 5, 6, 7, 8, 9, 10, 11, 12, 13, 14, 15, 16, 17, 18, 19, 20, 21, 22, 23, 24, 25, 26, 27, 28, 29, 30, 31, 32, 33, 34, 35, 36, 37, 38, 39, 40, 41, 42, 43, 44, 45, 46, 47, 48, 49, 50] [] 0 rfl rfl nd_0_1_2_3_4_5_6_7_8_9_10_11_12_13_14_15_16_17_18_19_20_21_22_23_24_25_26_27_28_29_30_31_32_33_34_35_36_37_38_39_40_41_42_43_44_45_46_47_48_49_50 rfl rfl rfl (by decide) (by decide) (Nat.le_of_ble_eq_true rfl) rfl ((zput_par nd_0_1_2_3_4_5_6_7_8_9_10_11_12_13_14_15_16_17_18_19_20_21_22_23_24_25_26_27_28_29_30_31_32_33_34_35_36_37_38_39_40_41_42_43_44_45_46_47_48_49_50 rfl).trans rfl) ?_
                refine z_bipush C (-2) dL_sets_303 (by decide) ?_
                refine z_icmp_eq_t C 310 dL_sets_305 (by decide) rfl ?_
                refine z_iload C dL_sets_310 rfl ?_
                refine z_if_ge_f C 336 dL_sets_312 (by decide) (by decide) ?_
                refine z_aload_n C 0 dL_sets_315 rfl rfl ?_
                refine z_iload C dL_sets_316 rfl ?_
                refine z_iload C dL_sets_318 rfl ?_
                refine z_iload C dL_sets_320 rfl ?_
                refine z_callVr C kX5_setting gL_sets_X5_setting (l_setN X.2.1 x0 h0 w0 t S rr cc (kS S rr cc) hG hr hc hn (by omega)) dL_sets_322 [0, 1, 2, 3, 4, 5, 6, 7, 8] [] 0 rfl nd_0_1_2_3_4_5_6_7_8 rfl rfl rfl (by decide) (by decide) (Nat.le_of_ble_eq_true rfl) rfl ?_
                refine z_bipush C (-5) dL_sets_325 (by decide) ?_
                refine z_icmp_ne_f C 334 dL_sets_327 (by decide) rfl ?_
                refine z_iconst C (nI 1) dL_sets_330 (by decide) ?_
                refine z_goto C 335 dL_sets_331 (by decide) ?_
                exact z_zret C N dL_sets_335 rfl (rfl) (rfl)
          · refine z_iconst C (-1) dL_sets_119 (by decide) ?_
            refine z_goto C 135 dL_sets_120 (by decide) ?_
            refine z_istore C dL_sets_135 (Nat.le_of_ble_eq_true rfl) ?_
            refine z_lv (lv' := [some (.ref x0), some (.int (nI au)), some (.int g), some (.int h), some (.int (nI (uU S 0))), some (.int (nI (uU S 1))), some (.int (nI rr)), some (.int (nI cc)), some (.int (nI v)), some (.int (nI (mK S))), some (.int (nI 0)), some (.int (nI (kS S rr cc))), some (.int (-1)), none, none, none, none, none]) rfl ?_
            refine z_iload C dL_sets_137 rfl ?_
            refine z_if_lt_t C 157 dL_sets_139 (by decide) (by decide) ?_
            refine z_iconst C (nI 0) dL_sets_157 (by decide) ?_
            refine z_istore C dL_sets_158 (Nat.le_of_ble_eq_true rfl) ?_
            refine z_lv (lv' := [some (.ref x0), some (.int (nI au)), some (.int g), some (.int h), some (.int (nI (uU S 0))), some (.int (nI (uU S 1))), some (.int (nI rr)), some (.int (nI cc)), some (.int (nI v)), some (.int (nI (mK S))), some (.int (nI 0)), some (.int (nI (kS S rr cc))), some (.int (-1)), some (.int (nI 0)), none, none, none, none]) rfl ?_
            refine z_aload_n C 0 dL_sets_160 rfl rfl ?_
            refine z_iconst C (nI 0) dL_sets_161 (by decide) ?_
            refine z_iload C dL_sets_162 rfl ?_
            refine z_iconst C (nI 1) dL_sets_164 (by decide) ?_
            refine z_callVr C kX5_line gL_sets_X5_line (l_line1n X.2.1 x0 h0 w0 t S 0 rr hG (by decide) hr hD0) dL_sets_165 [0, 1, 2, 3, 4, 5, 6, 7, 8] [] 0 rfl nd_0_1_2_3_4_5_6_7_8 rfl rfl rfl (by decide) (by decide) (Nat.le_of_ble_eq_true rfl) rfl ?_
            refine z_if_ge_f C 196 dL_sets_168 (by decide) (by decide) ?_
            refine z_aload_n C 0 dL_sets_171 rfl rfl ?_
            refine z_iconst C (nI 1) dL_sets_172 (by decide) ?_
            refine z_iload C dL_sets_173 rfl ?_
            refine z_iconst C (nI 1) dL_sets_175 (by decide) ?_
            refine z_callVr C kX5_line gL_sets_X5_line (l_line1y X.2.1 x0 h0 w0 t S 1 cc hG (by decide) hc hD1) dL_sets_176 [0, 1, 2, 3, 4, 5, 6, 7, 8] [] 0 rfl nd_0_1_2_3_4_5_6_7_8 rfl rfl rfl (by decide) (by decide) (Nat.le_of_ble_eq_true rfl) rfl ?_
            refine z_nif_ge_t C 196 dL_sets_179 (by decide) (by omega) (by trivial) ?_
            refine z_iconst C (nI 1) dL_sets_196 (by decide) ?_
            refine z_goto C 201 dL_sets_197 (by decide) ?_
            refine z_istore C dL_sets_201 (Nat.le_of_ble_eq_true rfl) ?_
            refine z_lv (lv' := [some (.ref x0), some (.int (nI au)), some (.int g), some (.int h), some (.int (nI (uU S 0))), some (.int (nI (uU S 1))), some (.int (nI rr)), some (.int (nI cc)), some (.int (nI v)), some (.int (nI (mK S))), some (.int (nI 0)), some (.int (nI (kS S rr cc))), some (.int (-1)), some (.int (nI 0)), some (.int (nI 1)), none, none, none]) rfl ?_
            refine z_iload C dL_sets_203 rfl ?_
            refine z_nif_eq_t C 225 dL_sets_205 (by decide) (by omega) (by omega) ?_
            refine z_iconst C (nI 0) dL_sets_225 (by decide) ?_
            refine z_istore C dL_sets_226 (Nat.le_of_ble_eq_true rfl) ?_
            refine z_lv (lv' := [some (.ref x0), some (.int (nI au)), some (.int g), some (.int h), some (.int (nI (uU S 0))), some (.int (nI (uU S 1))), some (.int (nI rr)), some (.int (nI cc)), some (.int (nI v)), some (.int (nI (mK S))), some (.int (nI 0)), some (.int (nI (kS S rr cc))), some (.int (-1)), some (.int (nI 0)), some (.int (nI 1)), some (.int (nI 0)), none, none]) rfl ?_
            refine z_iload C dL_sets_228 rfl ?_
            refine z_nif_eq_f C 238 dL_sets_230 (by decide) (by omega) (by omega) ?_
            refine z_bipush C (-4) dL_sets_233 (by decide) ?_
            refine z_goto C 273 dL_sets_235 (by decide) ?_
            refine z_istore C dL_sets_273 (Nat.le_of_ble_eq_true rfl) ?_
            refine z_lv (lv' := [some (.ref x0), some (.int (nI au)), some (.int g), some (.int h), some (.int (nI (uU S 0))), some (.int (nI (uU S 1))), some (.int (nI rr)), some (.int (nI cc)), some (.int (nI v)), some (.int (nI (mK S))), some (.int (nI 0)), some (.int (nI (kS S rr cc))), some (.int (-1)), some (.int (nI 0)), some (.int (nI 1)), some (.int (nI 0)), some (.int (-4)), none]) rfl ?_
            refine z_aload_n C 0 dL_sets_275 rfl rfl ?_
            refine z_iload_n C 1 dL_sets_276 rfl rfl ?_
            refine z_iload C dL_sets_277 rfl ?_
            refine z_iload C dL_sets_279 rfl ?_
            refine z_iload C dL_sets_281 rfl ?_
            refine z_callV (wn := (WRd X.2.1 x0 h0 h1 w0 w1 t r S o1 kp1 Q1 tx ln ps)) C kX5_set gL_sets_X5_set m1 dL_sets_283 [0, 1, 2, 3, 4, 5, 6, 7, 8, 9, 10, 11, 12, 13, 14, 15, 16, 17, 18, 19, 20, 21, 22, 23, 24, 25, 26, 27, 28, 29, 30, 31, 32, 33, 34, 35, 36, 37, 38, 39, 40, 41, 42, 43, 44, 45, 46, 47, 48, 49, 50] [] 0 rfl rfl nd_0_1_2_3_4_5_6_7_8_9_10_11_12_13_14_15_16_17_18_19_20_21_22_23_24_25_26_27_28_29_30_31_32_33_34_35_36_37_38_39_40_41_42_43_44_45_46_47_48_49_50 rfl rfl rfl (by decide) (by decide) (Nat.le_of_ble_eq_true rfl) rfl ((zput_par nd_0_1_2_3_4_5_6_7_8_9_10_11_12_13_14_15_16_17_18_19_20_21_22_23_24_25_26_27_28_29_30_31_32_33_34_35_36_37_38_39_40_41_42_43_44_45_46_47_48_49_50 rfl).trans rfl) ?_
            refine z_iload C dL_sets_286 rfl ?_
            refine z_icmp_ne_f C 308 dL_sets_288 (by decide) rfl ?_
            refine z_aload_n C 0 dL_sets_291 rfl rfl ?_
            refine z_iload_n C 1 dL_sets_292 rfl rfl ?_
            refine z_iload C dL_sets_293 rfl ?_
            refine z_iload C dL_sets_295 rfl ?_
            refine z_sipush C (nI 10000) dL_sets_297 (by decide) ?_
            refine z_callV (wn := (WRd X.2.1 x0 h0 h1 w0 w1 t r S o2 kp2 Q2 tx ln ps)) C kX5_set gL_sets_X5_set m2 dL_sets_300 [0, 1, 2, 3, 4, 5, 6, 7, 8, 9, 10, 11, 12, 13, 14, 15, 16, 17, 18, 19, 20, 21, 22, 23, 24, 25, 26, 27, 28, 29, 30, 31, 32, 33, 34, 35, 36, 37, 38, 39, 40, 41, 42, 43, 44, 45, 46, 47, 48, 49, 50] [] 0 rfl rfl nd_0_1_2_3_4_5_6_7_8_9_10_11_12_13_14_15_16_17_18_19_20_21_22_23_24_25_26_27_28_29_30_31_32_33_34_35_36_37_38_39_40_41_42_43_44_45_46_47_48_49_50 rfl rfl rfl (by decide) (by decide) (Nat.le_of_ble_eq_true rfl) rfl ((zput_par nd_0_1_2_3_4_5_6_7_8_9_10_11_12_13_14_15_16_17_18_19_20_21_22_23_24_25_26_27_28_29_30_31_32_33_34_35_36_37_38_39_40_41_42_43_44_45_46_47_48_49_50 rfl).trans rfl) ?_
            refine z_bipush C (-2) dL_sets_303 (by decide) ?_
            refine z_icmp_eq_t C 310 dL_sets_305 (by decide) rfl ?_
            refine z_iload C dL_sets_310 rfl ?_
            refine z_if_ge_f C 336 dL_sets_312 (by decide) (by decide) ?_
            refine z_aload_n C 0 dL_sets_315 rfl rfl ?_
            refine z_iload C dL_sets_316 rfl ?_
            refine z_iload C dL_sets_318 rfl ?_
            refine z_iload C dL_sets_320 rfl ?_
            refine z_callVr C kX5_setting gL_sets_X5_setting (l_setN X.2.1 x0 h0 w0 t S rr cc (kS S rr cc) hG hr hc hn (by omega)) dL_sets_322 [0, 1, 2, 3, 4, 5, 6, 7, 8] [] 0 rfl nd_0_1_2_3_4_5_6_7_8 rfl rfl rfl (by decide) (by decide) (Nat.le_of_ble_eq_true rfl) rfl ?_
            refine z_bipush C (-5) dL_sets_325 (by decide) ?_
            refine z_icmp_ne_f C 334 dL_sets_327 (by decide) rfl ?_
            refine z_iconst C (nI 1) dL_sets_330 (by decide) ?_
            refine z_goto C 335 dL_sets_331 (by decide) ?_
            exact z_zret C N dL_sets_335 rfl (rfl) (rfl)
    exact hL95 _ 0 rfl (by omega)
  · refine z_iconst C (nI 1) dL_sets_85 (by decide) ?_
    refine z_goto C 90 dL_sets_86 (by decide) ?_
    refine z_istore C dL_sets_90 (Nat.le_of_ble_eq_true rfl) ?_
    refine z_lv (lv' := [some (.ref x0), some (.int (nI au)), some (.int g), some (.int h), some (.int (nI (uU S 0))), some (.int (nI (uU S 1))), some (.int (nI rr)), some (.int (nI cc)), some (.int (nI v)), some (.int (nI (mK S))), some (.int (nI 1)), none, none, none, none, none, none, none]) rfl ?_
    refine z_iconst C (nI 0) dL_sets_92 (by decide) ?_
    refine z_istore C dL_sets_93 (Nat.le_of_ble_eq_true rfl) ?_
    refine z_lv (lv' := [some (.ref x0), some (.int (nI au)), some (.int g), some (.int h), some (.int (nI (uU S 0))), some (.int (nI (uU S 1))), some (.int (nI rr)), some (.int (nI cc)), some (.int (nI v)), some (.int (nI (mK S))), some (.int (nI 1)), some (.int (nI 0)), none, none, none, none, none, none]) rfl ?_
    have hL95 : ∀ (dd95 : Nat) (n : Nat), kS S rr cc - n = dd95 → (n ≤ kS S rr cc) → zG X 0 0 (WRd X.2.1 x0 h0 h1 w0 w1 t r S o kp Q tx ln ps) [some (.ref x0), some (.int (nI au)), some (.int g), some (.int h), some (.int (nI (uU S 0))), some (.int (nI (uU S 1))), some (.int (nI rr)), some (.int (nI cc)), some (.int (nI v)), some (.int (nI (mK S))), some (.int (nI 1)), some (.int (nI n)), none, none, none, none, none, none] [] 95 := by
      intro dd95
      induction dd95 using Nat.strongRecOn with
      | _ dd95 ih95 =>
        intro n hdd95 hn
        refine z_aload_n C 0 dL_sets_95 rfl rfl ?_
        refine z_iload C dL_sets_96 rfl ?_
        refine z_iload C dL_sets_98 rfl ?_
        refine z_iload C dL_sets_100 rfl ?_
        rcases Nat.lt_or_ge (n) (kS S rr cc) with hq_16 | hq_16
        · have fk_17 : sX S rr cc n < mK S := (sX_f hG (by omega) (by omega) hq_16).1
          have fk_18 : kN S (sX S rr cc n) = 4 := (sX_f hG (by omega) (by omega) hq_16).2.1
          have fk_19 : sN S (sX S rr cc n) = 0 := (sX_f hG (by omega) (by omega) hq_16).2.2.1
          refine z_callVr C kX5_setting gL_sets_X5_setting (l_setY X.2.1 x0 h0 w0 t S rr cc n hG hr hc hq_16) dL_sets_102 [0, 1, 2, 3, 4, 5, 6, 7, 8] [] 0 rfl nd_0_1_2_3_4_5_6_7_8 rfl rfl rfl (by decide) (by decide) (Nat.le_of_ble_eq_true rfl) rfl ?_
          have hg_20 : sX S rr cc n < mK S := (sX_t hG (by omega)).1
          refine z_nif_lt_f C 114 dL_sets_105 (by decide) (by omega) (by trivial) ?_
          refine z_iinc C (nI (n + 1)) dL_sets_108 rfl (zi_1 _) ?_
          refine z_lv (lv' := [some (.ref x0), some (.int (nI au)), some (.int g), some (.int h), some (.int (nI (uU S 0))), some (.int (nI (uU S 1))), some (.int (nI rr)), some (.int (nI cc)), some (.int (nI v)), some (.int (nI (mK S))), some (.int (nI 1)), some (.int (nI (n + 1))), none, none, none, none, none, none]) rfl ?_
          refine z_goto C 95 dL_sets_111 (by decide) ?_
          exact ih95 (kS S rr cc - (n + 1)) (by omega) (n + 1) rfl (by omega)
        · refine z_callVr C kX5_setting gL_sets_X5_setting (l_setN X.2.1 x0 h0 w0 t S rr cc n hG hr hc hq_16 (by omega)) dL_sets_102 [0, 1, 2, 3, 4, 5, 6, 7, 8] [] 0 rfl nd_0_1_2_3_4_5_6_7_8 rfl rfl rfl (by decide) (by decide) (Nat.le_of_ble_eq_true rfl) rfl ?_
          refine z_if_lt_t C 114 dL_sets_105 (by decide) (by decide) ?_
          obtain rfl : n = kS S rr cc := (by omega)
          refine z_iload C dL_sets_114 rfl ?_
          refine z_nif_ne C 123 dL_sets_116 (by decide) (by omega) (fun h_21 => ?_) (fun h_21 => ?_)
          · have fq_22 : sX S rr cc (kS S rr cc - 1) < mK S := (sX_f hG hr hc (show kS S rr cc - 1 < kS S rr cc by omega)).1
            have fq_23 : kN S (sX S rr cc (kS S rr cc - 1)) = 4 := (sX_f hG hr hc (show kS S rr cc - 1 < kS S rr cc by omega)).2.1
            have fq_24 : sN S (sX S rr cc (kS S rr cc - 1)) = 0 := (sX_f hG hr hc (show kS S rr cc - 1 < kS S rr cc by omega)).2.2.1
            have fq_25 : aN S (sX S rr cc (kS S rr cc - 1)) < 4 := (aN_e hG (sX_f hG hr hc (show kS S rr cc - 1 < kS S rr cc by omega)).1).2
            have fq_26 : bN S (sX S rr cc (kS S rr cc - 1)) < 10000 := (bN_e hG (sX_f hG hr hc (show kS S rr cc - 1 < kS S rr cc by omega)).1 (sX_f hG hr hc (show kS S rr cc - 1 < kS S rr cc by omega)).2.1 (sX_f hG hr hc (show kS S rr cc - 1 < kS S rr cc by omega)).2.2.1).2
            refine z_aload_n C 0 dL_sets_123 rfl rfl ?_
            refine z_iload C dL_sets_124 rfl ?_
            refine z_iload C dL_sets_126 rfl ?_
            refine z_iload C dL_sets_128 rfl ?_
            refine z_iconst C (nI 1) dL_sets_130 (by decide) ?_
            refine z_isub C dL_sets_131 ?_
            refine z_top (y := nI ((kS S rr cc) - 1)) ((pk_sub (by omega)).trans (congrArg nI (by omega))) ?_
            refine z_callVr C kX5_setting gL_sets_X5_setting (l_setY X.2.1 x0 h0 w0 t S rr cc ((kS S rr cc) - 1) hG hr hc (by omega)) dL_sets_132 [0, 1, 2, 3, 4, 5, 6, 7, 8] [] 0 rfl nd_0_1_2_3_4_5_6_7_8 rfl rfl rfl (by decide) (by decide) (Nat.le_of_ble_eq_true rfl) rfl ?_
            have hg_27 : sX S rr cc ((kS S rr cc) - 1) < mK S := (sX_t hG (by omega)).1
            refine z_istore C dL_sets_135 (Nat.le_of_ble_eq_true rfl) ?_
            refine z_lv (lv' := [some (.ref x0), some (.int (nI au)), some (.int g), some (.int h), some (.int (nI (uU S 0))), some (.int (nI (uU S 1))), some (.int (nI rr)), some (.int (nI cc)), some (.int (nI v)), some (.int (nI (mK S))), some (.int (nI 1)), some (.int (nI (kS S rr cc))), some (.int (nI (sX S rr cc ((kS S rr cc) - 1)))), none, none, none, none, none]) rfl ?_
            refine z_iload C dL_sets_137 rfl ?_
            refine z_nif_lt_f C 157 dL_sets_139 (by decide) (by omega) (by trivial) ?_
            refine z_aload_n C 0 dL_sets_142 rfl rfl ?_
            refine z_iload C dL_sets_143 rfl ?_
            refine z_iconst C (nI 1) dL_sets_145 (by decide) ?_
            refine z_callVr C kX5_change gL_sets_X5_change (l_chg1 X.2.1 x0 h0 w0 t S (sX S rr cc ((kS S rr cc) - 1)) hG fq_22) dL_sets_146 [0, 1, 2, 3, 4, 5, 6, 7, 8] [] 0 rfl nd_0_1_2_3_4_5_6_7_8 rfl rfl rfl (by decide) (by decide) (Nat.le_of_ble_eq_true rfl) rfl ?_
            refine z_iload_n C 1 dL_sets_149 rfl rfl ?_
            refine z_ncmp_ne C 157 dL_sets_150 (by decide) (by omega) (by omega) (fun h_28 => ?_) (fun h_28 => ?_)
            · refine z_iconst C (nI 0) dL_sets_157 (by decide) ?_
              refine z_istore C dL_sets_158 (Nat.le_of_ble_eq_true rfl) ?_
              refine z_lv (lv' := [some (.ref x0), some (.int (nI au)), some (.int g), some (.int h), some (.int (nI (uU S 0))), some (.int (nI (uU S 1))), some (.int (nI rr)), some (.int (nI cc)), some (.int (nI v)), some (.int (nI (mK S))), some (.int (nI 1)), some (.int (nI (kS S rr cc))), some (.int (nI (sX S rr cc ((kS S rr cc) - 1)))), some (.int (nI 0)), none, none, none, none]) rfl ?_
              refine z_aload_n C 0 dL_sets_160 rfl rfl ?_
              refine z_iconst C (nI 0) dL_sets_161 (by decide) ?_
              refine z_iload C dL_sets_162 rfl ?_
              refine z_iconst C (nI 1) dL_sets_164 (by decide) ?_
              refine z_callVr C kX5_line gL_sets_X5_line (l_line1n X.2.1 x0 h0 w0 t S 0 rr hG (by decide) hr hD0) dL_sets_165 [0, 1, 2, 3, 4, 5, 6, 7, 8] [] 0 rfl nd_0_1_2_3_4_5_6_7_8 rfl rfl rfl (by decide) (by decide) (Nat.le_of_ble_eq_true rfl) rfl ?_
              refine z_if_ge_f C 196 dL_sets_168 (by decide) (by decide) ?_
              refine z_aload_n C 0 dL_sets_171 rfl rfl ?_
              refine z_iconst C (nI 1) dL_sets_172 (by decide) ?_
              refine z_iload C dL_sets_173 rfl ?_
              refine z_iconst C (nI 1) dL_sets_175 (by decide) ?_
              refine z_callVr C kX5_line gL_sets_X5_line (l_line1y X.2.1 x0 h0 w0 t S 1 cc hG (by decide) hc hD1) dL_sets_176 [0, 1, 2, 3, 4, 5, 6, 7, 8] [] 0 rfl nd_0_1_2_3_4_5_6_7_8 rfl rfl rfl (by decide) (by decide) (Nat.le_of_ble_eq_true rfl) rfl ?_
              refine z_nif_ge_t C 196 dL_sets_179 (by decide) (by omega) (by trivial) ?_
              refine z_iconst C (nI 1) dL_sets_196 (by decide) ?_
              refine z_goto C 201 dL_sets_197 (by decide) ?_
              refine z_istore C dL_sets_201 (Nat.le_of_ble_eq_true rfl) ?_
              refine z_lv (lv' := [some (.ref x0), some (.int (nI au)), some (.int g), some (.int h), some (.int (nI (uU S 0))), some (.int (nI (uU S 1))), some (.int (nI rr)), some (.int (nI cc)), some (.int (nI v)), some (.int (nI (mK S))), some (.int (nI 1)), some (.int (nI (kS S rr cc))), some (.int (nI (sX S rr cc ((kS S rr cc) - 1)))), some (.int (nI 0)), some (.int (nI 1)), none, none, none]) rfl ?_
              refine z_iload C dL_sets_203 rfl ?_
              refine z_nif_eq_t C 225 dL_sets_205 (by decide) (by omega) (by omega) ?_
              refine z_iconst C (nI 0) dL_sets_225 (by decide) ?_
              refine z_istore C dL_sets_226 (Nat.le_of_ble_eq_true rfl) ?_
              refine z_lv (lv' := [some (.ref x0), some (.int (nI au)), some (.int g), some (.int h), some (.int (nI (uU S 0))), some (.int (nI (uU S 1))), some (.int (nI rr)), some (.int (nI cc)), some (.int (nI v)), some (.int (nI (mK S))), some (.int (nI 1)), some (.int (nI (kS S rr cc))), some (.int (nI (sX S rr cc ((kS S rr cc) - 1)))), some (.int (nI 0)), some (.int (nI 1)), some (.int (nI 0)), none, none]) rfl ?_
              refine z_iload C dL_sets_228 rfl ?_
              refine z_nif_eq_f C 238 dL_sets_230 (by decide) (by omega) (by omega) ?_
              refine z_bipush C (-4) dL_sets_233 (by decide) ?_
              refine z_goto C 273 dL_sets_235 (by decide) ?_
              refine z_istore C dL_sets_273 (Nat.le_of_ble_eq_true rfl) ?_
              refine z_lv (lv' := [some (.ref x0), some (.int (nI au)), some (.int g), some (.int h), some (.int (nI (uU S 0))), some (.int (nI (uU S 1))), some (.int (nI rr)), some (.int (nI cc)), some (.int (nI v)), some (.int (nI (mK S))), some (.int (nI 1)), some (.int (nI (kS S rr cc))), some (.int (nI (sX S rr cc ((kS S rr cc) - 1)))), some (.int (nI 0)), some (.int (nI 1)), some (.int (nI 0)), some (.int (-4)), none]) rfl ?_
              refine z_aload_n C 0 dL_sets_275 rfl rfl ?_
              refine z_iload_n C 1 dL_sets_276 rfl rfl ?_
              refine z_iload C dL_sets_277 rfl ?_
              refine z_iload C dL_sets_279 rfl ?_
              refine z_iload C dL_sets_281 rfl ?_
              refine z_callV (wn := (WRd X.2.1 x0 h0 h1 w0 w1 t r S o1 kp1 Q1 tx ln ps)) C kX5_set gL_sets_X5_set m1 dL_sets_283 [0, 1, 2, 3, 4, 5, 6, 7, 8, 9, 10, 11, 12, 13, 14, 15, 16, 17, 18, 19, 20, 21, 22, 23, 24, 25, 26, 27, 28, 29, 30, 31, 32, 33, 34, 35, 36, 37, 38, 39, 40, 41, 42, 43, 44, 45, 46, 47, 48, 49, 50] [] 0 rfl rfl nd_0_1_2_3_4_5_6_7_8_9_10_11_12_13_14_15_16_17_18_19_20_21_22_23_24_25_26_27_28_29_30_31_32_33_34_35_36_37_38_39_40_41_42_43_44_45_46_47_48_49_50 rfl rfl rfl (by decide) (by decide) (Nat.le_of_ble_eq_true rfl) rfl ((zput_par nd_0_1_2_3_4_5_6_7_8_9_10_11_12_13_14_15_16_17_18_19_20_21_22_23_24_25_26_27_28_29_30_31_32_33_34_35_36_37_38_39_40_41_42_43_44_45_46_47_48_49_50 rfl).trans rfl) ?_
              refine z_iload C dL_sets_286 rfl ?_
              refine z_icmp_ne_f C 308 dL_sets_288 (by decide) rfl ?_
              refine z_aload_n C 0 dL_sets_291 rfl rfl ?_
              refine z_iload_n C 1 dL_sets_292 rfl rfl ?_
              refine z_iload C dL_sets_293 rfl ?_
              refine z_iload C dL_sets_295 rfl ?_
              refine z_sipush C (nI 10000) dL_sets_297 (by decide) ?_
              refine z_callV (wn := (WRd X.2.1 x0 h0 h1 w0 w1 t r S o2 kp2 Q2 tx ln ps)) C kX5_set gL_sets_X5_set m2 dL_sets_300 [0, 1, 2, 3, 4, 5, 6, 7, 8, 9, 10, 11, 12, 13, 14, 15, 16, 17, 18, 19, 20, 21, 22, 23, 24, 25, 26, 27, 28, 29, 30, 31, 32, 33, 34, 35, 36, 37, 38, 39, 40, 41, 42, 43, 44, 45, 46, 47, 48, 49, 50] [] 0 rfl rfl nd_0_1_2_3_4_5_6_7_8_9_10_11_12_13_14_15_16_17_18_19_20_21_22_23_24_25_26_27_28_29_30_31_32_33_34_35_36_37_38_39_40_41_42_43_44_45_46_47_48_49_50 rfl rfl rfl (by decide) (by decide) (Nat.le_of_ble_eq_true rfl) rfl ((zput_par nd_0_1_2_3_4_5_6_7_8_9_10_11_12_13_14_15_16_17_18_19_20_21_22_23_24_25_26_27_28_29_30_31_32_33_34_35_36_37_38_39_40_41_42_43_44_45_46_47_48_49_50 rfl).trans rfl) ?_
              refine z_bipush C (-2) dL_sets_303 (by decide) ?_
              refine z_icmp_eq_t C 310 dL_sets_305 (by decide) rfl ?_
              refine z_iload C dL_sets_310 rfl ?_
              refine z_if_ge_f C 336 dL_sets_312 (by decide) (by decide) ?_
              refine z_aload_n C 0 dL_sets_315 rfl rfl ?_
              refine z_iload C dL_sets_316 rfl ?_
              refine z_iload C dL_sets_318 rfl ?_
              refine z_iload C dL_sets_320 rfl ?_
              refine z_callVr C kX5_setting gL_sets_X5_setting (l_setN X.2.1 x0 h0 w0 t S rr cc (kS S rr cc) hG hr hc hn (by omega)) dL_sets_322 [0, 1, 2, 3, 4, 5, 6, 7, 8] [] 0 rfl nd_0_1_2_3_4_5_6_7_8 rfl rfl rfl (by decide) (by decide) (Nat.le_of_ble_eq_true rfl) rfl ?_
              refine z_bipush C (-5) dL_sets_325 (by decide) ?_
              refine z_icmp_ne_f C 334 dL_sets_327 (by decide) rfl ?_
              refine z_iconst C (nI 1) dL_sets_330 (by decide) ?_
              refine z_goto C 335 dL_sets_331 (by decide) ?_
              exact z_zret C N dL_sets_335 rfl (rfl) (rfl)
            · refine z_iconst C (nI 1) dL_sets_153 (by decide) ?_
              refine z_goto C 158 dL_sets_154 (by decide) ?_
              refine z_istore C dL_sets_158 (Nat.le_of_ble_eq_true rfl) ?_
              refine z_lv (lv' := [some (.ref x0), some (.int (nI au)), some (.int g), some (.int h), some (.int (nI (uU S 0))), some (.int (nI (uU S 1))), some (.int (nI rr)), some (.int (nI cc)), some (.int (nI v)), some (.int (nI (mK S))), some (.int (nI 1)), some (.int (nI (kS S rr cc))), some (.int (nI (sX S rr cc ((kS S rr cc) - 1)))), some (.int (nI 1)), none, none, none, none]) rfl ?_
              refine z_aload_n C 0 dL_sets_160 rfl rfl ?_
              refine z_iconst C (nI 0) dL_sets_161 (by decide) ?_
              refine z_iload C dL_sets_162 rfl ?_
              refine z_iconst C (nI 1) dL_sets_164 (by decide) ?_
              refine z_callVr C kX5_line gL_sets_X5_line (l_line1n X.2.1 x0 h0 w0 t S 0 rr hG (by decide) hr hD0) dL_sets_165 [0, 1, 2, 3, 4, 5, 6, 7, 8] [] 0 rfl nd_0_1_2_3_4_5_6_7_8 rfl rfl rfl (by decide) (by decide) (Nat.le_of_ble_eq_true rfl) rfl ?_
              refine z_if_ge_f C 196 dL_sets_168 (by decide) (by decide) ?_
              refine z_aload_n C 0 dL_sets_171 rfl rfl ?_
              refine z_iconst C (nI 1) dL_sets_172 (by decide) ?_
              refine z_iload C dL_sets_173 rfl ?_
              refine z_iconst C (nI 1) dL_sets_175 (by decide) ?_
              refine z_callVr C kX5_line gL_sets_X5_line (l_line1y X.2.1 x0 h0 w0 t S 1 cc hG (by decide) hc hD1) dL_sets_176 [0, 1, 2, 3, 4, 5, 6, 7, 8] [] 0 rfl nd_0_1_2_3_4_5_6_7_8 rfl rfl rfl (by decide) (by decide) (Nat.le_of_ble_eq_true rfl) rfl ?_
              refine z_nif_ge_t C 196 dL_sets_179 (by decide) (by omega) (by trivial) ?_
              refine z_iconst C (nI 1) dL_sets_196 (by decide) ?_
              refine z_goto C 201 dL_sets_197 (by decide) ?_
              refine z_istore C dL_sets_201 (Nat.le_of_ble_eq_true rfl) ?_
              refine z_lv (lv' := [some (.ref x0), some (.int (nI au)), some (.int g), some (.int h), some (.int (nI (uU S 0))), some (.int (nI (uU S 1))), some (.int (nI rr)), some (.int (nI cc)), some (.int (nI v)), some (.int (nI (mK S))), some (.int (nI 1)), some (.int (nI (kS S rr cc))), some (.int (nI (sX S rr cc ((kS S rr cc) - 1)))), some (.int (nI 1)), some (.int (nI 1)), none, none, none]) rfl ?_
              refine z_iload C dL_sets_203 rfl ?_
              refine z_nif_eq_f C 225 dL_sets_205 (by decide) (by omega) (by omega) ?_
              refine z_aload_n C 0 dL_sets_208 rfl rfl ?_
              refine z_iload C dL_sets_209 rfl ?_
              refine z_bipush C (nI 6) dL_sets_211 (by decide) ?_
              refine z_callVr C kX5_change gL_sets_X5_change (l_chg6y X.2.1 x0 h0 w0 t S (sX S rr cc ((kS S rr cc) - 1)) hG fq_22 fq_23 fq_24) dL_sets_213 [0, 1, 2, 3, 4, 5, 6, 7, 8] [] 0 rfl nd_0_1_2_3_4_5_6_7_8 rfl rfl rfl (by decide) (by decide) (Nat.le_of_ble_eq_true rfl) rfl ?_
              refine z_iload C dL_sets_216 rfl ?_
              refine z_ncmp_ne C 225 dL_sets_218 (by decide) (by omega) (by omega) (fun h_29 => ?_) (fun h_29 => ?_)
              · refine z_iconst C (nI 0) dL_sets_225 (by decide) ?_
                refine z_istore C dL_sets_226 (Nat.le_of_ble_eq_true rfl) ?_
                refine z_lv (lv' := [some (.ref x0), some (.int (nI au)), some (.int g), some (.int h), some (.int (nI (uU S 0))), some (.int (nI (uU S 1))), some (.int (nI rr)), some (.int (nI cc)), some (.int (nI v)), some (.int (nI (mK S))), some (.int (nI 1)), some (.int (nI (kS S rr cc))), some (.int (nI (sX S rr cc ((kS S rr cc) - 1)))), some (.int (nI 1)), some (.int (nI 1)), some (.int (nI 0)), none, none]) rfl ?_
                refine z_iload C dL_sets_228 rfl ?_
                refine z_nif_eq_f C 238 dL_sets_230 (by decide) (by omega) (by omega) ?_
                refine z_bipush C (-4) dL_sets_233 (by decide) ?_
                refine z_goto C 273 dL_sets_235 (by decide) ?_
                refine z_istore C dL_sets_273 (Nat.le_of_ble_eq_true rfl) ?_
                refine z_lv (lv' := [some (.ref x0), some (.int (nI au)), some (.int g), some (.int h), some (.int (nI (uU S 0))), some (.int (nI (uU S 1))), some (.int (nI rr)), some (.int (nI cc)), some (.int (nI v)), some (.int (nI (mK S))), some (.int (nI 1)), some (.int (nI (kS S rr cc))), some (.int (nI (sX S rr cc ((kS S rr cc) - 1)))), some (.int (nI 1)), some (.int (nI 1)), some (.int (nI 0)), some (.int (-4)), none]) rfl ?_
                refine z_aload_n C 0 dL_sets_275 rfl rfl ?_
                refine z_iload_n C 1 dL_sets_276 rfl rfl ?_
                refine z_iload C dL_sets_277 rfl ?_
                refine z_iload C dL_sets_279 rfl ?_
                refine z_iload C dL_sets_281 rfl ?_
                refine z_callV (wn := (WRd X.2.1 x0 h0 h1 w0 w1 t r S o1 kp1 Q1 tx ln ps)) C kX5_set gL_sets_X5_set m1 dL_sets_283 [0, 1, 2, 3, 4, 5, 6, 7, 8, 9, 10, 11, 12, 13, 14, 15, 16, 17, 18, 19, 20, 21, 22, 23, 24, 25, 26, 27, 28, 29, 30, 31, 32, 33, 34, 35, 36, 37, 38, 39, 40, 41, 42, 43, 44, 45, 46, 47, 48, 49, 50] [] 0 rfl rfl nd_0_1_2_3_4_5_6_7_8_9_10_11_12_13_14_15_16_17_18_19_20_21_22_23_24_25_26_27_28_29_30_31_32_33_34_35_36_37_38_39_40_41_42_43_44_45_46_47_48_49_50 rfl rfl rfl (by decide) (by decide) (Nat.le_of_ble_eq_true rfl) rfl ((zput_par nd_0_1_2_3_4_5_6_7_8_9_10_11_12_13_14_15_16_17_18_19_20_21_22_23_24_25_26_27_28_29_30_31_32_33_34_35_36_37_38_39_40_41_42_43_44_45_46_47_48_49_50 rfl).trans rfl) ?_
                refine z_iload C dL_sets_286 rfl ?_
                refine z_icmp_ne_f C 308 dL_sets_288 (by decide) rfl ?_
                refine z_aload_n C 0 dL_sets_291 rfl rfl ?_
                refine z_iload_n C 1 dL_sets_292 rfl rfl ?_
                refine z_iload C dL_sets_293 rfl ?_
                refine z_iload C dL_sets_295 rfl ?_
                refine z_sipush C (nI 10000) dL_sets_297 (by decide) ?_
                refine z_callV (wn := (WRd X.2.1 x0 h0 h1 w0 w1 t r S o2 kp2 Q2 tx ln ps)) C kX5_set gL_sets_X5_set m2 dL_sets_300 [0, 1, 2, 3, 4, 5, 6, 7, 8, 9, 10, 11, 12, 13, 14, 15, 16, 17, 18, 19, 20, 21, 22, 23, 24, 25, 26, 27, 28, 29, 30, 31, 32, 33, 34, 35, 36, 37, 38, 39, 40, 41, 42, 43, 44, 45, 46, 47, 48, 49, 50] [] 0 rfl rfl nd_0_1_2_3_4_5_6_7_8_9_10_11_12_13_14_15_16_17_18_19_20_21_22_23_24_25_26_27_28_29_30_31_32_33_34_35_36_37_38_39_40_41_42_43_44_45_46_47_48_49_50 rfl rfl rfl (by decide) (by decide) (Nat.le_of_ble_eq_true rfl) rfl ((zput_par nd_0_1_2_3_4_5_6_7_8_9_10_11_12_13_14_15_16_17_18_19_20_21_22_23_24_25_26_27_28_29_30_31_32_33_34_35_36_37_38_39_40_41_42_43_44_45_46_47_48_49_50 rfl).trans rfl) ?_
                refine z_bipush C (-2) dL_sets_303 (by decide) ?_
                refine z_icmp_eq_t C 310 dL_sets_305 (by decide) rfl ?_
                refine z_iload C dL_sets_310 rfl ?_
                refine z_if_ge_f C 336 dL_sets_312 (by decide) (by decide) ?_
                refine z_aload_n C 0 dL_sets_315 rfl rfl ?_
                refine z_iload C dL_sets_316 rfl ?_
                refine z_iload C dL_sets_318 rfl ?_
                refine z_iload C dL_sets_320 rfl ?_
                refine z_callVr C kX5_setting gL_sets_X5_setting (l_setN X.2.1 x0 h0 w0 t S rr cc (kS S rr cc) hG hr hc hn (by omega)) dL_sets_322 [0, 1, 2, 3, 4, 5, 6, 7, 8] [] 0 rfl nd_0_1_2_3_4_5_6_7_8 rfl rfl rfl (by decide) (by decide) (Nat.le_of_ble_eq_true rfl) rfl ?_
                refine z_bipush C (-5) dL_sets_325 (by decide) ?_
                refine z_icmp_ne_f C 334 dL_sets_327 (by decide) rfl ?_
                refine z_iconst C (nI 1) dL_sets_330 (by decide) ?_
                refine z_goto C 335 dL_sets_331 (by decide) ?_
                exact z_zret C N dL_sets_335 rfl (rfl) (rfl)
              · refine z_iconst C (nI 1) dL_sets_221 (by decide) ?_
                refine z_goto C 226 dL_sets_222 (by decide) ?_
                refine z_istore C dL_sets_226 (Nat.le_of_ble_eq_true rfl) ?_
                refine z_lv (lv' := [some (.ref x0), some (.int (nI au)), some (.int g), some (.int h), some (.int (nI (uU S 0))), some (.int (nI (uU S 1))), some (.int (nI rr)), some (.int (nI cc)), some (.int (nI v)), some (.int (nI (mK S))), some (.int (nI 1)), some (.int (nI (kS S rr cc))), some (.int (nI (sX S rr cc ((kS S rr cc) - 1)))), some (.int (nI 1)), some (.int (nI 1)), some (.int (nI 1)), none, none]) rfl ?_
                refine z_iload C dL_sets_228 rfl ?_
                refine z_nif_eq_f C 238 dL_sets_230 (by decide) (by omega) (by omega) ?_
                refine z_bipush C (-4) dL_sets_233 (by decide) ?_
                refine z_goto C 273 dL_sets_235 (by decide) ?_
                refine z_istore C dL_sets_273 (Nat.le_of_ble_eq_true rfl) ?_
                refine z_lv (lv' := [some (.ref x0), some (.int (nI au)), some (.int g), some (.int h), some (.int (nI (uU S 0))), some (.int (nI (uU S 1))), some (.int (nI rr)), some (.int (nI cc)), some (.int (nI v)), some (.int (nI (mK S))), some (.int (nI 1)), some (.int (nI (kS S rr cc))), some (.int (nI (sX S rr cc ((kS S rr cc) - 1)))), some (.int (nI 1)), some (.int (nI 1)), some (.int (nI 1)), some (.int (-4)), none]) rfl ?_
                refine z_aload_n C 0 dL_sets_275 rfl rfl ?_
                refine z_iload_n C 1 dL_sets_276 rfl rfl ?_
                refine z_iload C dL_sets_277 rfl ?_
                refine z_iload C dL_sets_279 rfl ?_
                refine z_iload C dL_sets_281 rfl ?_
                refine z_callV (wn := (WRd X.2.1 x0 h0 h1 w0 w1 t r S o1 kp1 Q1 tx ln ps)) C kX5_set gL_sets_X5_set m1 dL_sets_283 [0, 1, 2, 3, 4, 5, 6, 7, 8, 9, 10, 11, 12, 13, 14, 15, 16, 17, 18, 19, 20, 21, 22, 23, 24, 25, 26, 27, 28, 29, 30, 31, 32, 33, 34, 35, 36, 37, 38, 39, 40, 41, 42, 43, 44, 45, 46, 47, 48, 49, 50] [] 0 rfl rfl nd_0_1_2_3_4_5_6_7_8_9_10_11_12_13_14_15_16_17_18_19_20_21_22_23_24_25_26_27_28_29_30_31_32_33_34_35_36_37_38_39_40_41_42_43_44_45_46_47_48_49_50 rfl rfl rfl (by decide) (by decide) (Nat.le_of_ble_eq_true rfl) rfl ((zput_par nd_0_1_2_3_4_5_6_7_8_9_10_11_12_13_14_15_16_17_18_19_20_21_22_23_24_25_26_27_28_29_30_31_32_33_34_35_36_37_38_39_40_41_42_43_44_45_46_47_48_49_50 rfl).trans rfl) ?_
                refine z_iload C dL_sets_286 rfl ?_
                refine z_icmp_ne_f C 308 dL_sets_288 (by decide) rfl ?_
                refine z_aload_n C 0 dL_sets_291 rfl rfl ?_
                refine z_iload_n C 1 dL_sets_292 rfl rfl ?_
                refine z_iload C dL_sets_293 rfl ?_
                refine z_iload C dL_sets_295 rfl ?_
                refine z_sipush C (nI 10000) dL_sets_297 (by decide) ?_
                refine z_callV (wn := (WRd X.2.1 x0 h0 h1 w0 w1 t r S o2 kp2 Q2 tx ln ps)) C kX5_set gL_sets_X5_set m2 dL_sets_300 [0, 1, 2, 3, 4, 5, 6, 7, 8, 9, 10, 11, 12, 13, 14, 15, 16, 17, 18, 19, 20, 21, 22, 23, 24, 25, 26, 27, 28, 29, 30, 31, 32, 33, 34, 35, 36, 37, 38, 39, 40, 41, 42, 43, 44, 45, 46, 47, 48, 49, 50] [] 0 rfl rfl nd_0_1_2_3_4_5_6_7_8_9_10_11_12_13_14_15_16_17_18_19_20_21_22_23_24_25_26_27_28_29_30_31_32_33_34_35_36_37_38_39_40_41_42_43_44_45_46_47_48_49_50 rfl rfl rfl (by decide) (by decide) (Nat.le_of_ble_eq_true rfl) rfl ((zput_par nd_0_1_2_3_4_5_6_7_8_9_10_11_12_13_14_15_16_17_18_19_20_21_22_23_24_25_26_27_28_29_30_31_32_33_34_35_36_37_38_39_40_41_42_43_44_45_46_47_48_49_50 rfl).trans rfl) ?_
                refine z_bipush C (-2) dL_sets_303 (by decide) ?_
                refine z_icmp_eq_t C 310 dL_sets_305 (by decide) rfl ?_
                refine z_iload C dL_sets_310 rfl ?_
                refine z_if_ge_f C 336 dL_sets_312 (by decide) (by decide) ?_
                refine z_aload_n C 0 dL_sets_315 rfl rfl ?_
                refine z_iload C dL_sets_316 rfl ?_
                refine z_iload C dL_sets_318 rfl ?_
                refine z_iload C dL_sets_320 rfl ?_
                refine z_callVr C kX5_setting gL_sets_X5_setting (l_setN X.2.1 x0 h0 w0 t S rr cc (kS S rr cc) hG hr hc hn (by omega)) dL_sets_322 [0, 1, 2, 3, 4, 5, 6, 7, 8] [] 0 rfl nd_0_1_2_3_4_5_6_7_8 rfl rfl rfl (by decide) (by decide) (Nat.le_of_ble_eq_true rfl) rfl ?_
                refine z_bipush C (-5) dL_sets_325 (by decide) ?_
                refine z_icmp_ne_f C 334 dL_sets_327 (by decide) rfl ?_
                refine z_iconst C (nI 1) dL_sets_330 (by decide) ?_
                refine z_goto C 335 dL_sets_331 (by decide) ?_
                exact z_zret C N dL_sets_335 rfl (rfl) (rfl)
          · refine z_iconst C (-1) dL_sets_119 (by decide) ?_
            refine z_goto C 135 dL_sets_120 (by decide) ?_
            refine z_istore C dL_sets_135 (Nat.le_of_ble_eq_true rfl) ?_
            refine z_lv (lv' := [some (.ref x0), some (.int (nI au)), some (.int g), some (.int h), some (.int (nI (uU S 0))), some (.int (nI (uU S 1))), some (.int (nI rr)), some (.int (nI cc)), some (.int (nI v)), some (.int (nI (mK S))), some (.int (nI 1)), some (.int (nI (kS S rr cc))), some (.int (-1)), none, none, none, none, none]) rfl ?_
            refine z_iload C dL_sets_137 rfl ?_
            refine z_if_lt_t C 157 dL_sets_139 (by decide) (by decide) ?_
            refine z_iconst C (nI 0) dL_sets_157 (by decide) ?_
            refine z_istore C dL_sets_158 (Nat.le_of_ble_eq_true rfl) ?_
            refine z_lv (lv' := [some (.ref x0), some (.int (nI au)), some (.int g), some (.int h), some (.int (nI (uU S 0))), some (.int (nI (uU S 1))), some (.int (nI rr)), some (.int (nI cc)), some (.int (nI v)), some (.int (nI (mK S))), some (.int (nI 1)), some (.int (nI (kS S rr cc))), some (.int (-1)), some (.int (nI 0)), none, none, none, none]) rfl ?_
            refine z_aload_n C 0 dL_sets_160 rfl rfl ?_
            refine z_iconst C (nI 0) dL_sets_161 (by decide) ?_
            refine z_iload C dL_sets_162 rfl ?_
            refine z_iconst C (nI 1) dL_sets_164 (by decide) ?_
            refine z_callVr C kX5_line gL_sets_X5_line (l_line1n X.2.1 x0 h0 w0 t S 0 rr hG (by decide) hr hD0) dL_sets_165 [0, 1, 2, 3, 4, 5, 6, 7, 8] [] 0 rfl nd_0_1_2_3_4_5_6_7_8 rfl rfl rfl (by decide) (by decide) (Nat.le_of_ble_eq_true rfl) rfl ?_
            refine z_if_ge_f C 196 dL_sets_168 (by decide) (by decide) ?_
            refine z_aload_n C 0 dL_sets_171 rfl rfl ?_
            refine z_iconst C (nI 1) dL_sets_172 (by decide) ?_
            refine z_iload C dL_sets_173 rfl ?_
            refine z_iconst C (nI 1) dL_sets_175 (by decide) ?_
            refine z_callVr C kX5_line gL_sets_X5_line (l_line1y X.2.1 x0 h0 w0 t S 1 cc hG (by decide) hc hD1) dL_sets_176 [0, 1, 2, 3, 4, 5, 6, 7, 8] [] 0 rfl nd_0_1_2_3_4_5_6_7_8 rfl rfl rfl (by decide) (by decide) (Nat.le_of_ble_eq_true rfl) rfl ?_
            refine z_nif_ge_t C 196 dL_sets_179 (by decide) (by omega) (by trivial) ?_
            refine z_iconst C (nI 1) dL_sets_196 (by decide) ?_
            refine z_goto C 201 dL_sets_197 (by decide) ?_
            refine z_istore C dL_sets_201 (Nat.le_of_ble_eq_true rfl) ?_
            refine z_lv (lv' := [some (.ref x0), some (.int (nI au)), some (.int g), some (.int h), some (.int (nI (uU S 0))), some (.int (nI (uU S 1))), some (.int (nI rr)), some (.int (nI cc)), some (.int (nI v)), some (.int (nI (mK S))), some (.int (nI 1)), some (.int (nI (kS S rr cc))), some (.int (-1)), some (.int (nI 0)), some (.int (nI 1)), none, none, none]) rfl ?_
            refine z_iload C dL_sets_203 rfl ?_
            refine z_nif_eq_t C 225 dL_sets_205 (by decide) (by omega) (by omega) ?_
            refine z_iconst C (nI 0) dL_sets_225 (by decide) ?_
            refine z_istore C dL_sets_226 (Nat.le_of_ble_eq_true rfl) ?_
            refine z_lv (lv' := [some (.ref x0), some (.int (nI au)), some (.int g), some (.int h), some (.int (nI (uU S 0))), some (.int (nI (uU S 1))), some (.int (nI rr)), some (.int (nI cc)), some (.int (nI v)), some (.int (nI (mK S))), some (.int (nI 1)), some (.int (nI (kS S rr cc))), some (.int (-1)), some (.int (nI 0)), some (.int (nI 1)), some (.int (nI 0)), none, none]) rfl ?_
            refine z_iload C dL_sets_228 rfl ?_
            refine z_nif_eq_f C 238 dL_sets_230 (by decide) (by omega) (by omega) ?_
            refine z_bipush C (-4) dL_sets_233 (by decide) ?_
            refine z_goto C 273 dL_sets_235 (by decide) ?_
            refine z_istore C dL_sets_273 (Nat.le_of_ble_eq_true rfl) ?_
            refine z_lv (lv' := [some (.ref x0), some (.int (nI au)), some (.int g), some (.int h), some (.int (nI (uU S 0))), some (.int (nI (uU S 1))), some (.int (nI rr)), some (.int (nI cc)), some (.int (nI v)), some (.int (nI (mK S))), some (.int (nI 1)), some (.int (nI (kS S rr cc))), some (.int (-1)), some (.int (nI 0)), some (.int (nI 1)), some (.int (nI 0)), some (.int (-4)), none]) rfl ?_
            refine z_aload_n C 0 dL_sets_275 rfl rfl ?_
            refine z_iload_n C 1 dL_sets_276 rfl rfl ?_
            refine z_iload C dL_sets_277 rfl ?_
            refine z_iload C dL_sets_279 rfl ?_
            refine z_iload C dL_sets_281 rfl ?_
            refine z_callV (wn := (WRd X.2.1 x0 h0 h1 w0 w1 t r S o1 kp1 Q1 tx ln ps)) C kX5_set gL_sets_X5_set m1 dL_sets_283 [0, 1, 2, 3, 4, 5, 6, 7, 8, 9, 10, 11, 12, 13, 14, 15, 16, 17, 18, 19, 20, 21, 22, 23, 24, 25, 26, 27, 28, 29, 30, 31, 32, 33, 34, 35, 36, 37, 38, 39, 40, 41, 42, 43, 44, 45, 46, 47, 48, 49, 50] [] 0 rfl rfl nd_0_1_2_3_4_5_6_7_8_9_10_11_12_13_14_15_16_17_18_19_20_21_22_23_24_25_26_27_28_29_30_31_32_33_34_35_36_37_38_39_40_41_42_43_44_45_46_47_48_49_50 rfl rfl rfl (by decide) (by decide) (Nat.le_of_ble_eq_true rfl) rfl ((zput_par nd_0_1_2_3_4_5_6_7_8_9_10_11_12_13_14_15_16_17_18_19_20_21_22_23_24_25_26_27_28_29_30_31_32_33_34_35_36_37_38_39_40_41_42_43_44_45_46_47_48_49_50 rfl).trans rfl) ?_
            refine z_iload C dL_sets_286 rfl ?_
            refine z_icmp_ne_f C 308 dL_sets_288 (by decide) rfl ?_
            refine z_aload_n C 0 dL_sets_291 rfl rfl ?_
            refine z_iload_n C 1 dL_sets_292 rfl rfl ?_
            refine z_iload C dL_sets_293 rfl ?_
            refine z_iload C dL_sets_295 rfl ?_
            refine z_sipush C (nI 10000) dL_sets_297 (by decide) ?_
            refine z_callV (wn := (WRd X.2.1 x0 h0 h1 w0 w1 t r S o2 kp2 Q2 tx ln ps)) C kX5_set gL_sets_X5_set m2 dL_sets_300 [0, 1, 2, 3, 4, 5, 6, 7, 8, 9, 10, 11, 12, 13, 14, 15, 16, 17, 18, 19, 20, 21, 22, 23, 24, 25, 26, 27, 28, 29, 30, 31, 32, 33, 34, 35, 36, 37, 38, 39, 40, 41, 42, 43, 44, 45, 46, 47, 48, 49, 50] [] 0 rfl rfl nd_0_1_2_3_4_5_6_7_8_9_10_11_12_13_14_15_16_17_18_19_20_21_22_23_24_25_26_27_28_29_30_31_32_33_34_35_36_37_38_39_40_41_42_43_44_45_46_47_48_49_50 rfl rfl rfl (by decide) (by decide) (Nat.le_of_ble_eq_true rfl) rfl ((zput_par nd_0_1_2_3_4_5_6_7_8_9_10_11_12_13_14_15_16_17_18_19_20_21_22_23_24_25_26_27_28_29_30_31_32_33_34_35_36_37_38_39_40_41_42_43_44_45_46_47_48_49_50 rfl).trans rfl) ?_
            refine z_bipush C (-2) dL_sets_303 (by decide) ?_
            refine z_icmp_eq_t C 310 dL_sets_305 (by decide) rfl ?_
            refine z_iload C dL_sets_310 rfl ?_
            refine z_if_ge_f C 336 dL_sets_312 (by decide) (by decide) ?_
            refine z_aload_n C 0 dL_sets_315 rfl rfl ?_
            refine z_iload C dL_sets_316 rfl ?_
            refine z_iload C dL_sets_318 rfl ?_
            refine z_iload C dL_sets_320 rfl ?_
            refine z_callVr C kX5_setting gL_sets_X5_setting (l_setN X.2.1 x0 h0 w0 t S rr cc (kS S rr cc) hG hr hc hn (by omega)) dL_sets_322 [0, 1, 2, 3, 4, 5, 6, 7, 8] [] 0 rfl nd_0_1_2_3_4_5_6_7_8 rfl rfl rfl (by decide) (by decide) (Nat.le_of_ble_eq_true rfl) rfl ?_
            refine z_bipush C (-5) dL_sets_325 (by decide) ?_
            refine z_icmp_ne_f C 334 dL_sets_327 (by decide) rfl ?_
            refine z_iconst C (nI 1) dL_sets_330 (by decide) ?_
            refine z_goto C 335 dL_sets_331 (by decide) ?_
            exact z_zret C N dL_sets_335 rfl (rfl) (rfl)
    exact hL95 _ 0 rfl (by omega)

set_option maxHeartbeats 4000000 in
set_option maxRecDepth 100000 in
theorem w_setn2 (E : zE) (x0 h0 h1 w0 w1 : Nat) (t : Nat → Nat) (r : Nat → Nat → Nat) (S : zSt) (o kp kp1 kp2 o1 o2 : Nat) (Q Q1 Q2 : Nat → zSt) (tx : Nat → Nat) (ln : Nat) (ps : zPs) {B : Nat} (au : Nat) (g h : Int32) (rr cc v : Nat) (hG : GG S B) (hau : au < 4) (hR : lw g (uU S 0) = rr) (hr : rr < uU S 0) (hC : lw (g >>> (nI 4 &&& 31)) (uU S 1) = cc) (hc : cc < uU S 1) (hV : lw h 5 = v) (hv : v < 5) (hD0 : Dm S 0 rr = false) (hD1 : Dm S 1 cc = false) (hcv : cV S rr cc = nI v) (m1 : zM E yX5_set wsX5_set 6 [.ref x0, .int (nI au), .int (nI rr), .int (nI cc), .int (nI v)] (WAd E x0 h0 h1 w0 t r S o kp Q) (WAd E x0 h0 h1 w0 t r S o1 kp1 Q1) (some (.int (-4)))) (m2 : zM E yX5_set wsX5_set 6 [.ref x0, .int (nI au), .int (nI rr), .int (nI cc), .int (nI 10000)] (WAd E x0 h0 h1 w0 t r S o1 kp1 Q1) (WAd E x0 h0 h1 w0 t r S o2 kp2 Q2) (some (.int (-2)))) : zM E yL_sets wsL_sets 7 [.ref x0, .int (nI au), .int g, .int h] (WRd E x0 h0 h1 w0 w1 t r S o kp Q tx ln ps) (WRd E x0 h0 h1 w0 w1 t r S o2 kp2 Q2 tx ln ps) (some (.int (nI 1))) := by
  refine zM.of kL_sets (Nat.le_of_ble_eq_true rfl) rfl [some (.ref x0), some (.int (nI au)), some (.int g), some (.int h), none, none, none, none, none, none, none, none, none, none, none, none, none, none] rfl (Nat.le_of_ble_eq_true rfl) ?_
  intro X eX C N
  subst eX
  have hb0 : uU S 0 ≤ 12 := gg_u hG 0
  have hb1 : uU S 1 ≤ 8 := gg_u1 hG
  have hb2 : mK S ≤ 60 := gg_M hG
  have hks : kS S rr cc ≤ mK S := zc_le _ _
  refine z_aload_n C 0 dL_sets_0 rfl rfl ?_
  refine z_iconst C (nI 0) dL_sets_1 (by decide) ?_
  refine z_iconst C (nI 0) dL_sets_2 (by decide) ?_
  refine z_callVr C kX5_size gL_sets_X5_size (l_size0 X.2.1 x0 h0 w0 t S 0 hG (by decide)) dL_sets_3 [0, 1, 2, 3, 4, 5, 6, 7, 8] [] 0 rfl nd_0_1_2_3_4_5_6_7_8 rfl rfl rfl (by decide) (by decide) (Nat.le_of_ble_eq_true rfl) rfl ?_
  refine z_istore C dL_sets_6 (Nat.le_of_ble_eq_true rfl) ?_
  refine z_lv (lv' := [some (.ref x0), some (.int (nI au)), some (.int g), some (.int h), some (.int (nI (uU S 0))), none, none, none, none, none, none, none, none, none, none, none, none, none]) rfl ?_
  refine z_aload_n C 0 dL_sets_8 rfl rfl ?_
  refine z_iconst C (nI 0) dL_sets_9 (by decide) ?_
  refine z_iconst C (nI 1) dL_sets_10 (by decide) ?_
  refine z_callVr C kX5_size gL_sets_X5_size (l_size0 X.2.1 x0 h0 w0 t S 1 hG (by decide)) dL_sets_11 [0, 1, 2, 3, 4, 5, 6, 7, 8] [] 0 rfl nd_0_1_2_3_4_5_6_7_8 rfl rfl rfl (by decide) (by decide) (Nat.le_of_ble_eq_true rfl) rfl ?_
  refine z_istore C dL_sets_14 (Nat.le_of_ble_eq_true rfl) ?_
  refine z_lv (lv' := [some (.ref x0), some (.int (nI au)), some (.int g), some (.int h), some (.int (nI (uU S 0))), some (.int (nI (uU S 1))), none, none, none, none, none, none, none, none, none, none, none, none]) rfl ?_
  refine z_iload C dL_sets_16 rfl ?_
  refine z_nif_eq_f C 26 dL_sets_18 (by decide) (by omega) (by omega) ?_
  refine z_iload C dL_sets_21 rfl ?_
  refine z_nif_ne_t C 44 dL_sets_23 (by decide) (by omega) (by omega) ?_
  refine z_iload_n C 2 dL_sets_44 rfl rfl ?_
  refine z_iload C dL_sets_45 rfl ?_
  refine z_callS C kL_low gL_sets_L_low (l_low X.2.1 g (uU S 0) (by omega) (by omega)) dL_sets_47 [] rfl (by decide) (by decide) (Nat.le_of_ble_eq_true rfl) rfl ?_
  refine z_top (y := nI rr) (congrArg nI hR) ?_
  refine z_istore C dL_sets_50 (Nat.le_of_ble_eq_true rfl) ?_
  refine z_lv (lv' := [some (.ref x0), some (.int (nI au)), some (.int g), some (.int h), some (.int (nI (uU S 0))), some (.int (nI (uU S 1))), some (.int (nI rr)), none, none, none, none, none, none, none, none, none, none, none]) rfl ?_
  refine z_iload_n C 2 dL_sets_52 rfl rfl ?_
  refine z_iconst C (nI 4) dL_sets_53 (by decide) ?_
  refine z_ishr C dL_sets_54 ?_
  refine z_iload C dL_sets_55 rfl ?_
  refine z_callS C kL_low gL_sets_L_low (l_low X.2.1 (g >>> ((nI 4) &&& 31)) (uU S 1) (by omega) (by omega)) dL_sets_57 [] rfl (by decide) (by decide) (Nat.le_of_ble_eq_true rfl) rfl ?_
  refine z_top (y := nI cc) (congrArg nI hC) ?_
  refine z_istore C dL_sets_60 (Nat.le_of_ble_eq_true rfl) ?_
  refine z_lv (lv' := [some (.ref x0), some (.int (nI au)), some (.int g), some (.int h), some (.int (nI (uU S 0))), some (.int (nI (uU S 1))), some (.int (nI rr)), some (.int (nI cc)), none, none, none, none, none, none, none, none, none, none]) rfl ?_
  refine z_iload_n C 3 dL_sets_62 rfl rfl ?_
  refine z_iconst C (nI 5) dL_sets_63 (by decide) ?_
  refine z_callS C kL_low gL_sets_L_low (l_low X.2.1 h 5 (by decide) (by decide)) dL_sets_64 [] rfl (by decide) (by decide) (Nat.le_of_ble_eq_true rfl) rfl ?_
  refine z_top (y := nI v) (congrArg nI hV) ?_
  refine z_istore C dL_sets_67 (Nat.le_of_ble_eq_true rfl) ?_
  refine z_lv (lv' := [some (.ref x0), some (.int (nI au)), some (.int g), some (.int h), some (.int (nI (uU S 0))), some (.int (nI (uU S 1))), some (.int (nI rr)), some (.int (nI cc)), some (.int (nI v)), none, none, none, none, none, none, none, none, none]) rfl ?_
  refine z_aload_n C 0 dL_sets_69 rfl rfl ?_
  refine z_iconst C (nI 0) dL_sets_70 (by decide) ?_
  refine z_callVr C kX5_count gL_sets_X5_count (l_cnt0 X.2.1 x0 h0 h1 w0 w1 t S o kp ln ps  hG ) dL_sets_71 [0, 1, 2, 3, 4, 5, 6, 7, 8, 9, 51] [] 0 rfl nd_0_1_2_3_4_5_6_7_8_9_51 rfl rfl rfl (by decide) (by decide) (Nat.le_of_ble_eq_true rfl) rfl ?_
  refine z_istore C dL_sets_74 (Nat.le_of_ble_eq_true rfl) ?_
  refine z_lv (lv' := [some (.ref x0), some (.int (nI au)), some (.int g), some (.int h), some (.int (nI (uU S 0))), some (.int (nI (uU S 1))), some (.int (nI rr)), some (.int (nI cc)), some (.int (nI v)), some (.int (nI (mK S))), none, none, none, none, none, none, none, none]) rfl ?_
  refine z_aload_n C 0 dL_sets_76 rfl rfl ?_
  refine z_iconst C (nI 5) dL_sets_77 (by decide) ?_
  refine z_callVr C kX5_count gL_sets_X5_count (l_cnt5 X.2.1 x0 h0 h1 w0 w1 t S o kp ln ps  hG ) dL_sets_78 [0, 1, 2, 3, 4, 5, 6, 7, 8, 9, 51] [] 0 rfl nd_0_1_2_3_4_5_6_7_8_9_51 rfl rfl rfl (by decide) (by decide) (Nat.le_of_ble_eq_true rfl) rfl ?_
  refine z_iconst C (nI 1) dL_sets_81 (by decide) ?_
  refine z_icmp_ne C 89 dL_sets_82 (by decide) (fun h_1 => ?_) (fun h_1 => ?_)
  · refine z_iconst C (nI 0) dL_sets_89 (by decide) ?_
    refine z_istore C dL_sets_90 (Nat.le_of_ble_eq_true rfl) ?_
    refine z_lv (lv' := [some (.ref x0), some (.int (nI au)), some (.int g), some (.int h), some (.int (nI (uU S 0))), some (.int (nI (uU S 1))), some (.int (nI rr)), some (.int (nI cc)), some (.int (nI v)), some (.int (nI (mK S))), some (.int (nI 0)), none, none, none, none, none, none, none]) rfl ?_
    refine z_iconst C (nI 0) dL_sets_92 (by decide) ?_
    refine z_istore C dL_sets_93 (Nat.le_of_ble_eq_true rfl) ?_
    refine z_lv (lv' := [some (.ref x0), some (.int (nI au)), some (.int g), some (.int h), some (.int (nI (uU S 0))), some (.int (nI (uU S 1))), some (.int (nI rr)), some (.int (nI cc)), some (.int (nI v)), some (.int (nI (mK S))), some (.int (nI 0)), some (.int (nI 0)), none, none, none, none, none, none]) rfl ?_
    have hL95 : ∀ (dd95 : Nat) (n : Nat), kS S rr cc - n = dd95 → (n ≤ kS S rr cc) → zG X 0 0 (WRd X.2.1 x0 h0 h1 w0 w1 t r S o kp Q tx ln ps) [some (.ref x0), some (.int (nI au)), some (.int g), some (.int h), some (.int (nI (uU S 0))), some (.int (nI (uU S 1))), some (.int (nI rr)), some (.int (nI cc)), some (.int (nI v)), some (.int (nI (mK S))), some (.int (nI 0)), some (.int (nI n)), none, none, none, none, none, none] [] 95 := by
      intro dd95
      induction dd95 using Nat.strongRecOn with
      | _ dd95 ih95 =>
        intro n hdd95 hn
        refine z_aload_n C 0 dL_sets_95 rfl rfl ?_
        refine z_iload C dL_sets_96 rfl ?_
        refine z_iload C dL_sets_98 rfl ?_
        refine z_iload C dL_sets_100 rfl ?_
        rcases Nat.lt_or_ge (n) (kS S rr cc) with hq_2 | hq_2
        · have fk_3 : sX S rr cc n < mK S := (sX_f hG (by omega) (by omega) hq_2).1
          have fk_4 : kN S (sX S rr cc n) = 4 := (sX_f hG (by omega) (by omega) hq_2).2.1
          have fk_5 : sN S (sX S rr cc n) = 0 := (sX_f hG (by omega) (by omega) hq_2).2.2.1
          refine z_callVr C kX5_setting gL_sets_X5_setting (l_setY X.2.1 x0 h0 w0 t S rr cc n hG hr hc hq_2) dL_sets_102 [0, 1, 2, 3, 4, 5, 6, 7, 8] [] 0 rfl nd_0_1_2_3_4_5_6_7_8 rfl rfl rfl (by decide) (by decide) (Nat.le_of_ble_eq_true rfl) rfl ?_
          have hg_6 : sX S rr cc n < mK S := (sX_t hG (by omega)).1
          refine z_nif_lt_f C 114 dL_sets_105 (by decide) (by omega) (by trivial) ?_
          refine z_iinc C (nI (n + 1)) dL_sets_108 rfl (zi_1 _) ?_
          refine z_lv (lv' := [some (.ref x0), some (.int (nI au)), some (.int g), some (.int h), some (.int (nI (uU S 0))), some (.int (nI (uU S 1))), some (.int (nI rr)), some (.int (nI cc)), some (.int (nI v)), some (.int (nI (mK S))), some (.int (nI 0)), some (.int (nI (n + 1))), none, none, none, none, none, none]) rfl ?_
          refine z_goto C 95 dL_sets_111 (by decide) ?_
          exact ih95 (kS S rr cc - (n + 1)) (by omega) (n + 1) rfl (by omega)
        · refine z_callVr C kX5_setting gL_sets_X5_setting (l_setN X.2.1 x0 h0 w0 t S rr cc n hG hr hc hq_2 (by omega)) dL_sets_102 [0, 1, 2, 3, 4, 5, 6, 7, 8] [] 0 rfl nd_0_1_2_3_4_5_6_7_8 rfl rfl rfl (by decide) (by decide) (Nat.le_of_ble_eq_true rfl) rfl ?_
          refine z_if_lt_t C 114 dL_sets_105 (by decide) (by decide) ?_
          obtain rfl : n = kS S rr cc := (by omega)
          refine z_iload C dL_sets_114 rfl ?_
          refine z_nif_ne C 123 dL_sets_116 (by decide) (by omega) (fun h_7 => ?_) (fun h_7 => ?_)
          · have fq_8 : sX S rr cc (kS S rr cc - 1) < mK S := (sX_f hG hr hc (show kS S rr cc - 1 < kS S rr cc by omega)).1
            have fq_9 : kN S (sX S rr cc (kS S rr cc - 1)) = 4 := (sX_f hG hr hc (show kS S rr cc - 1 < kS S rr cc by omega)).2.1
            have fq_10 : sN S (sX S rr cc (kS S rr cc - 1)) = 0 := (sX_f hG hr hc (show kS S rr cc - 1 < kS S rr cc by omega)).2.2.1
            have fq_11 : aN S (sX S rr cc (kS S rr cc - 1)) < 4 := (aN_e hG (sX_f hG hr hc (show kS S rr cc - 1 < kS S rr cc by omega)).1).2
            have fq_12 : bN S (sX S rr cc (kS S rr cc - 1)) < 10000 := (bN_e hG (sX_f hG hr hc (show kS S rr cc - 1 < kS S rr cc by omega)).1 (sX_f hG hr hc (show kS S rr cc - 1 < kS S rr cc by omega)).2.1 (sX_f hG hr hc (show kS S rr cc - 1 < kS S rr cc by omega)).2.2.1).2
            refine z_aload_n C 0 dL_sets_123 rfl rfl ?_
            refine z_iload C dL_sets_124 rfl ?_
            refine z_iload C dL_sets_126 rfl ?_
            refine z_iload C dL_sets_128 rfl ?_
            refine z_iconst C (nI 1) dL_sets_130 (by decide) ?_
            refine z_isub C dL_sets_131 ?_
            refine z_top (y := nI ((kS S rr cc) - 1)) ((pk_sub (by omega)).trans (congrArg nI (by omega))) ?_
            refine z_callVr C kX5_setting gL_sets_X5_setting (l_setY X.2.1 x0 h0 w0 t S rr cc ((kS S rr cc) - 1) hG hr hc (by omega)) dL_sets_132 [0, 1, 2, 3, 4, 5, 6, 7, 8] [] 0 rfl nd_0_1_2_3_4_5_6_7_8 rfl rfl rfl (by decide) (by decide) (Nat.le_of_ble_eq_true rfl) rfl ?_
            have hg_13 : sX S rr cc ((kS S rr cc) - 1) < mK S := (sX_t hG (by omega)).1
            refine z_istore C dL_sets_135 (Nat.le_of_ble_eq_true rfl) ?_
            refine z_lv (lv' := [some (.ref x0), some (.int (nI au)), some (.int g), some (.int h), some (.int (nI (uU S 0))), some (.int (nI (uU S 1))), some (.int (nI rr)), some (.int (nI cc)), some (.int (nI v)), some (.int (nI (mK S))), some (.int (nI 0)), some (.int (nI (kS S rr cc))), some (.int (nI (sX S rr cc ((kS S rr cc) - 1)))), none, none, none, none, none]) rfl ?_
            refine z_iload C dL_sets_137 rfl ?_
            refine z_nif_lt_f C 157 dL_sets_139 (by decide) (by omega) (by trivial) ?_
            refine z_aload_n C 0 dL_sets_142 rfl rfl ?_
            refine z_iload C dL_sets_143 rfl ?_
            refine z_iconst C (nI 1) dL_sets_145 (by decide) ?_
            refine z_callVr C kX5_change gL_sets_X5_change (l_chg1 X.2.1 x0 h0 w0 t S (sX S rr cc ((kS S rr cc) - 1)) hG fq_8) dL_sets_146 [0, 1, 2, 3, 4, 5, 6, 7, 8] [] 0 rfl nd_0_1_2_3_4_5_6_7_8 rfl rfl rfl (by decide) (by decide) (Nat.le_of_ble_eq_true rfl) rfl ?_
            refine z_iload_n C 1 dL_sets_149 rfl rfl ?_
            refine z_ncmp_ne C 157 dL_sets_150 (by decide) (by omega) (by omega) (fun h_14 => ?_) (fun h_14 => ?_)
            · refine z_iconst C (nI 0) dL_sets_157 (by decide) ?_
              refine z_istore C dL_sets_158 (Nat.le_of_ble_eq_true rfl) ?_
              refine z_lv (lv' := [some (.ref x0), some (.int (nI au)), some (.int g), some (.int h), some (.int (nI (uU S 0))), some (.int (nI (uU S 1))), some (.int (nI rr)), some (.int (nI cc)), some (.int (nI v)), some (.int (nI (mK S))), some (.int (nI 0)), some (.int (nI (kS S rr cc))), some (.int (nI (sX S rr cc ((kS S rr cc) - 1)))), some (.int (nI 0)), none, none, none, none]) rfl ?_
              refine z_aload_n C 0 dL_sets_160 rfl rfl ?_
              refine z_iconst C (nI 0) dL_sets_161 (by decide) ?_
              refine z_iload C dL_sets_162 rfl ?_
              refine z_iconst C (nI 1) dL_sets_164 (by decide) ?_
              refine z_callVr C kX5_line gL_sets_X5_line (l_line1n X.2.1 x0 h0 w0 t S 0 rr hG (by decide) hr hD0) dL_sets_165 [0, 1, 2, 3, 4, 5, 6, 7, 8] [] 0 rfl nd_0_1_2_3_4_5_6_7_8 rfl rfl rfl (by decide) (by decide) (Nat.le_of_ble_eq_true rfl) rfl ?_
              refine z_if_ge_f C 196 dL_sets_168 (by decide) (by decide) ?_
              refine z_aload_n C 0 dL_sets_171 rfl rfl ?_
              refine z_iconst C (nI 1) dL_sets_172 (by decide) ?_
              refine z_iload C dL_sets_173 rfl ?_
              refine z_iconst C (nI 1) dL_sets_175 (by decide) ?_
              refine z_callVr C kX5_line gL_sets_X5_line (l_line1n X.2.1 x0 h0 w0 t S 1 cc hG (by decide) hc hD1) dL_sets_176 [0, 1, 2, 3, 4, 5, 6, 7, 8] [] 0 rfl nd_0_1_2_3_4_5_6_7_8 rfl rfl rfl (by decide) (by decide) (Nat.le_of_ble_eq_true rfl) rfl ?_
              refine z_if_ge_f C 196 dL_sets_179 (by decide) (by decide) ?_
              refine z_aload_n C 0 dL_sets_182 rfl rfl ?_
              refine z_iconst C (nI 0) dL_sets_183 (by decide) ?_
              refine z_iload C dL_sets_184 rfl ?_
              refine z_iload C dL_sets_186 rfl ?_
              refine z_callVr C kX5_cell gL_sets_X5_cell (l_cell0 X.2.1 x0 h0 w0 t S rr cc hG hr hc) dL_sets_188 [0, 1, 2, 3, 4, 5, 6, 7, 8] [] 0 rfl nd_0_1_2_3_4_5_6_7_8 rfl rfl rfl (by decide) (by decide) (Nat.le_of_ble_eq_true rfl) rfl ?_
              refine z_iload C dL_sets_191 rfl ?_
              refine z_icmp_ne_f C 200 dL_sets_193 (by decide) hcv ?_
              refine z_iconst C (nI 1) dL_sets_196 (by decide) ?_
              refine z_goto C 201 dL_sets_197 (by decide) ?_
              refine z_istore C dL_sets_201 (Nat.le_of_ble_eq_true rfl) ?_
              refine z_lv (lv' := [some (.ref x0), some (.int (nI au)), some (.int g), some (.int h), some (.int (nI (uU S 0))), some (.int (nI (uU S 1))), some (.int (nI rr)), some (.int (nI cc)), some (.int (nI v)), some (.int (nI (mK S))), some (.int (nI 0)), some (.int (nI (kS S rr cc))), some (.int (nI (sX S rr cc ((kS S rr cc) - 1)))), some (.int (nI 0)), some (.int (nI 1)), none, none, none]) rfl ?_
              refine z_iload C dL_sets_203 rfl ?_
              refine z_nif_eq_t C 225 dL_sets_205 (by decide) (by omega) (by omega) ?_
              refine z_iconst C (nI 0) dL_sets_225 (by decide) ?_
              refine z_istore C dL_sets_226 (Nat.le_of_ble_eq_true rfl) ?_
              refine z_lv (lv' := [some (.ref x0), some (.int (nI au)), some (.int g), some (.int h), some (.int (nI (uU S 0))), some (.int (nI (uU S 1))), some (.int (nI rr)), some (.int (nI cc)), some (.int (nI v)), some (.int (nI (mK S))), some (.int (nI 0)), some (.int (nI (kS S rr cc))), some (.int (nI (sX S rr cc ((kS S rr cc) - 1)))), some (.int (nI 0)), some (.int (nI 1)), some (.int (nI 0)), none, none]) rfl ?_
              refine z_iload C dL_sets_228 rfl ?_
              refine z_nif_eq_f C 238 dL_sets_230 (by decide) (by omega) (by omega) ?_
              refine z_bipush C (-4) dL_sets_233 (by decide) ?_
              refine z_goto C 273 dL_sets_235 (by decide) ?_
              refine z_istore C dL_sets_273 (Nat.le_of_ble_eq_true rfl) ?_
              refine z_lv (lv' := [some (.ref x0), some (.int (nI au)), some (.int g), some (.int h), some (.int (nI (uU S 0))), some (.int (nI (uU S 1))), some (.int (nI rr)), some (.int (nI cc)), some (.int (nI v)), some (.int (nI (mK S))), some (.int (nI 0)), some (.int (nI (kS S rr cc))), some (.int (nI (sX S rr cc ((kS S rr cc) - 1)))), some (.int (nI 0)), some (.int (nI 1)), some (.int (nI 0)), some (.int (-4)), none]) rfl ?_
              refine z_aload_n C 0 dL_sets_275 rfl rfl ?_
              refine z_iload_n C 1 dL_sets_276 rfl rfl ?_
              refine z_iload C dL_sets_277 rfl ?_
              refine z_iload C dL_sets_279 rfl ?_
              refine z_iload C dL_sets_281 rfl ?_
              refine z_callV (wn := (WRd X.2.1 x0 h0 h1 w0 w1 t r S o1 kp1 Q1 tx ln ps)) C kX5_set gL_sets_X5_set m1 dL_sets_283 [0, 1, 2, 3, 4, 5, 6, 7, 8, 9, 10, 11, 12, 13, 14, 15, 16, 17, 18, 19, 20, 21, 22, 23, 24, 25, 26, 27, 28, 29, 30, 31, 32, 33, 34, 35, 36, 37, 38, 39, 40, 41, 42, 43, 44, 45, 46, 47, 48, 49, 50] [] 0 rfl rfl nd_0_1_2_3_4_5_6_7_8_9_10_11_12_13_14_15_16_17_18_19_20_21_22_23_24_25_26_27_28_29_30_31_32_33_34_35_36_37_38_39_40_41_42_43_44_45_46_47_48_49_50 rfl rfl rfl (by decide) (by decide) (Nat.le_of_ble_eq_true rfl) rfl ((zput_par nd_0_1_2_3_4_5_6_7_8_9_10_11_12_13_14_15_16_17_18_19_20_21_22_23_24_25_26_27_28_29_30_31_32_33_34_35_36_37_38_39_40_41_42_43_44_45_46_47_48_49_50 rfl).trans rfl) ?_
              refine z_iload C dL_sets_286 rfl ?_
              refine z_icmp_ne_f C 308 dL_sets_288 (by decide) rfl ?_
              refine z_aload_n C 0 dL_sets_291 rfl rfl ?_
              refine z_iload_n C 1 dL_sets_292 rfl rfl ?_
              refine z_iload C dL_sets_293 rfl ?_
              refine z_iload C dL_sets_295 rfl ?_
              refine z_sipush C (nI 10000) dL_sets_297 (by decide) ?_
              refine z_callV (wn := (WRd X.2.1 x0 h0 h1 w0 w1 t r S o2 kp2 Q2 tx ln ps)) C kX5_set gL_sets_X5_set m2 dL_sets_300 [0, 1, 2, 3, 4, 5, 6, 7, 8, 9, 10, 11, 12, 13, 14, 15, 16, 17, 18, 19, 20, 21, 22, 23, 24, 25, 26, 27, 28, 29, 30, 31, 32, 33, 34, 35, 36, 37, 38, 39, 40, 41, 42, 43, 44, 45, 46, 47, 48, 49, 50] [] 0 rfl rfl nd_0_1_2_3_4_5_6_7_8_9_10_11_12_13_14_15_16_17_18_19_20_21_22_23_24_25_26_27_28_29_30_31_32_33_34_35_36_37_38_39_40_41_42_43_44_45_46_47_48_49_50 rfl rfl rfl (by decide) (by decide) (Nat.le_of_ble_eq_true rfl) rfl ((zput_par nd_0_1_2_3_4_5_6_7_8_9_10_11_12_13_14_15_16_17_18_19_20_21_22_23_24_25_26_27_28_29_30_31_32_33_34_35_36_37_38_39_40_41_42_43_44_45_46_47_48_49_50 rfl).trans rfl) ?_
              refine z_bipush C (-2) dL_sets_303 (by decide) ?_
              refine z_icmp_eq_t C 310 dL_sets_305 (by decide) rfl ?_
              refine z_iload C dL_sets_310 rfl ?_
              refine z_if_ge_f C 336 dL_sets_312 (by decide) (by decide) ?_
              refine z_aload_n C 0 dL_sets_315 rfl rfl ?_
              refine z_iload C dL_sets_316 rfl ?_
              refine z_iload C dL_sets_318 rfl ?_
              refine z_iload C dL_sets_320 rfl ?_
              refine z_callVr C kX5_setting gL_sets_X5_setting (l_setN X.2.1 x0 h0 w0 t S rr cc (kS S rr cc) hG hr hc hn (by omega)) dL_sets_322 [0, 1, 2, 3, 4, 5, 6, 7, 8] [] 0 rfl nd_0_1_2_3_4_5_6_7_8 rfl rfl rfl (by decide) (by decide) (Nat.le_of_ble_eq_true rfl) rfl ?_
              refine z_bipush C (-5) dL_sets_325 (by decide) ?_
              refine z_icmp_ne_f C 334 dL_sets_327 (by decide) rfl ?_
              refine z_iconst C (nI 1) dL_sets_330 (by decide) ?_
              refine z_goto C 335 dL_sets_331 (by decide) ?_
              exact z_zret C N dL_sets_335 rfl (rfl) (rfl)
            · refine z_iconst C (nI 1) dL_sets_153 (by decide) ?_
              refine z_goto C 158 dL_sets_154 (by decide) ?_
              refine z_istore C dL_sets_158 (Nat.le_of_ble_eq_true rfl) ?_
              refine z_lv (lv' := [some (.ref x0), some (.int (nI au)), some (.int g), some (.int h), some (.int (nI (uU S 0))), some (.int (nI (uU S 1))), some (.int (nI rr)), some (.int (nI cc)), some (.int (nI v)), some (.int (nI (mK S))), some (.int (nI 0)), some (.int (nI (kS S rr cc))), some (.int (nI (sX S rr cc ((kS S rr cc) - 1)))), some (.int (nI 1)), none, none, none, none]) rfl ?_
              refine z_aload_n C 0 dL_sets_160 rfl rfl ?_
              refine z_iconst C (nI 0) dL_sets_161 (by decide) ?_
              refine z_iload C dL_sets_162 rfl ?_
              refine z_iconst C (nI 1) dL_sets_164 (by decide) ?_
              refine z_callVr C kX5_line gL_sets_X5_line (l_line1n X.2.1 x0 h0 w0 t S 0 rr hG (by decide) hr hD0) dL_sets_165 [0, 1, 2, 3, 4, 5, 6, 7, 8] [] 0 rfl nd_0_1_2_3_4_5_6_7_8 rfl rfl rfl (by decide) (by decide) (Nat.le_of_ble_eq_true rfl) rfl ?_
              refine z_if_ge_f C 196 dL_sets_168 (by decide) (by decide) ?_
              refine z_aload_n C 0 dL_sets_171 rfl rfl ?_
              refine z_iconst C (nI 1) dL_sets_172 (by decide) ?_
              refine z_iload C dL_sets_173 rfl ?_
              refine z_iconst C (nI 1) dL_sets_175 (by decide) ?_
              refine z_callVr C kX5_line gL_sets_X5_line (l_line1n X.2.1 x0 h0 w0 t S 1 cc hG (by decide) hc hD1) dL_sets_176 [0, 1, 2, 3, 4, 5, 6, 7, 8] [] 0 rfl nd_0_1_2_3_4_5_6_7_8 rfl rfl rfl (by decide) (by decide) (Nat.le_of_ble_eq_true rfl) rfl ?_
              refine z_if_ge_f C 196 dL_sets_179 (by decide) (by decide) ?_
              refine z_aload_n C 0 dL_sets_182 rfl rfl ?_
              refine z_iconst C (nI 0) dL_sets_183 (by decide) ?_
              refine z_iload C dL_sets_184 rfl ?_
              refine z_iload C dL_sets_186 rfl ?_
              refine z_callVr C kX5_cell gL_sets_X5_cell (l_cell0 X.2.1 x0 h0 w0 t S rr cc hG hr hc) dL_sets_188 [0, 1, 2, 3, 4, 5, 6, 7, 8] [] 0 rfl nd_0_1_2_3_4_5_6_7_8 rfl rfl rfl (by decide) (by decide) (Nat.le_of_ble_eq_true rfl) rfl ?_
              refine z_iload C dL_sets_191 rfl ?_
              refine z_icmp_ne_f C 200 dL_sets_193 (by decide) hcv ?_
              refine z_iconst C (nI 1) dL_sets_196 (by decide) ?_
              refine z_goto C 201 dL_sets_197 (by decide) ?_
              refine z_istore C dL_sets_201 (Nat.le_of_ble_eq_true rfl) ?_
              refine z_lv (lv' := [some (.ref x0), some (.int (nI au)), some (.int g), some (.int h), some (.int (nI (uU S 0))), some (.int (nI (uU S 1))), some (.int (nI rr)), some (.int (nI cc)), some (.int (nI v)), some (.int (nI (mK S))), some (.int (nI 0)), some (.int (nI (kS S rr cc))), some (.int (nI (sX S rr cc ((kS S rr cc) - 1)))), some (.int (nI 1)), some (.int (nI 1)), none, none, none]) rfl ?_
              refine z_iload C dL_sets_203 rfl ?_
              refine z_nif_eq_f C 225 dL_sets_205 (by decide) (by omega) (by omega) ?_
              refine z_aload_n C 0 dL_sets_208 rfl rfl ?_
              refine z_iload C dL_sets_209 rfl ?_
              refine z_bipush C (nI 6) dL_sets_211 (by decide) ?_
              refine z_callVr C kX5_change gL_sets_X5_change (l_chg6y X.2.1 x0 h0 w0 t S (sX S rr cc ((kS S rr cc) - 1)) hG fq_8 fq_9 fq_10) dL_sets_213 [0, 1, 2, 3, 4, 5, 6, 7, 8] [] 0 rfl nd_0_1_2_3_4_5_6_7_8 rfl rfl rfl (by decide) (by decide) (Nat.le_of_ble_eq_true rfl) rfl ?_
              refine z_iload C dL_sets_216 rfl ?_
              refine z_ncmp_ne C 225 dL_sets_218 (by decide) (by omega) (by omega) (fun h_15 => ?_) (fun h_15 => ?_)
              · refine z_iconst C (nI 0) dL_sets_225 (by decide) ?_
                refine z_istore C dL_sets_226 (Nat.le_of_ble_eq_true rfl) ?_
                refine z_lv (lv' := [some (.ref x0), some (.int (nI au)), some (.int g), some (.int h), some (.int (nI (uU S 0))), some (.int (nI (uU S 1))), some (.int (nI rr)), some (.int (nI cc)), some (.int (nI v)), some (.int (nI (mK S))), some (.int (nI 0)), some (.int (nI (kS S rr cc))), some (.int (nI (sX S rr cc ((kS S rr cc) - 1)))), some (.int (nI 1)), some (.int (nI 1)), some (.int (nI 0)), none, none]) rfl ?_
                refine z_iload C dL_sets_228 rfl ?_
                refine z_nif_eq_f C 238 dL_sets_230 (by decide) (by omega) (by omega) ?_
                refine z_bipush C (-4) dL_sets_233 (by decide) ?_
                refine z_goto C 273 dL_sets_235 (by decide) ?_
                refine z_istore C dL_sets_273 (Nat.le_of_ble_eq_true rfl) ?_
                refine z_lv (lv' := [some (.ref x0), some (.int (nI au)), some (.int g), some (.int h), some (.int (nI (uU S 0))), some (.int (nI (uU S 1))), some (.int (nI rr)), some (.int (nI cc)), some (.int (nI v)), some (.int (nI (mK S))), some (.int (nI 0)), some (.int (nI (kS S rr cc))), some (.int (nI (sX S rr cc ((kS S rr cc) - 1)))), some (.int (nI 1)), some (.int (nI 1)), some (.int (nI 0)), some (.int (-4)), none]) rfl ?_
                refine z_aload_n C 0 dL_sets_275 rfl rfl ?_
                refine z_iload_n C 1 dL_sets_276 rfl rfl ?_
                refine z_iload C dL_sets_277 rfl ?_
                refine z_iload C dL_sets_279 rfl ?_
                refine z_iload C dL_sets_281 rfl ?_
                refine z_callV (wn := (WRd X.2.1 x0 h0 h1 w0 w1 t r S o1 kp1 Q1 tx ln ps)) C kX5_set gL_sets_X5_set m1 dL_sets_283 [0, 1, 2, 3, 4, 5, 6, 7, 8, 9, 10, 11, 12, 13, 14, 15, 16, 17, 18, 19, 20, 21, 22, 23, 24, 25, 26, 27, 28, 29, 30, 31, 32, 33, 34, 35, 36, 37, 38, 39, 40, 41, 42, 43, 44, 45, 46, 47, 48, 49, 50] [] 0 rfl rfl nd_0_1_2_3_4_5_6_7_8_9_10_11_12_13_14_15_16_17_18_19_20_21_22_23_24_25_26_27_28_29_30_31_32_33_34_35_36_37_38_39_40_41_42_43_44_45_46_47_48_49_50 rfl rfl rfl (by decide) (by decide) (Nat.le_of_ble_eq_true rfl) rfl ((zput_par nd_0_1_2_3_4_5_6_7_8_9_10_11_12_13_14_15_16_17_18_19_20_21_22_23_24_25_26_27_28_29_30_31_32_33_34_35_36_37_38_39_40_41_42_43_44_45_46_47_48_49_50 rfl).trans rfl) ?_
                refine z_iload C dL_sets_286 rfl ?_
                refine z_icmp_ne_f C 308 dL_sets_288 (by decide) rfl ?_
                refine z_aload_n C 0 dL_sets_291 rfl rfl ?_
                refine z_iload_n C 1 dL_sets_292 rfl rfl ?_
                refine z_iload C dL_sets_293 rfl ?_
                refine z_iload C dL_sets_295 rfl ?_
                refine z_sipush C (nI 10000) dL_sets_297 (by decide) ?_
                refine z_callV (wn := (WRd X.2.1 x0 h0 h1 w0 w1 t r S o2 kp2 Q2 tx ln ps)) C kX5_set gL_sets_X5_set m2 dL_sets_300 [0, 1, 2, 3, 4, 5, 6, 7, 8, 9, 10, 11, 12, 13, 14, 15, 16, 17, 18, 19, 20, 21, 22, 23, 24, 25, 26, 27, 28, 29, 30, 31, 32, 33, 34, 35, 36, 37, 38, 39, 40, 41, 42, 43, 44, 45, 46, 47, 48, 49, 50] [] 0 rfl rfl nd_0_1_2_3_4_5_6_7_8_9_10_11_12_13_14_15_16_17_18_19_20_21_22_23_24_25_26_27_28_29_30_31_32_33_34_35_36_37_38_39_40_41_42_43_44_45_46_47_48_49_50 rfl rfl rfl (by decide) (by decide) (Nat.le_of_ble_eq_true rfl) rfl ((zput_par nd_0_1_2_3_4_5_6_7_8_9_10_11_12_13_14_15_16_17_18_19_20_21_22_23_24_25_26_27_28_29_30_31_32_33_34_35_36_37_38_39_40_41_42_43_44_45_46_47_48_49_50 rfl).trans rfl) ?_
                refine z_bipush C (-2) dL_sets_303 (by decide) ?_
                refine z_icmp_eq_t C 310 dL_sets_305 (by decide) rfl ?_
                refine z_iload C dL_sets_310 rfl ?_
                refine z_if_ge_f C 336 dL_sets_312 (by decide) (by decide) ?_
                refine z_aload_n C 0 dL_sets_315 rfl rfl ?_
                refine z_iload C dL_sets_316 rfl ?_
                refine z_iload C dL_sets_318 rfl ?_
                refine z_iload C dL_sets_320 rfl ?_
                refine z_callVr C kX5_setting gL_sets_X5_setting (l_setN X.2.1 x0 h0 w0 t S rr cc (kS S rr cc) hG hr hc hn (by omega)) dL_sets_322 [0, 1, 2, 3, 4, 5, 6, 7, 8] [] 0 rfl nd_0_1_2_3_4_5_6_7_8 rfl rfl rfl (by decide) (by decide) (Nat.le_of_ble_eq_true rfl) rfl ?_
                refine z_bipush C (-5) dL_sets_325 (by decide) ?_
                refine z_icmp_ne_f C 334 dL_sets_327 (by decide) rfl ?_
                refine z_iconst C (nI 1) dL_sets_330 (by decide) ?_
                refine z_goto C 335 dL_sets_331 (by decide) ?_
                exact z_zret C N dL_sets_335 rfl (rfl) (rfl)
              · refine z_iconst C (nI 1) dL_sets_221 (by decide) ?_
                refine z_goto C 226 dL_sets_222 (by decide) ?_
                refine z_istore C dL_sets_226 (Nat.le_of_ble_eq_true rfl) ?_
                refine z_lv (lv' := [some (.ref x0), some (.int (nI au)), some (.int g), some (.int h), some (.int (nI (uU S 0))), some (.int (nI (uU S 1))), some (.int (nI rr)), some (.int (nI cc)), some (.int (nI v)), some (.int (nI (mK S))), some (.int (nI 0)), some (.int (nI (kS S rr cc))), some (.int (nI (sX S rr cc ((kS S rr cc) - 1)))), some (.int (nI 1)), some (.int (nI 1)), some (.int (nI 1)), none, none]) rfl ?_
                refine z_iload C dL_sets_228 rfl ?_
                refine z_nif_eq_f C 238 dL_sets_230 (by decide) (by omega) (by omega) ?_
                refine z_bipush C (-4) dL_sets_233 (by decide) ?_
                refine z_goto C 273 dL_sets_235 (by decide) ?_
                refine z_istore C dL_sets_273 (Nat.le_of_ble_eq_true rfl) ?_
                refine z_lv (lv' := [some (.ref x0), some (.int (nI au)), some (.int g), some (.int h), some (.int (nI (uU S 0))), some (.int (nI (uU S 1))), some (.int (nI rr)), some (.int (nI cc)), some (.int (nI v)), some (.int (nI (mK S))), some (.int (nI 0)), some (.int (nI (kS S rr cc))), some (.int (nI (sX S rr cc ((kS S rr cc) - 1)))), some (.int (nI 1)), some (.int (nI 1)), some (.int (nI 1)), some (.int (-4)), none]) rfl ?_
                refine z_aload_n C 0 dL_sets_275 rfl rfl ?_
                refine z_iload_n C 1 dL_sets_276 rfl rfl ?_
                refine z_iload C dL_sets_277 rfl ?_
                refine z_iload C dL_sets_279 rfl ?_
                refine z_iload C dL_sets_281 rfl ?_
                refine z_callV (wn := (WRd X.2.1 x0 h0 h1 w0 w1 t r S o1 kp1 Q1 tx ln ps)) C kX5_set gL_sets_X5_set m1 dL_sets_283 [0, 1, 2, 3, 4, 5, 6, 7, 8, 9, 10, 11, 12, 13, 14, 15, 16, 17, 18, 19, 20, 21, 22, 23, 24, 25, 26, 27, 28, 29, 30, 31, 32, 33, 34, 35, 36, 37, 38, 39, 40, 41, 42, 43, 44, 45, 46, 47, 48, 49, 50] [] 0 rfl rfl nd_0_1_2_3_4_5_6_7_8_9_10_11_12_13_14_15_16_17_18_19_20_21_22_23_24_25_26_27_28_29_30_31_32_33_34_35_36_37_38_39_40_41_42_43_44_45_46_47_48_49_50 rfl rfl rfl (by decide) (by decide) (Nat.le_of_ble_eq_true rfl) rfl ((zput_par nd_0_1_2_3_4_5_6_7_8_9_10_11_12_13_14_15_16_17_18_19_20_21_22_23_24_25_26_27_28_29_30_31_32_33_34_35_36_37_38_39_40_41_42_43_44_45_46_47_48_49_50 rfl).trans rfl) ?_
                refine z_iload C dL_sets_286 rfl ?_
                refine z_icmp_ne_f C 308 dL_sets_288 (by decide) rfl ?_
                refine z_aload_n C 0 dL_sets_291 rfl rfl ?_
                refine z_iload_n C 1 dL_sets_292 rfl rfl ?_
                refine z_iload C dL_sets_293 rfl ?_
                refine z_iload C dL_sets_295 rfl ?_
                refine z_sipush C (nI 10000) dL_sets_297 (by decide) ?_
                refine z_callV (wn := (WRd X.2.1 x0 h0 h1 w0 w1 t r S o2 kp2 Q2 tx ln ps)) C kX5_set gL_sets_X5_set m2 dL_sets_300 [0, 1, 2, 3, 4, 5, 6, 7, 8, 9, 10, 11, 12, 13, 14, 15, 16, 17, 18, 19, 20, 21, 22, 23, 24, 25, 26, 27, 28, 29, 30, 31, 32, 33, 34, 35, 36, 37, 38, 39, 40, 41, 42, 43, 44, 45, 46, 47, 48, 49, 50] [] 0 rfl rfl nd_0_1_2_3_4_5_6_7_8_9_10_11_12_13_14_15_16_17_18_19_20_21_22_23_24_25_26_27_28_29_30_31_32_33_34_35_36_37_38_39_40_41_42_43_44_45_46_47_48_49_50 rfl rfl rfl (by decide) (by decide) (Nat.le_of_ble_eq_true rfl) rfl ((zput_par nd_0_1_2_3_4_5_6_7_8_9_10_11_12_13_14_15_16_17_18_19_20_21_22_23_24_25_26_27_28_29_30_31_32_33_34_35_36_37_38_39_40_41_42_43_44_45_46_47_48_49_50 rfl).trans rfl) ?_
                refine z_bipush C (-2) dL_sets_303 (by decide) ?_
                refine z_icmp_eq_t C 310 dL_sets_305 (by decide) rfl ?_
                refine z_iload C dL_sets_310 rfl ?_
                refine z_if_ge_f C 336 dL_sets_312 (by decide) (by decide) ?_
                refine z_aload_n C 0 dL_sets_315 rfl rfl ?_
                refine z_iload C dL_sets_316 rfl ?_
                refine z_iload C dL_sets_318 rfl ?_
                refine z_iload C dL_sets_320 rfl ?_
                refine z_callVr C kX5_setting gL_sets_X5_setting (l_setN X.2.1 x0 h0 w0 t S rr cc (kS S rr cc) hG hr hc hn (by omega)) dL_sets_322 [0, 1, 2, 3, 4, 5, 6, 7, 8] [] 0 rfl nd_0_1_2_3_4_5_6_7_8 rfl rfl rfl (by decide) (by decide) (Nat.le_of_ble_eq_true rfl) rfl ?_
                refine z_bipush C (-5) dL_sets_325 (by decide) ?_
                refine z_icmp_ne_f C 334 dL_sets_327 (by decide) rfl ?_
                refine z_iconst C (nI 1) dL_sets_330 (by decide) ?_
                refine z_goto C 335 dL_sets_331 (by decide) ?_
                exact z_zret C N dL_sets_335 rfl (rfl) (rfl)
          · refine z_iconst C (-1) dL_sets_119 (by decide) ?_
            refine z_goto C 135 dL_sets_120 (by decide) ?_
            refine z_istore C dL_sets_135 (Nat.le_of_ble_eq_true rfl) ?_
            refine z_lv (lv' := [some (.ref x0), some (.int (nI au)), some (.int g), some (.int h), some (.int (nI (uU S 0))), some (.int (nI (uU S 1))), some (.int (nI rr)), some (.int (nI cc)), some (.int (nI v)), some (.int (nI (mK S))), some (.int (nI 0)), some (.int (nI (kS S rr cc))), some (.int (-1)), none, none, none, none, none]) rfl ?_
            refine z_iload C dL_sets_137 rfl ?_
            refine z_if_lt_t C 157 dL_sets_139 (by decide) (by decide) ?_
            refine z_iconst C (nI 0) dL_sets_157 (by decide) ?_
            refine z_istore C dL_sets_158 (Nat.le_of_ble_eq_true rfl) ?_
            refine z_lv (lv' := [some (.ref x0), some (.int (nI au)), some (.int g), some (.int h), some (.int (nI (uU S 0))), some (.int (nI (uU S 1))), some (.int (nI rr)), some (.int (nI cc)), some (.int (nI v)), some (.int (nI (mK S))), some (.int (nI 0)), some (.int (nI (kS S rr cc))), some (.int (-1)), some (.int (nI 0)), none, none, none, none]) rfl ?_
            refine z_aload_n C 0 dL_sets_160 rfl rfl ?_
            refine z_iconst C (nI 0) dL_sets_161 (by decide) ?_
            refine z_iload C dL_sets_162 rfl ?_
            refine z_iconst C (nI 1) dL_sets_164 (by decide) ?_
            refine z_callVr C kX5_line gL_sets_X5_line (l_line1n X.2.1 x0 h0 w0 t S 0 rr hG (by decide) hr hD0) dL_sets_165 [0, 1, 2, 3, 4, 5, 6, 7, 8] [] 0 rfl nd_0_1_2_3_4_5_6_7_8 rfl rfl rfl (by decide) (by decide) (Nat.le_of_ble_eq_true rfl) rfl ?_
            refine z_if_ge_f C 196 dL_sets_168 (by decide) (by decide) ?_
            refine z_aload_n C 0 dL_sets_171 rfl rfl ?_
            refine z_iconst C (nI 1) dL_sets_172 (by decide) ?_
            refine z_iload C dL_sets_173 rfl ?_
            refine z_iconst C (nI 1) dL_sets_175 (by decide) ?_
            refine z_callVr C kX5_line gL_sets_X5_line (l_line1n X.2.1 x0 h0 w0 t S 1 cc hG (by decide) hc hD1) dL_sets_176 [0, 1, 2, 3, 4, 5, 6, 7, 8] [] 0 rfl nd_0_1_2_3_4_5_6_7_8 rfl rfl rfl (by decide) (by decide) (Nat.le_of_ble_eq_true rfl) rfl ?_
            refine z_if_ge_f C 196 dL_sets_179 (by decide) (by decide) ?_
            refine z_aload_n C 0 dL_sets_182 rfl rfl ?_
            refine z_iconst C (nI 0) dL_sets_183 (by decide) ?_
            refine z_iload C dL_sets_184 rfl ?_
            refine z_iload C dL_sets_186 rfl ?_
            refine z_callVr C kX5_cell gL_sets_X5_cell (l_cell0 X.2.1 x0 h0 w0 t S rr cc hG hr hc) dL_sets_188 [0, 1, 2, 3, 4, 5, 6, 7, 8] [] 0 rfl nd_0_1_2_3_4_5_6_7_8 rfl rfl rfl (by decide) (by decide) (Nat.le_of_ble_eq_true rfl) rfl ?_
            refine z_iload C dL_sets_191 rfl ?_
            refine z_icmp_ne_f C 200 dL_sets_193 (by decide) hcv ?_
            refine z_iconst C (nI 1) dL_sets_196 (by decide) ?_
            refine z_goto C 201 dL_sets_197 (by decide) ?_
            refine z_istore C dL_sets_201 (Nat.le_of_ble_eq_true rfl) ?_
            refine z_lv (lv' := [some (.ref x0), some (.int (nI au)), some (.int g), some (.int h), some (.int (nI (uU S 0))), some (.int (nI (uU S 1))), some (.int (nI rr)), some (.int (nI cc)), some (.int (nI v)), some (.int (nI (mK S))), some (.int (nI 0)), some (.int (nI (kS S rr cc))), some (.int (-1)), some (.int (nI 0)), some (.int (nI 1)), none, none, none]) rfl ?_
            refine z_iload C dL_sets_203 rfl ?_
            refine z_nif_eq_t C 225 dL_sets_205 (by decide) (by omega) (by omega) ?_
            refine z_iconst C (nI 0) dL_sets_225 (by decide) ?_
            refine z_istore C dL_sets_226 (Nat.le_of_ble_eq_true rfl) ?_
            refine z_lv (lv' := [some (.ref x0), some (.int (nI au)), some (.int g), some (.int h), some (.int (nI (uU S 0))), some (.int (nI (uU S 1))), some (.int (nI rr)), some (.int (nI cc)), some (.int (nI v)), some (.int (nI (mK S))), some (.int (nI 0)), some (.int (nI (kS S rr cc))), some (.int (-1)), some (.int (nI 0)), some (.int (nI 1)), some (.int (nI 0)), none, none]) rfl ?_
            refine z_iload C dL_sets_228 rfl ?_
            refine z_nif_eq_f C 238 dL_sets_230 (by decide) (by omega) (by omega) ?_
            refine z_bipush C (-4) dL_sets_233 (by decide) ?_
            refine z_goto C 273 dL_sets_235 (by decide) ?_
            refine z_istore C dL_sets_273 (Nat.le_of_ble_eq_true rfl) ?_
            refine z_lv (lv' := [some (.ref x0), some (.int (nI au)), some (.int g), some (.int h), some (.int (nI (uU S 0))), some (.int (nI (uU S 1))), some (.int (nI rr)), some (.int (nI cc)), some (.int (nI v)), some (.int (nI (mK S))), some (.int (nI 0)), some (.int (nI (kS S rr cc))), some (.int (-1)), some (.int (nI 0)), some (.int (nI 1)), some (.int (nI 0)), some (.int (-4)), none]) rfl ?_
            refine z_aload_n C 0 dL_sets_275 rfl rfl ?_
            refine z_iload_n C 1 dL_sets_276 rfl rfl ?_
            refine z_iload C dL_sets_277 rfl ?_
            refine z_iload C dL_sets_279 rfl ?_
            refine z_iload C dL_sets_281 rfl ?_
            refine z_callV (wn := (WRd X.2.1 x0 h0 h1 w0 w1 t r S o1 kp1 Q1 tx ln ps)) C kX5_set gL_sets_X5_set m1 dL_sets_283 [0, 1, 2, 3, 4, 5, 6, 7, 8, 9, 10, 11, 12, 13, 14, 15, 16, 17, 18, 19, 20, 21, 22, 23, 24, 25, 26, 27, 28, 29, 30, 31, 32, 33, 34, 35, 36, 37, 38, 39, 40, 41, 42, 43, 44, 45, 46, 47, 48, 49, 50] [] 0 rfl rfl nd_0_1_2_3_4_5_6_7_8_9_10_11_12_13_14_15_16_17_18_19_20_21_22_23_24_25_26_27_28_29_30_31_32_33_34_35_36_37_38_39_40_41_42_43_44_45_46_47_48_49_50 rfl rfl rfl (by decide) (by decide) (Nat.le_of_ble_eq_true rfl) rfl ((zput_par nd_0_1_2_3_4_5_6_7_8_9_10_11_12_13_14_15_16_17_18_19_20_21_22_23_24_25_26_27_28_29_30_31_32_33_34_35_36_37_38_39_40_41_42_43_44_45_46_47_48_49_50 rfl).trans rfl) ?_
            refine z_iload C dL_sets_286 rfl ?_
            refine z_icmp_ne_f C 308 dL_sets_288 (by decide) rfl ?_
            refine z_aload_n C 0 dL_sets_291 rfl rfl ?_
            refine z_iload_n C 1 dL_sets_292 rfl rfl ?_
            refine z_iload C dL_sets_293 rfl ?_
            refine z_iload C dL_sets_295 rfl ?_
            refine z_sipush C (nI 10000) dL_sets_297 (by decide) ?_
            refine z_callV (wn := (WRd X.2.1 x0 h0 h1 w0 w1 t r S o2 kp2 Q2 tx ln ps)) C kX5_set gL_sets_X5_set m2 dL_sets_300 [0, 1, 2, 3, 4, 5, 6, 7, 8, 9, 10, 11, 12, 13, 14, 15, 16, 17, 18, 19, 20, 21, 22, 23, 24, 25, 26, 27, 28, 29, 30, 31, 32, 33, 34, 35, 36, 37, 38, 39, 40, 41, 42, 43, 44, 45, 46, 47, 48, 49, 50] [] 0 rfl rfl nd_0_1_2_3_4_5_6_7_8_9_10_11_12_13_14_15_16_17_18_19_20_21_22_23_24_25_26_27_28_29_30_31_32_33_34_35_36_37_38_39_40_41_42_43_44_45_46_47_48_49_50 rfl rfl rfl (by decide) (by decide) (Nat.le_of_ble_eq_true rfl) rfl ((zput_par nd_0_1_2_3_4_5_6_7_8_9_10_11_12_13_14_15_16_17_18_19_20_21_22_23_24_25_26_27_28_29_30_31_32_33_34_35_36_37_38_39_40_41_42_43_44_45_46_47_48_49_50 rfl).trans rfl) ?_
            refine z_bipush C (-2) dL_sets_303 (by decide) ?_
            refine z_icmp_eq_t C 310 dL_sets_305 (by decide) rfl ?_
            refine z_iload C dL_sets_310 rfl ?_
            refine z_if_ge_f C 336 dL_sets_312 (by decide) (by decide) ?_
            refine z_aload_n C 0 dL_sets_315 rfl rfl ?_
            refine z_iload C dL_sets_316 rfl ?_
            refine z_iload C dL_sets_318 rfl ?_
            refine z_iload C dL_sets_320 rfl ?_
            refine z_callVr C kX5_setting gL_sets_X5_setting (l_setN X.2.1 x0 h0 w0 t S rr cc (kS S rr cc) hG hr hc hn (by omega)) dL_sets_322 [0, 1, 2, 3, 4, 5, 6, 7, 8] [] 0 rfl nd_0_1_2_3_4_5_6_7_8 rfl rfl rfl (by decide) (by decide) (Nat.le_of_ble_eq_true rfl) rfl ?_
            refine z_bipush C (-5) dL_sets_325 (by decide) ?_
            refine z_icmp_ne_f C 334 dL_sets_327 (by decide) rfl ?_
            refine z_iconst C (nI 1) dL_sets_330 (by decide) ?_
            refine z_goto C 335 dL_sets_331 (by decide) ?_
            exact z_zret C N dL_sets_335 rfl (rfl) (rfl)
    exact hL95 _ 0 rfl (by omega)
  · refine z_iconst C (nI 1) dL_sets_85 (by decide) ?_
    refine z_goto C 90 dL_sets_86 (by decide) ?_
    refine z_istore C dL_sets_90 (Nat.le_of_ble_eq_true rfl) ?_
    refine z_lv (lv' := [some (.ref x0), some (.int (nI au)), some (.int g), some (.int h), some (.int (nI (uU S 0))), some (.int (nI (uU S 1))), some (.int (nI rr)), some (.int (nI cc)), some (.int (nI v)), some (.int (nI (mK S))), some (.int (nI 1)), none, none, none, none, none, none, none]) rfl ?_
    refine z_iconst C (nI 0) dL_sets_92 (by decide) ?_
    refine z_istore C dL_sets_93 (Nat.le_of_ble_eq_true rfl) ?_
    refine z_lv (lv' := [some (.ref x0), some (.int (nI au)), some (.int g), some (.int h), some (.int (nI (uU S 0))), some (.int (nI (uU S 1))), some (.int (nI rr)), some (.int (nI cc)), some (.int (nI v)), some (.int (nI (mK S))), some (.int (nI 1)), some (.int (nI 0)), none, none, none, none, none, none]) rfl ?_
    have hL95 : ∀ (dd95 : Nat) (n : Nat), kS S rr cc - n = dd95 → (n ≤ kS S rr cc) → zG X 0 0 (WRd X.2.1 x0 h0 h1 w0 w1 t r S o kp Q tx ln ps) [some (.ref x0), some (.int (nI au)), some (.int g), some (.int h), some (.int (nI (uU S 0))), some (.int (nI (uU S 1))), some (.int (nI rr)), some (.int (nI cc)), some (.int (nI v)), some (.int (nI (mK S))), some (.int (nI 1)), some (.int (nI n)), none, none, none, none, none, none] [] 95 := by
      intro dd95
      induction dd95 using Nat.strongRecOn with
      | _ dd95 ih95 =>
        intro n hdd95 hn
        refine z_aload_n C 0 dL_sets_95 rfl rfl ?_
        refine z_iload C dL_sets_96 rfl ?_
        refine z_iload C dL_sets_98 rfl ?_
        refine z_iload C dL_sets_100 rfl ?_
        rcases Nat.lt_or_ge (n) (kS S rr cc) with hq_16 | hq_16
        · have fk_17 : sX S rr cc n < mK S := (sX_f hG (by omega) (by omega) hq_16).1
          have fk_18 : kN S (sX S rr cc n) = 4 := (sX_f hG (by omega) (by omega) hq_16).2.1
          have fk_19 : sN S (sX S rr cc n) = 0 := (sX_f hG (by omega) (by omega) hq_16).2.2.1
          refine z_callVr C kX5_setting gL_sets_X5_setting (l_setY X.2.1 x0 h0 w0 t S rr cc n hG hr hc hq_16) dL_sets_102 [0, 1, 2, 3, 4, 5, 6, 7, 8] [] 0 rfl nd_0_1_2_3_4_5_6_7_8 rfl rfl rfl (by decide) (by decide) (Nat.le_of_ble_eq_true rfl) rfl ?_
          have hg_20 : sX S rr cc n < mK S := (sX_t hG (by omega)).1
          refine z_nif_lt_f C 114 dL_sets_105 (by decide) (by omega) (by trivial) ?_
          refine z_iinc C (nI (n + 1)) dL_sets_108 rfl (zi_1 _) ?_
          refine z_lv (lv' := [some (.ref x0), some (.int (nI au)), some (.int g), some (.int h), some (.int (nI (uU S 0))), some (.int (nI (uU S 1))), some (.int (nI rr)), some (.int (nI cc)), some (.int (nI v)), some (.int (nI (mK S))), some (.int (nI 1)), some (.int (nI (n + 1))), none, none, none, none, none, none]) rfl ?_
          refine z_goto C 95 dL_sets_111 (by decide) ?_
          exact ih95 (kS S rr cc - (n + 1)) (by omega) (n + 1) rfl (by omega)
        · refine z_callVr C kX5_setting gL_sets_X5_setting (l_setN X.2.1 x0 h0 w0 t S rr cc n hG hr hc hq_16 (by omega)) dL_sets_102 [0, 1, 2, 3, 4, 5, 6, 7, 8] [] 0 rfl nd_0_1_2_3_4_5_6_7_8 rfl rfl rfl (by decide) (by decide) (Nat.le_of_ble_eq_true rfl) rfl ?_
          refine z_if_lt_t C 114 dL_sets_105 (by decide) (by decide) ?_
          obtain rfl : n = kS S rr cc := (by omega)
          refine z_iload C dL_sets_114 rfl ?_
          refine z_nif_ne C 123 dL_sets_116 (by decide) (by omega) (fun h_21 => ?_) (fun h_21 => ?_)
          · have fq_22 : sX S rr cc (kS S rr cc - 1) < mK S := (sX_f hG hr hc (show kS S rr cc - 1 < kS S rr cc by omega)).1
            have fq_23 : kN S (sX S rr cc (kS S rr cc - 1)) = 4 := (sX_f hG hr hc (show kS S rr cc - 1 < kS S rr cc by omega)).2.1
            have fq_24 : sN S (sX S rr cc (kS S rr cc - 1)) = 0 := (sX_f hG hr hc (show kS S rr cc - 1 < kS S rr cc by omega)).2.2.1
            have fq_25 : aN S (sX S rr cc (kS S rr cc - 1)) < 4 := (aN_e hG (sX_f hG hr hc (show kS S rr cc - 1 < kS S rr cc by omega)).1).2
            have fq_26 : bN S (sX S rr cc (kS S rr cc - 1)) < 10000 := (bN_e hG (sX_f hG hr hc (show kS S rr cc - 1 < kS S rr cc by omega)).1 (sX_f hG hr hc (show kS S rr cc - 1 < kS S rr cc by omega)).2.1 (sX_f hG hr hc (show kS S rr cc - 1 < kS S rr cc by omega)).2.2.1).2
            refine z_aload_n C 0 dL_sets_123 rfl rfl ?_
            refine z_iload C dL_sets_124 rfl ?_
            refine z_iload C dL_sets_126 rfl ?_
            refine z_iload C dL_sets_128 rfl ?_
            refine z_iconst C (nI 1) dL_sets_130 (by decide) ?_
            refine z_isub C dL_sets_131 ?_
            refine z_top (y := nI ((kS S rr cc) - 1)) ((pk_sub (by omega)).trans (congrArg nI (by omega))) ?_
            refine z_callVr C kX5_setting gL_sets_X5_setting (l_setY X.2.1 x0 h0 w0 t S rr cc ((kS S rr cc) - 1) hG hr hc (by omega)) dL_sets_132 [0, 1, 2, 3, 4, 5, 6, 7, 8] [] 0 rfl nd_0_1_2_3_4_5_6_7_8 rfl rfl rfl (by decide) (by decide) (Nat.le_of_ble_eq_true rfl) rfl ?_
            have hg_27 : sX S rr cc ((kS S rr cc) - 1) < mK S := (sX_t hG (by omega)).1
            refine z_istore C dL_sets_135 (Nat.le_of_ble_eq_true rfl) ?_
            refine z_lv (lv' := [some (.ref x0), some (.int (nI au)), some (.int g), some (.int h), some (.int (nI (uU S 0))), some (.int (nI (uU S 1))), some (.int (nI rr)), some (.int (nI cc)), some (.int (nI v)), some (.int (nI (mK S))), some (.int (nI 1)), some (.int (nI (kS S rr cc))), some (.int (nI (sX S rr cc ((kS S rr cc) - 1)))), none, none, none, none, none]) rfl ?_
            refine z_iload C dL_sets_137 rfl ?_
            refine z_nif_lt_f C 157 dL_sets_139 (by decide) (by omega) (by trivial) ?_
            refine z_aload_n C 0 dL_sets_142 rfl rfl ?_
            refine z_iload C dL_sets_143 rfl ?_
            refine z_iconst C (nI 1) dL_sets_145 (by decide) ?_
            refine z_callVr C kX5_change gL_sets_X5_change (l_chg1 X.2.1 x0 h0 w0 t S (sX S rr cc ((kS S rr cc) - 1)) hG fq_22) dL_sets_146 [0, 1, 2, 3, 4, 5, 6, 7, 8] [] 0 rfl nd_0_1_2_3_4_5_6_7_8 rfl rfl rfl (by decide) (by decide) (Nat.le_of_ble_eq_true rfl) rfl ?_
            refine z_iload_n C 1 dL_sets_149 rfl rfl ?_
            refine z_ncmp_ne C 157 dL_sets_150 (by decide) (by omega) (by omega) (fun h_28 => ?_) (fun h_28 => ?_)
            · refine z_iconst C (nI 0) dL_sets_157 (by decide) ?_
              refine z_istore C dL_sets_158 (Nat.le_of_ble_eq_true rfl) ?_
              refine z_lv (lv' := [some (.ref x0), some (.int (nI au)), some (.int g), some (.int h), some (.int (nI (uU S 0))), some (.int (nI (uU S 1))), some (.int (nI rr)), some (.int (nI cc)), some (.int (nI v)), some (.int (nI (mK S))), some (.int (nI 1)), some (.int (nI (kS S rr cc))), some (.int (nI (sX S rr cc ((kS S rr cc) - 1)))), some (.int (nI 0)), none, none, none, none]) rfl ?_
              refine z_aload_n C 0 dL_sets_160 rfl rfl ?_
              refine z_iconst C (nI 0) dL_sets_161 (by decide) ?_
              refine z_iload C dL_sets_162 rfl ?_
              refine z_iconst C (nI 1) dL_sets_164 (by decide) ?_
              refine z_callVr C kX5_line gL_sets_X5_line (l_line1n X.2.1 x0 h0 w0 t S 0 rr hG (by decide) hr hD0) dL_sets_165 [0, 1, 2, 3, 4, 5, 6, 7, 8] [] 0 rfl nd_0_1_2_3_4_5_6_7_8 rfl rfl rfl (by decide) (by decide) (Nat.le_of_ble_eq_true rfl) rfl ?_
              refine z_if_ge_f C 196 dL_sets_168 (by decide) (by decide) ?_
              refine z_aload_n C 0 dL_sets_171 rfl rfl ?_
              refine z_iconst C (nI 1) dL_sets_172 (by decide) ?_
              refine z_iload C dL_sets_173 rfl ?_
              refine z_iconst C (nI 1) dL_sets_175 (by decide) ?_
              refine z_callVr C kX5_line gL_sets_X5_line (l_line1n X.2.1 x0 h0 w0 t S 1 cc hG (by decide) hc hD1) dL_sets_176 [0, 1, 2, 3, 4, 5, 6, 7, 8] [] 0 rfl nd_0_1_2_3_4_5_6_7_8 rfl rfl rfl (by decide) (by decide) (Nat.le_of_ble_eq_true rfl) rfl ?_
              refine z_if_ge_f C 196 dL_sets_179 (by decide) (by decide) ?_
              refine z_aload_n C 0 dL_sets_182 rfl rfl ?_
              refine z_iconst C (nI 0) dL_sets_183 (by decide) ?_
              refine z_iload C dL_sets_184 rfl ?_
              refine z_iload C dL_sets_186 rfl ?_
              refine z_callVr C kX5_cell gL_sets_X5_cell (l_cell0 X.2.1 x0 h0 w0 t S rr cc hG hr hc) dL_sets_188 [0, 1, 2, 3, 4, 5, 6, 7, 8] [] 0 rfl nd_0_1_2_3_4_5_6_7_8 rfl rfl rfl (by decide) (by decide) (Nat.le_of_ble_eq_true rfl) rfl ?_
              refine z_iload C dL_sets_191 rfl ?_
              refine z_icmp_ne_f C 200 dL_sets_193 (by decide) hcv ?_
              refine z_iconst C (nI 1) dL_sets_196 (by decide) ?_
              refine z_goto C 201 dL_sets_197 (by decide) ?_
              refine z_istore C dL_sets_201 (Nat.le_of_ble_eq_true rfl) ?_
              refine z_lv (lv' := [some (.ref x0), some (.int (nI au)), some (.int g), some (.int h), some (.int (nI (uU S 0))), some (.int (nI (uU S 1))), some (.int (nI rr)), some (.int (nI cc)), some (.int (nI v)), some (.int (nI (mK S))), some (.int (nI 1)), some (.int (nI (kS S rr cc))), some (.int (nI (sX S rr cc ((kS S rr cc) - 1)))), some (.int (nI 0)), some (.int (nI 1)), none, none, none]) rfl ?_
              refine z_iload C dL_sets_203 rfl ?_
              refine z_nif_eq_t C 225 dL_sets_205 (by decide) (by omega) (by omega) ?_
              refine z_iconst C (nI 0) dL_sets_225 (by decide) ?_
              refine z_istore C dL_sets_226 (Nat.le_of_ble_eq_true rfl) ?_
              refine z_lv (lv' := [some (.ref x0), some (.int (nI au)), some (.int g), some (.int h), some (.int (nI (uU S 0))), some (.int (nI (uU S 1))), some (.int (nI rr)), some (.int (nI cc)), some (.int (nI v)), some (.int (nI (mK S))), some (.int (nI 1)), some (.int (nI (kS S rr cc))), some (.int (nI (sX S rr cc ((kS S rr cc) - 1)))), some (.int (nI 0)), some (.int (nI 1)), some (.int (nI 0)), none, none]) rfl ?_
              refine z_iload C dL_sets_228 rfl ?_
              refine z_nif_eq_f C 238 dL_sets_230 (by decide) (by omega) (by omega) ?_
              refine z_bipush C (-4) dL_sets_233 (by decide) ?_
              refine z_goto C 273 dL_sets_235 (by decide) ?_
              refine z_istore C dL_sets_273 (Nat.le_of_ble_eq_true rfl) ?_
              refine z_lv (lv' := [some (.ref x0), some (.int (nI au)), some (.int g), some (.int h), some (.int (nI (uU S 0))), some (.int (nI (uU S 1))), some (.int (nI rr)), some (.int (nI cc)), some (.int (nI v)), some (.int (nI (mK S))), some (.int (nI 1)), some (.int (nI (kS S rr cc))), some (.int (nI (sX S rr cc ((kS S rr cc) - 1)))), some (.int (nI 0)), some (.int (nI 1)), some (.int (nI 0)), some (.int (-4)), none]) rfl ?_
              refine z_aload_n C 0 dL_sets_275 rfl rfl ?_
              refine z_iload_n C 1 dL_sets_276 rfl rfl ?_
              refine z_iload C dL_sets_277 rfl ?_
              refine z_iload C dL_sets_279 rfl ?_
              refine z_iload C dL_sets_281 rfl ?_
              refine z_callV (wn := (WRd X.2.1 x0 h0 h1 w0 w1 t r S o1 kp1 Q1 tx ln ps)) C kX5_set gL_sets_X5_set m1 dL_sets_283 [0, 1, 2, 3, 4, 5, 6, 7, 8, 9, 10, 11, 12, 13, 14, 15, 16, 17, 18, 19, 20, 21, 22, 23, 24, 25, 26, 27, 28, 29, 30, 31, 32, 33, 34, 35, 36, 37, 38, 39, 40, 41, 42, 43, 44, 45, 46, 47, 48, 49, 50] [] 0 rfl rfl nd_0_1_2_3_4_5_6_7_8_9_10_11_12_13_14_15_16_17_18_19_20_21_22_23_24_25_26_27_28_29_30_31_32_33_34_35_36_37_38_39_40_41_42_43_44_45_46_47_48_49_50 rfl rfl rfl (by decide) (by decide) (Nat.le_of_ble_eq_true rfl) rfl ((zput_par nd_0_1_2_3_4_5_6_7_8_9_10_11_12_13_14_15_16_17_18_19_20_21_22_23_24_25_26_27_28_29_30_31_32_33_34_35_36_37_38_39_40_41_42_43_44_45_46_47_48_49_50 rfl).trans rfl) ?_
              refine z_iload C dL_sets_286 rfl ?_
              refine z_icmp_ne_f C 308 dL_sets_288 (by decide) rfl ?_
              refine z_aload_n C 0 dL_sets_291 rfl rfl ?_
              refine z_iload_n C 1 dL_sets_292 rfl rfl ?_
              refine z_iload C dL_sets_293 rfl ?_
              refine z_iload C dL_sets_295 rfl ?_
              refine z_sipush C (nI 10000) dL_sets_297 (by decide) ?_
              refine z_callV (wn := (WRd X.2.1 x0 h0 h1 w0 w1 t r S o2 kp2 Q2 tx ln ps)) C kX5_set gL_sets_X5_set m2 dL_sets_300 [0, 1, 2, 3, 4, 5, 6, 7, 8, 9, 10, 11, 12, 13, 14, 15, 16, 17, 18, 19, 20, 21, 22, 23, 24, 25, 26, 27, 28, 29, 30, 31, 32, 33, 34, 35, 36, 37, 38, 39, 40, 41, 42, 43, 44, 45, 46, 47, 48, 49, 50] [] 0 rfl rfl nd_0_1_2_3_4_5_6_7_8_9_10_11_12_13_14_15_16_17_18_19_20_21_22_23_24_25_26_27_28_29_30_31_32_33_34_35_36_37_38_39_40_41_42_43_44_45_46_47_48_49_50 rfl rfl rfl (by decide) (by decide) (Nat.le_of_ble_eq_true rfl) rfl ((zput_par nd_0_1_2_3_4_5_6_7_8_9_10_11_12_13_14_15_16_17_18_19_20_21_22_23_24_25_26_27_28_29_30_31_32_33_34_35_36_37_38_39_40_41_42_43_44_45_46_47_48_49_50 rfl).trans rfl) ?_
              refine z_bipush C (-2) dL_sets_303 (by decide) ?_
              refine z_icmp_eq_t C 310 dL_sets_305 (by decide) rfl ?_
              refine z_iload C dL_sets_310 rfl ?_
              refine z_if_ge_f C 336 dL_sets_312 (by decide) (by decide) ?_
              refine z_aload_n C 0 dL_sets_315 rfl rfl ?_
              refine z_iload C dL_sets_316 rfl ?_
              refine z_iload C dL_sets_318 rfl ?_
              refine z_iload C dL_sets_320 rfl ?_
              refine z_callVr C kX5_setting gL_sets_X5_setting (l_setN X.2.1 x0 h0 w0 t S rr cc (kS S rr cc) hG hr hc hn (by omega)) dL_sets_322 [0, 1, 2, 3, 4, 5, 6, 7, 8] [] 0 rfl nd_0_1_2_3_4_5_6_7_8 rfl rfl rfl (by decide) (by decide) (Nat.le_of_ble_eq_true rfl) rfl ?_
              refine z_bipush C (-5) dL_sets_325 (by decide) ?_
              refine z_icmp_ne_f C 334 dL_sets_327 (by decide) rfl ?_
              refine z_iconst C (nI 1) dL_sets_330 (by decide) ?_
              refine z_goto C 335 dL_sets_331 (by decide) ?_
              exact z_zret C N dL_sets_335 rfl (rfl) (rfl)
            · refine z_iconst C (nI 1) dL_sets_153 (by decide) ?_
              refine z_goto C 158 dL_sets_154 (by decide) ?_
              refine z_istore C dL_sets_158 (Nat.le_of_ble_eq_true rfl) ?_
              refine z_lv (lv' := [some (.ref x0), some (.int (nI au)), some (.int g), some (.int h), some (.int (nI (uU S 0))), some (.int (nI (uU S 1))), some (.int (nI rr)), some (.int (nI cc)), some (.int (nI v)), some (.int (nI (mK S))), some (.int (nI 1)), some (.int (nI (kS S rr cc))), some (.int (nI (sX S rr cc ((kS S rr cc) - 1)))), some (.int (nI 1)), none, none, none, none]) rfl ?_
              refine z_aload_n C 0 dL_sets_160 rfl rfl ?_
              refine z_iconst C (nI 0) dL_sets_161 (by decide) ?_
              refine z_iload C dL_sets_162 rfl ?_
              refine z_iconst C (nI 1) dL_sets_164 (by decide) ?_
              refine z_callVr C kX5_line gL_sets_X5_line (l_line1n X.2.1 x0 h0 w0 t S 0 rr hG (by decide) hr hD0) dL_sets_165 [0, 1, 2, 3, 4, 5, 6, 7, 8] [] 0 rfl nd_0_1_2_3_4_5_6_7_8 rfl rfl rfl (by decide) (by decide) (Nat.le_of_ble_eq_true rfl) rfl ?_
              refine z_if_ge_f C 196 dL_sets_168 (by decide) (by decide) ?_
              refine z_aload_n C 0 dL_sets_171 rfl rfl ?_
              refine z_iconst C (nI 1) dL_sets_172 (by decide) ?_
              refine z_iload C dL_sets_173 rfl ?_
              refine z_iconst C (nI 1) dL_sets_175 (by decide) ?_
              refine z_callVr C kX5_line gL_sets_X5_line (l_line1n X.2.1 x0 h0 w0 t S 1 cc hG (by decide) hc hD1) dL_sets_176 [0, 1, 2, 3, 4, 5, 6, 7, 8] [] 0 rfl nd_0_1_2_3_4_5_6_7_8 rfl rfl rfl (by decide) (by decide) (Nat.le_of_ble_eq_true rfl) rfl ?_
              refine z_if_ge_f C 196 dL_sets_179 (by decide) (by decide) ?_
              refine z_aload_n C 0 dL_sets_182 rfl rfl ?_
              refine z_iconst C (nI 0) dL_sets_183 (by decide) ?_
              refine z_iload C dL_sets_184 rfl ?_
              refine z_iload C dL_sets_186 rfl ?_
              refine z_callVr C kX5_cell gL_sets_X5_cell (l_cell0 X.2.1 x0 h0 w0 t S rr cc hG hr hc) dL_sets_188 [0, 1, 2, 3, 4, 5, 6, 7, 8] [] 0 rfl nd_0_1_2_3_4_5_6_7_8 rfl rfl rfl (by decide) (by decide) (Nat.le_of_ble_eq_true rfl) rfl ?_
              refine z_iload C dL_sets_191 rfl ?_
              refine z_icmp_ne_f C 200 dL_sets_193 (by decide) hcv ?_
              refine z_iconst C (nI 1) dL_sets_196 (by decide) ?_
              refine z_goto C 201 dL_sets_197 (by decide) ?_
              refine z_istore C dL_sets_201 (Nat.le_of_ble_eq_true rfl) ?_
              refine z_lv (lv' := [some (.ref x0), some (.int (nI au)), some (.int g), some (.int h), some (.int (nI (uU S 0))), some (.int (nI (uU S 1))), some (.int (nI rr)), some (.int (nI cc)), some (.int (nI v)), some (.int (nI (mK S))), some (.int (nI 1)), some (.int (nI (kS S rr cc))), some (.int (nI (sX S rr cc ((kS S rr cc) - 1)))), some (.int (nI 1)), some (.int (nI 1)), none, none, none]) rfl ?_
              refine z_iload C dL_sets_203 rfl ?_
              refine z_nif_eq_f C 225 dL_sets_205 (by decide) (by omega) (by omega) ?_
              refine z_aload_n C 0 dL_sets_208 rfl rfl ?_
              refine z_iload C dL_sets_209 rfl ?_
              refine z_bipush C (nI 6) dL_sets_211 (by decide) ?_
              refine z_callVr C kX5_change gL_sets_X5_change (l_chg6y X.2.1 x0 h0 w0 t S (sX S rr cc ((kS S rr cc) - 1)) hG fq_22 fq_23 fq_24) dL_sets_213 [0, 1, 2, 3, 4, 5, 6, 7, 8] [] 0 rfl nd_0_1_2_3_4_5_6_7_8 rfl rfl rfl (by decide) (by decide) (Nat.le_of_ble_eq_true rfl) rfl ?_
              refine z_iload C dL_sets_216 rfl ?_
              refine z_ncmp_ne C 225 dL_sets_218 (by decide) (by omega) (by omega) (fun h_29 => ?_) (fun h_29 => ?_)
              · refine z_iconst C (nI 0) dL_sets_225 (by decide) ?_
                refine z_istore C dL_sets_226 (Nat.le_of_ble_eq_true rfl) ?_
                refine z_lv (lv' := [some (.ref x0), some (.int (nI au)), some (.int g), some (.int h), some (.int (nI (uU S 0))), some (.int (nI (uU S 1))), some (.int (nI rr)), some (.int (nI cc)), some (.int (nI v)), some (.int (nI (mK S))), some (.int (nI 1)), some (.int (nI (kS S rr cc))), some (.int (nI (sX S rr cc ((kS S rr cc) - 1)))), some (.int (nI 1)), some (.int (nI 1)), some (.int (nI 0)), none, none]) rfl ?_
                refine z_iload C dL_sets_228 rfl ?_
                refine z_nif_eq_f C 238 dL_sets_230 (by decide) (by omega) (by omega) ?_
                refine z_bipush C (-4) dL_sets_233 (by decide) ?_
                refine z_goto C 273 dL_sets_235 (by decide) ?_
                refine z_istore C dL_sets_273 (Nat.le_of_ble_eq_true rfl) ?_
                refine z_lv (lv' := [some (.ref x0), some (.int (nI au)), some (.int g), some (.int h), some (.int (nI (uU S 0))), some (.int (nI (uU S 1))), some (.int (nI rr)), some (.int (nI cc)), some (.int (nI v)), some (.int (nI (mK S))), some (.int (nI 1)), some (.int (nI (kS S rr cc))), some (.int (nI (sX S rr cc ((kS S rr cc) - 1)))), some (.int (nI 1)), some (.int (nI 1)), some (.int (nI 0)), some (.int (-4)), none]) rfl ?_
                refine z_aload_n C 0 dL_sets_275 rfl rfl ?_
                refine z_iload_n C 1 dL_sets_276 rfl rfl ?_
                refine z_iload C dL_sets_277 rfl ?_
                refine z_iload C dL_sets_279 rfl ?_
                refine z_iload C dL_sets_281 rfl ?_
                refine z_callV (wn := (WRd X.2.1 x0 h0 h1 w0 w1 t r S o1 kp1 Q1 tx ln ps)) C kX5_set gL_sets_X5_set m1 dL_sets_283 [0, 1, 2, 3, 4, 5, 6, 7, 8, 9, 10, 11, 12, 13, 14, 15, 16, 17, 18, 19, 20, 21, 22, 23, 24, 25, 26, 27, 28, 29, 30, 31, 32, 33, 34, 35, 36, 37, 38, 39, 40, 41, 42, 43, 44, 45, 46, 47, 48, 49, 50] [] 0 rfl rfl nd_0_1_2_3_4_5_6_7_8_9_10_11_12_13_14_15_16_17_18_19_20_21_22_23_24_25_26_27_28_29_30_31_32_33_34_35_36_37_38_39_40_41_42_43_44_45_46_47_48_49_50 rfl rfl rfl (by decide) (by decide) (Nat.le_of_ble_eq_true rfl) rfl ((zput_par nd_0_1_2_3_4_5_6_7_8_9_10_11_12_13_14_15_16_17_18_19_20_21_22_23_24_25_26_27_28_29_30_31_32_33_34_35_36_37_38_39_40_41_42_43_44_45_46_47_48_49_50 rfl).trans rfl) ?_
                refine z_iload C dL_sets_286 rfl ?_
                refine z_icmp_ne_f C 308 dL_sets_288 (by decide) rfl ?_
                refine z_aload_n C 0 dL_sets_291 rfl rfl ?_
                refine z_iload_n C 1 dL_sets_292 rfl rfl ?_
                refine z_iload C dL_sets_293 rfl ?_
                refine z_iload C dL_sets_295 rfl ?_
                refine z_sipush C (nI 10000) dL_sets_297 (by decide) ?_
                refine z_callV (wn := (WRd X.2.1 x0 h0 h1 w0 w1 t r S o2 kp2 Q2 tx ln ps)) C kX5_set gL_sets_X5_set m2 dL_sets_300 [0, 1, 2, 3, 4, 5, 6, 7, 8, 9, 10, 11, 12, 13, 14, 15, 16, 17, 18, 19, 20, 21, 22, 23, 24, 25, 26, 27, 28, 29, 30, 31, 32, 33, 34, 35, 36, 37, 38, 39, 40, 41, 42, 43, 44, 45, 46, 47, 48, 49, 50] [] 0 rfl rfl nd_0_1_2_3_4_5_6_7_8_9_10_11_12_13_14_15_16_17_18_19_20_21_22_23_24_25_26_27_28_29_30_31_32_33_34_35_36_37_38_39_40_41_42_43_44_45_46_47_48_49_50 rfl rfl rfl (by decide) (by decide) (Nat.le_of_ble_eq_true rfl) rfl ((zput_par nd_0_1_2_3_4_5_6_7_8_9_10_11_12_13_14_15_16_17_18_19_20_21_22_23_24_25_26_27_28_29_30_31_32_33_34_35_36_37_38_39_40_41_42_43_44_45_46_47_48_49_50 rfl).trans rfl) ?_
                refine z_bipush C (-2) dL_sets_303 (by decide) ?_
                refine z_icmp_eq_t C 310 dL_sets_305 (by decide) rfl ?_
                refine z_iload C dL_sets_310 rfl ?_
                refine z_if_ge_f C 336 dL_sets_312 (by decide) (by decide) ?_
                refine z_aload_n C 0 dL_sets_315 rfl rfl ?_
                refine z_iload C dL_sets_316 rfl ?_
                refine z_iload C dL_sets_318 rfl ?_
                refine z_iload C dL_sets_320 rfl ?_
                refine z_callVr C kX5_setting gL_sets_X5_setting (l_setN X.2.1 x0 h0 w0 t S rr cc (kS S rr cc) hG hr hc hn (by omega)) dL_sets_322 [0, 1, 2, 3, 4, 5, 6, 7, 8] [] 0 rfl nd_0_1_2_3_4_5_6_7_8 rfl rfl rfl (by decide) (by decide) (Nat.le_of_ble_eq_true rfl) rfl ?_
                refine z_bipush C (-5) dL_sets_325 (by decide) ?_
                refine z_icmp_ne_f C 334 dL_sets_327 (by decide) rfl ?_
                refine z_iconst C (nI 1) dL_sets_330 (by decide) ?_
                refine z_goto C 335 dL_sets_331 (by decide) ?_
                exact z_zret C N dL_sets_335 rfl (rfl) (rfl)
              · refine z_iconst C (nI 1) dL_sets_221 (by decide) ?_
                refine z_goto C 226 dL_sets_222 (by decide) ?_
                refine z_istore C dL_sets_226 (Nat.le_of_ble_eq_true rfl) ?_
                refine z_lv (lv' := [some (.ref x0), some (.int (nI au)), some (.int g), some (.int h), some (.int (nI (uU S 0))), some (.int (nI (uU S 1))), some (.int (nI rr)), some (.int (nI cc)), some (.int (nI v)), some (.int (nI (mK S))), some (.int (nI 1)), some (.int (nI (kS S rr cc))), some (.int (nI (sX S rr cc ((kS S rr cc) - 1)))), some (.int (nI 1)), some (.int (nI 1)), some (.int (nI 1)), none, none]) rfl ?_
                refine z_iload C dL_sets_228 rfl ?_
                refine z_nif_eq_f C 238 dL_sets_230 (by decide) (by omega) (by omega) ?_
                refine z_bipush C (-4) dL_sets_233 (by decide) ?_
                refine z_goto C 273 dL_sets_235 (by decide) ?_
                refine z_istore C dL_sets_273 (Nat.le_of_ble_eq_true rfl) ?_
                refine z_lv (lv' := [some (.ref x0), some (.int (nI au)), some (.int g), some (.int h), some (.int (nI (uU S 0))), some (.int (nI (uU S 1))), some (.int (nI rr)), some (.int (nI cc)), some (.int (nI v)), some (.int (nI (mK S))), some (.int (nI 1)), some (.int (nI (kS S rr cc))), some (.int (nI (sX S rr cc ((kS S rr cc) - 1)))), some (.int (nI 1)), some (.int (nI 1)), some (.int (nI 1)), some (.int (-4)), none]) rfl ?_
                refine z_aload_n C 0 dL_sets_275 rfl rfl ?_
                refine z_iload_n C 1 dL_sets_276 rfl rfl ?_
                refine z_iload C dL_sets_277 rfl ?_
                refine z_iload C dL_sets_279 rfl ?_
                refine z_iload C dL_sets_281 rfl ?_
                refine z_callV (wn := (WRd X.2.1 x0 h0 h1 w0 w1 t r S o1 kp1 Q1 tx ln ps)) C kX5_set gL_sets_X5_set m1 dL_sets_283 [0, 1, 2, 3, 4, 5, 6, 7, 8, 9, 10, 11, 12, 13, 14, 15, 16, 17, 18, 19, 20, 21, 22, 23, 24, 25, 26, 27, 28, 29, 30, 31, 32, 33, 34, 35, 36, 37, 38, 39, 40, 41, 42, 43, 44, 45, 46, 47, 48, 49, 50] [] 0 rfl rfl nd_0_1_2_3_4_5_6_7_8_9_10_11_12_13_14_15_16_17_18_19_20_21_22_23_24_25_26_27_28_29_30_31_32_33_34_35_36_37_38_39_40_41_42_43_44_45_46_47_48_49_50 rfl rfl rfl (by decide) (by decide) (Nat.le_of_ble_eq_true rfl) rfl ((zput_par nd_0_1_2_3_4_5_6_7_8_9_10_11_12_13_14_15_16_17_18_19_20_21_22_23_24_25_26_27_28_29_30_31_32_33_34_35_36_37_38_39_40_41_42_43_44_45_46_47_48_49_50 rfl).trans rfl) ?_
                refine z_iload C dL_sets_286 rfl ?_
                refine z_icmp_ne_f C 308 dL_sets_288 (by decide) rfl ?_
                refine z_aload_n C 0 dL_sets_291 rfl rfl ?_
                refine z_iload_n C 1 dL_sets_292 rfl rfl ?_
                refine z_iload C dL_sets_293 rfl ?_
                refine z_iload C dL_sets_295 rfl ?_
                refine z_sipush C (nI 10000) dL_sets_297 (by decide) ?_
                refine z_callV (wn := (WRd X.2.1 x0 h0 h1 w0 w1 t r S o2 kp2 Q2 tx ln ps)) C kX5_set gL_sets_X5_set m2 dL_sets_300 [0, 1, 2, 3, 4, 5, 6, 7, 8, 9, 10, 11, 12, 13, 14, 15, 16, 17, 18, 19, 20, 21, 22, 23, 24, 25, 26, 27, 28, 29, 30, 31, 32, 33, 34, 35, 36, 37, 38, 39, 40, 41, 42, 43, 44, 45, 46, 47, 48, 49, 50] [] 0 rfl rfl nd_0_1_2_3_4_5_6_7_8_9_10_11_12_13_14_15_16_17_18_19_20_21_22_23_24_25_26_27_28_29_30_31_32_33_34_35_36_37_38_39_40_41_42_43_44_45_46_47_48_49_50 rfl rfl rfl (by decide) (by decide) (Nat.le_of_ble_eq_true rfl) rfl ((zput_par nd_0_1_2_3_4_5_6_7_8_9_10_11_12_13_14_15_16_17_18_19_20_21_22_23_24_25_26_27_28_29_30_31_32_33_34_35_36_37_38_39_40_41_42_43_44_45_46_47_48_49_50 rfl).trans rfl) ?_
                refine z_bipush C (-2) dL_sets_303 (by decide) ?_
                refine z_icmp_eq_t C 310 dL_sets_305 (by decide) rfl ?_
                refine z_iload C dL_sets_310 rfl ?_
                refine z_if_ge_f C 336 dL_sets_312 (by decide) (by decide) ?_
                refine z_aload_n C 0 dL_sets_315 rfl rfl ?_
                refine z_iload C dL_sets_316 rfl ?_
                refine z_iload C dL_sets_318 rfl ?_
                refine z_iload C dL_sets_320 rfl ?_
                refine z_callVr C kX5_setting gL_sets_X5_setting (l_setN X.2.1 x0 h0 w0 t S rr cc (kS S rr cc) hG hr hc hn (by omega)) dL_sets_322 [0, 1, 2, 3, 4, 5, 6, 7, 8] [] 0 rfl nd_0_1_2_3_4_5_6_7_8 rfl rfl rfl (by decide) (by decide) (Nat.le_of_ble_eq_true rfl) rfl ?_
                refine z_bipush C (-5) dL_sets_325 (by decide) ?_
                refine z_icmp_ne_f C 334 dL_sets_327 (by decide) rfl ?_
                refine z_iconst C (nI 1) dL_sets_330 (by decide) ?_
                refine z_goto C 335 dL_sets_331 (by decide) ?_
                exact z_zret C N dL_sets_335 rfl (rfl) (rfl)
          · refine z_iconst C (-1) dL_sets_119 (by decide) ?_
            refine z_goto C 135 dL_sets_120 (by decide) ?_
            refine z_istore C dL_sets_135 (Nat.le_of_ble_eq_true rfl) ?_
            refine z_lv (lv' := [some (.ref x0), some (.int (nI au)), some (.int g), some (.int h), some (.int (nI (uU S 0))), some (.int (nI (uU S 1))), some (.int (nI rr)), some (.int (nI cc)), some (.int (nI v)), some (.int (nI (mK S))), some (.int (nI 1)), some (.int (nI (kS S rr cc))), some (.int (-1)), none, none, none, none, none]) rfl ?_
            refine z_iload C dL_sets_137 rfl ?_
            refine z_if_lt_t C 157 dL_sets_139 (by decide) (by decide) ?_
            refine z_iconst C (nI 0) dL_sets_157 (by decide) ?_
            refine z_istore C dL_sets_158 (Nat.le_of_ble_eq_true rfl) ?_
            refine z_lv (lv' := [some (.ref x0), some (.int (nI au)), some (.int g), some (.int h), some (.int (nI (uU S 0))), some (.int (nI (uU S 1))), some (.int (nI rr)), some (.int (nI cc)), some (.int (nI v)), some (.int (nI (mK S))), some (.int (nI 1)), some (.int (nI (kS S rr cc))), some (.int (-1)), some (.int (nI 0)), none, none, none, none]) rfl ?_
            refine z_aload_n C 0 dL_sets_160 rfl rfl ?_
            refine z_iconst C (nI 0) dL_sets_161 (by decide) ?_
            refine z_iload C dL_sets_162 rfl ?_
            refine z_iconst C (nI 1) dL_sets_164 (by decide) ?_
            refine z_callVr C kX5_line gL_sets_X5_line (l_line1n X.2.1 x0 h0 w0 t S 0 rr hG (by decide) hr hD0) dL_sets_165 [0, 1, 2, 3, 4, 5, 6, 7, 8] [] 0 rfl nd_0_1_2_3_4_5_6_7_8 rfl rfl rfl (by decide) (by decide) (Nat.le_of_ble_eq_true rfl) rfl ?_
            refine z_if_ge_f C 196 dL_sets_168 (by decide) (by decide) ?_
            refine z_aload_n C 0 dL_sets_171 rfl rfl ?_
            refine z_iconst C (nI 1) dL_sets_172 (by decide) ?_
            refine z_iload C dL_sets_173 rfl ?_
            refine z_iconst C (nI 1) dL_sets_175 (by decide) ?_
            refine z_callVr C kX5_line gL_sets_X5_line (l_line1n X.2.1 x0 h0 w0 t S 1 cc hG (by decide) hc hD1) dL_sets_176 [0, 1, 2, 3, 4, 5, 6, 7, 8] [] 0 rfl nd_0_1_2_3_4_5_6_7_8 rfl rfl rfl (by decide) (by decide) (Nat.le_of_ble_eq_true rfl) rfl ?_
            refine z_if_ge_f C 196 dL_sets_179 (by decide) (by decide) ?_
            refine z_aload_n C 0 dL_sets_182 rfl rfl ?_
            refine z_iconst C (nI 0) dL_sets_183 (by decide) ?_
            refine z_iload C dL_sets_184 rfl ?_
            refine z_iload C dL_sets_186 rfl ?_
            refine z_callVr C kX5_cell gL_sets_X5_cell (l_cell0 X.2.1 x0 h0 w0 t S rr cc hG hr hc) dL_sets_188 [0, 1, 2, 3, 4, 5, 6, 7, 8] [] 0 rfl nd_0_1_2_3_4_5_6_7_8 rfl rfl rfl (by decide) (by decide) (Nat.le_of_ble_eq_true rfl) rfl ?_
            refine z_iload C dL_sets_191 rfl ?_
            refine z_icmp_ne_f C 200 dL_sets_193 (by decide) hcv ?_
            refine z_iconst C (nI 1) dL_sets_196 (by decide) ?_
            refine z_goto C 201 dL_sets_197 (by decide) ?_
            refine z_istore C dL_sets_201 (Nat.le_of_ble_eq_true rfl) ?_
            refine z_lv (lv' := [some (.ref x0), some (.int (nI au)), some (.int g), some (.int h), some (.int (nI (uU S 0))), some (.int (nI (uU S 1))), some (.int (nI rr)), some (.int (nI cc)), some (.int (nI v)), some (.int (nI (mK S))), some (.int (nI 1)), some (.int (nI (kS S rr cc))), some (.int (-1)), some (.int (nI 0)), some (.int (nI 1)), none, none, none]) rfl ?_
            refine z_iload C dL_sets_203 rfl ?_
            refine z_nif_eq_t C 225 dL_sets_205 (by decide) (by omega) (by omega) ?_
            refine z_iconst C (nI 0) dL_sets_225 (by decide) ?_
            refine z_istore C dL_sets_226 (Nat.le_of_ble_eq_true rfl) ?_
            refine z_lv (lv' := [some (.ref x0), some (.int (nI au)), some (.int g), some (.int h), some (.int (nI (uU S 0))), some (.int (nI (uU S 1))), some (.int (nI rr)), some (.int (nI cc)), some (.int (nI v)), some (.int (nI (mK S))), some (.int (nI 1)), some (.int (nI (kS S rr cc))), some (.int (-1)), some (.int (nI 0)), some (.int (nI 1)), some (.int (nI 0)), none, none]) rfl ?_
            refine z_iload C dL_sets_228 rfl ?_
            refine z_nif_eq_f C 238 dL_sets_230 (by decide) (by omega) (by omega) ?_
            refine z_bipush C (-4) dL_sets_233 (by decide) ?_
            refine z_goto C 273 dL_sets_235 (by decide) ?_
            refine z_istore C dL_sets_273 (Nat.le_of_ble_eq_true rfl) ?_
            refine z_lv (lv' := [some (.ref x0), some (.int (nI au)), some (.int g), some (.int h), some (.int (nI (uU S 0))), some (.int (nI (uU S 1))), some (.int (nI rr)), some (.int (nI cc)), some (.int (nI v)), some (.int (nI (mK S))), some (.int (nI 1)), some (.int (nI (kS S rr cc))), some (.int (-1)), some (.int (nI 0)), some (.int (nI 1)), some (.int (nI 0)), some (.int (-4)), none]) rfl ?_
            refine z_aload_n C 0 dL_sets_275 rfl rfl ?_
            refine z_iload_n C 1 dL_sets_276 rfl rfl ?_
            refine z_iload C dL_sets_277 rfl ?_
            refine z_iload C dL_sets_279 rfl ?_
            refine z_iload C dL_sets_281 rfl ?_
            refine z_callV (wn := (WRd X.2.1 x0 h0 h1 w0 w1 t r S o1 kp1 Q1 tx ln ps)) C kX5_set gL_sets_X5_set m1 dL_sets_283 [0, 1, 2, 3, 4, 5, 6, 7, 8, 9, 10, 11, 12, 13, 14, 15, 16, 17, 18, 19, 20, 21, 22, 23, 24, 25, 26, 27, 28, 29, 30, 31, 32, 33, 34, 35, 36, 37, 38, 39, 40, 41, 42, 43, 44, 45, 46, 47, 48, 49, 50] [] 0 rfl rfl nd_0_1_2_3_4_5_6_7_8_9_10_11_12_13_14_15_16_17_18_19_20_21_22_23_24_25_26_27_28_29_30_31_32_33_34_35_36_37_38_39_40_41_42_43_44_45_46_47_48_49_50 rfl rfl rfl (by decide) (by decide) (Nat.le_of_ble_eq_true rfl) rfl ((zput_par nd_0_1_2_3_4_5_6_7_8_9_10_11_12_13_14_15_16_17_18_19_20_21_22_23_24_25_26_27_28_29_30_31_32_33_34_35_36_37_38_39_40_41_42_43_44_45_46_47_48_49_50 rfl).trans rfl) ?_
            refine z_iload C dL_sets_286 rfl ?_
            refine z_icmp_ne_f C 308 dL_sets_288 (by decide) rfl ?_
            refine z_aload_n C 0 dL_sets_291 rfl rfl ?_
            refine z_iload_n C 1 dL_sets_292 rfl rfl ?_
            refine z_iload C dL_sets_293 rfl ?_
            refine z_iload C dL_sets_295 rfl ?_
            refine z_sipush C (nI 10000) dL_sets_297 (by decide) ?_
            refine z_callV (wn := (WRd X.2.1 x0 h0 h1 w0 w1 t r S o2 kp2 Q2 tx ln ps)) C kX5_set gL_sets_X5_set m2 dL_sets_300 [0, 1, 2, 3, 4, 5, 6, 7, 8, 9, 10, 11, 12, 13, 14, 15, 16, 17, 18, 19, 20, 21, 22, 23, 24, 25, 26, 27, 28, 29, 30, 31, 32, 33, 34, 35, 36, 37, 38, 39, 40, 41, 42, 43, 44, 45, 46, 47, 48, 49, 50] [] 0 rfl rfl nd_0_1_2_3_4_5_6_7_8_9_10_11_12_13_14_15_16_17_18_19_20_21_22_23_24_25_26_27_28_29_30_31_32_33_34_35_36_37_38_39_40_41_42_43_44_45_46_47_48_49_50 rfl rfl rfl (by decide) (by decide) (Nat.le_of_ble_eq_true rfl) rfl ((zput_par nd_0_1_2_3_4_5_6_7_8_9_10_11_12_13_14_15_16_17_18_19_20_21_22_23_24_25_26_27_28_29_30_31_32_33_34_35_36_37_38_39_40_41_42_43_44_45_46_47_48_49_50 rfl).trans rfl) ?_
            refine z_bipush C (-2) dL_sets_303 (by decide) ?_
            refine z_icmp_eq_t C 310 dL_sets_305 (by decide) rfl ?_
            refine z_iload C dL_sets_310 rfl ?_
            refine z_if_ge_f C 336 dL_sets_312 (by decide) (by decide) ?_
            refine z_aload_n C 0 dL_sets_315 rfl rfl ?_
            refine z_iload C dL_sets_316 rfl ?_
            refine z_iload C dL_sets_318 rfl ?_
            refine z_iload C dL_sets_320 rfl ?_
            refine z_callVr C kX5_setting gL_sets_X5_setting (l_setN X.2.1 x0 h0 w0 t S rr cc (kS S rr cc) hG hr hc hn (by omega)) dL_sets_322 [0, 1, 2, 3, 4, 5, 6, 7, 8] [] 0 rfl nd_0_1_2_3_4_5_6_7_8 rfl rfl rfl (by decide) (by decide) (Nat.le_of_ble_eq_true rfl) rfl ?_
            refine z_bipush C (-5) dL_sets_325 (by decide) ?_
            refine z_icmp_ne_f C 334 dL_sets_327 (by decide) rfl ?_
            refine z_iconst C (nI 1) dL_sets_330 (by decide) ?_
            refine z_goto C 335 dL_sets_331 (by decide) ?_
            exact z_zret C N dL_sets_335 rfl (rfl) (rfl)
    exact hL95 _ 0 rfl (by omega)

set_option maxHeartbeats 4000000 in
set_option maxRecDepth 100000 in
theorem w_setu (E : zE) (x0 h0 h1 w0 w1 : Nat) (t : Nat → Nat) (r : Nat → Nat → Nat) (S S1 : zSt) (o kp kp1 kp2 o1 o2 : Nat) (Q Q1 Q2 : Nat → zSt) (tx : Nat → Nat) (ln : Nat) (ps : zPs) {B B1 : Nat} (au : Nat) (g h : Int32) (rr cc v : Nat) (hG : GG S B) (hG1 : GG S1 B1) (hau : au < 4) (hR : lw g (uU S 0) = rr) (hr : rr < uU S 0) (hC : lw (g >>> (nI 4 &&& 31)) (uU S 1) = cc) (hc : cc < uU S 1) (hV : lw h 5 = v) (hv : v < 5) (hD0 : Dm S 0 rr = false) (hD1 : Dm S 1 cc = false) (hne : ¬ cV S rr cc = nI v) (hu0 : uU S1 0 = uU S 0) (hu1 : uU S1 1 = uU S 1) (hc1 : cV S1 rr cc = nI v) (ht : tK S = false) (hk : kS S1 rr cc = 0) (m1 : zM E yX5_set wsX5_set 6 [.ref x0, .int (nI au), .int (nI rr), .int (nI cc), .int (nI v)] (WAd E x0 h0 h1 w0 t r S o kp Q) (WAd E x0 h0 h1 w0 t r S1 o1 kp1 Q1) (some (.int (nI 1000)))) (m2 : zM E yX5_set wsX5_set 6 [.ref x0, .int (nI au), .int (nI rr), .int (nI cc), .int (nI 10000)] (WAd E x0 h0 h1 w0 t r S1 o1 kp1 Q1) (WAd E x0 h0 h1 w0 t r S1 o2 kp2 Q2) (some (.int (-2)))) : zM E yL_sets wsL_sets 7 [.ref x0, .int (nI au), .int g, .int h] (WRd E x0 h0 h1 w0 w1 t r S o kp Q tx ln ps) (WRd E x0 h0 h1 w0 w1 t r S1 o2 kp2 Q2 tx ln ps) (some (.int (nI 1))) := by
  refine zM.of kL_sets (Nat.le_of_ble_eq_true rfl) rfl [some (.ref x0), some (.int (nI au)), some (.int g), some (.int h), none, none, none, none, none, none, none, none, none, none, none, none, none, none] rfl (Nat.le_of_ble_eq_true rfl) ?_
  intro X eX C N
  subst eX
  have hb0 : uU S 0 ≤ 12 := gg_u hG 0
  have hb1 : uU S 1 ≤ 8 := gg_u1 hG
  have hb2 : mK S ≤ 60 := gg_M hG
  have hb3 : uU S1 0 ≤ 12 := gg_u hG1 0
  have hb4 : uU S1 1 ≤ 8 := gg_u1 hG1
  have hb5 : mK S1 ≤ 60 := gg_M hG1
  have hks : kS S rr cc ≤ mK S := zc_le _ _
  refine z_aload_n C 0 dL_sets_0 rfl rfl ?_
  refine z_iconst C (nI 0) dL_sets_1 (by decide) ?_
  refine z_iconst C (nI 0) dL_sets_2 (by decide) ?_
  refine z_callVr C kX5_size gL_sets_X5_size (l_size0 X.2.1 x0 h0 w0 t S 0 hG (by decide)) dL_sets_3 [0, 1, 2, 3, 4, 5, 6, 7, 8] [] 0 rfl nd_0_1_2_3_4_5_6_7_8 rfl rfl rfl (by decide) (by decide) (Nat.le_of_ble_eq_true rfl) rfl ?_
  refine z_istore C dL_sets_6 (Nat.le_of_ble_eq_true rfl) ?_
  refine z_lv (lv' := [some (.ref x0), some (.int (nI au)), some (.int g), some (.int h), some (.int (nI (uU S 0))), none, none, none, none, none, none, none, none, none, none, none, none, none]) rfl ?_
  refine z_aload_n C 0 dL_sets_8 rfl rfl ?_
  refine z_iconst C (nI 0) dL_sets_9 (by decide) ?_
  refine z_iconst C (nI 1) dL_sets_10 (by decide) ?_
  refine z_callVr C kX5_size gL_sets_X5_size (l_size0 X.2.1 x0 h0 w0 t S 1 hG (by decide)) dL_sets_11 [0, 1, 2, 3, 4, 5, 6, 7, 8] [] 0 rfl nd_0_1_2_3_4_5_6_7_8 rfl rfl rfl (by decide) (by decide) (Nat.le_of_ble_eq_true rfl) rfl ?_
  refine z_istore C dL_sets_14 (Nat.le_of_ble_eq_true rfl) ?_
  refine z_lv (lv' := [some (.ref x0), some (.int (nI au)), some (.int g), some (.int h), some (.int (nI (uU S 0))), some (.int (nI (uU S 1))), none, none, none, none, none, none, none, none, none, none, none, none]) rfl ?_
  refine z_iload C dL_sets_16 rfl ?_
  refine z_nif_eq_f C 26 dL_sets_18 (by decide) (by omega) (by omega) ?_
  refine z_iload C dL_sets_21 rfl ?_
  refine z_nif_ne_t C 44 dL_sets_23 (by decide) (by omega) (by omega) ?_
  refine z_iload_n C 2 dL_sets_44 rfl rfl ?_
  refine z_iload C dL_sets_45 rfl ?_
  refine z_callS C kL_low gL_sets_L_low (l_low X.2.1 g (uU S 0) (by omega) (by omega)) dL_sets_47 [] rfl (by decide) (by decide) (Nat.le_of_ble_eq_true rfl) rfl ?_
  refine z_top (y := nI rr) (congrArg nI hR) ?_
  refine z_istore C dL_sets_50 (Nat.le_of_ble_eq_true rfl) ?_
  refine z_lv (lv' := [some (.ref x0), some (.int (nI au)), some (.int g), some (.int h), some (.int (nI (uU S 0))), some (.int (nI (uU S 1))), some (.int (nI rr)), none, none, none, none, none, none, none, none, none, none, none]) rfl ?_
  refine z_iload_n C 2 dL_sets_52 rfl rfl ?_
  refine z_iconst C (nI 4) dL_sets_53 (by decide) ?_
  refine z_ishr C dL_sets_54 ?_
  refine z_iload C dL_sets_55 rfl ?_
  refine z_callS C kL_low gL_sets_L_low (l_low X.2.1 (g >>> ((nI 4) &&& 31)) (uU S 1) (by omega) (by omega)) dL_sets_57 [] rfl (by decide) (by decide) (Nat.le_of_ble_eq_true rfl) rfl ?_
  refine z_top (y := nI cc) (congrArg nI hC) ?_
  refine z_istore C dL_sets_60 (Nat.le_of_ble_eq_true rfl) ?_
  refine z_lv (lv' := [some (.ref x0), some (.int (nI au)), some (.int g), some (.int h), some (.int (nI (uU S 0))), some (.int (nI (uU S 1))), some (.int (nI rr)), some (.int (nI cc)), none, none, none, none, none, none, none, none, none, none]) rfl ?_
  refine z_iload_n C 3 dL_sets_62 rfl rfl ?_
  refine z_iconst C (nI 5) dL_sets_63 (by decide) ?_
  refine z_callS C kL_low gL_sets_L_low (l_low X.2.1 h 5 (by decide) (by decide)) dL_sets_64 [] rfl (by decide) (by decide) (Nat.le_of_ble_eq_true rfl) rfl ?_
  refine z_top (y := nI v) (congrArg nI hV) ?_
  refine z_istore C dL_sets_67 (Nat.le_of_ble_eq_true rfl) ?_
  refine z_lv (lv' := [some (.ref x0), some (.int (nI au)), some (.int g), some (.int h), some (.int (nI (uU S 0))), some (.int (nI (uU S 1))), some (.int (nI rr)), some (.int (nI cc)), some (.int (nI v)), none, none, none, none, none, none, none, none, none]) rfl ?_
  refine z_aload_n C 0 dL_sets_69 rfl rfl ?_
  refine z_iconst C (nI 0) dL_sets_70 (by decide) ?_
  refine z_callVr C kX5_count gL_sets_X5_count (l_cnt0 X.2.1 x0 h0 h1 w0 w1 t S o kp ln ps  hG ) dL_sets_71 [0, 1, 2, 3, 4, 5, 6, 7, 8, 9, 51] [] 0 rfl nd_0_1_2_3_4_5_6_7_8_9_51 rfl rfl rfl (by decide) (by decide) (Nat.le_of_ble_eq_true rfl) rfl ?_
  refine z_istore C dL_sets_74 (Nat.le_of_ble_eq_true rfl) ?_
  refine z_lv (lv' := [some (.ref x0), some (.int (nI au)), some (.int g), some (.int h), some (.int (nI (uU S 0))), some (.int (nI (uU S 1))), some (.int (nI rr)), some (.int (nI cc)), some (.int (nI v)), some (.int (nI (mK S))), none, none, none, none, none, none, none, none]) rfl ?_
  refine z_aload_n C 0 dL_sets_76 rfl rfl ?_
  refine z_iconst C (nI 5) dL_sets_77 (by decide) ?_
  refine z_callVr C kX5_count gL_sets_X5_count (l_cnt5n X.2.1 x0 h0 h1 w0 w1 t S o kp ln ps  hG ht) dL_sets_78 [0, 1, 2, 3, 4, 5, 6, 7, 8, 9, 51] [] 0 rfl nd_0_1_2_3_4_5_6_7_8_9_51 rfl rfl rfl (by decide) (by decide) (Nat.le_of_ble_eq_true rfl) rfl ?_
  refine z_iconst C (nI 1) dL_sets_81 (by decide) ?_
  refine z_ncmp_ne_t C 89 dL_sets_82 (by decide) (by omega) (by omega) (by omega) ?_
  refine z_iconst C (nI 0) dL_sets_89 (by decide) ?_
  refine z_istore C dL_sets_90 (Nat.le_of_ble_eq_true rfl) ?_
  refine z_lv (lv' := [some (.ref x0), some (.int (nI au)), some (.int g), some (.int h), some (.int (nI (uU S 0))), some (.int (nI (uU S 1))), some (.int (nI rr)), some (.int (nI cc)), some (.int (nI v)), some (.int (nI (mK S))), some (.int (nI 0)), none, none, none, none, none, none, none]) rfl ?_
  refine z_iconst C (nI 0) dL_sets_92 (by decide) ?_
  refine z_istore C dL_sets_93 (Nat.le_of_ble_eq_true rfl) ?_
  refine z_lv (lv' := [some (.ref x0), some (.int (nI au)), some (.int g), some (.int h), some (.int (nI (uU S 0))), some (.int (nI (uU S 1))), some (.int (nI rr)), some (.int (nI cc)), some (.int (nI v)), some (.int (nI (mK S))), some (.int (nI 0)), some (.int (nI 0)), none, none, none, none, none, none]) rfl ?_
  have hL95 : ∀ (dd95 : Nat) (n : Nat), kS S rr cc - n = dd95 → (n ≤ kS S rr cc) → zG X 0 0 (WRd X.2.1 x0 h0 h1 w0 w1 t r S o kp Q tx ln ps) [some (.ref x0), some (.int (nI au)), some (.int g), some (.int h), some (.int (nI (uU S 0))), some (.int (nI (uU S 1))), some (.int (nI rr)), some (.int (nI cc)), some (.int (nI v)), some (.int (nI (mK S))), some (.int (nI 0)), some (.int (nI n)), none, none, none, none, none, none] [] 95 := by
    intro dd95
    induction dd95 using Nat.strongRecOn with
    | _ dd95 ih95 =>
      intro n hdd95 hn
      refine z_aload_n C 0 dL_sets_95 rfl rfl ?_
      refine z_iload C dL_sets_96 rfl ?_
      refine z_iload C dL_sets_98 rfl ?_
      refine z_iload C dL_sets_100 rfl ?_
      rcases Nat.lt_or_ge (n) (kS S rr cc) with hq_1 | hq_1
      · have fk_2 : sX S rr cc n < mK S := (sX_f hG (by omega) (by omega) hq_1).1
        have fk_3 : kN S (sX S rr cc n) = 4 := (sX_f hG (by omega) (by omega) hq_1).2.1
        have fk_4 : sN S (sX S rr cc n) = 0 := (sX_f hG (by omega) (by omega) hq_1).2.2.1
        refine z_callVr C kX5_setting gL_sets_X5_setting (l_setY X.2.1 x0 h0 w0 t S rr cc n hG hr hc hq_1) dL_sets_102 [0, 1, 2, 3, 4, 5, 6, 7, 8] [] 0 rfl nd_0_1_2_3_4_5_6_7_8 rfl rfl rfl (by decide) (by decide) (Nat.le_of_ble_eq_true rfl) rfl ?_
        have hg_5 : sX S rr cc n < mK S := (sX_t hG (by omega)).1
        refine z_nif_lt_f C 114 dL_sets_105 (by decide) (by omega) (by trivial) ?_
        refine z_iinc C (nI (n + 1)) dL_sets_108 rfl (zi_1 _) ?_
        refine z_lv (lv' := [some (.ref x0), some (.int (nI au)), some (.int g), some (.int h), some (.int (nI (uU S 0))), some (.int (nI (uU S 1))), some (.int (nI rr)), some (.int (nI cc)), some (.int (nI v)), some (.int (nI (mK S))), some (.int (nI 0)), some (.int (nI (n + 1))), none, none, none, none, none, none]) rfl ?_
        refine z_goto C 95 dL_sets_111 (by decide) ?_
        exact ih95 (kS S rr cc - (n + 1)) (by omega) (n + 1) rfl (by omega)
      · refine z_callVr C kX5_setting gL_sets_X5_setting (l_setN X.2.1 x0 h0 w0 t S rr cc n hG hr hc hq_1 (by omega)) dL_sets_102 [0, 1, 2, 3, 4, 5, 6, 7, 8] [] 0 rfl nd_0_1_2_3_4_5_6_7_8 rfl rfl rfl (by decide) (by decide) (Nat.le_of_ble_eq_true rfl) rfl ?_
        refine z_if_lt_t C 114 dL_sets_105 (by decide) (by decide) ?_
        obtain rfl : n = kS S rr cc := (by omega)
        refine z_iload C dL_sets_114 rfl ?_
        refine z_nif_ne C 123 dL_sets_116 (by decide) (by omega) (fun h_6 => ?_) (fun h_6 => ?_)
        · have fq_7 : sX S rr cc (kS S rr cc - 1) < mK S := (sX_f hG hr hc (show kS S rr cc - 1 < kS S rr cc by omega)).1
          have fq_8 : kN S (sX S rr cc (kS S rr cc - 1)) = 4 := (sX_f hG hr hc (show kS S rr cc - 1 < kS S rr cc by omega)).2.1
          have fq_9 : sN S (sX S rr cc (kS S rr cc - 1)) = 0 := (sX_f hG hr hc (show kS S rr cc - 1 < kS S rr cc by omega)).2.2.1
          have fq_10 : aN S (sX S rr cc (kS S rr cc - 1)) < 4 := (aN_e hG (sX_f hG hr hc (show kS S rr cc - 1 < kS S rr cc by omega)).1).2
          have fq_11 : bN S (sX S rr cc (kS S rr cc - 1)) < 10000 := (bN_e hG (sX_f hG hr hc (show kS S rr cc - 1 < kS S rr cc by omega)).1 (sX_f hG hr hc (show kS S rr cc - 1 < kS S rr cc by omega)).2.1 (sX_f hG hr hc (show kS S rr cc - 1 < kS S rr cc by omega)).2.2.1).2
          refine z_aload_n C 0 dL_sets_123 rfl rfl ?_
          refine z_iload C dL_sets_124 rfl ?_
          refine z_iload C dL_sets_126 rfl ?_
          refine z_iload C dL_sets_128 rfl ?_
          refine z_iconst C (nI 1) dL_sets_130 (by decide) ?_
          refine z_isub C dL_sets_131 ?_
          refine z_top (y := nI ((kS S rr cc) - 1)) ((pk_sub (by omega)).trans (congrArg nI (by omega))) ?_
          refine z_callVr C kX5_setting gL_sets_X5_setting (l_setY X.2.1 x0 h0 w0 t S rr cc ((kS S rr cc) - 1) hG hr hc (by omega)) dL_sets_132 [0, 1, 2, 3, 4, 5, 6, 7, 8] [] 0 rfl nd_0_1_2_3_4_5_6_7_8 rfl rfl rfl (by decide) (by decide) (Nat.le_of_ble_eq_true rfl) rfl ?_
          have hg_12 : sX S rr cc ((kS S rr cc) - 1) < mK S := (sX_t hG (by omega)).1
          refine z_istore C dL_sets_135 (Nat.le_of_ble_eq_true rfl) ?_
          refine z_lv (lv' := [some (.ref x0), some (.int (nI au)), some (.int g), some (.int h), some (.int (nI (uU S 0))), some (.int (nI (uU S 1))), some (.int (nI rr)), some (.int (nI cc)), some (.int (nI v)), some (.int (nI (mK S))), some (.int (nI 0)), some (.int (nI (kS S rr cc))), some (.int (nI (sX S rr cc ((kS S rr cc) - 1)))), none, none, none, none, none]) rfl ?_
          refine z_iload C dL_sets_137 rfl ?_
          refine z_nif_lt_f C 157 dL_sets_139 (by decide) (by omega) (by trivial) ?_
          refine z_aload_n C 0 dL_sets_142 rfl rfl ?_
          refine z_iload C dL_sets_143 rfl ?_
          refine z_iconst C (nI 1) dL_sets_145 (by decide) ?_
          refine z_callVr C kX5_change gL_sets_X5_change (l_chg1 X.2.1 x0 h0 w0 t S (sX S rr cc ((kS S rr cc) - 1)) hG fq_7) dL_sets_146 [0, 1, 2, 3, 4, 5, 6, 7, 8] [] 0 rfl nd_0_1_2_3_4_5_6_7_8 rfl rfl rfl (by decide) (by decide) (Nat.le_of_ble_eq_true rfl) rfl ?_
          refine z_iload_n C 1 dL_sets_149 rfl rfl ?_
          refine z_ncmp_ne C 157 dL_sets_150 (by decide) (by omega) (by omega) (fun h_13 => ?_) (fun h_13 => ?_)
          · refine z_iconst C (nI 0) dL_sets_157 (by decide) ?_
            refine z_istore C dL_sets_158 (Nat.le_of_ble_eq_true rfl) ?_
            refine z_lv (lv' := [some (.ref x0), some (.int (nI au)), some (.int g), some (.int h), some (.int (nI (uU S 0))), some (.int (nI (uU S 1))), some (.int (nI rr)), some (.int (nI cc)), some (.int (nI v)), some (.int (nI (mK S))), some (.int (nI 0)), some (.int (nI (kS S rr cc))), some (.int (nI (sX S rr cc ((kS S rr cc) - 1)))), some (.int (nI 0)), none, none, none, none]) rfl ?_
            refine z_aload_n C 0 dL_sets_160 rfl rfl ?_
            refine z_iconst C (nI 0) dL_sets_161 (by decide) ?_
            refine z_iload C dL_sets_162 rfl ?_
            refine z_iconst C (nI 1) dL_sets_164 (by decide) ?_
            refine z_callVr C kX5_line gL_sets_X5_line (l_line1n X.2.1 x0 h0 w0 t S 0 rr hG (by decide) hr hD0) dL_sets_165 [0, 1, 2, 3, 4, 5, 6, 7, 8] [] 0 rfl nd_0_1_2_3_4_5_6_7_8 rfl rfl rfl (by decide) (by decide) (Nat.le_of_ble_eq_true rfl) rfl ?_
            refine z_if_ge_f C 196 dL_sets_168 (by decide) (by decide) ?_
            refine z_aload_n C 0 dL_sets_171 rfl rfl ?_
            refine z_iconst C (nI 1) dL_sets_172 (by decide) ?_
            refine z_iload C dL_sets_173 rfl ?_
            refine z_iconst C (nI 1) dL_sets_175 (by decide) ?_
            refine z_callVr C kX5_line gL_sets_X5_line (l_line1n X.2.1 x0 h0 w0 t S 1 cc hG (by decide) hc hD1) dL_sets_176 [0, 1, 2, 3, 4, 5, 6, 7, 8] [] 0 rfl nd_0_1_2_3_4_5_6_7_8 rfl rfl rfl (by decide) (by decide) (Nat.le_of_ble_eq_true rfl) rfl ?_
            refine z_if_ge_f C 196 dL_sets_179 (by decide) (by decide) ?_
            refine z_aload_n C 0 dL_sets_182 rfl rfl ?_
            refine z_iconst C (nI 0) dL_sets_183 (by decide) ?_
            refine z_iload C dL_sets_184 rfl ?_
            refine z_iload C dL_sets_186 rfl ?_
            refine z_callVr C kX5_cell gL_sets_X5_cell (l_cell0 X.2.1 x0 h0 w0 t S rr cc hG hr hc) dL_sets_188 [0, 1, 2, 3, 4, 5, 6, 7, 8] [] 0 rfl nd_0_1_2_3_4_5_6_7_8 rfl rfl rfl (by decide) (by decide) (Nat.le_of_ble_eq_true rfl) rfl ?_
            refine z_iload C dL_sets_191 rfl ?_
            refine z_icmp_ne_t C 200 dL_sets_193 (by decide) hne ?_
            refine z_iconst C (nI 0) dL_sets_200 (by decide) ?_
            refine z_istore C dL_sets_201 (Nat.le_of_ble_eq_true rfl) ?_
            refine z_lv (lv' := [some (.ref x0), some (.int (nI au)), some (.int g), some (.int h), some (.int (nI (uU S 0))), some (.int (nI (uU S 1))), some (.int (nI rr)), some (.int (nI cc)), some (.int (nI v)), some (.int (nI (mK S))), some (.int (nI 0)), some (.int (nI (kS S rr cc))), some (.int (nI (sX S rr cc ((kS S rr cc) - 1)))), some (.int (nI 0)), some (.int (nI 0)), none, none, none]) rfl ?_
            refine z_iload C dL_sets_203 rfl ?_
            refine z_nif_eq_t C 225 dL_sets_205 (by decide) (by omega) (by omega) ?_
            refine z_iconst C (nI 0) dL_sets_225 (by decide) ?_
            refine z_istore C dL_sets_226 (Nat.le_of_ble_eq_true rfl) ?_
            refine z_lv (lv' := [some (.ref x0), some (.int (nI au)), some (.int g), some (.int h), some (.int (nI (uU S 0))), some (.int (nI (uU S 1))), some (.int (nI rr)), some (.int (nI cc)), some (.int (nI v)), some (.int (nI (mK S))), some (.int (nI 0)), some (.int (nI (kS S rr cc))), some (.int (nI (sX S rr cc ((kS S rr cc) - 1)))), some (.int (nI 0)), some (.int (nI 0)), some (.int (nI 0)), none, none]) rfl ?_
            refine z_iload C dL_sets_228 rfl ?_
            refine z_nif_eq_t C 238 dL_sets_230 (by decide) (by omega) (by omega) ?_
            refine z_iload C dL_sets_238 rfl ?_
            refine z_nif_ne_f C 249 dL_sets_240 (by decide) (by omega) (by omega) ?_
            refine z_sipush C (nI 1000) dL_sets_243 (by decide) ?_
            refine z_goto C 273 dL_sets_246 (by decide) ?_
            refine z_istore C dL_sets_273 (Nat.le_of_ble_eq_true rfl) ?_
            refine z_lv (lv' := [some (.ref x0), some (.int (nI au)), some (.int g), some (.int h), some (.int (nI (uU S 0))), some (.int (nI (uU S 1))), some (.int (nI rr)), some (.int (nI cc)), some (.int (nI v)), some (.int (nI (mK S))), some (.int (nI 0)), some (.int (nI (kS S rr cc))), some (.int (nI (sX S rr cc ((kS S rr cc) - 1)))), some (.int (nI 0)), some (.int (nI 0)), some (.int (nI 0)), some (.int (nI 1000)), none]) rfl ?_
            refine z_aload_n C 0 dL_sets_275 rfl rfl ?_
            refine z_iload_n C 1 dL_sets_276 rfl rfl ?_
            refine z_iload C dL_sets_277 rfl ?_
            refine z_iload C dL_sets_279 rfl ?_
            refine z_iload C dL_sets_281 rfl ?_
            refine z_callV (wn := (WRd X.2.1 x0 h0 h1 w0 w1 t r S1 o1 kp1 Q1 tx ln ps)) C kX5_set gL_sets_X5_set m1 dL_sets_283 [0, 1, 2, 3, 4, 5, 6, 7, 8, 9, 10, 11, 12, 13, 14, 15, 16, 17, 18, 19, 20, 21, 22, 23, 24, 25, 26, 27, 28, 29, 30, 31, 32, 33, 34, 35, 36, 37, 38, 39, 40, 41, 42, 43, 44, 45, 46, 47, 48, 49, 50] [] 0 rfl rfl nd_0_1_2_3_4_5_6_7_8_9_10_11_12_13_14_15_16_17_18_19_20_21_22_23_24_25_26_27_28_29_30_31_32_33_34_35_36_37_38_39_40_41_42_43_44_45_46_47_48_49_50 rfl rfl rfl (by decide) (by decide) (Nat.le_of_ble_eq_true rfl) rfl ((zput_par nd_0_1_2_3_4_5_6_7_8_9_10_11_12_13_14_15_16_17_18_19_20_21_22_23_24_25_26_27_28_29_30_31_32_33_34_35_36_37_38_39_40_41_42_43_44_45_46_47_48_49_50 rfl).trans rfl) ?_
            refine z_iload C dL_sets_286 rfl ?_
            refine z_ncmp_ne_f C 308 dL_sets_288 (by decide) (by omega) (by omega) (by omega) ?_
            refine z_aload_n C 0 dL_sets_291 rfl rfl ?_
            refine z_iload_n C 1 dL_sets_292 rfl rfl ?_
            refine z_iload C dL_sets_293 rfl ?_
            refine z_iload C dL_sets_295 rfl ?_
            refine z_sipush C (nI 10000) dL_sets_297 (by decide) ?_
            refine z_callV (wn := (WRd X.2.1 x0 h0 h1 w0 w1 t r S1 o2 kp2 Q2 tx ln ps)) C kX5_set gL_sets_X5_set m2 dL_sets_300 [0, 1, 2, 3, 4, 5, 6, 7, 8, 9, 10, 11, 12, 13, 14, 15, 16, 17, 18, 19, 20, 21, 22, 23, 24, 25, 26, 27, 28, 29, 30, 31, 32, 33, 34, 35, 36, 37, 38, 39, 40, 41, 42, 43, 44, 45, 46, 47, 48, 49, 50] [] 0 rfl rfl nd_0_1_2_3_4_5_6_7_8_9_10_11_12_13_14_15_16_17_18_19_20_21_22_23_24_25_26_27_28_29_30_31_32_33_34_35_36_37_38_39_40_41_42_43_44_45_46_47_48_49_50 rfl rfl rfl (by decide) (by decide) (Nat.le_of_ble_eq_true rfl) rfl ((zput_par nd_0_1_2_3_4_5_6_7_8_9_10_11_12_13_14_15_16_17_18_19_20_21_22_23_24_25_26_27_28_29_30_31_32_33_34_35_36_37_38_39_40_41_42_43_44_45_46_47_48_49_50 rfl).trans rfl) ?_
            refine z_bipush C (-2) dL_sets_303 (by decide) ?_
            refine z_icmp_eq_t C 310 dL_sets_305 (by decide) rfl ?_
            refine z_iload C dL_sets_310 rfl ?_
            refine z_nif_ge_t C 336 dL_sets_312 (by decide) (by omega) (by trivial) ?_
            refine z_iload C dL_sets_336 rfl ?_
            refine z_nif_ne_f C 345 dL_sets_338 (by decide) (by omega) (by omega) ?_
            refine z_iconst C (nI 0) dL_sets_341 (by decide) ?_
            refine z_goto C 371 dL_sets_342 (by decide) ?_
            refine z_istore C dL_sets_371 (Nat.le_of_ble_eq_true rfl) ?_
            refine z_lv (lv' := [some (.ref x0), some (.int (nI au)), some (.int g), some (.int h), some (.int (nI (uU S 0))), some (.int (nI (uU S 1))), some (.int (nI rr)), some (.int (nI cc)), some (.int (nI v)), some (.int (nI (mK S))), some (.int (nI 0)), some (.int (nI (kS S rr cc))), some (.int (nI (sX S rr cc ((kS S rr cc) - 1)))), some (.int (nI 0)), some (.int (nI 0)), some (.int (nI 0)), some (.int (nI 1000)), some (.int (nI 0))]) rfl ?_
            refine z_aload_n C 0 dL_sets_373 rfl rfl ?_
            refine z_iconst C (nI 0) dL_sets_374 (by decide) ?_
            refine z_iload C dL_sets_375 rfl ?_
            refine z_iload C dL_sets_377 rfl ?_
            refine z_callVr C kX5_cell gL_sets_X5_cell (l_cell0 X.2.1 x0 h0 w0 t S1 rr cc hG1 (by omega) (by omega)) dL_sets_379 [0, 1, 2, 3, 4, 5, 6, 7, 8] [] 0 rfl nd_0_1_2_3_4_5_6_7_8 rfl rfl rfl (by decide) (by decide) (Nat.le_of_ble_eq_true rfl) rfl ?_
            refine z_iload C dL_sets_382 rfl ?_
            refine z_icmp_ne_f C 426 dL_sets_384 (by decide) hc1 ?_
            refine z_aload_n C 0 dL_sets_387 rfl rfl ?_
            refine z_iload C dL_sets_388 rfl ?_
            refine z_iload C dL_sets_390 rfl ?_
            refine z_iload C dL_sets_392 rfl ?_
            refine z_callVr C kX5_setting gL_sets_X5_setting (l_setN X.2.1 x0 h0 w0 t S1 rr cc 0 hG1 (by omega) (by omega) (by omega) (by decide)) dL_sets_394 [0, 1, 2, 3, 4, 5, 6, 7, 8] [] 0 rfl nd_0_1_2_3_4_5_6_7_8 rfl rfl rfl (by decide) (by decide) (Nat.le_of_ble_eq_true rfl) rfl ?_
            refine z_bipush C (-5) dL_sets_397 (by decide) ?_
            refine z_icmp_ne_f C 426 dL_sets_399 (by decide) rfl ?_
            refine z_iload C dL_sets_402 rfl ?_
            refine z_nif_eq_t C 422 dL_sets_404 (by decide) (by omega) (by omega) ?_
            refine z_iconst C (nI 1) dL_sets_422 (by decide) ?_
            refine z_goto C 427 dL_sets_423 (by decide) ?_
            exact z_zret C N dL_sets_427 rfl (rfl) (rfl)
          · refine z_iconst C (nI 1) dL_sets_153 (by decide) ?_
            refine z_goto C 158 dL_sets_154 (by decide) ?_
            refine z_istore C dL_sets_158 (Nat.le_of_ble_eq_true rfl) ?_
            refine z_lv (lv' := [some (.ref x0), some (.int (nI au)), some (.int g), some (.int h), some (.int (nI (uU S 0))), some (.int (nI (uU S 1))), some (.int (nI rr)), some (.int (nI cc)), some (.int (nI v)), some (.int (nI (mK S))), some (.int (nI 0)), some (.int (nI (kS S rr cc))), some (.int (nI (sX S rr cc ((kS S rr cc) - 1)))), some (.int (nI 1)), none, none, none, none]) rfl ?_
            refine z_aload_n C 0 dL_sets_160 rfl rfl ?_
            refine z_iconst C (nI 0) dL_sets_161 (by decide) ?_
            refine z_iload C dL_sets_162 rfl ?_
            refine z_iconst C (nI 1) dL_sets_164 (by decide) ?_
            refine z_callVr C kX5_line gL_sets_X5_line (l_line1n X.2.1 x0 h0 w0 t S 0 rr hG (by decide) hr hD0) dL_sets_165 [0, 1, 2, 3, 4, 5, 6, 7, 8] [] 0 rfl nd_0_1_2_3_4_5_6_7_8 rfl rfl rfl (by decide) (by decide) (Nat.le_of_ble_eq_true rfl) rfl ?_
            refine z_if_ge_f C 196 dL_sets_168 (by decide) (by decide) ?_
            refine z_aload_n C 0 dL_sets_171 rfl rfl ?_
            refine z_iconst C (nI 1) dL_sets_172 (by decide) ?_
            refine z_iload C dL_sets_173 rfl ?_
            refine z_iconst C (nI 1) dL_sets_175 (by decide) ?_
            refine z_callVr C kX5_line gL_sets_X5_line (l_line1n X.2.1 x0 h0 w0 t S 1 cc hG (by decide) hc hD1) dL_sets_176 [0, 1, 2, 3, 4, 5, 6, 7, 8] [] 0 rfl nd_0_1_2_3_4_5_6_7_8 rfl rfl rfl (by decide) (by decide) (Nat.le_of_ble_eq_true rfl) rfl ?_
            refine z_if_ge_f C 196 dL_sets_179 (by decide) (by decide) ?_
            refine z_aload_n C 0 dL_sets_182 rfl rfl ?_
            refine z_iconst C (nI 0) dL_sets_183 (by decide) ?_
            refine z_iload C dL_sets_184 rfl ?_
            refine z_iload C dL_sets_186 rfl ?_
            refine z_callVr C kX5_cell gL_sets_X5_cell (l_cell0 X.2.1 x0 h0 w0 t S rr cc hG hr hc) dL_sets_188 [0, 1, 2, 3, 4, 5, 6, 7, 8] [] 0 rfl nd_0_1_2_3_4_5_6_7_8 rfl rfl rfl (by decide) (by decide) (Nat.le_of_ble_eq_true rfl) rfl ?_
            refine z_iload C dL_sets_191 rfl ?_
            refine z_icmp_ne_t C 200 dL_sets_193 (by decide) hne ?_
            refine z_iconst C (nI 0) dL_sets_200 (by decide) ?_
            refine z_istore C dL_sets_201 (Nat.le_of_ble_eq_true rfl) ?_
            refine z_lv (lv' := [some (.ref x0), some (.int (nI au)), some (.int g), some (.int h), some (.int (nI (uU S 0))), some (.int (nI (uU S 1))), some (.int (nI rr)), some (.int (nI cc)), some (.int (nI v)), some (.int (nI (mK S))), some (.int (nI 0)), some (.int (nI (kS S rr cc))), some (.int (nI (sX S rr cc ((kS S rr cc) - 1)))), some (.int (nI 1)), some (.int (nI 0)), none, none, none]) rfl ?_
            refine z_iload C dL_sets_203 rfl ?_
            refine z_nif_eq_f C 225 dL_sets_205 (by decide) (by omega) (by omega) ?_
            refine z_aload_n C 0 dL_sets_208 rfl rfl ?_
            refine z_iload C dL_sets_209 rfl ?_
            refine z_bipush C (nI 6) dL_sets_211 (by decide) ?_
            refine z_callVr C kX5_change gL_sets_X5_change (l_chg6y X.2.1 x0 h0 w0 t S (sX S rr cc ((kS S rr cc) - 1)) hG fq_7 fq_8 fq_9) dL_sets_213 [0, 1, 2, 3, 4, 5, 6, 7, 8] [] 0 rfl nd_0_1_2_3_4_5_6_7_8 rfl rfl rfl (by decide) (by decide) (Nat.le_of_ble_eq_true rfl) rfl ?_
            refine z_iload C dL_sets_216 rfl ?_
            refine z_ncmp_ne C 225 dL_sets_218 (by decide) (by omega) (by omega) (fun h_14 => ?_) (fun h_14 => ?_)
            · refine z_iconst C (nI 0) dL_sets_225 (by decide) ?_
              refine z_istore C dL_sets_226 (Nat.le_of_ble_eq_true rfl) ?_
              refine z_lv (lv' := [some (.ref x0), some (.int (nI au)), some (.int g), some (.int h), some (.int (nI (uU S 0))), some (.int (nI (uU S 1))), some (.int (nI rr)), some (.int (nI cc)), some (.int (nI v)), some (.int (nI (mK S))), some (.int (nI 0)), some (.int (nI (kS S rr cc))), some (.int (nI (sX S rr cc ((kS S rr cc) - 1)))), some (.int (nI 1)), some (.int (nI 0)), some (.int (nI 0)), none, none]) rfl ?_
              refine z_iload C dL_sets_228 rfl ?_
              refine z_nif_eq_t C 238 dL_sets_230 (by decide) (by omega) (by omega) ?_
              refine z_iload C dL_sets_238 rfl ?_
              refine z_nif_ne_f C 249 dL_sets_240 (by decide) (by omega) (by omega) ?_
              refine z_sipush C (nI 1000) dL_sets_243 (by decide) ?_
              refine z_goto C 273 dL_sets_246 (by decide) ?_
              refine z_istore C dL_sets_273 (Nat.le_of_ble_eq_true rfl) ?_
              refine z_lv (lv' := [some (.ref x0), some (.int (nI au)), some (.int g), some (.int h), some (.int (nI (uU S 0))), some (.int (nI (uU S 1))), some (.int (nI rr)), some (.int (nI cc)), some (.int (nI v)), some (.int (nI (mK S))), some (.int (nI 0)), some (.int (nI (kS S rr cc))), some (.int (nI (sX S rr cc ((kS S rr cc) - 1)))), some (.int (nI 1)), some (.int (nI 0)), some (.int (nI 0)), some (.int (nI 1000)), none]) rfl ?_
              refine z_aload_n C 0 dL_sets_275 rfl rfl ?_
              refine z_iload_n C 1 dL_sets_276 rfl rfl ?_
              refine z_iload C dL_sets_277 rfl ?_
              refine z_iload C dL_sets_279 rfl ?_
              refine z_iload C dL_sets_281 rfl ?_
              refine z_callV (wn := (WRd X.2.1 x0 h0 h1 w0 w1 t r S1 o1 kp1 Q1 tx ln ps)) C kX5_set gL_sets_X5_set m1 dL_sets_283 [0, 1, 2, 3, 4, 5, 6, 7, 8, 9, 10, 11, 12, 13, 14, 15, 16, 17, 18, 19, 20, 21, 22, 23, 24, 25, 26, 27, 28, 29, 30, 31, 32, 33, 34, 35, 36, 37, 38, 39, 40, 41, 42, 43, 44, 45, 46, 47, 48, 49, 50] [] 0 rfl rfl nd_0_1_2_3_4_5_6_7_8_9_10_11_12_13_14_15_16_17_18_19_20_21_22_23_24_25_26_27_28_29_30_31_32_33_34_35_36_37_38_39_40_41_42_43_44_45_46_47_48_49_50 rfl rfl rfl (by decide) (by decide) (Nat.le_of_ble_eq_true rfl) rfl ((zput_par nd_0_1_2_3_4_5_6_7_8_9_10_11_12_13_14_15_16_17_18_19_20_21_22_23_24_25_26_27_28_29_30_31_32_33_34_35_36_37_38_39_40_41_42_43_44_45_46_47_48_49_50 rfl).trans rfl) ?_
              refine z_iload C dL_sets_286 rfl ?_
              refine z_ncmp_ne_f C 308 dL_sets_288 (by decide) (by omega) (by omega) (by omega) ?_
              refine z_aload_n C 0 dL_sets_291 rfl rfl ?_
              refine z_iload_n C 1 dL_sets_292 rfl rfl ?_
              refine z_iload C dL_sets_293 rfl ?_
              refine z_iload C dL_sets_295 rfl ?_
              refine z_sipush C (nI 10000) dL_sets_297 (by decide) ?_
              refine z_callV (wn := (WRd X.2.1 x0 h0 h1 w0 w1 t r S1 o2 kp2 Q2 tx ln ps)) C kX5_set gL_sets_X5_set m2 dL_sets_300 [0, 1, 2, 3, 4, 5, 6, 7, 8, 9, 10, 11, 12, 13, 14, 15, 16, 17, 18, 19, 20, 21, 22, 23, 24, 25, 26, 27, 28, 29, 30, 31, 32, 33, 34, 35, 36, 37, 38, 39, 40, 41, 42, 43, 44, 45, 46, 47, 48, 49, 50] [] 0 rfl rfl nd_0_1_2_3_4_5_6_7_8_9_10_11_12_13_14_15_16_17_18_19_20_21_22_23_24_25_26_27_28_29_30_31_32_33_34_35_36_37_38_39_40_41_42_43_44_45_46_47_48_49_50 rfl rfl rfl (by decide) (by decide) (Nat.le_of_ble_eq_true rfl) rfl ((zput_par nd_0_1_2_3_4_5_6_7_8_9_10_11_12_13_14_15_16_17_18_19_20_21_22_23_24_25_26_27_28_29_30_31_32_33_34_35_36_37_38_39_40_41_42_43_44_45_46_47_48_49_50 rfl).trans rfl) ?_
              refine z_bipush C (-2) dL_sets_303 (by decide) ?_
              refine z_icmp_eq_t C 310 dL_sets_305 (by decide) rfl ?_
              refine z_iload C dL_sets_310 rfl ?_
              refine z_nif_ge_t C 336 dL_sets_312 (by decide) (by omega) (by trivial) ?_
              refine z_iload C dL_sets_336 rfl ?_
              refine z_nif_ne_f C 345 dL_sets_338 (by decide) (by omega) (by omega) ?_
              refine z_iconst C (nI 0) dL_sets_341 (by decide) ?_
              refine z_goto C 371 dL_sets_342 (by decide) ?_
              refine z_istore C dL_sets_371 (Nat.le_of_ble_eq_true rfl) ?_
              refine z_lv (lv' := [some (.ref x0), some (.int (nI au)), some (.int g), some (.int h), some (.int (nI (uU S 0))), some (.int (nI (uU S 1))), some (.int (nI rr)), some (.int (nI cc)), some (.int (nI v)), some (.int (nI (mK S))), some (.int (nI 0)), some (.int (nI (kS S rr cc))), some (.int (nI (sX S rr cc ((kS S rr cc) - 1)))), some (.int (nI 1)), some (.int (nI 0)), some (.int (nI 0)), some (.int (nI 1000)), some (.int (nI 0))]) rfl ?_
              refine z_aload_n C 0 dL_sets_373 rfl rfl ?_
              refine z_iconst C (nI 0) dL_sets_374 (by decide) ?_
              refine z_iload C dL_sets_375 rfl ?_
              refine z_iload C dL_sets_377 rfl ?_
              refine z_callVr C kX5_cell gL_sets_X5_cell (l_cell0 X.2.1 x0 h0 w0 t S1 rr cc hG1 (by omega) (by omega)) dL_sets_379 [0, 1, 2, 3, 4, 5, 6, 7, 8] [] 0 rfl nd_0_1_2_3_4_5_6_7_8 rfl rfl rfl (by decide) (by decide) (Nat.le_of_ble_eq_true rfl) rfl ?_
              refine z_iload C dL_sets_382 rfl ?_
              refine z_icmp_ne_f C 426 dL_sets_384 (by decide) hc1 ?_
              refine z_aload_n C 0 dL_sets_387 rfl rfl ?_
              refine z_iload C dL_sets_388 rfl ?_
              refine z_iload C dL_sets_390 rfl ?_
              refine z_iload C dL_sets_392 rfl ?_
              refine z_callVr C kX5_setting gL_sets_X5_setting (l_setN X.2.1 x0 h0 w0 t S1 rr cc 0 hG1 (by omega) (by omega) (by omega) (by decide)) dL_sets_394 [0, 1, 2, 3, 4, 5, 6, 7, 8] [] 0 rfl nd_0_1_2_3_4_5_6_7_8 rfl rfl rfl (by decide) (by decide) (Nat.le_of_ble_eq_true rfl) rfl ?_
              refine z_bipush C (-5) dL_sets_397 (by decide) ?_
              refine z_icmp_ne_f C 426 dL_sets_399 (by decide) rfl ?_
              refine z_iload C dL_sets_402 rfl ?_
              refine z_nif_eq_t C 422 dL_sets_404 (by decide) (by omega) (by omega) ?_
              refine z_iconst C (nI 1) dL_sets_422 (by decide) ?_
              refine z_goto C 427 dL_sets_423 (by decide) ?_
              exact z_zret C N dL_sets_427 rfl (rfl) (rfl)
            · refine z_iconst C (nI 1) dL_sets_221 (by decide) ?_
              refine z_goto C 226 dL_sets_222 (by decide) ?_
              refine z_istore C dL_sets_226 (Nat.le_of_ble_eq_true rfl) ?_
              refine z_lv (lv' := [some (.ref x0), some (.int (nI au)), some (.int g), some (.int h), some (.int (nI (uU S 0))), some (.int (nI (uU S 1))), some (.int (nI rr)), some (.int (nI cc)), some (.int (nI v)), some (.int (nI (mK S))), some (.int (nI 0)), some (.int (nI (kS S rr cc))), some (.int (nI (sX S rr cc ((kS S rr cc) - 1)))), some (.int (nI 1)), some (.int (nI 0)), some (.int (nI 1)), none, none]) rfl ?_
              refine z_iload C dL_sets_228 rfl ?_
              refine z_nif_eq_t C 238 dL_sets_230 (by decide) (by omega) (by omega) ?_
              refine z_iload C dL_sets_238 rfl ?_
              refine z_nif_ne_f C 249 dL_sets_240 (by decide) (by omega) (by omega) ?_
              refine z_sipush C (nI 1000) dL_sets_243 (by decide) ?_
              refine z_goto C 273 dL_sets_246 (by decide) ?_
              refine z_istore C dL_sets_273 (Nat.le_of_ble_eq_true rfl) ?_
              refine z_lv (lv' := [some (.ref x0), some (.int (nI au)), some (.int g), some (.int h), some (.int (nI (uU S 0))), some (.int (nI (uU S 1))), some (.int (nI rr)), some (.int (nI cc)), some (.int (nI v)), some (.int (nI (mK S))), some (.int (nI 0)), some (.int (nI (kS S rr cc))), some (.int (nI (sX S rr cc ((kS S rr cc) - 1)))), some (.int (nI 1)), some (.int (nI 0)), some (.int (nI 1)), some (.int (nI 1000)), none]) rfl ?_
              refine z_aload_n C 0 dL_sets_275 rfl rfl ?_
              refine z_iload_n C 1 dL_sets_276 rfl rfl ?_
              refine z_iload C dL_sets_277 rfl ?_
              refine z_iload C dL_sets_279 rfl ?_
              refine z_iload C dL_sets_281 rfl ?_
              refine z_callV (wn := (WRd X.2.1 x0 h0 h1 w0 w1 t r S1 o1 kp1 Q1 tx ln ps)) C kX5_set gL_sets_X5_set m1 dL_sets_283 [0, 1, 2, 3, 4, 5, 6, 7, 8, 9, 10, 11, 12, 13, 14, 15, 16, 17, 18, 19, 20, 21, 22, 23, 24, 25, 26, 27, 28, 29, 30, 31, 32, 33, 34, 35, 36, 37, 38, 39, 40, 41, 42, 43, 44, 45, 46, 47, 48, 49, 50] [] 0 rfl rfl nd_0_1_2_3_4_5_6_7_8_9_10_11_12_13_14_15_16_17_18_19_20_21_22_23_24_25_26_27_28_29_30_31_32_33_34_35_36_37_38_39_40_41_42_43_44_45_46_47_48_49_50 rfl rfl rfl (by decide) (by decide) (Nat.le_of_ble_eq_true rfl) rfl ((zput_par nd_0_1_2_3_4_5_6_7_8_9_10_11_12_13_14_15_16_17_18_19_20_21_22_23_24_25_26_27_28_29_30_31_32_33_34_35_36_37_38_39_40_41_42_43_44_45_46_47_48_49_50 rfl).trans rfl) ?_
              refine z_iload C dL_sets_286 rfl ?_
              refine z_ncmp_ne_f C 308 dL_sets_288 (by decide) (by omega) (by omega) (by omega) ?_
              refine z_aload_n C 0 dL_sets_291 rfl rfl ?_
              refine z_iload_n C 1 dL_sets_292 rfl rfl ?_
              refine z_iload C dL_sets_293 rfl ?_
              refine z_iload C dL_sets_295 rfl ?_
              refine z_sipush C (nI 10000) dL_sets_297 (by decide) ?_
              refine z_callV (wn := (WRd X.2.1 x0 h0 h1 w0 w1 t r S1 o2 kp2 Q2 tx ln ps)) C kX5_set gL_sets_X5_set m2 dL_sets_300 [0, 1, 2, 3, 4, 5, 6, 7, 8, 9, 10, 11, 12, 13, 14, 15, 16, 17, 18, 19, 20, 21, 22, 23, 24, 25, 26, 27, 28, 29, 30, 31, 32, 33, 34, 35, 36, 37, 38, 39, 40, 41, 42, 43, 44, 45, 46, 47, 48, 49, 50] [] 0 rfl rfl nd_0_1_2_3_4_5_6_7_8_9_10_11_12_13_14_15_16_17_18_19_20_21_22_23_24_25_26_27_28_29_30_31_32_33_34_35_36_37_38_39_40_41_42_43_44_45_46_47_48_49_50 rfl rfl rfl (by decide) (by decide) (Nat.le_of_ble_eq_true rfl) rfl ((zput_par nd_0_1_2_3_4_5_6_7_8_9_10_11_12_13_14_15_16_17_18_19_20_21_22_23_24_25_26_27_28_29_30_31_32_33_34_35_36_37_38_39_40_41_42_43_44_45_46_47_48_49_50 rfl).trans rfl) ?_
              refine z_bipush C (-2) dL_sets_303 (by decide) ?_
              refine z_icmp_eq_t C 310 dL_sets_305 (by decide) rfl ?_
              refine z_iload C dL_sets_310 rfl ?_
              refine z_nif_ge_t C 336 dL_sets_312 (by decide) (by omega) (by trivial) ?_
              refine z_iload C dL_sets_336 rfl ?_
              refine z_nif_ne_f C 345 dL_sets_338 (by decide) (by omega) (by omega) ?_
              refine z_iconst C (nI 0) dL_sets_341 (by decide) ?_
              refine z_goto C 371 dL_sets_342 (by decide) ?_
              refine z_istore C dL_sets_371 (Nat.le_of_ble_eq_true rfl) ?_
              refine z_lv (lv' := [some (.ref x0), some (.int (nI au)), some (.int g), some (.int h), some (.int (nI (uU S 0))), some (.int (nI (uU S 1))), some (.int (nI rr)), some (.int (nI cc)), some (.int (nI v)), some (.int (nI (mK S))), some (.int (nI 0)), some (.int (nI (kS S rr cc))), some (.int (nI (sX S rr cc ((kS S rr cc) - 1)))), some (.int (nI 1)), some (.int (nI 0)), some (.int (nI 1)), some (.int (nI 1000)), some (.int (nI 0))]) rfl ?_
              refine z_aload_n C 0 dL_sets_373 rfl rfl ?_
              refine z_iconst C (nI 0) dL_sets_374 (by decide) ?_
              refine z_iload C dL_sets_375 rfl ?_
              refine z_iload C dL_sets_377 rfl ?_
              refine z_callVr C kX5_cell gL_sets_X5_cell (l_cell0 X.2.1 x0 h0 w0 t S1 rr cc hG1 (by omega) (by omega)) dL_sets_379 [0, 1, 2, 3, 4, 5, 6, 7, 8] [] 0 rfl nd_0_1_2_3_4_5_6_7_8 rfl rfl rfl (by decide) (by decide) (Nat.le_of_ble_eq_true rfl) rfl ?_
              refine z_iload C dL_sets_382 rfl ?_
              refine z_icmp_ne_f C 426 dL_sets_384 (by decide) hc1 ?_
              refine z_aload_n C 0 dL_sets_387 rfl rfl ?_
              refine z_iload C dL_sets_388 rfl ?_
              refine z_iload C dL_sets_390 rfl ?_
              refine z_iload C dL_sets_392 rfl ?_
              refine z_callVr C kX5_setting gL_sets_X5_setting (l_setN X.2.1 x0 h0 w0 t S1 rr cc 0 hG1 (by omega) (by omega) (by omega) (by decide)) dL_sets_394 [0, 1, 2, 3, 4, 5, 6, 7, 8] [] 0 rfl nd_0_1_2_3_4_5_6_7_8 rfl rfl rfl (by decide) (by decide) (Nat.le_of_ble_eq_true rfl) rfl ?_
              refine z_bipush C (-5) dL_sets_397 (by decide) ?_
              refine z_icmp_ne_f C 426 dL_sets_399 (by decide) rfl ?_
              refine z_iload C dL_sets_402 rfl ?_
              refine z_nif_eq_t C 422 dL_sets_404 (by decide) (by omega) (by omega) ?_
              refine z_iconst C (nI 1) dL_sets_422 (by decide) ?_
              refine z_goto C 427 dL_sets_423 (by decide) ?_
              exact z_zret C N dL_sets_427 rfl (rfl) (rfl)
        · refine z_iconst C (-1) dL_sets_119 (by decide) ?_
          refine z_goto C 135 dL_sets_120 (by decide) ?_
          refine z_istore C dL_sets_135 (Nat.le_of_ble_eq_true rfl) ?_
          refine z_lv (lv' := [some (.ref x0), some (.int (nI au)), some (.int g), some (.int h), some (.int (nI (uU S 0))), some (.int (nI (uU S 1))), some (.int (nI rr)), some (.int (nI cc)), some (.int (nI v)), some (.int (nI (mK S))), some (.int (nI 0)), some (.int (nI (kS S rr cc))), some (.int (-1)), none, none, none, none, none]) rfl ?_
          refine z_iload C dL_sets_137 rfl ?_
          refine z_if_lt_t C 157 dL_sets_139 (by decide) (by decide) ?_
          refine z_iconst C (nI 0) dL_sets_157 (by decide) ?_
          refine z_istore C dL_sets_158 (Nat.le_of_ble_eq_true rfl) ?_
          refine z_lv (lv' := [some (.ref x0), some (.int (nI au)), some (.int g), some (.int h), some (.int (nI (uU S 0))), some (.int (nI (uU S 1))), some (.int (nI rr)), some (.int (nI cc)), some (.int (nI v)), some (.int (nI (mK S))), some (.int (nI 0)), some (.int (nI (kS S rr cc))), some (.int (-1)), some (.int (nI 0)), none, none, none, none]) rfl ?_
          refine z_aload_n C 0 dL_sets_160 rfl rfl ?_
          refine z_iconst C (nI 0) dL_sets_161 (by decide) ?_
          refine z_iload C dL_sets_162 rfl ?_
          refine z_iconst C (nI 1) dL_sets_164 (by decide) ?_
          refine z_callVr C kX5_line gL_sets_X5_line (l_line1n X.2.1 x0 h0 w0 t S 0 rr hG (by decide) hr hD0) dL_sets_165 [0, 1, 2, 3, 4, 5, 6, 7, 8] [] 0 rfl nd_0_1_2_3_4_5_6_7_8 rfl rfl rfl (by decide) (by decide) (Nat.le_of_ble_eq_true rfl) rfl ?_
          refine z_if_ge_f C 196 dL_sets_168 (by decide) (by decide) ?_
          refine z_aload_n C 0 dL_sets_171 rfl rfl ?_
          refine z_iconst C (nI 1) dL_sets_172 (by decide) ?_
          refine z_iload C dL_sets_173 rfl ?_
          refine z_iconst C (nI 1) dL_sets_175 (by decide) ?_
          refine z_callVr C kX5_line gL_sets_X5_line (l_line1n X.2.1 x0 h0 w0 t S 1 cc hG (by decide) hc hD1) dL_sets_176 [0, 1, 2, 3, 4, 5, 6, 7, 8] [] 0 rfl nd_0_1_2_3_4_5_6_7_8 rfl rfl rfl (by decide) (by decide) (Nat.le_of_ble_eq_true rfl) rfl ?_
          refine z_if_ge_f C 196 dL_sets_179 (by decide) (by decide) ?_
          refine z_aload_n C 0 dL_sets_182 rfl rfl ?_
          refine z_iconst C (nI 0) dL_sets_183 (by decide) ?_
          refine z_iload C dL_sets_184 rfl ?_
          refine z_iload C dL_sets_186 rfl ?_
          refine z_callVr C kX5_cell gL_sets_X5_cell (l_cell0 X.2.1 x0 h0 w0 t S rr cc hG hr hc) dL_sets_188 [0, 1, 2, 3, 4, 5, 6, 7, 8] [] 0 rfl nd_0_1_2_3_4_5_6_7_8 rfl rfl rfl (by decide) (by decide) (Nat.le_of_ble_eq_true rfl) rfl ?_
          refine z_iload C dL_sets_191 rfl ?_
          refine z_icmp_ne_t C 200 dL_sets_193 (by decide) hne ?_
          refine z_iconst C (nI 0) dL_sets_200 (by decide) ?_
          refine z_istore C dL_sets_201 (Nat.le_of_ble_eq_true rfl) ?_
          refine z_lv (lv' := [some (.ref x0), some (.int (nI au)), some (.int g), some (.int h), some (.int (nI (uU S 0))), some (.int (nI (uU S 1))), some (.int (nI rr)), some (.int (nI cc)), some (.int (nI v)), some (.int (nI (mK S))), some (.int (nI 0)), some (.int (nI (kS S rr cc))), some (.int (-1)), some (.int (nI 0)), some (.int (nI 0)), none, none, none]) rfl ?_
          refine z_iload C dL_sets_203 rfl ?_
          refine z_nif_eq_t C 225 dL_sets_205 (by decide) (by omega) (by omega) ?_
          refine z_iconst C (nI 0) dL_sets_225 (by decide) ?_
          refine z_istore C dL_sets_226 (Nat.le_of_ble_eq_true rfl) ?_
          refine z_lv (lv' := [some (.ref x0), some (.int (nI au)), some (.int g), some (.int h), some (.int (nI (uU S 0))), some (.int (nI (uU S 1))), some (.int (nI rr)), some (.int (nI cc)), some (.int (nI v)), some (.int (nI (mK S))), some (.int (nI 0)), some (.int (nI (kS S rr cc))), some (.int (-1)), some (.int (nI 0)), some (.int (nI 0)), some (.int (nI 0)), none, none]) rfl ?_
          refine z_iload C dL_sets_228 rfl ?_
          refine z_nif_eq_t C 238 dL_sets_230 (by decide) (by omega) (by omega) ?_
          refine z_iload C dL_sets_238 rfl ?_
          refine z_nif_ne_f C 249 dL_sets_240 (by decide) (by omega) (by omega) ?_
          refine z_sipush C (nI 1000) dL_sets_243 (by decide) ?_
          refine z_goto C 273 dL_sets_246 (by decide) ?_
          refine z_istore C dL_sets_273 (Nat.le_of_ble_eq_true rfl) ?_
          refine z_lv (lv' := [some (.ref x0), some (.int (nI au)), some (.int g), some (.int h), some (.int (nI (uU S 0))), some (.int (nI (uU S 1))), some (.int (nI rr)), some (.int (nI cc)), some (.int (nI v)), some (.int (nI (mK S))), some (.int (nI 0)), some (.int (nI (kS S rr cc))), some (.int (-1)), some (.int (nI 0)), some (.int (nI 0)), some (.int (nI 0)), some (.int (nI 1000)), none]) rfl ?_
          refine z_aload_n C 0 dL_sets_275 rfl rfl ?_
          refine z_iload_n C 1 dL_sets_276 rfl rfl ?_
          refine z_iload C dL_sets_277 rfl ?_
          refine z_iload C dL_sets_279 rfl ?_
          refine z_iload C dL_sets_281 rfl ?_
          refine z_callV (wn := (WRd X.2.1 x0 h0 h1 w0 w1 t r S1 o1 kp1 Q1 tx ln ps)) C kX5_set gL_sets_X5_set m1 dL_sets_283 [0, 1, 2, 3, 4, 5, 6, 7, 8, 9, 10, 11, 12, 13, 14, 15, 16, 17, 18, 19, 20, 21, 22, 23, 24, 25, 26, 27, 28, 29, 30, 31, 32, 33, 34, 35, 36, 37, 38, 39, 40, 41, 42, 43, 44, 45, 46, 47, 48, 49, 50] [] 0 rfl rfl nd_0_1_2_3_4_5_6_7_8_9_10_11_12_13_14_15_16_17_18_19_20_21_22_23_24_25_26_27_28_29_30_31_32_33_34_35_36_37_38_39_40_41_42_43_44_45_46_47_48_49_50 rfl rfl rfl (by decide) (by decide) (Nat.le_of_ble_eq_true rfl) rfl ((zput_par nd_0_1_2_3_4_5_6_7_8_9_10_11_12_13_14_15_16_17_18_19_20_21_22_23_24_25_26_27_28_29_30_31_32_33_34_35_36_37_38_39_40_41_42_43_44_45_46_47_48_49_50 rfl).trans rfl) ?_
          refine z_iload C dL_sets_286 rfl ?_
          refine z_ncmp_ne_f C 308 dL_sets_288 (by decide) (by omega) (by omega) (by omega) ?_
          refine z_aload_n C 0 dL_sets_291 rfl rfl ?_
          refine z_iload_n C 1 dL_sets_292 rfl rfl ?_
          refine z_iload C dL_sets_293 rfl ?_
          refine z_iload C dL_sets_295 rfl ?_
          refine z_sipush C (nI 10000) dL_sets_297 (by decide) ?_
          refine z_callV (wn := (WRd X.2.1 x0 h0 h1 w0 w1 t r S1 o2 kp2 Q2 tx ln ps)) C kX5_set gL_sets_X5_set m2 dL_sets_300 [0, 1, 2, 3, 4, 5, 6, 7, 8, 9, 10, 11, 12, 13, 14, 15, 16, 17, 18, 19, 20, 21, 22, 23, 24, 25, 26, 27, 28, 29, 30, 31, 32, 33, 34, 35, 36, 37, 38, 39, 40, 41, 42, 43, 44, 45, 46, 47, 48, 49, 50] [] 0 rfl rfl nd_0_1_2_3_4_5_6_7_8_9_10_11_12_13_14_15_16_17_18_19_20_21_22_23_24_25_26_27_28_29_30_31_32_33_34_35_36_37_38_39_40_41_42_43_44_45_46_47_48_49_50 rfl rfl rfl (by decide) (by decide) (Nat.le_of_ble_eq_true rfl) rfl ((zput_par nd_0_1_2_3_4_5_6_7_8_9_10_11_12_13_14_15_16_17_18_19_20_21_22_23_24_25_26_27_28_29_30_31_32_33_34_35_36_37_38_39_40_41_42_43_44_45_46_47_48_49_50 rfl).trans rfl) ?_
          refine z_bipush C (-2) dL_sets_303 (by decide) ?_
          refine z_icmp_eq_t C 310 dL_sets_305 (by decide) rfl ?_
          refine z_iload C dL_sets_310 rfl ?_
          refine z_nif_ge_t C 336 dL_sets_312 (by decide) (by omega) (by trivial) ?_
          refine z_iload C dL_sets_336 rfl ?_
          refine z_nif_ne_f C 345 dL_sets_338 (by decide) (by omega) (by omega) ?_
          refine z_iconst C (nI 0) dL_sets_341 (by decide) ?_
          refine z_goto C 371 dL_sets_342 (by decide) ?_
          refine z_istore C dL_sets_371 (Nat.le_of_ble_eq_true rfl) ?_
          refine z_lv (lv' := [some (.ref x0), some (.int (nI au)), some (.int g), some (.int h), some (.int (nI (uU S 0))), some (.int (nI (uU S 1))), some (.int (nI rr)), some (.int (nI cc)), some (.int (nI v)), some (.int (nI (mK S))), some (.int (nI 0)), some (.int (nI (kS S rr cc))), some (.int (-1)), some (.int (nI 0)), some (.int (nI 0)), some (.int (nI 0)), some (.int (nI 1000)), some (.int (nI 0))]) rfl ?_
          refine z_aload_n C 0 dL_sets_373 rfl rfl ?_
          refine z_iconst C (nI 0) dL_sets_374 (by decide) ?_
          refine z_iload C dL_sets_375 rfl ?_
          refine z_iload C dL_sets_377 rfl ?_
          refine z_callVr C kX5_cell gL_sets_X5_cell (l_cell0 X.2.1 x0 h0 w0 t S1 rr cc hG1 (by omega) (by omega)) dL_sets_379 [0, 1, 2, 3, 4, 5, 6, 7, 8] [] 0 rfl nd_0_1_2_3_4_5_6_7_8 rfl rfl rfl (by decide) (by decide) (Nat.le_of_ble_eq_true rfl) rfl ?_
          refine z_iload C dL_sets_382 rfl ?_
          refine z_icmp_ne_f C 426 dL_sets_384 (by decide) hc1 ?_
          refine z_aload_n C 0 dL_sets_387 rfl rfl ?_
          refine z_iload C dL_sets_388 rfl ?_
          refine z_iload C dL_sets_390 rfl ?_
          refine z_iload C dL_sets_392 rfl ?_
          refine z_callVr C kX5_setting gL_sets_X5_setting (l_setN X.2.1 x0 h0 w0 t S1 rr cc 0 hG1 (by omega) (by omega) (by omega) (by decide)) dL_sets_394 [0, 1, 2, 3, 4, 5, 6, 7, 8] [] 0 rfl nd_0_1_2_3_4_5_6_7_8 rfl rfl rfl (by decide) (by decide) (Nat.le_of_ble_eq_true rfl) rfl ?_
          refine z_bipush C (-5) dL_sets_397 (by decide) ?_
          refine z_icmp_ne_f C 426 dL_sets_399 (by decide) rfl ?_
          refine z_iload C dL_sets_402 rfl ?_
          refine z_nif_eq_t C 422 dL_sets_404 (by decide) (by omega) (by omega) ?_
          refine z_iconst C (nI 1) dL_sets_422 (by decide) ?_
          refine z_goto C 427 dL_sets_423 (by decide) ?_
          exact z_zret C N dL_sets_427 rfl (rfl) (rfl)
  exact hL95 _ 0 rfl (by omega)

set_option maxHeartbeats 4000000 in
set_option maxRecDepth 100000 in
theorem w_setb (E : zE) (x0 h0 h1 w0 w1 : Nat) (t : Nat → Nat) (r : Nat → Nat → Nat) (S S1 : zSt) (o kp kp1 kp2 o1 o2 : Nat) (Q Q1 Q2 : Nat → zSt) (tx : Nat → Nat) (ln : Nat) (ps : zPs) {B B1 : Nat} (au : Nat) (g h : Int32) (rr cc v : Nat) (hG : GG S B) (hG1 : GG S1 B1) (hau : au < 4) (hR : lw g (uU S 0) = rr) (hr : rr < uU S 0) (hC : lw (g >>> (nI 4 &&& 31)) (uU S 1) = cc) (hc : cc < uU S 1) (hV : lw h 5 = v) (hv : v < 5) (hD0 : Dm S 0 rr = false) (hD1 : Dm S 1 cc = false) (hne : ¬ cV S rr cc = nI v) (hu0 : uU S1 0 = uU S 0) (hu1 : uU S1 1 = uU S 1) (hc1 : cV S1 rr cc = nI v) (ht : tK S = true) (hk0 : 0 < kS S rr cc) (how : aN S (sX S rr cc (kS S rr cc - 1)) = au) (hbk : bN S (sX S rr cc (kS S rr cc - 1)) = v) (hk : kS S1 rr cc + 1 = kS S rr cc) (m1 : zM E yX5_set wsX5_set 6 [.ref x0, .int (nI au), .int (nI rr), .int (nI cc), .int (nI v)] (WAd E x0 h0 h1 w0 t r S o kp Q) (WAd E x0 h0 h1 w0 t r S1 o1 kp1 Q1) (some (.int (nI (sX S rr cc (kS S rr cc - 1)))))) (m2 : zM E yX5_set wsX5_set 6 [.ref x0, .int (nI au), .int (nI rr), .int (nI cc), .int (nI 10000)] (WAd E x0 h0 h1 w0 t r S1 o1 kp1 Q1) (WAd E x0 h0 h1 w0 t r S1 o2 kp2 Q2) (some (.int (-2)))) : zM E yL_sets wsL_sets 7 [.ref x0, .int (nI au), .int g, .int h] (WRd E x0 h0 h1 w0 w1 t r S o kp Q tx ln ps) (WRd E x0 h0 h1 w0 w1 t r S1 o2 kp2 Q2 tx ln ps) (some (.int (nI 1))) := by
  refine zM.of kL_sets (Nat.le_of_ble_eq_true rfl) rfl [some (.ref x0), some (.int (nI au)), some (.int g), some (.int h), none, none, none, none, none, none, none, none, none, none, none, none, none, none] rfl (Nat.le_of_ble_eq_true rfl) ?_
  intro X eX C N
  subst eX
  have hb0 : uU S 0 ≤ 12 := gg_u hG 0
  have hb1 : uU S 1 ≤ 8 := gg_u1 hG
  have hb2 : mK S ≤ 60 := gg_M hG
  have hb3 : uU S1 0 ≤ 12 := gg_u hG1 0
  have hb4 : uU S1 1 ≤ 8 := gg_u1 hG1
  have hb5 : mK S1 ≤ 60 := gg_M hG1
  have hks : kS S rr cc ≤ mK S := zc_le _ _
  refine z_aload_n C 0 dL_sets_0 rfl rfl ?_
  refine z_iconst C (nI 0) dL_sets_1 (by decide) ?_
  refine z_iconst C (nI 0) dL_sets_2 (by decide) ?_
  refine z_callVr C kX5_size gL_sets_X5_size (l_size0 X.2.1 x0 h0 w0 t S 0 hG (by decide)) dL_sets_3 [0, 1, 2, 3, 4, 5, 6, 7, 8] [] 0 rfl nd_0_1_2_3_4_5_6_7_8 rfl rfl rfl (by decide) (by decide) (Nat.le_of_ble_eq_true rfl) rfl ?_
  refine z_istore C dL_sets_6 (Nat.le_of_ble_eq_true rfl) ?_
  refine z_lv (lv' := [some (.ref x0), some (.int (nI au)), some (.int g), some (.int h), some (.int (nI (uU S 0))), none, none, none, none, none, none, none, none, none, none, none, none, none]) rfl ?_
  refine z_aload_n C 0 dL_sets_8 rfl rfl ?_
  refine z_iconst C (nI 0) dL_sets_9 (by decide) ?_
  refine z_iconst C (nI 1) dL_sets_10 (by decide) ?_
  refine z_callVr C kX5_size gL_sets_X5_size (l_size0 X.2.1 x0 h0 w0 t S 1 hG (by decide)) dL_sets_11 [0, 1, 2, 3, 4, 5, 6, 7, 8] [] 0 rfl nd_0_1_2_3_4_5_6_7_8 rfl rfl rfl (by decide) (by decide) (Nat.le_of_ble_eq_true rfl) rfl ?_
  refine z_istore C dL_sets_14 (Nat.le_of_ble_eq_true rfl) ?_
  refine z_lv (lv' := [some (.ref x0), some (.int (nI au)), some (.int g), some (.int h), some (.int (nI (uU S 0))), some (.int (nI (uU S 1))), none, none, none, none, none, none, none, none, none, none, none, none]) rfl ?_
  refine z_iload C dL_sets_16 rfl ?_
  refine z_nif_eq_f C 26 dL_sets_18 (by decide) (by omega) (by omega) ?_
  refine z_iload C dL_sets_21 rfl ?_
  refine z_nif_ne_t C 44 dL_sets_23 (by decide) (by omega) (by omega) ?_
  refine z_iload_n C 2 dL_sets_44 rfl rfl ?_
  refine z_iload C dL_sets_45 rfl ?_
  refine z_callS C kL_low gL_sets_L_low (l_low X.2.1 g (uU S 0) (by omega) (by omega)) dL_sets_47 [] rfl (by decide) (by decide) (Nat.le_of_ble_eq_true rfl) rfl ?_
  refine z_top (y := nI rr) (congrArg nI hR) ?_
  refine z_istore C dL_sets_50 (Nat.le_of_ble_eq_true rfl) ?_
  refine z_lv (lv' := [some (.ref x0), some (.int (nI au)), some (.int g), some (.int h), some (.int (nI (uU S 0))), some (.int (nI (uU S 1))), some (.int (nI rr)), none, none, none, none, none, none, none, none, none, none, none]) rfl ?_
  refine z_iload_n C 2 dL_sets_52 rfl rfl ?_
  refine z_iconst C (nI 4) dL_sets_53 (by decide) ?_
  refine z_ishr C dL_sets_54 ?_
  refine z_iload C dL_sets_55 rfl ?_
  refine z_callS C kL_low gL_sets_L_low (l_low X.2.1 (g >>> ((nI 4) &&& 31)) (uU S 1) (by omega) (by omega)) dL_sets_57 [] rfl (by decide) (by decide) (Nat.le_of_ble_eq_true rfl) rfl ?_
  refine z_top (y := nI cc) (congrArg nI hC) ?_
  refine z_istore C dL_sets_60 (Nat.le_of_ble_eq_true rfl) ?_
  refine z_lv (lv' := [some (.ref x0), some (.int (nI au)), some (.int g), some (.int h), some (.int (nI (uU S 0))), some (.int (nI (uU S 1))), some (.int (nI rr)), some (.int (nI cc)), none, none, none, none, none, none, none, none, none, none]) rfl ?_
  refine z_iload_n C 3 dL_sets_62 rfl rfl ?_
  refine z_iconst C (nI 5) dL_sets_63 (by decide) ?_
  refine z_callS C kL_low gL_sets_L_low (l_low X.2.1 h 5 (by decide) (by decide)) dL_sets_64 [] rfl (by decide) (by decide) (Nat.le_of_ble_eq_true rfl) rfl ?_
  refine z_top (y := nI v) (congrArg nI hV) ?_
  refine z_istore C dL_sets_67 (Nat.le_of_ble_eq_true rfl) ?_
  refine z_lv (lv' := [some (.ref x0), some (.int (nI au)), some (.int g), some (.int h), some (.int (nI (uU S 0))), some (.int (nI (uU S 1))), some (.int (nI rr)), some (.int (nI cc)), some (.int (nI v)), none, none, none, none, none, none, none, none, none]) rfl ?_
  refine z_aload_n C 0 dL_sets_69 rfl rfl ?_
  refine z_iconst C (nI 0) dL_sets_70 (by decide) ?_
  refine z_callVr C kX5_count gL_sets_X5_count (l_cnt0 X.2.1 x0 h0 h1 w0 w1 t S o kp ln ps  hG ) dL_sets_71 [0, 1, 2, 3, 4, 5, 6, 7, 8, 9, 51] [] 0 rfl nd_0_1_2_3_4_5_6_7_8_9_51 rfl rfl rfl (by decide) (by decide) (Nat.le_of_ble_eq_true rfl) rfl ?_
  refine z_istore C dL_sets_74 (Nat.le_of_ble_eq_true rfl) ?_
  refine z_lv (lv' := [some (.ref x0), some (.int (nI au)), some (.int g), some (.int h), some (.int (nI (uU S 0))), some (.int (nI (uU S 1))), some (.int (nI rr)), some (.int (nI cc)), some (.int (nI v)), some (.int (nI (mK S))), none, none, none, none, none, none, none, none]) rfl ?_
  refine z_aload_n C 0 dL_sets_76 rfl rfl ?_
  refine z_iconst C (nI 5) dL_sets_77 (by decide) ?_
  refine z_callVr C kX5_count gL_sets_X5_count (l_cnt5y X.2.1 x0 h0 h1 w0 w1 t S o kp ln ps  hG ht) dL_sets_78 [0, 1, 2, 3, 4, 5, 6, 7, 8, 9, 51] [] 0 rfl nd_0_1_2_3_4_5_6_7_8_9_51 rfl rfl rfl (by decide) (by decide) (Nat.le_of_ble_eq_true rfl) rfl ?_
  refine z_iconst C (nI 1) dL_sets_81 (by decide) ?_
  refine z_ncmp_ne_f C 89 dL_sets_82 (by decide) (by omega) (by omega) (by omega) ?_
  refine z_iconst C (nI 1) dL_sets_85 (by decide) ?_
  refine z_goto C 90 dL_sets_86 (by decide) ?_
  refine z_istore C dL_sets_90 (Nat.le_of_ble_eq_true rfl) ?_
  refine z_lv (lv' := [some (.ref x0), some (.int (nI au)), some (.int g), some (.int h), some (.int (nI (uU S 0))), some (.int (nI (uU S 1))), some (.int (nI rr)), some (.int (nI cc)), some (.int (nI v)), some (.int (nI (mK S))), some (.int (nI 1)), none, none, none, none, none, none, none]) rfl ?_
  refine z_iconst C (nI 0) dL_sets_92 (by decide) ?_
  refine z_istore C dL_sets_93 (Nat.le_of_ble_eq_true rfl) ?_
  refine z_lv (lv' := [some (.ref x0), some (.int (nI au)), some (.int g), some (.int h), some (.int (nI (uU S 0))), some (.int (nI (uU S 1))), some (.int (nI rr)), some (.int (nI cc)), some (.int (nI v)), some (.int (nI (mK S))), some (.int (nI 1)), some (.int (nI 0)), none, none, none, none, none, none]) rfl ?_
  have hL95 : ∀ (dd95 : Nat) (n : Nat), kS S rr cc - n = dd95 → (n ≤ kS S rr cc) → zG X 0 0 (WRd X.2.1 x0 h0 h1 w0 w1 t r S o kp Q tx ln ps) [some (.ref x0), some (.int (nI au)), some (.int g), some (.int h), some (.int (nI (uU S 0))), some (.int (nI (uU S 1))), some (.int (nI rr)), some (.int (nI cc)), some (.int (nI v)), some (.int (nI (mK S))), some (.int (nI 1)), some (.int (nI n)), none, none, none, none, none, none] [] 95 := by
    intro dd95
    induction dd95 using Nat.strongRecOn with
    | _ dd95 ih95 =>
      intro n hdd95 hn
      refine z_aload_n C 0 dL_sets_95 rfl rfl ?_
      refine z_iload C dL_sets_96 rfl ?_
      refine z_iload C dL_sets_98 rfl ?_
      refine z_iload C dL_sets_100 rfl ?_
      rcases Nat.lt_or_ge (n) (kS S rr cc) with hq_1 | hq_1
      · have fk_2 : sX S rr cc n < mK S := (sX_f hG (by omega) (by omega) hq_1).1
        have fk_3 : kN S (sX S rr cc n) = 4 := (sX_f hG (by omega) (by omega) hq_1).2.1
        have fk_4 : sN S (sX S rr cc n) = 0 := (sX_f hG (by omega) (by omega) hq_1).2.2.1
        refine z_callVr C kX5_setting gL_sets_X5_setting (l_setY X.2.1 x0 h0 w0 t S rr cc n hG hr hc hq_1) dL_sets_102 [0, 1, 2, 3, 4, 5, 6, 7, 8] [] 0 rfl nd_0_1_2_3_4_5_6_7_8 rfl rfl rfl (by decide) (by decide) (Nat.le_of_ble_eq_true rfl) rfl ?_
        have hg_5 : sX S rr cc n < mK S := (sX_t hG (by omega)).1
        refine z_nif_lt_f C 114 dL_sets_105 (by decide) (by omega) (by trivial) ?_
        refine z_iinc C (nI (n + 1)) dL_sets_108 rfl (zi_1 _) ?_
        refine z_lv (lv' := [some (.ref x0), some (.int (nI au)), some (.int g), some (.int h), some (.int (nI (uU S 0))), some (.int (nI (uU S 1))), some (.int (nI rr)), some (.int (nI cc)), some (.int (nI v)), some (.int (nI (mK S))), some (.int (nI 1)), some (.int (nI (n + 1))), none, none, none, none, none, none]) rfl ?_
        refine z_goto C 95 dL_sets_111 (by decide) ?_
        exact ih95 (kS S rr cc - (n + 1)) (by omega) (n + 1) rfl (by omega)
      · refine z_callVr C kX5_setting gL_sets_X5_setting (l_setN X.2.1 x0 h0 w0 t S rr cc n hG hr hc hq_1 (by omega)) dL_sets_102 [0, 1, 2, 3, 4, 5, 6, 7, 8] [] 0 rfl nd_0_1_2_3_4_5_6_7_8 rfl rfl rfl (by decide) (by decide) (Nat.le_of_ble_eq_true rfl) rfl ?_
        refine z_if_lt_t C 114 dL_sets_105 (by decide) (by decide) ?_
        obtain rfl : n = kS S rr cc := (by omega)
        refine z_iload C dL_sets_114 rfl ?_
        refine z_nif_ne_t C 123 dL_sets_116 (by decide) (by omega) (by omega) ?_
        have fq_6 : sX S rr cc (kS S rr cc - 1) < mK S := (sX_f hG hr hc (show kS S rr cc - 1 < kS S rr cc by omega)).1
        have fq_7 : kN S (sX S rr cc (kS S rr cc - 1)) = 4 := (sX_f hG hr hc (show kS S rr cc - 1 < kS S rr cc by omega)).2.1
        have fq_8 : sN S (sX S rr cc (kS S rr cc - 1)) = 0 := (sX_f hG hr hc (show kS S rr cc - 1 < kS S rr cc by omega)).2.2.1
        have fq_9 : aN S (sX S rr cc (kS S rr cc - 1)) < 4 := (aN_e hG (sX_f hG hr hc (show kS S rr cc - 1 < kS S rr cc by omega)).1).2
        have fq_10 : bN S (sX S rr cc (kS S rr cc - 1)) < 10000 := (bN_e hG (sX_f hG hr hc (show kS S rr cc - 1 < kS S rr cc by omega)).1 (sX_f hG hr hc (show kS S rr cc - 1 < kS S rr cc by omega)).2.1 (sX_f hG hr hc (show kS S rr cc - 1 < kS S rr cc by omega)).2.2.1).2
        refine z_aload_n C 0 dL_sets_123 rfl rfl ?_
        refine z_iload C dL_sets_124 rfl ?_
        refine z_iload C dL_sets_126 rfl ?_
        refine z_iload C dL_sets_128 rfl ?_
        refine z_iconst C (nI 1) dL_sets_130 (by decide) ?_
        refine z_isub C dL_sets_131 ?_
        refine z_top (y := nI ((kS S rr cc) - 1)) ((pk_sub (by omega)).trans (congrArg nI (by omega))) ?_
        refine z_callVr C kX5_setting gL_sets_X5_setting (l_setY X.2.1 x0 h0 w0 t S rr cc ((kS S rr cc) - 1) hG hr hc (by omega)) dL_sets_132 [0, 1, 2, 3, 4, 5, 6, 7, 8] [] 0 rfl nd_0_1_2_3_4_5_6_7_8 rfl rfl rfl (by decide) (by decide) (Nat.le_of_ble_eq_true rfl) rfl ?_
        have hg_11 : sX S rr cc ((kS S rr cc) - 1) < mK S := (sX_t hG (by omega)).1
        refine z_istore C dL_sets_135 (Nat.le_of_ble_eq_true rfl) ?_
        refine z_lv (lv' := [some (.ref x0), some (.int (nI au)), some (.int g), some (.int h), some (.int (nI (uU S 0))), some (.int (nI (uU S 1))), some (.int (nI rr)), some (.int (nI cc)), some (.int (nI v)), some (.int (nI (mK S))), some (.int (nI 1)), some (.int (nI (kS S rr cc))), some (.int (nI (sX S rr cc ((kS S rr cc) - 1)))), none, none, none, none, none]) rfl ?_
        refine z_iload C dL_sets_137 rfl ?_
        refine z_nif_lt_f C 157 dL_sets_139 (by decide) (by omega) (by trivial) ?_
        refine z_aload_n C 0 dL_sets_142 rfl rfl ?_
        refine z_iload C dL_sets_143 rfl ?_
        refine z_iconst C (nI 1) dL_sets_145 (by decide) ?_
        refine z_callVr C kX5_change gL_sets_X5_change (l_chg1 X.2.1 x0 h0 w0 t S (sX S rr cc ((kS S rr cc) - 1)) hG fq_6) dL_sets_146 [0, 1, 2, 3, 4, 5, 6, 7, 8] [] 0 rfl nd_0_1_2_3_4_5_6_7_8 rfl rfl rfl (by decide) (by decide) (Nat.le_of_ble_eq_true rfl) rfl ?_
        refine z_iload_n C 1 dL_sets_149 rfl rfl ?_
        refine z_ncmp_ne_f C 157 dL_sets_150 (by decide) (by omega) (by omega) (by omega) ?_
        refine z_iconst C (nI 1) dL_sets_153 (by decide) ?_
        refine z_goto C 158 dL_sets_154 (by decide) ?_
        refine z_istore C dL_sets_158 (Nat.le_of_ble_eq_true rfl) ?_
        refine z_lv (lv' := [some (.ref x0), some (.int (nI au)), some (.int g), some (.int h), some (.int (nI (uU S 0))), some (.int (nI (uU S 1))), some (.int (nI rr)), some (.int (nI cc)), some (.int (nI v)), some (.int (nI (mK S))), some (.int (nI 1)), some (.int (nI (kS S rr cc))), some (.int (nI (sX S rr cc ((kS S rr cc) - 1)))), some (.int (nI 1)), none, none, none, none]) rfl ?_
        refine z_aload_n C 0 dL_sets_160 rfl rfl ?_
        refine z_iconst C (nI 0) dL_sets_161 (by decide) ?_
        refine z_iload C dL_sets_162 rfl ?_
        refine z_iconst C (nI 1) dL_sets_164 (by decide) ?_
        refine z_callVr C kX5_line gL_sets_X5_line (l_line1n X.2.1 x0 h0 w0 t S 0 rr hG (by decide) hr hD0) dL_sets_165 [0, 1, 2, 3, 4, 5, 6, 7, 8] [] 0 rfl nd_0_1_2_3_4_5_6_7_8 rfl rfl rfl (by decide) (by decide) (Nat.le_of_ble_eq_true rfl) rfl ?_
        refine z_if_ge_f C 196 dL_sets_168 (by decide) (by decide) ?_
        refine z_aload_n C 0 dL_sets_171 rfl rfl ?_
        refine z_iconst C (nI 1) dL_sets_172 (by decide) ?_
        refine z_iload C dL_sets_173 rfl ?_
        refine z_iconst C (nI 1) dL_sets_175 (by decide) ?_
        refine z_callVr C kX5_line gL_sets_X5_line (l_line1n X.2.1 x0 h0 w0 t S 1 cc hG (by decide) hc hD1) dL_sets_176 [0, 1, 2, 3, 4, 5, 6, 7, 8] [] 0 rfl nd_0_1_2_3_4_5_6_7_8 rfl rfl rfl (by decide) (by decide) (Nat.le_of_ble_eq_true rfl) rfl ?_
        refine z_if_ge_f C 196 dL_sets_179 (by decide) (by decide) ?_
        refine z_aload_n C 0 dL_sets_182 rfl rfl ?_
        refine z_iconst C (nI 0) dL_sets_183 (by decide) ?_
        refine z_iload C dL_sets_184 rfl ?_
        refine z_iload C dL_sets_186 rfl ?_
        refine z_callVr C kX5_cell gL_sets_X5_cell (l_cell0 X.2.1 x0 h0 w0 t S rr cc hG hr hc) dL_sets_188 [0, 1, 2, 3, 4, 5, 6, 7, 8] [] 0 rfl nd_0_1_2_3_4_5_6_7_8 rfl rfl rfl (by decide) (by decide) (Nat.le_of_ble_eq_true rfl) rfl ?_
        refine z_iload C dL_sets_191 rfl ?_
        refine z_icmp_ne_t C 200 dL_sets_193 (by decide) hne ?_
        refine z_iconst C (nI 0) dL_sets_200 (by decide) ?_
        refine z_istore C dL_sets_201 (Nat.le_of_ble_eq_true rfl) ?_
        refine z_lv (lv' := [some (.ref x0), some (.int (nI au)), some (.int g), some (.int h), some (.int (nI (uU S 0))), some (.int (nI (uU S 1))), some (.int (nI rr)), some (.int (nI cc)), some (.int (nI v)), some (.int (nI (mK S))), some (.int (nI 1)), some (.int (nI (kS S rr cc))), some (.int (nI (sX S rr cc ((kS S rr cc) - 1)))), some (.int (nI 1)), some (.int (nI 0)), none, none, none]) rfl ?_
        refine z_iload C dL_sets_203 rfl ?_
        refine z_nif_eq_f C 225 dL_sets_205 (by decide) (by omega) (by omega) ?_
        refine z_aload_n C 0 dL_sets_208 rfl rfl ?_
        refine z_iload C dL_sets_209 rfl ?_
        refine z_bipush C (nI 6) dL_sets_211 (by decide) ?_
        refine z_callVr C kX5_change gL_sets_X5_change (l_chg6y X.2.1 x0 h0 w0 t S (sX S rr cc ((kS S rr cc) - 1)) hG fq_6 fq_7 fq_8) dL_sets_213 [0, 1, 2, 3, 4, 5, 6, 7, 8] [] 0 rfl nd_0_1_2_3_4_5_6_7_8 rfl rfl rfl (by decide) (by decide) (Nat.le_of_ble_eq_true rfl) rfl ?_
        refine z_iload C dL_sets_216 rfl ?_
        refine z_ncmp_ne_f C 225 dL_sets_218 (by decide) (by omega) (by omega) (by omega) ?_
        refine z_iconst C (nI 1) dL_sets_221 (by decide) ?_
        refine z_goto C 226 dL_sets_222 (by decide) ?_
        refine z_istore C dL_sets_226 (Nat.le_of_ble_eq_true rfl) ?_
        refine z_lv (lv' := [some (.ref x0), some (.int (nI au)), some (.int g), some (.int h), some (.int (nI (uU S 0))), some (.int (nI (uU S 1))), some (.int (nI rr)), some (.int (nI cc)), some (.int (nI v)), some (.int (nI (mK S))), some (.int (nI 1)), some (.int (nI (kS S rr cc))), some (.int (nI (sX S rr cc ((kS S rr cc) - 1)))), some (.int (nI 1)), some (.int (nI 0)), some (.int (nI 1)), none, none]) rfl ?_
        refine z_iload C dL_sets_228 rfl ?_
        refine z_nif_eq_t C 238 dL_sets_230 (by decide) (by omega) (by omega) ?_
        refine z_iload C dL_sets_238 rfl ?_
        refine z_nif_ne_t C 249 dL_sets_240 (by decide) (by omega) (by omega) ?_
        refine z_iload C dL_sets_249 rfl ?_
        refine z_nif_eq_f C 259 dL_sets_251 (by decide) (by omega) (by omega) ?_
        refine z_iload C dL_sets_254 rfl ?_
        refine z_goto C 273 dL_sets_256 (by decide) ?_
        refine z_istore C dL_sets_273 (Nat.le_of_ble_eq_true rfl) ?_
        refine z_lv (lv' := [some (.ref x0), some (.int (nI au)), some (.int g), some (.int h), some (.int (nI (uU S 0))), some (.int (nI (uU S 1))), some (.int (nI rr)), some (.int (nI cc)), some (.int (nI v)), some (.int (nI (mK S))), some (.int (nI 1)), some (.int (nI (kS S rr cc))), some (.int (nI (sX S rr cc ((kS S rr cc) - 1)))), some (.int (nI 1)), some (.int (nI 0)), some (.int (nI 1)), some (.int (nI (sX S rr cc ((kS S rr cc) - 1)))), none]) rfl ?_
        refine z_aload_n C 0 dL_sets_275 rfl rfl ?_
        refine z_iload_n C 1 dL_sets_276 rfl rfl ?_
        refine z_iload C dL_sets_277 rfl ?_
        refine z_iload C dL_sets_279 rfl ?_
        refine z_iload C dL_sets_281 rfl ?_
        refine z_callV (wn := (WRd X.2.1 x0 h0 h1 w0 w1 t r S1 o1 kp1 Q1 tx ln ps)) C kX5_set gL_sets_X5_set m1 dL_sets_283 [0, 1, 2, 3, 4, 5, 6, 7, 8, 9, 10, 11, 12, 13, 14, 15, 16, 17, 18, 19, 20, 21, 22, 23, 24, 25, 26, 27, 28, 29, 30, 31, 32, 33, 34, 35, 36, 37, 38, 39, 40, 41, 42, 43, 44, 45, 46, 47, 48, 49, 50] [] 0 rfl rfl nd_0_1_2_3_4_5_6_7_8_9_10_11_12_13_14_15_16_17_18_19_20_21_22_23_24_25_26_27_28_29_30_31_32_33_34_35_36_37_38_39_40_41_42_43_44_45_46_47_48_49_50 rfl rfl rfl (by decide) (by decide) (Nat.le_of_ble_eq_true rfl) rfl ((zput_par nd_0_1_2_3_4_5_6_7_8_9_10_11_12_13_14_15_16_17_18_19_20_21_22_23_24_25_26_27_28_29_30_31_32_33_34_35_36_37_38_39_40_41_42_43_44_45_46_47_48_49_50 rfl).trans rfl) ?_
        refine z_iload C dL_sets_286 rfl ?_
        refine z_ncmp_ne_f C 308 dL_sets_288 (by decide) (by omega) (by omega) (by omega) ?_
        refine z_aload_n C 0 dL_sets_291 rfl rfl ?_
        refine z_iload_n C 1 dL_sets_292 rfl rfl ?_
        refine z_iload C dL_sets_293 rfl ?_
        refine z_iload C dL_sets_295 rfl ?_
        refine z_sipush C (nI 10000) dL_sets_297 (by decide) ?_
        refine z_callV (wn := (WRd X.2.1 x0 h0 h1 w0 w1 t r S1 o2 kp2 Q2 tx ln ps)) C kX5_set gL_sets_X5_set m2 dL_sets_300 [0, 1, 2, 3, 4, 5, 6, 7, 8, 9, 10, 11, 12, 13, 14, 15, 16, 17, 18, 19, 20, 21, 22, 23, 24, 25, 26, 27, 28, 29, 30, 31, 32, 33, 34, 35, 36, 37, 38, 39, 40, 41, 42, 43, 44, 45, 46, 47, 48, 49, 50] [] 0 rfl rfl nd_0_1_2_3_4_5_6_7_8_9_10_11_12_13_14_15_16_17_18_19_20_21_22_23_24_25_26_27_28_29_30_31_32_33_34_35_36_37_38_39_40_41_42_43_44_45_46_47_48_49_50 rfl rfl rfl (by decide) (by decide) (Nat.le_of_ble_eq_true rfl) rfl ((zput_par nd_0_1_2_3_4_5_6_7_8_9_10_11_12_13_14_15_16_17_18_19_20_21_22_23_24_25_26_27_28_29_30_31_32_33_34_35_36_37_38_39_40_41_42_43_44_45_46_47_48_49_50 rfl).trans rfl) ?_
        refine z_bipush C (-2) dL_sets_303 (by decide) ?_
        refine z_icmp_eq_t C 310 dL_sets_305 (by decide) rfl ?_
        refine z_iload C dL_sets_310 rfl ?_
        refine z_nif_ge_t C 336 dL_sets_312 (by decide) (by omega) (by trivial) ?_
        refine z_iload C dL_sets_336 rfl ?_
        refine z_nif_ne_t C 345 dL_sets_338 (by decide) (by omega) (by omega) ?_
        refine z_iload C dL_sets_345 rfl ?_
        refine z_nif_ne_t C 357 dL_sets_347 (by decide) (by omega) (by omega) ?_
        refine z_iload C dL_sets_357 rfl ?_
        refine z_nif_eq_f C 369 dL_sets_359 (by decide) (by omega) (by omega) ?_
        refine z_iload C dL_sets_362 rfl ?_
        refine z_iconst C (nI 1) dL_sets_364 (by decide) ?_
        refine z_isub C dL_sets_365 ?_
        refine z_top (y := nI ((kS S rr cc) - 1)) ((pk_sub (by omega)).trans (congrArg nI (by omega))) ?_
        refine z_goto C 371 dL_sets_366 (by decide) ?_
        refine z_istore C dL_sets_371 (Nat.le_of_ble_eq_true rfl) ?_
        refine z_lv (lv' := [some (.ref x0), some (.int (nI au)), some (.int g), some (.int h), some (.int (nI (uU S 0))), some (.int (nI (uU S 1))), some (.int (nI rr)), some (.int (nI cc)), some (.int (nI v)), some (.int (nI (mK S))), some (.int (nI 1)), some (.int (nI (kS S rr cc))), some (.int (nI (sX S rr cc ((kS S rr cc) - 1)))), some (.int (nI 1)), some (.int (nI 0)), some (.int (nI 1)), some (.int (nI (sX S rr cc ((kS S rr cc) - 1)))), some (.int (nI ((kS S rr cc) - 1)))]) rfl ?_
        refine z_aload_n C 0 dL_sets_373 rfl rfl ?_
        refine z_iconst C (nI 0) dL_sets_374 (by decide) ?_
        refine z_iload C dL_sets_375 rfl ?_
        refine z_iload C dL_sets_377 rfl ?_
        refine z_callVr C kX5_cell gL_sets_X5_cell (l_cell0 X.2.1 x0 h0 w0 t S1 rr cc hG1 (by omega) (by omega)) dL_sets_379 [0, 1, 2, 3, 4, 5, 6, 7, 8] [] 0 rfl nd_0_1_2_3_4_5_6_7_8 rfl rfl rfl (by decide) (by decide) (Nat.le_of_ble_eq_true rfl) rfl ?_
        refine z_iload C dL_sets_382 rfl ?_
        refine z_icmp_ne_f C 426 dL_sets_384 (by decide) hc1 ?_
        refine z_aload_n C 0 dL_sets_387 rfl rfl ?_
        refine z_iload C dL_sets_388 rfl ?_
        refine z_iload C dL_sets_390 rfl ?_
        refine z_iload C dL_sets_392 rfl ?_
        refine z_callVr C kX5_setting gL_sets_X5_setting (l_setN X.2.1 x0 h0 w0 t S1 rr cc ((kS S rr cc) - 1) hG1 (by omega) (by omega) (by omega) (by omega)) dL_sets_394 [0, 1, 2, 3, 4, 5, 6, 7, 8] [] 0 rfl nd_0_1_2_3_4_5_6_7_8 rfl rfl rfl (by decide) (by decide) (Nat.le_of_ble_eq_true rfl) rfl ?_
        refine z_bipush C (-5) dL_sets_397 (by decide) ?_
        refine z_icmp_ne_f C 426 dL_sets_399 (by decide) rfl ?_
        refine z_iload C dL_sets_402 rfl ?_
        refine z_nif_eq C 422 dL_sets_404 (by decide) (by omega) (fun h_12 => ?_) (fun h_12 => ?_)
        · refine z_iconst C (nI 1) dL_sets_422 (by decide) ?_
          refine z_goto C 427 dL_sets_423 (by decide) ?_
          exact z_zret C N dL_sets_427 rfl (rfl) (rfl)
        · refine z_aload_n C 0 dL_sets_407 rfl rfl ?_
          refine z_iload C dL_sets_408 rfl ?_
          refine z_iload C dL_sets_410 rfl ?_
          refine z_iload C dL_sets_412 rfl ?_
          refine z_iconst C (nI 1) dL_sets_414 (by decide) ?_
          refine z_isub C dL_sets_415 ?_
          refine z_top (y := nI (((kS S rr cc) - 1) - 1)) ((pk_sub (by omega)).trans (congrArg nI (by omega))) ?_
          refine z_callVr C kX5_setting gL_sets_X5_setting (l_setY X.2.1 x0 h0 w0 t S1 rr cc (((kS S rr cc) - 1) - 1) hG1 (by omega) (by omega) (by omega)) dL_sets_416 [0, 1, 2, 3, 4, 5, 6, 7, 8] [] 0 rfl nd_0_1_2_3_4_5_6_7_8 rfl rfl rfl (by decide) (by decide) (Nat.le_of_ble_eq_true rfl) rfl ?_
          have hg_13 : sX S1 rr cc (((kS S rr cc) - 1) - 1) < mK S1 := (sX_t hG1 (by omega)).1
          refine z_nif_lt_f C 426 dL_sets_419 (by decide) (by omega) (by trivial) ?_
          refine z_iconst C (nI 1) dL_sets_422 (by decide) ?_
          refine z_goto C 427 dL_sets_423 (by decide) ?_
          exact z_zret C N dL_sets_427 rfl (rfl) (rfl)
  exact hL95 _ 0 rfl (by omega)

set_option maxHeartbeats 4000000 in
set_option maxRecDepth 100000 in
theorem w_sets (E : zE) (x0 h0 h1 w0 w1 : Nat) (t : Nat → Nat) (r : Nat → Nat → Nat) (S S1 : zSt) (o kp kp1 kp2 o1 o2 : Nat) (Q Q1 Q2 : Nat → zSt) (tx : Nat → Nat) (ln : Nat) (ps : zPs) {B B1 : Nat} (au : Nat) (g h : Int32) (rr cc v : Nat) (hG : GG S B) (hG1 : GG S1 B1) (hau : au < 4) (hR : lw g (uU S 0) = rr) (hr : rr < uU S 0) (hC : lw (g >>> (nI 4 &&& 31)) (uU S 1) = cc) (hc : cc < uU S 1) (hV : lw h 5 = v) (hv : v < 5) (hD0 : Dm S 0 rr = false) (hD1 : Dm S 1 cc = false) (hne : ¬ cV S rr cc = nI v) (hu0 : uU S1 0 = uU S 0) (hu1 : uU S1 1 = uU S 1) (hc1 : cV S1 rr cc = nI v) (ht : tK S = true) (hk0 : 0 < kS S rr cc) (how : aN S (sX S rr cc (kS S rr cc - 1)) = au) (hbk : bN S (sX S rr cc (kS S rr cc - 1)) ≠ v) (hk : kS S1 rr cc = kS S rr cc) (m1 : zM E yX5_set wsX5_set 6 [.ref x0, .int (nI au), .int (nI rr), .int (nI cc), .int (nI v)] (WAd E x0 h0 h1 w0 t r S o kp Q) (WAd E x0 h0 h1 w0 t r S1 o1 kp1 Q1) (some (.int (nI (sX S rr cc (kS S rr cc - 1)))))) (m2 : zM E yX5_set wsX5_set 6 [.ref x0, .int (nI au), .int (nI rr), .int (nI cc), .int (nI 10000)] (WAd E x0 h0 h1 w0 t r S1 o1 kp1 Q1) (WAd E x0 h0 h1 w0 t r S1 o2 kp2 Q2) (some (.int (-2)))) : zM E yL_sets wsL_sets 7 [.ref x0, .int (nI au), .int g, .int h] (WRd E x0 h0 h1 w0 w1 t r S o kp Q tx ln ps) (WRd E x0 h0 h1 w0 w1 t r S1 o2 kp2 Q2 tx ln ps) (some (.int (nI 1))) := by
  refine zM.of kL_sets (Nat.le_of_ble_eq_true rfl) rfl [some (.ref x0), some (.int (nI au)), some (.int g), some (.int h), none, none, none, none, none, none, none, none, none, none, none, none, none, none] rfl (Nat.le_of_ble_eq_true rfl) ?_
  intro X eX C N
  subst eX
  have hb0 : uU S 0 ≤ 12 := gg_u hG 0
  have hb1 : uU S 1 ≤ 8 := gg_u1 hG
  have hb2 : mK S ≤ 60 := gg_M hG
  have hb3 : uU S1 0 ≤ 12 := gg_u hG1 0
  have hb4 : uU S1 1 ≤ 8 := gg_u1 hG1
  have hb5 : mK S1 ≤ 60 := gg_M hG1
  have hks : kS S rr cc ≤ mK S := zc_le _ _
  refine z_aload_n C 0 dL_sets_0 rfl rfl ?_
  refine z_iconst C (nI 0) dL_sets_1 (by decide) ?_
  refine z_iconst C (nI 0) dL_sets_2 (by decide) ?_
  refine z_callVr C kX5_size gL_sets_X5_size (l_size0 X.2.1 x0 h0 w0 t S 0 hG (by decide)) dL_sets_3 [0, 1, 2, 3, 4, 5, 6, 7, 8] [] 0 rfl nd_0_1_2_3_4_5_6_7_8 rfl rfl rfl (by decide) (by decide) (Nat.le_of_ble_eq_true rfl) rfl ?_
  refine z_istore C dL_sets_6 (Nat.le_of_ble_eq_true rfl) ?_
  refine z_lv (lv' := [some (.ref x0), some (.int (nI au)), some (.int g), some (.int h), some (.int (nI (uU S 0))), none, none, none, none, none, none, none, none, none, none, none, none, none]) rfl ?_
  refine z_aload_n C 0 dL_sets_8 rfl rfl ?_
  refine z_iconst C (nI 0) dL_sets_9 (by decide) ?_
  refine z_iconst C (nI 1) dL_sets_10 (by decide) ?_
  refine z_callVr C kX5_size gL_sets_X5_size (l_size0 X.2.1 x0 h0 w0 t S 1 hG (by decide)) dL_sets_11 [0, 1, 2, 3, 4, 5, 6, 7, 8] [] 0 rfl nd_0_1_2_3_4_5_6_7_8 rfl rfl rfl (by decide) (by decide) (Nat.le_of_ble_eq_true rfl) rfl ?_
  refine z_istore C dL_sets_14 (Nat.le_of_ble_eq_true rfl) ?_
  refine z_lv (lv' := [some (.ref x0), some (.int (nI au)), some (.int g), some (.int h), some (.int (nI (uU S 0))), some (.int (nI (uU S 1))), none, none, none, none, none, none, none, none, none, none, none, none]) rfl ?_
  refine z_iload C dL_sets_16 rfl ?_
  refine z_nif_eq_f C 26 dL_sets_18 (by decide) (by omega) (by omega) ?_
  refine z_iload C dL_sets_21 rfl ?_
  refine z_nif_ne_t C 44 dL_sets_23 (by decide) (by omega) (by omega) ?_
  refine z_iload_n C 2 dL_sets_44 rfl rfl ?_
  refine z_iload C dL_sets_45 rfl ?_
  refine z_callS C kL_low gL_sets_L_low (l_low X.2.1 g (uU S 0) (by omega) (by omega)) dL_sets_47 [] rfl (by decide) (by decide) (Nat.le_of_ble_eq_true rfl) rfl ?_
  refine z_top (y := nI rr) (congrArg nI hR) ?_
  refine z_istore C dL_sets_50 (Nat.le_of_ble_eq_true rfl) ?_
  refine z_lv (lv' := [some (.ref x0), some (.int (nI au)), some (.int g), some (.int h), some (.int (nI (uU S 0))), some (.int (nI (uU S 1))), some (.int (nI rr)), none, none, none, none, none, none, none, none, none, none, none]) rfl ?_
  refine z_iload_n C 2 dL_sets_52 rfl rfl ?_
  refine z_iconst C (nI 4) dL_sets_53 (by decide) ?_
  refine z_ishr C dL_sets_54 ?_
  refine z_iload C dL_sets_55 rfl ?_
  refine z_callS C kL_low gL_sets_L_low (l_low X.2.1 (g >>> ((nI 4) &&& 31)) (uU S 1) (by omega) (by omega)) dL_sets_57 [] rfl (by decide) (by decide) (Nat.le_of_ble_eq_true rfl) rfl ?_
  refine z_top (y := nI cc) (congrArg nI hC) ?_
  refine z_istore C dL_sets_60 (Nat.le_of_ble_eq_true rfl) ?_
  refine z_lv (lv' := [some (.ref x0), some (.int (nI au)), some (.int g), some (.int h), some (.int (nI (uU S 0))), some (.int (nI (uU S 1))), some (.int (nI rr)), some (.int (nI cc)), none, none, none, none, none, none, none, none, none, none]) rfl ?_
  refine z_iload_n C 3 dL_sets_62 rfl rfl ?_
  refine z_iconst C (nI 5) dL_sets_63 (by decide) ?_
  refine z_callS C kL_low gL_sets_L_low (l_low X.2.1 h 5 (by decide) (by decide)) dL_sets_64 [] rfl (by decide) (by decide) (Nat.le_of_ble_eq_true rfl) rfl ?_
  refine z_top (y := nI v) (congrArg nI hV) ?_
  refine z_istore C dL_sets_67 (Nat.le_of_ble_eq_true rfl) ?_
  refine z_lv (lv' := [some (.ref x0), some (.int (nI au)), some (.int g), some (.int h), some (.int (nI (uU S 0))), some (.int (nI (uU S 1))), some (.int (nI rr)), some (.int (nI cc)), some (.int (nI v)), none, none, none, none, none, none, none, none, none]) rfl ?_
  refine z_aload_n C 0 dL_sets_69 rfl rfl ?_
  refine z_iconst C (nI 0) dL_sets_70 (by decide) ?_
  refine z_callVr C kX5_count gL_sets_X5_count (l_cnt0 X.2.1 x0 h0 h1 w0 w1 t S o kp ln ps  hG ) dL_sets_71 [0, 1, 2, 3, 4, 5, 6, 7, 8, 9, 51] [] 0 rfl nd_0_1_2_3_4_5_6_7_8_9_51 rfl rfl rfl (by decide) (by decide) (Nat.le_of_ble_eq_true rfl) rfl ?_
  refine z_istore C dL_sets_74 (Nat.le_of_ble_eq_true rfl) ?_
  refine z_lv (lv' := [some (.ref x0), some (.int (nI au)), some (.int g), some (.int h), some (.int (nI (uU S 0))), some (.int (nI (uU S 1))), some (.int (nI rr)), some (.int (nI cc)), some (.int (nI v)), some (.int (nI (mK S))), none, none, none, none, none, none, none, none]) rfl ?_
  refine z_aload_n C 0 dL_sets_76 rfl rfl ?_
  refine z_iconst C (nI 5) dL_sets_77 (by decide) ?_
  refine z_callVr C kX5_count gL_sets_X5_count (l_cnt5y X.2.1 x0 h0 h1 w0 w1 t S o kp ln ps  hG ht) dL_sets_78 [0, 1, 2, 3, 4, 5, 6, 7, 8, 9, 51] [] 0 rfl nd_0_1_2_3_4_5_6_7_8_9_51 rfl rfl rfl (by decide) (by decide) (Nat.le_of_ble_eq_true rfl) rfl ?_
  refine z_iconst C (nI 1) dL_sets_81 (by decide) ?_
  refine z_ncmp_ne_f C 89 dL_sets_82 (by decide) (by omega) (by omega) (by omega) ?_
  refine z_iconst C (nI 1) dL_sets_85 (by decide) ?_
  refine z_goto C 90 dL_sets_86 (by decide) ?_
  refine z_istore C dL_sets_90 (Nat.le_of_ble_eq_true rfl) ?_
  refine z_lv (lv' := [some (.ref x0), some (.int (nI au)), some (.int g), some (.int h), some (.int (nI (uU S 0))), some (.int (nI (uU S 1))), some (.int (nI rr)), some (.int (nI cc)), some (.int (nI v)), some (.int (nI (mK S))), some (.int (nI 1)), none, none, none, none, none, none, none]) rfl ?_
  refine z_iconst C (nI 0) dL_sets_92 (by decide) ?_
  refine z_istore C dL_sets_93 (Nat.le_of_ble_eq_true rfl) ?_
  refine z_lv (lv' := [some (.ref x0), some (.int (nI au)), some (.int g), some (.int h), some (.int (nI (uU S 0))), some (.int (nI (uU S 1))), some (.int (nI rr)), some (.int (nI cc)), some (.int (nI v)), some (.int (nI (mK S))), some (.int (nI 1)), some (.int (nI 0)), none, none, none, none, none, none]) rfl ?_
  have hL95 : ∀ (dd95 : Nat) (n : Nat), kS S rr cc - n = dd95 → (n ≤ kS S rr cc) → zG X 0 0 (WRd X.2.1 x0 h0 h1 w0 w1 t r S o kp Q tx ln ps) [some (.ref x0), some (.int (nI au)), some (.int g), some (.int h), some (.int (nI (uU S 0))), some (.int (nI (uU S 1))), some (.int (nI rr)), some (.int (nI cc)), some (.int (nI v)), some (.int (nI (mK S))), some (.int (nI 1)), some (.int (nI n)), none, none, none, none, none, none] [] 95 := by
    intro dd95
    induction dd95 using Nat.strongRecOn with
    | _ dd95 ih95 =>
      intro n hdd95 hn
      refine z_aload_n C 0 dL_sets_95 rfl rfl ?_
      refine z_iload C dL_sets_96 rfl ?_
      refine z_iload C dL_sets_98 rfl ?_
      refine z_iload C dL_sets_100 rfl ?_
      rcases Nat.lt_or_ge (n) (kS S rr cc) with hq_1 | hq_1
      · have fk_2 : sX S rr cc n < mK S := (sX_f hG (by omega) (by omega) hq_1).1
        have fk_3 : kN S (sX S rr cc n) = 4 := (sX_f hG (by omega) (by omega) hq_1).2.1
        have fk_4 : sN S (sX S rr cc n) = 0 := (sX_f hG (by omega) (by omega) hq_1).2.2.1
        refine z_callVr C kX5_setting gL_sets_X5_setting (l_setY X.2.1 x0 h0 w0 t S rr cc n hG hr hc hq_1) dL_sets_102 [0, 1, 2, 3, 4, 5, 6, 7, 8] [] 0 rfl nd_0_1_2_3_4_5_6_7_8 rfl rfl rfl (by decide) (by decide) (Nat.le_of_ble_eq_true rfl) rfl ?_
        have hg_5 : sX S rr cc n < mK S := (sX_t hG (by omega)).1
        refine z_nif_lt_f C 114 dL_sets_105 (by decide) (by omega) (by trivial) ?_
        refine z_iinc C (nI (n + 1)) dL_sets_108 rfl (zi_1 _) ?_
        refine z_lv (lv' := [some (.ref x0), some (.int (nI au)), some (.int g), some (.int h), some (.int (nI (uU S 0))), some (.int (nI (uU S 1))), some (.int (nI rr)), some (.int (nI cc)), some (.int (nI v)), some (.int (nI (mK S))), some (.int (nI 1)), some (.int (nI (n + 1))), none, none, none, none, none, none]) rfl ?_
        refine z_goto C 95 dL_sets_111 (by decide) ?_
        exact ih95 (kS S rr cc - (n + 1)) (by omega) (n + 1) rfl (by omega)
      · refine z_callVr C kX5_setting gL_sets_X5_setting (l_setN X.2.1 x0 h0 w0 t S rr cc n hG hr hc hq_1 (by omega)) dL_sets_102 [0, 1, 2, 3, 4, 5, 6, 7, 8] [] 0 rfl nd_0_1_2_3_4_5_6_7_8 rfl rfl rfl (by decide) (by decide) (Nat.le_of_ble_eq_true rfl) rfl ?_
        refine z_if_lt_t C 114 dL_sets_105 (by decide) (by decide) ?_
        obtain rfl : n = kS S rr cc := (by omega)
        refine z_iload C dL_sets_114 rfl ?_
        refine z_nif_ne_t C 123 dL_sets_116 (by decide) (by omega) (by omega) ?_
        have fq_6 : sX S rr cc (kS S rr cc - 1) < mK S := (sX_f hG hr hc (show kS S rr cc - 1 < kS S rr cc by omega)).1
        have fq_7 : kN S (sX S rr cc (kS S rr cc - 1)) = 4 := (sX_f hG hr hc (show kS S rr cc - 1 < kS S rr cc by omega)).2.1
        have fq_8 : sN S (sX S rr cc (kS S rr cc - 1)) = 0 := (sX_f hG hr hc (show kS S rr cc - 1 < kS S rr cc by omega)).2.2.1
        have fq_9 : aN S (sX S rr cc (kS S rr cc - 1)) < 4 := (aN_e hG (sX_f hG hr hc (show kS S rr cc - 1 < kS S rr cc by omega)).1).2
        have fq_10 : bN S (sX S rr cc (kS S rr cc - 1)) < 10000 := (bN_e hG (sX_f hG hr hc (show kS S rr cc - 1 < kS S rr cc by omega)).1 (sX_f hG hr hc (show kS S rr cc - 1 < kS S rr cc by omega)).2.1 (sX_f hG hr hc (show kS S rr cc - 1 < kS S rr cc by omega)).2.2.1).2
        refine z_aload_n C 0 dL_sets_123 rfl rfl ?_
        refine z_iload C dL_sets_124 rfl ?_
        refine z_iload C dL_sets_126 rfl ?_
        refine z_iload C dL_sets_128 rfl ?_
        refine z_iconst C (nI 1) dL_sets_130 (by decide) ?_
        refine z_isub C dL_sets_131 ?_
        refine z_top (y := nI ((kS S rr cc) - 1)) ((pk_sub (by omega)).trans (congrArg nI (by omega))) ?_
        refine z_callVr C kX5_setting gL_sets_X5_setting (l_setY X.2.1 x0 h0 w0 t S rr cc ((kS S rr cc) - 1) hG hr hc (by omega)) dL_sets_132 [0, 1, 2, 3, 4, 5, 6, 7, 8] [] 0 rfl nd_0_1_2_3_4_5_6_7_8 rfl rfl rfl (by decide) (by decide) (Nat.le_of_ble_eq_true rfl) rfl ?_
        have hg_11 : sX S rr cc ((kS S rr cc) - 1) < mK S := (sX_t hG (by omega)).1
        refine z_istore C dL_sets_135 (Nat.le_of_ble_eq_true rfl) ?_
        refine z_lv (lv' := [some (.ref x0), some (.int (nI au)), some (.int g), some (.int h), some (.int (nI (uU S 0))), some (.int (nI (uU S 1))), some (.int (nI rr)), some (.int (nI cc)), some (.int (nI v)), some (.int (nI (mK S))), some (.int (nI 1)), some (.int (nI (kS S rr cc))), some (.int (nI (sX S rr cc ((kS S rr cc) - 1)))), none, none, none, none, none]) rfl ?_
        refine z_iload C dL_sets_137 rfl ?_
        refine z_nif_lt_f C 157 dL_sets_139 (by decide) (by omega) (by trivial) ?_
        refine z_aload_n C 0 dL_sets_142 rfl rfl ?_
        refine z_iload C dL_sets_143 rfl ?_
        refine z_iconst C (nI 1) dL_sets_145 (by decide) ?_
        refine z_callVr C kX5_change gL_sets_X5_change (l_chg1 X.2.1 x0 h0 w0 t S (sX S rr cc ((kS S rr cc) - 1)) hG fq_6) dL_sets_146 [0, 1, 2, 3, 4, 5, 6, 7, 8] [] 0 rfl nd_0_1_2_3_4_5_6_7_8 rfl rfl rfl (by decide) (by decide) (Nat.le_of_ble_eq_true rfl) rfl ?_
        refine z_iload_n C 1 dL_sets_149 rfl rfl ?_
        refine z_ncmp_ne_f C 157 dL_sets_150 (by decide) (by omega) (by omega) (by omega) ?_
        refine z_iconst C (nI 1) dL_sets_153 (by decide) ?_
        refine z_goto C 158 dL_sets_154 (by decide) ?_
        refine z_istore C dL_sets_158 (Nat.le_of_ble_eq_true rfl) ?_
        refine z_lv (lv' := [some (.ref x0), some (.int (nI au)), some (.int g), some (.int h), some (.int (nI (uU S 0))), some (.int (nI (uU S 1))), some (.int (nI rr)), some (.int (nI cc)), some (.int (nI v)), some (.int (nI (mK S))), some (.int (nI 1)), some (.int (nI (kS S rr cc))), some (.int (nI (sX S rr cc ((kS S rr cc) - 1)))), some (.int (nI 1)), none, none, none, none]) rfl ?_
        refine z_aload_n C 0 dL_sets_160 rfl rfl ?_
        refine z_iconst C (nI 0) dL_sets_161 (by decide) ?_
        refine z_iload C dL_sets_162 rfl ?_
        refine z_iconst C (nI 1) dL_sets_164 (by decide) ?_
        refine z_callVr C kX5_line gL_sets_X5_line (l_line1n X.2.1 x0 h0 w0 t S 0 rr hG (by decide) hr hD0) dL_sets_165 [0, 1, 2, 3, 4, 5, 6, 7, 8] [] 0 rfl nd_0_1_2_3_4_5_6_7_8 rfl rfl rfl (by decide) (by decide) (Nat.le_of_ble_eq_true rfl) rfl ?_
        refine z_if_ge_f C 196 dL_sets_168 (by decide) (by decide) ?_
        refine z_aload_n C 0 dL_sets_171 rfl rfl ?_
        refine z_iconst C (nI 1) dL_sets_172 (by decide) ?_
        refine z_iload C dL_sets_173 rfl ?_
        refine z_iconst C (nI 1) dL_sets_175 (by decide) ?_
        refine z_callVr C kX5_line gL_sets_X5_line (l_line1n X.2.1 x0 h0 w0 t S 1 cc hG (by decide) hc hD1) dL_sets_176 [0, 1, 2, 3, 4, 5, 6, 7, 8] [] 0 rfl nd_0_1_2_3_4_5_6_7_8 rfl rfl rfl (by decide) (by decide) (Nat.le_of_ble_eq_true rfl) rfl ?_
        refine z_if_ge_f C 196 dL_sets_179 (by decide) (by decide) ?_
        refine z_aload_n C 0 dL_sets_182 rfl rfl ?_
        refine z_iconst C (nI 0) dL_sets_183 (by decide) ?_
        refine z_iload C dL_sets_184 rfl ?_
        refine z_iload C dL_sets_186 rfl ?_
        refine z_callVr C kX5_cell gL_sets_X5_cell (l_cell0 X.2.1 x0 h0 w0 t S rr cc hG hr hc) dL_sets_188 [0, 1, 2, 3, 4, 5, 6, 7, 8] [] 0 rfl nd_0_1_2_3_4_5_6_7_8 rfl rfl rfl (by decide) (by decide) (Nat.le_of_ble_eq_true rfl) rfl ?_
        refine z_iload C dL_sets_191 rfl ?_
        refine z_icmp_ne_t C 200 dL_sets_193 (by decide) hne ?_
        refine z_iconst C (nI 0) dL_sets_200 (by decide) ?_
        refine z_istore C dL_sets_201 (Nat.le_of_ble_eq_true rfl) ?_
        refine z_lv (lv' := [some (.ref x0), some (.int (nI au)), some (.int g), some (.int h), some (.int (nI (uU S 0))), some (.int (nI (uU S 1))), some (.int (nI rr)), some (.int (nI cc)), some (.int (nI v)), some (.int (nI (mK S))), some (.int (nI 1)), some (.int (nI (kS S rr cc))), some (.int (nI (sX S rr cc ((kS S rr cc) - 1)))), some (.int (nI 1)), some (.int (nI 0)), none, none, none]) rfl ?_
        refine z_iload C dL_sets_203 rfl ?_
        refine z_nif_eq_f C 225 dL_sets_205 (by decide) (by omega) (by omega) ?_
        refine z_aload_n C 0 dL_sets_208 rfl rfl ?_
        refine z_iload C dL_sets_209 rfl ?_
        refine z_bipush C (nI 6) dL_sets_211 (by decide) ?_
        refine z_callVr C kX5_change gL_sets_X5_change (l_chg6y X.2.1 x0 h0 w0 t S (sX S rr cc ((kS S rr cc) - 1)) hG fq_6 fq_7 fq_8) dL_sets_213 [0, 1, 2, 3, 4, 5, 6, 7, 8] [] 0 rfl nd_0_1_2_3_4_5_6_7_8 rfl rfl rfl (by decide) (by decide) (Nat.le_of_ble_eq_true rfl) rfl ?_
        refine z_iload C dL_sets_216 rfl ?_
        refine z_ncmp_ne_t C 225 dL_sets_218 (by decide) (by omega) (by omega) (by omega) ?_
        refine z_iconst C (nI 0) dL_sets_225 (by decide) ?_
        refine z_istore C dL_sets_226 (Nat.le_of_ble_eq_true rfl) ?_
        refine z_lv (lv' := [some (.ref x0), some (.int (nI au)), some (.int g), some (.int h), some (.int (nI (uU S 0))), some (.int (nI (uU S 1))), some (.int (nI rr)), some (.int (nI cc)), some (.int (nI v)), some (.int (nI (mK S))), some (.int (nI 1)), some (.int (nI (kS S rr cc))), some (.int (nI (sX S rr cc ((kS S rr cc) - 1)))), some (.int (nI 1)), some (.int (nI 0)), some (.int (nI 0)), none, none]) rfl ?_
        refine z_iload C dL_sets_228 rfl ?_
        refine z_nif_eq_t C 238 dL_sets_230 (by decide) (by omega) (by omega) ?_
        refine z_iload C dL_sets_238 rfl ?_
        refine z_nif_ne_t C 249 dL_sets_240 (by decide) (by omega) (by omega) ?_
        refine z_iload C dL_sets_249 rfl ?_
        refine z_nif_eq_f C 259 dL_sets_251 (by decide) (by omega) (by omega) ?_
        refine z_iload C dL_sets_254 rfl ?_
        refine z_goto C 273 dL_sets_256 (by decide) ?_
        refine z_istore C dL_sets_273 (Nat.le_of_ble_eq_true rfl) ?_
        refine z_lv (lv' := [some (.ref x0), some (.int (nI au)), some (.int g), some (.int h), some (.int (nI (uU S 0))), some (.int (nI (uU S 1))), some (.int (nI rr)), some (.int (nI cc)), some (.int (nI v)), some (.int (nI (mK S))), some (.int (nI 1)), some (.int (nI (kS S rr cc))), some (.int (nI (sX S rr cc ((kS S rr cc) - 1)))), some (.int (nI 1)), some (.int (nI 0)), some (.int (nI 0)), some (.int (nI (sX S rr cc ((kS S rr cc) - 1)))), none]) rfl ?_
        refine z_aload_n C 0 dL_sets_275 rfl rfl ?_
        refine z_iload_n C 1 dL_sets_276 rfl rfl ?_
        refine z_iload C dL_sets_277 rfl ?_
        refine z_iload C dL_sets_279 rfl ?_
        refine z_iload C dL_sets_281 rfl ?_
        refine z_callV (wn := (WRd X.2.1 x0 h0 h1 w0 w1 t r S1 o1 kp1 Q1 tx ln ps)) C kX5_set gL_sets_X5_set m1 dL_sets_283 [0, 1, 2, 3, 4, 5, 6, 7, 8, 9, 10, 11, 12, 13, 14, 15, 16, 17, 18, 19, 20, 21, 22, 23, 24, 25, 26, 27, 28, 29, 30, 31, 32, 33, 34, 35, 36, 37, 38, 39, 40, 41, 42, 43, 44, 45, 46, 47, 48, 49, 50] [] 0 rfl rfl nd_0_1_2_3_4_5_6_7_8_9_10_11_12_13_14_15_16_17_18_19_20_21_22_23_24_25_26_27_28_29_30_31_32_33_34_35_36_37_38_39_40_41_42_43_44_45_46_47_48_49_50 rfl rfl rfl (by decide) (by decide) (Nat.le_of_ble_eq_true rfl) rfl ((zput_par nd_0_1_2_3_4_5_6_7_8_9_10_11_12_13_14_15_16_17_18_19_20_21_22_23_24_25_26_27_28_29_30_31_32_33_34_35_36_37_38_39_40_41_42_43_44_45_46_47_48_49_50 rfl).trans rfl) ?_
        refine z_iload C dL_sets_286 rfl ?_
        refine z_ncmp_ne_f C 308 dL_sets_288 (by decide) (by omega) (by omega) (by omega) ?_
        refine z_aload_n C 0 dL_sets_291 rfl rfl ?_
        refine z_iload_n C 1 dL_sets_292 rfl rfl ?_
        refine z_iload C dL_sets_293 rfl ?_
        refine z_iload C dL_sets_295 rfl ?_
        refine z_sipush C (nI 10000) dL_sets_297 (by decide) ?_
        refine z_callV (wn := (WRd X.2.1 x0 h0 h1 w0 w1 t r S1 o2 kp2 Q2 tx ln ps)) C kX5_set gL_sets_X5_set m2 dL_sets_300 [0, 1, 2, 3, 4, 5, 6, 7, 8, 9, 10, 11, 12, 13, 14, 15, 16, 17, 18, 19, 20, 21, 22, 23, 24, 25, 26, 27, 28, 29, 30, 31, 32, 33, 34, 35, 36, 37, 38, 39, 40, 41, 42, 43, 44, 45, 46, 47, 48, 49, 50] [] 0 rfl rfl nd_0_1_2_3_4_5_6_7_8_9_10_11_12_13_14_15_16_17_18_19_20_21_22_23_24_25_26_27_28_29_30_31_32_33_34_35_36_37_38_39_40_41_42_43_44_45_46_47_48_49_50 rfl rfl rfl (by decide) (by decide) (Nat.le_of_ble_eq_true rfl) rfl ((zput_par nd_0_1_2_3_4_5_6_7_8_9_10_11_12_13_14_15_16_17_18_19_20_21_22_23_24_25_26_27_28_29_30_31_32_33_34_35_36_37_38_39_40_41_42_43_44_45_46_47_48_49_50 rfl).trans rfl) ?_
        refine z_bipush C (-2) dL_sets_303 (by decide) ?_
        refine z_icmp_eq_t C 310 dL_sets_305 (by decide) rfl ?_
        refine z_iload C dL_sets_310 rfl ?_
        refine z_nif_ge_t C 336 dL_sets_312 (by decide) (by omega) (by trivial) ?_
        refine z_iload C dL_sets_336 rfl ?_
        refine z_nif_ne_t C 345 dL_sets_338 (by decide) (by omega) (by omega) ?_
        refine z_iload C dL_sets_345 rfl ?_
        refine z_nif_ne_t C 357 dL_sets_347 (by decide) (by omega) (by omega) ?_
        refine z_iload C dL_sets_357 rfl ?_
        refine z_nif_eq_t C 369 dL_sets_359 (by decide) (by omega) (by omega) ?_
        refine z_iload C dL_sets_369 rfl ?_
        refine z_istore C dL_sets_371 (Nat.le_of_ble_eq_true rfl) ?_
        refine z_lv (lv' := [some (.ref x0), some (.int (nI au)), some (.int g), some (.int h), some (.int (nI (uU S 0))), some (.int (nI (uU S 1))), some (.int (nI rr)), some (.int (nI cc)), some (.int (nI v)), some (.int (nI (mK S))), some (.int (nI 1)), some (.int (nI (kS S rr cc))), some (.int (nI (sX S rr cc ((kS S rr cc) - 1)))), some (.int (nI 1)), some (.int (nI 0)), some (.int (nI 0)), some (.int (nI (sX S rr cc ((kS S rr cc) - 1)))), some (.int (nI (kS S rr cc)))]) rfl ?_
        refine z_aload_n C 0 dL_sets_373 rfl rfl ?_
        refine z_iconst C (nI 0) dL_sets_374 (by decide) ?_
        refine z_iload C dL_sets_375 rfl ?_
        refine z_iload C dL_sets_377 rfl ?_
        refine z_callVr C kX5_cell gL_sets_X5_cell (l_cell0 X.2.1 x0 h0 w0 t S1 rr cc hG1 (by omega) (by omega)) dL_sets_379 [0, 1, 2, 3, 4, 5, 6, 7, 8] [] 0 rfl nd_0_1_2_3_4_5_6_7_8 rfl rfl rfl (by decide) (by decide) (Nat.le_of_ble_eq_true rfl) rfl ?_
        refine z_iload C dL_sets_382 rfl ?_
        refine z_icmp_ne_f C 426 dL_sets_384 (by decide) hc1 ?_
        refine z_aload_n C 0 dL_sets_387 rfl rfl ?_
        refine z_iload C dL_sets_388 rfl ?_
        refine z_iload C dL_sets_390 rfl ?_
        refine z_iload C dL_sets_392 rfl ?_
        refine z_callVr C kX5_setting gL_sets_X5_setting (l_setN X.2.1 x0 h0 w0 t S1 rr cc (kS S rr cc) hG1 (by omega) (by omega) (by omega) (by omega)) dL_sets_394 [0, 1, 2, 3, 4, 5, 6, 7, 8] [] 0 rfl nd_0_1_2_3_4_5_6_7_8 rfl rfl rfl (by decide) (by decide) (Nat.le_of_ble_eq_true rfl) rfl ?_
        refine z_bipush C (-5) dL_sets_397 (by decide) ?_
        refine z_icmp_ne_f C 426 dL_sets_399 (by decide) rfl ?_
        refine z_iload C dL_sets_402 rfl ?_
        refine z_nif_eq_f C 422 dL_sets_404 (by decide) (by omega) (by omega) ?_
        refine z_aload_n C 0 dL_sets_407 rfl rfl ?_
        refine z_iload C dL_sets_408 rfl ?_
        refine z_iload C dL_sets_410 rfl ?_
        refine z_iload C dL_sets_412 rfl ?_
        refine z_iconst C (nI 1) dL_sets_414 (by decide) ?_
        refine z_isub C dL_sets_415 ?_
        refine z_top (y := nI ((kS S rr cc) - 1)) ((pk_sub (by omega)).trans (congrArg nI (by omega))) ?_
        refine z_callVr C kX5_setting gL_sets_X5_setting (l_setY X.2.1 x0 h0 w0 t S1 rr cc ((kS S rr cc) - 1) hG1 (by omega) (by omega) (by omega)) dL_sets_416 [0, 1, 2, 3, 4, 5, 6, 7, 8] [] 0 rfl nd_0_1_2_3_4_5_6_7_8 rfl rfl rfl (by decide) (by decide) (Nat.le_of_ble_eq_true rfl) rfl ?_
        have hg_12 : sX S1 rr cc ((kS S rr cc) - 1) < mK S1 := (sX_t hG1 (by omega)).1
        refine z_nif_lt_f C 426 dL_sets_419 (by decide) (by omega) (by trivial) ?_
        refine z_iconst C (nI 1) dL_sets_422 (by decide) ?_
        refine z_goto C 427 dL_sets_423 (by decide) ?_
        exact z_zret C N dL_sets_427 rfl (rfl) (rfl)
  exact hL95 _ 0 rfl (by omega)

set_option maxHeartbeats 4000000 in
set_option maxRecDepth 100000 in
theorem w_setf0 (E : zE) (x0 h0 h1 w0 w1 : Nat) (t : Nat → Nat) (r : Nat → Nat → Nat) (S : zSt) (o kp kp1 kp2 o1 o2 : Nat) (Q Q1 Q2 : Nat → zSt) (tx : Nat → Nat) (ln : Nat) (ps : zPs) {B : Nat} (au : Nat) (g h : Int32) (rr cc v : Nat) (hG : GG S B) (hau : au < 4) (hR : lw g (uU S 0) = rr) (hr : rr < uU S 0) (hC : lw (g >>> (nI 4 &&& 31)) (uU S 1) = cc) (hc : cc < uU S 1) (hV : lw h 5 = v) (hv : v < 5) (hD0 : Dm S 0 rr = false) (hD1 : Dm S 1 cc = false) (hne : ¬ cV S rr cc = nI v) (ht : tK S = true) (hk0 : kS S rr cc = 0) (hm : mK S = 60) (m1 : zM E yX5_set wsX5_set 6 [.ref x0, .int (nI au), .int (nI rr), .int (nI cc), .int (nI v)] (WAd E x0 h0 h1 w0 t r S o kp Q) (WAd E x0 h0 h1 w0 t r S o1 kp1 Q1) (some (.int (-3)))) (m2 : zM E yX5_set wsX5_set 6 [.ref x0, .int (nI au), .int (nI rr), .int (nI cc), .int (nI 10000)] (WAd E x0 h0 h1 w0 t r S o1 kp1 Q1) (WAd E x0 h0 h1 w0 t r S o2 kp2 Q2) (some (.int (-2)))) : zM E yL_sets wsL_sets 7 [.ref x0, .int (nI au), .int g, .int h] (WRd E x0 h0 h1 w0 w1 t r S o kp Q tx ln ps) (WRd E x0 h0 h1 w0 w1 t r S o2 kp2 Q2 tx ln ps) (some (.int (nI 1))) := by
  refine zM.of kL_sets (Nat.le_of_ble_eq_true rfl) rfl [some (.ref x0), some (.int (nI au)), some (.int g), some (.int h), none, none, none, none, none, none, none, none, none, none, none, none, none, none] rfl (Nat.le_of_ble_eq_true rfl) ?_
  intro X eX C N
  subst eX
  have hb0 : uU S 0 ≤ 12 := gg_u hG 0
  have hb1 : uU S 1 ≤ 8 := gg_u1 hG
  have hb2 : mK S ≤ 60 := gg_M hG
  have hks : kS S rr cc ≤ mK S := zc_le _ _
  refine z_aload_n C 0 dL_sets_0 rfl rfl ?_
  refine z_iconst C (nI 0) dL_sets_1 (by decide) ?_
  refine z_iconst C (nI 0) dL_sets_2 (by decide) ?_
  refine z_callVr C kX5_size gL_sets_X5_size (l_size0 X.2.1 x0 h0 w0 t S 0 hG (by decide)) dL_sets_3 [0, 1, 2, 3, 4, 5, 6, 7, 8] [] 0 rfl nd_0_1_2_3_4_5_6_7_8 rfl rfl rfl (by decide) (by decide) (Nat.le_of_ble_eq_true rfl) rfl ?_
  refine z_istore C dL_sets_6 (Nat.le_of_ble_eq_true rfl) ?_
  refine z_lv (lv' := [some (.ref x0), some (.int (nI au)), some (.int g), some (.int h), some (.int (nI (uU S 0))), none, none, none, none, none, none, none, none, none, none, none, none, none]) rfl ?_
  refine z_aload_n C 0 dL_sets_8 rfl rfl ?_
  refine z_iconst C (nI 0) dL_sets_9 (by decide) ?_
  refine z_iconst C (nI 1) dL_sets_10 (by decide) ?_
  refine z_callVr C kX5_size gL_sets_X5_size (l_size0 X.2.1 x0 h0 w0 t S 1 hG (by decide)) dL_sets_11 [0, 1, 2, 3, 4, 5, 6, 7, 8] [] 0 rfl nd_0_1_2_3_4_5_6_7_8 rfl rfl rfl (by decide) (by decide) (Nat.le_of_ble_eq_true rfl) rfl ?_
  refine z_istore C dL_sets_14 (Nat.le_of_ble_eq_true rfl) ?_
  refine z_lv (lv' := [some (.ref x0), some (.int (nI au)), some (.int g), some (.int h), some (.int (nI (uU S 0))), some (.int (nI (uU S 1))), none, none, none, none, none, none, none, none, none, none, none, none]) rfl ?_
  refine z_iload C dL_sets_16 rfl ?_
  refine z_nif_eq_f C 26 dL_sets_18 (by decide) (by omega) (by omega) ?_
  refine z_iload C dL_sets_21 rfl ?_
  refine z_nif_ne_t C 44 dL_sets_23 (by decide) (by omega) (by omega) ?_
  refine z_iload_n C 2 dL_sets_44 rfl rfl ?_
  refine z_iload C dL_sets_45 rfl ?_
  refine z_callS C kL_low gL_sets_L_low (l_low X.2.1 g (uU S 0) (by omega) (by omega)) dL_sets_47 [] rfl (by decide) (by decide) (Nat.le_of_ble_eq_true rfl) rfl ?_
  refine z_top (y := nI rr) (congrArg nI hR) ?_
  refine z_istore C dL_sets_50 (Nat.le_of_ble_eq_true rfl) ?_
  refine z_lv (lv' := [some (.ref x0), some (.int (nI au)), some (.int g), some (.int h), some (.int (nI (uU S 0))), some (.int (nI (uU S 1))), some (.int (nI rr)), none, none, none, none, none, none, none, none, none, none, none]) rfl ?_
  refine z_iload_n C 2 dL_sets_52 rfl rfl ?_
  refine z_iconst C (nI 4) dL_sets_53 (by decide) ?_
  refine z_ishr C dL_sets_54 ?_
  refine z_iload C dL_sets_55 rfl ?_
  refine z_callS C kL_low gL_sets_L_low (l_low X.2.1 (g >>> ((nI 4) &&& 31)) (uU S 1) (by omega) (by omega)) dL_sets_57 [] rfl (by decide) (by decide) (Nat.le_of_ble_eq_true rfl) rfl ?_
  refine z_top (y := nI cc) (congrArg nI hC) ?_
  refine z_istore C dL_sets_60 (Nat.le_of_ble_eq_true rfl) ?_
  refine z_lv (lv' := [some (.ref x0), some (.int (nI au)), some (.int g), some (.int h), some (.int (nI (uU S 0))), some (.int (nI (uU S 1))), some (.int (nI rr)), some (.int (nI cc)), none, none, none, none, none, none, none, none, none, none]) rfl ?_
  refine z_iload_n C 3 dL_sets_62 rfl rfl ?_
  refine z_iconst C (nI 5) dL_sets_63 (by decide) ?_
  refine z_callS C kL_low gL_sets_L_low (l_low X.2.1 h 5 (by decide) (by decide)) dL_sets_64 [] rfl (by decide) (by decide) (Nat.le_of_ble_eq_true rfl) rfl ?_
  refine z_top (y := nI v) (congrArg nI hV) ?_
  refine z_istore C dL_sets_67 (Nat.le_of_ble_eq_true rfl) ?_
  refine z_lv (lv' := [some (.ref x0), some (.int (nI au)), some (.int g), some (.int h), some (.int (nI (uU S 0))), some (.int (nI (uU S 1))), some (.int (nI rr)), some (.int (nI cc)), some (.int (nI v)), none, none, none, none, none, none, none, none, none]) rfl ?_
  refine z_aload_n C 0 dL_sets_69 rfl rfl ?_
  refine z_iconst C (nI 0) dL_sets_70 (by decide) ?_
  refine z_callVr C kX5_count gL_sets_X5_count (l_cnt0 X.2.1 x0 h0 h1 w0 w1 t S o kp ln ps  hG ) dL_sets_71 [0, 1, 2, 3, 4, 5, 6, 7, 8, 9, 51] [] 0 rfl nd_0_1_2_3_4_5_6_7_8_9_51 rfl rfl rfl (by decide) (by decide) (Nat.le_of_ble_eq_true rfl) rfl ?_
  refine z_istore C dL_sets_74 (Nat.le_of_ble_eq_true rfl) ?_
  refine z_lv (lv' := [some (.ref x0), some (.int (nI au)), some (.int g), some (.int h), some (.int (nI (uU S 0))), some (.int (nI (uU S 1))), some (.int (nI rr)), some (.int (nI cc)), some (.int (nI v)), some (.int (nI (mK S))), none, none, none, none, none, none, none, none]) rfl ?_
  refine z_aload_n C 0 dL_sets_76 rfl rfl ?_
  refine z_iconst C (nI 5) dL_sets_77 (by decide) ?_
  refine z_callVr C kX5_count gL_sets_X5_count (l_cnt5y X.2.1 x0 h0 h1 w0 w1 t S o kp ln ps  hG ht) dL_sets_78 [0, 1, 2, 3, 4, 5, 6, 7, 8, 9, 51] [] 0 rfl nd_0_1_2_3_4_5_6_7_8_9_51 rfl rfl rfl (by decide) (by decide) (Nat.le_of_ble_eq_true rfl) rfl ?_
  refine z_iconst C (nI 1) dL_sets_81 (by decide) ?_
  refine z_ncmp_ne_f C 89 dL_sets_82 (by decide) (by omega) (by omega) (by omega) ?_
  refine z_iconst C (nI 1) dL_sets_85 (by decide) ?_
  refine z_goto C 90 dL_sets_86 (by decide) ?_
  refine z_istore C dL_sets_90 (Nat.le_of_ble_eq_true rfl) ?_
  refine z_lv (lv' := [some (.ref x0), some (.int (nI au)), some (.int g), some (.int h), some (.int (nI (uU S 0))), some (.int (nI (uU S 1))), some (.int (nI rr)), some (.int (nI cc)), some (.int (nI v)), some (.int (nI (mK S))), some (.int (nI 1)), none, none, none, none, none, none, none]) rfl ?_
  refine z_iconst C (nI 0) dL_sets_92 (by decide) ?_
  refine z_istore C dL_sets_93 (Nat.le_of_ble_eq_true rfl) ?_
  refine z_lv (lv' := [some (.ref x0), some (.int (nI au)), some (.int g), some (.int h), some (.int (nI (uU S 0))), some (.int (nI (uU S 1))), some (.int (nI rr)), some (.int (nI cc)), some (.int (nI v)), some (.int (nI (mK S))), some (.int (nI 1)), some (.int (nI 0)), none, none, none, none, none, none]) rfl ?_
  have hL95 : ∀ (dd95 : Nat) (n : Nat), kS S rr cc - n = dd95 → (n ≤ kS S rr cc) → zG X 0 0 (WRd X.2.1 x0 h0 h1 w0 w1 t r S o kp Q tx ln ps) [some (.ref x0), some (.int (nI au)), some (.int g), some (.int h), some (.int (nI (uU S 0))), some (.int (nI (uU S 1))), some (.int (nI rr)), some (.int (nI cc)), some (.int (nI v)), some (.int (nI (mK S))), some (.int (nI 1)), some (.int (nI n)), none, none, none, none, none, none] [] 95 := by
    intro dd95
    induction dd95 using Nat.strongRecOn with
    | _ dd95 ih95 =>
      intro n hdd95 hn
      refine z_aload_n C 0 dL_sets_95 rfl rfl ?_
      refine z_iload C dL_sets_96 rfl ?_
      refine z_iload C dL_sets_98 rfl ?_
      refine z_iload C dL_sets_100 rfl ?_
      refine z_callVr C kX5_setting gL_sets_X5_setting (l_setN X.2.1 x0 h0 w0 t S rr cc n hG hr hc (by omega) (by omega)) dL_sets_102 [0, 1, 2, 3, 4, 5, 6, 7, 8] [] 0 rfl nd_0_1_2_3_4_5_6_7_8 rfl rfl rfl (by decide) (by decide) (Nat.le_of_ble_eq_true rfl) rfl ?_
      refine z_if_lt_t C 114 dL_sets_105 (by decide) (by decide) ?_
      obtain rfl : n = kS S rr cc := (by omega)
      refine z_iload C dL_sets_114 rfl ?_
      refine z_nif_ne_f C 123 dL_sets_116 (by decide) (by omega) (by omega) ?_
      refine z_iconst C (-1) dL_sets_119 (by decide) ?_
      refine z_goto C 135 dL_sets_120 (by decide) ?_
      refine z_istore C dL_sets_135 (Nat.le_of_ble_eq_true rfl) ?_
      refine z_lv (lv' := [some (.ref x0), some (.int (nI au)), some (.int g), some (.int h), some (.int (nI (uU S 0))), some (.int (nI (uU S 1))), some (.int (nI rr)), some (.int (nI cc)), some (.int (nI v)), some (.int (nI (mK S))), some (.int (nI 1)), some (.int (nI (kS S rr cc))), some (.int (-1)), none, none, none, none, none]) rfl ?_
      refine z_iload C dL_sets_137 rfl ?_
      refine z_if_lt_t C 157 dL_sets_139 (by decide) (by decide) ?_
      refine z_iconst C (nI 0) dL_sets_157 (by decide) ?_
      refine z_istore C dL_sets_158 (Nat.le_of_ble_eq_true rfl) ?_
      refine z_lv (lv' := [some (.ref x0), some (.int (nI au)), some (.int g), some (.int h), some (.int (nI (uU S 0))), some (.int (nI (uU S 1))), some (.int (nI rr)), some (.int (nI cc)), some (.int (nI v)), some (.int (nI (mK S))), some (.int (nI 1)), some (.int (nI (kS S rr cc))), some (.int (-1)), some (.int (nI 0)), none, none, none, none]) rfl ?_
      refine z_aload_n C 0 dL_sets_160 rfl rfl ?_
      refine z_iconst C (nI 0) dL_sets_161 (by decide) ?_
      refine z_iload C dL_sets_162 rfl ?_
      refine z_iconst C (nI 1) dL_sets_164 (by decide) ?_
      refine z_callVr C kX5_line gL_sets_X5_line (l_line1n X.2.1 x0 h0 w0 t S 0 rr hG (by decide) hr hD0) dL_sets_165 [0, 1, 2, 3, 4, 5, 6, 7, 8] [] 0 rfl nd_0_1_2_3_4_5_6_7_8 rfl rfl rfl (by decide) (by decide) (Nat.le_of_ble_eq_true rfl) rfl ?_
      refine z_if_ge_f C 196 dL_sets_168 (by decide) (by decide) ?_
      refine z_aload_n C 0 dL_sets_171 rfl rfl ?_
      refine z_iconst C (nI 1) dL_sets_172 (by decide) ?_
      refine z_iload C dL_sets_173 rfl ?_
      refine z_iconst C (nI 1) dL_sets_175 (by decide) ?_
      refine z_callVr C kX5_line gL_sets_X5_line (l_line1n X.2.1 x0 h0 w0 t S 1 cc hG (by decide) hc hD1) dL_sets_176 [0, 1, 2, 3, 4, 5, 6, 7, 8] [] 0 rfl nd_0_1_2_3_4_5_6_7_8 rfl rfl rfl (by decide) (by decide) (Nat.le_of_ble_eq_true rfl) rfl ?_
      refine z_if_ge_f C 196 dL_sets_179 (by decide) (by decide) ?_
      refine z_aload_n C 0 dL_sets_182 rfl rfl ?_
      refine z_iconst C (nI 0) dL_sets_183 (by decide) ?_
      refine z_iload C dL_sets_184 rfl ?_
      refine z_iload C dL_sets_186 rfl ?_
      refine z_callVr C kX5_cell gL_sets_X5_cell (l_cell0 X.2.1 x0 h0 w0 t S rr cc hG hr hc) dL_sets_188 [0, 1, 2, 3, 4, 5, 6, 7, 8] [] 0 rfl nd_0_1_2_3_4_5_6_7_8 rfl rfl rfl (by decide) (by decide) (Nat.le_of_ble_eq_true rfl) rfl ?_
      refine z_iload C dL_sets_191 rfl ?_
      refine z_icmp_ne_t C 200 dL_sets_193 (by decide) hne ?_
      refine z_iconst C (nI 0) dL_sets_200 (by decide) ?_
      refine z_istore C dL_sets_201 (Nat.le_of_ble_eq_true rfl) ?_
      refine z_lv (lv' := [some (.ref x0), some (.int (nI au)), some (.int g), some (.int h), some (.int (nI (uU S 0))), some (.int (nI (uU S 1))), some (.int (nI rr)), some (.int (nI cc)), some (.int (nI v)), some (.int (nI (mK S))), some (.int (nI 1)), some (.int (nI (kS S rr cc))), some (.int (-1)), some (.int (nI 0)), some (.int (nI 0)), none, none, none]) rfl ?_
      refine z_iload C dL_sets_203 rfl ?_
      refine z_nif_eq_t C 225 dL_sets_205 (by decide) (by omega) (by omega) ?_
      refine z_iconst C (nI 0) dL_sets_225 (by decide) ?_
      refine z_istore C dL_sets_226 (Nat.le_of_ble_eq_true rfl) ?_
      refine z_lv (lv' := [some (.ref x0), some (.int (nI au)), some (.int g), some (.int h), some (.int (nI (uU S 0))), some (.int (nI (uU S 1))), some (.int (nI rr)), some (.int (nI cc)), some (.int (nI v)), some (.int (nI (mK S))), some (.int (nI 1)), some (.int (nI (kS S rr cc))), some (.int (-1)), some (.int (nI 0)), some (.int (nI 0)), some (.int (nI 0)), none, none]) rfl ?_
      refine z_iload C dL_sets_228 rfl ?_
      refine z_nif_eq_t C 238 dL_sets_230 (by decide) (by omega) (by omega) ?_
      refine z_iload C dL_sets_238 rfl ?_
      refine z_nif_ne_t C 249 dL_sets_240 (by decide) (by omega) (by omega) ?_
      refine z_iload C dL_sets_249 rfl ?_
      refine z_nif_eq_t C 259 dL_sets_251 (by decide) (by omega) (by omega) ?_
      refine z_iload C dL_sets_259 rfl ?_
      refine z_bipush C (nI 60) dL_sets_261 (by decide) ?_
      refine z_ncmp_ne_f C 271 dL_sets_263 (by decide) (by omega) (by omega) (by omega) ?_
      refine z_bipush C (-3) dL_sets_266 (by decide) ?_
      refine z_goto C 273 dL_sets_268 (by decide) ?_
      refine z_istore C dL_sets_273 (Nat.le_of_ble_eq_true rfl) ?_
      refine z_lv (lv' := [some (.ref x0), some (.int (nI au)), some (.int g), some (.int h), some (.int (nI (uU S 0))), some (.int (nI (uU S 1))), some (.int (nI rr)), some (.int (nI cc)), some (.int (nI v)), some (.int (nI (mK S))), some (.int (nI 1)), some (.int (nI (kS S rr cc))), some (.int (-1)), some (.int (nI 0)), some (.int (nI 0)), some (.int (nI 0)), some (.int (-3)), none]) rfl ?_
      refine z_aload_n C 0 dL_sets_275 rfl rfl ?_
      refine z_iload_n C 1 dL_sets_276 rfl rfl ?_
      refine z_iload C dL_sets_277 rfl ?_
      refine z_iload C dL_sets_279 rfl ?_
      refine z_iload C dL_sets_281 rfl ?_
      refine z_callV (wn := (WRd X.2.1 x0 h0 h1 w0 w1 t r S o1 kp1 Q1 tx ln ps)) C kX5_set gL_sets_X5_set m1 dL_sets_283 [0, 1, 2, 3, 4, 5, 6, 7, 8, 9, 10, 11, 12, 13, 14, 15, 16, 17, 18, 19, 20, 21, 22, 23, 24, 25, 26, 27, 28, 29, 30, 31, 32, 33, 34, 35, 36, 37, 38, 39, 40, 41, 42, 43, 44, 45, 46, 47, 48, 49, 50] [] 0 rfl rfl nd_0_1_2_3_4_5_6_7_8_9_10_11_12_13_14_15_16_17_18_19_20_21_22_23_24_25_26_27_28_29_30_31_32_33_34_35_36_37_38_39_40_41_42_43_44_45_46_47_48_49_50 rfl rfl rfl (by decide) (by decide) (Nat.le_of_ble_eq_true rfl) rfl ((zput_par nd_0_1_2_3_4_5_6_7_8_9_10_11_12_13_14_15_16_17_18_19_20_21_22_23_24_25_26_27_28_29_30_31_32_33_34_35_36_37_38_39_40_41_42_43_44_45_46_47_48_49_50 rfl).trans rfl) ?_
      refine z_iload C dL_sets_286 rfl ?_
      refine z_icmp_ne_f C 308 dL_sets_288 (by decide) rfl ?_
      refine z_aload_n C 0 dL_sets_291 rfl rfl ?_
      refine z_iload_n C 1 dL_sets_292 rfl rfl ?_
      refine z_iload C dL_sets_293 rfl ?_
      refine z_iload C dL_sets_295 rfl ?_
      refine z_sipush C (nI 10000) dL_sets_297 (by decide) ?_
      refine z_callV (wn := (WRd X.2.1 x0 h0 h1 w0 w1 t r S o2 kp2 Q2 tx ln ps)) C kX5_set gL_sets_X5_set m2 dL_sets_300 [0, 1, 2, 3, 4, 5, 6, 7, 8, 9, 10, 11, 12, 13, 14, 15, 16, 17, 18, 19, 20, 21, 22, 23, 24, 25, 26, 27, 28, 29, 30, 31, 32, 33, 34, 35, 36, 37, 38, 39, 40, 41, 42, 43, 44, 45, 46, 47, 48, 49, 50] [] 0 rfl rfl nd_0_1_2_3_4_5_6_7_8_9_10_11_12_13_14_15_16_17_18_19_20_21_22_23_24_25_26_27_28_29_30_31_32_33_34_35_36_37_38_39_40_41_42_43_44_45_46_47_48_49_50 rfl rfl rfl (by decide) (by decide) (Nat.le_of_ble_eq_true rfl) rfl ((zput_par nd_0_1_2_3_4_5_6_7_8_9_10_11_12_13_14_15_16_17_18_19_20_21_22_23_24_25_26_27_28_29_30_31_32_33_34_35_36_37_38_39_40_41_42_43_44_45_46_47_48_49_50 rfl).trans rfl) ?_
      refine z_bipush C (-2) dL_sets_303 (by decide) ?_
      refine z_icmp_eq_t C 310 dL_sets_305 (by decide) rfl ?_
      refine z_iload C dL_sets_310 rfl ?_
      refine z_if_ge_f C 336 dL_sets_312 (by decide) (by decide) ?_
      refine z_aload_n C 0 dL_sets_315 rfl rfl ?_
      refine z_iload C dL_sets_316 rfl ?_
      refine z_iload C dL_sets_318 rfl ?_
      refine z_iload C dL_sets_320 rfl ?_
      refine z_callVr C kX5_setting gL_sets_X5_setting (l_setN X.2.1 x0 h0 w0 t S rr cc (kS S rr cc) hG hr hc hn (by omega)) dL_sets_322 [0, 1, 2, 3, 4, 5, 6, 7, 8] [] 0 rfl nd_0_1_2_3_4_5_6_7_8 rfl rfl rfl (by decide) (by decide) (Nat.le_of_ble_eq_true rfl) rfl ?_
      refine z_bipush C (-5) dL_sets_325 (by decide) ?_
      refine z_icmp_ne_f C 334 dL_sets_327 (by decide) rfl ?_
      refine z_iconst C (nI 1) dL_sets_330 (by decide) ?_
      refine z_goto C 335 dL_sets_331 (by decide) ?_
      exact z_zret C N dL_sets_335 rfl (rfl) (rfl)
  exact hL95 _ 0 rfl (by omega)

set_option maxHeartbeats 4000000 in
set_option maxRecDepth 100000 in
theorem w_sett0 (E : zE) (x0 h0 h1 w0 w1 : Nat) (t : Nat → Nat) (r : Nat → Nat → Nat) (S S1 : zSt) (o kp kp1 kp2 o1 o2 : Nat) (Q Q1 Q2 : Nat → zSt) (tx : Nat → Nat) (ln : Nat) (ps : zPs) {B B1 : Nat} (au : Nat) (g h : Int32) (rr cc v : Nat) (hG : GG S B) (hG1 : GG S1 B1) (hau : au < 4) (hR : lw g (uU S 0) = rr) (hr : rr < uU S 0) (hC : lw (g >>> (nI 4 &&& 31)) (uU S 1) = cc) (hc : cc < uU S 1) (hV : lw h 5 = v) (hv : v < 5) (hD0 : Dm S 0 rr = false) (hD1 : Dm S 1 cc = false) (hne : ¬ cV S rr cc = nI v) (hu0 : uU S1 0 = uU S 0) (hu1 : uU S1 1 = uU S 1) (hc1 : cV S1 rr cc = nI v) (ht : tK S = true) (hk0 : kS S rr cc = 0) (hm : mK S < 60) (hk : kS S1 rr cc = kS S rr cc + 1) (m1 : zM E yX5_set wsX5_set 6 [.ref x0, .int (nI au), .int (nI rr), .int (nI cc), .int (nI v)] (WAd E x0 h0 h1 w0 t r S o kp Q) (WAd E x0 h0 h1 w0 t r S1 o1 kp1 Q1) (some (.int (nI (mK S))))) (m2 : zM E yX5_set wsX5_set 6 [.ref x0, .int (nI au), .int (nI rr), .int (nI cc), .int (nI 10000)] (WAd E x0 h0 h1 w0 t r S1 o1 kp1 Q1) (WAd E x0 h0 h1 w0 t r S1 o2 kp2 Q2) (some (.int (-2)))) : zM E yL_sets wsL_sets 7 [.ref x0, .int (nI au), .int g, .int h] (WRd E x0 h0 h1 w0 w1 t r S o kp Q tx ln ps) (WRd E x0 h0 h1 w0 w1 t r S1 o2 kp2 Q2 tx ln ps) (some (.int (nI 1))) := by
  refine zM.of kL_sets (Nat.le_of_ble_eq_true rfl) rfl [some (.ref x0), some (.int (nI au)), some (.int g), some (.int h), none, none, none, none, none, none, none, none, none, none, none, none, none, none] rfl (Nat.le_of_ble_eq_true rfl) ?_
  intro X eX C N
  subst eX
  have hb0 : uU S 0 ≤ 12 := gg_u hG 0
  have hb1 : uU S 1 ≤ 8 := gg_u1 hG
  have hb2 : mK S ≤ 60 := gg_M hG
  have hb3 : uU S1 0 ≤ 12 := gg_u hG1 0
  have hb4 : uU S1 1 ≤ 8 := gg_u1 hG1
  have hb5 : mK S1 ≤ 60 := gg_M hG1
  have hks : kS S rr cc ≤ mK S := zc_le _ _
  refine z_aload_n C 0 dL_sets_0 rfl rfl ?_
  refine z_iconst C (nI 0) dL_sets_1 (by decide) ?_
  refine z_iconst C (nI 0) dL_sets_2 (by decide) ?_
  refine z_callVr C kX5_size gL_sets_X5_size (l_size0 X.2.1 x0 h0 w0 t S 0 hG (by decide)) dL_sets_3 [0, 1, 2, 3, 4, 5, 6, 7, 8] [] 0 rfl nd_0_1_2_3_4_5_6_7_8 rfl rfl rfl (by decide) (by decide) (Nat.le_of_ble_eq_true rfl) rfl ?_
  refine z_istore C dL_sets_6 (Nat.le_of_ble_eq_true rfl) ?_
  refine z_lv (lv' := [some (.ref x0), some (.int (nI au)), some (.int g), some (.int h), some (.int (nI (uU S 0))), none, none, none, none, none, none, none, none, none, none, none, none, none]) rfl ?_
  refine z_aload_n C 0 dL_sets_8 rfl rfl ?_
  refine z_iconst C (nI 0) dL_sets_9 (by decide) ?_
  refine z_iconst C (nI 1) dL_sets_10 (by decide) ?_
  refine z_callVr C kX5_size gL_sets_X5_size (l_size0 X.2.1 x0 h0 w0 t S 1 hG (by decide)) dL_sets_11 [0, 1, 2, 3, 4, 5, 6, 7, 8] [] 0 rfl nd_0_1_2_3_4_5_6_7_8 rfl rfl rfl (by decide) (by decide) (Nat.le_of_ble_eq_true rfl) rfl ?_
  refine z_istore C dL_sets_14 (Nat.le_of_ble_eq_true rfl) ?_
  refine z_lv (lv' := [some (.ref x0), some (.int (nI au)), some (.int g), some (.int h), some (.int (nI (uU S 0))), some (.int (nI (uU S 1))), none, none, none, none, none, none, none, none, none, none, none, none]) rfl ?_
  refine z_iload C dL_sets_16 rfl ?_
  refine z_nif_eq_f C 26 dL_sets_18 (by decide) (by omega) (by omega) ?_
  refine z_iload C dL_sets_21 rfl ?_
  refine z_nif_ne_t C 44 dL_sets_23 (by decide) (by omega) (by omega) ?_
  refine z_iload_n C 2 dL_sets_44 rfl rfl ?_
  refine z_iload C dL_sets_45 rfl ?_
  refine z_callS C kL_low gL_sets_L_low (l_low X.2.1 g (uU S 0) (by omega) (by omega)) dL_sets_47 [] rfl (by decide) (by decide) (Nat.le_of_ble_eq_true rfl) rfl ?_
  refine z_top (y := nI rr) (congrArg nI hR) ?_
  refine z_istore C dL_sets_50 (Nat.le_of_ble_eq_true rfl) ?_
  refine z_lv (lv' := [some (.ref x0), some (.int (nI au)), some (.int g), some (.int h), some (.int (nI (uU S 0))), some (.int (nI (uU S 1))), some (.int (nI rr)), none, none, none, none, none, none, none, none, none, none, none]) rfl ?_
  refine z_iload_n C 2 dL_sets_52 rfl rfl ?_
  refine z_iconst C (nI 4) dL_sets_53 (by decide) ?_
  refine z_ishr C dL_sets_54 ?_
  refine z_iload C dL_sets_55 rfl ?_
  refine z_callS C kL_low gL_sets_L_low (l_low X.2.1 (g >>> ((nI 4) &&& 31)) (uU S 1) (by omega) (by omega)) dL_sets_57 [] rfl (by decide) (by decide) (Nat.le_of_ble_eq_true rfl) rfl ?_
  refine z_top (y := nI cc) (congrArg nI hC) ?_
  refine z_istore C dL_sets_60 (Nat.le_of_ble_eq_true rfl) ?_
  refine z_lv (lv' := [some (.ref x0), some (.int (nI au)), some (.int g), some (.int h), some (.int (nI (uU S 0))), some (.int (nI (uU S 1))), some (.int (nI rr)), some (.int (nI cc)), none, none, none, none, none, none, none, none, none, none]) rfl ?_
  refine z_iload_n C 3 dL_sets_62 rfl rfl ?_
  refine z_iconst C (nI 5) dL_sets_63 (by decide) ?_
  refine z_callS C kL_low gL_sets_L_low (l_low X.2.1 h 5 (by decide) (by decide)) dL_sets_64 [] rfl (by decide) (by decide) (Nat.le_of_ble_eq_true rfl) rfl ?_
  refine z_top (y := nI v) (congrArg nI hV) ?_
  refine z_istore C dL_sets_67 (Nat.le_of_ble_eq_true rfl) ?_
  refine z_lv (lv' := [some (.ref x0), some (.int (nI au)), some (.int g), some (.int h), some (.int (nI (uU S 0))), some (.int (nI (uU S 1))), some (.int (nI rr)), some (.int (nI cc)), some (.int (nI v)), none, none, none, none, none, none, none, none, none]) rfl ?_
  refine z_aload_n C 0 dL_sets_69 rfl rfl ?_
  refine z_iconst C (nI 0) dL_sets_70 (by decide) ?_
  refine z_callVr C kX5_count gL_sets_X5_count (l_cnt0 X.2.1 x0 h0 h1 w0 w1 t S o kp ln ps  hG ) dL_sets_71 [0, 1, 2, 3, 4, 5, 6, 7, 8, 9, 51] [] 0 rfl nd_0_1_2_3_4_5_6_7_8_9_51 rfl rfl rfl (by decide) (by decide) (Nat.le_of_ble_eq_true rfl) rfl ?_
  refine z_istore C dL_sets_74 (Nat.le_of_ble_eq_true rfl) ?_
  refine z_lv (lv' := [some (.ref x0), some (.int (nI au)), some (.int g), some (.int h), some (.int (nI (uU S 0))), some (.int (nI (uU S 1))), some (.int (nI rr)), some (.int (nI cc)), some (.int (nI v)), some (.int (nI (mK S))), none, none, none, none, none, none, none, none]) rfl ?_
  refine z_aload_n C 0 dL_sets_76 rfl rfl ?_
  refine z_iconst C (nI 5) dL_sets_77 (by decide) ?_
  refine z_callVr C kX5_count gL_sets_X5_count (l_cnt5y X.2.1 x0 h0 h1 w0 w1 t S o kp ln ps  hG ht) dL_sets_78 [0, 1, 2, 3, 4, 5, 6, 7, 8, 9, 51] [] 0 rfl nd_0_1_2_3_4_5_6_7_8_9_51 rfl rfl rfl (by decide) (by decide) (Nat.le_of_ble_eq_true rfl) rfl ?_
  refine z_iconst C (nI 1) dL_sets_81 (by decide) ?_
  refine z_ncmp_ne_f C 89 dL_sets_82 (by decide) (by omega) (by omega) (by omega) ?_
  refine z_iconst C (nI 1) dL_sets_85 (by decide) ?_
  refine z_goto C 90 dL_sets_86 (by decide) ?_
  refine z_istore C dL_sets_90 (Nat.le_of_ble_eq_true rfl) ?_
  refine z_lv (lv' := [some (.ref x0), some (.int (nI au)), some (.int g), some (.int h), some (.int (nI (uU S 0))), some (.int (nI (uU S 1))), some (.int (nI rr)), some (.int (nI cc)), some (.int (nI v)), some (.int (nI (mK S))), some (.int (nI 1)), none, none, none, none, none, none, none]) rfl ?_
  refine z_iconst C (nI 0) dL_sets_92 (by decide) ?_
  refine z_istore C dL_sets_93 (Nat.le_of_ble_eq_true rfl) ?_
  refine z_lv (lv' := [some (.ref x0), some (.int (nI au)), some (.int g), some (.int h), some (.int (nI (uU S 0))), some (.int (nI (uU S 1))), some (.int (nI rr)), some (.int (nI cc)), some (.int (nI v)), some (.int (nI (mK S))), some (.int (nI 1)), some (.int (nI 0)), none, none, none, none, none, none]) rfl ?_
  have hL95 : ∀ (dd95 : Nat) (n : Nat), kS S rr cc - n = dd95 → (n ≤ kS S rr cc) → zG X 0 0 (WRd X.2.1 x0 h0 h1 w0 w1 t r S o kp Q tx ln ps) [some (.ref x0), some (.int (nI au)), some (.int g), some (.int h), some (.int (nI (uU S 0))), some (.int (nI (uU S 1))), some (.int (nI rr)), some (.int (nI cc)), some (.int (nI v)), some (.int (nI (mK S))), some (.int (nI 1)), some (.int (nI n)), none, none, none, none, none, none] [] 95 := by
    intro dd95
    induction dd95 using Nat.strongRecOn with
    | _ dd95 ih95 =>
      intro n hdd95 hn
      refine z_aload_n C 0 dL_sets_95 rfl rfl ?_
      refine z_iload C dL_sets_96 rfl ?_
      refine z_iload C dL_sets_98 rfl ?_
      refine z_iload C dL_sets_100 rfl ?_
      refine z_callVr C kX5_setting gL_sets_X5_setting (l_setN X.2.1 x0 h0 w0 t S rr cc n hG hr hc (by omega) (by omega)) dL_sets_102 [0, 1, 2, 3, 4, 5, 6, 7, 8] [] 0 rfl nd_0_1_2_3_4_5_6_7_8 rfl rfl rfl (by decide) (by decide) (Nat.le_of_ble_eq_true rfl) rfl ?_
      refine z_if_lt_t C 114 dL_sets_105 (by decide) (by decide) ?_
      obtain rfl : n = kS S rr cc := (by omega)
      refine z_iload C dL_sets_114 rfl ?_
      refine z_nif_ne_f C 123 dL_sets_116 (by decide) (by omega) (by omega) ?_
      refine z_iconst C (-1) dL_sets_119 (by decide) ?_
      refine z_goto C 135 dL_sets_120 (by decide) ?_
      refine z_istore C dL_sets_135 (Nat.le_of_ble_eq_true rfl) ?_
      refine z_lv (lv' := [some (.ref x0), some (.int (nI au)), some (.int g), some (.int h), some (.int (nI (uU S 0))), some (.int (nI (uU S 1))), some (.int (nI rr)), some (.int (nI cc)), some (.int (nI v)), some (.int (nI (mK S))), some (.int (nI 1)), some (.int (nI (kS S rr cc))), some (.int (-1)), none, none, none, none, none]) rfl ?_
      refine z_iload C dL_sets_137 rfl ?_
      refine z_if_lt_t C 157 dL_sets_139 (by decide) (by decide) ?_
      refine z_iconst C (nI 0) dL_sets_157 (by decide) ?_
      refine z_istore C dL_sets_158 (Nat.le_of_ble_eq_true rfl) ?_
      refine z_lv (lv' := [some (.ref x0), some (.int (nI au)), some (.int g), some (.int h), some (.int (nI (uU S 0))), some (.int (nI (uU S 1))), some (.int (nI rr)), some (.int (nI cc)), some (.int (nI v)), some (.int (nI (mK S))), some (.int (nI 1)), some (.int (nI (kS S rr cc))), some (.int (-1)), some (.int (nI 0)), none, none, none, none]) rfl ?_
      refine z_aload_n C 0 dL_sets_160 rfl rfl ?_
      refine z_iconst C (nI 0) dL_sets_161 (by decide) ?_
      refine z_iload C dL_sets_162 rfl ?_
      refine z_iconst C (nI 1) dL_sets_164 (by decide) ?_
      refine z_callVr C kX5_line gL_sets_X5_line (l_line1n X.2.1 x0 h0 w0 t S 0 rr hG (by decide) hr hD0) dL_sets_165 [0, 1, 2, 3, 4, 5, 6, 7, 8] [] 0 rfl nd_0_1_2_3_4_5_6_7_8 rfl rfl rfl (by decide) (by decide) (Nat.le_of_ble_eq_true rfl) rfl ?_
      refine z_if_ge_f C 196 dL_sets_168 (by decide) (by decide) ?_
      refine z_aload_n C 0 dL_sets_171 rfl rfl ?_
      refine z_iconst C (nI 1) dL_sets_172 (by decide) ?_
      refine z_iload C dL_sets_173 rfl ?_
      refine z_iconst C (nI 1) dL_sets_175 (by decide) ?_
      refine z_callVr C kX5_line gL_sets_X5_line (l_line1n X.2.1 x0 h0 w0 t S 1 cc hG (by decide) hc hD1) dL_sets_176 [0, 1, 2, 3, 4, 5, 6, 7, 8] [] 0 rfl nd_0_1_2_3_4_5_6_7_8 rfl rfl rfl (by decide) (by decide) (Nat.le_of_ble_eq_true rfl) rfl ?_
      refine z_if_ge_f C 196 dL_sets_179 (by decide) (by decide) ?_
      refine z_aload_n C 0 dL_sets_182 rfl rfl ?_
      refine z_iconst C (nI 0) dL_sets_183 (by decide) ?_
      refine z_iload C dL_sets_184 rfl ?_
      refine z_iload C dL_sets_186 rfl ?_
      refine z_callVr C kX5_cell gL_sets_X5_cell (l_cell0 X.2.1 x0 h0 w0 t S rr cc hG hr hc) dL_sets_188 [0, 1, 2, 3, 4, 5, 6, 7, 8] [] 0 rfl nd_0_1_2_3_4_5_6_7_8 rfl rfl rfl (by decide) (by decide) (Nat.le_of_ble_eq_true rfl) rfl ?_
      refine z_iload C dL_sets_191 rfl ?_
      refine z_icmp_ne_t C 200 dL_sets_193 (by decide) hne ?_
      refine z_iconst C (nI 0) dL_sets_200 (by decide) ?_
      refine z_istore C dL_sets_201 (Nat.le_of_ble_eq_true rfl) ?_
      refine z_lv (lv' := [some (.ref x0), some (.int (nI au)), some (.int g), some (.int h), some (.int (nI (uU S 0))), some (.int (nI (uU S 1))), some (.int (nI rr)), some (.int (nI cc)), some (.int (nI v)), some (.int (nI (mK S))), some (.int (nI 1)), some (.int (nI (kS S rr cc))), some (.int (-1)), some (.int (nI 0)), some (.int (nI 0)), none, none, none]) rfl ?_
      refine z_iload C dL_sets_203 rfl ?_
      refine z_nif_eq_t C 225 dL_sets_205 (by decide) (by omega) (by omega) ?_
      refine z_iconst C (nI 0) dL_sets_225 (by decide) ?_
      refine z_istore C dL_sets_226 (Nat.le_of_ble_eq_true rfl) ?_
      refine z_lv (lv' := [some (.ref x0), some (.int (nI au)), some (.int g), some (.int h), some (.int (nI (uU S 0))), some (.int (nI (uU S 1))), some (.int (nI rr)), some (.int (nI cc)), some (.int (nI v)), some (.int (nI (mK S))), some (.int (nI 1)), some (.int (nI (kS S rr cc))), some (.int (-1)), some (.int (nI 0)), some (.int (nI 0)), some (.int (nI 0)), none, none]) rfl ?_
      refine z_iload C dL_sets_228 rfl ?_
      refine z_nif_eq_t C 238 dL_sets_230 (by decide) (by omega) (by omega) ?_
      refine z_iload C dL_sets_238 rfl ?_
      refine z_nif_ne_t C 249 dL_sets_240 (by decide) (by omega) (by omega) ?_
      refine z_iload C dL_sets_249 rfl ?_
      refine z_nif_eq_t C 259 dL_sets_251 (by decide) (by omega) (by omega) ?_
      refine z_iload C dL_sets_259 rfl ?_
      refine z_bipush C (nI 60) dL_sets_261 (by decide) ?_
      refine z_ncmp_ne_t C 271 dL_sets_263 (by decide) (by omega) (by omega) (by omega) ?_
      refine z_iload C dL_sets_271 rfl ?_
      refine z_istore C dL_sets_273 (Nat.le_of_ble_eq_true rfl) ?_
      refine z_lv (lv' := [some (.ref x0), some (.int (nI au)), some (.int g), some (.int h), some (.int (nI (uU S 0))), some (.int (nI (uU S 1))), some (.int (nI rr)), some (.int (nI cc)), some (.int (nI v)), some (.int (nI (mK S))), some (.int (nI 1)), some (.int (nI (kS S rr cc))), some (.int (-1)), some (.int (nI 0)), some (.int (nI 0)), some (.int (nI 0)), some (.int (nI (mK S))), none]) rfl ?_
      refine z_aload_n C 0 dL_sets_275 rfl rfl ?_
      refine z_iload_n C 1 dL_sets_276 rfl rfl ?_
      refine z_iload C dL_sets_277 rfl ?_
      refine z_iload C dL_sets_279 rfl ?_
      refine z_iload C dL_sets_281 rfl ?_
      refine z_callV (wn := (WRd X.2.1 x0 h0 h1 w0 w1 t r S1 o1 kp1 Q1 tx ln ps)) C kX5_set gL_sets_X5_set m1 dL_sets_283 [0, 1, 2, 3, 4, 5, 6, 7, 8, 9, 10, 11, 12, 13, 14, 15, 16, 17, 18, 19, 20, 21, 22, 23, 24, 25, 26, 27, 28, 29, 30, 31, 32, 33, 34, 35, 36, 37, 38, 39, 40, 41, 42, 43, 44, 45, 46, 47, 48, 49, 50] [] 0 rfl rfl nd_0_1_2_3_4_5_6_7_8_9_10_11_12_13_14_15_16_17_18_19_20_21_22_23_24_25_26_27_28_29_30_31_32_33_34_35_36_37_38_39_40_41_42_43_44_45_46_47_48_49_50 rfl rfl rfl (by decide) (by decide) (Nat.le_of_ble_eq_true rfl) rfl ((zput_par nd_0_1_2_3_4_5_6_7_8_9_10_11_12_13_14_15_16_17_18_19_20_21_22_23_24_25_26_27_28_29_30_31_32_33_34_35_36_37_38_39_40_41_42_43_44_45_46_47_48_49_50 rfl).trans rfl) ?_
      refine z_iload C dL_sets_286 rfl ?_
      refine z_ncmp_ne_f C 308 dL_sets_288 (by decide) (by omega) (by omega) (by omega) ?_
      refine z_aload_n C 0 dL_sets_291 rfl rfl ?_
      refine z_iload_n C 1 dL_sets_292 rfl rfl ?_
      refine z_iload C dL_sets_293 rfl ?_
      refine z_iload C dL_sets_295 rfl ?_
      refine z_sipush C (nI 10000) dL_sets_297 (by decide) ?_
      refine z_callV (wn := (WRd X.2.1 x0 h0 h1 w0 w1 t r S1 o2 kp2 Q2 tx ln ps)) C kX5_set gL_sets_X5_set m2 dL_sets_300 [0, 1, 2, 3, 4, 5, 6, 7, 8, 9, 10, 11, 12, 13, 14, 15, 16, 17, 18, 19, 20, 21, 22, 23, 24, 25, 26, 27, 28, 29, 30, 31, 32, 33, 34, 35, 36, 37, 38, 39, 40, 41, 42, 43, 44, 45, 46, 47, 48, 49, 50] [] 0 rfl rfl nd_0_1_2_3_4_5_6_7_8_9_10_11_12_13_14_15_16_17_18_19_20_21_22_23_24_25_26_27_28_29_30_31_32_33_34_35_36_37_38_39_40_41_42_43_44_45_46_47_48_49_50 rfl rfl rfl (by decide) (by decide) (Nat.le_of_ble_eq_true rfl) rfl ((zput_par nd_0_1_2_3_4_5_6_7_8_9_10_11_12_13_14_15_16_17_18_19_20_21_22_23_24_25_26_27_28_29_30_31_32_33_34_35_36_37_38_39_40_41_42_43_44_45_46_47_48_49_50 rfl).trans rfl) ?_
      refine z_bipush C (-2) dL_sets_303 (by decide) ?_
      refine z_icmp_eq_t C 310 dL_sets_305 (by decide) rfl ?_
      refine z_iload C dL_sets_310 rfl ?_
      refine z_nif_ge_t C 336 dL_sets_312 (by decide) (by omega) (by trivial) ?_
      refine z_iload C dL_sets_336 rfl ?_
      refine z_nif_ne_t C 345 dL_sets_338 (by decide) (by omega) (by omega) ?_
      refine z_iload C dL_sets_345 rfl ?_
      refine z_nif_ne_f C 357 dL_sets_347 (by decide) (by omega) (by omega) ?_
      refine z_iload C dL_sets_350 rfl ?_
      refine z_iconst C (nI 1) dL_sets_352 (by decide) ?_
      refine z_iadd C dL_sets_353 ?_
      refine z_top (y := nI ((kS S rr cc) + 1)) (nI_add _ _) ?_
      refine z_goto C 371 dL_sets_354 (by decide) ?_
      refine z_istore C dL_sets_371 (Nat.le_of_ble_eq_true rfl) ?_
      refine z_lv (lv' := [some (.ref x0), some (.int (nI au)), some (.int g), some (.int h), some (.int (nI (uU S 0))), some (.int (nI (uU S 1))), some (.int (nI rr)), some (.int (nI cc)), some (.int (nI v)), some (.int (nI (mK S))), some (.int (nI 1)), some (.int (nI (kS S rr cc))), some (.int (-1)), some (.int (nI 0)), some (.int (nI 0)), some (.int (nI 0)), some (.int (nI (mK S))), some (.int (nI ((kS S rr cc) + 1)))]) rfl ?_
      refine z_aload_n C 0 dL_sets_373 rfl rfl ?_
      refine z_iconst C (nI 0) dL_sets_374 (by decide) ?_
      refine z_iload C dL_sets_375 rfl ?_
      refine z_iload C dL_sets_377 rfl ?_
      refine z_callVr C kX5_cell gL_sets_X5_cell (l_cell0 X.2.1 x0 h0 w0 t S1 rr cc hG1 (by omega) (by omega)) dL_sets_379 [0, 1, 2, 3, 4, 5, 6, 7, 8] [] 0 rfl nd_0_1_2_3_4_5_6_7_8 rfl rfl rfl (by decide) (by decide) (Nat.le_of_ble_eq_true rfl) rfl ?_
      refine z_iload C dL_sets_382 rfl ?_
      refine z_icmp_ne_f C 426 dL_sets_384 (by decide) hc1 ?_
      refine z_aload_n C 0 dL_sets_387 rfl rfl ?_
      refine z_iload C dL_sets_388 rfl ?_
      refine z_iload C dL_sets_390 rfl ?_
      refine z_iload C dL_sets_392 rfl ?_
      refine z_callVr C kX5_setting gL_sets_X5_setting (l_setN X.2.1 x0 h0 w0 t S1 rr cc ((kS S rr cc) + 1) hG1 (by omega) (by omega) (by omega) (by omega)) dL_sets_394 [0, 1, 2, 3, 4, 5, 6, 7, 8] [] 0 rfl nd_0_1_2_3_4_5_6_7_8 rfl rfl rfl (by decide) (by decide) (Nat.le_of_ble_eq_true rfl) rfl ?_
      refine z_bipush C (-5) dL_sets_397 (by decide) ?_
      refine z_icmp_ne_f C 426 dL_sets_399 (by decide) rfl ?_
      refine z_iload C dL_sets_402 rfl ?_
      refine z_nif_eq_f C 422 dL_sets_404 (by decide) (by omega) (by omega) ?_
      refine z_aload_n C 0 dL_sets_407 rfl rfl ?_
      refine z_iload C dL_sets_408 rfl ?_
      refine z_iload C dL_sets_410 rfl ?_
      refine z_iload C dL_sets_412 rfl ?_
      refine z_iconst C (nI 1) dL_sets_414 (by decide) ?_
      refine z_isub C dL_sets_415 ?_
      refine z_top (y := nI (kS S rr cc)) ((pk_sub (by omega)).trans (congrArg nI (by omega))) ?_
      refine z_callVr C kX5_setting gL_sets_X5_setting (l_setY X.2.1 x0 h0 w0 t S1 rr cc (kS S rr cc) hG1 (by omega) (by omega) (by omega)) dL_sets_416 [0, 1, 2, 3, 4, 5, 6, 7, 8] [] 0 rfl nd_0_1_2_3_4_5_6_7_8 rfl rfl rfl (by decide) (by decide) (Nat.le_of_ble_eq_true rfl) rfl ?_
      have hg_1 : sX S1 rr cc (kS S rr cc) < mK S1 := (sX_t hG1 (by omega)).1
      refine z_nif_lt_f C 426 dL_sets_419 (by decide) (by omega) (by trivial) ?_
      refine z_iconst C (nI 1) dL_sets_422 (by decide) ?_
      refine z_goto C 427 dL_sets_423 (by decide) ?_
      exact z_zret C N dL_sets_427 rfl (rfl) (rfl)
  exact hL95 _ 0 rfl (by omega)

set_option maxHeartbeats 4000000 in
set_option maxRecDepth 100000 in
theorem w_setf1 (E : zE) (x0 h0 h1 w0 w1 : Nat) (t : Nat → Nat) (r : Nat → Nat → Nat) (S : zSt) (o kp kp1 kp2 o1 o2 : Nat) (Q Q1 Q2 : Nat → zSt) (tx : Nat → Nat) (ln : Nat) (ps : zPs) {B : Nat} (au : Nat) (g h : Int32) (rr cc v : Nat) (hG : GG S B) (hau : au < 4) (hR : lw g (uU S 0) = rr) (hr : rr < uU S 0) (hC : lw (g >>> (nI 4 &&& 31)) (uU S 1) = cc) (hc : cc < uU S 1) (hV : lw h 5 = v) (hv : v < 5) (hD0 : Dm S 0 rr = false) (hD1 : Dm S 1 cc = false) (hne : ¬ cV S rr cc = nI v) (ht : tK S = true) (hk0 : 0 < kS S rr cc) (how : aN S (sX S rr cc (kS S rr cc - 1)) ≠ au) (hm : mK S = 60) (m1 : zM E yX5_set wsX5_set 6 [.ref x0, .int (nI au), .int (nI rr), .int (nI cc), .int (nI v)] (WAd E x0 h0 h1 w0 t r S o kp Q) (WAd E x0 h0 h1 w0 t r S o1 kp1 Q1) (some (.int (-3)))) (m2 : zM E yX5_set wsX5_set 6 [.ref x0, .int (nI au), .int (nI rr), .int (nI cc), .int (nI 10000)] (WAd E x0 h0 h1 w0 t r S o1 kp1 Q1) (WAd E x0 h0 h1 w0 t r S o2 kp2 Q2) (some (.int (-2)))) : zM E yL_sets wsL_sets 7 [.ref x0, .int (nI au), .int g, .int h] (WRd E x0 h0 h1 w0 w1 t r S o kp Q tx ln ps) (WRd E x0 h0 h1 w0 w1 t r S o2 kp2 Q2 tx ln ps) (some (.int (nI 1))) := by
  refine zM.of kL_sets (Nat.le_of_ble_eq_true rfl) rfl [some (.ref x0), some (.int (nI au)), some (.int g), some (.int h), none, none, none, none, none, none, none, none, none, none, none, none, none, none] rfl (Nat.le_of_ble_eq_true rfl) ?_
  intro X eX C N
  subst eX
  have hb0 : uU S 0 ≤ 12 := gg_u hG 0
  have hb1 : uU S 1 ≤ 8 := gg_u1 hG
  have hb2 : mK S ≤ 60 := gg_M hG
  have hks : kS S rr cc ≤ mK S := zc_le _ _
  refine z_aload_n C 0 dL_sets_0 rfl rfl ?_
  refine z_iconst C (nI 0) dL_sets_1 (by decide) ?_
  refine z_iconst C (nI 0) dL_sets_2 (by decide) ?_
  refine z_callVr C kX5_size gL_sets_X5_size (l_size0 X.2.1 x0 h0 w0 t S 0 hG (by decide)) dL_sets_3 [0, 1, 2, 3, 4, 5, 6, 7, 8] [] 0 rfl nd_0_1_2_3_4_5_6_7_8 rfl rfl rfl (by decide) (by decide) (Nat.le_of_ble_eq_true rfl) rfl ?_
  refine z_istore C dL_sets_6 (Nat.le_of_ble_eq_true rfl) ?_
  refine z_lv (lv' := [some (.ref x0), some (.int (nI au)), some (.int g), some (.int h), some (.int (nI (uU S 0))), none, none, none, none, none, none, none, none, none, none, none, none, none]) rfl ?_
  refine z_aload_n C 0 dL_sets_8 rfl rfl ?_
  refine z_iconst C (nI 0) dL_sets_9 (by decide) ?_
  refine z_iconst C (nI 1) dL_sets_10 (by decide) ?_
  refine z_callVr C kX5_size gL_sets_X5_size (l_size0 X.2.1 x0 h0 w0 t S 1 hG (by decide)) dL_sets_11 [0, 1, 2, 3, 4, 5, 6, 7, 8] [] 0 rfl nd_0_1_2_3_4_5_6_7_8 rfl rfl rfl (by decide) (by decide) (Nat.le_of_ble_eq_true rfl) rfl ?_
  refine z_istore C dL_sets_14 (Nat.le_of_ble_eq_true rfl) ?_
  refine z_lv (lv' := [some (.ref x0), some (.int (nI au)), some (.int g), some (.int h), some (.int (nI (uU S 0))), some (.int (nI (uU S 1))), none, none, none, none, none, none, none, none, none, none, none, none]) rfl ?_
  refine z_iload C dL_sets_16 rfl ?_
  refine z_nif_eq_f C 26 dL_sets_18 (by decide) (by omega) (by omega) ?_
  refine z_iload C dL_sets_21 rfl ?_
  refine z_nif_ne_t C 44 dL_sets_23 (by decide) (by omega) (by omega) ?_
  refine z_iload_n C 2 dL_sets_44 rfl rfl ?_
  refine z_iload C dL_sets_45 rfl ?_
  refine z_callS C kL_low gL_sets_L_low (l_low X.2.1 g (uU S 0) (by omega) (by omega)) dL_sets_47 [] rfl (by decide) (by decide) (Nat.le_of_ble_eq_true rfl) rfl ?_
  refine z_top (y := nI rr) (congrArg nI hR) ?_
  refine z_istore C dL_sets_50 (Nat.le_of_ble_eq_true rfl) ?_
  refine z_lv (lv' := [some (.ref x0), some (.int (nI au)), some (.int g), some (.int h), some (.int (nI (uU S 0))), some (.int (nI (uU S 1))), some (.int (nI rr)), none, none, none, none, none, none, none, none, none, none, none]) rfl ?_
  refine z_iload_n C 2 dL_sets_52 rfl rfl ?_
  refine z_iconst C (nI 4) dL_sets_53 (by decide) ?_
  refine z_ishr C dL_sets_54 ?_
  refine z_iload C dL_sets_55 rfl ?_
  refine z_callS C kL_low gL_sets_L_low (l_low X.2.1 (g >>> ((nI 4) &&& 31)) (uU S 1) (by omega) (by omega)) dL_sets_57 [] rfl (by decide) (by decide) (Nat.le_of_ble_eq_true rfl) rfl ?_
  refine z_top (y := nI cc) (congrArg nI hC) ?_
  refine z_istore C dL_sets_60 (Nat.le_of_ble_eq_true rfl) ?_
  refine z_lv (lv' := [some (.ref x0), some (.int (nI au)), some (.int g), some (.int h), some (.int (nI (uU S 0))), some (.int (nI (uU S 1))), some (.int (nI rr)), some (.int (nI cc)), none, none, none, none, none, none, none, none, none, none]) rfl ?_
  refine z_iload_n C 3 dL_sets_62 rfl rfl ?_
  refine z_iconst C (nI 5) dL_sets_63 (by decide) ?_
  refine z_callS C kL_low gL_sets_L_low (l_low X.2.1 h 5 (by decide) (by decide)) dL_sets_64 [] rfl (by decide) (by decide) (Nat.le_of_ble_eq_true rfl) rfl ?_
  refine z_top (y := nI v) (congrArg nI hV) ?_
  refine z_istore C dL_sets_67 (Nat.le_of_ble_eq_true rfl) ?_
  refine z_lv (lv' := [some (.ref x0), some (.int (nI au)), some (.int g), some (.int h), some (.int (nI (uU S 0))), some (.int (nI (uU S 1))), some (.int (nI rr)), some (.int (nI cc)), some (.int (nI v)), none, none, none, none, none, none, none, none, none]) rfl ?_
  refine z_aload_n C 0 dL_sets_69 rfl rfl ?_
  refine z_iconst C (nI 0) dL_sets_70 (by decide) ?_
  refine z_callVr C kX5_count gL_sets_X5_count (l_cnt0 X.2.1 x0 h0 h1 w0 w1 t S o kp ln ps  hG ) dL_sets_71 [0, 1, 2, 3, 4, 5, 6, 7, 8, 9, 51] [] 0 rfl nd_0_1_2_3_4_5_6_7_8_9_51 rfl rfl rfl (by decide) (by decide) (Nat.le_of_ble_eq_true rfl) rfl ?_
  refine z_istore C dL_sets_74 (Nat.le_of_ble_eq_true rfl) ?_
  refine z_lv (lv' := [some (.ref x0), some (.int (nI au)), some (.int g), some (.int h), some (.int (nI (uU S 0))), some (.int (nI (uU S 1))), some (.int (nI rr)), some (.int (nI cc)), some (.int (nI v)), some (.int (nI (mK S))), none, none, none, none, none, none, none, none]) rfl ?_
  refine z_aload_n C 0 dL_sets_76 rfl rfl ?_
  refine z_iconst C (nI 5) dL_sets_77 (by decide) ?_
  refine z_callVr C kX5_count gL_sets_X5_count (l_cnt5y X.2.1 x0 h0 h1 w0 w1 t S o kp ln ps  hG ht) dL_sets_78 [0, 1, 2, 3, 4, 5, 6, 7, 8, 9, 51] [] 0 rfl nd_0_1_2_3_4_5_6_7_8_9_51 rfl rfl rfl (by decide) (by decide) (Nat.le_of_ble_eq_true rfl) rfl ?_
  refine z_iconst C (nI 1) dL_sets_81 (by decide) ?_
  refine z_ncmp_ne_f C 89 dL_sets_82 (by decide) (by omega) (by omega) (by omega) ?_
  refine z_iconst C (nI 1) dL_sets_85 (by decide) ?_
  refine z_goto C 90 dL_sets_86 (by decide) ?_
  refine z_istore C dL_sets_90 (Nat.le_of_ble_eq_true rfl) ?_
  refine z_lv (lv' := [some (.ref x0), some (.int (nI au)), some (.int g), some (.int h), some (.int (nI (uU S 0))), some (.int (nI (uU S 1))), some (.int (nI rr)), some (.int (nI cc)), some (.int (nI v)), some (.int (nI (mK S))), some (.int (nI 1)), none, none, none, none, none, none, none]) rfl ?_
  refine z_iconst C (nI 0) dL_sets_92 (by decide) ?_
  refine z_istore C dL_sets_93 (Nat.le_of_ble_eq_true rfl) ?_
  refine z_lv (lv' := [some (.ref x0), some (.int (nI au)), some (.int g), some (.int h), some (.int (nI (uU S 0))), some (.int (nI (uU S 1))), some (.int (nI rr)), some (.int (nI cc)), some (.int (nI v)), some (.int (nI (mK S))), some (.int (nI 1)), some (.int (nI 0)), none, none, none, none, none, none]) rfl ?_
  have hL95 : ∀ (dd95 : Nat) (n : Nat), kS S rr cc - n = dd95 → (n ≤ kS S rr cc) → zG X 0 0 (WRd X.2.1 x0 h0 h1 w0 w1 t r S o kp Q tx ln ps) [some (.ref x0), some (.int (nI au)), some (.int g), some (.int h), some (.int (nI (uU S 0))), some (.int (nI (uU S 1))), some (.int (nI rr)), some (.int (nI cc)), some (.int (nI v)), some (.int (nI (mK S))), some (.int (nI 1)), some (.int (nI n)), none, none, none, none, none, none] [] 95 := by
    intro dd95
    induction dd95 using Nat.strongRecOn with
    | _ dd95 ih95 =>
      intro n hdd95 hn
      refine z_aload_n C 0 dL_sets_95 rfl rfl ?_
      refine z_iload C dL_sets_96 rfl ?_
      refine z_iload C dL_sets_98 rfl ?_
      refine z_iload C dL_sets_100 rfl ?_
      rcases Nat.lt_or_ge (n) (kS S rr cc) with hq_1 | hq_1
      · have fk_2 : sX S rr cc n < mK S := (sX_f hG (by omega) (by omega) hq_1).1
        have fk_3 : kN S (sX S rr cc n) = 4 := (sX_f hG (by omega) (by omega) hq_1).2.1
        have fk_4 : sN S (sX S rr cc n) = 0 := (sX_f hG (by omega) (by omega) hq_1).2.2.1
        refine z_callVr C kX5_setting gL_sets_X5_setting (l_setY X.2.1 x0 h0 w0 t S rr cc n hG hr hc hq_1) dL_sets_102 [0, 1, 2, 3, 4, 5, 6, 7, 8] [] 0 rfl nd_0_1_2_3_4_5_6_7_8 rfl rfl rfl (by decide) (by decide) (Nat.le_of_ble_eq_true rfl) rfl ?_
        have hg_5 : sX S rr cc n < mK S := (sX_t hG (by omega)).1
        refine z_nif_lt_f C 114 dL_sets_105 (by decide) (by omega) (by trivial) ?_
        refine z_iinc C (nI (n + 1)) dL_sets_108 rfl (zi_1 _) ?_
        refine z_lv (lv' := [some (.ref x0), some (.int (nI au)), some (.int g), some (.int h), some (.int (nI (uU S 0))), some (.int (nI (uU S 1))), some (.int (nI rr)), some (.int (nI cc)), some (.int (nI v)), some (.int (nI (mK S))), some (.int (nI 1)), some (.int (nI (n + 1))), none, none, none, none, none, none]) rfl ?_
        refine z_goto C 95 dL_sets_111 (by decide) ?_
        exact ih95 (kS S rr cc - (n + 1)) (by omega) (n + 1) rfl (by omega)
      · refine z_callVr C kX5_setting gL_sets_X5_setting (l_setN X.2.1 x0 h0 w0 t S rr cc n hG hr hc hq_1 (by omega)) dL_sets_102 [0, 1, 2, 3, 4, 5, 6, 7, 8] [] 0 rfl nd_0_1_2_3_4_5_6_7_8 rfl rfl rfl (by decide) (by decide) (Nat.le_of_ble_eq_true rfl) rfl ?_
        refine z_if_lt_t C 114 dL_sets_105 (by decide) (by decide) ?_
        obtain rfl : n = kS S rr cc := (by omega)
        refine z_iload C dL_sets_114 rfl ?_
        refine z_nif_ne_t C 123 dL_sets_116 (by decide) (by omega) (by omega) ?_
        have fq_6 : sX S rr cc (kS S rr cc - 1) < mK S := (sX_f hG hr hc (show kS S rr cc - 1 < kS S rr cc by omega)).1
        have fq_7 : kN S (sX S rr cc (kS S rr cc - 1)) = 4 := (sX_f hG hr hc (show kS S rr cc - 1 < kS S rr cc by omega)).2.1
        have fq_8 : sN S (sX S rr cc (kS S rr cc - 1)) = 0 := (sX_f hG hr hc (show kS S rr cc - 1 < kS S rr cc by omega)).2.2.1
        have fq_9 : aN S (sX S rr cc (kS S rr cc - 1)) < 4 := (aN_e hG (sX_f hG hr hc (show kS S rr cc - 1 < kS S rr cc by omega)).1).2
        have fq_10 : bN S (sX S rr cc (kS S rr cc - 1)) < 10000 := (bN_e hG (sX_f hG hr hc (show kS S rr cc - 1 < kS S rr cc by omega)).1 (sX_f hG hr hc (show kS S rr cc - 1 < kS S rr cc by omega)).2.1 (sX_f hG hr hc (show kS S rr cc - 1 < kS S rr cc by omega)).2.2.1).2
        refine z_aload_n C 0 dL_sets_123 rfl rfl ?_
        refine z_iload C dL_sets_124 rfl ?_
        refine z_iload C dL_sets_126 rfl ?_
        refine z_iload C dL_sets_128 rfl ?_
        refine z_iconst C (nI 1) dL_sets_130 (by decide) ?_
        refine z_isub C dL_sets_131 ?_
        refine z_top (y := nI ((kS S rr cc) - 1)) ((pk_sub (by omega)).trans (congrArg nI (by omega))) ?_
        refine z_callVr C kX5_setting gL_sets_X5_setting (l_setY X.2.1 x0 h0 w0 t S rr cc ((kS S rr cc) - 1) hG hr hc (by omega)) dL_sets_132 [0, 1, 2, 3, 4, 5, 6, 7, 8] [] 0 rfl nd_0_1_2_3_4_5_6_7_8 rfl rfl rfl (by decide) (by decide) (Nat.le_of_ble_eq_true rfl) rfl ?_
        have hg_11 : sX S rr cc ((kS S rr cc) - 1) < mK S := (sX_t hG (by omega)).1
        refine z_istore C dL_sets_135 (Nat.le_of_ble_eq_true rfl) ?_
        refine z_lv (lv' := [some (.ref x0), some (.int (nI au)), some (.int g), some (.int h), some (.int (nI (uU S 0))), some (.int (nI (uU S 1))), some (.int (nI rr)), some (.int (nI cc)), some (.int (nI v)), some (.int (nI (mK S))), some (.int (nI 1)), some (.int (nI (kS S rr cc))), some (.int (nI (sX S rr cc ((kS S rr cc) - 1)))), none, none, none, none, none]) rfl ?_
        refine z_iload C dL_sets_137 rfl ?_
        refine z_nif_lt_f C 157 dL_sets_139 (by decide) (by omega) (by trivial) ?_
        refine z_aload_n C 0 dL_sets_142 rfl rfl ?_
        refine z_iload C dL_sets_143 rfl ?_
        refine z_iconst C (nI 1) dL_sets_145 (by decide) ?_
        refine z_callVr C kX5_change gL_sets_X5_change (l_chg1 X.2.1 x0 h0 w0 t S (sX S rr cc ((kS S rr cc) - 1)) hG fq_6) dL_sets_146 [0, 1, 2, 3, 4, 5, 6, 7, 8] [] 0 rfl nd_0_1_2_3_4_5_6_7_8 rfl rfl rfl (by decide) (by decide) (Nat.le_of_ble_eq_true rfl) rfl ?_
        refine z_iload_n C 1 dL_sets_149 rfl rfl ?_
        refine z_ncmp_ne_t C 157 dL_sets_150 (by decide) (by omega) (by omega) (by omega) ?_
        refine z_iconst C (nI 0) dL_sets_157 (by decide) ?_
        refine z_istore C dL_sets_158 (Nat.le_of_ble_eq_true rfl) ?_
        refine z_lv (lv' := [some (.ref x0), some (.int (nI au)), some (.int g), some (.int h), some (.int (nI (uU S 0))), some (.int (nI (uU S 1))), some (.int (nI rr)), some (.int (nI cc)), some (.int (nI v)), some (.int (nI (mK S))), some (.int (nI 1)), some (.int (nI (kS S rr cc))), some (.int (nI (sX S rr cc ((kS S rr cc) - 1)))), some (.int (nI 0)), none, none, none, none]) rfl ?_
        refine z_aload_n C 0 dL_sets_160 rfl rfl ?_
        refine z_iconst C (nI 0) dL_sets_161 (by decide) ?_
        refine z_iload C dL_sets_162 rfl ?_
        refine z_iconst C (nI 1) dL_sets_164 (by decide) ?_
        refine z_callVr C kX5_line gL_sets_X5_line (l_line1n X.2.1 x0 h0 w0 t S 0 rr hG (by decide) hr hD0) dL_sets_165 [0, 1, 2, 3, 4, 5, 6, 7, 8] [] 0 rfl nd_0_1_2_3_4_5_6_7_8 rfl rfl rfl (by decide) (by decide) (Nat.le_of_ble_eq_true rfl) rfl ?_
        refine z_if_ge_f C 196 dL_sets_168 (by decide) (by decide) ?_
        refine z_aload_n C 0 dL_sets_171 rfl rfl ?_
        refine z_iconst C (nI 1) dL_sets_172 (by decide) ?_
        refine z_iload C dL_sets_173 rfl ?_
        refine z_iconst C (nI 1) dL_sets_175 (by decide) ?_
        refine z_callVr C kX5_line gL_sets_X5_line (l_line1n X.2.1 x0 h0 w0 t S 1 cc hG (by decide) hc hD1) dL_sets_176 [0, 1, 2, 3, 4, 5, 6, 7, 8] [] 0 rfl nd_0_1_2_3_4_5_6_7_8 rfl rfl rfl (by decide) (by decide) (Nat.le_of_ble_eq_true rfl) rfl ?_
        refine z_if_ge_f C 196 dL_sets_179 (by decide) (by decide) ?_
        refine z_aload_n C 0 dL_sets_182 rfl rfl ?_
        refine z_iconst C (nI 0) dL_sets_183 (by decide) ?_
        refine z_iload C dL_sets_184 rfl ?_
        refine z_iload C dL_sets_186 rfl ?_
        refine z_callVr C kX5_cell gL_sets_X5_cell (l_cell0 X.2.1 x0 h0 w0 t S rr cc hG hr hc) dL_sets_188 [0, 1, 2, 3, 4, 5, 6, 7, 8] [] 0 rfl nd_0_1_2_3_4_5_6_7_8 rfl rfl rfl (by decide) (by decide) (Nat.le_of_ble_eq_true rfl) rfl ?_
        refine z_iload C dL_sets_191 rfl ?_
        refine z_icmp_ne_t C 200 dL_sets_193 (by decide) hne ?_
        refine z_iconst C (nI 0) dL_sets_200 (by decide) ?_
        refine z_istore C dL_sets_201 (Nat.le_of_ble_eq_true rfl) ?_
        refine z_lv (lv' := [some (.ref x0), some (.int (nI au)), some (.int g), some (.int h), some (.int (nI (uU S 0))), some (.int (nI (uU S 1))), some (.int (nI rr)), some (.int (nI cc)), some (.int (nI v)), some (.int (nI (mK S))), some (.int (nI 1)), some (.int (nI (kS S rr cc))), some (.int (nI (sX S rr cc ((kS S rr cc) - 1)))), some (.int (nI 0)), some (.int (nI 0)), none, none, none]) rfl ?_
        refine z_iload C dL_sets_203 rfl ?_
        refine z_nif_eq_t C 225 dL_sets_205 (by decide) (by omega) (by omega) ?_
        refine z_iconst C (nI 0) dL_sets_225 (by decide) ?_
        refine z_istore C dL_sets_226 (Nat.le_of_ble_eq_true rfl) ?_
        refine z_lv (lv' := [some (.ref x0), some (.int (nI au)), some (.int g), some (.int h), some (.int (nI (uU S 0))), some (.int (nI (uU S 1))), some (.int (nI rr)), some (.int (nI cc)), some (.int (nI v)), some (.int (nI (mK S))), some (.int (nI 1)), some (.int (nI (kS S rr cc))), some (.int (nI (sX S rr cc ((kS S rr cc) - 1)))), some (.int (nI 0)), some (.int (nI 0)), some (.int (nI 0)), none, none]) rfl ?_
        refine z_iload C dL_sets_228 rfl ?_
        refine z_nif_eq_t C 238 dL_sets_230 (by decide) (by omega) (by omega) ?_
        refine z_iload C dL_sets_238 rfl ?_
        refine z_nif_ne_t C 249 dL_sets_240 (by decide) (by omega) (by omega) ?_
        refine z_iload C dL_sets_249 rfl ?_
        refine z_nif_eq_t C 259 dL_sets_251 (by decide) (by omega) (by omega) ?_
        refine z_iload C dL_sets_259 rfl ?_
        refine z_bipush C (nI 60) dL_sets_261 (by decide) ?_
        refine z_ncmp_ne_f C 271 dL_sets_263 (by decide) (by omega) (by omega) (by omega) ?_
        refine z_bipush C (-3) dL_sets_266 (by decide) ?_
        refine z_goto C 273 dL_sets_268 (by decide) ?_
        refine z_istore C dL_sets_273 (Nat.le_of_ble_eq_true rfl) ?_
        refine z_lv (lv' := [some (.ref x0), some (.int (nI au)), some (.int g), some (.int h), some (.int (nI (uU S 0))), some (.int (nI (uU S 1))), some (.int (nI rr)), some (.int (nI cc)), some (.int (nI v)), some (.int (nI (mK S))), some (.int (nI 1)), some (.int (nI (kS S rr cc))), some (.int (nI (sX S rr cc ((kS S rr cc) - 1)))), some (.int (nI 0)), some (.int (nI 0)), some (.int (nI 0)), some (.int (-3)), none]) rfl ?_
        refine z_aload_n C 0 dL_sets_275 rfl rfl ?_
        refine z_iload_n C 1 dL_sets_276 rfl rfl ?_
        refine z_iload C dL_sets_277 rfl ?_
        refine z_iload C dL_sets_279 rfl ?_
        refine z_iload C dL_sets_281 rfl ?_
        refine z_callV (wn := (WRd X.2.1 x0 h0 h1 w0 w1 t r S o1 kp1 Q1 tx ln ps)) C kX5_set gL_sets_X5_set m1 dL_sets_283 [0, 1, 2, 3, 4, 5, 6, 7, 8, 9, 10, 11, 12, 13, 14, 15, 16, 17, 18, 19, 20, 21, 22, 23, 24, 25, 26, 27, 28, 29, 30, 31, 32, 33, 34, 35, 36, 37, 38, 39, 40, 41, 42, 43, 44, 45, 46, 47, 48, 49, 50] [] 0 rfl rfl nd_0_1_2_3_4_5_6_7_8_9_10_11_12_13_14_15_16_17_18_19_20_21_22_23_24_25_26_27_28_29_30_31_32_33_34_35_36_37_38_39_40_41_42_43_44_45_46_47_48_49_50 rfl rfl rfl (by decide) (by decide) (Nat.le_of_ble_eq_true rfl) rfl ((zput_par nd_0_1_2_3_4_5_6_7_8_9_10_11_12_13_14_15_16_17_18_19_20_21_22_23_24_25_26_27_28_29_30_31_32_33_34_35_36_37_38_39_40_41_42_43_44_45_46_47_48_49_50 rfl).trans rfl) ?_
        refine z_iload C dL_sets_286 rfl ?_
        refine z_icmp_ne_f C 308 dL_sets_288 (by decide) rfl ?_
        refine z_aload_n C 0 dL_sets_291 rfl rfl ?_
        refine z_iload_n C 1 dL_sets_292 rfl rfl ?_
        refine z_iload C dL_sets_293 rfl ?_
        refine z_iload C dL_sets_295 rfl ?_
        refine z_sipush C (nI 10000) dL_sets_297 (by decide) ?_
        refine z_callV (wn := (WRd X.2.1 x0 h0 h1 w0 w1 t r S o2 kp2 Q2 tx ln ps)) C kX5_set gL_sets_X5_set m2 dL_sets_300 [0, 1, 2, 3, 4, 5, 6, 7, 8, 9, 10, 11, 12, 13, 14, 15, 16, 17, 18, 19, 20, 21, 22, 23, 24, 25, 26, 27, 28, 29, 30, 31, 32, 33, 34, 35, 36, 37, 38, 39, 40, 41, 42, 43, 44, 45, 46, 47, 48, 49, 50] [] 0 rfl rfl nd_0_1_2_3_4_5_6_7_8_9_10_11_12_13_14_15_16_17_18_19_20_21_22_23_24_25_26_27_28_29_30_31_32_33_34_35_36_37_38_39_40_41_42_43_44_45_46_47_48_49_50 rfl rfl rfl (by decide) (by decide) (Nat.le_of_ble_eq_true rfl) rfl ((zput_par nd_0_1_2_3_4_5_6_7_8_9_10_11_12_13_14_15_16_17_18_19_20_21_22_23_24_25_26_27_28_29_30_31_32_33_34_35_36_37_38_39_40_41_42_43_44_45_46_47_48_49_50 rfl).trans rfl) ?_
        refine z_bipush C (-2) dL_sets_303 (by decide) ?_
        refine z_icmp_eq_t C 310 dL_sets_305 (by decide) rfl ?_
        refine z_iload C dL_sets_310 rfl ?_
        refine z_if_ge_f C 336 dL_sets_312 (by decide) (by decide) ?_
        refine z_aload_n C 0 dL_sets_315 rfl rfl ?_
        refine z_iload C dL_sets_316 rfl ?_
        refine z_iload C dL_sets_318 rfl ?_
        refine z_iload C dL_sets_320 rfl ?_
        refine z_callVr C kX5_setting gL_sets_X5_setting (l_setN X.2.1 x0 h0 w0 t S rr cc (kS S rr cc) hG hr hc hn (by omega)) dL_sets_322 [0, 1, 2, 3, 4, 5, 6, 7, 8] [] 0 rfl nd_0_1_2_3_4_5_6_7_8 rfl rfl rfl (by decide) (by decide) (Nat.le_of_ble_eq_true rfl) rfl ?_
        refine z_bipush C (-5) dL_sets_325 (by decide) ?_
        refine z_icmp_ne_f C 334 dL_sets_327 (by decide) rfl ?_
        refine z_iconst C (nI 1) dL_sets_330 (by decide) ?_
        refine z_goto C 335 dL_sets_331 (by decide) ?_
        exact z_zret C N dL_sets_335 rfl (rfl) (rfl)
  exact hL95 _ 0 rfl (by omega)

set_option maxHeartbeats 4000000 in
set_option maxRecDepth 100000 in
theorem w_sett1 (E : zE) (x0 h0 h1 w0 w1 : Nat) (t : Nat → Nat) (r : Nat → Nat → Nat) (S S1 : zSt) (o kp kp1 kp2 o1 o2 : Nat) (Q Q1 Q2 : Nat → zSt) (tx : Nat → Nat) (ln : Nat) (ps : zPs) {B B1 : Nat} (au : Nat) (g h : Int32) (rr cc v : Nat) (hG : GG S B) (hG1 : GG S1 B1) (hau : au < 4) (hR : lw g (uU S 0) = rr) (hr : rr < uU S 0) (hC : lw (g >>> (nI 4 &&& 31)) (uU S 1) = cc) (hc : cc < uU S 1) (hV : lw h 5 = v) (hv : v < 5) (hD0 : Dm S 0 rr = false) (hD1 : Dm S 1 cc = false) (hne : ¬ cV S rr cc = nI v) (hu0 : uU S1 0 = uU S 0) (hu1 : uU S1 1 = uU S 1) (hc1 : cV S1 rr cc = nI v) (ht : tK S = true) (hk0 : 0 < kS S rr cc) (how : aN S (sX S rr cc (kS S rr cc - 1)) ≠ au) (hm : mK S < 60) (hk : kS S1 rr cc = kS S rr cc + 1) (m1 : zM E yX5_set wsX5_set 6 [.ref x0, .int (nI au), .int (nI rr), .int (nI cc), .int (nI v)] (WAd E x0 h0 h1 w0 t r S o kp Q) (WAd E x0 h0 h1 w0 t r S1 o1 kp1 Q1) (some (.int (nI (mK S))))) (m2 : zM E yX5_set wsX5_set 6 [.ref x0, .int (nI au), .int (nI rr), .int (nI cc), .int (nI 10000)] (WAd E x0 h0 h1 w0 t r S1 o1 kp1 Q1) (WAd E x0 h0 h1 w0 t r S1 o2 kp2 Q2) (some (.int (-2)))) : zM E yL_sets wsL_sets 7 [.ref x0, .int (nI au), .int g, .int h] (WRd E x0 h0 h1 w0 w1 t r S o kp Q tx ln ps) (WRd E x0 h0 h1 w0 w1 t r S1 o2 kp2 Q2 tx ln ps) (some (.int (nI 1))) := by
  refine zM.of kL_sets (Nat.le_of_ble_eq_true rfl) rfl [some (.ref x0), some (.int (nI au)), some (.int g), some (.int h), none, none, none, none, none, none, none, none, none, none, none, none, none, none] rfl (Nat.le_of_ble_eq_true rfl) ?_
  intro X eX C N
  subst eX
  have hb0 : uU S 0 ≤ 12 := gg_u hG 0
  have hb1 : uU S 1 ≤ 8 := gg_u1 hG
  have hb2 : mK S ≤ 60 := gg_M hG
  have hb3 : uU S1 0 ≤ 12 := gg_u hG1 0
  have hb4 : uU S1 1 ≤ 8 := gg_u1 hG1
  have hb5 : mK S1 ≤ 60 := gg_M hG1
  have hks : kS S rr cc ≤ mK S := zc_le _ _
  refine z_aload_n C 0 dL_sets_0 rfl rfl ?_
  refine z_iconst C (nI 0) dL_sets_1 (by decide) ?_
  refine z_iconst C (nI 0) dL_sets_2 (by decide) ?_
  refine z_callVr C kX5_size gL_sets_X5_size (l_size0 X.2.1 x0 h0 w0 t S 0 hG (by decide)) dL_sets_3 [0, 1, 2, 3, 4, 5, 6, 7, 8] [] 0 rfl nd_0_1_2_3_4_5_6_7_8 rfl rfl rfl (by decide) (by decide) (Nat.le_of_ble_eq_true rfl) rfl ?_
  refine z_istore C dL_sets_6 (Nat.le_of_ble_eq_true rfl) ?_
  refine z_lv (lv' := [some (.ref x0), some (.int (nI au)), some (.int g), some (.int h), some (.int (nI (uU S 0))), none, none, none, none, none, none, none, none, none, none, none, none, none]) rfl ?_
  refine z_aload_n C 0 dL_sets_8 rfl rfl ?_
  refine z_iconst C (nI 0) dL_sets_9 (by decide) ?_
  refine z_iconst C (nI 1) dL_sets_10 (by decide) ?_
  refine z_callVr C kX5_size gL_sets_X5_size (l_size0 X.2.1 x0 h0 w0 t S 1 hG (by decide)) dL_sets_11 [0, 1, 2, 3, 4, 5, 6, 7, 8] [] 0 rfl nd_0_1_2_3_4_5_6_7_8 rfl rfl rfl (by decide) (by decide) (Nat.le_of_ble_eq_true rfl) rfl ?_
  refine z_istore C dL_sets_14 (Nat.le_of_ble_eq_true rfl) ?_
  refine z_lv (lv' := [some (.ref x0), some (.int (nI au)), some (.int g), some (.int h), some (.int (nI (uU S 0))), some (.int (nI (uU S 1))), none, none, none, none, none, none, none, none, none, none, none, none]) rfl ?_
  refine z_iload C dL_sets_16 rfl ?_
  refine z_nif_eq_f C 26 dL_sets_18 (by decide) (by omega) (by omega) ?_
  refine z_iload C dL_sets_21 rfl ?_
  refine z_nif_ne_t C 44 dL_sets_23 (by decide) (by omega) (by omega) ?_
  refine z_iload_n C 2 dL_sets_44 rfl rfl ?_
  refine z_iload C dL_sets_45 rfl ?_
  refine z_callS C kL_low gL_sets_L_low (l_low X.2.1 g (uU S 0) (by omega) (by omega)) dL_sets_47 [] rfl (by decide) (by decide) (Nat.le_of_ble_eq_true rfl) rfl ?_
  refine z_top (y := nI rr) (congrArg nI hR) ?_
  refine z_istore C dL_sets_50 (Nat.le_of_ble_eq_true rfl) ?_
  refine z_lv (lv' := [some (.ref x0), some (.int (nI au)), some (.int g), some (.int h), some (.int (nI (uU S 0))), some (.int (nI (uU S 1))), some (.int (nI rr)), none, none, none, none, none, none, none, none, none, none, none]) rfl ?_
  refine z_iload_n C 2 dL_sets_52 rfl rfl ?_
  refine z_iconst C (nI 4) dL_sets_53 (by decide) ?_
  refine z_ishr C dL_sets_54 ?_
  refine z_iload C dL_sets_55 rfl ?_
  refine z_callS C kL_low gL_sets_L_low (l_low X.2.1 (g >>> ((nI 4) &&& 31)) (uU S 1) (by omega) (by omega)) dL_sets_57 [] rfl (by decide) (by decide) (Nat.le_of_ble_eq_true rfl) rfl ?_
  refine z_top (y := nI cc) (congrArg nI hC) ?_
  refine z_istore C dL_sets_60 (Nat.le_of_ble_eq_true rfl) ?_
  refine z_lv (lv' := [some (.ref x0), some (.int (nI au)), some (.int g), some (.int h), some (.int (nI (uU S 0))), some (.int (nI (uU S 1))), some (.int (nI rr)), some (.int (nI cc)), none, none, none, none, none, none, none, none, none, none]) rfl ?_
  refine z_iload_n C 3 dL_sets_62 rfl rfl ?_
  refine z_iconst C (nI 5) dL_sets_63 (by decide) ?_
  refine z_callS C kL_low gL_sets_L_low (l_low X.2.1 h 5 (by decide) (by decide)) dL_sets_64 [] rfl (by decide) (by decide) (Nat.le_of_ble_eq_true rfl) rfl ?_
  refine z_top (y := nI v) (congrArg nI hV) ?_
  refine z_istore C dL_sets_67 (Nat.le_of_ble_eq_true rfl) ?_
  refine z_lv (lv' := [some (.ref x0), some (.int (nI au)), some (.int g), some (.int h), some (.int (nI (uU S 0))), some (.int (nI (uU S 1))), some (.int (nI rr)), some (.int (nI cc)), some (.int (nI v)), none, none, none, none, none, none, none, none, none]) rfl ?_
  refine z_aload_n C 0 dL_sets_69 rfl rfl ?_
  refine z_iconst C (nI 0) dL_sets_70 (by decide) ?_
  refine z_callVr C kX5_count gL_sets_X5_count (l_cnt0 X.2.1 x0 h0 h1 w0 w1 t S o kp ln ps  hG ) dL_sets_71 [0, 1, 2, 3, 4, 5, 6, 7, 8, 9, 51] [] 0 rfl nd_0_1_2_3_4_5_6_7_8_9_51 rfl rfl rfl (by decide) (by decide) (Nat.le_of_ble_eq_true rfl) rfl ?_
  refine z_istore C dL_sets_74 (Nat.le_of_ble_eq_true rfl) ?_
  refine z_lv (lv' := [some (.ref x0), some (.int (nI au)), some (.int g), some (.int h), some (.int (nI (uU S 0))), some (.int (nI (uU S 1))), some (.int (nI rr)), some (.int (nI cc)), some (.int (nI v)), some (.int (nI (mK S))), none, none, none, none, none, none, none, none]) rfl ?_
  refine z_aload_n C 0 dL_sets_76 rfl rfl ?_
  refine z_iconst C (nI 5) dL_sets_77 (by decide) ?_
  refine z_callVr C kX5_count gL_sets_X5_count (l_cnt5y X.2.1 x0 h0 h1 w0 w1 t S o kp ln ps  hG ht) dL_sets_78 [0, 1, 2, 3, 4, 5, 6, 7, 8, 9, 51] [] 0 rfl nd_0_1_2_3_4_5_6_7_8_9_51 rfl rfl rfl (by decide) (by decide) (Nat.le_of_ble_eq_true rfl) rfl ?_
  refine z_iconst C (nI 1) dL_sets_81 (by decide) ?_
  refine z_ncmp_ne_f C 89 dL_sets_82 (by decide) (by omega) (by omega) (by omega) ?_
  refine z_iconst C (nI 1) dL_sets_85 (by decide) ?_
  refine z_goto C 90 dL_sets_86 (by decide) ?_
  refine z_istore C dL_sets_90 (Nat.le_of_ble_eq_true rfl) ?_
  refine z_lv (lv' := [some (.ref x0), some (.int (nI au)), some (.int g), some (.int h), some (.int (nI (uU S 0))), some (.int (nI (uU S 1))), some (.int (nI rr)), some (.int (nI cc)), some (.int (nI v)), some (.int (nI (mK S))), some (.int (nI 1)), none, none, none, none, none, none, none]) rfl ?_
  refine z_iconst C (nI 0) dL_sets_92 (by decide) ?_
  refine z_istore C dL_sets_93 (Nat.le_of_ble_eq_true rfl) ?_
  refine z_lv (lv' := [some (.ref x0), some (.int (nI au)), some (.int g), some (.int h), some (.int (nI (uU S 0))), some (.int (nI (uU S 1))), some (.int (nI rr)), some (.int (nI cc)), some (.int (nI v)), some (.int (nI (mK S))), some (.int (nI 1)), some (.int (nI 0)), none, none, none, none, none, none]) rfl ?_
  have hL95 : ∀ (dd95 : Nat) (n : Nat), kS S rr cc - n = dd95 → (n ≤ kS S rr cc) → zG X 0 0 (WRd X.2.1 x0 h0 h1 w0 w1 t r S o kp Q tx ln ps) [some (.ref x0), some (.int (nI au)), some (.int g), some (.int h), some (.int (nI (uU S 0))), some (.int (nI (uU S 1))), some (.int (nI rr)), some (.int (nI cc)), some (.int (nI v)), some (.int (nI (mK S))), some (.int (nI 1)), some (.int (nI n)), none, none, none, none, none, none] [] 95 := by
    intro dd95
    induction dd95 using Nat.strongRecOn with
    | _ dd95 ih95 =>
      intro n hdd95 hn
      refine z_aload_n C 0 dL_sets_95 rfl rfl ?_
      refine z_iload C dL_sets_96 rfl ?_
      refine z_iload C dL_sets_98 rfl ?_
      refine z_iload C dL_sets_100 rfl ?_
      rcases Nat.lt_or_ge (n) (kS S rr cc) with hq_1 | hq_1
      · have fk_2 : sX S rr cc n < mK S := (sX_f hG (by omega) (by omega) hq_1).1
        have fk_3 : kN S (sX S rr cc n) = 4 := (sX_f hG (by omega) (by omega) hq_1).2.1
        have fk_4 : sN S (sX S rr cc n) = 0 := (sX_f hG (by omega) (by omega) hq_1).2.2.1
        refine z_callVr C kX5_setting gL_sets_X5_setting (l_setY X.2.1 x0 h0 w0 t S rr cc n hG hr hc hq_1) dL_sets_102 [0, 1, 2, 3, 4, 5, 6, 7, 8] [] 0 rfl nd_0_1_2_3_4_5_6_7_8 rfl rfl rfl (by decide) (by decide) (Nat.le_of_ble_eq_true rfl) rfl ?_
        have hg_5 : sX S rr cc n < mK S := (sX_t hG (by omega)).1
        refine z_nif_lt_f C 114 dL_sets_105 (by decide) (by omega) (by trivial) ?_
        refine z_iinc C (nI (n + 1)) dL_sets_108 rfl (zi_1 _) ?_
        refine z_lv (lv' := [some (.ref x0), some (.int (nI au)), some (.int g), some (.int h), some (.int (nI (uU S 0))), some (.int (nI (uU S 1))), some (.int (nI rr)), some (.int (nI cc)), some (.int (nI v)), some (.int (nI (mK S))), some (.int (nI 1)), some (.int (nI (n + 1))), none, none, none, none, none, none]) rfl ?_
        refine z_goto C 95 dL_sets_111 (by decide) ?_
        exact ih95 (kS S rr cc - (n + 1)) (by omega) (n + 1) rfl (by omega)
      · refine z_callVr C kX5_setting gL_sets_X5_setting (l_setN X.2.1 x0 h0 w0 t S rr cc n hG hr hc hq_1 (by omega)) dL_sets_102 [0, 1, 2, 3, 4, 5, 6, 7, 8] [] 0 rfl nd_0_1_2_3_4_5_6_7_8 rfl rfl rfl (by decide) (by decide) (Nat.le_of_ble_eq_true rfl) rfl ?_
        refine z_if_lt_t C 114 dL_sets_105 (by decide) (by decide) ?_
        obtain rfl : n = kS S rr cc := (by omega)
        refine z_iload C dL_sets_114 rfl ?_
        refine z_nif_ne_t C 123 dL_sets_116 (by decide) (by omega) (by omega) ?_
        have fq_6 : sX S rr cc (kS S rr cc - 1) < mK S := (sX_f hG hr hc (show kS S rr cc - 1 < kS S rr cc by omega)).1
        have fq_7 : kN S (sX S rr cc (kS S rr cc - 1)) = 4 := (sX_f hG hr hc (show kS S rr cc - 1 < kS S rr cc by omega)).2.1
        have fq_8 : sN S (sX S rr cc (kS S rr cc - 1)) = 0 := (sX_f hG hr hc (show kS S rr cc - 1 < kS S rr cc by omega)).2.2.1
        have fq_9 : aN S (sX S rr cc (kS S rr cc - 1)) < 4 := (aN_e hG (sX_f hG hr hc (show kS S rr cc - 1 < kS S rr cc by omega)).1).2
        have fq_10 : bN S (sX S rr cc (kS S rr cc - 1)) < 10000 := (bN_e hG (sX_f hG hr hc (show kS S rr cc - 1 < kS S rr cc by omega)).1 (sX_f hG hr hc (show kS S rr cc - 1 < kS S rr cc by omega)).2.1 (sX_f hG hr hc (show kS S rr cc - 1 < kS S rr cc by omega)).2.2.1).2
        refine z_aload_n C 0 dL_sets_123 rfl rfl ?_
        refine z_iload C dL_sets_124 rfl ?_
        refine z_iload C dL_sets_126 rfl ?_
        refine z_iload C dL_sets_128 rfl ?_
        refine z_iconst C (nI 1) dL_sets_130 (by decide) ?_
        refine z_isub C dL_sets_131 ?_
        refine z_top (y := nI ((kS S rr cc) - 1)) ((pk_sub (by omega)).trans (congrArg nI (by omega))) ?_
        refine z_callVr C kX5_setting gL_sets_X5_setting (l_setY X.2.1 x0 h0 w0 t S rr cc ((kS S rr cc) - 1) hG hr hc (by omega)) dL_sets_132 [0, 1, 2, 3, 4, 5, 6, 7, 8] [] 0 rfl nd_0_1_2_3_4_5_6_7_8 rfl rfl rfl (by decide) (by decide) (Nat.le_of_ble_eq_true rfl) rfl ?_
        have hg_11 : sX S rr cc ((kS S rr cc) - 1) < mK S := (sX_t hG (by omega)).1
        refine z_istore C dL_sets_135 (Nat.le_of_ble_eq_true rfl) ?_
        refine z_lv (lv' := [some (.ref x0), some (.int (nI au)), some (.int g), some (.int h), some (.int (nI (uU S 0))), some (.int (nI (uU S 1))), some (.int (nI rr)), some (.int (nI cc)), some (.int (nI v)), some (.int (nI (mK S))), some (.int (nI 1)), some (.int (nI (kS S rr cc))), some (.int (nI (sX S rr cc ((kS S rr cc) - 1)))), none, none, none, none, none]) rfl ?_
        refine z_iload C dL_sets_137 rfl ?_
        refine z_nif_lt_f C 157 dL_sets_139 (by decide) (by omega) (by trivial) ?_
        refine z_aload_n C 0 dL_sets_142 rfl rfl ?_
        refine z_iload C dL_sets_143 rfl ?_
        refine z_iconst C (nI 1) dL_sets_145 (by decide) ?_
        refine z_callVr C kX5_change gL_sets_X5_change (l_chg1 X.2.1 x0 h0 w0 t S (sX S rr cc ((kS S rr cc) - 1)) hG fq_6) dL_sets_146 [0, 1, 2, 3, 4, 5, 6, 7, 8] [] 0 rfl nd_0_1_2_3_4_5_6_7_8 rfl rfl rfl (by decide) (by decide) (Nat.le_of_ble_eq_true rfl) rfl ?_
        refine z_iload_n C 1 dL_sets_149 rfl rfl ?_
        refine z_ncmp_ne_t C 157 dL_sets_150 (by decide) (by omega) (by omega) (by omega) ?_
        refine z_iconst C (nI 0) dL_sets_157 (by decide) ?_
        refine z_istore C dL_sets_158 (Nat.le_of_ble_eq_true rfl) ?_
        refine z_lv (lv' := [some (.ref x0), some (.int (nI au)), some (.int g), some (.int h), some (.int (nI (uU S 0))), some (.int (nI (uU S 1))), some (.int (nI rr)), some (.int (nI cc)), some (.int (nI v)), some (.int (nI (mK S))), some (.int (nI 1)), some (.int (nI (kS S rr cc))), some (.int (nI (sX S rr cc ((kS S rr cc) - 1)))), some (.int (nI 0)), none, none, none, none]) rfl ?_
        refine z_aload_n C 0 dL_sets_160 rfl rfl ?_
        refine z_iconst C (nI 0) dL_sets_161 (by decide) ?_
        refine z_iload C dL_sets_162 rfl ?_
        refine z_iconst C (nI 1) dL_sets_164 (by decide) ?_
        refine z_callVr C kX5_line gL_sets_X5_line (l_line1n X.2.1 x0 h0 w0 t S 0 rr hG (by decide) hr hD0) dL_sets_165 [0, 1, 2, 3, 4, 5, 6, 7, 8] [] 0 rfl nd_0_1_2_3_4_5_6_7_8 rfl rfl rfl (by decide) (by decide) (Nat.le_of_ble_eq_true rfl) rfl ?_
        refine z_if_ge_f C 196 dL_sets_168 (by decide) (by decide) ?_
        refine z_aload_n C 0 dL_sets_171 rfl rfl ?_
        refine z_iconst C (nI 1) dL_sets_172 (by decide) ?_
        refine z_iload C dL_sets_173 rfl ?_
        refine z_iconst C (nI 1) dL_sets_175 (by decide) ?_
        refine z_callVr C kX5_line gL_sets_X5_line (l_line1n X.2.1 x0 h0 w0 t S 1 cc hG (by decide) hc hD1) dL_sets_176 [0, 1, 2, 3, 4, 5, 6, 7, 8] [] 0 rfl nd_0_1_2_3_4_5_6_7_8 rfl rfl rfl (by decide) (by decide) (Nat.le_of_ble_eq_true rfl) rfl ?_
        refine z_if_ge_f C 196 dL_sets_179 (by decide) (by decide) ?_
        refine z_aload_n C 0 dL_sets_182 rfl rfl ?_
        refine z_iconst C (nI 0) dL_sets_183 (by decide) ?_
        refine z_iload C dL_sets_184 rfl ?_
        refine z_iload C dL_sets_186 rfl ?_
        refine z_callVr C kX5_cell gL_sets_X5_cell (l_cell0 X.2.1 x0 h0 w0 t S rr cc hG hr hc) dL_sets_188 [0, 1, 2, 3, 4, 5, 6, 7, 8] [] 0 rfl nd_0_1_2_3_4_5_6_7_8 rfl rfl rfl (by decide) (by decide) (Nat.le_of_ble_eq_true rfl) rfl ?_
        refine z_iload C dL_sets_191 rfl ?_
        refine z_icmp_ne_t C 200 dL_sets_193 (by decide) hne ?_
        refine z_iconst C (nI 0) dL_sets_200 (by decide) ?_
        refine z_istore C dL_sets_201 (Nat.le_of_ble_eq_true rfl) ?_
        refine z_lv (lv' := [some (.ref x0), some (.int (nI au)), some (.int g), some (.int h), some (.int (nI (uU S 0))), some (.int (nI (uU S 1))), some (.int (nI rr)), some (.int (nI cc)), some (.int (nI v)), some (.int (nI (mK S))), some (.int (nI 1)), some (.int (nI (kS S rr cc))), some (.int (nI (sX S rr cc ((kS S rr cc) - 1)))), some (.int (nI 0)), some (.int (nI 0)), none, none, none]) rfl ?_
        refine z_iload C dL_sets_203 rfl ?_
        refine z_nif_eq_t C 225 dL_sets_205 (by decide) (by omega) (by omega) ?_
        refine z_iconst C (nI 0) dL_sets_225 (by decide) ?_
        refine z_istore C dL_sets_226 (Nat.le_of_ble_eq_true rfl) ?_
        refine z_lv (lv' := [some (.ref x0), some (.int (nI au)), some (.int g), some (.int h), some (.int (nI (uU S 0))), some (.int (nI (uU S 1))), some (.int (nI rr)), some (.int (nI cc)), some (.int (nI v)), some (.int (nI (mK S))), some (.int (nI 1)), some (.int (nI (kS S rr cc))), some (.int (nI (sX S rr cc ((kS S rr cc) - 1)))), some (.int (nI 0)), some (.int (nI 0)), some (.int (nI 0)), none, none]) rfl ?_
        refine z_iload C dL_sets_228 rfl ?_
        refine z_nif_eq_t C 238 dL_sets_230 (by decide) (by omega) (by omega) ?_
        refine z_iload C dL_sets_238 rfl ?_
        refine z_nif_ne_t C 249 dL_sets_240 (by decide) (by omega) (by omega) ?_
        refine z_iload C dL_sets_249 rfl ?_
        refine z_nif_eq_t C 259 dL_sets_251 (by decide) (by omega) (by omega) ?_
        refine z_iload C dL_sets_259 rfl ?_
        refine z_bipush C (nI 60) dL_sets_261 (by decide) ?_
        refine z_ncmp_ne_t C 271 dL_sets_263 (by decide) (by omega) (by omega) (by omega) ?_
        refine z_iload C dL_sets_271 rfl ?_
        refine z_istore C dL_sets_273 (Nat.le_of_ble_eq_true rfl) ?_
        refine z_lv (lv' := [some (.ref x0), some (.int (nI au)), some (.int g), some (.int h), some (.int (nI (uU S 0))), some (.int (nI (uU S 1))), some (.int (nI rr)), some (.int (nI cc)), some (.int (nI v)), some (.int (nI (mK S))), some (.int (nI 1)), some (.int (nI (kS S rr cc))), some (.int (nI (sX S rr cc ((kS S rr cc) - 1)))), some (.int (nI 0)), some (.int (nI 0)), some (.int (nI 0)), some (.int (nI (mK S))), none]) rfl ?_
        refine z_aload_n C 0 dL_sets_275 rfl rfl ?_
        refine z_iload_n C 1 dL_sets_276 rfl rfl ?_
        refine z_iload C dL_sets_277 rfl ?_
        refine z_iload C dL_sets_279 rfl ?_
        refine z_iload C dL_sets_281 rfl ?_
        refine z_callV (wn := (WRd X.2.1 x0 h0 h1 w0 w1 t r S1 o1 kp1 Q1 tx ln ps)) C kX5_set gL_sets_X5_set m1 dL_sets_283 [0, 1, 2, 3, 4, 5, 6, 7, 8, 9, 10, 11, 12, 13, 14, 15, 16, 17, 18, 19, 20, 21, 22, 23, 24, 25, 26, 27, 28, 29, 30, 31, 32, 33, 34, 35, 36, 37, 38, 39, 40, 41, 42, 43, 44, 45, 46, 47, 48, 49, 50] [] 0 rfl rfl nd_0_1_2_3_4_5_6_7_8_9_10_11_12_13_14_15_16_17_18_19_20_21_22_23_24_25_26_27_28_29_30_31_32_33_34_35_36_37_38_39_40_41_42_43_44_45_46_47_48_49_50 rfl rfl rfl (by decide) (by decide) (Nat.le_of_ble_eq_true rfl) rfl ((zput_par nd_0_1_2_3_4_5_6_7_8_9_10_11_12_13_14_15_16_17_18_19_20_21_22_23_24_25_26_27_28_29_30_31_32_33_34_35_36_37_38_39_40_41_42_43_44_45_46_47_48_49_50 rfl).trans rfl) ?_
        refine z_iload C dL_sets_286 rfl ?_
        refine z_ncmp_ne_f C 308 dL_sets_288 (by decide) (by omega) (by omega) (by omega) ?_
        refine z_aload_n C 0 dL_sets_291 rfl rfl ?_
        refine z_iload_n C 1 dL_sets_292 rfl rfl ?_
        refine z_iload C dL_sets_293 rfl ?_
        refine z_iload C dL_sets_295 rfl ?_
        refine z_sipush C (nI 10000) dL_sets_297 (by decide) ?_
        refine z_callV (wn := (WRd X.2.1 x0 h0 h1 w0 w1 t r S1 o2 kp2 Q2 tx ln ps)) C kX5_set gL_sets_X5_set m2 dL_sets_300 [0, 1, 2, 3, 4, 5, 6, 7, 8, 9, 10, 11, 12, 13, 14, 15, 16, 17, 18, 19, 20, 21, 22, 23, 24, 25, 26, 27, 28, 29, 30, 31, 32, 33, 34, 35, 36, 37, 38, 39, 40, 41, 42, 43, 44, 45, 46, 47, 48, 49, 50] [] 0 rfl rfl nd_0_1_2_3_4_5_6_7_8_9_10_11_12_13_14_15_16_17_18_19_20_21_22_23_24_25_26_27_28_29_30_31_32_33_34_35_36_37_38_39_40_41_42_43_44_45_46_47_48_49_50 rfl rfl rfl (by decide) (by decide) (Nat.le_of_ble_eq_true rfl) rfl ((zput_par nd_0_1_2_3_4_5_6_7_8_9_10_11_12_13_14_15_16_17_18_19_20_21_22_23_24_25_26_27_28_29_30_31_32_33_34_35_36_37_38_39_40_41_42_43_44_45_46_47_48_49_50 rfl).trans rfl) ?_
        refine z_bipush C (-2) dL_sets_303 (by decide) ?_
        refine z_icmp_eq_t C 310 dL_sets_305 (by decide) rfl ?_
        refine z_iload C dL_sets_310 rfl ?_
        refine z_nif_ge_t C 336 dL_sets_312 (by decide) (by omega) (by trivial) ?_
        refine z_iload C dL_sets_336 rfl ?_
        refine z_nif_ne_t C 345 dL_sets_338 (by decide) (by omega) (by omega) ?_
        refine z_iload C dL_sets_345 rfl ?_
        refine z_nif_ne_f C 357 dL_sets_347 (by decide) (by omega) (by omega) ?_
        refine z_iload C dL_sets_350 rfl ?_
        refine z_iconst C (nI 1) dL_sets_352 (by decide) ?_
        refine z_iadd C dL_sets_353 ?_
        refine z_top (y := nI ((kS S rr cc) + 1)) (nI_add _ _) ?_
        refine z_goto C 371 dL_sets_354 (by decide) ?_
        refine z_istore C dL_sets_371 (Nat.le_of_ble_eq_true rfl) ?_
        refine z_lv (lv' := [some (.ref x0), some (.int (nI au)), some (.int g), some (.int h), some (.int (nI (uU S 0))), some (.int (nI (uU S 1))), some (.int (nI rr)), some (.int (nI cc)), some (.int (nI v)), some (.int (nI (mK S))), some (.int (nI 1)), some (.int (nI (kS S rr cc))), some (.int (nI (sX S rr cc ((kS S rr cc) - 1)))), some (.int (nI 0)), some (.int (nI 0)), some (.int (nI 0)), some (.int (nI (mK S))), some (.int (nI ((kS S rr cc) + 1)))]) rfl ?_
        refine z_aload_n C 0 dL_sets_373 rfl rfl ?_
        refine z_iconst C (nI 0) dL_sets_374 (by decide) ?_
        refine z_iload C dL_sets_375 rfl ?_
        refine z_iload C dL_sets_377 rfl ?_
        refine z_callVr C kX5_cell gL_sets_X5_cell (l_cell0 X.2.1 x0 h0 w0 t S1 rr cc hG1 (by omega) (by omega)) dL_sets_379 [0, 1, 2, 3, 4, 5, 6, 7, 8] [] 0 rfl nd_0_1_2_3_4_5_6_7_8 rfl rfl rfl (by decide) (by decide) (Nat.le_of_ble_eq_true rfl) rfl ?_
        refine z_iload C dL_sets_382 rfl ?_
        refine z_icmp_ne_f C 426 dL_sets_384 (by decide) hc1 ?_
        refine z_aload_n C 0 dL_sets_387 rfl rfl ?_
        refine z_iload C dL_sets_388 rfl ?_
        refine z_iload C dL_sets_390 rfl ?_
        refine z_iload C dL_sets_392 rfl ?_
        refine z_callVr C kX5_setting gL_sets_X5_setting (l_setN X.2.1 x0 h0 w0 t S1 rr cc ((kS S rr cc) + 1) hG1 (by omega) (by omega) (by omega) (by omega)) dL_sets_394 [0, 1, 2, 3, 4, 5, 6, 7, 8] [] 0 rfl nd_0_1_2_3_4_5_6_7_8 rfl rfl rfl (by decide) (by decide) (Nat.le_of_ble_eq_true rfl) rfl ?_
        refine z_bipush C (-5) dL_sets_397 (by decide) ?_
        refine z_icmp_ne_f C 426 dL_sets_399 (by decide) rfl ?_
        refine z_iload C dL_sets_402 rfl ?_
        refine z_nif_eq_f C 422 dL_sets_404 (by decide) (by omega) (by omega) ?_
        refine z_aload_n C 0 dL_sets_407 rfl rfl ?_
        refine z_iload C dL_sets_408 rfl ?_
        refine z_iload C dL_sets_410 rfl ?_
        refine z_iload C dL_sets_412 rfl ?_
        refine z_iconst C (nI 1) dL_sets_414 (by decide) ?_
        refine z_isub C dL_sets_415 ?_
        refine z_top (y := nI (kS S rr cc)) ((pk_sub (by omega)).trans (congrArg nI (by omega))) ?_
        refine z_callVr C kX5_setting gL_sets_X5_setting (l_setY X.2.1 x0 h0 w0 t S1 rr cc (kS S rr cc) hG1 (by omega) (by omega) (by omega)) dL_sets_416 [0, 1, 2, 3, 4, 5, 6, 7, 8] [] 0 rfl nd_0_1_2_3_4_5_6_7_8 rfl rfl rfl (by decide) (by decide) (Nat.le_of_ble_eq_true rfl) rfl ?_
        have hg_12 : sX S1 rr cc (kS S rr cc) < mK S1 := (sX_t hG1 (by omega)).1
        refine z_nif_lt_f C 426 dL_sets_419 (by decide) (by omega) (by trivial) ?_
        refine z_iconst C (nI 1) dL_sets_422 (by decide) ?_
        refine z_goto C 427 dL_sets_423 (by decide) ?_
        exact z_zret C N dL_sets_427 rfl (rfl) (rfl)
  exact hL95 _ 0 rfl (by omega)
