set_option maxHeartbeats 4000000 in
set_option maxRecDepth 100000 in
theorem w_ins0b (E : zE) (x0 h0 h1 w0 w1 : Nat) (t : Nat → Nat) (r : Nat → Nat → Nat) (S S1 : zSt) (o kp kp1 o1 : Nat) (Q Q1 : Nat → zSt) (tx : Nat → Nat) (ln : Nat) (ps : zPs) {B B1 : Nat} (au : Nat) (g : Int32) (hG : GG S B) (hG1 : GG S1 B1) (hau : au < 4) (hp : uU S 0 < lw g (uU S 0 + 2)) (hu : uU S1 0 = uU S 0) (hsm : smV S1 0 = smV S 0) (m1 : zM E yX5_insert wsX5_insert 6 [.ref x0, .int (nI au), .int (nI 0), .int (nI (lw g (uU S 0 + 2)))] (WAd E x0 h0 h1 w0 t r S o kp Q) (WAd E x0 h0 h1 w0 t r S1 o1 kp1 Q1) (some (.int (-2)))) : zM E yL_inserts wsL_inserts 7 [.ref x0, .int (nI au), .int (nI 0), .int g] (WRd E x0 h0 h1 w0 w1 t r S o kp Q tx ln ps) (WRd E x0 h0 h1 w0 w1 t r S1 o1 kp1 Q1 tx ln ps) (some (.int (nI 1))) := by
  refine zM.of kL_inserts (Nat.le_of_ble_eq_true rfl) rfl [some (.ref x0), some (.int (nI au)), some (.int (nI 0)), some (.int g), none, none, none, none, none, none, none] rfl (Nat.le_of_ble_eq_true rfl) ?_
  intro X eX C N
  subst eX
  have hb0 : uU S 0 ≤ 12 := gg_u hG 0
  have hb1 : uU S 1 ≤ 8 := gg_u1 hG
  have hb2 : mK S ≤ 60 := gg_M hG
  have hb3 : uU S1 0 ≤ 12 := gg_u hG1 0
  have hb4 : uU S1 1 ≤ 8 := gg_u1 hG1
  have hb5 : mK S1 ≤ 60 := gg_M hG1
  refine z_aload_n C 0 dL_inserts_0 rfl rfl ?_
  refine z_iconst C (nI 0) dL_inserts_1 (by decide) ?_
  refine z_iload_n C 2 dL_inserts_2 rfl rfl ?_
  refine z_callVr C kX5_size gL_inserts_X5_size (l_size0 X.2.1 x0 h0 w0 t S 0 hG (by decide)) dL_inserts_3 [0, 1, 2, 3, 4, 5, 6, 7, 8] [] 0 rfl nd_0_1_2_3_4_5_6_7_8 rfl rfl rfl (by decide) (by decide) (Nat.le_of_ble_eq_true rfl) rfl ?_
  refine z_istore C dL_inserts_6 (Nat.le_of_ble_eq_true rfl) ?_
  refine z_lv (lv' := [some (.ref x0), some (.int (nI au)), some (.int (nI 0)), some (.int g), some (.int (nI (uU S 0))), none, none, none, none, none, none]) rfl ?_
  refine z_iload_n C 3 dL_inserts_8 rfl rfl ?_
  refine z_iload C dL_inserts_9 rfl ?_
  refine z_iconst C (nI 2) dL_inserts_11 (by decide) ?_
  refine z_iadd C dL_inserts_12 ?_
  refine z_top (y := nI ((uU S 0) + 2)) (nI_add _ _) ?_
  refine z_callS C kL_low gL_inserts_L_low (l_low X.2.1 g ((uU S 0) + 2) (by omega) (by omega)) dL_inserts_13 [] rfl (by decide) (by decide) (Nat.le_of_ble_eq_true rfl) rfl ?_
  have hg_1 : lw g ((uU S 0) + 2) < ((uU S 0) + 2) := lw_lt g (by omega)
  refine z_istore C dL_inserts_16 (Nat.le_of_ble_eq_true rfl) ?_
  refine z_lv (lv' := [some (.ref x0), some (.int (nI au)), some (.int (nI 0)), some (.int g), some (.int (nI (uU S 0))), some (.int (nI (lw g ((uU S 0) + 2)))), none, none, none, none, none]) rfl ?_
  refine z_aload_n C 0 dL_inserts_18 rfl rfl ?_
  refine z_iconst C (nI 0) dL_inserts_19 (by decide) ?_
  refine z_callVr C kX5_count gL_inserts_X5_count (l_cnt0 X.2.1 x0 h0 h1 w0 w1 t S o kp ln ps  hG ) dL_inserts_20 [0, 1, 2, 3, 4, 5, 6, 7, 8, 9, 51] [] 0 rfl nd_0_1_2_3_4_5_6_7_8_9_51 rfl rfl rfl (by decide) (by decide) (Nat.le_of_ble_eq_true rfl) rfl ?_
  refine z_istore C dL_inserts_23 (Nat.le_of_ble_eq_true rfl) ?_
  refine z_lv (lv' := [some (.ref x0), some (.int (nI au)), some (.int (nI 0)), some (.int g), some (.int (nI (uU S 0))), some (.int (nI (lw g ((uU S 0) + 2)))), some (.int (nI (mK S))), none, none, none, none]) rfl ?_
  refine z_aload_n C 0 dL_inserts_25 rfl rfl ?_
  refine z_iconst C (nI 5) dL_inserts_26 (by decide) ?_
  refine z_callVr C kX5_count gL_inserts_X5_count (l_cnt5 X.2.1 x0 h0 h1 w0 w1 t S o kp ln ps  hG ) dL_inserts_27 [0, 1, 2, 3, 4, 5, 6, 7, 8, 9, 51] [] 0 rfl nd_0_1_2_3_4_5_6_7_8_9_51 rfl rfl rfl (by decide) (by decide) (Nat.le_of_ble_eq_true rfl) rfl ?_
  refine z_iconst C (nI 1) dL_inserts_30 (by decide) ?_
  refine z_icmp_ne C 38 dL_inserts_31 (by decide) (fun h_2 => ?_) (fun h_2 => ?_)
  · refine z_iconst C (nI 0) dL_inserts_38 (by decide) ?_
    refine z_istore C dL_inserts_39 (Nat.le_of_ble_eq_true rfl) ?_
    refine z_lv (lv' := [some (.ref x0), some (.int (nI au)), some (.int (nI 0)), some (.int g), some (.int (nI (uU S 0))), some (.int (nI (lw g ((uU S 0) + 2)))), some (.int (nI (mK S))), some (.int (nI 0)), none, none, none]) rfl ?_
    refine z_iload C dL_inserts_41 rfl ?_
    refine z_iload_n C 2 dL_inserts_43 rfl rfl ?_
    refine z_nif_ne_f C 52 dL_inserts_44 (by decide) (by omega) (by omega) ?_
    refine z_bipush C (nI 12) dL_inserts_47 (by decide) ?_
    refine z_goto C 54 dL_inserts_49 (by decide) ?_
    refine z_ncmp_eq C 69 dL_inserts_54 (by decide) (by omega) (by omega) (fun h_3 => ?_) (fun h_3 => ?_)
    · refine z_iconst C (nI 1) dL_inserts_69 (by decide) ?_
      refine z_goto C 74 dL_inserts_70 (by decide) ?_
      refine z_istore C dL_inserts_74 (Nat.le_of_ble_eq_true rfl) ?_
      refine z_lv (lv' := [some (.ref x0), some (.int (nI au)), some (.int (nI 0)), some (.int g), some (.int (nI (uU S 0))), some (.int (nI (lw g ((uU S 0) + 2)))), some (.int (nI (mK S))), some (.int (nI 0)), some (.int (nI 1)), none, none]) rfl ?_
      refine z_iload C dL_inserts_76 rfl ?_
      refine z_iload C dL_inserts_78 rfl ?_
      refine z_ncmp_le_f C 88 dL_inserts_80 (by decide) (by omega) (by omega) (by omega) ?_
      refine z_bipush C (-2) dL_inserts_83 (by decide) ?_
      refine z_goto C 111 dL_inserts_85 (by decide) ?_
      refine z_istore C dL_inserts_111 (Nat.le_of_ble_eq_true rfl) ?_
      refine z_lv (lv' := [some (.ref x0), some (.int (nI au)), some (.int (nI 0)), some (.int g), some (.int (nI (uU S 0))), some (.int (nI (lw g ((uU S 0) + 2)))), some (.int (nI (mK S))), some (.int (nI 0)), some (.int (nI 1)), some (.int (-2)), none]) rfl ?_
      refine z_aload_n C 0 dL_inserts_113 rfl rfl ?_
      refine z_iconst C (nI 0) dL_inserts_114 (by decide) ?_
      refine z_callVr C kX5_sum gL_inserts_X5_sum (l_smv X.2.1 x0 h0 w0 t S 0 hG (by decide)) dL_inserts_115 [0, 1, 2, 3, 4, 5, 6, 7, 8] [] 0 rfl nd_0_1_2_3_4_5_6_7_8 rfl rfl rfl (by decide) (by decide) (Nat.le_of_ble_eq_true rfl) rfl ?_
      refine z_istore C dL_inserts_118 (Nat.le_of_ble_eq_true rfl) ?_
      refine z_lv (lv' := [some (.ref x0), some (.int (nI au)), some (.int (nI 0)), some (.int g), some (.int (nI (uU S 0))), some (.int (nI (lw g ((uU S 0) + 2)))), some (.int (nI (mK S))), some (.int (nI 0)), some (.int (nI 1)), some (.int (-2)), some (.int (smV S 0))]) rfl ?_
      refine z_aload_n C 0 dL_inserts_120 rfl rfl ?_
      refine z_iload_n C 1 dL_inserts_121 rfl rfl ?_
      refine z_iload_n C 2 dL_inserts_122 rfl rfl ?_
      refine z_iload C dL_inserts_123 rfl ?_
      refine z_callV (wn := (WRd X.2.1 x0 h0 h1 w0 w1 t r S1 o1 kp1 Q1 tx ln ps)) C kX5_insert gL_inserts_X5_insert m1 dL_inserts_125 [0, 1, 2, 3, 4, 5, 6, 7, 8, 9, 10, 11, 12, 13, 14, 15, 16, 17, 18, 19, 20, 21, 22, 23, 24, 25, 26, 27, 28, 29, 30, 31, 32, 33, 34, 35, 36, 37, 38, 39, 40, 41, 42, 43, 44, 45, 46, 47, 48, 49, 50] [] 0 rfl rfl nd_0_1_2_3_4_5_6_7_8_9_10_11_12_13_14_15_16_17_18_19_20_21_22_23_24_25_26_27_28_29_30_31_32_33_34_35_36_37_38_39_40_41_42_43_44_45_46_47_48_49_50 rfl rfl rfl (by decide) (by decide) (Nat.le_of_ble_eq_true rfl) rfl ((zput_par nd_0_1_2_3_4_5_6_7_8_9_10_11_12_13_14_15_16_17_18_19_20_21_22_23_24_25_26_27_28_29_30_31_32_33_34_35_36_37_38_39_40_41_42_43_44_45_46_47_48_49_50 rfl).trans rfl) ?_
      refine z_iload C dL_inserts_128 rfl ?_
      refine z_icmp_ne_f C 143 dL_inserts_130 (by decide) rfl ?_
      refine z_aload_n C 0 dL_inserts_133 rfl rfl ?_
      refine z_iconst C (nI 0) dL_inserts_134 (by decide) ?_
      refine z_callVr C kX5_sum gL_inserts_X5_sum (l_smv X.2.1 x0 h0 w0 t S1 0 hG1 (by decide)) dL_inserts_135 [0, 1, 2, 3, 4, 5, 6, 7, 8] [] 0 rfl nd_0_1_2_3_4_5_6_7_8 rfl rfl rfl (by decide) (by decide) (Nat.le_of_ble_eq_true rfl) rfl ?_
      refine z_iload C dL_inserts_138 rfl ?_
      refine z_icmp_eq_t C 145 dL_inserts_140 (by decide) hsm ?_
      refine z_iload C dL_inserts_145 rfl ?_
      refine z_if_ge_f C 169 dL_inserts_147 (by decide) (by decide) ?_
      refine z_aload_n C 0 dL_inserts_150 rfl rfl ?_
      refine z_iconst C (nI 0) dL_inserts_151 (by decide) ?_
      refine z_iload_n C 2 dL_inserts_152 rfl rfl ?_
      refine z_callVr C kX5_size gL_inserts_X5_size (l_size0 X.2.1 x0 h0 w0 t S1 0 hG1 (by decide)) dL_inserts_153 [0, 1, 2, 3, 4, 5, 6, 7, 8] [] 0 rfl nd_0_1_2_3_4_5_6_7_8 rfl rfl rfl (by decide) (by decide) (Nat.le_of_ble_eq_true rfl) rfl ?_
      refine z_iload C dL_inserts_156 rfl ?_
      refine z_ncmp_ne_f C 165 dL_inserts_158 (by decide) (by omega) (by omega) (by omega) ?_
      refine z_iconst C (nI 1) dL_inserts_161 (by decide) ?_
      refine z_goto C 221 dL_inserts_162 (by decide) ?_
      exact z_zret C N dL_inserts_221 rfl (rfl) (rfl)
    · refine z_iload C dL_inserts_57 rfl ?_
      refine z_nif_eq_t C 73 dL_inserts_59 (by decide) (by omega) (by omega) ?_
      refine z_iconst C (nI 0) dL_inserts_73 (by decide) ?_
      refine z_istore C dL_inserts_74 (Nat.le_of_ble_eq_true rfl) ?_
      refine z_lv (lv' := [some (.ref x0), some (.int (nI au)), some (.int (nI 0)), some (.int g), some (.int (nI (uU S 0))), some (.int (nI (lw g ((uU S 0) + 2)))), some (.int (nI (mK S))), some (.int (nI 0)), some (.int (nI 0)), none, none]) rfl ?_
      refine z_iload C dL_inserts_76 rfl ?_
      refine z_iload C dL_inserts_78 rfl ?_
      refine z_ncmp_le_f C 88 dL_inserts_80 (by decide) (by omega) (by omega) (by omega) ?_
      refine z_bipush C (-2) dL_inserts_83 (by decide) ?_
      refine z_goto C 111 dL_inserts_85 (by decide) ?_
      refine z_istore C dL_inserts_111 (Nat.le_of_ble_eq_true rfl) ?_
      refine z_lv (lv' := [some (.ref x0), some (.int (nI au)), some (.int (nI 0)), some (.int g), some (.int (nI (uU S 0))), some (.int (nI (lw g ((uU S 0) + 2)))), some (.int (nI (mK S))), some (.int (nI 0)), some (.int (nI 0)), some (.int (-2)), none]) rfl ?_
      refine z_aload_n C 0 dL_inserts_113 rfl rfl ?_
      refine z_iconst C (nI 0) dL_inserts_114 (by decide) ?_
      refine z_callVr C kX5_sum gL_inserts_X5_sum (l_smv X.2.1 x0 h0 w0 t S 0 hG (by decide)) dL_inserts_115 [0, 1, 2, 3, 4, 5, 6, 7, 8] [] 0 rfl nd_0_1_2_3_4_5_6_7_8 rfl rfl rfl (by decide) (by decide) (Nat.le_of_ble_eq_true rfl) rfl ?_
      refine z_istore C dL_inserts_118 (Nat.le_of_ble_eq_true rfl) ?_
      refine z_lv (lv' := [some (.ref x0), some (.int (nI au)), some (.int (nI 0)), some (.int g), some (.int (nI (uU S 0))), some (.int (nI (lw g ((uU S 0) + 2)))), some (.int (nI (mK S))), some (.int (nI 0)), some (.int (nI 0)), some (.int (-2)), some (.int (smV S 0))]) rfl ?_
      refine z_aload_n C 0 dL_inserts_120 rfl rfl ?_
      refine z_iload_n C 1 dL_inserts_121 rfl rfl ?_
      refine z_iload_n C 2 dL_inserts_122 rfl rfl ?_
      refine z_iload C dL_inserts_123 rfl ?_
      refine z_callV (wn := (WRd X.2.1 x0 h0 h1 w0 w1 t r S1 o1 kp1 Q1 tx ln ps)) C kX5_insert gL_inserts_X5_insert m1 dL_inserts_125 [0, 1, 2, 3, 4, 5, 6, 7, 8, 9, 10, 11, 12, 13, 14, 15, 16, 17, 18, 19, 20, 21, 22, 23, 24, 25, 26, 27, 28, 29, 30, 31, 32, 33, 34, 35, 36, 37, 38, 39, 40, 41, 42, 43, 44, 45, 46, 47, 48, 49, 50] [] 0 rfl rfl nd_0_1_2_3_4_5_6_7_8_9_10_11_12_13_14_15_16_17_18_19_20_21_22_23_24_25_26_27_28_29_30_31_32_33_34_35_36_37_38_39_40_41_42_43_44_45_46_47_48_49_50 rfl rfl rfl (by decide) (by decide) (Nat.le_of_ble_eq_true rfl) rfl ((zput_par nd_0_1_2_3_4_5_6_7_8_9_10_11_12_13_14_15_16_17_18_19_20_21_22_23_24_25_26_27_28_29_30_31_32_33_34_35_36_37_38_39_40_41_42_43_44_45_46_47_48_49_50 rfl).trans rfl) ?_
      refine z_iload C dL_inserts_128 rfl ?_
      refine z_icmp_ne_f C 143 dL_inserts_130 (by decide) rfl ?_
      refine z_aload_n C 0 dL_inserts_133 rfl rfl ?_
      refine z_iconst C (nI 0) dL_inserts_134 (by decide) ?_
      refine z_callVr C kX5_sum gL_inserts_X5_sum (l_smv X.2.1 x0 h0 w0 t S1 0 hG1 (by decide)) dL_inserts_135 [0, 1, 2, 3, 4, 5, 6, 7, 8] [] 0 rfl nd_0_1_2_3_4_5_6_7_8 rfl rfl rfl (by decide) (by decide) (Nat.le_of_ble_eq_true rfl) rfl ?_
      refine z_iload C dL_inserts_138 rfl ?_
      refine z_icmp_eq_t C 145 dL_inserts_140 (by decide) hsm ?_
      refine z_iload C dL_inserts_145 rfl ?_
      refine z_if_ge_f C 169 dL_inserts_147 (by decide) (by decide) ?_
      refine z_aload_n C 0 dL_inserts_150 rfl rfl ?_
      refine z_iconst C (nI 0) dL_inserts_151 (by decide) ?_
      refine z_iload_n C 2 dL_inserts_152 rfl rfl ?_
      refine z_callVr C kX5_size gL_inserts_X5_size (l_size0 X.2.1 x0 h0 w0 t S1 0 hG1 (by decide)) dL_inserts_153 [0, 1, 2, 3, 4, 5, 6, 7, 8] [] 0 rfl nd_0_1_2_3_4_5_6_7_8 rfl rfl rfl (by decide) (by decide) (Nat.le_of_ble_eq_true rfl) rfl ?_
      refine z_iload C dL_inserts_156 rfl ?_
      refine z_ncmp_ne_f C 165 dL_inserts_158 (by decide) (by omega) (by omega) (by omega) ?_
      refine z_iconst C (nI 1) dL_inserts_161 (by decide) ?_
      refine z_goto C 221 dL_inserts_162 (by decide) ?_
      exact z_zret C N dL_inserts_221 rfl (rfl) (rfl)
  · refine z_iconst C (nI 1) dL_inserts_34 (by decide) ?_
    refine z_goto C 39 dL_inserts_35 (by decide) ?_
    refine z_istore C dL_inserts_39 (Nat.le_of_ble_eq_true rfl) ?_
    refine z_lv (lv' := [some (.ref x0), some (.int (nI au)), some (.int (nI 0)), some (.int g), some (.int (nI (uU S 0))), some (.int (nI (lw g ((uU S 0) + 2)))), some (.int (nI (mK S))), some (.int (nI 1)), none, none, none]) rfl ?_
    refine z_iload C dL_inserts_41 rfl ?_
    refine z_iload_n C 2 dL_inserts_43 rfl rfl ?_
    refine z_nif_ne_f C 52 dL_inserts_44 (by decide) (by omega) (by omega) ?_
    refine z_bipush C (nI 12) dL_inserts_47 (by decide) ?_
    refine z_goto C 54 dL_inserts_49 (by decide) ?_
    refine z_ncmp_eq C 69 dL_inserts_54 (by decide) (by omega) (by omega) (fun h_4 => ?_) (fun h_4 => ?_)
    · refine z_iconst C (nI 1) dL_inserts_69 (by decide) ?_
      refine z_goto C 74 dL_inserts_70 (by decide) ?_
      refine z_istore C dL_inserts_74 (Nat.le_of_ble_eq_true rfl) ?_
      refine z_lv (lv' := [some (.ref x0), some (.int (nI au)), some (.int (nI 0)), some (.int g), some (.int (nI (uU S 0))), some (.int (nI (lw g ((uU S 0) + 2)))), some (.int (nI (mK S))), some (.int (nI 1)), some (.int (nI 1)), none, none]) rfl ?_
      refine z_iload C dL_inserts_76 rfl ?_
      refine z_iload C dL_inserts_78 rfl ?_
      refine z_ncmp_le_f C 88 dL_inserts_80 (by decide) (by omega) (by omega) (by omega) ?_
      refine z_bipush C (-2) dL_inserts_83 (by decide) ?_
      refine z_goto C 111 dL_inserts_85 (by decide) ?_
      refine z_istore C dL_inserts_111 (Nat.le_of_ble_eq_true rfl) ?_
      refine z_lv (lv' := [some (.ref x0), some (.int (nI au)), some (.int (nI 0)), some (.int g), some (.int (nI (uU S 0))), some (.int (nI (lw g ((uU S 0) + 2)))), some (.int (nI (mK S))), some (.int (nI 1)), some (.int (nI 1)), some (.int (-2)), none]) rfl ?_
      refine z_aload_n C 0 dL_inserts_113 rfl rfl ?_
      refine z_iconst C (nI 0) dL_inserts_114 (by decide) ?_
      refine z_callVr C kX5_sum gL_inserts_X5_sum (l_smv X.2.1 x0 h0 w0 t S 0 hG (by decide)) dL_inserts_115 [0, 1, 2, 3, 4, 5, 6, 7, 8] [] 0 rfl nd_0_1_2_3_4_5_6_7_8 rfl rfl rfl (by decide) (by decide) (Nat.le_of_ble_eq_true rfl) rfl ?_
      refine z_istore C dL_inserts_118 (Nat.le_of_ble_eq_true rfl) ?_
      refine z_lv (lv' := [some (.ref x0), some (.int (nI au)), some (.int (nI 0)), some (.int g), some (.int (nI (uU S 0))), some (.int (nI (lw g ((uU S 0) + 2)))), some (.int (nI (mK S))), some (.int (nI 1)), some (.int (nI 1)), some (.int (-2)), some (.int (smV S 0))]) rfl ?_
      refine z_aload_n C 0 dL_inserts_120 rfl rfl ?_
      refine z_iload_n C 1 dL_inserts_121 rfl rfl ?_
      refine z_iload_n C 2 dL_inserts_122 rfl rfl ?_
      refine z_iload C dL_inserts_123 rfl ?_
      refine z_callV (wn := (WRd X.2.1 x0 h0 h1 w0 w1 t r S1 o1 kp1 Q1 tx ln ps)) C kX5_insert gL_inserts_X5_insert m1 dL_inserts_125 [0, 1, 2, 3, 4, 5, 6, 7, 8, 9, 10, 11, 12, 13, 14, 15, 16, 17, 18, 19, 20, 21, 22, 23, 24, 25, 26, 27, 28, 29, 30, 31, 32, 33, 34, 35, 36, 37, 38, 39, 40, 41, 42, 43, 44, 45, 46, 47, 48, 49, 50] [] 0 rfl rfl nd_0_1_2_3_4_5_6_7_8_9_10_11_12_13_14_15_16_17_18_19_20_21_22_23_24_25_26_27_28_29_30_31_32_33_34_35_36_37_38_39_40_41_42_43_44_45_46_47_48_49_50 rfl rfl rfl (by decide) (by decide) (Nat.le_of_ble_eq_true rfl) rfl ((zput_par nd_0_1_2_3_4_5_6_7_8_9_10_11_12_13_14_15_16_17_18_19_20_21_22_23_24_25_26_27_28_29_30_31_32_33_34_35_36_37_38_39_40_41_42_43_44_45_46_47_48_49_50 rfl).trans rfl) ?_
      refine z_iload C dL_inserts_128 rfl ?_
      refine z_icmp_ne_f C 143 dL_inserts_130 (by decide) rfl ?_
      refine z_aload_n C 0 dL_inserts_133 rfl rfl ?_
      refine z_iconst C (nI 0) dL_inserts_134 (by decide) ?_
      refine z_callVr C kX5_sum gL_inserts_X5_sum (l_smv X.2.1 x0 h0 w0 t S1 0 hG1 (by decide)) dL_inserts_135 [0, 1, 2, 3, 4, 5, 6, 7, 8] [] 0 rfl nd_0_1_2_3_4_5_6_7_8 rfl rfl rfl (by decide) (by decide) (Nat.le_of_ble_eq_true rfl) rfl ?_
      refine z_iload C dL_inserts_138 rfl ?_
      refine z_icmp_eq_t C 145 dL_inserts_140 (by decide) hsm ?_
      refine z_iload C dL_inserts_145 rfl ?_
      refine z_if_ge_f C 169 dL_inserts_147 (by decide) (by decide) ?_
      refine z_aload_n C 0 dL_inserts_150 rfl rfl ?_
      refine z_iconst C (nI 0) dL_inserts_151 (by decide) ?_
      refine z_iload_n C 2 dL_inserts_152 rfl rfl ?_
      refine z_callVr C kX5_size gL_inserts_X5_size (l_size0 X.2.1 x0 h0 w0 t S1 0 hG1 (by decide)) dL_inserts_153 [0, 1, 2, 3, 4, 5, 6, 7, 8] [] 0 rfl nd_0_1_2_3_4_5_6_7_8 rfl rfl rfl (by decide) (by decide) (Nat.le_of_ble_eq_true rfl) rfl ?_
      refine z_iload C dL_inserts_156 rfl ?_
      refine z_ncmp_ne_f C 165 dL_inserts_158 (by decide) (by omega) (by omega) (by omega) ?_
      refine z_iconst C (nI 1) dL_inserts_161 (by decide) ?_
      refine z_goto C 221 dL_inserts_162 (by decide) ?_
      exact z_zret C N dL_inserts_221 rfl (rfl) (rfl)
    · refine z_iload C dL_inserts_57 rfl ?_
      refine z_nif_eq_f C 73 dL_inserts_59 (by decide) (by omega) (by omega) ?_
      refine z_iload C dL_inserts_62 rfl ?_
      refine z_bipush C (nI 60) dL_inserts_64 (by decide) ?_
      refine z_ncmp_ne C 73 dL_inserts_66 (by decide) (by omega) (by omega) (fun h_5 => ?_) (fun h_5 => ?_)
      · refine z_iconst C (nI 0) dL_inserts_73 (by decide) ?_
        refine z_istore C dL_inserts_74 (Nat.le_of_ble_eq_true rfl) ?_
        refine z_lv (lv' := [some (.ref x0), some (.int (nI au)), some (.int (nI 0)), some (.int g), some (.int (nI (uU S 0))), some (.int (nI (lw g ((uU S 0) + 2)))), some (.int (nI (mK S))), some (.int (nI 1)), some (.int (nI 0)), none, none]) rfl ?_
        refine z_iload C dL_inserts_76 rfl ?_
        refine z_iload C dL_inserts_78 rfl ?_
        refine z_ncmp_le_f C 88 dL_inserts_80 (by decide) (by omega) (by omega) (by omega) ?_
        refine z_bipush C (-2) dL_inserts_83 (by decide) ?_
        refine z_goto C 111 dL_inserts_85 (by decide) ?_
        refine z_istore C dL_inserts_111 (Nat.le_of_ble_eq_true rfl) ?_
        refine z_lv (lv' := [some (.ref x0), some (.int (nI au)), some (.int (nI 0)), some (.int g), some (.int (nI (uU S 0))), some (.int (nI (lw g ((uU S 0) + 2)))), some (.int (nI (mK S))), some (.int (nI 1)), some (.int (nI 0)), some (.int (-2)), none]) rfl ?_
        refine z_aload_n C 0 dL_inserts_113 rfl rfl ?_
        refine z_iconst C (nI 0) dL_inserts_114 (by decide) ?_
        refine z_callVr C kX5_sum gL_inserts_X5_sum (l_smv X.2.1 x0 h0 w0 t S 0 hG (by decide)) dL_inserts_115 [0, 1, 2, 3, 4, 5, 6, 7, 8] [] 0 rfl nd_0_1_2_3_4_5_6_7_8 rfl rfl rfl (by decide) (by decide) (Nat.le_of_ble_eq_true rfl) rfl ?_
        refine z_istore C dL_inserts_118 (Nat.le_of_ble_eq_true rfl) ?_
        refine z_lv (lv' := [some (.ref x0), some (.int (nI au)), some (.int (nI 0)), some (.int g), some (.int (nI (uU S 0))), some (.int (nI (lw g ((uU S 0) + 2)))), some (.int (nI (mK S))), some (.int (nI 1)), some (.int (nI 0)), some (.int (-2)), some (.int (smV S 0))]) rfl ?_
        refine z_aload_n C 0 dL_inserts_120 rfl rfl ?_
        refine z_iload_n C 1 dL_inserts_121 rfl rfl ?_
        refine z_iload_n C 2 dL_inserts_122 rfl rfl ?_
        refine z_iload C dL_inserts_123 rfl ?_
        refine z_callV (wn := (WRd X.2.1 x0 h0 h1 w0 w1 t r S1 o1 kp1 Q1 tx ln ps)) C kX5_insert gL_inserts_X5_insert m1 dL_inserts_125 [0, 1, 2, 3, 4, 5, 6, 7, 8, 9, 10, 11, 12, 13, 14, 15, 16, 17, 18, 19, 20, 21, 22, 23, 24, 25, 26, 27, 28, 29, 30, 31, 32, 33, 34, 35, 36, 37, 38, 39, 40, 41, 42, 43, 44, 45, 46, 47, 48, 49, 50] [] 0 rfl rfl nd_0_1_2_3_4_5_6_7_8_9_10_11_12_13_14_15_16_17_18_19_20_21_22_23_24_25_26_27_28_29_30_31_32_33_34_35_36_37_38_39_40_41_42_43_44_45_46_47_48_49_50 rfl rfl rfl (by decide) (by decide) (Nat.le_of_ble_eq_true rfl) rfl ((zput_par nd_0_1_2_3_4_5_6_7_8_9_10_11_12_13_14_15_16_17_18_19_20_21_22_23_24_25_26_27_28_29_30_31_32_33_34_35_36_37_38_39_40_41_42_43_44_45_46_47_48_49_50 rfl).trans rfl) ?_
        refine z_iload C dL_inserts_128 rfl ?_
        refine z_icmp_ne_f C 143 dL_inserts_130 (by decide) rfl ?_
        refine z_aload_n C 0 dL_inserts_133 rfl rfl ?_
        refine z_iconst C (nI 0) dL_inserts_134 (by decide) ?_
        refine z_callVr C kX5_sum gL_inserts_X5_sum (l_smv X.2.1 x0 h0 w0 t S1 0 hG1 (by decide)) dL_inserts_135 [0, 1, 2, 3, 4, 5, 6, 7, 8] [] 0 rfl nd_0_1_2_3_4_5_6_7_8 rfl rfl rfl (by decide) (by decide) (Nat.le_of_ble_eq_true rfl) rfl ?_
        refine z_iload C dL_inserts_138 rfl ?_
        refine z_icmp_eq_t C 145 dL_inserts_140 (by decide) hsm ?_
        refine z_iload C dL_inserts_145 rfl ?_
        refine z_if_ge_f C 169 dL_inserts_147 (by decide) (by decide) ?_
        refine z_aload_n C 0 dL_inserts_150 rfl rfl ?_
        refine z_iconst C (nI 0) dL_inserts_151 (by decide) ?_
        refine z_iload_n C 2 dL_inserts_152 rfl rfl ?_
        refine z_callVr C kX5_size gL_inserts_X5_size (l_size0 X.2.1 x0 h0 w0 t S1 0 hG1 (by decide)) dL_inserts_153 [0, 1, 2, 3, 4, 5, 6, 7, 8] [] 0 rfl nd_0_1_2_3_4_5_6_7_8 rfl rfl rfl (by decide) (by decide) (Nat.le_of_ble_eq_true rfl) rfl ?_
        refine z_iload C dL_inserts_156 rfl ?_
        refine z_ncmp_ne_f C 165 dL_inserts_158 (by decide) (by omega) (by omega) (by omega) ?_
        refine z_iconst C (nI 1) dL_inserts_161 (by decide) ?_
        refine z_goto C 221 dL_inserts_162 (by decide) ?_
        exact z_zret C N dL_inserts_221 rfl (rfl) (rfl)
      · refine z_iconst C (nI 1) dL_inserts_69 (by decide) ?_
        refine z_goto C 74 dL_inserts_70 (by decide) ?_
        refine z_istore C dL_inserts_74 (Nat.le_of_ble_eq_true rfl) ?_
        refine z_lv (lv' := [some (.ref x0), some (.int (nI au)), some (.int (nI 0)), some (.int g), some (.int (nI (uU S 0))), some (.int (nI (lw g ((uU S 0) + 2)))), some (.int (nI (mK S))), some (.int (nI 1)), some (.int (nI 1)), none, none]) rfl ?_
        refine z_iload C dL_inserts_76 rfl ?_
        refine z_iload C dL_inserts_78 rfl ?_
        refine z_ncmp_le_f C 88 dL_inserts_80 (by decide) (by omega) (by omega) (by omega) ?_
        refine z_bipush C (-2) dL_inserts_83 (by decide) ?_
        refine z_goto C 111 dL_inserts_85 (by decide) ?_
        refine z_istore C dL_inserts_111 (Nat.le_of_ble_eq_true rfl) ?_
        refine z_lv (lv' := [some (.ref x0), some (.int (nI au)), some (.int (nI 0)), some (.int g), some (.int (nI (uU S 0))), some (.int (nI (lw g ((uU S 0) + 2)))), some (.int (nI (mK S))), some (.int (nI 1)), some (.int (nI 1)), some (.int (-2)), none]) rfl ?_
        refine z_aload_n C 0 dL_inserts_113 rfl rfl ?_
        refine z_iconst C (nI 0) dL_inserts_114 (by decide) ?_
        refine z_callVr C kX5_sum gL_inserts_X5_sum (l_smv X.2.1 x0 h0 w0 t S 0 hG (by decide)) dL_inserts_115 [0, 1, 2, 3, 4, 5, 6, 7, 8] [] 0 rfl nd_0_1_2_3_4_5_6_7_8 rfl rfl rfl (by decide) (by decide) (Nat.le_of_ble_eq_true rfl) rfl ?_
        refine z_istore C dL_inserts_118 (Nat.le_of_ble_eq_true rfl) ?_
        refine z_lv (lv' := [some (.ref x0), some (.int (nI au)), some (.int (nI 0)), some (.int g), some (.int (nI (uU S 0))), some (.int (nI (lw g ((uU S 0) + 2)))), some (.int (nI (mK S))), some (.int (nI 1)), some (.int (nI 1)), some (.int (-2)), some (.int (smV S 0))]) rfl ?_
        refine z_aload_n C 0 dL_inserts_120 rfl rfl ?_
        refine z_iload_n C 1 dL_inserts_121 rfl rfl ?_
        refine z_iload_n C 2 dL_inserts_122 rfl rfl ?_
        refine z_iload C dL_inserts_123 rfl ?_
        refine z_callV (wn := (WRd X.2.1 x0 h0 h1 w0 w1 t r S1 o1 kp1 Q1 tx ln ps)) C kX5_insert gL_inserts_X5_insert m1 dL_inserts_125 [0, 1, 2, 3, 4, 5, 6, 7, 8, 9, 10, 11, 12, 13, 14, 15, 16, 17, 18, 19, 20, 21, 22, 23, 24, 25, 26, 27, 28, 29, 30, 31, 32, 33, 34, 35, 36, 37, 38, 39, 40, 41, 42, 43, 44, 45, 46, 47, 48, 49, 50] [] 0 rfl rfl nd_0_1_2_3_4_5_6_7_8_9_10_11_12_13_14_15_16_17_18_19_20_21_22_23_24_25_26_27_28_29_30_31_32_33_34_35_36_37_38_39_40_41_42_43_44_45_46_47_48_49_50 rfl rfl rfl (by decide) (by decide) (Nat.le_of_ble_eq_true rfl) rfl ((zput_par nd_0_1_2_3_4_5_6_7_8_9_10_11_12_13_14_15_16_17_18_19_20_21_22_23_24_25_26_27_28_29_30_31_32_33_34_35_36_37_38_39_40_41_42_43_44_45_46_47_48_49_50 rfl).trans rfl) ?_
        refine z_iload C dL_inserts_128 rfl ?_
        refine z_icmp_ne_f C 143 dL_inserts_130 (by decide) rfl ?_
        refine z_aload_n C 0 dL_inserts_133 rfl rfl ?_
        refine z_iconst C (nI 0) dL_inserts_134 (by decide) ?_
        refine z_callVr C kX5_sum gL_inserts_X5_sum (l_smv X.2.1 x0 h0 w0 t S1 0 hG1 (by decide)) dL_inserts_135 [0, 1, 2, 3, 4, 5, 6, 7, 8] [] 0 rfl nd_0_1_2_3_4_5_6_7_8 rfl rfl rfl (by decide) (by decide) (Nat.le_of_ble_eq_true rfl) rfl ?_
        refine z_iload C dL_inserts_138 rfl ?_
        refine z_icmp_eq_t C 145 dL_inserts_140 (by decide) hsm ?_
        refine z_iload C dL_inserts_145 rfl ?_
        refine z_if_ge_f C 169 dL_inserts_147 (by decide) (by decide) ?_
        refine z_aload_n C 0 dL_inserts_150 rfl rfl ?_
        refine z_iconst C (nI 0) dL_inserts_151 (by decide) ?_
        refine z_iload_n C 2 dL_inserts_152 rfl rfl ?_
        refine z_callVr C kX5_size gL_inserts_X5_size (l_size0 X.2.1 x0 h0 w0 t S1 0 hG1 (by decide)) dL_inserts_153 [0, 1, 2, 3, 4, 5, 6, 7, 8] [] 0 rfl nd_0_1_2_3_4_5_6_7_8 rfl rfl rfl (by decide) (by decide) (Nat.le_of_ble_eq_true rfl) rfl ?_
        refine z_iload C dL_inserts_156 rfl ?_
        refine z_ncmp_ne_f C 165 dL_inserts_158 (by decide) (by omega) (by omega) (by omega) ?_
        refine z_iconst C (nI 1) dL_inserts_161 (by decide) ?_
        refine z_goto C 221 dL_inserts_162 (by decide) ?_
        exact z_zret C N dL_inserts_221 rfl (rfl) (rfl)

set_option maxHeartbeats 4000000 in
set_option maxRecDepth 100000 in
theorem w_ins0f (E : zE) (x0 h0 h1 w0 w1 : Nat) (t : Nat → Nat) (r : Nat → Nat → Nat) (S S1 : zSt) (o kp kp1 o1 : Nat) (Q Q1 : Nat → zSt) (tx : Nat → Nat) (ln : Nat) (ps : zPs) {B B1 : Nat} (au : Nat) (g : Int32) (hG : GG S B) (hG1 : GG S1 B1) (hau : au < 4) (hp : lw g (uU S 0 + 2) ≤ uU S 0) (hf : uU S 0 = 12) (hu : uU S1 0 = uU S 0) (hsm : smV S1 0 = smV S 0) (m1 : zM E yX5_insert wsX5_insert 6 [.ref x0, .int (nI au), .int (nI 0), .int (nI (lw g (uU S 0 + 2)))] (WAd E x0 h0 h1 w0 t r S o kp Q) (WAd E x0 h0 h1 w0 t r S1 o1 kp1 Q1) (some (.int (-3)))) : zM E yL_inserts wsL_inserts 7 [.ref x0, .int (nI au), .int (nI 0), .int g] (WRd E x0 h0 h1 w0 w1 t r S o kp Q tx ln ps) (WRd E x0 h0 h1 w0 w1 t r S1 o1 kp1 Q1 tx ln ps) (some (.int (nI 1))) := by
  refine zM.of kL_inserts (Nat.le_of_ble_eq_true rfl) rfl [some (.ref x0), some (.int (nI au)), some (.int (nI 0)), some (.int g), none, none, none, none, none, none, none] rfl (Nat.le_of_ble_eq_true rfl) ?_
  intro X eX C N
  subst eX
  have hb0 : uU S 0 ≤ 12 := gg_u hG 0
  have hb1 : uU S 1 ≤ 8 := gg_u1 hG
  have hb2 : mK S ≤ 60 := gg_M hG
  have hb3 : uU S1 0 ≤ 12 := gg_u hG1 0
  have hb4 : uU S1 1 ≤ 8 := gg_u1 hG1
  have hb5 : mK S1 ≤ 60 := gg_M hG1
  refine z_aload_n C 0 dL_inserts_0 rfl rfl ?_
  refine z_iconst C (nI 0) dL_inserts_1 (by decide) ?_
  refine z_iload_n C 2 dL_inserts_2 rfl rfl ?_
  refine z_callVr C kX5_size gL_inserts_X5_size (l_size0 X.2.1 x0 h0 w0 t S 0 hG (by decide)) dL_inserts_3 [0, 1, 2, 3, 4, 5, 6, 7, 8] [] 0 rfl nd_0_1_2_3_4_5_6_7_8 rfl rfl rfl (by decide) (by decide) (Nat.le_of_ble_eq_true rfl) rfl ?_
  refine z_istore C dL_inserts_6 (Nat.le_of_ble_eq_true rfl) ?_
  refine z_lv (lv' := [some (.ref x0), some (.int (nI au)), some (.int (nI 0)), some (.int g), some (.int (nI (uU S 0))), none, none, none, none, none, none]) rfl ?_
  refine z_iload_n C 3 dL_inserts_8 rfl rfl ?_
  refine z_iload C dL_inserts_9 rfl ?_
  refine z_iconst C (nI 2) dL_inserts_11 (by decide) ?_
  refine z_iadd C dL_inserts_12 ?_
  refine z_top (y := nI ((uU S 0) + 2)) (nI_add _ _) ?_
  refine z_callS C kL_low gL_inserts_L_low (l_low X.2.1 g ((uU S 0) + 2) (by omega) (by omega)) dL_inserts_13 [] rfl (by decide) (by decide) (Nat.le_of_ble_eq_true rfl) rfl ?_
  have hg_1 : lw g ((uU S 0) + 2) < ((uU S 0) + 2) := lw_lt g (by omega)
  refine z_istore C dL_inserts_16 (Nat.le_of_ble_eq_true rfl) ?_
  refine z_lv (lv' := [some (.ref x0), some (.int (nI au)), some (.int (nI 0)), some (.int g), some (.int (nI (uU S 0))), some (.int (nI (lw g ((uU S 0) + 2)))), none, none, none, none, none]) rfl ?_
  refine z_aload_n C 0 dL_inserts_18 rfl rfl ?_
  refine z_iconst C (nI 0) dL_inserts_19 (by decide) ?_
  refine z_callVr C kX5_count gL_inserts_X5_count (l_cnt0 X.2.1 x0 h0 h1 w0 w1 t S o kp ln ps  hG ) dL_inserts_20 [0, 1, 2, 3, 4, 5, 6, 7, 8, 9, 51] [] 0 rfl nd_0_1_2_3_4_5_6_7_8_9_51 rfl rfl rfl (by decide) (by decide) (Nat.le_of_ble_eq_true rfl) rfl ?_
  refine z_istore C dL_inserts_23 (Nat.le_of_ble_eq_true rfl) ?_
  refine z_lv (lv' := [some (.ref x0), some (.int (nI au)), some (.int (nI 0)), some (.int g), some (.int (nI (uU S 0))), some (.int (nI (lw g ((uU S 0) + 2)))), some (.int (nI (mK S))), none, none, none, none]) rfl ?_
  refine z_aload_n C 0 dL_inserts_25 rfl rfl ?_
  refine z_iconst C (nI 5) dL_inserts_26 (by decide) ?_
  refine z_callVr C kX5_count gL_inserts_X5_count (l_cnt5 X.2.1 x0 h0 h1 w0 w1 t S o kp ln ps  hG ) dL_inserts_27 [0, 1, 2, 3, 4, 5, 6, 7, 8, 9, 51] [] 0 rfl nd_0_1_2_3_4_5_6_7_8_9_51 rfl rfl rfl (by decide) (by decide) (Nat.le_of_ble_eq_true rfl) rfl ?_
  refine z_iconst C (nI 1) dL_inserts_30 (by decide) ?_
  refine z_icmp_ne C 38 dL_inserts_31 (by decide) (fun h_2 => ?_) (fun h_2 => ?_)
  · refine z_iconst C (nI 0) dL_inserts_38 (by decide) ?_
    refine z_istore C dL_inserts_39 (Nat.le_of_ble_eq_true rfl) ?_
    refine z_lv (lv' := [some (.ref x0), some (.int (nI au)), some (.int (nI 0)), some (.int g), some (.int (nI (uU S 0))), some (.int (nI (lw g ((uU S 0) + 2)))), some (.int (nI (mK S))), some (.int (nI 0)), none, none, none]) rfl ?_
    refine z_iload C dL_inserts_41 rfl ?_
    refine z_iload_n C 2 dL_inserts_43 rfl rfl ?_
    refine z_nif_ne_f C 52 dL_inserts_44 (by decide) (by omega) (by omega) ?_
    refine z_bipush C (nI 12) dL_inserts_47 (by decide) ?_
    refine z_goto C 54 dL_inserts_49 (by decide) ?_
    refine z_ncmp_eq_t C 69 dL_inserts_54 (by decide) (by omega) (by omega) (by omega) ?_
    refine z_iconst C (nI 1) dL_inserts_69 (by decide) ?_
    refine z_goto C 74 dL_inserts_70 (by decide) ?_
    refine z_istore C dL_inserts_74 (Nat.le_of_ble_eq_true rfl) ?_
    refine z_lv (lv' := [some (.ref x0), some (.int (nI au)), some (.int (nI 0)), some (.int g), some (.int (nI (uU S 0))), some (.int (nI (lw g ((uU S 0) + 2)))), some (.int (nI (mK S))), some (.int (nI 0)), some (.int (nI 1)), none, none]) rfl ?_
    refine z_iload C dL_inserts_76 rfl ?_
    refine z_iload C dL_inserts_78 rfl ?_
    refine z_ncmp_le_t C 88 dL_inserts_80 (by decide) (by omega) (by omega) (by omega) ?_
    refine z_iload C dL_inserts_88 rfl ?_
    refine z_nif_eq_f C 98 dL_inserts_90 (by decide) (by omega) (by omega) ?_
    refine z_bipush C (-3) dL_inserts_93 (by decide) ?_
    refine z_goto C 111 dL_inserts_95 (by decide) ?_
    refine z_istore C dL_inserts_111 (Nat.le_of_ble_eq_true rfl) ?_
    refine z_lv (lv' := [some (.ref x0), some (.int (nI au)), some (.int (nI 0)), some (.int g), some (.int (nI (uU S 0))), some (.int (nI (lw g ((uU S 0) + 2)))), some (.int (nI (mK S))), some (.int (nI 0)), some (.int (nI 1)), some (.int (-3)), none]) rfl ?_
    refine z_aload_n C 0 dL_inserts_113 rfl rfl ?_
    refine z_iconst C (nI 0) dL_inserts_114 (by decide) ?_
    refine z_callVr C kX5_sum gL_inserts_X5_sum (l_smv X.2.1 x0 h0 w0 t S 0 hG (by decide)) dL_inserts_115 [0, 1, 2, 3, 4, 5, 6, 7, 8] [] 0 rfl nd_0_1_2_3_4_5_6_7_8 rfl rfl rfl (by decide) (by decide) (Nat.le_of_ble_eq_true rfl) rfl ?_
    refine z_istore C dL_inserts_118 (Nat.le_of_ble_eq_true rfl) ?_
    refine z_lv (lv' := [some (.ref x0), some (.int (nI au)), some (.int (nI 0)), some (.int g), some (.int (nI (uU S 0))), some (.int (nI (lw g ((uU S 0) + 2)))), some (.int (nI (mK S))), some (.int (nI 0)), some (.int (nI 1)), some (.int (-3)), some (.int (smV S 0))]) rfl ?_
    refine z_aload_n C 0 dL_inserts_120 rfl rfl ?_
    refine z_iload_n C 1 dL_inserts_121 rfl rfl ?_
    refine z_iload_n C 2 dL_inserts_122 rfl rfl ?_
    refine z_iload C dL_inserts_123 rfl ?_
    refine z_callV (wn := (WRd X.2.1 x0 h0 h1 w0 w1 t r S1 o1 kp1 Q1 tx ln ps)) C kX5_insert gL_inserts_X5_insert m1 dL_inserts_125 [0, 1, 2, 3, 4, 5, 6, 7, 8, 9, 10, 11, 12, 13, 14, 15, 16, 17, 18, 19, 20, 21, 22, 23, 24, 25, 26, 27, 28, 29, 30, 31, 32, 33, 34, 35, 36, 37, 38, 39, 40, 41, 42, 43, 44, 45, 46, 47, 48, 49, 50] [] 0 rfl rfl nd_0_1_2_3_4_5_6_7_8_9_10_11_12_13_14_15_16_17_18_19_20_21_22_23_24_25_26_27_28_29_30_31_32_33_34_35_36_37_38_39_40_41_42_43_44_45_46_47_48_49_50 rfl rfl rfl (by decide) (by decide) (Nat.le_of_ble_eq_true rfl) rfl ((zput_par nd_0_1_2_3_4_5_6_7_8_9_10_11_12_13_14_15_16_17_18_19_20_21_22_23_24_25_26_27_28_29_30_31_32_33_34_35_36_37_38_39_40_41_42_43_44_45_46_47_48_49_50 rfl).trans rfl) ?_
    refine z_iload C dL_inserts_128 rfl ?_
    refine z_icmp_ne_f C 143 dL_inserts_130 (by decide) rfl ?_
    refine z_aload_n C 0 dL_inserts_133 rfl rfl ?_
    refine z_iconst C (nI 0) dL_inserts_134 (by decide) ?_
    refine z_callVr C kX5_sum gL_inserts_X5_sum (l_smv X.2.1 x0 h0 w0 t S1 0 hG1 (by decide)) dL_inserts_135 [0, 1, 2, 3, 4, 5, 6, 7, 8] [] 0 rfl nd_0_1_2_3_4_5_6_7_8 rfl rfl rfl (by decide) (by decide) (Nat.le_of_ble_eq_true rfl) rfl ?_
    refine z_iload C dL_inserts_138 rfl ?_
    refine z_icmp_eq_t C 145 dL_inserts_140 (by decide) hsm ?_
    refine z_iload C dL_inserts_145 rfl ?_
    refine z_if_ge_f C 169 dL_inserts_147 (by decide) (by decide) ?_
    refine z_aload_n C 0 dL_inserts_150 rfl rfl ?_
    refine z_iconst C (nI 0) dL_inserts_151 (by decide) ?_
    refine z_iload_n C 2 dL_inserts_152 rfl rfl ?_
    refine z_callVr C kX5_size gL_inserts_X5_size (l_size0 X.2.1 x0 h0 w0 t S1 0 hG1 (by decide)) dL_inserts_153 [0, 1, 2, 3, 4, 5, 6, 7, 8] [] 0 rfl nd_0_1_2_3_4_5_6_7_8 rfl rfl rfl (by decide) (by decide) (Nat.le_of_ble_eq_true rfl) rfl ?_
    refine z_iload C dL_inserts_156 rfl ?_
    refine z_ncmp_ne_f C 165 dL_inserts_158 (by decide) (by omega) (by omega) (by omega) ?_
    refine z_iconst C (nI 1) dL_inserts_161 (by decide) ?_
    refine z_goto C 221 dL_inserts_162 (by decide) ?_
    exact z_zret C N dL_inserts_221 rfl (rfl) (rfl)
  · refine z_iconst C (nI 1) dL_inserts_34 (by decide) ?_
    refine z_goto C 39 dL_inserts_35 (by decide) ?_
    refine z_istore C dL_inserts_39 (Nat.le_of_ble_eq_true rfl) ?_
    refine z_lv (lv' := [some (.ref x0), some (.int (nI au)), some (.int (nI 0)), some (.int g), some (.int (nI (uU S 0))), some (.int (nI (lw g ((uU S 0) + 2)))), some (.int (nI (mK S))), some (.int (nI 1)), none, none, none]) rfl ?_
    refine z_iload C dL_inserts_41 rfl ?_
    refine z_iload_n C 2 dL_inserts_43 rfl rfl ?_
    refine z_nif_ne_f C 52 dL_inserts_44 (by decide) (by omega) (by omega) ?_
    refine z_bipush C (nI 12) dL_inserts_47 (by decide) ?_
    refine z_goto C 54 dL_inserts_49 (by decide) ?_
    refine z_ncmp_eq_t C 69 dL_inserts_54 (by decide) (by omega) (by omega) (by omega) ?_
    refine z_iconst C (nI 1) dL_inserts_69 (by decide) ?_
    refine z_goto C 74 dL_inserts_70 (by decide) ?_
    refine z_istore C dL_inserts_74 (Nat.le_of_ble_eq_true rfl) ?_
    refine z_lv (lv' := [some (.ref x0), some (.int (nI au)), some (.int (nI 0)), some (.int g), some (.int (nI (uU S 0))), some (.int (nI (lw g ((uU S 0) + 2)))), some (.int (nI (mK S))), some (.int (nI 1)), some (.int (nI 1)), none, none]) rfl ?_
    refine z_iload C dL_inserts_76 rfl ?_
    refine z_iload C dL_inserts_78 rfl ?_
    refine z_ncmp_le_t C 88 dL_inserts_80 (by decide) (by omega) (by omega) (by omega) ?_
    refine z_iload C dL_inserts_88 rfl ?_
    refine z_nif_eq_f C 98 dL_inserts_90 (by decide) (by omega) (by omega) ?_
    refine z_bipush C (-3) dL_inserts_93 (by decide) ?_
    refine z_goto C 111 dL_inserts_95 (by decide) ?_
    refine z_istore C dL_inserts_111 (Nat.le_of_ble_eq_true rfl) ?_
    refine z_lv (lv' := [some (.ref x0), some (.int (nI au)), some (.int (nI 0)), some (.int g), some (.int (nI (uU S 0))), some (.int (nI (lw g ((uU S 0) + 2)))), some (.int (nI (mK S))), some (.int (nI 1)), some (.int (nI 1)), some (.int (-3)), none]) rfl ?_
    refine z_aload_n C 0 dL_inserts_113 rfl rfl ?_
    refine z_iconst C (nI 0) dL_inserts_114 (by decide) ?_
    refine z_callVr C kX5_sum gL_inserts_X5_sum (l_smv X.2.1 x0 h0 w0 t S 0 hG (by decide)) dL_inserts_115 [0, 1, 2, 3, 4, 5, 6, 7, 8] [] 0 rfl nd_0_1_2_3_4_5_6_7_8 rfl rfl rfl (by decide) (by decide) (Nat.le_of_ble_eq_true rfl) rfl ?_
    refine z_istore C dL_inserts_118 (Nat.le_of_ble_eq_true rfl) ?_
    refine z_lv (lv' := [some (.ref x0), some (.int (nI au)), some (.int (nI 0)), some (.int g), some (.int (nI (uU S 0))), some (.int (nI (lw g ((uU S 0) + 2)))), some (.int (nI (mK S))), some (.int (nI 1)), some (.int (nI 1)), some (.int (-3)), some (.int (smV S 0))]) rfl ?_
    refine z_aload_n C 0 dL_inserts_120 rfl rfl ?_
    refine z_iload_n C 1 dL_inserts_121 rfl rfl ?_
    refine z_iload_n C 2 dL_inserts_122 rfl rfl ?_
    refine z_iload C dL_inserts_123 rfl ?_
    refine z_callV (wn := (WRd X.2.1 x0 h0 h1 w0 w1 t r S1 o1 kp1 Q1 tx ln ps)) C kX5_insert gL_inserts_X5_insert m1 dL_inserts_125 [0, 1, 2, 3, 4, 5, 6, 7, 8, 9, 10, 11, 12, 13, 14, 15, 16, 17, 18, 19, 20, 21, 22, 23, 24, 25, 26, 27, 28, 29, 30, 31, 32, 33, 34, 35, 36, 37, 38, 39, 40, 41, 42, 43, 44, 45, 46, 47, 48, 49, 50] [] 0 rfl rfl nd_0_1_2_3_4_5_6_7_8_9_10_11_12_13_14_15_16_17_18_19_20_21_22_23_24_25_26_27_28_29_30_31_32_33_34_35_36_37_38_39_40_41_42_43_44_45_46_47_48_49_50 rfl rfl rfl (by decide) (by decide) (Nat.le_of_ble_eq_true rfl) rfl ((zput_par nd_0_1_2_3_4_5_6_7_8_9_10_11_12_13_14_15_16_17_18_19_20_21_22_23_24_25_26_27_28_29_30_31_32_33_34_35_36_37_38_39_40_41_42_43_44_45_46_47_48_49_50 rfl).trans rfl) ?_
    refine z_iload C dL_inserts_128 rfl ?_
    refine z_icmp_ne_f C 143 dL_inserts_130 (by decide) rfl ?_
    refine z_aload_n C 0 dL_inserts_133 rfl rfl ?_
    refine z_iconst C (nI 0) dL_inserts_134 (by decide) ?_
    refine z_callVr C kX5_sum gL_inserts_X5_sum (l_smv X.2.1 x0 h0 w0 t S1 0 hG1 (by decide)) dL_inserts_135 [0, 1, 2, 3, 4, 5, 6, 7, 8] [] 0 rfl nd_0_1_2_3_4_5_6_7_8 rfl rfl rfl (by decide) (by decide) (Nat.le_of_ble_eq_true rfl) rfl ?_
    refine z_iload C dL_inserts_138 rfl ?_
    refine z_icmp_eq_t C 145 dL_inserts_140 (by decide) hsm ?_
    refine z_iload C dL_inserts_145 rfl ?_
    refine z_if_ge_f C 169 dL_inserts_147 (by decide) (by decide) ?_
    refine z_aload_n C 0 dL_inserts_150 rfl rfl ?_
    refine z_iconst C (nI 0) dL_inserts_151 (by decide) ?_
    refine z_iload_n C 2 dL_inserts_152 rfl rfl ?_
    refine z_callVr C kX5_size gL_inserts_X5_size (l_size0 X.2.1 x0 h0 w0 t S1 0 hG1 (by decide)) dL_inserts_153 [0, 1, 2, 3, 4, 5, 6, 7, 8] [] 0 rfl nd_0_1_2_3_4_5_6_7_8 rfl rfl rfl (by decide) (by decide) (Nat.le_of_ble_eq_true rfl) rfl ?_
    refine z_iload C dL_inserts_156 rfl ?_
    refine z_ncmp_ne_f C 165 dL_inserts_158 (by decide) (by omega) (by omega) (by omega) ?_
    refine z_iconst C (nI 1) dL_inserts_161 (by decide) ?_
    refine z_goto C 221 dL_inserts_162 (by decide) ?_
    exact z_zret C N dL_inserts_221 rfl (rfl) (rfl)

set_option maxHeartbeats 4000000 in
set_option maxRecDepth 100000 in
theorem w_ins0g (E : zE) (x0 h0 h1 w0 w1 : Nat) (t : Nat → Nat) (r : Nat → Nat → Nat) (S S1 : zSt) (o kp kp1 o1 : Nat) (Q Q1 : Nat → zSt) (tx : Nat → Nat) (ln : Nat) (ps : zPs) {B B1 : Nat} (au : Nat) (g : Int32) (hG : GG S B) (hG1 : GG S1 B1) (hau : au < 4) (hp : lw g (uU S 0 + 2) ≤ uU S 0) (hf : uU S 0 < 12) (ht : tK S = true) (hm : mK S = 60) (hu : uU S1 0 = uU S 0) (hsm : smV S1 0 = smV S 0) (m1 : zM E yX5_insert wsX5_insert 6 [.ref x0, .int (nI au), .int (nI 0), .int (nI (lw g (uU S 0 + 2)))] (WAd E x0 h0 h1 w0 t r S o kp Q) (WAd E x0 h0 h1 w0 t r S1 o1 kp1 Q1) (some (.int (-3)))) : zM E yL_inserts wsL_inserts 7 [.ref x0, .int (nI au), .int (nI 0), .int g] (WRd E x0 h0 h1 w0 w1 t r S o kp Q tx ln ps) (WRd E x0 h0 h1 w0 w1 t r S1 o1 kp1 Q1 tx ln ps) (some (.int (nI 1))) := by
  refine zM.of kL_inserts (Nat.le_of_ble_eq_true rfl) rfl [some (.ref x0), some (.int (nI au)), some (.int (nI 0)), some (.int g), none, none, none, none, none, none, none] rfl (Nat.le_of_ble_eq_true rfl) ?_
  intro X eX C N
  subst eX
  have hb0 : uU S 0 ≤ 12 := gg_u hG 0
  have hb1 : uU S 1 ≤ 8 := gg_u1 hG
  have hb2 : mK S ≤ 60 := gg_M hG
  have hb3 : uU S1 0 ≤ 12 := gg_u hG1 0
  have hb4 : uU S1 1 ≤ 8 := gg_u1 hG1
  have hb5 : mK S1 ≤ 60 := gg_M hG1
  refine z_aload_n C 0 dL_inserts_0 rfl rfl ?_
  refine z_iconst C (nI 0) dL_inserts_1 (by decide) ?_
  refine z_iload_n C 2 dL_inserts_2 rfl rfl ?_
  refine z_callVr C kX5_size gL_inserts_X5_size (l_size0 X.2.1 x0 h0 w0 t S 0 hG (by decide)) dL_inserts_3 [0, 1, 2, 3, 4, 5, 6, 7, 8] [] 0 rfl nd_0_1_2_3_4_5_6_7_8 rfl rfl rfl (by decide) (by decide) (Nat.le_of_ble_eq_true rfl) rfl ?_
  refine z_istore C dL_inserts_6 (Nat.le_of_ble_eq_true rfl) ?_
  refine z_lv (lv' := [some (.ref x0), some (.int (nI au)), some (.int (nI 0)), some (.int g), some (.int (nI (uU S 0))), none, none, none, none, none, none]) rfl ?_
  refine z_iload_n C 3 dL_inserts_8 rfl rfl ?_
  refine z_iload C dL_inserts_9 rfl ?_
  refine z_iconst C (nI 2) dL_inserts_11 (by decide) ?_
  refine z_iadd C dL_inserts_12 ?_
  refine z_top (y := nI ((uU S 0) + 2)) (nI_add _ _) ?_
  refine z_callS C kL_low gL_inserts_L_low (l_low X.2.1 g ((uU S 0) + 2) (by omega) (by omega)) dL_inserts_13 [] rfl (by decide) (by decide) (Nat.le_of_ble_eq_true rfl) rfl ?_
  have hg_1 : lw g ((uU S 0) + 2) < ((uU S 0) + 2) := lw_lt g (by omega)
  refine z_istore C dL_inserts_16 (Nat.le_of_ble_eq_true rfl) ?_
  refine z_lv (lv' := [some (.ref x0), some (.int (nI au)), some (.int (nI 0)), some (.int g), some (.int (nI (uU S 0))), some (.int (nI (lw g ((uU S 0) + 2)))), none, none, none, none, none]) rfl ?_
  refine z_aload_n C 0 dL_inserts_18 rfl rfl ?_
  refine z_iconst C (nI 0) dL_inserts_19 (by decide) ?_
  refine z_callVr C kX5_count gL_inserts_X5_count (l_cnt0 X.2.1 x0 h0 h1 w0 w1 t S o kp ln ps  hG ) dL_inserts_20 [0, 1, 2, 3, 4, 5, 6, 7, 8, 9, 51] [] 0 rfl nd_0_1_2_3_4_5_6_7_8_9_51 rfl rfl rfl (by decide) (by decide) (Nat.le_of_ble_eq_true rfl) rfl ?_
  refine z_istore C dL_inserts_23 (Nat.le_of_ble_eq_true rfl) ?_
  refine z_lv (lv' := [some (.ref x0), some (.int (nI au)), some (.int (nI 0)), some (.int g), some (.int (nI (uU S 0))), some (.int (nI (lw g ((uU S 0) + 2)))), some (.int (nI (mK S))), none, none, none, none]) rfl ?_
  refine z_aload_n C 0 dL_inserts_25 rfl rfl ?_
  refine z_iconst C (nI 5) dL_inserts_26 (by decide) ?_
  refine z_callVr C kX5_count gL_inserts_X5_count (l_cnt5y X.2.1 x0 h0 h1 w0 w1 t S o kp ln ps  hG ht) dL_inserts_27 [0, 1, 2, 3, 4, 5, 6, 7, 8, 9, 51] [] 0 rfl nd_0_1_2_3_4_5_6_7_8_9_51 rfl rfl rfl (by decide) (by decide) (Nat.le_of_ble_eq_true rfl) rfl ?_
  refine z_iconst C (nI 1) dL_inserts_30 (by decide) ?_
  refine z_ncmp_ne_f C 38 dL_inserts_31 (by decide) (by omega) (by omega) (by omega) ?_
  refine z_iconst C (nI 1) dL_inserts_34 (by decide) ?_
  refine z_goto C 39 dL_inserts_35 (by decide) ?_
  refine z_istore C dL_inserts_39 (Nat.le_of_ble_eq_true rfl) ?_
  refine z_lv (lv' := [some (.ref x0), some (.int (nI au)), some (.int (nI 0)), some (.int g), some (.int (nI (uU S 0))), some (.int (nI (lw g ((uU S 0) + 2)))), some (.int (nI (mK S))), some (.int (nI 1)), none, none, none]) rfl ?_
  refine z_iload C dL_inserts_41 rfl ?_
  refine z_iload_n C 2 dL_inserts_43 rfl rfl ?_
  refine z_nif_ne_f C 52 dL_inserts_44 (by decide) (by omega) (by omega) ?_
  refine z_bipush C (nI 12) dL_inserts_47 (by decide) ?_
  refine z_goto C 54 dL_inserts_49 (by decide) ?_
  refine z_ncmp_eq_f C 69 dL_inserts_54 (by decide) (by omega) (by omega) (by omega) ?_
  refine z_iload C dL_inserts_57 rfl ?_
  refine z_nif_eq_f C 73 dL_inserts_59 (by decide) (by omega) (by omega) ?_
  refine z_iload C dL_inserts_62 rfl ?_
  refine z_bipush C (nI 60) dL_inserts_64 (by decide) ?_
  refine z_ncmp_ne_f C 73 dL_inserts_66 (by decide) (by omega) (by omega) (by omega) ?_
  refine z_iconst C (nI 1) dL_inserts_69 (by decide) ?_
  refine z_goto C 74 dL_inserts_70 (by decide) ?_
  refine z_istore C dL_inserts_74 (Nat.le_of_ble_eq_true rfl) ?_
  refine z_lv (lv' := [some (.ref x0), some (.int (nI au)), some (.int (nI 0)), some (.int g), some (.int (nI (uU S 0))), some (.int (nI (lw g ((uU S 0) + 2)))), some (.int (nI (mK S))), some (.int (nI 1)), some (.int (nI 1)), none, none]) rfl ?_
  refine z_iload C dL_inserts_76 rfl ?_
  refine z_iload C dL_inserts_78 rfl ?_
  refine z_ncmp_le_t C 88 dL_inserts_80 (by decide) (by omega) (by omega) (by omega) ?_
  refine z_iload C dL_inserts_88 rfl ?_
  refine z_nif_eq_f C 98 dL_inserts_90 (by decide) (by omega) (by omega) ?_
  refine z_bipush C (-3) dL_inserts_93 (by decide) ?_
  refine z_goto C 111 dL_inserts_95 (by decide) ?_
  refine z_istore C dL_inserts_111 (Nat.le_of_ble_eq_true rfl) ?_
  refine z_lv (lv' := [some (.ref x0), some (.int (nI au)), some (.int (nI 0)), some (.int g), some (.int (nI (uU S 0))), some (.int (nI (lw g ((uU S 0) + 2)))), some (.int (nI (mK S))), some (.int (nI 1)), some (.int (nI 1)), some (.int (-3)), none]) rfl ?_
  refine z_aload_n C 0 dL_inserts_113 rfl rfl ?_
  refine z_iconst C (nI 0) dL_inserts_114 (by decide) ?_
  refine z_callVr C kX5_sum gL_inserts_X5_sum (l_smv X.2.1 x0 h0 w0 t S 0 hG (by decide)) dL_inserts_115 [0, 1, 2, 3, 4, 5, 6, 7, 8] [] 0 rfl nd_0_1_2_3_4_5_6_7_8 rfl rfl rfl (by decide) (by decide) (Nat.le_of_ble_eq_true rfl) rfl ?_
  refine z_istore C dL_inserts_118 (Nat.le_of_ble_eq_true rfl) ?_
  refine z_lv (lv' := [some (.ref x0), some (.int (nI au)), some (.int (nI 0)), some (.int g), some (.int (nI (uU S 0))), some (.int (nI (lw g ((uU S 0) + 2)))), some (.int (nI (mK S))), some (.int (nI 1)), some (.int (nI 1)), some (.int (-3)), some (.int (smV S 0))]) rfl ?_
  refine z_aload_n C 0 dL_inserts_120 rfl rfl ?_
  refine z_iload_n C 1 dL_inserts_121 rfl rfl ?_
  refine z_iload_n C 2 dL_inserts_122 rfl rfl ?_
  refine z_iload C dL_inserts_123 rfl ?_
  refine z_callV (wn := (WRd X.2.1 x0 h0 h1 w0 w1 t r S1 o1 kp1 Q1 tx ln ps)) C kX5_insert gL_inserts_X5_insert m1 dL_inserts_125 [0, 1, 2, 3, 4, 5, 6, 7, 8, 9, 10, 11, 12, 13, 14, 15, 16, 17, 18, 19, 20, 21, 22, 23, 24, 25, 26, 27, 28, 29, 30, 31, 32, 33, 34, 35, 36, 37, 38, 39, 40, 41, 42, 43, 44, 45, 46, 47, 48, 49, 50] [] 0 rfl rfl nd_0_1_2_3_4_5_6_7_8_9_10_11_12_13_14_15_16_17_18_19_20_21_22_23_24_25_26_27_28_29_30_31_32_33_34_35_36_37_38_39_40_41_42_43_44_45_46_47_48_49_50 rfl rfl rfl (by decide) (by decide) (Nat.le_of_ble_eq_true rfl) rfl ((zput_par nd_0_1_2_3_4_5_6_7_8_9_10_11_12_13_14_15_16_17_18_19_20_21_22_23_24_25_26_27_28_29_30_31_32_33_34_35_36_37_38_39_40_41_42_43_44_45_46_47_48_49_50 rfl).trans rfl) ?_
  refine z_iload C dL_inserts_128 rfl ?_
  refine z_icmp_ne_f C 143 dL_inserts_130 (by decide) rfl ?_
  refine z_aload_n C 0 dL_inserts_133 rfl rfl ?_
  refine z_iconst C (nI 0) dL_inserts_134 (by decide) ?_
  refine z_callVr C kX5_sum gL_inserts_X5_sum (l_smv X.2.1 x0 h0 w0 t S1 0 hG1 (by decide)) dL_inserts_135 [0, 1, 2, 3, 4, 5, 6, 7, 8] [] 0 rfl nd_0_1_2_3_4_5_6_7_8 rfl rfl rfl (by decide) (by decide) (Nat.le_of_ble_eq_true rfl) rfl ?_
  refine z_iload C dL_inserts_138 rfl ?_
  refine z_icmp_eq_t C 145 dL_inserts_140 (by decide) hsm ?_
  refine z_iload C dL_inserts_145 rfl ?_
  refine z_if_ge_f C 169 dL_inserts_147 (by decide) (by decide) ?_
  refine z_aload_n C 0 dL_inserts_150 rfl rfl ?_
  refine z_iconst C (nI 0) dL_inserts_151 (by decide) ?_
  refine z_iload_n C 2 dL_inserts_152 rfl rfl ?_
  refine z_callVr C kX5_size gL_inserts_X5_size (l_size0 X.2.1 x0 h0 w0 t S1 0 hG1 (by decide)) dL_inserts_153 [0, 1, 2, 3, 4, 5, 6, 7, 8] [] 0 rfl nd_0_1_2_3_4_5_6_7_8 rfl rfl rfl (by decide) (by decide) (Nat.le_of_ble_eq_true rfl) rfl ?_
  refine z_iload C dL_inserts_156 rfl ?_
  refine z_ncmp_ne_f C 165 dL_inserts_158 (by decide) (by omega) (by omega) (by omega) ?_
  refine z_iconst C (nI 1) dL_inserts_161 (by decide) ?_
  refine z_goto C 221 dL_inserts_162 (by decide) ?_
  exact z_zret C N dL_inserts_221 rfl (rfl) (rfl)

set_option maxHeartbeats 4000000 in
set_option maxRecDepth 100000 in
theorem w_ins0t (E : zE) (x0 h0 h1 w0 w1 : Nat) (t : Nat → Nat) (r : Nat → Nat → Nat) (S S1 : zSt) (o kp kp1 o1 : Nat) (Q Q1 : Nat → zSt) (tx : Nat → Nat) (ln : Nat) (ps : zPs) {B B1 : Nat} (au : Nat) (g : Int32) (hG : GG S B) (hG1 : GG S1 B1) (hau : au < 4) (hp : lw g (uU S 0 + 2) ≤ uU S 0) (hf : uU S 0 < 12) (ht : tK S = true) (hm : mK S < 60) (hu : uU S1 0 = uU S 0 + 1) (hN : Nw S1 0 (lw g (uU S 0 + 2)) = true) (hx : xI S1 0 (lw g (uU S 0 + 2)) = mK S) (hs : nSt S1 0 (lw g (uU S 0 + 2)) = 0) (hsm : smV S1 0 = smV S 0) (m1 : zM E yX5_insert wsX5_insert 6 [.ref x0, .int (nI au), .int (nI 0), .int (nI (lw g (uU S 0 + 2)))] (WAd E x0 h0 h1 w0 t r S o kp Q) (WAd E x0 h0 h1 w0 t r S1 o1 kp1 Q1) (some (.int (nI (mK S))))) : zM E yL_inserts wsL_inserts 7 [.ref x0, .int (nI au), .int (nI 0), .int g] (WRd E x0 h0 h1 w0 w1 t r S o kp Q tx ln ps) (WRd E x0 h0 h1 w0 w1 t r S1 o1 kp1 Q1 tx ln ps) (some (.int (nI 1))) := by
  refine zM.of kL_inserts (Nat.le_of_ble_eq_true rfl) rfl [some (.ref x0), some (.int (nI au)), some (.int (nI 0)), some (.int g), none, none, none, none, none, none, none] rfl (Nat.le_of_ble_eq_true rfl) ?_
  intro X eX C N
  subst eX
  have hb0 : uU S 0 ≤ 12 := gg_u hG 0
  have hb1 : uU S 1 ≤ 8 := gg_u1 hG
  have hb2 : mK S ≤ 60 := gg_M hG
  have hb3 : uU S1 0 ≤ 12 := gg_u hG1 0
  have hb4 : uU S1 1 ≤ 8 := gg_u1 hG1
  have hb5 : mK S1 ≤ 60 := gg_M hG1
  refine z_aload_n C 0 dL_inserts_0 rfl rfl ?_
  refine z_iconst C (nI 0) dL_inserts_1 (by decide) ?_
  refine z_iload_n C 2 dL_inserts_2 rfl rfl ?_
  refine z_callVr C kX5_size gL_inserts_X5_size (l_size0 X.2.1 x0 h0 w0 t S 0 hG (by decide)) dL_inserts_3 [0, 1, 2, 3, 4, 5, 6, 7, 8] [] 0 rfl nd_0_1_2_3_4_5_6_7_8 rfl rfl rfl (by decide) (by decide) (Nat.le_of_ble_eq_true rfl) rfl ?_
  refine z_istore C dL_inserts_6 (Nat.le_of_ble_eq_true rfl) ?_
  refine z_lv (lv' := [some (.ref x0), some (.int (nI au)), some (.int (nI 0)), some (.int g), some (.int (nI (uU S 0))), none, none, none, none, none, none]) rfl ?_
  refine z_iload_n C 3 dL_inserts_8 rfl rfl ?_
  refine z_iload C dL_inserts_9 rfl ?_
  refine z_iconst C (nI 2) dL_inserts_11 (by decide) ?_
  refine z_iadd C dL_inserts_12 ?_
  refine z_top (y := nI ((uU S 0) + 2)) (nI_add _ _) ?_
  refine z_callS C kL_low gL_inserts_L_low (l_low X.2.1 g ((uU S 0) + 2) (by omega) (by omega)) dL_inserts_13 [] rfl (by decide) (by decide) (Nat.le_of_ble_eq_true rfl) rfl ?_
  have hg_1 : lw g ((uU S 0) + 2) < ((uU S 0) + 2) := lw_lt g (by omega)
  refine z_istore C dL_inserts_16 (Nat.le_of_ble_eq_true rfl) ?_
  refine z_lv (lv' := [some (.ref x0), some (.int (nI au)), some (.int (nI 0)), some (.int g), some (.int (nI (uU S 0))), some (.int (nI (lw g ((uU S 0) + 2)))), none, none, none, none, none]) rfl ?_
  refine z_aload_n C 0 dL_inserts_18 rfl rfl ?_
  refine z_iconst C (nI 0) dL_inserts_19 (by decide) ?_
  refine z_callVr C kX5_count gL_inserts_X5_count (l_cnt0 X.2.1 x0 h0 h1 w0 w1 t S o kp ln ps  hG ) dL_inserts_20 [0, 1, 2, 3, 4, 5, 6, 7, 8, 9, 51] [] 0 rfl nd_0_1_2_3_4_5_6_7_8_9_51 rfl rfl rfl (by decide) (by decide) (Nat.le_of_ble_eq_true rfl) rfl ?_
  refine z_istore C dL_inserts_23 (Nat.le_of_ble_eq_true rfl) ?_
  refine z_lv (lv' := [some (.ref x0), some (.int (nI au)), some (.int (nI 0)), some (.int g), some (.int (nI (uU S 0))), some (.int (nI (lw g ((uU S 0) + 2)))), some (.int (nI (mK S))), none, none, none, none]) rfl ?_
  refine z_aload_n C 0 dL_inserts_25 rfl rfl ?_
  refine z_iconst C (nI 5) dL_inserts_26 (by decide) ?_
  refine z_callVr C kX5_count gL_inserts_X5_count (l_cnt5y X.2.1 x0 h0 h1 w0 w1 t S o kp ln ps  hG ht) dL_inserts_27 [0, 1, 2, 3, 4, 5, 6, 7, 8, 9, 51] [] 0 rfl nd_0_1_2_3_4_5_6_7_8_9_51 rfl rfl rfl (by decide) (by decide) (Nat.le_of_ble_eq_true rfl) rfl ?_
  refine z_iconst C (nI 1) dL_inserts_30 (by decide) ?_
  refine z_ncmp_ne_f C 38 dL_inserts_31 (by decide) (by omega) (by omega) (by omega) ?_
  refine z_iconst C (nI 1) dL_inserts_34 (by decide) ?_
  refine z_goto C 39 dL_inserts_35 (by decide) ?_
  refine z_istore C dL_inserts_39 (Nat.le_of_ble_eq_true rfl) ?_
  refine z_lv (lv' := [some (.ref x0), some (.int (nI au)), some (.int (nI 0)), some (.int g), some (.int (nI (uU S 0))), some (.int (nI (lw g ((uU S 0) + 2)))), some (.int (nI (mK S))), some (.int (nI 1)), none, none, none]) rfl ?_
  refine z_iload C dL_inserts_41 rfl ?_
  refine z_iload_n C 2 dL_inserts_43 rfl rfl ?_
  refine z_nif_ne_f C 52 dL_inserts_44 (by decide) (by omega) (by omega) ?_
  refine z_bipush C (nI 12) dL_inserts_47 (by decide) ?_
  refine z_goto C 54 dL_inserts_49 (by decide) ?_
  refine z_ncmp_eq_f C 69 dL_inserts_54 (by decide) (by omega) (by omega) (by omega) ?_
  refine z_iload C dL_inserts_57 rfl ?_
  refine z_nif_eq_f C 73 dL_inserts_59 (by decide) (by omega) (by omega) ?_
  refine z_iload C dL_inserts_62 rfl ?_
  refine z_bipush C (nI 60) dL_inserts_64 (by decide) ?_
  refine z_ncmp_ne_t C 73 dL_inserts_66 (by decide) (by omega) (by omega) (by omega) ?_
  refine z_iconst C (nI 0) dL_inserts_73 (by decide) ?_
  refine z_istore C dL_inserts_74 (Nat.le_of_ble_eq_true rfl) ?_
  refine z_lv (lv' := [some (.ref x0), some (.int (nI au)), some (.int (nI 0)), some (.int g), some (.int (nI (uU S 0))), some (.int (nI (lw g ((uU S 0) + 2)))), some (.int (nI (mK S))), some (.int (nI 1)), some (.int (nI 0)), none, none]) rfl ?_
  refine z_iload C dL_inserts_76 rfl ?_
  refine z_iload C dL_inserts_78 rfl ?_
  refine z_ncmp_le_t C 88 dL_inserts_80 (by decide) (by omega) (by omega) (by omega) ?_
  refine z_iload C dL_inserts_88 rfl ?_
  refine z_nif_eq_t C 98 dL_inserts_90 (by decide) (by omega) (by omega) ?_
  refine z_iload C dL_inserts_98 rfl ?_
  refine z_nif_eq_f C 108 dL_inserts_100 (by decide) (by omega) (by omega) ?_
  refine z_iload C dL_inserts_103 rfl ?_
  refine z_goto C 111 dL_inserts_105 (by decide) ?_
  refine z_istore C dL_inserts_111 (Nat.le_of_ble_eq_true rfl) ?_
  refine z_lv (lv' := [some (.ref x0), some (.int (nI au)), some (.int (nI 0)), some (.int g), some (.int (nI (uU S 0))), some (.int (nI (lw g ((uU S 0) + 2)))), some (.int (nI (mK S))), some (.int (nI 1)), some (.int (nI 0)), some (.int (nI (mK S))), none]) rfl ?_
  refine z_aload_n C 0 dL_inserts_113 rfl rfl ?_
  refine z_iconst C (nI 0) dL_inserts_114 (by decide) ?_
  refine z_callVr C kX5_sum gL_inserts_X5_sum (l_smv X.2.1 x0 h0 w0 t S 0 hG (by decide)) dL_inserts_115 [0, 1, 2, 3, 4, 5, 6, 7, 8] [] 0 rfl nd_0_1_2_3_4_5_6_7_8 rfl rfl rfl (by decide) (by decide) (Nat.le_of_ble_eq_true rfl) rfl ?_
  refine z_istore C dL_inserts_118 (Nat.le_of_ble_eq_true rfl) ?_
  refine z_lv (lv' := [some (.ref x0), some (.int (nI au)), some (.int (nI 0)), some (.int g), some (.int (nI (uU S 0))), some (.int (nI (lw g ((uU S 0) + 2)))), some (.int (nI (mK S))), some (.int (nI 1)), some (.int (nI 0)), some (.int (nI (mK S))), some (.int (smV S 0))]) rfl ?_
  refine z_aload_n C 0 dL_inserts_120 rfl rfl ?_
  refine z_iload_n C 1 dL_inserts_121 rfl rfl ?_
  refine z_iload_n C 2 dL_inserts_122 rfl rfl ?_
  refine z_iload C dL_inserts_123 rfl ?_
  refine z_callV (wn := (WRd X.2.1 x0 h0 h1 w0 w1 t r S1 o1 kp1 Q1 tx ln ps)) C kX5_insert gL_inserts_X5_insert m1 dL_inserts_125 [0, 1, 2, 3, 4, 5, 6, 7, 8, 9, 10, 11, 12, 13, 14, 15, 16, 17, 18, 19, 20, 21, 22, 23, 24, 25, 26, 27, 28, 29, 30, 31, 32, 33, 34, 35, 36, 37, 38, 39, 40, 41, 42, 43, 44, 45, 46, 47, 48, 49, 50] [] 0 rfl rfl nd_0_1_2_3_4_5_6_7_8_9_10_11_12_13_14_15_16_17_18_19_20_21_22_23_24_25_26_27_28_29_30_31_32_33_34_35_36_37_38_39_40_41_42_43_44_45_46_47_48_49_50 rfl rfl rfl (by decide) (by decide) (Nat.le_of_ble_eq_true rfl) rfl ((zput_par nd_0_1_2_3_4_5_6_7_8_9_10_11_12_13_14_15_16_17_18_19_20_21_22_23_24_25_26_27_28_29_30_31_32_33_34_35_36_37_38_39_40_41_42_43_44_45_46_47_48_49_50 rfl).trans rfl) ?_
  refine z_iload C dL_inserts_128 rfl ?_
  refine z_ncmp_ne_f C 143 dL_inserts_130 (by decide) (by omega) (by omega) (by omega) ?_
  refine z_aload_n C 0 dL_inserts_133 rfl rfl ?_
  refine z_iconst C (nI 0) dL_inserts_134 (by decide) ?_
  refine z_callVr C kX5_sum gL_inserts_X5_sum (l_smv X.2.1 x0 h0 w0 t S1 0 hG1 (by decide)) dL_inserts_135 [0, 1, 2, 3, 4, 5, 6, 7, 8] [] 0 rfl nd_0_1_2_3_4_5_6_7_8 rfl rfl rfl (by decide) (by decide) (Nat.le_of_ble_eq_true rfl) rfl ?_
  refine z_iload C dL_inserts_138 rfl ?_
  refine z_icmp_eq_t C 145 dL_inserts_140 (by decide) hsm ?_
  refine z_iload C dL_inserts_145 rfl ?_
  refine z_nif_ge_t C 169 dL_inserts_147 (by decide) (by omega) (by trivial) ?_
  refine z_aload_n C 0 dL_inserts_169 rfl rfl ?_
  refine z_iconst C (nI 0) dL_inserts_170 (by decide) ?_
  refine z_iload_n C 2 dL_inserts_171 rfl rfl ?_
  refine z_callVr C kX5_size gL_inserts_X5_size (l_size0 X.2.1 x0 h0 w0 t S1 0 hG1 (by decide)) dL_inserts_172 [0, 1, 2, 3, 4, 5, 6, 7, 8] [] 0 rfl nd_0_1_2_3_4_5_6_7_8 rfl rfl rfl (by decide) (by decide) (Nat.le_of_ble_eq_true rfl) rfl ?_
  refine z_iload C dL_inserts_175 rfl ?_
  refine z_iconst C (nI 1) dL_inserts_177 (by decide) ?_
  refine z_iadd C dL_inserts_178 ?_
  refine z_top (y := nI ((uU S 0) + 1)) (nI_add _ _) ?_
  refine z_ncmp_ne_f C 220 dL_inserts_179 (by decide) (by omega) (by omega) (by omega) ?_
  refine z_aload_n C 0 dL_inserts_182 rfl rfl ?_
  refine z_iload_n C 2 dL_inserts_183 rfl rfl ?_
  refine z_iload C dL_inserts_184 rfl ?_
  refine z_iconst C (nI 0) dL_inserts_186 (by decide) ?_
  refine z_callVr C kX5_line gL_inserts_X5_line (l_line0y X.2.1 x0 h0 w0 t S1 0 (lw g ((uU S 0) + 2)) hG1 (by decide) (by omega) hN) dL_inserts_187 [0, 1, 2, 3, 4, 5, 6, 7, 8] [] 0 rfl nd_0_1_2_3_4_5_6_7_8 rfl rfl rfl (by decide) (by decide) (Nat.le_of_ble_eq_true rfl) rfl ?_
  refine z_iload C dL_inserts_190 rfl ?_
  refine z_nif_eq_f C 200 dL_inserts_192 (by decide) (by omega) (by omega) ?_
  refine z_iload C dL_inserts_195 rfl ?_
  refine z_goto C 202 dL_inserts_197 (by decide) ?_
  refine z_ncmp_ne_f C 220 dL_inserts_202 (by decide) (by omega) (by omega) (by omega) ?_
  refine z_aload_n C 0 dL_inserts_205 rfl rfl ?_
  refine z_iload_n C 2 dL_inserts_206 rfl rfl ?_
  refine z_iload C dL_inserts_207 rfl ?_
  refine z_iconst C (nI 4) dL_inserts_209 (by decide) ?_
  refine z_callVr C kX5_line gL_inserts_X5_line (l_line4 X.2.1 x0 h0 w0 t S1 0 (lw g ((uU S 0) + 2)) hG1 (by decide) (by omega)) dL_inserts_210 [0, 1, 2, 3, 4, 5, 6, 7, 8] [] 0 rfl nd_0_1_2_3_4_5_6_7_8 rfl rfl rfl (by decide) (by decide) (Nat.le_of_ble_eq_true rfl) rfl ?_
  refine z_nif_ne_f C 220 dL_inserts_213 (by decide) (by omega) (by omega) ?_
  refine z_iconst C (nI 1) dL_inserts_216 (by decide) ?_
  refine z_goto C 221 dL_inserts_217 (by decide) ?_
  exact z_zret C N dL_inserts_221 rfl (rfl) (rfl)

set_option maxHeartbeats 4000000 in
set_option maxRecDepth 100000 in
theorem w_ins0u (E : zE) (x0 h0 h1 w0 w1 : Nat) (t : Nat → Nat) (r : Nat → Nat → Nat) (S S1 : zSt) (o kp kp1 o1 : Nat) (Q Q1 : Nat → zSt) (tx : Nat → Nat) (ln : Nat) (ps : zPs) {B B1 : Nat} (au : Nat) (g : Int32) (hG : GG S B) (hG1 : GG S1 B1) (hau : au < 4) (hp : lw g (uU S 0 + 2) ≤ uU S 0) (hf : uU S 0 < 12) (ht : tK S = false) (hu : uU S1 0 = uU S 0 + 1) (hN : Nw S1 0 (lw g (uU S 0 + 2)) = false) (hs : nSt S1 0 (lw g (uU S 0 + 2)) = 0) (hsm : smV S1 0 = smV S 0) (m1 : zM E yX5_insert wsX5_insert 6 [.ref x0, .int (nI au), .int (nI 0), .int (nI (lw g (uU S 0 + 2)))] (WAd E x0 h0 h1 w0 t r S o kp Q) (WAd E x0 h0 h1 w0 t r S1 o1 kp1 Q1) (some (.int (nI 1000)))) : zM E yL_inserts wsL_inserts 7 [.ref x0, .int (nI au), .int (nI 0), .int g] (WRd E x0 h0 h1 w0 w1 t r S o kp Q tx ln ps) (WRd E x0 h0 h1 w0 w1 t r S1 o1 kp1 Q1 tx ln ps) (some (.int (nI 1))) := by
  refine zM.of kL_inserts (Nat.le_of_ble_eq_true rfl) rfl [some (.ref x0), some (.int (nI au)), some (.int (nI 0)), some (.int g), none, none, none, none, none, none, none] rfl (Nat.le_of_ble_eq_true rfl) ?_
  intro X eX C N
  subst eX
  have hb0 : uU S 0 ≤ 12 := gg_u hG 0
  have hb1 : uU S 1 ≤ 8 := gg_u1 hG
  have hb2 : mK S ≤ 60 := gg_M hG
  have hb3 : uU S1 0 ≤ 12 := gg_u hG1 0
  have hb4 : uU S1 1 ≤ 8 := gg_u1 hG1
  have hb5 : mK S1 ≤ 60 := gg_M hG1
  refine z_aload_n C 0 dL_inserts_0 rfl rfl ?_
  refine z_iconst C (nI 0) dL_inserts_1 (by decide) ?_
  refine z_iload_n C 2 dL_inserts_2 rfl rfl ?_
  refine z_callVr C kX5_size gL_inserts_X5_size (l_size0 X.2.1 x0 h0 w0 t S 0 hG (by decide)) dL_inserts_3 [0, 1, 2, 3, 4, 5, 6, 7, 8] [] 0 rfl nd_0_1_2_3_4_5_6_7_8 rfl rfl rfl (by decide) (by decide) (Nat.le_of_ble_eq_true rfl) rfl ?_
  refine z_istore C dL_inserts_6 (Nat.le_of_ble_eq_true rfl) ?_
  refine z_lv (lv' := [some (.ref x0), some (.int (nI au)), some (.int (nI 0)), some (.int g), some (.int (nI (uU S 0))), none, none, none, none, none, none]) rfl ?_
  refine z_iload_n C 3 dL_inserts_8 rfl rfl ?_
  refine z_iload C dL_inserts_9 rfl ?_
  refine z_iconst C (nI 2) dL_inserts_11 (by decide) ?_
  refine z_iadd C dL_inserts_12 ?_
  refine z_top (y := nI ((uU S 0) + 2)) (nI_add _ _) ?_
  refine z_callS C kL_low gL_inserts_L_low (l_low X.2.1 g ((uU S 0) + 2) (by omega) (by omega)) dL_inserts_13 [] rfl (by decide) (by decide) (Nat.le_of_ble_eq_true rfl) rfl ?_
  have hg_1 : lw g ((uU S 0) + 2) < ((uU S 0) + 2) := lw_lt g (by omega)
  refine z_istore C dL_inserts_16 (Nat.le_of_ble_eq_true rfl) ?_
  refine z_lv (lv' := [some (.ref x0), some (.int (nI au)), some (.int (nI 0)), some (.int g), some (.int (nI (uU S 0))), some (.int (nI (lw g ((uU S 0) + 2)))), none, none, none, none, none]) rfl ?_
  refine z_aload_n C 0 dL_inserts_18 rfl rfl ?_
  refine z_iconst C (nI 0) dL_inserts_19 (by decide) ?_
  refine z_callVr C kX5_count gL_inserts_X5_count (l_cnt0 X.2.1 x0 h0 h1 w0 w1 t S o kp ln ps  hG ) dL_inserts_20 [0, 1, 2, 3, 4, 5, 6, 7, 8, 9, 51] [] 0 rfl nd_0_1_2_3_4_5_6_7_8_9_51 rfl rfl rfl (by decide) (by decide) (Nat.le_of_ble_eq_true rfl) rfl ?_
  refine z_istore C dL_inserts_23 (Nat.le_of_ble_eq_true rfl) ?_
  refine z_lv (lv' := [some (.ref x0), some (.int (nI au)), some (.int (nI 0)), some (.int g), some (.int (nI (uU S 0))), some (.int (nI (lw g ((uU S 0) + 2)))), some (.int (nI (mK S))), none, none, none, none]) rfl ?_
  refine z_aload_n C 0 dL_inserts_25 rfl rfl ?_
  refine z_iconst C (nI 5) dL_inserts_26 (by decide) ?_
  refine z_callVr C kX5_count gL_inserts_X5_count (l_cnt5n X.2.1 x0 h0 h1 w0 w1 t S o kp ln ps  hG ht) dL_inserts_27 [0, 1, 2, 3, 4, 5, 6, 7, 8, 9, 51] [] 0 rfl nd_0_1_2_3_4_5_6_7_8_9_51 rfl rfl rfl (by decide) (by decide) (Nat.le_of_ble_eq_true rfl) rfl ?_
  refine z_iconst C (nI 1) dL_inserts_30 (by decide) ?_
  refine z_ncmp_ne_t C 38 dL_inserts_31 (by decide) (by omega) (by omega) (by omega) ?_
  refine z_iconst C (nI 0) dL_inserts_38 (by decide) ?_
  refine z_istore C dL_inserts_39 (Nat.le_of_ble_eq_true rfl) ?_
  refine z_lv (lv' := [some (.ref x0), some (.int (nI au)), some (.int (nI 0)), some (.int g), some (.int (nI (uU S 0))), some (.int (nI (lw g ((uU S 0) + 2)))), some (.int (nI (mK S))), some (.int (nI 0)), none, none, none]) rfl ?_
  refine z_iload C dL_inserts_41 rfl ?_
  refine z_iload_n C 2 dL_inserts_43 rfl rfl ?_
  refine z_nif_ne_f C 52 dL_inserts_44 (by decide) (by omega) (by omega) ?_
  refine z_bipush C (nI 12) dL_inserts_47 (by decide) ?_
  refine z_goto C 54 dL_inserts_49 (by decide) ?_
  refine z_ncmp_eq_f C 69 dL_inserts_54 (by decide) (by omega) (by omega) (by omega) ?_
  refine z_iload C dL_inserts_57 rfl ?_
  refine z_nif_eq_t C 73 dL_inserts_59 (by decide) (by omega) (by omega) ?_
  refine z_iconst C (nI 0) dL_inserts_73 (by decide) ?_
  refine z_istore C dL_inserts_74 (Nat.le_of_ble_eq_true rfl) ?_
  refine z_lv (lv' := [some (.ref x0), some (.int (nI au)), some (.int (nI 0)), some (.int g), some (.int (nI (uU S 0))), some (.int (nI (lw g ((uU S 0) + 2)))), some (.int (nI (mK S))), some (.int (nI 0)), some (.int (nI 0)), none, none]) rfl ?_
  refine z_iload C dL_inserts_76 rfl ?_
  refine z_iload C dL_inserts_78 rfl ?_
  refine z_ncmp_le_t C 88 dL_inserts_80 (by decide) (by omega) (by omega) (by omega) ?_
  refine z_iload C dL_inserts_88 rfl ?_
  refine z_nif_eq_t C 98 dL_inserts_90 (by decide) (by omega) (by omega) ?_
  refine z_iload C dL_inserts_98 rfl ?_
  refine z_nif_eq_t C 108 dL_inserts_100 (by decide) (by omega) (by omega) ?_
  refine z_sipush C (nI 1000) dL_inserts_108 (by decide) ?_
  refine z_istore C dL_inserts_111 (Nat.le_of_ble_eq_true rfl) ?_
  refine z_lv (lv' := [some (.ref x0), some (.int (nI au)), some (.int (nI 0)), some (.int g), some (.int (nI (uU S 0))), some (.int (nI (lw g ((uU S 0) + 2)))), some (.int (nI (mK S))), some (.int (nI 0)), some (.int (nI 0)), some (.int (nI 1000)), none]) rfl ?_
  refine z_aload_n C 0 dL_inserts_113 rfl rfl ?_
  refine z_iconst C (nI 0) dL_inserts_114 (by decide) ?_
  refine z_callVr C kX5_sum gL_inserts_X5_sum (l_smv X.2.1 x0 h0 w0 t S 0 hG (by decide)) dL_inserts_115 [0, 1, 2, 3, 4, 5, 6, 7, 8] [] 0 rfl nd_0_1_2_3_4_5_6_7_8 rfl rfl rfl (by decide) (by decide) (Nat.le_of_ble_eq_true rfl) rfl ?_
  refine z_istore C dL_inserts_118 (Nat.le_of_ble_eq_true rfl) ?_
  refine z_lv (lv' := [some (.ref x0), some (.int (nI au)), some (.int (nI 0)), some (.int g), some (.int (nI (uU S 0))), some (.int (nI (lw g ((uU S 0) + 2)))), some (.int (nI (mK S))), some (.int (nI 0)), some (.int (nI 0)), some (.int (nI 1000)), some (.int (smV S 0))]) rfl ?_
  refine z_aload_n C 0 dL_inserts_120 rfl rfl ?_
  refine z_iload_n C 1 dL_inserts_121 rfl rfl ?_
  refine z_iload_n C 2 dL_inserts_122 rfl rfl ?_
  refine z_iload C dL_inserts_123 rfl ?_
  refine z_callV (wn := (WRd X.2.1 x0 h0 h1 w0 w1 t r S1 o1 kp1 Q1 tx ln ps)) C kX5_insert gL_inserts_X5_insert m1 dL_inserts_125 [0, 1, 2, 3, 4, 5, 6, 7, 8, 9, 10, 11, 12, 13, 14, 15, 16, 17, 18, 19, 20, 21, 22, 23, 24, 25, 26, 27, 28, 29, 30, 31, 32, 33, 34, 35, 36, 37, 38, 39, 40, 41, 42, 43, 44, 45, 46, 47, 48, 49, 50] [] 0 rfl rfl nd_0_1_2_3_4_5_6_7_8_9_10_11_12_13_14_15_16_17_18_19_20_21_22_23_24_25_26_27_28_29_30_31_32_33_34_35_36_37_38_39_40_41_42_43_44_45_46_47_48_49_50 rfl rfl rfl (by decide) (by decide) (Nat.le_of_ble_eq_true rfl) rfl ((zput_par nd_0_1_2_3_4_5_6_7_8_9_10_11_12_13_14_15_16_17_18_19_20_21_22_23_24_25_26_27_28_29_30_31_32_33_34_35_36_37_38_39_40_41_42_43_44_45_46_47_48_49_50 rfl).trans rfl) ?_
  refine z_iload C dL_inserts_128 rfl ?_
  refine z_ncmp_ne_f C 143 dL_inserts_130 (by decide) (by omega) (by omega) (by omega) ?_
  refine z_aload_n C 0 dL_inserts_133 rfl rfl ?_
  refine z_iconst C (nI 0) dL_inserts_134 (by decide) ?_
  refine z_callVr C kX5_sum gL_inserts_X5_sum (l_smv X.2.1 x0 h0 w0 t S1 0 hG1 (by decide)) dL_inserts_135 [0, 1, 2, 3, 4, 5, 6, 7, 8] [] 0 rfl nd_0_1_2_3_4_5_6_7_8 rfl rfl rfl (by decide) (by decide) (Nat.le_of_ble_eq_true rfl) rfl ?_
  refine z_iload C dL_inserts_138 rfl ?_
  refine z_icmp_eq_t C 145 dL_inserts_140 (by decide) hsm ?_
  refine z_iload C dL_inserts_145 rfl ?_
  refine z_nif_ge_t C 169 dL_inserts_147 (by decide) (by omega) (by trivial) ?_
  refine z_aload_n C 0 dL_inserts_169 rfl rfl ?_
  refine z_iconst C (nI 0) dL_inserts_170 (by decide) ?_
  refine z_iload_n C 2 dL_inserts_171 rfl rfl ?_
  refine z_callVr C kX5_size gL_inserts_X5_size (l_size0 X.2.1 x0 h0 w0 t S1 0 hG1 (by decide)) dL_inserts_172 [0, 1, 2, 3, 4, 5, 6, 7, 8] [] 0 rfl nd_0_1_2_3_4_5_6_7_8 rfl rfl rfl (by decide) (by decide) (Nat.le_of_ble_eq_true rfl) rfl ?_
  refine z_iload C dL_inserts_175 rfl ?_
  refine z_iconst C (nI 1) dL_inserts_177 (by decide) ?_
  refine z_iadd C dL_inserts_178 ?_
  refine z_top (y := nI ((uU S 0) + 1)) (nI_add _ _) ?_
  refine z_ncmp_ne_f C 220 dL_inserts_179 (by decide) (by omega) (by omega) (by omega) ?_
  refine z_aload_n C 0 dL_inserts_182 rfl rfl ?_
  refine z_iload_n C 2 dL_inserts_183 rfl rfl ?_
  refine z_iload C dL_inserts_184 rfl ?_
  refine z_iconst C (nI 0) dL_inserts_186 (by decide) ?_
  refine z_callVr C kX5_line gL_inserts_X5_line (l_line0n X.2.1 x0 h0 w0 t S1 0 (lw g ((uU S 0) + 2)) hG1 (by decide) (by omega) hN) dL_inserts_187 [0, 1, 2, 3, 4, 5, 6, 7, 8] [] 0 rfl nd_0_1_2_3_4_5_6_7_8 rfl rfl rfl (by decide) (by decide) (Nat.le_of_ble_eq_true rfl) rfl ?_
  refine z_iload C dL_inserts_190 rfl ?_
  refine z_nif_eq_t C 200 dL_inserts_192 (by decide) (by omega) (by omega) ?_
  refine z_bipush C (-5) dL_inserts_200 (by decide) ?_
  refine z_icmp_ne_f C 220 dL_inserts_202 (by decide) rfl ?_
  refine z_aload_n C 0 dL_inserts_205 rfl rfl ?_
  refine z_iload_n C 2 dL_inserts_206 rfl rfl ?_
  refine z_iload C dL_inserts_207 rfl ?_
  refine z_iconst C (nI 4) dL_inserts_209 (by decide) ?_
  refine z_callVr C kX5_line gL_inserts_X5_line (l_line4 X.2.1 x0 h0 w0 t S1 0 (lw g ((uU S 0) + 2)) hG1 (by decide) (by omega)) dL_inserts_210 [0, 1, 2, 3, 4, 5, 6, 7, 8] [] 0 rfl nd_0_1_2_3_4_5_6_7_8 rfl rfl rfl (by decide) (by decide) (Nat.le_of_ble_eq_true rfl) rfl ?_
  refine z_nif_ne_f C 220 dL_inserts_213 (by decide) (by omega) (by omega) ?_
  refine z_iconst C (nI 1) dL_inserts_216 (by decide) ?_
  refine z_goto C 221 dL_inserts_217 (by decide) ?_
  exact z_zret C N dL_inserts_221 rfl (rfl) (rfl)

set_option maxHeartbeats 4000000 in
set_option maxRecDepth 100000 in
theorem w_ins1b (E : zE) (x0 h0 h1 w0 w1 : Nat) (t : Nat → Nat) (r : Nat → Nat → Nat) (S S1 : zSt) (o kp kp1 o1 : Nat) (Q Q1 : Nat → zSt) (tx : Nat → Nat) (ln : Nat) (ps : zPs) {B B1 : Nat} (au : Nat) (g : Int32) (hG : GG S B) (hG1 : GG S1 B1) (hau : au < 4) (hp : uU S 1 < lw g (uU S 1 + 2)) (hu : uU S1 1 = uU S 1) (hsm : smV S1 0 = smV S 0) (m1 : zM E yX5_insert wsX5_insert 6 [.ref x0, .int (nI au), .int (nI 1), .int (nI (lw g (uU S 1 + 2)))] (WAd E x0 h0 h1 w0 t r S o kp Q) (WAd E x0 h0 h1 w0 t r S1 o1 kp1 Q1) (some (.int (-2)))) : zM E yL_inserts wsL_inserts 7 [.ref x0, .int (nI au), .int (nI 1), .int g] (WRd E x0 h0 h1 w0 w1 t r S o kp Q tx ln ps) (WRd E x0 h0 h1 w0 w1 t r S1 o1 kp1 Q1 tx ln ps) (some (.int (nI 1))) := by
  refine zM.of kL_inserts (Nat.le_of_ble_eq_true rfl) rfl [some (.ref x0), some (.int (nI au)), some (.int (nI 1)), some (.int g), none, none, none, none, none, none, none] rfl (Nat.le_of_ble_eq_true rfl) ?_
  intro X eX C N
  subst eX
  have hb0 : uU S 0 ≤ 12 := gg_u hG 0
  have hb1 : uU S 1 ≤ 8 := gg_u1 hG
  have hb2 : mK S ≤ 60 := gg_M hG
  have hb3 : uU S1 0 ≤ 12 := gg_u hG1 0
  have hb4 : uU S1 1 ≤ 8 := gg_u1 hG1
  have hb5 : mK S1 ≤ 60 := gg_M hG1
  refine z_aload_n C 0 dL_inserts_0 rfl rfl ?_
  refine z_iconst C (nI 0) dL_inserts_1 (by decide) ?_
  refine z_iload_n C 2 dL_inserts_2 rfl rfl ?_
  refine z_callVr C kX5_size gL_inserts_X5_size (l_size0 X.2.1 x0 h0 w0 t S 1 hG (by decide)) dL_inserts_3 [0, 1, 2, 3, 4, 5, 6, 7, 8] [] 0 rfl nd_0_1_2_3_4_5_6_7_8 rfl rfl rfl (by decide) (by decide) (Nat.le_of_ble_eq_true rfl) rfl ?_
  refine z_istore C dL_inserts_6 (Nat.le_of_ble_eq_true rfl) ?_
  refine z_lv (lv' := [some (.ref x0), some (.int (nI au)), some (.int (nI 1)), some (.int g), some (.int (nI (uU S 1))), none, none, none, none, none, none]) rfl ?_
  refine z_iload_n C 3 dL_inserts_8 rfl rfl ?_
  refine z_iload C dL_inserts_9 rfl ?_
  refine z_iconst C (nI 2) dL_inserts_11 (by decide) ?_
  refine z_iadd C dL_inserts_12 ?_
  refine z_top (y := nI ((uU S 1) + 2)) (nI_add _ _) ?_
  refine z_callS C kL_low gL_inserts_L_low (l_low X.2.1 g ((uU S 1) + 2) (by omega) (by omega)) dL_inserts_13 [] rfl (by decide) (by decide) (Nat.le_of_ble_eq_true rfl) rfl ?_
  have hg_1 : lw g ((uU S 1) + 2) < ((uU S 1) + 2) := lw_lt g (by omega)
  refine z_istore C dL_inserts_16 (Nat.le_of_ble_eq_true rfl) ?_
  refine z_lv (lv' := [some (.ref x0), some (.int (nI au)), some (.int (nI 1)), some (.int g), some (.int (nI (uU S 1))), some (.int (nI (lw g ((uU S 1) + 2)))), none, none, none, none, none]) rfl ?_
  refine z_aload_n C 0 dL_inserts_18 rfl rfl ?_
  refine z_iconst C (nI 0) dL_inserts_19 (by decide) ?_
  refine z_callVr C kX5_count gL_inserts_X5_count (l_cnt0 X.2.1 x0 h0 h1 w0 w1 t S o kp ln ps  hG ) dL_inserts_20 [0, 1, 2, 3, 4, 5, 6, 7, 8, 9, 51] [] 0 rfl nd_0_1_2_3_4_5_6_7_8_9_51 rfl rfl rfl (by decide) (by decide) (Nat.le_of_ble_eq_true rfl) rfl ?_
  refine z_istore C dL_inserts_23 (Nat.le_of_ble_eq_true rfl) ?_
  refine z_lv (lv' := [some (.ref x0), some (.int (nI au)), some (.int (nI 1)), some (.int g), some (.int (nI (uU S 1))), some (.int (nI (lw g ((uU S 1) + 2)))), some (.int (nI (mK S))), none, none, none, none]) rfl ?_
  refine z_aload_n C 0 dL_inserts_25 rfl rfl ?_
  refine z_iconst C (nI 5) dL_inserts_26 (by decide) ?_
  refine z_callVr C kX5_count gL_inserts_X5_count (l_cnt5 X.2.1 x0 h0 h1 w0 w1 t S o kp ln ps  hG ) dL_inserts_27 [0, 1, 2, 3, 4, 5, 6, 7, 8, 9, 51] [] 0 rfl nd_0_1_2_3_4_5_6_7_8_9_51 rfl rfl rfl (by decide) (by decide) (Nat.le_of_ble_eq_true rfl) rfl ?_
  refine z_iconst C (nI 1) dL_inserts_30 (by decide) ?_
  refine z_icmp_ne C 38 dL_inserts_31 (by decide) (fun h_2 => ?_) (fun h_2 => ?_)
  · refine z_iconst C (nI 0) dL_inserts_38 (by decide) ?_
    refine z_istore C dL_inserts_39 (Nat.le_of_ble_eq_true rfl) ?_
    refine z_lv (lv' := [some (.ref x0), some (.int (nI au)), some (.int (nI 1)), some (.int g), some (.int (nI (uU S 1))), some (.int (nI (lw g ((uU S 1) + 2)))), some (.int (nI (mK S))), some (.int (nI 0)), none, none, none]) rfl ?_
    refine z_iload C dL_inserts_41 rfl ?_
    refine z_iload_n C 2 dL_inserts_43 rfl rfl ?_
    refine z_nif_ne_t C 52 dL_inserts_44 (by decide) (by omega) (by omega) ?_
    refine z_bipush C (nI 8) dL_inserts_52 (by decide) ?_
    refine z_ncmp_eq C 69 dL_inserts_54 (by decide) (by omega) (by omega) (fun h_3 => ?_) (fun h_3 => ?_)
    · refine z_iconst C (nI 1) dL_inserts_69 (by decide) ?_
      refine z_goto C 74 dL_inserts_70 (by decide) ?_
      refine z_istore C dL_inserts_74 (Nat.le_of_ble_eq_true rfl) ?_
      refine z_lv (lv' := [some (.ref x0), some (.int (nI au)), some (.int (nI 1)), some (.int g), some (.int (nI (uU S 1))), some (.int (nI (lw g ((uU S 1) + 2)))), some (.int (nI (mK S))), some (.int (nI 0)), some (.int (nI 1)), none, none]) rfl ?_
      refine z_iload C dL_inserts_76 rfl ?_
      refine z_iload C dL_inserts_78 rfl ?_
      refine z_ncmp_le_f C 88 dL_inserts_80 (by decide) (by omega) (by omega) (by omega) ?_
      refine z_bipush C (-2) dL_inserts_83 (by decide) ?_
      refine z_goto C 111 dL_inserts_85 (by decide) ?_
      refine z_istore C dL_inserts_111 (Nat.le_of_ble_eq_true rfl) ?_
      refine z_lv (lv' := [some (.ref x0), some (.int (nI au)), some (.int (nI 1)), some (.int g), some (.int (nI (uU S 1))), some (.int (nI (lw g ((uU S 1) + 2)))), some (.int (nI (mK S))), some (.int (nI 0)), some (.int (nI 1)), some (.int (-2)), none]) rfl ?_
      refine z_aload_n C 0 dL_inserts_113 rfl rfl ?_
      refine z_iconst C (nI 0) dL_inserts_114 (by decide) ?_
      refine z_callVr C kX5_sum gL_inserts_X5_sum (l_smv X.2.1 x0 h0 w0 t S 0 hG (by decide)) dL_inserts_115 [0, 1, 2, 3, 4, 5, 6, 7, 8] [] 0 rfl nd_0_1_2_3_4_5_6_7_8 rfl rfl rfl (by decide) (by decide) (Nat.le_of_ble_eq_true rfl) rfl ?_
      refine z_istore C dL_inserts_118 (Nat.le_of_ble_eq_true rfl) ?_
      refine z_lv (lv' := [some (.ref x0), some (.int (nI au)), some (.int (nI 1)), some (.int g), some (.int (nI (uU S 1))), some (.int (nI (lw g ((uU S 1) + 2)))), some (.int (nI (mK S))), some (.int (nI 0)), some (.int (nI 1)), some (.int (-2)), some (.int (smV S 0))]) rfl ?_
      refine z_aload_n C 0 dL_inserts_120 rfl rfl ?_
      refine z_iload_n C 1 dL_inserts_121 rfl rfl ?_
      refine z_iload_n C 2 dL_inserts_122 rfl rfl ?_
      refine z_iload C dL_inserts_123 rfl ?_
      refine z_callV (wn := (WRd X.2.1 x0 h0 h1 w0 w1 t r S1 o1 kp1 Q1 tx ln ps)) C kX5_insert gL_inserts_X5_insert m1 dL_inserts_125 [0, 1, 2, 3, 4, 5, 6, 7, 8, 9, 10, 11, 12, 13, 14, 15, 16, 17, 18, 19, 20, 21, 22, 23, 24, 25, 26, 27, 28, 29, 30, 31, 32, 33, 34, 35, 36, 37, 38, 39, 40, 41, 42, 43, 44, 45, 46, 47, 48, 49, 50] [] 0 rfl rfl nd_0_1_2_3_4_5_6_7_8_9_10_11_12_13_14_15_16_17_18_19_20_21_22_23_24_25_26_27_28_29_30_31_32_33_34_35_36_37_38_39_40_41_42_43_44_45_46_47_48_49_50 rfl rfl rfl (by decide) (by decide) (Nat.le_of_ble_eq_true rfl) rfl ((zput_par nd_0_1_2_3_4_5_6_7_8_9_10_11_12_13_14_15_16_17_18_19_20_21_22_23_24_25_26_27_28_29_30_31_32_33_34_35_36_37_38_39_40_41_42_43_44_45_46_47_48_49_50 rfl).trans rfl) ?_
      refine z_iload C dL_inserts_128 rfl ?_
      refine z_icmp_ne_f C 143 dL_inserts_130 (by decide) rfl ?_
      refine z_aload_n C 0 dL_inserts_133 rfl rfl ?_
      refine z_iconst C (nI 0) dL_inserts_134 (by decide) ?_
      refine z_callVr C kX5_sum gL_inserts_X5_sum (l_smv X.2.1 x0 h0 w0 t S1 0 hG1 (by decide)) dL_inserts_135 [0, 1, 2, 3, 4, 5, 6, 7, 8] [] 0 rfl nd_0_1_2_3_4_5_6_7_8 rfl rfl rfl (by decide) (by decide) (Nat.le_of_ble_eq_true rfl) rfl ?_
      refine z_iload C dL_inserts_138 rfl ?_
      refine z_icmp_eq_t C 145 dL_inserts_140 (by decide) hsm ?_
      refine z_iload C dL_inserts_145 rfl ?_
      refine z_if_ge_f C 169 dL_inserts_147 (by decide) (by decide) ?_
      refine z_aload_n C 0 dL_inserts_150 rfl rfl ?_
      refine z_iconst C (nI 0) dL_inserts_151 (by decide) ?_
      refine z_iload_n C 2 dL_inserts_152 rfl rfl ?_
      refine z_callVr C kX5_size gL_inserts_X5_size (l_size0 X.2.1 x0 h0 w0 t S1 1 hG1 (by decide)) dL_inserts_153 [0, 1, 2, 3, 4, 5, 6, 7, 8] [] 0 rfl nd_0_1_2_3_4_5_6_7_8 rfl rfl rfl (by decide) (by decide) (Nat.le_of_ble_eq_true rfl) rfl ?_
      refine z_iload C dL_inserts_156 rfl ?_
      refine z_ncmp_ne_f C 165 dL_inserts_158 (by decide) (by omega) (by omega) (by omega) ?_
      refine z_iconst C (nI 1) dL_inserts_161 (by decide) ?_
      refine z_goto C 221 dL_inserts_162 (by decide) ?_
      exact z_zret C N dL_inserts_221 rfl (rfl) (rfl)
    · refine z_iload C dL_inserts_57 rfl ?_
      refine z_nif_eq_t C 73 dL_inserts_59 (by decide) (by omega) (by omega) ?_
      refine z_iconst C (nI 0) dL_inserts_73 (by decide) ?_
      refine z_istore C dL_inserts_74 (Nat.le_of_ble_eq_true rfl) ?_
      refine z_lv (lv' := [some (.ref x0), some (.int (nI au)), some (.int (nI 1)), some (.int g), some (.int (nI (uU S 1))), some (.int (nI (lw g ((uU S 1) + 2)))), some (.int (nI (mK S))), some (.int (nI 0)), some (.int (nI 0)), none, none]) rfl ?_
      refine z_iload C dL_inserts_76 rfl ?_
      refine z_iload C dL_inserts_78 rfl ?_
      refine z_ncmp_le_f C 88 dL_inserts_80 (by decide) (by omega) (by omega) (by omega) ?_
      refine z_bipush C (-2) dL_inserts_83 (by decide) ?_
      refine z_goto C 111 dL_inserts_85 (by decide) ?_
      refine z_istore C dL_inserts_111 (Nat.le_of_ble_eq_true rfl) ?_
      refine z_lv (lv' := [some (.ref x0), some (.int (nI au)), some (.int (nI 1)), some (.int g), some (.int (nI (uU S 1))), some (.int (nI (lw g ((uU S 1) + 2)))), some (.int (nI (mK S))), some (.int (nI 0)), some (.int (nI 0)), some (.int (-2)), none]) rfl ?_
      refine z_aload_n C 0 dL_inserts_113 rfl rfl ?_
      refine z_iconst C (nI 0) dL_inserts_114 (by decide) ?_
      refine z_callVr C kX5_sum gL_inserts_X5_sum (l_smv X.2.1 x0 h0 w0 t S 0 hG (by decide)) dL_inserts_115 [0, 1, 2, 3, 4, 5, 6, 7, 8] [] 0 rfl nd_0_1_2_3_4_5_6_7_8 rfl rfl rfl (by decide) (by decide) (Nat.le_of_ble_eq_true rfl) rfl ?_
      refine z_istore C dL_inserts_118 (Nat.le_of_ble_eq_true rfl) ?_
      refine z_lv (lv' := [some (.ref x0), some (.int (nI au)), some (.int (nI 1)), some (.int g), some (.int (nI (uU S 1))), some (.int (nI (lw g ((uU S 1) + 2)))), some (.int (nI (mK S))), some (.int (nI 0)), some (.int (nI 0)), some (.int (-2)), some (.int (smV S 0))]) rfl ?_
      refine z_aload_n C 0 dL_inserts_120 rfl rfl ?_
      refine z_iload_n C 1 dL_inserts_121 rfl rfl ?_
      refine z_iload_n C 2 dL_inserts_122 rfl rfl ?_
      refine z_iload C dL_inserts_123 rfl ?_
      refine z_callV (wn := (WRd X.2.1 x0 h0 h1 w0 w1 t r S1 o1 kp1 Q1 tx ln ps)) C kX5_insert gL_inserts_X5_insert m1 dL_inserts_125 [0, 1, 2, 3, 4, 5, 6, 7, 8, 9, 10, 11, 12, 13, 14, 15, 16, 17, 18, 19, 20, 21, 22, 23, 24, 25, 26, 27, 28, 29, 30, 31, 32, 33, 34, 35, 36, 37, 38, 39, 40, 41, 42, 43, 44, 45, 46, 47, 48, 49, 50] [] 0 rfl rfl nd_0_1_2_3_4_5_6_7_8_9_10_11_12_13_14_15_16_17_18_19_20_21_22_23_24_25_26_27_28_29_30_31_32_33_34_35_36_37_38_39_40_41_42_43_44_45_46_47_48_49_50 rfl rfl rfl (by decide) (by decide) (Nat.le_of_ble_eq_true rfl) rfl ((zput_par nd_0_1_2_3_4_5_6_7_8_9_10_11_12_13_14_15_16_17_18_19_20_21_22_23_24_25_26_27_28_29_30_31_32_33_34_35_36_37_38_39_40_41_42_43_44_45_46_47_48_49_50 rfl).trans rfl) ?_
      refine z_iload C dL_inserts_128 rfl ?_
      refine z_icmp_ne_f C 143 dL_inserts_130 (by decide) rfl ?_
      refine z_aload_n C 0 dL_inserts_133 rfl rfl ?_
      refine z_iconst C (nI 0) dL_inserts_134 (by decide) ?_
      refine z_callVr C kX5_sum gL_inserts_X5_sum (l_smv X.2.1 x0 h0 w0 t S1 0 hG1 (by decide)) dL_inserts_135 [0, 1, 2, 3, 4, 5, 6, 7, 8] [] 0 rfl nd_0_1_2_3_4_5_6_7_8 rfl rfl rfl (by decide) (by decide) (Nat.le_of_ble_eq_true rfl) rfl ?_
      refine z_iload C dL_inserts_138 rfl ?_
      refine z_icmp_eq_t C 145 dL_inserts_140 (by decide) hsm ?_
      refine z_iload C dL_inserts_145 rfl ?_
      refine z_if_ge_f C 169 dL_inserts_147 (by decide) (by decide) ?_
      refine z_aload_n C 0 dL_inserts_150 rfl rfl ?_
      refine z_iconst C (nI 0) dL_inserts_151 (by decide) ?_
      refine z_iload_n C 2 dL_inserts_152 rfl rfl ?_
      refine z_callVr C kX5_size gL_inserts_X5_size (l_size0 X.2.1 x0 h0 w0 t S1 1 hG1 (by decide)) dL_inserts_153 [0, 1, 2, 3, 4, 5, 6, 7, 8] [] 0 rfl nd_0_1_2_3_4_5_6_7_8 rfl rfl rfl (by decide) (by decide) (Nat.le_of_ble_eq_true rfl) rfl ?_
      refine z_iload C dL_inserts_156 rfl ?_
      refine z_ncmp_ne_f C 165 dL_inserts_158 (by decide) (by omega) (by omega) (by omega) ?_
      refine z_iconst C (nI 1) dL_inserts_161 (by decide) ?_
      refine z_goto C 221 dL_inserts_162 (by decide) ?_
      exact z_zret C N dL_inserts_221 rfl (rfl) (rfl)
  · refine z_iconst C (nI 1) dL_inserts_34 (by decide) ?_
    refine z_goto C 39 dL_inserts_35 (by decide) ?_
    refine z_istore C dL_inserts_39 (Nat.le_of_ble_eq_true rfl) ?_
    refine z_lv (lv' := [some (.ref x0), some (.int (nI au)), some (.int (nI 1)), some (.int g), some (.int (nI (uU S 1))), some (.int (nI (lw g ((uU S 1) + 2)))), some (.int (nI (mK S))), some (.int (nI 1)), none, none, none]) rfl ?_
    refine z_iload C dL_inserts_41 rfl ?_
    refine z_iload_n C 2 dL_inserts_43 rfl rfl ?_
    refine z_nif_ne_t C 52 dL_inserts_44 (by decide) (by omega) (by omega) ?_
    refine z_bipush C (nI 8) dL_inserts_52 (by decide) ?_
    refine z_ncmp_eq C 69 dL_inserts_54 (by decide) (by omega) (by omega) (fun h_4 => ?_) (fun h_4 => ?_)
    · refine z_iconst C (nI 1) dL_inserts_69 (by decide) ?_
      refine z_goto C 74 dL_inserts_70 (by decide) ?_
      refine z_istore C dL_inserts_74 (Nat.le_of_ble_eq_true rfl) ?_
      refine z_lv (lv' := [some (.ref x0), some (.int (nI au)), some (.int (nI 1)), some (.int g), some (.int (nI (uU S 1))), some (.int (nI (lw g ((uU S 1) + 2)))), some (.int (nI (mK S))), some (.int (nI 1)), some (.int (nI 1)), none, none]) rfl ?_
      refine z_iload C dL_inserts_76 rfl ?_
      refine z_iload C dL_inserts_78 rfl ?_
      refine z_ncmp_le_f C 88 dL_inserts_80 (by decide) (by omega) (by omega) (by omega) ?_
      refine z_bipush C (-2) dL_inserts_83 (by decide) ?_
      refine z_goto C 111 dL_inserts_85 (by decide) ?_
      refine z_istore C dL_inserts_111 (Nat.le_of_ble_eq_true rfl) ?_
      refine z_lv (lv' := [some (.ref x0), some (.int (nI au)), some (.int (nI 1)), some (.int g), some (.int (nI (uU S 1))), some (.int (nI (lw g ((uU S 1) + 2)))), some (.int (nI (mK S))), some (.int (nI 1)), some (.int (nI 1)), some (.int (-2)), none]) rfl ?_
      refine z_aload_n C 0 dL_inserts_113 rfl rfl ?_
      refine z_iconst C (nI 0) dL_inserts_114 (by decide) ?_
      refine z_callVr C kX5_sum gL_inserts_X5_sum (l_smv X.2.1 x0 h0 w0 t S 0 hG (by decide)) dL_inserts_115 [0, 1, 2, 3, 4, 5, 6, 7, 8] [] 0 rfl nd_0_1_2_3_4_5_6_7_8 rfl rfl rfl (by decide) (by decide) (Nat.le_of_ble_eq_true rfl) rfl ?_
      refine z_istore C dL_inserts_118 (Nat.le_of_ble_eq_true rfl) ?_
      refine z_lv (lv' := [some (.ref x0), some (.int (nI au)), some (.int (nI 1)), some (.int g), some (.int (nI (uU S 1))), some (.int (nI (lw g ((uU S 1) + 2)))), some (.int (nI (mK S))), some (.int (nI 1)), some (.int (nI 1)), some (.int (-2)), some (.int (smV S 0))]) rfl ?_
      refine z_aload_n C 0 dL_inserts_120 rfl rfl ?_
      refine z_iload_n C 1 dL_inserts_121 rfl rfl ?_
      refine z_iload_n C 2 dL_inserts_122 rfl rfl ?_
      refine z_iload C dL_inserts_123 rfl ?_
      refine z_callV (wn := (WRd X.2.1 x0 h0 h1 w0 w1 t r S1 o1 kp1 Q1 tx ln ps)) C kX5_insert gL_inserts_X5_insert m1 dL_inserts_125 [0, 1, 2, 3, 4, 5, 6, 7, 8, 9, 10, 11, 12, 13, 14, 15, 16, 17, 18, 19, 20, 21, 22, 23, 24, 25, 26, 27, 28, 29, 30, 31, 32, 33, 34, 35, 36, 37, 38, 39, 40, 41, 42, 43, 44, 45, 46, 47, 48, 49, 50] [] 0 rfl rfl nd_0_1_2_3_4_5_6_7_8_9_10_11_12_13_14_15_16_17_18_19_20_21_22_23_24_25_26_27_28_29_30_31_32_33_34_35_36_37_38_39_40_41_42_43_44_45_46_47_48_49_50 rfl rfl rfl (by decide) (by decide) (Nat.le_of_ble_eq_true rfl) rfl ((zput_par nd_0_1_2_3_4_5_6_7_8_9_10_11_12_13_14_15_16_17_18_19_20_21_22_23_24_25_26_27_28_29_30_31_32_33_34_35_36_37_38_39_40_41_42_43_44_45_46_47_48_49_50 rfl).trans rfl) ?_
      refine z_iload C dL_inserts_128 rfl ?_
      refine z_icmp_ne_f C 143 dL_inserts_130 (by decide) rfl ?_
      refine z_aload_n C 0 dL_inserts_133 rfl rfl ?_
      refine z_iconst C (nI 0) dL_inserts_134 (by decide) ?_
      refine z_callVr C kX5_sum gL_inserts_X5_sum (l_smv X.2.1 x0 h0 w0 t S1 0 hG1 (by decide)) dL_inserts_135 [0, 1, 2, 3, 4, 5, 6, 7, 8] [] 0 rfl nd_0_1_2_3_4_5_6_7_8 rfl rfl rfl (by decide) (by decide) (Nat.le_of_ble_eq_true rfl) rfl ?_
      refine z_iload C dL_inserts_138 rfl ?_
      refine z_icmp_eq_t C 145 dL_inserts_140 (by decide) hsm ?_
      refine z_iload C dL_inserts_145 rfl ?_
      refine z_if_ge_f C 169 dL_inserts_147 (by decide) (by decide) ?_
      refine z_aload_n C 0 dL_inserts_150 rfl rfl ?_
      refine z_iconst C (nI 0) dL_inserts_151 (by decide) ?_
      refine z_iload_n C 2 dL_inserts_152 rfl rfl ?_
      refine z_callVr C kX5_size gL_inserts_X5_size (l_size0 X.2.1 x0 h0 w0 t S1 1 hG1 (by decide)) dL_inserts_153 [0, 1, 2, 3, 4, 5, 6, 7, 8] [] 0 rfl nd_0_1_2_3_4_5_6_7_8 rfl rfl rfl (by decide) (by decide) (Nat.le_of_ble_eq_true rfl) rfl ?_
      refine z_iload C dL_inserts_156 rfl ?_
      refine z_ncmp_ne_f C 165 dL_inserts_158 (by decide) (by omega) (by omega) (by omega) ?_
      refine z_iconst C (nI 1) dL_inserts_161 (by decide) ?_
      refine z_goto C 221 dL_inserts_162 (by decide) ?_
      exact z_zret C N dL_inserts_221 rfl (rfl) (rfl)
    · refine z_iload C dL_inserts_57 rfl ?_
      refine z_nif_eq_f C 73 dL_inserts_59 (by decide) (by omega) (by omega) ?_
      refine z_iload C dL_inserts_62 rfl ?_
      refine z_bipush C (nI 60) dL_inserts_64 (by decide) ?_
      refine z_ncmp_ne C 73 dL_inserts_66 (by decide) (by omega) (by omega) (fun h_5 => ?_) (fun h_5 => ?_)
      · refine z_iconst C (nI 0) dL_inserts_73 (by decide) ?_
        refine z_istore C dL_inserts_74 (Nat.le_of_ble_eq_true rfl) ?_
        refine z_lv (lv' := [some (.ref x0), some (.int (nI au)), some (.int (nI 1)), some (.int g), some (.int (nI (uU S 1))), some (.int (nI (lw g ((uU S 1) + 2)))), some (.int (nI (mK S))), some (.int (nI 1)), some (.int (nI 0)), none, none]) rfl ?_
        refine z_iload C dL_inserts_76 rfl ?_
        refine z_iload C dL_inserts_78 rfl ?_
        refine z_ncmp_le_f C 88 dL_inserts_80 (by decide) (by omega) (by omega) (by omega) ?_
        refine z_bipush C (-2) dL_inserts_83 (by decide) ?_
        refine z_goto C 111 dL_inserts_85 (by decide) ?_
        refine z_istore C dL_inserts_111 (Nat.le_of_ble_eq_true rfl) ?_
        refine z_lv (lv' := [some (.ref x0), some (.int (nI au)), some (.int (nI 1)), some (.int g), some (.int (nI (uU S 1))), some (.int (nI (lw g ((uU S 1) + 2)))), some (.int (nI (mK S))), some (.int (nI 1)), some (.int (nI 0)), some (.int (-2)), none]) rfl ?_
        refine z_aload_n C 0 dL_inserts_113 rfl rfl ?_
        refine z_iconst C (nI 0) dL_inserts_114 (by decide) ?_
        refine z_callVr C kX5_sum gL_inserts_X5_sum (l_smv X.2.1 x0 h0 w0 t S 0 hG (by decide)) dL_inserts_115 [0, 1, 2, 3, 4, 5, 6, 7, 8] [] 0 rfl nd_0_1_2_3_4_5_6_7_8 rfl rfl rfl (by decide) (by decide) (Nat.le_of_ble_eq_true rfl) rfl ?_
        refine z_istore C dL_inserts_118 (Nat.le_of_ble_eq_true rfl) ?_
        refine z_lv (lv' := [some (.ref x0), some (.int (nI au)), some (.int (nI 1)), some (.int g), some (.int (nI (uU S 1))), some (.int (nI (lw g ((uU S 1) + 2)))), some (.int (nI (mK S))), some (.int (nI 1)), some (.int (nI 0)), some (.int (-2)), some (.int (smV S 0))]) rfl ?_
        refine z_aload_n C 0 dL_inserts_120 rfl rfl ?_
        refine z_iload_n C 1 dL_inserts_121 rfl rfl ?_
        refine z_iload_n C 2 dL_inserts_122 rfl rfl ?_
        refine z_iload C dL_inserts_123 rfl ?_
        refine z_callV (wn := (WRd X.2.1 x0 h0 h1 w0 w1 t r S1 o1 kp1 Q1 tx ln ps)) C kX5_insert gL_inserts_X5_insert m1 dL_inserts_125 [0, 1, 2, 3, 4, 5, 6, 7, 8, 9, 10, 11, 12, 13, 14, 15, 16, 17, 18, 19, 20, 21, 22, 23, 24, 25, 26, 27, 28, 29, 30, 31, 32, 33, 34, 35, 36, 37, 38, 39, 40, 41, 42, 43, 44, 45, 46, 47, 48, 49, 50] [] 0 rfl rfl nd_0_1_2_3_4_5_6_7_8_9_10_11_12_13_14_15_16_17_18_19_20_21_22_23_24_25_26_27_28_29_30_31_32_33_34_35_36_37_38_39_40_41_42_43_44_45_46_47_48_49_50 rfl rfl rfl (by decide) (by decide) (Nat.le_of_ble_eq_true rfl) rfl ((zput_par nd_0_1_2_3_4_5_6_7_8_9_10_11_12_13_14_15_16_17_18_19_20_21_22_23_24_25_26_27_28_29_30_31_32_33_34_35_36_37_38_39_40_41_42_43_44_45_46_47_48_49_50 rfl).trans rfl) ?_
        refine z_iload C dL_inserts_128 rfl ?_
        refine z_icmp_ne_f C 143 dL_inserts_130 (by decide) rfl ?_
        refine z_aload_n C 0 dL_inserts_133 rfl rfl ?_
        refine z_iconst C (nI 0) dL_inserts_134 (by decide) ?_
        refine z_callVr C kX5_sum gL_inserts_X5_sum (l_smv X.2.1 x0 h0 w0 t S1 0 hG1 (by decide)) dL_inserts_135 [0, 1, 2, 3, 4, 5, 6, 7, 8] [] 0 rfl nd_0_1_2_3_4_5_6_7_8 rfl rfl rfl (by decide) (by decide) (Nat.le_of_ble_eq_true rfl) rfl ?_
        refine z_iload C dL_inserts_138 rfl ?_
        refine z_icmp_eq_t C 145 dL_inserts_140 (by decide) hsm ?_
        refine z_iload C dL_inserts_145 rfl ?_
        refine z_if_ge_f C 169 dL_inserts_147 (by decide) (by decide) ?_
        refine z_aload_n C 0 dL_inserts_150 rfl rfl ?_
        refine z_iconst C (nI 0) dL_inserts_151 (by decide) ?_
        refine z_iload_n C 2 dL_inserts_152 rfl rfl ?_
        refine z_callVr C kX5_size gL_inserts_X5_size (l_size0 X.2.1 x0 h0 w0 t S1 1 hG1 (by decide)) dL_inserts_153 [0, 1, 2, 3, 4, 5, 6, 7, 8] [] 0 rfl nd_0_1_2_3_4_5_6_7_8 rfl rfl rfl (by decide) (by decide) (Nat.le_of_ble_eq_true rfl) rfl ?_
        refine z_iload C dL_inserts_156 rfl ?_
        refine z_ncmp_ne_f C 165 dL_inserts_158 (by decide) (by omega) (by omega) (by omega) ?_
        refine z_iconst C (nI 1) dL_inserts_161 (by decide) ?_
        refine z_goto C 221 dL_inserts_162 (by decide) ?_
        exact z_zret C N dL_inserts_221 rfl (rfl) (rfl)
      · refine z_iconst C (nI 1) dL_inserts_69 (by decide) ?_
        refine z_goto C 74 dL_inserts_70 (by decide) ?_
        refine z_istore C dL_inserts_74 (Nat.le_of_ble_eq_true rfl) ?_
        refine z_lv (lv' := [some (.ref x0), some (.int (nI au)), some (.int (nI 1)), some (.int g), some (.int (nI (uU S 1))), some (.int (nI (lw g ((uU S 1) + 2)))), some (.int (nI (mK S))), some (.int (nI 1)), some (.int (nI 1)), none, none]) rfl ?_
        refine z_iload C dL_inserts_76 rfl ?_
        refine z_iload C dL_inserts_78 rfl ?_
        refine z_ncmp_le_f C 88 dL_inserts_80 (by decide) (by omega) (by omega) (by omega) ?_
        refine z_bipush C (-2) dL_inserts_83 (by decide) ?_
        refine z_goto C 111 dL_inserts_85 (by decide) ?_
        refine z_istore C dL_inserts_111 (Nat.le_of_ble_eq_true rfl) ?_
        refine z_lv (lv' := [some (.ref x0), some (.int (nI au)), some (.int (nI 1)), some (.int g), some (.int (nI (uU S 1))), some (.int (nI (lw g ((uU S 1) + 2)))), some (.int (nI (mK S))), some (.int (nI 1)), some (.int (nI 1)), some (.int (-2)), none]) rfl ?_
        refine z_aload_n C 0 dL_inserts_113 rfl rfl ?_
        refine z_iconst C (nI 0) dL_inserts_114 (by decide) ?_
        refine z_callVr C kX5_sum gL_inserts_X5_sum (l_smv X.2.1 x0 h0 w0 t S 0 hG (by decide)) dL_inserts_115 [0, 1, 2, 3, 4, 5, 6, 7, 8] [] 0 rfl nd_0_1_2_3_4_5_6_7_8 rfl rfl rfl (by decide) (by decide) (Nat.le_of_ble_eq_true rfl) rfl ?_
        refine z_istore C dL_inserts_118 (Nat.le_of_ble_eq_true rfl) ?_
        refine z_lv (lv' := [some (.ref x0), some (.int (nI au)), some (.int (nI 1)), some (.int g), some (.int (nI (uU S 1))), some (.int (nI (lw g ((uU S 1) + 2)))), some (.int (nI (mK S))), some (.int (nI 1)), some (.int (nI 1)), some (.int (-2)), some (.int (smV S 0))]) rfl ?_
        refine z_aload_n C 0 dL_inserts_120 rfl rfl ?_
        refine z_iload_n C 1 dL_inserts_121 rfl rfl ?_
        refine z_iload_n C 2 dL_inserts_122 rfl rfl ?_
        refine z_iload C dL_inserts_123 rfl ?_
        refine z_callV (wn := (WRd X.2.1 x0 h0 h1 w0 w1 t r S1 o1 kp1 Q1 tx ln ps)) C kX5_insert gL_inserts_X5_insert m1 dL_inserts_125 [0, 1, 2, 3, 4, 5, 6, 7, 8, 9, 10, 11, 12, 13, 14, 15, 16, 17, 18, 19, 20, 21, 22, 23, 24, 25, 26, 27, 28, 29, 30, 31, 32, 33, 34, 35, 36, 37, 38, 39, 40, 41, 42, 43, 44, 45, 46, 47, 48, 49, 50] [] 0 rfl rfl nd_0_1_2_3_4_5_6_7_8_9_10_11_12_13_14_15_16_17_18_19_20_21_22_23_24_25_26_27_28_29_30_31_32_33_34_35_36_37_38_39_40_41_42_43_44_45_46_47_48_49_50 rfl rfl rfl (by decide) (by decide) (Nat.le_of_ble_eq_true rfl) rfl ((zput_par nd_0_1_2_3_4_5_6_7_8_9_10_11_12_13_14_15_16_17_18_19_20_21_22_23_24_25_26_27_28_29_30_31_32_33_34_35_36_37_38_39_40_41_42_43_44_45_46_47_48_49_50 rfl).trans rfl) ?_
        refine z_iload C dL_inserts_128 rfl ?_
        refine z_icmp_ne_f C 143 dL_inserts_130 (by decide) rfl ?_
        refine z_aload_n C 0 dL_inserts_133 rfl rfl ?_
        refine z_iconst C (nI 0) dL_inserts_134 (by decide) ?_
        refine z_callVr C kX5_sum gL_inserts_X5_sum (l_smv X.2.1 x0 h0 w0 t S1 0 hG1 (by decide)) dL_inserts_135 [0, 1, 2, 3, 4, 5, 6, 7, 8] [] 0 rfl nd_0_1_2_3_4_5_6_7_8 rfl rfl rfl (by decide) (by decide) (Nat.le_of_ble_eq_true rfl) rfl ?_
        refine z_iload C dL_inserts_138 rfl ?_
        refine z_icmp_eq_t C 145 dL_inserts_140 (by decide) hsm ?_
        refine z_iload C dL_inserts_145 rfl ?_
        refine z_if_ge_f C 169 dL_inserts_147 (by decide) (by decide) ?_
        refine z_aload_n C 0 dL_inserts_150 rfl rfl ?_
        refine z_iconst C (nI 0) dL_inserts_151 (by decide) ?_
        refine z_iload_n C 2 dL_inserts_152 rfl rfl ?_
        refine z_callVr C kX5_size gL_inserts_X5_size (l_size0 X.2.1 x0 h0 w0 t S1 1 hG1 (by decide)) dL_inserts_153 [0, 1, 2, 3, 4, 5, 6, 7, 8] [] 0 rfl nd_0_1_2_3_4_5_6_7_8 rfl rfl rfl (by decide) (by decide) (Nat.le_of_ble_eq_true rfl) rfl ?_
        refine z_iload C dL_inserts_156 rfl ?_
        refine z_ncmp_ne_f C 165 dL_inserts_158 (by decide) (by omega) (by omega) (by omega) ?_
        refine z_iconst C (nI 1) dL_inserts_161 (by decide) ?_
        refine z_goto C 221 dL_inserts_162 (by decide) ?_
        exact z_zret C N dL_inserts_221 rfl (rfl) (rfl)

set_option maxHeartbeats 4000000 in
set_option maxRecDepth 100000 in
theorem w_ins1f (E : zE) (x0 h0 h1 w0 w1 : Nat) (t : Nat → Nat) (r : Nat → Nat → Nat) (S S1 : zSt) (o kp kp1 o1 : Nat) (Q Q1 : Nat → zSt) (tx : Nat → Nat) (ln : Nat) (ps : zPs) {B B1 : Nat} (au : Nat) (g : Int32) (hG : GG S B) (hG1 : GG S1 B1) (hau : au < 4) (hp : lw g (uU S 1 + 2) ≤ uU S 1) (hf : uU S 1 = 8) (hu : uU S1 1 = uU S 1) (hsm : smV S1 0 = smV S 0) (m1 : zM E yX5_insert wsX5_insert 6 [.ref x0, .int (nI au), .int (nI 1), .int (nI (lw g (uU S 1 + 2)))] (WAd E x0 h0 h1 w0 t r S o kp Q) (WAd E x0 h0 h1 w0 t r S1 o1 kp1 Q1) (some (.int (-3)))) : zM E yL_inserts wsL_inserts 7 [.ref x0, .int (nI au), .int (nI 1), .int g] (WRd E x0 h0 h1 w0 w1 t r S o kp Q tx ln ps) (WRd E x0 h0 h1 w0 w1 t r S1 o1 kp1 Q1 tx ln ps) (some (.int (nI 1))) := by
  refine zM.of kL_inserts (Nat.le_of_ble_eq_true rfl) rfl [some (.ref x0), some (.int (nI au)), some (.int (nI 1)), some (.int g), none, none, none, none, none, none, none] rfl (Nat.le_of_ble_eq_true rfl) ?_
  intro X eX C N
  subst eX
  have hb0 : uU S 0 ≤ 12 := gg_u hG 0
  have hb1 : uU S 1 ≤ 8 := gg_u1 hG
  have hb2 : mK S ≤ 60 := gg_M hG
  have hb3 : uU S1 0 ≤ 12 := gg_u hG1 0
  have hb4 : uU S1 1 ≤ 8 := gg_u1 hG1
  have hb5 : mK S1 ≤ 60 := gg_M hG1
  refine z_aload_n C 0 dL_inserts_0 rfl rfl ?_
  refine z_iconst C (nI 0) dL_inserts_1 (by decide) ?_
  refine z_iload_n C 2 dL_inserts_2 rfl rfl ?_
  refine z_callVr C kX5_size gL_inserts_X5_size (l_size0 X.2.1 x0 h0 w0 t S 1 hG (by decide)) dL_inserts_3 [0, 1, 2, 3, 4, 5, 6, 7, 8] [] 0 rfl nd_0_1_2_3_4_5_6_7_8 rfl rfl rfl (by decide) (by decide) (Nat.le_of_ble_eq_true rfl) rfl ?_
  refine z_istore C dL_inserts_6 (Nat.le_of_ble_eq_true rfl) ?_
  refine z_lv (lv' := [some (.ref x0), some (.int (nI au)), some (.int (nI 1)), some (.int g), some (.int (nI (uU S 1))), none, none, none, none, none, none]) rfl ?_
  refine z_iload_n C 3 dL_inserts_8 rfl rfl ?_
  refine z_iload C dL_inserts_9 rfl ?_
  refine z_iconst C (nI 2) dL_inserts_11 (by decide) ?_
  refine z_iadd C dL_inserts_12 ?_
  refine z_top (y := nI ((uU S 1) + 2)) (nI_add _ _) ?_
  refine z_callS C kL_low gL_inserts_L_low (l_low X.2.1 g ((uU S 1) + 2) (by omega) (by omega)) dL_inserts_13 [] rfl (by decide) (by decide) (Nat.le_of_ble_eq_true rfl) rfl ?_
  have hg_1 : lw g ((uU S 1) + 2) < ((uU S 1) + 2) := lw_lt g (by omega)
  refine z_istore C dL_inserts_16 (Nat.le_of_ble_eq_true rfl) ?_
  refine z_lv (lv' := [some (.ref x0), some (.int (nI au)), some (.int (nI 1)), some (.int g), some (.int (nI (uU S 1))), some (.int (nI (lw g ((uU S 1) + 2)))), none, none, none, none, none]) rfl ?_
  refine z_aload_n C 0 dL_inserts_18 rfl rfl ?_
  refine z_iconst C (nI 0) dL_inserts_19 (by decide) ?_
  refine z_callVr C kX5_count gL_inserts_X5_count (l_cnt0 X.2.1 x0 h0 h1 w0 w1 t S o kp ln ps  hG ) dL_inserts_20 [0, 1, 2, 3, 4, 5, 6, 7, 8, 9, 51] [] 0 rfl nd_0_1_2_3_4_5_6_7_8_9_51 rfl rfl rfl (by decide) (by decide) (Nat.le_of_ble_eq_true rfl) rfl ?_
  refine z_istore C dL_inserts_23 (Nat.le_of_ble_eq_true rfl) ?_
  refine z_lv (lv' := [some (.ref x0), some (.int (nI au)), some (.int (nI 1)), some (.int g), some (.int (nI (uU S 1))), some (.int (nI (lw g ((uU S 1) + 2)))), some (.int (nI (mK S))), none, none, none, none]) rfl ?_
  refine z_aload_n C 0 dL_inserts_25 rfl rfl ?_
  refine z_iconst C (nI 5) dL_inserts_26 (by decide) ?_
  refine z_callVr C kX5_count gL_inserts_X5_count (l_cnt5 X.2.1 x0 h0 h1 w0 w1 t S o kp ln ps  hG ) dL_inserts_27 [0, 1, 2, 3, 4, 5, 6, 7, 8, 9, 51] [] 0 rfl nd_0_1_2_3_4_5_6_7_8_9_51 rfl rfl rfl (by decide) (by decide) (Nat.le_of_ble_eq_true rfl) rfl ?_
  refine z_iconst C (nI 1) dL_inserts_30 (by decide) ?_
  refine z_icmp_ne C 38 dL_inserts_31 (by decide) (fun h_2 => ?_) (fun h_2 => ?_)
  · refine z_iconst C (nI 0) dL_inserts_38 (by decide) ?_
    refine z_istore C dL_inserts_39 (Nat.le_of_ble_eq_true rfl) ?_
    refine z_lv (lv' := [some (.ref x0), some (.int (nI au)), some (.int (nI 1)), some (.int g), some (.int (nI (uU S 1))), some (.int (nI (lw g ((uU S 1) + 2)))), some (.int (nI (mK S))), some (.int (nI 0)), none, none, none]) rfl ?_
    refine z_iload C dL_inserts_41 rfl ?_
    refine z_iload_n C 2 dL_inserts_43 rfl rfl ?_
    refine z_nif_ne_t C 52 dL_inserts_44 (by decide) (by omega) (by omega) ?_
    refine z_bipush C (nI 8) dL_inserts_52 (by decide) ?_
    refine z_ncmp_eq_t C 69 dL_inserts_54 (by decide) (by omega) (by omega) (by omega) ?_
    refine z_iconst C (nI 1) dL_inserts_69 (by decide) ?_
    refine z_goto C 74 dL_inserts_70 (by decide) ?_
    refine z_istore C dL_inserts_74 (Nat.le_of_ble_eq_true rfl) ?_
    refine z_lv (lv' := [some (.ref x0), some (.int (nI au)), some (.int (nI 1)), some (.int g), some (.int (nI (uU S 1))), some (.int (nI (lw g ((uU S 1) + 2)))), some (.int (nI (mK S))), some (.int (nI 0)), some (.int (nI 1)), none, none]) rfl ?_
    refine z_iload C dL_inserts_76 rfl ?_
    refine z_iload C dL_inserts_78 rfl ?_
    refine z_ncmp_le_t C 88 dL_inserts_80 (by decide) (by omega) (by omega) (by omega) ?_
    refine z_iload C dL_inserts_88 rfl ?_
    refine z_nif_eq_f C 98 dL_inserts_90 (by decide) (by omega) (by omega) ?_
    refine z_bipush C (-3) dL_inserts_93 (by decide) ?_
    refine z_goto C 111 dL_inserts_95 (by decide) ?_
    refine z_istore C dL_inserts_111 (Nat.le_of_ble_eq_true rfl) ?_
    refine z_lv (lv' := [some (.ref x0), some (.int (nI au)), some (.int (nI 1)), some (.int g), some (.int (nI (uU S 1))), some (.int (nI (lw g ((uU S 1) + 2)))), some (.int (nI (mK S))), some (.int (nI 0)), some (.int (nI 1)), some (.int (-3)), none]) rfl ?_
    refine z_aload_n C 0 dL_inserts_113 rfl rfl ?_
    refine z_iconst C (nI 0) dL_inserts_114 (by decide) ?_
    refine z_callVr C kX5_sum gL_inserts_X5_sum (l_smv X.2.1 x0 h0 w0 t S 0 hG (by decide)) dL_inserts_115 [0, 1, 2, 3, 4, 5, 6, 7, 8] [] 0 rfl nd_0_1_2_3_4_5_6_7_8 rfl rfl rfl (by decide) (by decide) (Nat.le_of_ble_eq_true rfl) rfl ?_
    refine z_istore C dL_inserts_118 (Nat.le_of_ble_eq_true rfl) ?_
    refine z_lv (lv' := [some (.ref x0), some (.int (nI au)), some (.int (nI 1)), some (.int g), some (.int (nI (uU S 1))), some (.int (nI (lw g ((uU S 1) + 2)))), some (.int (nI (mK S))), some (.int (nI 0)), some (.int (nI 1)), some (.int (-3)), some (.int (smV S 0))]) rfl ?_
    refine z_aload_n C 0 dL_inserts_120 rfl rfl ?_
    refine z_iload_n C 1 dL_inserts_121 rfl rfl ?_
    refine z_iload_n C 2 dL_inserts_122 rfl rfl ?_
    refine z_iload C dL_inserts_123 rfl ?_
    refine z_callV (wn := (WRd X.2.1 x0 h0 h1 w0 w1 t r S1 o1 kp1 Q1 tx ln ps)) C kX5_insert gL_inserts_X5_insert m1 dL_inserts_125 [0, 1, 2, 3, 4, 5, 6, 7, 8, 9, 10, 11, 12, 13, 14, 15, 16, 17, 18, 19, 20, 21, 22, 23, 24, 25, 26, 27, 28, 29, 30, 31, 32, 33, 34, 35, 36, 37, 38, 39, 40, 41, 42, 43, 44, 45, 46, 47, 48, 49, 50] [] 0 rfl rfl nd_0_1_2_3_4_5_6_7_8_9_10_11_12_13_14_15_16_17_18_19_20_21_22_23_24_25_26_27_28_29_30_31_32_33_34_35_36_37_38_39_40_41_42_43_44_45_46_47_48_49_50 rfl rfl rfl (by decide) (by decide) (Nat.le_of_ble_eq_true rfl) rfl ((zput_par nd_0_1_2_3_4_5_6_7_8_9_10_11_12_13_14_15_16_17_18_19_20_21_22_23_24_25_26_27_28_29_30_31_32_33_34_35_36_37_38_39_40_41_42_43_44_45_46_47_48_49_50 rfl).trans rfl) ?_
    refine z_iload C dL_inserts_128 rfl ?_
    refine z_icmp_ne_f C 143 dL_inserts_130 (by decide) rfl ?_
    refine z_aload_n C 0 dL_inserts_133 rfl rfl ?_
    refine z_iconst C (nI 0) dL_inserts_134 (by decide) ?_
    refine z_callVr C kX5_sum gL_inserts_X5_sum (l_smv X.2.1 x0 h0 w0 t S1 0 hG1 (by decide)) dL_inserts_135 [0, 1, 2, 3, 4, 5, 6, 7, 8] [] 0 rfl nd_0_1_2_3_4_5_6_7_8 rfl rfl rfl (by decide) (by decide) (Nat.le_of_ble_eq_true rfl) rfl ?_
    refine z_iload C dL_inserts_138 rfl ?_
    refine z_icmp_eq_t C 145 dL_inserts_140 (by decide) hsm ?_
    refine z_iload C dL_inserts_145 rfl ?_
    refine z_if_ge_f C 169 dL_inserts_147 (by decide) (by decide) ?_
    refine z_aload_n C 0 dL_inserts_150 rfl rfl ?_
    refine z_iconst C (nI 0) dL_inserts_151 (by decide) ?_
    refine z_iload_n C 2 dL_inserts_152 rfl rfl ?_
    refine z_callVr C kX5_size gL_inserts_X5_size (l_size0 X.2.1 x0 h0 w0 t S1 1 hG1 (by decide)) dL_inserts_153 [0, 1, 2, 3, 4, 5, 6, 7, 8] [] 0 rfl nd_0_1_2_3_4_5_6_7_8 rfl rfl rfl (by decide) (by decide) (Nat.le_of_ble_eq_true rfl) rfl ?_
    refine z_iload C dL_inserts_156 rfl ?_
    refine z_ncmp_ne_f C 165 dL_inserts_158 (by decide) (by omega) (by omega) (by omega) ?_
    refine z_iconst C (nI 1) dL_inserts_161 (by decide) ?_
    refine z_goto C 221 dL_inserts_162 (by decide) ?_
    exact z_zret C N dL_inserts_221 rfl (rfl) (rfl)
  · refine z_iconst C (nI 1) dL_inserts_34 (by decide) ?_
    refine z_goto C 39 dL_inserts_35 (by decide) ?_
    refine z_istore C dL_inserts_39 (Nat.le_of_ble_eq_true rfl) ?_
    refine z_lv (lv' := [some (.ref x0), some (.int (nI au)), some (.int (nI 1)), some (.int g), some (.int (nI (uU S 1))), some (.int (nI (lw g ((uU S 1) + 2)))), some (.int (nI (mK S))), some (.int (nI 1)), none, none, none]) rfl ?_
    refine z_iload C dL_inserts_41 rfl ?_
    refine z_iload_n C 2 dL_inserts_43 rfl rfl ?_
    refine z_nif_ne_t C 52 dL_inserts_44 (by decide) (by omega) (by omega) ?_
    refine z_bipush C (nI 8) dL_inserts_52 (by decide) ?_
    refine z_ncmp_eq_t C 69 dL_inserts_54 (by decide) (by omega) (by omega) (by omega) ?_
    refine z_iconst C (nI 1) dL_inserts_69 (by decide) ?_
    refine z_goto C 74 dL_inserts_70 (by decide) ?_
    refine z_istore C dL_inserts_74 (Nat.le_of_ble_eq_true rfl) ?_
    refine z_lv (lv' := [some (.ref x0), some (.int (nI au)), some (.int (nI 1)), some (.int g), some (.int (nI (uU S 1))), some (.int (nI (lw g ((uU S 1) + 2)))), some (.int (nI (mK S))), some (.int (nI 1)), some (.int (nI 1)), none, none]) rfl ?_
    refine z_iload C dL_inserts_76 rfl ?_
    refine z_iload C dL_inserts_78 rfl ?_
    refine z_ncmp_le_t C 88 dL_inserts_80 (by decide) (by omega) (by omega) (by omega) ?_
    refine z_iload C dL_inserts_88 rfl ?_
    refine z_nif_eq_f C 98 dL_inserts_90 (by decide) (by omega) (by omega) ?_
    refine z_bipush C (-3) dL_inserts_93 (by decide) ?_
    refine z_goto C 111 dL_inserts_95 (by decide) ?_
    refine z_istore C dL_inserts_111 (Nat.le_of_ble_eq_true rfl) ?_
    refine z_lv (lv' := [some (.ref x0), some (.int (nI au)), some (.int (nI 1)), some (.int g), some (.int (nI (uU S 1))), some (.int (nI (lw g ((uU S 1) + 2)))), some (.int (nI (mK S))), some (.int (nI 1)), some (.int (nI 1)), some (.int (-3)), none]) rfl ?_
    refine z_aload_n C 0 dL_inserts_113 rfl rfl ?_
    refine z_iconst C (nI 0) dL_inserts_114 (by decide) ?_
    refine z_callVr C kX5_sum gL_inserts_X5_sum (l_smv X.2.1 x0 h0 w0 t S 0 hG (by decide)) dL_inserts_115 [0, 1, 2, 3, 4, 5, 6, 7, 8] [] 0 rfl nd_0_1_2_3_4_5_6_7_8 rfl rfl rfl (by decide) (by decide) (Nat.le_of_ble_eq_true rfl) rfl ?_
    refine z_istore C dL_inserts_118 (Nat.le_of_ble_eq_true rfl) ?_
    refine z_lv (lv' := [some (.ref x0), some (.int (nI au)), some (.int (nI 1)), some (.int g), some (.int (nI (uU S 1))), some (.int (nI (lw g ((uU S 1) + 2)))), some (.int (nI (mK S))), some (.int (nI 1)), some (.int (nI 1)), some (.int (-3)), some (.int (smV S 0))]) rfl ?_
    refine z_aload_n C 0 dL_inserts_120 rfl rfl ?_
    refine z_iload_n C 1 dL_inserts_121 rfl rfl ?_
    refine z_iload_n C 2 dL_inserts_122 rfl rfl ?_
    refine z_iload C dL_inserts_123 rfl ?_
    refine z_callV (wn := (WRd X.2.1 x0 h0 h1 w0 w1 t r S1 o1 kp1 Q1 tx ln ps)) C kX5_insert gL_inserts_X5_insert m1 dL_inserts_125 [0, 1, 2, 3, 4, 5, 6, 7, 8, 9, 10, 11, 12, 13, 14, 15, 16, 17, 18, 19, 20, 21, 22, 23, 24, 25, 26, 27, 28, 29, 30, 31, 32, 33, 34, 35, 36, 37, 38, 39, 40, 41, 42, 43, 44, 45, 46, 47, 48, 49, 50] [] 0 rfl rfl nd_0_1_2_3_4_5_6_7_8_9_10_11_12_13_14_15_16_17_18_19_20_21_22_23_24_25_26_27_28_29_30_31_32_33_34_35_36_37_38_39_40_41_42_43_44_45_46_47_48_49_50 rfl rfl rfl (by decide) (by decide) (Nat.le_of_ble_eq_true rfl) rfl ((zput_par nd_0_1_2_3_4_5_6_7_8_9_10_11_12_13_14_15_16_17_18_19_20_21_22_23_24_25_26_27_28_29_30_31_32_33_34_35_36_37_38_39_40_41_42_43_44_45_46_47_48_49_50 rfl).trans rfl) ?_
    refine z_iload C dL_inserts_128 rfl ?_
    refine z_icmp_ne_f C 143 dL_inserts_130 (by decide) rfl ?_
    refine z_aload_n C 0 dL_inserts_133 rfl rfl ?_
    refine z_iconst C (nI 0) dL_inserts_134 (by decide) ?_
    refine z_callVr C kX5_sum gL_inserts_X5_sum (l_smv X.2.1 x0 h0 w0 t S1 0 hG1 (by decide)) dL_inserts_135 [0, 1, 2, 3, 4, 5, 6, 7, 8] [] 0 rfl nd_0_1_2_3_4_5_6_7_8 rfl rfl rfl (by decide) (by decide) (Nat.le_of_ble_eq_true rfl) rfl ?_
    refine z_iload C dL_inserts_138 rfl ?_
    refine z_icmp_eq_t C 145 dL_inserts_140 (by decide) hsm ?_
    refine z_iload C dL_inserts_145 rfl ?_
    refine z_if_ge_f C 169 dL_inserts_147 (by decide) (by decide) ?_
    refine z_aload_n C 0 dL_inserts_150 rfl rfl ?_
    refine z_iconst C (nI 0) dL_inserts_151 (by decide) ?_
    refine z_iload_n C 2 dL_inserts_152 rfl rfl ?_
    refine z_callVr C kX5_size gL_inserts_X5_size (l_size0 X.2.1 x0 h0 w0 t S1 1 hG1 (by decide)) dL_inserts_153 [0, 1, 2, 3, 4, 5, 6, 7, 8] [] 0 rfl nd_0_1_2_3_4_5_6_7_8 rfl rfl rfl (by decide) (by decide) (Nat.le_of_ble_eq_true rfl) rfl ?_
    refine z_iload C dL_inserts_156 rfl ?_
    refine z_ncmp_ne_f C 165 dL_inserts_158 (by decide) (by omega) (by omega) (by omega) ?_
    refine z_iconst C (nI 1) dL_inserts_161 (by decide) ?_
    refine z_goto C 221 dL_inserts_162 (by decide) ?_
    exact z_zret C N dL_inserts_221 rfl (rfl) (rfl)

set_option maxHeartbeats 4000000 in
set_option maxRecDepth 100000 in
theorem w_ins1g (E : zE) (x0 h0 h1 w0 w1 : Nat) (t : Nat → Nat) (r : Nat → Nat → Nat) (S S1 : zSt) (o kp kp1 o1 : Nat) (Q Q1 : Nat → zSt) (tx : Nat → Nat) (ln : Nat) (ps : zPs) {B B1 : Nat} (au : Nat) (g : Int32) (hG : GG S B) (hG1 : GG S1 B1) (hau : au < 4) (hp : lw g (uU S 1 + 2) ≤ uU S 1) (hf : uU S 1 < 8) (ht : tK S = true) (hm : mK S = 60) (hu : uU S1 1 = uU S 1) (hsm : smV S1 0 = smV S 0) (m1 : zM E yX5_insert wsX5_insert 6 [.ref x0, .int (nI au), .int (nI 1), .int (nI (lw g (uU S 1 + 2)))] (WAd E x0 h0 h1 w0 t r S o kp Q) (WAd E x0 h0 h1 w0 t r S1 o1 kp1 Q1) (some (.int (-3)))) : zM E yL_inserts wsL_inserts 7 [.ref x0, .int (nI au), .int (nI 1), .int g] (WRd E x0 h0 h1 w0 w1 t r S o kp Q tx ln ps) (WRd E x0 h0 h1 w0 w1 t r S1 o1 kp1 Q1 tx ln ps) (some (.int (nI 1))) := by
  refine zM.of kL_inserts (Nat.le_of_ble_eq_true rfl) rfl [some (.ref x0), some (.int (nI au)), some (.int (nI 1)), some (.int g), none, none, none, none, none, none, none] rfl (Nat.le_of_ble_eq_true rfl) ?_
  intro X eX C N
  subst eX
  have hb0 : uU S 0 ≤ 12 := gg_u hG 0
  have hb1 : uU S 1 ≤ 8 := gg_u1 hG
  have hb2 : mK S ≤ 60 := gg_M hG
  have hb3 : uU S1 0 ≤ 12 := gg_u hG1 0
  have hb4 : uU S1 1 ≤ 8 := gg_u1 hG1
  have hb5 : mK S1 ≤ 60 := gg_M hG1
  refine z_aload_n C 0 dL_inserts_0 rfl rfl ?_
  refine z_iconst C (nI 0) dL_inserts_1 (by decide) ?_
  refine z_iload_n C 2 dL_inserts_2 rfl rfl ?_
  refine z_callVr C kX5_size gL_inserts_X5_size (l_size0 X.2.1 x0 h0 w0 t S 1 hG (by decide)) dL_inserts_3 [0, 1, 2, 3, 4, 5, 6, 7, 8] [] 0 rfl nd_0_1_2_3_4_5_6_7_8 rfl rfl rfl (by decide) (by decide) (Nat.le_of_ble_eq_true rfl) rfl ?_
  refine z_istore C dL_inserts_6 (Nat.le_of_ble_eq_true rfl) ?_
  refine z_lv (lv' := [some (.ref x0), some (.int (nI au)), some (.int (nI 1)), some (.int g), some (.int (nI (uU S 1))), none, none, none, none, none, none]) rfl ?_
  refine z_iload_n C 3 dL_inserts_8 rfl rfl ?_
  refine z_iload C dL_inserts_9 rfl ?_
  refine z_iconst C (nI 2) dL_inserts_11 (by decide) ?_
  refine z_iadd C dL_inserts_12 ?_
  refine z_top (y := nI ((uU S 1) + 2)) (nI_add _ _) ?_
  refine z_callS C kL_low gL_inserts_L_low (l_low X.2.1 g ((uU S 1) + 2) (by omega) (by omega)) dL_inserts_13 [] rfl (by decide) (by decide) (Nat.le_of_ble_eq_true rfl) rfl ?_
  have hg_1 : lw g ((uU S 1) + 2) < ((uU S 1) + 2) := lw_lt g (by omega)
  refine z_istore C dL_inserts_16 (Nat.le_of_ble_eq_true rfl) ?_
  refine z_lv (lv' := [some (.ref x0), some (.int (nI au)), some (.int (nI 1)), some (.int g), some (.int (nI (uU S 1))), some (.int (nI (lw g ((uU S 1) + 2)))), none, none, none, none, none]) rfl ?_
  refine z_aload_n C 0 dL_inserts_18 rfl rfl ?_
  refine z_iconst C (nI 0) dL_inserts_19 (by decide) ?_
  refine z_callVr C kX5_count gL_inserts_X5_count (l_cnt0 X.2.1 x0 h0 h1 w0 w1 t S o kp ln ps  hG ) dL_inserts_20 [0, 1, 2, 3, 4, 5, 6, 7, 8, 9, 51] [] 0 rfl nd_0_1_2_3_4_5_6_7_8_9_51 rfl rfl rfl (by decide) (by decide) (Nat.le_of_ble_eq_true rfl) rfl ?_
  refine z_istore C dL_inserts_23 (Nat.le_of_ble_eq_true rfl) ?_
  refine z_lv (lv' := [some (.ref x0), some (.int (nI au)), some (.int (nI 1)), some (.int g), some (.int (nI (uU S 1))), some (.int (nI (lw g ((uU S 1) + 2)))), some (.int (nI (mK S))), none, none, none, none]) rfl ?_
  refine z_aload_n C 0 dL_inserts_25 rfl rfl ?_
  refine z_iconst C (nI 5) dL_inserts_26 (by decide) ?_
  refine z_callVr C kX5_count gL_inserts_X5_count (l_cnt5y X.2.1 x0 h0 h1 w0 w1 t S o kp ln ps  hG ht) dL_inserts_27 [0, 1, 2, 3, 4, 5, 6, 7, 8, 9, 51] [] 0 rfl nd_0_1_2_3_4_5_6_7_8_9_51 rfl rfl rfl (by decide) (by decide) (Nat.le_of_ble_eq_true rfl) rfl ?_
  refine z_iconst C (nI 1) dL_inserts_30 (by decide) ?_
  refine z_ncmp_ne_f C 38 dL_inserts_31 (by decide) (by omega) (by omega) (by omega) ?_
  refine z_iconst C (nI 1) dL_inserts_34 (by decide) ?_
  refine z_goto C 39 dL_inserts_35 (by decide) ?_
  refine z_istore C dL_inserts_39 (Nat.le_of_ble_eq_true rfl) ?_
  refine z_lv (lv' := [some (.ref x0), some (.int (nI au)), some (.int (nI 1)), some (.int g), some (.int (nI (uU S 1))), some (.int (nI (lw g ((uU S 1) + 2)))), some (.int (nI (mK S))), some (.int (nI 1)), none, none, none]) rfl ?_
  refine z_iload C dL_inserts_41 rfl ?_
  refine z_iload_n C 2 dL_inserts_43 rfl rfl ?_
  refine z_nif_ne_t C 52 dL_inserts_44 (by decide) (by omega) (by omega) ?_
  refine z_bipush C (nI 8) dL_inserts_52 (by decide) ?_
  refine z_ncmp_eq_f C 69 dL_inserts_54 (by decide) (by omega) (by omega) (by omega) ?_
  refine z_iload C dL_inserts_57 rfl ?_
  refine z_nif_eq_f C 73 dL_inserts_59 (by decide) (by omega) (by omega) ?_
  refine z_iload C dL_inserts_62 rfl ?_
  refine z_bipush C (nI 60) dL_inserts_64 (by decide) ?_
  refine z_ncmp_ne_f C 73 dL_inserts_66 (by decide) (by omega) (by omega) (by omega) ?_
  refine z_iconst C (nI 1) dL_inserts_69 (by decide) ?_
  refine z_goto C 74 dL_inserts_70 (by decide) ?_
  refine z_istore C dL_inserts_74 (Nat.le_of_ble_eq_true rfl) ?_
  refine z_lv (lv' := [some (.ref x0), some (.int (nI au)), some (.int (nI 1)), some (.int g), some (.int (nI (uU S 1))), some (.int (nI (lw g ((uU S 1) + 2)))), some (.int (nI (mK S))), some (.int (nI 1)), some (.int (nI 1)), none, none]) rfl ?_
  refine z_iload C dL_inserts_76 rfl ?_
  refine z_iload C dL_inserts_78 rfl ?_
  refine z_ncmp_le_t C 88 dL_inserts_80 (by decide) (by omega) (by omega) (by omega) ?_
  refine z_iload C dL_inserts_88 rfl ?_
  refine z_nif_eq_f C 98 dL_inserts_90 (by decide) (by omega) (by omega) ?_
  refine z_bipush C (-3) dL_inserts_93 (by decide) ?_
  refine z_goto C 111 dL_inserts_95 (by decide) ?_
  refine z_istore C dL_inserts_111 (Nat.le_of_ble_eq_true rfl) ?_
  refine z_lv (lv' := [some (.ref x0), some (.int (nI au)), some (.int (nI 1)), some (.int g), some (.int (nI (uU S 1))), some (.int (nI (lw g ((uU S 1) + 2)))), some (.int (nI (mK S))), some (.int (nI 1)), some (.int (nI 1)), some (.int (-3)), none]) rfl ?_
  refine z_aload_n C 0 dL_inserts_113 rfl rfl ?_
  refine z_iconst C (nI 0) dL_inserts_114 (by decide) ?_
  refine z_callVr C kX5_sum gL_inserts_X5_sum (l_smv X.2.1 x0 h0 w0 t S 0 hG (by decide)) dL_inserts_115 [0, 1, 2, 3, 4, 5, 6, 7, 8] [] 0 rfl nd_0_1_2_3_4_5_6_7_8 rfl rfl rfl (by decide) (by decide) (Nat.le_of_ble_eq_true rfl) rfl ?_
  refine z_istore C dL_inserts_118 (Nat.le_of_ble_eq_true rfl) ?_
  refine z_lv (lv' := [some (.ref x0), some (.int (nI au)), some (.int (nI 1)), some (.int g), some (.int (nI (uU S 1))), some (.int (nI (lw g ((uU S 1) + 2)))), some (.int (nI (mK S))), some (.int (nI 1)), some (.int (nI 1)), some (.int (-3)), some (.int (smV S 0))]) rfl ?_
  refine z_aload_n C 0 dL_inserts_120 rfl rfl ?_
  refine z_iload_n C 1 dL_inserts_121 rfl rfl ?_
  refine z_iload_n C 2 dL_inserts_122 rfl rfl ?_
  refine z_iload C dL_inserts_123 rfl ?_
  refine z_callV (wn := (WRd X.2.1 x0 h0 h1 w0 w1 t r S1 o1 kp1 Q1 tx ln ps)) C kX5_insert gL_inserts_X5_insert m1 dL_inserts_125 [0, 1, 2, 3, 4, 5, 6, 7, 8, 9, 10, 11, 12, 13, 14, 15, 16, 17, 18, 19, 20, 21, 22, 23, 24, 25, 26, 27, 28, 29, 30, 31, 32, 33, 34, 35, 36, 37, 38, 39, 40, 41, 42, 43, 44, 45, 46, 47, 48, 49, 50] [] 0 rfl rfl nd_0_1_2_3_4_5_6_7_8_9_10_11_12_13_14_15_16_17_18_19_20_21_22_23_24_25_26_27_28_29_30_31_32_33_34_35_36_37_38_39_40_41_42_43_44_45_46_47_48_49_50 rfl rfl rfl (by decide) (by decide) (Nat.le_of_ble_eq_true rfl) rfl ((zput_par nd_0_1_2_3_4_5_6_7_8_9_10_11_12_13_14_15_16_17_18_19_20_21_22_23_24_25_26_27_28_29_30_31_32_33_34_35_36_37_38_39_40_41_42_43_44_45_46_47_48_49_50 rfl).trans rfl) ?_
  refine z_iload C dL_inserts_128 rfl ?_
  refine z_icmp_ne_f C 143 dL_inserts_130 (by decide) rfl ?_
  refine z_aload_n C 0 dL_inserts_133 rfl rfl ?_
  refine z_iconst C (nI 0) dL_inserts_134 (by decide) ?_
  refine z_callVr C kX5_sum gL_inserts_X5_sum (l_smv X.2.1 x0 h0 w0 t S1 0 hG1 (by decide)) dL_inserts_135 [0, 1, 2, 3, 4, 5, 6, 7, 8] [] 0 rfl nd_0_1_2_3_4_5_6_7_8 rfl rfl rfl (by decide) (by decide) (Nat.le_of_ble_eq_true rfl) rfl ?_
  refine z_iload C dL_inserts_138 rfl ?_
  refine z_icmp_eq_t C 145 dL_inserts_140 (by decide) hsm ?_
  refine z_iload C dL_inserts_145 rfl ?_
  refine z_if_ge_f C 169 dL_inserts_147 (by decide) (by decide) ?_
  refine z_aload_n C 0 dL_inserts_150 rfl rfl ?_
  refine z_iconst C (nI 0) dL_inserts_151 (by decide) ?_
  refine z_iload_n C 2 dL_inserts_152 rfl rfl ?_
  refine z_callVr C kX5_size gL_inserts_X5_size (l_size0 X.2.1 x0 h0 w0 t S1 1 hG1 (by decide)) dL_inserts_153 [0, 1, 2, 3, 4, 5, 6, 7, 8] [] 0 rfl nd_0_1_2_3_4_5_6_7_8 rfl rfl rfl (by decide) (by decide) (Nat.le_of_ble_eq_true rfl) rfl ?_
  refine z_iload C dL_inserts_156 rfl ?_
  refine z_ncmp_ne_f C 165 dL_inserts_158 (by decide) (by omega) (by omega) (by omega) ?_
  refine z_iconst C (nI 1) dL_inserts_161 (by decide) ?_
  refine z_goto C 221 dL_inserts_162 (by decide) ?_
  exact z_zret C N dL_inserts_221 rfl (rfl) (rfl)

set_option maxHeartbeats 4000000 in
set_option maxRecDepth 100000 in
theorem w_ins1t (E : zE) (x0 h0 h1 w0 w1 : Nat) (t : Nat → Nat) (r : Nat → Nat → Nat) (S S1 : zSt) (o kp kp1 o1 : Nat) (Q Q1 : Nat → zSt) (tx : Nat → Nat) (ln : Nat) (ps : zPs) {B B1 : Nat} (au : Nat) (g : Int32) (hG : GG S B) (hG1 : GG S1 B1) (hau : au < 4) (hp : lw g (uU S 1 + 2) ≤ uU S 1) (hf : uU S 1 < 8) (ht : tK S = true) (hm : mK S < 60) (hu : uU S1 1 = uU S 1 + 1) (hN : Nw S1 1 (lw g (uU S 1 + 2)) = true) (hx : xI S1 1 (lw g (uU S 1 + 2)) = mK S) (hs : nSt S1 1 (lw g (uU S 1 + 2)) = 0) (hsm : smV S1 0 = smV S 0) (m1 : zM E yX5_insert wsX5_insert 6 [.ref x0, .int (nI au), .int (nI 1), .int (nI (lw g (uU S 1 + 2)))] (WAd E x0 h0 h1 w0 t r S o kp Q) (WAd E x0 h0 h1 w0 t r S1 o1 kp1 Q1) (some (.int (nI (mK S))))) : zM E yL_inserts wsL_inserts 7 [.ref x0, .int (nI au), .int (nI 1), .int g] (WRd E x0 h0 h1 w0 w1 t r S o kp Q tx ln ps) (WRd E x0 h0 h1 w0 w1 t r S1 o1 kp1 Q1 tx ln ps) (some (.int (nI 1))) := by
  refine zM.of kL_inserts (Nat.le_of_ble_eq_true rfl) rfl [some (.ref x0), some (.int (nI au)), some (.int (nI 1)), some (.int g), none, none, none, none, none, none, none] rfl (Nat.le_of_ble_eq_true rfl) ?_
  intro X eX C N
  subst eX
  have hb0 : uU S 0 ≤ 12 := gg_u hG 0
  have hb1 : uU S 1 ≤ 8 := gg_u1 hG
  have hb2 : mK S ≤ 60 := gg_M hG
  have hb3 : uU S1 0 ≤ 12 := gg_u hG1 0
  have hb4 : uU S1 1 ≤ 8 := gg_u1 hG1
  have hb5 : mK S1 ≤ 60 := gg_M hG1
  refine z_aload_n C 0 dL_inserts_0 rfl rfl ?_
  refine z_iconst C (nI 0) dL_inserts_1 (by decide) ?_
  refine z_iload_n C 2 dL_inserts_2 rfl rfl ?_
  refine z_callVr C kX5_size gL_inserts_X5_size (l_size0 X.2.1 x0 h0 w0 t S 1 hG (by decide)) dL_inserts_3 [0, 1, 2, 3, 4, 5, 6, 7, 8] [] 0 rfl nd_0_1_2_3_4_5_6_7_8 rfl rfl rfl (by decide) (by decide) (Nat.le_of_ble_eq_true rfl) rfl ?_
  refine z_istore C dL_inserts_6 (Nat.le_of_ble_eq_true rfl) ?_
  refine z_lv (lv' := [some (.ref x0), some (.int (nI au)), some (.int (nI 1)), some (.int g), some (.int (nI (uU S 1))), none, none, none, none, none, none]) rfl ?_
  refine z_iload_n C 3 dL_inserts_8 rfl rfl ?_
  refine z_iload C dL_inserts_9 rfl ?_
  refine z_iconst C (nI 2) dL_inserts_11 (by decide) ?_
  refine z_iadd C dL_inserts_12 ?_
  refine z_top (y := nI ((uU S 1) + 2)) (nI_add _ _) ?_
  refine z_callS C kL_low gL_inserts_L_low (l_low X.2.1 g ((uU S 1) + 2) (by omega) (by omega)) dL_inserts_13 [] rfl (by decide) (by decide) (Nat.le_of_ble_eq_true rfl) rfl ?_
  have hg_1 : lw g ((uU S 1) + 2) < ((uU S 1) + 2) := lw_lt g (by omega)
  refine z_istore C dL_inserts_16 (Nat.le_of_ble_eq_true rfl) ?_
  refine z_lv (lv' := [some (.ref x0), some (.int (nI au)), some (.int (nI 1)), some (.int g), some (.int (nI (uU S 1))), some (.int (nI (lw g ((uU S 1) + 2)))), none, none, none, none, none]) rfl ?_
  refine z_aload_n C 0 dL_inserts_18 rfl rfl ?_
  refine z_iconst C (nI 0) dL_inserts_19 (by decide) ?_
  refine z_callVr C kX5_count gL_inserts_X5_count (l_cnt0 X.2.1 x0 h0 h1 w0 w1 t S o kp ln ps  hG ) dL_inserts_20 [0, 1, 2, 3, 4, 5, 6, 7, 8, 9, 51] [] 0 rfl nd_0_1_2_3_4_5_6_7_8_9_51 rfl rfl rfl (by decide) (by decide) (Nat.le_of_ble_eq_true rfl) rfl ?_
  refine z_istore C dL_inserts_23 (Nat.le_of_ble_eq_true rfl) ?_
  refine z_lv (lv' := [some (.ref x0), some (.int (nI au)), some (.int (nI 1)), some (.int g), some (.int (nI (uU S 1))), some (.int (nI (lw g ((uU S 1) + 2)))), some (.int (nI (mK S))), none, none, none, none]) rfl ?_
  refine z_aload_n C 0 dL_inserts_25 rfl rfl ?_
  refine z_iconst C (nI 5) dL_inserts_26 (by decide) ?_
  refine z_callVr C kX5_count gL_inserts_X5_count (l_cnt5y X.2.1 x0 h0 h1 w0 w1 t S o kp ln ps  hG ht) dL_inserts_27 [0, 1, 2, 3, 4, 5, 6, 7, 8, 9, 51] [] 0 rfl nd_0_1_2_3_4_5_6_7_8_9_51 rfl rfl rfl (by decide) (by decide) (Nat.le_of_ble_eq_true rfl) rfl ?_
  refine z_iconst C (nI 1) dL_inserts_30 (by decide) ?_
  refine z_ncmp_ne_f C 38 dL_inserts_31 (by decide) (by omega) (by omega) (by omega) ?_
  refine z_iconst C (nI 1) dL_inserts_34 (by decide) ?_
  refine z_goto C 39 dL_inserts_35 (by decide) ?_
  refine z_istore C dL_inserts_39 (Nat.le_of_ble_eq_true rfl) ?_
  refine z_lv (lv' := [some (.ref x0), some (.int (nI au)), some (.int (nI 1)), some (.int g), some (.int (nI (uU S 1))), some (.int (nI (lw g ((uU S 1) + 2)))), some (.int (nI (mK S))), some (.int (nI 1)), none, none, none]) rfl ?_
  refine z_iload C dL_inserts_41 rfl ?_
  refine z_iload_n C 2 dL_inserts_43 rfl rfl ?_
  refine z_nif_ne_t C 52 dL_inserts_44 (by decide) (by omega) (by omega) ?_
  refine z_bipush C (nI 8) dL_inserts_52 (by decide) ?_
  refine z_ncmp_eq_f C 69 dL_inserts_54 (by decide) (by omega) (by omega) (by omega) ?_
  refine z_iload C dL_inserts_57 rfl ?_
  refine z_nif_eq_f C 73 dL_inserts_59 (by decide) (by omega) (by omega) ?_
  refine z_iload C dL_inserts_62 rfl ?_
  refine z_bipush C (nI 60) dL_inserts_64 (by decide) ?_
  refine z_ncmp_ne_t C 73 dL_inserts_66 (by decide) (by omega) (by omega) (by omega) ?_
  refine z_iconst C (nI 0) dL_inserts_73 (by decide) ?_
  refine z_istore C dL_inserts_74 (Nat.le_of_ble_eq_true rfl) ?_
  refine z_lv (lv' := [some (.ref x0), some (.int (nI au)), some (.int (nI 1)), some (.int g), some (.int (nI (uU S 1))), some (.int (nI (lw g ((uU S 1) + 2)))), some (.int (nI (mK S))), some (.int (nI 1)), some (.int (nI 0)), none, none]) rfl ?_
  refine z_iload C dL_inserts_76 rfl ?_
  refine z_iload C dL_inserts_78 rfl ?_
  refine z_ncmp_le_t C 88 dL_inserts_80 (by decide) (by omega) (by omega) (by omega) ?_
  refine z_iload C dL_inserts_88 rfl ?_
  refine z_nif_eq_t C 98 dL_inserts_90 (by decide) (by omega) (by omega) ?_
  refine z_iload C dL_inserts_98 rfl ?_
  refine z_nif_eq_f C 108 dL_inserts_100 (by decide) (by omega) (by omega) ?_
  refine z_iload C dL_inserts_103 rfl ?_
  refine z_goto C 111 dL_inserts_105 (by decide) ?_
  refine z_istore C dL_inserts_111 (Nat.le_of_ble_eq_true rfl) ?_
  refine z_lv (lv' := [some (.ref x0), some (.int (nI au)), some (.int (nI 1)), some (.int g), some (.int (nI (uU S 1))), some (.int (nI (lw g ((uU S 1) + 2)))), some (.int (nI (mK S))), some (.int (nI 1)), some (.int (nI 0)), some (.int (nI (mK S))), none]) rfl ?_
  refine z_aload_n C 0 dL_inserts_113 rfl rfl ?_
  refine z_iconst C (nI 0) dL_inserts_114 (by decide) ?_
  refine z_callVr C kX5_sum gL_inserts_X5_sum (l_smv X.2.1 x0 h0 w0 t S 0 hG (by decide)) dL_inserts_115 [0, 1, 2, 3, 4, 5, 6, 7, 8] [] 0 rfl nd_0_1_2_3_4_5_6_7_8 rfl rfl rfl (by decide) (by decide) (Nat.le_of_ble_eq_true rfl) rfl ?_
  refine z_istore C dL_inserts_118 (Nat.le_of_ble_eq_true rfl) ?_
  refine z_lv (lv' := [some (.ref x0), some (.int (nI au)), some (.int (nI 1)), some (.int g), some (.int (nI (uU S 1))), some (.int (nI (lw g ((uU S 1) + 2)))), some (.int (nI (mK S))), some (.int (nI 1)), some (.int (nI 0)), some (.int (nI (mK S))), some (.int (smV S 0))]) rfl ?_
  refine z_aload_n C 0 dL_inserts_120 rfl rfl ?_
  refine z_iload_n C 1 dL_inserts_121 rfl rfl ?_
  refine z_iload_n C 2 dL_inserts_122 rfl rfl ?_
  refine z_iload C dL_inserts_123 rfl ?_
  refine z_callV (wn := (WRd X.2.1 x0 h0 h1 w0 w1 t r S1 o1 kp1 Q1 tx ln ps)) C kX5_insert gL_inserts_X5_insert m1 dL_inserts_125 [0, 1, 2, 3, 4, 5, 6, 7, 8, 9, 10, 11, 12, 13, 14, 15, 16, 17, 18, 19, 20, 21, 22, 23, 24, 25, 26, 27, 28, 29, 30, 31, 32, 33, 34, 35, 36, 37, 38, 39, 40, 41, 42, 43, 44, 45, 46, 47, 48, 49, 50] [] 0 rfl rfl nd_0_1_2_3_4_5_6_7_8_9_10_11_12_13_14_15_16_17_18_19_20_21_22_23_24_25_26_27_28_29_30_31_32_33_34_35_36_37_38_39_40_41_42_43_44_45_46_47_48_49_50 rfl rfl rfl (by decide) (by decide) (Nat.le_of_ble_eq_true rfl) rfl ((zput_par nd_0_1_2_3_4_5_6_7_8_9_10_11_12_13_14_15_16_17_18_19_20_21_22_23_24_25_26_27_28_29_30_31_32_33_34_35_36_37_38_39_40_41_42_43_44_45_46_47_48_49_50 rfl).trans rfl) ?_
  refine z_iload C dL_inserts_128 rfl ?_
  refine z_ncmp_ne_f C 143 dL_inserts_130 (by decide) (by omega) (by omega) (by omega) ?_
  refine z_aload_n C 0 dL_inserts_133 rfl rfl ?_
  refine z_iconst C (nI 0) dL_inserts_134 (by decide) ?_
  refine z_callVr C kX5_sum gL_inserts_X5_sum (l_smv X.2.1 x0 h0 w0 t S1 0 hG1 (by decide)) dL_inserts_135 [0, 1, 2, 3, 4, 5, 6, 7, 8] [] 0 rfl nd_0_1_2_3_4_5_6_7_8 rfl rfl rfl (by decide) (by decide) (Nat.le_of_ble_eq_true rfl) rfl ?_
  refine z_iload C dL_inserts_138 rfl ?_
  refine z_icmp_eq_t C 145 dL_inserts_140 (by decide) hsm ?_
  refine z_iload C dL_inserts_145 rfl ?_
  refine z_nif_ge_t C 169 dL_inserts_147 (by decide) (by omega) (by trivial) ?_
  refine z_aload_n C 0 dL_inserts_169 rfl rfl ?_
  refine z_iconst C (nI 0) dL_inserts_170 (by decide) ?_
  refine z_iload_n C 2 dL_inserts_171 rfl rfl ?_
  refine z_callVr C kX5_size gL_inserts_X5_size (l_size0 X.2.1 x0 h0 w0 t S1 1 hG1 (by decide)) dL_inserts_172 [0, 1, 2, 3, 4, 5, 6, 7, 8] [] 0 rfl nd_0_1_2_3_4_5_6_7_8 rfl rfl rfl (by decide) (by decide) (Nat.le_of_ble_eq_true rfl) rfl ?_
  refine z_iload C dL_inserts_175 rfl ?_
  refine z_iconst C (nI 1) dL_inserts_177 (by decide) ?_
  refine z_iadd C dL_inserts_178 ?_
  refine z_top (y := nI ((uU S 1) + 1)) (nI_add _ _) ?_
  refine z_ncmp_ne_f C 220 dL_inserts_179 (by decide) (by omega) (by omega) (by omega) ?_
  refine z_aload_n C 0 dL_inserts_182 rfl rfl ?_
  refine z_iload_n C 2 dL_inserts_183 rfl rfl ?_
  refine z_iload C dL_inserts_184 rfl ?_
  refine z_iconst C (nI 0) dL_inserts_186 (by decide) ?_
  refine z_callVr C kX5_line gL_inserts_X5_line (l_line0y X.2.1 x0 h0 w0 t S1 1 (lw g ((uU S 1) + 2)) hG1 (by decide) (by omega) hN) dL_inserts_187 [0, 1, 2, 3, 4, 5, 6, 7, 8] [] 0 rfl nd_0_1_2_3_4_5_6_7_8 rfl rfl rfl (by decide) (by decide) (Nat.le_of_ble_eq_true rfl) rfl ?_
  refine z_iload C dL_inserts_190 rfl ?_
  refine z_nif_eq_f C 200 dL_inserts_192 (by decide) (by omega) (by omega) ?_
  refine z_iload C dL_inserts_195 rfl ?_
  refine z_goto C 202 dL_inserts_197 (by decide) ?_
  refine z_ncmp_ne_f C 220 dL_inserts_202 (by decide) (by omega) (by omega) (by omega) ?_
  refine z_aload_n C 0 dL_inserts_205 rfl rfl ?_
  refine z_iload_n C 2 dL_inserts_206 rfl rfl ?_
  refine z_iload C dL_inserts_207 rfl ?_
  refine z_iconst C (nI 4) dL_inserts_209 (by decide) ?_
  refine z_callVr C kX5_line gL_inserts_X5_line (l_line4 X.2.1 x0 h0 w0 t S1 1 (lw g ((uU S 1) + 2)) hG1 (by decide) (by omega)) dL_inserts_210 [0, 1, 2, 3, 4, 5, 6, 7, 8] [] 0 rfl nd_0_1_2_3_4_5_6_7_8 rfl rfl rfl (by decide) (by decide) (Nat.le_of_ble_eq_true rfl) rfl ?_
  refine z_nif_ne_f C 220 dL_inserts_213 (by decide) (by omega) (by omega) ?_
  refine z_iconst C (nI 1) dL_inserts_216 (by decide) ?_
  refine z_goto C 221 dL_inserts_217 (by decide) ?_
  exact z_zret C N dL_inserts_221 rfl (rfl) (rfl)

set_option maxHeartbeats 4000000 in
set_option maxRecDepth 100000 in
theorem w_ins1u (E : zE) (x0 h0 h1 w0 w1 : Nat) (t : Nat → Nat) (r : Nat → Nat → Nat) (S S1 : zSt) (o kp kp1 o1 : Nat) (Q Q1 : Nat → zSt) (tx : Nat → Nat) (ln : Nat) (ps : zPs) {B B1 : Nat} (au : Nat) (g : Int32) (hG : GG S B) (hG1 : GG S1 B1) (hau : au < 4) (hp : lw g (uU S 1 + 2) ≤ uU S 1) (hf : uU S 1 < 8) (ht : tK S = false) (hu : uU S1 1 = uU S 1 + 1) (hN : Nw S1 1 (lw g (uU S 1 + 2)) = false) (hs : nSt S1 1 (lw g (uU S 1 + 2)) = 0) (hsm : smV S1 0 = smV S 0) (m1 : zM E yX5_insert wsX5_insert 6 [.ref x0, .int (nI au), .int (nI 1), .int (nI (lw g (uU S 1 + 2)))] (WAd E x0 h0 h1 w0 t r S o kp Q) (WAd E x0 h0 h1 w0 t r S1 o1 kp1 Q1) (some (.int (nI 1000)))) : zM E yL_inserts wsL_inserts 7 [.ref x0, .int (nI au), .int (nI 1), .int g] (WRd E x0 h0 h1 w0 w1 t r S o kp Q tx ln ps) (WRd E x0 h0 h1 w0 w1 t r S1 o1 kp1 Q1 tx ln ps) (some (.int (nI 1))) := by
  refine zM.of kL_inserts (Nat.le_of_ble_eq_true rfl) rfl [some (.ref x0), some (.int (nI au)), some (.int (nI 1)), some (.int g), none, none, none, none, none, none, none] rfl (Nat.le_of_ble_eq_true rfl) ?_
  intro X eX C N
  subst eX
  have hb0 : uU S 0 ≤ 12 := gg_u hG 0
  have hb1 : uU S 1 ≤ 8 := gg_u1 hG
  have hb2 : mK S ≤ 60 := gg_M hG
  have hb3 : uU S1 0 ≤ 12 := gg_u hG1 0
  have hb4 : uU S1 1 ≤ 8 := gg_u1 hG1
  have hb5 : mK S1 ≤ 60 := gg_M hG1
  refine z_aload_n C 0 dL_inserts_0 rfl rfl ?_
  refine z_iconst C (nI 0) dL_inserts_1 (by decide) ?_
  refine z_iload_n C 2 dL_inserts_2 rfl rfl ?_
  refine z_callVr C kX5_size gL_inserts_X5_size (l_size0 X.2.1 x0 h0 w0 t S 1 hG (by decide)) dL_inserts_3 [0, 1, 2, 3, 4, 5, 6, 7, 8] [] 0 rfl nd_0_1_2_3_4_5_6_7_8 rfl rfl rfl (by decide) (by decide) (Nat.le_of_ble_eq_true rfl) rfl ?_
  refine z_istore C dL_inserts_6 (Nat.le_of_ble_eq_true rfl) ?_
  refine z_lv (lv' := [some (.ref x0), some (.int (nI au)), some (.int (nI 1)), some (.int g), some (.int (nI (uU S 1))), none, none, none, none, none, none]) rfl ?_
  refine z_iload_n C 3 dL_inserts_8 rfl rfl ?_
  refine z_iload C dL_inserts_9 rfl ?_
  refine z_iconst C (nI 2) dL_inserts_11 (by decide) ?_
  refine z_iadd C dL_inserts_12 ?_
  refine z_top (y := nI ((uU S 1) + 2)) (nI_add _ _) ?_
  refine z_callS C kL_low gL_inserts_L_low (l_low X.2.1 g ((uU S 1) + 2) (by omega) (by omega)) dL_inserts_13 [] rfl (by decide) (by decide) (Nat.le_of_ble_eq_true rfl) rfl ?_
  have hg_1 : lw g ((uU S 1) + 2) < ((uU S 1) + 2) := lw_lt g (by omega)
  refine z_istore C dL_inserts_16 (Nat.le_of_ble_eq_true rfl) ?_
  refine z_lv (lv' := [some (.ref x0), some (.int (nI au)), some (.int (nI 1)), some (.int g), some (.int (nI (uU S 1))), some (.int (nI (lw g ((uU S 1) + 2)))), none, none, none, none, none]) rfl ?_
  refine z_aload_n C 0 dL_inserts_18 rfl rfl ?_
  refine z_iconst C (nI 0) dL_inserts_19 (by decide) ?_
  refine z_callVr C kX5_count gL_inserts_X5_count (l_cnt0 X.2.1 x0 h0 h1 w0 w1 t S o kp ln ps  hG ) dL_inserts_20 [0, 1, 2, 3, 4, 5, 6, 7, 8, 9, 51] [] 0 rfl nd_0_1_2_3_4_5_6_7_8_9_51 rfl rfl rfl (by decide) (by decide) (Nat.le_of_ble_eq_true rfl) rfl ?_
  refine z_istore C dL_inserts_23 (Nat.le_of_ble_eq_true rfl) ?_
  refine z_lv (lv' := [some (.ref x0), some (.int (nI au)), some (.int (nI 1)), some (.int g), some (.int (nI (uU S 1))), some (.int (nI (lw g ((uU S 1) + 2)))), some (.int (nI (mK S))), none, none, none, none]) rfl ?_
  refine z_aload_n C 0 dL_inserts_25 rfl rfl ?_
  refine z_iconst C (nI 5) dL_inserts_26 (by decide) ?_
  refine z_callVr C kX5_count gL_inserts_X5_count (l_cnt5n X.2.1 x0 h0 h1 w0 w1 t S o kp ln ps  hG ht) dL_inserts_27 [0, 1, 2, 3, 4, 5, 6, 7, 8, 9, 51] [] 0 rfl nd_0_1_2_3_4_5_6_7_8_9_51 rfl rfl rfl (by decide) (by decide) (Nat.le_of_ble_eq_true rfl) rfl ?_
  refine z_iconst C (nI 1) dL_inserts_30 (by decide) ?_
  refine z_ncmp_ne_t C 38 dL_inserts_31 (by decide) (by omega) (by omega) (by omega) ?_
  refine z_iconst C (nI 0) dL_inserts_38 (by decide) ?_
  refine z_istore C dL_inserts_39 (Nat.le_of_ble_eq_true rfl) ?_
  refine z_lv (lv' := [some (.ref x0), some (.int (nI au)), some (.int (nI 1)), some (.int g), some (.int (nI (uU S 1))), some (.int (nI (lw g ((uU S 1) + 2)))), some (.int (nI (mK S))), some (.int (nI 0)), none, none, none]) rfl ?_
  refine z_iload C dL_inserts_41 rfl ?_
  refine z_iload_n C 2 dL_inserts_43 rfl rfl ?_
  refine z_nif_ne_t C 52 dL_inserts_44 (by decide) (by omega) (by omega) ?_
  refine z_bipush C (nI 8) dL_inserts_52 (by decide) ?_
  refine z_ncmp_eq_f C 69 dL_inserts_54 (by decide) (by omega) (by omega) (by omega) ?_
  refine z_iload C dL_inserts_57 rfl ?_
  refine z_nif_eq_t C 73 dL_inserts_59 (by decide) (by omega) (by omega) ?_
  refine z_iconst C (nI 0) dL_inserts_73 (by decide) ?_
  refine z_istore C dL_inserts_74 (Nat.le_of_ble_eq_true rfl) ?_
  refine z_lv (lv' := [some (.ref x0), some (.int (nI au)), some (.int (nI 1)), some (.int g), some (.int (nI (uU S 1))), some (.int (nI (lw g ((uU S 1) + 2)))), some (.int (nI (mK S))), some (.int (nI 0)), some (.int (nI 0)), none, none]) rfl ?_
  refine z_iload C dL_inserts_76 rfl ?_
  refine z_iload C dL_inserts_78 rfl ?_
  refine z_ncmp_le_t C 88 dL_inserts_80 (by decide) (by omega) (by omega) (by omega) ?_
  refine z_iload C dL_inserts_88 rfl ?_
  refine z_nif_eq_t C 98 dL_inserts_90 (by decide) (by omega) (by omega) ?_
  refine z_iload C dL_inserts_98 rfl ?_
  refine z_nif_eq_t C 108 dL_inserts_100 (by decide) (by omega) (by omega) ?_
  refine z_sipush C (nI 1000) dL_inserts_108 (by decide) ?_
  refine z_istore C dL_inserts_111 (Nat.le_of_ble_eq_true rfl) ?_
  refine z_lv (lv' := [some (.ref x0), some (.int (nI au)), some (.int (nI 1)), some (.int g), some (.int (nI (uU S 1))), some (.int (nI (lw g ((uU S 1) + 2)))), some (.int (nI (mK S))), some (.int (nI 0)), some (.int (nI 0)), some (.int (nI 1000)), none]) rfl ?_
  refine z_aload_n C 0 dL_inserts_113 rfl rfl ?_
  refine z_iconst C (nI 0) dL_inserts_114 (by decide) ?_
  refine z_callVr C kX5_sum gL_inserts_X5_sum (l_smv X.2.1 x0 h0 w0 t S 0 hG (by decide)) dL_inserts_115 [0, 1, 2, 3, 4, 5, 6, 7, 8] [] 0 rfl nd_0_1_2_3_4_5_6_7_8 rfl rfl rfl (by decide) (by decide) (Nat.le_of_ble_eq_true rfl) rfl ?_
  refine z_istore C dL_inserts_118 (Nat.le_of_ble_eq_true rfl) ?_
  refine z_lv (lv' := [some (.ref x0), some (.int (nI au)), some (.int (nI 1)), some (.int g), some (.int (nI (uU S 1))), some (.int (nI (lw g ((uU S 1) + 2)))), some (.int (nI (mK S))), some (.int (nI 0)), some (.int (nI 0)), some (.int (nI 1000)), some (.int (smV S 0))]) rfl ?_
  refine z_aload_n C 0 dL_inserts_120 rfl rfl ?_
  refine z_iload_n C 1 dL_inserts_121 rfl rfl ?_
  refine z_iload_n C 2 dL_inserts_122 rfl rfl ?_
  refine z_iload C dL_inserts_123 rfl ?_
  refine z_callV (wn := (WRd X.2.1 x0 h0 h1 w0 w1 t r S1 o1 kp1 Q1 tx ln ps)) C kX5_insert gL_inserts_X5_insert m1 dL_inserts_125 [0, 1, 2, 3, 4, 5, 6, 7, 8, 9, 10, 11, 12, 13, 14, 15, 16, 17, 18, 19, 20, 21, 22, 23, 24, 25, 26, 27, 28, 29, 30, 31, 32, 33, 34, 35, 36, 37, 38, 39, 40, 41, 42, 43, 44, 45, 46, 47, 48, 49, 50] [] 0 rfl rfl nd_0_1_2_3_4_5_6_7_8_9_10_11_12_13_14_15_16_17_18_19_20_21_22_23_24_25_26_27_28_29_30_31_32_33_34_35_36_37_38_39_40_41_42_43_44_45_46_47_48_49_50 rfl rfl rfl (by decide) (by decide) (Nat.le_of_ble_eq_true rfl) rfl ((zput_par nd_0_1_2_3_4_5_6_7_8_9_10_11_12_13_14_15_16_17_18_19_20_21_22_23_24_25_26_27_28_29_30_31_32_33_34_35_36_37_38_39_40_41_42_43_44_45_46_47_48_49_50 rfl).trans rfl) ?_
  refine z_iload C dL_inserts_128 rfl ?_
  refine z_ncmp_ne_f C 143 dL_inserts_130 (by decide) (by omega) (by omega) (by omega) ?_
  refine z_aload_n C 0 dL_inserts_133 rfl rfl ?_
  refine z_iconst C (nI 0) dL_inserts_134 (by decide) ?_
  refine z_callVr C kX5_sum gL_inserts_X5_sum (l_smv X.2.1 x0 h0 w0 t S1 0 hG1 (by decide)) dL_inserts_135 [0, 1, 2, 3, 4, 5, 6, 7, 8] [] 0 rfl nd_0_1_2_3_4_5_6_7_8 rfl rfl rfl (by decide) (by decide) (Nat.le_of_ble_eq_true rfl) rfl ?_
  refine z_iload C dL_inserts_138 rfl ?_
  refine z_icmp_eq_t C 145 dL_inserts_140 (by decide) hsm ?_
  refine z_iload C dL_inserts_145 rfl ?_
  refine z_nif_ge_t C 169 dL_inserts_147 (by decide) (by omega) (by trivial) ?_
  refine z_aload_n C 0 dL_inserts_169 rfl rfl ?_
  refine z_iconst C (nI 0) dL_inserts_170 (by decide) ?_
  refine z_iload_n C 2 dL_inserts_171 rfl rfl ?_
  refine z_callVr C kX5_size gL_inserts_X5_size (l_size0 X.2.1 x0 h0 w0 t S1 1 hG1 (by decide)) dL_inserts_172 [0, 1, 2, 3, 4, 5, 6, 7, 8] [] 0 rfl nd_0_1_2_3_4_5_6_7_8 rfl rfl rfl (by decide) (by decide) (Nat.le_of_ble_eq_true rfl) rfl ?_
  refine z_iload C dL_inserts_175 rfl ?_
  refine z_iconst C (nI 1) dL_inserts_177 (by decide) ?_
  refine z_iadd C dL_inserts_178 ?_
  refine z_top (y := nI ((uU S 1) + 1)) (nI_add _ _) ?_
  refine z_ncmp_ne_f C 220 dL_inserts_179 (by decide) (by omega) (by omega) (by omega) ?_
  refine z_aload_n C 0 dL_inserts_182 rfl rfl ?_
  refine z_iload_n C 2 dL_inserts_183 rfl rfl ?_
  refine z_iload C dL_inserts_184 rfl ?_
  refine z_iconst C (nI 0) dL_inserts_186 (by decide) ?_
  refine z_callVr C kX5_line gL_inserts_X5_line (l_line0n X.2.1 x0 h0 w0 t S1 1 (lw g ((uU S 1) + 2)) hG1 (by decide) (by omega) hN) dL_inserts_187 [0, 1, 2, 3, 4, 5, 6, 7, 8] [] 0 rfl nd_0_1_2_3_4_5_6_7_8 rfl rfl rfl (by decide) (by decide) (Nat.le_of_ble_eq_true rfl) rfl ?_
  refine z_iload C dL_inserts_190 rfl ?_
  refine z_nif_eq_t C 200 dL_inserts_192 (by decide) (by omega) (by omega) ?_
  refine z_bipush C (-5) dL_inserts_200 (by decide) ?_
  refine z_icmp_ne_f C 220 dL_inserts_202 (by decide) rfl ?_
  refine z_aload_n C 0 dL_inserts_205 rfl rfl ?_
  refine z_iload_n C 2 dL_inserts_206 rfl rfl ?_
  refine z_iload C dL_inserts_207 rfl ?_
  refine z_iconst C (nI 4) dL_inserts_209 (by decide) ?_
  refine z_callVr C kX5_line gL_inserts_X5_line (l_line4 X.2.1 x0 h0 w0 t S1 1 (lw g ((uU S 1) + 2)) hG1 (by decide) (by omega)) dL_inserts_210 [0, 1, 2, 3, 4, 5, 6, 7, 8] [] 0 rfl nd_0_1_2_3_4_5_6_7_8 rfl rfl rfl (by decide) (by decide) (Nat.le_of_ble_eq_true rfl) rfl ?_
  refine z_nif_ne_f C 220 dL_inserts_213 (by decide) (by omega) (by omega) ?_
  refine z_iconst C (nI 1) dL_inserts_216 (by decide) ?_
  refine z_goto C 221 dL_inserts_217 (by decide) ?_
  exact z_zret C N dL_inserts_221 rfl (rfl) (rfl)
