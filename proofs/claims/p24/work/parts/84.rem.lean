set_option maxHeartbeats 4000000 in
set_option maxRecDepth 100000 in
theorem w_rem0z (E : zE) (x0 h0 h1 w0 w1 : Nat) (t : Nat → Nat) (r : Nat → Nat → Nat) (S S1 : zSt) (o kp kp1 o1 : Nat) (Q Q1 : Nat → zSt) (tx : Nat → Nat) (ln : Nat) (ps : zPs) {B B1 : Nat} (au : Nat) (g : Int32) (hG : GG S B) (hG1 : GG S1 B1) (hau : au < 4) (hz : uU S 0 = 0) (m1 : zM E yX5_remove wsX5_remove 6 [.ref x0, .int (nI au), .int (nI 0), .int (nI 0)] (WAd E x0 h0 h1 w0 t r S o kp Q) (WAd E x0 h0 h1 w0 t r S1 o1 kp1 Q1) (some (.int (-1)))) : zM E yL_removes wsL_removes 7 [.ref x0, .int (nI au), .int (nI 0), .int g] (WRd E x0 h0 h1 w0 w1 t r S o kp Q tx ln ps) (WRd E x0 h0 h1 w0 w1 t r S1 o1 kp1 Q1 tx ln ps) (some (.int (nI 1))) := by
  refine zM.of kL_removes (Nat.le_of_ble_eq_true rfl) rfl [some (.ref x0), some (.int (nI au)), some (.int (nI 0)), some (.int g), none, none, none, none, none, none, none, none, none, none] rfl (Nat.le_of_ble_eq_true rfl) ?_
  intro X eX C N
  subst eX
  have hb0 : uU S 0 ≤ 12 := gg_u hG 0
  have hb1 : uU S 1 ≤ 8 := gg_u1 hG
  have hb2 : mK S ≤ 60 := gg_M hG
  have hb3 : uU S1 0 ≤ 12 := gg_u hG1 0
  have hb4 : uU S1 1 ≤ 8 := gg_u1 hG1
  have hb5 : mK S1 ≤ 60 := gg_M hG1
  refine z_aload_n C 0 dL_removes_0 rfl rfl ?_
  refine z_iconst C (nI 0) dL_removes_1 (by decide) ?_
  refine z_iload_n C 2 dL_removes_2 rfl rfl ?_
  refine z_callVr C kX5_size gL_removes_X5_size (l_size0 X.2.1 x0 h0 w0 t S 0 hG (by decide)) dL_removes_3 [0, 1, 2, 3, 4, 5, 6, 7, 8] [] 0 rfl nd_0_1_2_3_4_5_6_7_8 rfl rfl rfl (by decide) (by decide) (Nat.le_of_ble_eq_true rfl) rfl ?_
  refine z_istore C dL_removes_6 (Nat.le_of_ble_eq_true rfl) ?_
  refine z_lv (lv' := [some (.ref x0), some (.int (nI au)), some (.int (nI 0)), some (.int g), some (.int (nI (uU S 0))), none, none, none, none, none, none, none, none, none]) rfl ?_
  refine z_iload C dL_removes_8 rfl ?_
  refine z_nif_ne_f C 30 dL_removes_10 (by decide) (by omega) (by omega) ?_
  refine z_aload_n C 0 dL_removes_13 rfl rfl ?_
  refine z_iload_n C 1 dL_removes_14 rfl rfl ?_
  refine z_iload_n C 2 dL_removes_15 rfl rfl ?_
  refine z_iconst C (nI 0) dL_removes_16 (by decide) ?_
  refine z_callV (wn := (WRd X.2.1 x0 h0 h1 w0 w1 t r S1 o1 kp1 Q1 tx ln ps)) C kX5_remove gL_removes_X5_remove m1 dL_removes_17 [0, 1, 2, 3, 4, 5, 6, 7, 8, 9, 10, 11, 12, 13, 14, 15, 16, 17, 18, 19, 20, 21, 22, 23, 24, 25, 26, 27, 28, 29, 30, 31, 32, 33, 34, 35, 36, 37, 38, 39, 40, 41, 42, 43, 44, 45, 46, 47, 48, 49, 50] [] 0 rfl rfl nd_0_1_2_3_4_5_6_7_8_9_10_11_12_13_14_15_16_17_18_19_20_21_22_23_24_25_26_27_28_29_30_31_32_33_34_35_36_37_38_39_40_41_42_43_44_45_46_47_48_49_50 rfl rfl rfl (by decide) (by decide) (Nat.le_of_ble_eq_true rfl) rfl ((zput_par nd_0_1_2_3_4_5_6_7_8_9_10_11_12_13_14_15_16_17_18_19_20_21_22_23_24_25_26_27_28_29_30_31_32_33_34_35_36_37_38_39_40_41_42_43_44_45_46_47_48_49_50 rfl).trans rfl) ?_
  refine z_iconst C (-1) dL_removes_20 (by decide) ?_
  refine z_icmp_ne_f C 28 dL_removes_21 (by decide) rfl ?_
  refine z_iconst C (nI 1) dL_removes_24 (by decide) ?_
  refine z_goto C 29 dL_removes_25 (by decide) ?_
  exact z_zret C N dL_removes_29 rfl (rfl) (rfl)

set_option maxHeartbeats 4000000 in
set_option maxRecDepth 100000 in
theorem w_rem0u00 (E : zE) (x0 h0 h1 w0 w1 : Nat) (t : Nat → Nat) (r : Nat → Nat → Nat) (S S1 : zSt) (o kp kp1 o1 : Nat) (Q Q1 : Nat → zSt) (tx : Nat → Nat) (ln : Nat) (ps : zPs) {B B1 : Nat} (au : Nat) (g : Int32) (hG : GG S B) (hG1 : GG S1 B1) (hau : au < 4) (hz : 0 < uU S 0) (hN : Nw S 0 (lw g (uU S 0)) = false) (hD : Dm S 0 (lw g (uU S 0)) = false) (ht : tK S = false) (hu : uU S1 0 + 1 = uU S 0) (hc : cnS S1 3 = cnS S 3 + nSt S 0 (lw g (uU S 0))) (hc6 : cnS S1 3 ≤ 60) (m1 : zM E yX5_remove wsX5_remove 6 [.ref x0, .int (nI au), .int (nI 0), .int (nI (lw g (uU S 0)))] (WAd E x0 h0 h1 w0 t r S o kp Q) (WAd E x0 h0 h1 w0 t r S1 o1 kp1 Q1) (some (.int (nI 1000)))) : zM E yL_removes wsL_removes 7 [.ref x0, .int (nI au), .int (nI 0), .int g] (WRd E x0 h0 h1 w0 w1 t r S o kp Q tx ln ps) (WRd E x0 h0 h1 w0 w1 t r S1 o1 kp1 Q1 tx ln ps) (some (.int (nI 1))) := by
  refine zM.of kL_removes (Nat.le_of_ble_eq_true rfl) rfl [some (.ref x0), some (.int (nI au)), some (.int (nI 0)), some (.int g), none, none, none, none, none, none, none, none, none, none] rfl (Nat.le_of_ble_eq_true rfl) ?_
  intro X eX C N
  subst eX
  have hb0 : uU S 0 ≤ 12 := gg_u hG 0
  have hb1 : uU S 1 ≤ 8 := gg_u1 hG
  have hb2 : mK S ≤ 60 := gg_M hG
  have hb3 : uU S1 0 ≤ 12 := gg_u hG1 0
  have hb4 : uU S1 1 ≤ 8 := gg_u1 hG1
  have hb5 : mK S1 ≤ 60 := gg_M hG1
  refine z_aload_n C 0 dL_removes_0 rfl rfl ?_
  refine z_iconst C (nI 0) dL_removes_1 (by decide) ?_
  refine z_iload_n C 2 dL_removes_2 rfl rfl ?_
  refine z_callVr C kX5_size gL_removes_X5_size (l_size0 X.2.1 x0 h0 w0 t S 0 hG (by decide)) dL_removes_3 [0, 1, 2, 3, 4, 5, 6, 7, 8] [] 0 rfl nd_0_1_2_3_4_5_6_7_8 rfl rfl rfl (by decide) (by decide) (Nat.le_of_ble_eq_true rfl) rfl ?_
  refine z_istore C dL_removes_6 (Nat.le_of_ble_eq_true rfl) ?_
  refine z_lv (lv' := [some (.ref x0), some (.int (nI au)), some (.int (nI 0)), some (.int g), some (.int (nI (uU S 0))), none, none, none, none, none, none, none, none, none]) rfl ?_
  refine z_iload C dL_removes_8 rfl ?_
  refine z_nif_ne_t C 30 dL_removes_10 (by decide) (by omega) (by omega) ?_
  refine z_iload_n C 3 dL_removes_30 rfl rfl ?_
  refine z_iload C dL_removes_31 rfl ?_
  refine z_callS C kL_low gL_removes_L_low (l_low X.2.1 g (uU S 0) hz (by omega)) dL_removes_33 [] rfl (by decide) (by decide) (Nat.le_of_ble_eq_true rfl) rfl ?_
  have hg_1 : lw g (uU S 0) < (uU S 0) := lw_lt g (by omega)
  refine z_istore C dL_removes_36 (Nat.le_of_ble_eq_true rfl) ?_
  refine z_lv (lv' := [some (.ref x0), some (.int (nI au)), some (.int (nI 0)), some (.int g), some (.int (nI (uU S 0))), some (.int (nI (lw g (uU S 0)))), none, none, none, none, none, none, none, none]) rfl ?_
  refine z_aload_n C 0 dL_removes_38 rfl rfl ?_
  refine z_iconst C (nI 0) dL_removes_39 (by decide) ?_
  refine z_callVr C kX5_count gL_removes_X5_count (l_cnt0 X.2.1 x0 h0 h1 w0 w1 t S o kp ln ps  hG ) dL_removes_40 [0, 1, 2, 3, 4, 5, 6, 7, 8, 9, 51] [] 0 rfl nd_0_1_2_3_4_5_6_7_8_9_51 rfl rfl rfl (by decide) (by decide) (Nat.le_of_ble_eq_true rfl) rfl ?_
  refine z_istore C dL_removes_43 (Nat.le_of_ble_eq_true rfl) ?_
  refine z_lv (lv' := [some (.ref x0), some (.int (nI au)), some (.int (nI 0)), some (.int g), some (.int (nI (uU S 0))), some (.int (nI (lw g (uU S 0)))), some (.int (nI (mK S))), none, none, none, none, none, none, none]) rfl ?_
  refine z_aload_n C 0 dL_removes_45 rfl rfl ?_
  refine z_iconst C (nI 5) dL_removes_46 (by decide) ?_
  refine z_callVr C kX5_count gL_removes_X5_count (l_cnt5n X.2.1 x0 h0 h1 w0 w1 t S o kp ln ps  hG ht) dL_removes_47 [0, 1, 2, 3, 4, 5, 6, 7, 8, 9, 51] [] 0 rfl nd_0_1_2_3_4_5_6_7_8_9_51 rfl rfl rfl (by decide) (by decide) (Nat.le_of_ble_eq_true rfl) rfl ?_
  refine z_iconst C (nI 1) dL_removes_50 (by decide) ?_
  refine z_ncmp_ne_t C 58 dL_removes_51 (by decide) (by omega) (by omega) (by omega) ?_
  refine z_iconst C (nI 0) dL_removes_58 (by decide) ?_
  refine z_istore C dL_removes_59 (Nat.le_of_ble_eq_true rfl) ?_
  refine z_lv (lv' := [some (.ref x0), some (.int (nI au)), some (.int (nI 0)), some (.int g), some (.int (nI (uU S 0))), some (.int (nI (lw g (uU S 0)))), some (.int (nI (mK S))), some (.int (nI 0)), none, none, none, none, none, none]) rfl ?_
  refine z_aload_n C 0 dL_removes_61 rfl rfl ?_
  refine z_iload_n C 2 dL_removes_62 rfl rfl ?_
  refine z_iload C dL_removes_63 rfl ?_
  refine z_iconst C (nI 0) dL_removes_65 (by decide) ?_
  refine z_callVr C kX5_line gL_removes_X5_line (l_line0n X.2.1 x0 h0 w0 t S 0 (lw g (uU S 0)) hG (by decide) hg_1 hN) dL_removes_66 [0, 1, 2, 3, 4, 5, 6, 7, 8] [] 0 rfl nd_0_1_2_3_4_5_6_7_8 rfl rfl rfl (by decide) (by decide) (Nat.le_of_ble_eq_true rfl) rfl ?_
  refine z_istore C dL_removes_69 (Nat.le_of_ble_eq_true rfl) ?_
  refine z_lv (lv' := [some (.ref x0), some (.int (nI au)), some (.int (nI 0)), some (.int g), some (.int (nI (uU S 0))), some (.int (nI (lw g (uU S 0)))), some (.int (nI (mK S))), some (.int (nI 0)), some (.int (-5)), none, none, none, none, none]) rfl ?_
  refine z_aload_n C 0 dL_removes_71 rfl rfl ?_
  refine z_iload_n C 2 dL_removes_72 rfl rfl ?_
  refine z_iload C dL_removes_73 rfl ?_
  refine z_iconst C (nI 1) dL_removes_75 (by decide) ?_
  refine z_callVr C kX5_line gL_removes_X5_line (l_line1n X.2.1 x0 h0 w0 t S 0 (lw g (uU S 0)) hG (by decide) hg_1 hD) dL_removes_76 [0, 1, 2, 3, 4, 5, 6, 7, 8] [] 0 rfl nd_0_1_2_3_4_5_6_7_8 rfl rfl rfl (by decide) (by decide) (Nat.le_of_ble_eq_true rfl) rfl ?_
  refine z_if_lt_t C 86 dL_removes_79 (by decide) (by decide) ?_
  refine z_iconst C (nI 0) dL_removes_86 (by decide) ?_
  refine z_istore C dL_removes_87 (Nat.le_of_ble_eq_true rfl) ?_
  refine z_lv (lv' := [some (.ref x0), some (.int (nI au)), some (.int (nI 0)), some (.int g), some (.int (nI (uU S 0))), some (.int (nI (lw g (uU S 0)))), some (.int (nI (mK S))), some (.int (nI 0)), some (.int (-5)), some (.int (nI 0)), none, none, none, none]) rfl ?_
  refine z_iload C dL_removes_89 rfl ?_
  refine z_if_lt_t C 109 dL_removes_91 (by decide) (by decide) ?_
  refine z_iconst C (nI 0) dL_removes_109 (by decide) ?_
  refine z_istore C dL_removes_110 (Nat.le_of_ble_eq_true rfl) ?_
  refine z_lv (lv' := [some (.ref x0), some (.int (nI au)), some (.int (nI 0)), some (.int g), some (.int (nI (uU S 0))), some (.int (nI (lw g (uU S 0)))), some (.int (nI (mK S))), some (.int (nI 0)), some (.int (-5)), some (.int (nI 0)), some (.int (nI 0)), none, none, none]) rfl ?_
  refine z_iload C dL_removes_112 rfl ?_
  refine z_nif_ne_f C 123 dL_removes_114 (by decide) (by omega) (by omega) ?_
  refine z_sipush C (nI 1000) dL_removes_117 (by decide) ?_
  refine z_goto C 157 dL_removes_120 (by decide) ?_
  refine z_istore C dL_removes_157 (Nat.le_of_ble_eq_true rfl) ?_
  refine z_lv (lv' := [some (.ref x0), some (.int (nI au)), some (.int (nI 0)), some (.int g), some (.int (nI (uU S 0))), some (.int (nI (lw g (uU S 0)))), some (.int (nI (mK S))), some (.int (nI 0)), some (.int (-5)), some (.int (nI 0)), some (.int (nI 0)), some (.int (nI 1000)), none, none]) rfl ?_
  refine z_aload_n C 0 dL_removes_159 rfl rfl ?_
  refine z_iconst C (nI 4) dL_removes_160 (by decide) ?_
  refine z_callVr C kX5_count gL_removes_X5_count (l_cntK X.2.1 x0 h0 h1 w0 w1 t S o kp ln ps 3 hG (by decide)) dL_removes_161 [0, 1, 2, 3, 4, 5, 6, 7, 8, 9, 51] [] 0 rfl nd_0_1_2_3_4_5_6_7_8_9_51 rfl rfl rfl (by decide) (by decide) (Nat.le_of_ble_eq_true rfl) rfl ?_
  have hg_2 : cnS S 3 ≤ mK S := zc_le _ _
  refine z_aload_n C 0 dL_removes_164 rfl rfl ?_
  refine z_iload_n C 2 dL_removes_165 rfl rfl ?_
  refine z_iload C dL_removes_166 rfl ?_
  refine z_iconst C (nI 4) dL_removes_168 (by decide) ?_
  refine z_callVr C kX5_line gL_removes_X5_line (l_line4 X.2.1 x0 h0 w0 t S 0 (lw g (uU S 0)) hG (by decide) hg_1) dL_removes_169 [0, 1, 2, 3, 4, 5, 6, 7, 8] [.int (nI (cnS S 3))] 0 rfl nd_0_1_2_3_4_5_6_7_8 rfl rfl rfl (by decide) (by decide) (Nat.le_of_ble_eq_true rfl) rfl ?_
  refine z_iadd C dL_removes_172 ?_
  refine z_top (y := nI ((cnS S 3) + (nSt S 0 (lw g (uU S 0))))) (nI_add _ _) ?_
  refine z_iload C dL_removes_173 rfl ?_
  refine z_if_lt_t C 182 dL_removes_175 (by decide) (by decide) ?_
  refine z_iconst C (nI 0) dL_removes_182 (by decide) ?_
  refine z_iadd C dL_removes_183 ?_
  refine z_top (y := nI ((cnS S 3) + (nSt S 0 (lw g (uU S 0))))) (nI_add _ _) ?_
  refine z_iload C dL_removes_184 rfl ?_
  refine z_nif_eq_t C 193 dL_removes_186 (by decide) (by omega) (by omega) ?_
  refine z_iconst C (nI 0) dL_removes_193 (by decide) ?_
  refine z_iadd C dL_removes_194 ?_
  refine z_top (y := nI ((cnS S 3) + (nSt S 0 (lw g (uU S 0))))) (nI_add _ _) ?_
  refine z_istore C dL_removes_195 (Nat.le_of_ble_eq_true rfl) ?_
  refine z_lv (lv' := [some (.ref x0), some (.int (nI au)), some (.int (nI 0)), some (.int g), some (.int (nI (uU S 0))), some (.int (nI (lw g (uU S 0)))), some (.int (nI (mK S))), some (.int (nI 0)), some (.int (-5)), some (.int (nI 0)), some (.int (nI 0)), some (.int (nI 1000)), some (.int (nI ((cnS S 3) + (nSt S 0 (lw g (uU S 0)))))), none]) rfl ?_
  refine z_aload_n C 0 dL_removes_197 rfl rfl ?_
  refine z_iload_n C 1 dL_removes_198 rfl rfl ?_
  refine z_iload_n C 2 dL_removes_199 rfl rfl ?_
  refine z_iload C dL_removes_200 rfl ?_
  refine z_callV (wn := (WRd X.2.1 x0 h0 h1 w0 w1 t r S1 o1 kp1 Q1 tx ln ps)) C kX5_remove gL_removes_X5_remove m1 dL_removes_202 [0, 1, 2, 3, 4, 5, 6, 7, 8, 9, 10, 11, 12, 13, 14, 15, 16, 17, 18, 19, 20, 21, 22, 23, 24, 25, 26, 27, 28, 29, 30, 31, 32, 33, 34, 35, 36, 37, 38, 39, 40, 41, 42, 43, 44, 45, 46, 47, 48, 49, 50] [] 0 rfl rfl nd_0_1_2_3_4_5_6_7_8_9_10_11_12_13_14_15_16_17_18_19_20_21_22_23_24_25_26_27_28_29_30_31_32_33_34_35_36_37_38_39_40_41_42_43_44_45_46_47_48_49_50 rfl rfl rfl (by decide) (by decide) (Nat.le_of_ble_eq_true rfl) rfl ((zput_par nd_0_1_2_3_4_5_6_7_8_9_10_11_12_13_14_15_16_17_18_19_20_21_22_23_24_25_26_27_28_29_30_31_32_33_34_35_36_37_38_39_40_41_42_43_44_45_46_47_48_49_50 rfl).trans rfl) ?_
  refine z_iload C dL_removes_205 rfl ?_
  refine z_ncmp_eq_t C 212 dL_removes_207 (by decide) (by omega) (by omega) (by omega) ?_
  refine z_iload C dL_removes_212 rfl ?_
  refine z_nif_ge_t C 234 dL_removes_214 (by decide) (by omega) (by trivial) ?_
  refine z_iload C dL_removes_234 rfl ?_
  refine z_nif_eq_t C 244 dL_removes_236 (by decide) (by omega) (by omega) ?_
  refine z_iconst C (nI 1) dL_removes_244 (by decide) ?_
  refine z_goto C 249 dL_removes_245 (by decide) ?_
  refine z_istore C dL_removes_249 (Nat.le_of_ble_eq_true rfl) ?_
  refine z_lv (lv' := [some (.ref x0), some (.int (nI au)), some (.int (nI 0)), some (.int g), some (.int (nI (uU S 0))), some (.int (nI (lw g (uU S 0)))), some (.int (nI (mK S))), some (.int (nI 0)), some (.int (-5)), some (.int (nI 0)), some (.int (nI 0)), some (.int (nI 1000)), some (.int (nI ((cnS S 3) + (nSt S 0 (lw g (uU S 0)))))), some (.int (nI 1))]) rfl ?_
  refine z_aload_n C 0 dL_removes_251 rfl rfl ?_
  refine z_iconst C (nI 0) dL_removes_252 (by decide) ?_
  refine z_iload_n C 2 dL_removes_253 rfl rfl ?_
  refine z_callVr C kX5_size gL_removes_X5_size (l_size0 X.2.1 x0 h0 w0 t S1 0 hG1 (by decide)) dL_removes_254 [0, 1, 2, 3, 4, 5, 6, 7, 8] [] 0 rfl nd_0_1_2_3_4_5_6_7_8 rfl rfl rfl (by decide) (by decide) (Nat.le_of_ble_eq_true rfl) rfl ?_
  refine z_iload C dL_removes_257 rfl ?_
  refine z_nif_eq_f C 269 dL_removes_259 (by decide) (by omega) (by omega) ?_
  refine z_iload C dL_removes_262 rfl ?_
  refine z_iconst C (nI 1) dL_removes_264 (by decide) ?_
  refine z_isub C dL_removes_265 ?_
  refine z_top (y := nI ((uU S 0) - 1)) ((pk_sub (by omega)).trans (congrArg nI (by omega))) ?_
  refine z_goto C 271 dL_removes_266 (by decide) ?_
  refine z_ncmp_ne_f C 309 dL_removes_271 (by decide) (by omega) (by omega) (by omega) ?_
  refine z_iload C dL_removes_274 rfl ?_
  refine z_nif_eq_f C 292 dL_removes_276 (by decide) (by omega) (by omega) ?_
  refine z_aload_n C 0 dL_removes_279 rfl rfl ?_
  refine z_iconst C (nI 4) dL_removes_280 (by decide) ?_
  refine z_callVr C kX5_count gL_removes_X5_count (l_cntK X.2.1 x0 h0 h1 w0 w1 t S1 o1 kp1 ln ps 3 hG1 (by decide)) dL_removes_281 [0, 1, 2, 3, 4, 5, 6, 7, 8, 9, 51] [] 0 rfl nd_0_1_2_3_4_5_6_7_8_9_51 rfl rfl rfl (by decide) (by decide) (Nat.le_of_ble_eq_true rfl) rfl ?_
  have hg_3 : cnS S1 3 ≤ mK S1 := zc_le _ _
  refine z_iload C dL_removes_284 rfl ?_
  refine z_ncmp_ne_f C 309 dL_removes_286 (by decide) (by omega) (by omega) (by omega) ?_
  refine z_goto C 305 dL_removes_289 (by decide) ?_
  refine z_iconst C (nI 1) dL_removes_305 (by decide) ?_
  refine z_goto C 310 dL_removes_306 (by decide) ?_
  exact z_zret C N dL_removes_310 rfl (rfl) (rfl)

set_option maxHeartbeats 4000000 in
set_option maxRecDepth 100000 in
theorem w_rem0u01 (E : zE) (x0 h0 h1 w0 w1 : Nat) (t : Nat → Nat) (r : Nat → Nat → Nat) (S S1 : zSt) (o kp kp1 o1 : Nat) (Q Q1 : Nat → zSt) (tx : Nat → Nat) (ln : Nat) (ps : zPs) {B B1 : Nat} (au : Nat) (g : Int32) (hG : GG S B) (hG1 : GG S1 B1) (hau : au < 4) (hz : 0 < uU S 0) (hN : Nw S 0 (lw g (uU S 0)) = false) (hD : Dm S 0 (lw g (uU S 0)) = true) (ht : tK S = false) (hu : uU S1 0 + 1 = uU S 0) (hc : cnS S1 3 = cnS S 3 + nSt S 0 (lw g (uU S 0)) + 1) (hc6 : cnS S1 3 ≤ 60) (m1 : zM E yX5_remove wsX5_remove 6 [.ref x0, .int (nI au), .int (nI 0), .int (nI (lw g (uU S 0)))] (WAd E x0 h0 h1 w0 t r S o kp Q) (WAd E x0 h0 h1 w0 t r S1 o1 kp1 Q1) (some (.int (nI 1000)))) : zM E yL_removes wsL_removes 7 [.ref x0, .int (nI au), .int (nI 0), .int g] (WRd E x0 h0 h1 w0 w1 t r S o kp Q tx ln ps) (WRd E x0 h0 h1 w0 w1 t r S1 o1 kp1 Q1 tx ln ps) (some (.int (nI 1))) := by
  refine zM.of kL_removes (Nat.le_of_ble_eq_true rfl) rfl [some (.ref x0), some (.int (nI au)), some (.int (nI 0)), some (.int g), none, none, none, none, none, none, none, none, none, none] rfl (Nat.le_of_ble_eq_true rfl) ?_
  intro X eX C N
  subst eX
  have hb0 : uU S 0 ≤ 12 := gg_u hG 0
  have hb1 : uU S 1 ≤ 8 := gg_u1 hG
  have hb2 : mK S ≤ 60 := gg_M hG
  have hb3 : uU S1 0 ≤ 12 := gg_u hG1 0
  have hb4 : uU S1 1 ≤ 8 := gg_u1 hG1
  have hb5 : mK S1 ≤ 60 := gg_M hG1
  have hxr : xR S 0 (lw g (uU S 0)) < mK S := (Dm_t hD).1
  refine z_aload_n C 0 dL_removes_0 rfl rfl ?_
  refine z_iconst C (nI 0) dL_removes_1 (by decide) ?_
  refine z_iload_n C 2 dL_removes_2 rfl rfl ?_
  refine z_callVr C kX5_size gL_removes_X5_size (l_size0 X.2.1 x0 h0 w0 t S 0 hG (by decide)) dL_removes_3 [0, 1, 2, 3, 4, 5, 6, 7, 8] [] 0 rfl nd_0_1_2_3_4_5_6_7_8 rfl rfl rfl (by decide) (by decide) (Nat.le_of_ble_eq_true rfl) rfl ?_
  refine z_istore C dL_removes_6 (Nat.le_of_ble_eq_true rfl) ?_
  refine z_lv (lv' := [some (.ref x0), some (.int (nI au)), some (.int (nI 0)), some (.int g), some (.int (nI (uU S 0))), none, none, none, none, none, none, none, none, none]) rfl ?_
  refine z_iload C dL_removes_8 rfl ?_
  refine z_nif_ne_t C 30 dL_removes_10 (by decide) (by omega) (by omega) ?_
  refine z_iload_n C 3 dL_removes_30 rfl rfl ?_
  refine z_iload C dL_removes_31 rfl ?_
  refine z_callS C kL_low gL_removes_L_low (l_low X.2.1 g (uU S 0) hz (by omega)) dL_removes_33 [] rfl (by decide) (by decide) (Nat.le_of_ble_eq_true rfl) rfl ?_
  have hg_1 : lw g (uU S 0) < (uU S 0) := lw_lt g (by omega)
  refine z_istore C dL_removes_36 (Nat.le_of_ble_eq_true rfl) ?_
  refine z_lv (lv' := [some (.ref x0), some (.int (nI au)), some (.int (nI 0)), some (.int g), some (.int (nI (uU S 0))), some (.int (nI (lw g (uU S 0)))), none, none, none, none, none, none, none, none]) rfl ?_
  refine z_aload_n C 0 dL_removes_38 rfl rfl ?_
  refine z_iconst C (nI 0) dL_removes_39 (by decide) ?_
  refine z_callVr C kX5_count gL_removes_X5_count (l_cnt0 X.2.1 x0 h0 h1 w0 w1 t S o kp ln ps  hG ) dL_removes_40 [0, 1, 2, 3, 4, 5, 6, 7, 8, 9, 51] [] 0 rfl nd_0_1_2_3_4_5_6_7_8_9_51 rfl rfl rfl (by decide) (by decide) (Nat.le_of_ble_eq_true rfl) rfl ?_
  refine z_istore C dL_removes_43 (Nat.le_of_ble_eq_true rfl) ?_
  refine z_lv (lv' := [some (.ref x0), some (.int (nI au)), some (.int (nI 0)), some (.int g), some (.int (nI (uU S 0))), some (.int (nI (lw g (uU S 0)))), some (.int (nI (mK S))), none, none, none, none, none, none, none]) rfl ?_
  refine z_aload_n C 0 dL_removes_45 rfl rfl ?_
  refine z_iconst C (nI 5) dL_removes_46 (by decide) ?_
  refine z_callVr C kX5_count gL_removes_X5_count (l_cnt5n X.2.1 x0 h0 h1 w0 w1 t S o kp ln ps  hG ht) dL_removes_47 [0, 1, 2, 3, 4, 5, 6, 7, 8, 9, 51] [] 0 rfl nd_0_1_2_3_4_5_6_7_8_9_51 rfl rfl rfl (by decide) (by decide) (Nat.le_of_ble_eq_true rfl) rfl ?_
  refine z_iconst C (nI 1) dL_removes_50 (by decide) ?_
  refine z_ncmp_ne_t C 58 dL_removes_51 (by decide) (by omega) (by omega) (by omega) ?_
  refine z_iconst C (nI 0) dL_removes_58 (by decide) ?_
  refine z_istore C dL_removes_59 (Nat.le_of_ble_eq_true rfl) ?_
  refine z_lv (lv' := [some (.ref x0), some (.int (nI au)), some (.int (nI 0)), some (.int g), some (.int (nI (uU S 0))), some (.int (nI (lw g (uU S 0)))), some (.int (nI (mK S))), some (.int (nI 0)), none, none, none, none, none, none]) rfl ?_
  refine z_aload_n C 0 dL_removes_61 rfl rfl ?_
  refine z_iload_n C 2 dL_removes_62 rfl rfl ?_
  refine z_iload C dL_removes_63 rfl ?_
  refine z_iconst C (nI 0) dL_removes_65 (by decide) ?_
  refine z_callVr C kX5_line gL_removes_X5_line (l_line0n X.2.1 x0 h0 w0 t S 0 (lw g (uU S 0)) hG (by decide) hg_1 hN) dL_removes_66 [0, 1, 2, 3, 4, 5, 6, 7, 8] [] 0 rfl nd_0_1_2_3_4_5_6_7_8 rfl rfl rfl (by decide) (by decide) (Nat.le_of_ble_eq_true rfl) rfl ?_
  refine z_istore C dL_removes_69 (Nat.le_of_ble_eq_true rfl) ?_
  refine z_lv (lv' := [some (.ref x0), some (.int (nI au)), some (.int (nI 0)), some (.int g), some (.int (nI (uU S 0))), some (.int (nI (lw g (uU S 0)))), some (.int (nI (mK S))), some (.int (nI 0)), some (.int (-5)), none, none, none, none, none]) rfl ?_
  refine z_aload_n C 0 dL_removes_71 rfl rfl ?_
  refine z_iload_n C 2 dL_removes_72 rfl rfl ?_
  refine z_iload C dL_removes_73 rfl ?_
  refine z_iconst C (nI 1) dL_removes_75 (by decide) ?_
  refine z_callVr C kX5_line gL_removes_X5_line (l_line1y X.2.1 x0 h0 w0 t S 0 (lw g (uU S 0)) hG (by decide) hg_1 hD) dL_removes_76 [0, 1, 2, 3, 4, 5, 6, 7, 8] [] 0 rfl nd_0_1_2_3_4_5_6_7_8 rfl rfl rfl (by decide) (by decide) (Nat.le_of_ble_eq_true rfl) rfl ?_
  refine z_nif_lt_f C 86 dL_removes_79 (by decide) (by omega) (by trivial) ?_
  refine z_iconst C (nI 1) dL_removes_82 (by decide) ?_
  refine z_goto C 87 dL_removes_83 (by decide) ?_
  refine z_istore C dL_removes_87 (Nat.le_of_ble_eq_true rfl) ?_
  refine z_lv (lv' := [some (.ref x0), some (.int (nI au)), some (.int (nI 0)), some (.int g), some (.int (nI (uU S 0))), some (.int (nI (lw g (uU S 0)))), some (.int (nI (mK S))), some (.int (nI 0)), some (.int (-5)), some (.int (nI 1)), none, none, none, none]) rfl ?_
  refine z_iload C dL_removes_89 rfl ?_
  refine z_if_lt_t C 109 dL_removes_91 (by decide) (by decide) ?_
  refine z_iconst C (nI 0) dL_removes_109 (by decide) ?_
  refine z_istore C dL_removes_110 (Nat.le_of_ble_eq_true rfl) ?_
  refine z_lv (lv' := [some (.ref x0), some (.int (nI au)), some (.int (nI 0)), some (.int g), some (.int (nI (uU S 0))), some (.int (nI (lw g (uU S 0)))), some (.int (nI (mK S))), some (.int (nI 0)), some (.int (-5)), some (.int (nI 1)), some (.int (nI 0)), none, none, none]) rfl ?_
  refine z_iload C dL_removes_112 rfl ?_
  refine z_nif_ne_f C 123 dL_removes_114 (by decide) (by omega) (by omega) ?_
  refine z_sipush C (nI 1000) dL_removes_117 (by decide) ?_
  refine z_goto C 157 dL_removes_120 (by decide) ?_
  refine z_istore C dL_removes_157 (Nat.le_of_ble_eq_true rfl) ?_
  refine z_lv (lv' := [some (.ref x0), some (.int (nI au)), some (.int (nI 0)), some (.int g), some (.int (nI (uU S 0))), some (.int (nI (lw g (uU S 0)))), some (.int (nI (mK S))), some (.int (nI 0)), some (.int (-5)), some (.int (nI 1)), some (.int (nI 0)), some (.int (nI 1000)), none, none]) rfl ?_
  refine z_aload_n C 0 dL_removes_159 rfl rfl ?_
  refine z_iconst C (nI 4) dL_removes_160 (by decide) ?_
  refine z_callVr C kX5_count gL_removes_X5_count (l_cntK X.2.1 x0 h0 h1 w0 w1 t S o kp ln ps 3 hG (by decide)) dL_removes_161 [0, 1, 2, 3, 4, 5, 6, 7, 8, 9, 51] [] 0 rfl nd_0_1_2_3_4_5_6_7_8_9_51 rfl rfl rfl (by decide) (by decide) (Nat.le_of_ble_eq_true rfl) rfl ?_
  have hg_2 : cnS S 3 ≤ mK S := zc_le _ _
  refine z_aload_n C 0 dL_removes_164 rfl rfl ?_
  refine z_iload_n C 2 dL_removes_165 rfl rfl ?_
  refine z_iload C dL_removes_166 rfl ?_
  refine z_iconst C (nI 4) dL_removes_168 (by decide) ?_
  refine z_callVr C kX5_line gL_removes_X5_line (l_line4 X.2.1 x0 h0 w0 t S 0 (lw g (uU S 0)) hG (by decide) hg_1) dL_removes_169 [0, 1, 2, 3, 4, 5, 6, 7, 8] [.int (nI (cnS S 3))] 0 rfl nd_0_1_2_3_4_5_6_7_8 rfl rfl rfl (by decide) (by decide) (Nat.le_of_ble_eq_true rfl) rfl ?_
  refine z_iadd C dL_removes_172 ?_
  refine z_top (y := nI ((cnS S 3) + (nSt S 0 (lw g (uU S 0))))) (nI_add _ _) ?_
  refine z_iload C dL_removes_173 rfl ?_
  refine z_if_lt_t C 182 dL_removes_175 (by decide) (by decide) ?_
  refine z_iconst C (nI 0) dL_removes_182 (by decide) ?_
  refine z_iadd C dL_removes_183 ?_
  refine z_top (y := nI ((cnS S 3) + (nSt S 0 (lw g (uU S 0))))) (nI_add _ _) ?_
  refine z_iload C dL_removes_184 rfl ?_
  refine z_nif_eq_f C 193 dL_removes_186 (by decide) (by omega) (by omega) ?_
  refine z_iconst C (nI 1) dL_removes_189 (by decide) ?_
  refine z_goto C 194 dL_removes_190 (by decide) ?_
  refine z_iadd C dL_removes_194 ?_
  refine z_top (y := nI (((cnS S 3) + (nSt S 0 (lw g (uU S 0)))) + 1)) (nI_add _ _) ?_
  refine z_istore C dL_removes_195 (Nat.le_of_ble_eq_true rfl) ?_
  refine z_lv (lv' := [some (.ref x0), some (.int (nI au)), some (.int (nI 0)), some (.int g), some (.int (nI (uU S 0))), some (.int (nI (lw g (uU S 0)))), some (.int (nI (mK S))), some (.int (nI 0)), some (.int (-5)), some (.int (nI 1)), some (.int (nI 0)), some (.int (nI 1000)), some (.int (nI (((cnS S 3) + (nSt S 0 (lw g (uU S 0)))) + 1))), none]) rfl ?_
  refine z_aload_n C 0 dL_removes_197 rfl rfl ?_
  refine z_iload_n C 1 dL_removes_198 rfl rfl ?_
  refine z_iload_n C 2 dL_removes_199 rfl rfl ?_
  refine z_iload C dL_removes_200 rfl ?_
  refine z_callV (wn := (WRd X.2.1 x0 h0 h1 w0 w1 t r S1 o1 kp1 Q1 tx ln ps)) C kX5_remove gL_removes_X5_remove m1 dL_removes_202 [0, 1, 2, 3, 4, 5, 6, 7, 8, 9, 10, 11, 12, 13, 14, 15, 16, 17, 18, 19, 20, 21, 22, 23, 24, 25, 26, 27, 28, 29, 30, 31, 32, 33, 34, 35, 36, 37, 38, 39, 40, 41, 42, 43, 44, 45, 46, 47, 48, 49, 50] [] 0 rfl rfl nd_0_1_2_3_4_5_6_7_8_9_10_11_12_13_14_15_16_17_18_19_20_21_22_23_24_25_26_27_28_29_30_31_32_33_34_35_36_37_38_39_40_41_42_43_44_45_46_47_48_49_50 rfl rfl rfl (by decide) (by decide) (Nat.le_of_ble_eq_true rfl) rfl ((zput_par nd_0_1_2_3_4_5_6_7_8_9_10_11_12_13_14_15_16_17_18_19_20_21_22_23_24_25_26_27_28_29_30_31_32_33_34_35_36_37_38_39_40_41_42_43_44_45_46_47_48_49_50 rfl).trans rfl) ?_
  refine z_iload C dL_removes_205 rfl ?_
  refine z_ncmp_eq_t C 212 dL_removes_207 (by decide) (by omega) (by omega) (by omega) ?_
  refine z_iload C dL_removes_212 rfl ?_
  refine z_nif_ge_t C 234 dL_removes_214 (by decide) (by omega) (by trivial) ?_
  refine z_iload C dL_removes_234 rfl ?_
  refine z_nif_eq_t C 244 dL_removes_236 (by decide) (by omega) (by omega) ?_
  refine z_iconst C (nI 1) dL_removes_244 (by decide) ?_
  refine z_goto C 249 dL_removes_245 (by decide) ?_
  refine z_istore C dL_removes_249 (Nat.le_of_ble_eq_true rfl) ?_
  refine z_lv (lv' := [some (.ref x0), some (.int (nI au)), some (.int (nI 0)), some (.int g), some (.int (nI (uU S 0))), some (.int (nI (lw g (uU S 0)))), some (.int (nI (mK S))), some (.int (nI 0)), some (.int (-5)), some (.int (nI 1)), some (.int (nI 0)), some (.int (nI 1000)), some (.int (nI (((cnS S 3) + (nSt S 0 (lw g (uU S 0)))) + 1))), some (.int (nI 1))]) rfl ?_
  refine z_aload_n C 0 dL_removes_251 rfl rfl ?_
  refine z_iconst C (nI 0) dL_removes_252 (by decide) ?_
  refine z_iload_n C 2 dL_removes_253 rfl rfl ?_
  refine z_callVr C kX5_size gL_removes_X5_size (l_size0 X.2.1 x0 h0 w0 t S1 0 hG1 (by decide)) dL_removes_254 [0, 1, 2, 3, 4, 5, 6, 7, 8] [] 0 rfl nd_0_1_2_3_4_5_6_7_8 rfl rfl rfl (by decide) (by decide) (Nat.le_of_ble_eq_true rfl) rfl ?_
  refine z_iload C dL_removes_257 rfl ?_
  refine z_nif_eq_f C 269 dL_removes_259 (by decide) (by omega) (by omega) ?_
  refine z_iload C dL_removes_262 rfl ?_
  refine z_iconst C (nI 1) dL_removes_264 (by decide) ?_
  refine z_isub C dL_removes_265 ?_
  refine z_top (y := nI ((uU S 0) - 1)) ((pk_sub (by omega)).trans (congrArg nI (by omega))) ?_
  refine z_goto C 271 dL_removes_266 (by decide) ?_
  refine z_ncmp_ne_f C 309 dL_removes_271 (by decide) (by omega) (by omega) (by omega) ?_
  refine z_iload C dL_removes_274 rfl ?_
  refine z_nif_eq_f C 292 dL_removes_276 (by decide) (by omega) (by omega) ?_
  refine z_aload_n C 0 dL_removes_279 rfl rfl ?_
  refine z_iconst C (nI 4) dL_removes_280 (by decide) ?_
  refine z_callVr C kX5_count gL_removes_X5_count (l_cntK X.2.1 x0 h0 h1 w0 w1 t S1 o1 kp1 ln ps 3 hG1 (by decide)) dL_removes_281 [0, 1, 2, 3, 4, 5, 6, 7, 8, 9, 51] [] 0 rfl nd_0_1_2_3_4_5_6_7_8_9_51 rfl rfl rfl (by decide) (by decide) (Nat.le_of_ble_eq_true rfl) rfl ?_
  have hg_3 : cnS S1 3 ≤ mK S1 := zc_le _ _
  refine z_iload C dL_removes_284 rfl ?_
  refine z_ncmp_ne_f C 309 dL_removes_286 (by decide) (by omega) (by omega) (by omega) ?_
  refine z_goto C 305 dL_removes_289 (by decide) ?_
  refine z_iconst C (nI 1) dL_removes_305 (by decide) ?_
  refine z_goto C 310 dL_removes_306 (by decide) ?_
  exact z_zret C N dL_removes_310 rfl (rfl) (rfl)

set_option maxHeartbeats 4000000 in
set_option maxRecDepth 100000 in
theorem w_rem0d0 (E : zE) (x0 h0 h1 w0 w1 : Nat) (t : Nat → Nat) (r : Nat → Nat → Nat) (S S1 : zSt) (o kp kp1 o1 : Nat) (Q Q1 : Nat → zSt) (tx : Nat → Nat) (ln : Nat) (ps : zPs) {B B1 : Nat} (au : Nat) (g : Int32) (hG : GG S B) (hG1 : GG S1 B1) (hau : au < 4) (hz : 0 < uU S 0) (hN : Nw S 0 (lw g (uU S 0)) = false) (hD : Dm S 0 (lw g (uU S 0)) = true) (ht : tK S = true) (hu : uU S1 0 = uU S 0) (m1 : zM E yX5_remove wsX5_remove 6 [.ref x0, .int (nI au), .int (nI 0), .int (nI (lw g (uU S 0)))] (WAd E x0 h0 h1 w0 t r S o kp Q) (WAd E x0 h0 h1 w0 t r S1 o1 kp1 Q1) (some (.int (-4)))) : zM E yL_removes wsL_removes 7 [.ref x0, .int (nI au), .int (nI 0), .int g] (WRd E x0 h0 h1 w0 w1 t r S o kp Q tx ln ps) (WRd E x0 h0 h1 w0 w1 t r S1 o1 kp1 Q1 tx ln ps) (some (.int (nI 1))) := by
  refine zM.of kL_removes (Nat.le_of_ble_eq_true rfl) rfl [some (.ref x0), some (.int (nI au)), some (.int (nI 0)), some (.int g), none, none, none, none, none, none, none, none, none, none] rfl (Nat.le_of_ble_eq_true rfl) ?_
  intro X eX C N
  subst eX
  have hb0 : uU S 0 ≤ 12 := gg_u hG 0
  have hb1 : uU S 1 ≤ 8 := gg_u1 hG
  have hb2 : mK S ≤ 60 := gg_M hG
  have hb3 : uU S1 0 ≤ 12 := gg_u hG1 0
  have hb4 : uU S1 1 ≤ 8 := gg_u1 hG1
  have hb5 : mK S1 ≤ 60 := gg_M hG1
  have hxr : xR S 0 (lw g (uU S 0)) < mK S := (Dm_t hD).1
  refine z_aload_n C 0 dL_removes_0 rfl rfl ?_
  refine z_iconst C (nI 0) dL_removes_1 (by decide) ?_
  refine z_iload_n C 2 dL_removes_2 rfl rfl ?_
  refine z_callVr C kX5_size gL_removes_X5_size (l_size0 X.2.1 x0 h0 w0 t S 0 hG (by decide)) dL_removes_3 [0, 1, 2, 3, 4, 5, 6, 7, 8] [] 0 rfl nd_0_1_2_3_4_5_6_7_8 rfl rfl rfl (by decide) (by decide) (Nat.le_of_ble_eq_true rfl) rfl ?_
  refine z_istore C dL_removes_6 (Nat.le_of_ble_eq_true rfl) ?_
  refine z_lv (lv' := [some (.ref x0), some (.int (nI au)), some (.int (nI 0)), some (.int g), some (.int (nI (uU S 0))), none, none, none, none, none, none, none, none, none]) rfl ?_
  refine z_iload C dL_removes_8 rfl ?_
  refine z_nif_ne_t C 30 dL_removes_10 (by decide) (by omega) (by omega) ?_
  refine z_iload_n C 3 dL_removes_30 rfl rfl ?_
  refine z_iload C dL_removes_31 rfl ?_
  refine z_callS C kL_low gL_removes_L_low (l_low X.2.1 g (uU S 0) hz (by omega)) dL_removes_33 [] rfl (by decide) (by decide) (Nat.le_of_ble_eq_true rfl) rfl ?_
  have hg_1 : lw g (uU S 0) < (uU S 0) := lw_lt g (by omega)
  refine z_istore C dL_removes_36 (Nat.le_of_ble_eq_true rfl) ?_
  refine z_lv (lv' := [some (.ref x0), some (.int (nI au)), some (.int (nI 0)), some (.int g), some (.int (nI (uU S 0))), some (.int (nI (lw g (uU S 0)))), none, none, none, none, none, none, none, none]) rfl ?_
  refine z_aload_n C 0 dL_removes_38 rfl rfl ?_
  refine z_iconst C (nI 0) dL_removes_39 (by decide) ?_
  refine z_callVr C kX5_count gL_removes_X5_count (l_cnt0 X.2.1 x0 h0 h1 w0 w1 t S o kp ln ps  hG ) dL_removes_40 [0, 1, 2, 3, 4, 5, 6, 7, 8, 9, 51] [] 0 rfl nd_0_1_2_3_4_5_6_7_8_9_51 rfl rfl rfl (by decide) (by decide) (Nat.le_of_ble_eq_true rfl) rfl ?_
  refine z_istore C dL_removes_43 (Nat.le_of_ble_eq_true rfl) ?_
  refine z_lv (lv' := [some (.ref x0), some (.int (nI au)), some (.int (nI 0)), some (.int g), some (.int (nI (uU S 0))), some (.int (nI (lw g (uU S 0)))), some (.int (nI (mK S))), none, none, none, none, none, none, none]) rfl ?_
  refine z_aload_n C 0 dL_removes_45 rfl rfl ?_
  refine z_iconst C (nI 5) dL_removes_46 (by decide) ?_
  refine z_callVr C kX5_count gL_removes_X5_count (l_cnt5y X.2.1 x0 h0 h1 w0 w1 t S o kp ln ps  hG ht) dL_removes_47 [0, 1, 2, 3, 4, 5, 6, 7, 8, 9, 51] [] 0 rfl nd_0_1_2_3_4_5_6_7_8_9_51 rfl rfl rfl (by decide) (by decide) (Nat.le_of_ble_eq_true rfl) rfl ?_
  refine z_iconst C (nI 1) dL_removes_50 (by decide) ?_
  refine z_ncmp_ne_f C 58 dL_removes_51 (by decide) (by omega) (by omega) (by omega) ?_
  refine z_iconst C (nI 1) dL_removes_54 (by decide) ?_
  refine z_goto C 59 dL_removes_55 (by decide) ?_
  refine z_istore C dL_removes_59 (Nat.le_of_ble_eq_true rfl) ?_
  refine z_lv (lv' := [some (.ref x0), some (.int (nI au)), some (.int (nI 0)), some (.int g), some (.int (nI (uU S 0))), some (.int (nI (lw g (uU S 0)))), some (.int (nI (mK S))), some (.int (nI 1)), none, none, none, none, none, none]) rfl ?_
  refine z_aload_n C 0 dL_removes_61 rfl rfl ?_
  refine z_iload_n C 2 dL_removes_62 rfl rfl ?_
  refine z_iload C dL_removes_63 rfl ?_
  refine z_iconst C (nI 0) dL_removes_65 (by decide) ?_
  refine z_callVr C kX5_line gL_removes_X5_line (l_line0n X.2.1 x0 h0 w0 t S 0 (lw g (uU S 0)) hG (by decide) hg_1 hN) dL_removes_66 [0, 1, 2, 3, 4, 5, 6, 7, 8] [] 0 rfl nd_0_1_2_3_4_5_6_7_8 rfl rfl rfl (by decide) (by decide) (Nat.le_of_ble_eq_true rfl) rfl ?_
  refine z_istore C dL_removes_69 (Nat.le_of_ble_eq_true rfl) ?_
  refine z_lv (lv' := [some (.ref x0), some (.int (nI au)), some (.int (nI 0)), some (.int g), some (.int (nI (uU S 0))), some (.int (nI (lw g (uU S 0)))), some (.int (nI (mK S))), some (.int (nI 1)), some (.int (-5)), none, none, none, none, none]) rfl ?_
  refine z_aload_n C 0 dL_removes_71 rfl rfl ?_
  refine z_iload_n C 2 dL_removes_72 rfl rfl ?_
  refine z_iload C dL_removes_73 rfl ?_
  refine z_iconst C (nI 1) dL_removes_75 (by decide) ?_
  refine z_callVr C kX5_line gL_removes_X5_line (l_line1y X.2.1 x0 h0 w0 t S 0 (lw g (uU S 0)) hG (by decide) hg_1 hD) dL_removes_76 [0, 1, 2, 3, 4, 5, 6, 7, 8] [] 0 rfl nd_0_1_2_3_4_5_6_7_8 rfl rfl rfl (by decide) (by decide) (Nat.le_of_ble_eq_true rfl) rfl ?_
  refine z_nif_lt_f C 86 dL_removes_79 (by decide) (by omega) (by trivial) ?_
  refine z_iconst C (nI 1) dL_removes_82 (by decide) ?_
  refine z_goto C 87 dL_removes_83 (by decide) ?_
  refine z_istore C dL_removes_87 (Nat.le_of_ble_eq_true rfl) ?_
  refine z_lv (lv' := [some (.ref x0), some (.int (nI au)), some (.int (nI 0)), some (.int g), some (.int (nI (uU S 0))), some (.int (nI (lw g (uU S 0)))), some (.int (nI (mK S))), some (.int (nI 1)), some (.int (-5)), some (.int (nI 1)), none, none, none, none]) rfl ?_
  refine z_iload C dL_removes_89 rfl ?_
  refine z_if_lt_t C 109 dL_removes_91 (by decide) (by decide) ?_
  refine z_iconst C (nI 0) dL_removes_109 (by decide) ?_
  refine z_istore C dL_removes_110 (Nat.le_of_ble_eq_true rfl) ?_
  refine z_lv (lv' := [some (.ref x0), some (.int (nI au)), some (.int (nI 0)), some (.int g), some (.int (nI (uU S 0))), some (.int (nI (lw g (uU S 0)))), some (.int (nI (mK S))), some (.int (nI 1)), some (.int (-5)), some (.int (nI 1)), some (.int (nI 0)), none, none, none]) rfl ?_
  refine z_iload C dL_removes_112 rfl ?_
  refine z_nif_ne_t C 123 dL_removes_114 (by decide) (by omega) (by omega) ?_
  refine z_iload C dL_removes_123 rfl ?_
  refine z_nif_eq_f C 133 dL_removes_125 (by decide) (by omega) (by omega) ?_
  refine z_bipush C (-4) dL_removes_128 (by decide) ?_
  refine z_goto C 157 dL_removes_130 (by decide) ?_
  refine z_istore C dL_removes_157 (Nat.le_of_ble_eq_true rfl) ?_
  refine z_lv (lv' := [some (.ref x0), some (.int (nI au)), some (.int (nI 0)), some (.int g), some (.int (nI (uU S 0))), some (.int (nI (lw g (uU S 0)))), some (.int (nI (mK S))), some (.int (nI 1)), some (.int (-5)), some (.int (nI 1)), some (.int (nI 0)), some (.int (-4)), none, none]) rfl ?_
  refine z_aload_n C 0 dL_removes_159 rfl rfl ?_
  refine z_iconst C (nI 4) dL_removes_160 (by decide) ?_
  refine z_callVr C kX5_count gL_removes_X5_count (l_cntK X.2.1 x0 h0 h1 w0 w1 t S o kp ln ps 3 hG (by decide)) dL_removes_161 [0, 1, 2, 3, 4, 5, 6, 7, 8, 9, 51] [] 0 rfl nd_0_1_2_3_4_5_6_7_8_9_51 rfl rfl rfl (by decide) (by decide) (Nat.le_of_ble_eq_true rfl) rfl ?_
  have hg_2 : cnS S 3 ≤ mK S := zc_le _ _
  refine z_aload_n C 0 dL_removes_164 rfl rfl ?_
  refine z_iload_n C 2 dL_removes_165 rfl rfl ?_
  refine z_iload C dL_removes_166 rfl ?_
  refine z_iconst C (nI 4) dL_removes_168 (by decide) ?_
  refine z_callVr C kX5_line gL_removes_X5_line (l_line4 X.2.1 x0 h0 w0 t S 0 (lw g (uU S 0)) hG (by decide) hg_1) dL_removes_169 [0, 1, 2, 3, 4, 5, 6, 7, 8] [.int (nI (cnS S 3))] 0 rfl nd_0_1_2_3_4_5_6_7_8 rfl rfl rfl (by decide) (by decide) (Nat.le_of_ble_eq_true rfl) rfl ?_
  refine z_iadd C dL_removes_172 ?_
  refine z_top (y := nI ((cnS S 3) + (nSt S 0 (lw g (uU S 0))))) (nI_add _ _) ?_
  refine z_iload C dL_removes_173 rfl ?_
  refine z_if_lt_t C 182 dL_removes_175 (by decide) (by decide) ?_
  refine z_iconst C (nI 0) dL_removes_182 (by decide) ?_
  refine z_iadd C dL_removes_183 ?_
  refine z_top (y := nI ((cnS S 3) + (nSt S 0 (lw g (uU S 0))))) (nI_add _ _) ?_
  refine z_iload C dL_removes_184 rfl ?_
  refine z_nif_eq_f C 193 dL_removes_186 (by decide) (by omega) (by omega) ?_
  refine z_iconst C (nI 1) dL_removes_189 (by decide) ?_
  refine z_goto C 194 dL_removes_190 (by decide) ?_
  refine z_iadd C dL_removes_194 ?_
  refine z_top (y := nI (((cnS S 3) + (nSt S 0 (lw g (uU S 0)))) + 1)) (nI_add _ _) ?_
  refine z_istore C dL_removes_195 (Nat.le_of_ble_eq_true rfl) ?_
  refine z_lv (lv' := [some (.ref x0), some (.int (nI au)), some (.int (nI 0)), some (.int g), some (.int (nI (uU S 0))), some (.int (nI (lw g (uU S 0)))), some (.int (nI (mK S))), some (.int (nI 1)), some (.int (-5)), some (.int (nI 1)), some (.int (nI 0)), some (.int (-4)), some (.int (nI (((cnS S 3) + (nSt S 0 (lw g (uU S 0)))) + 1))), none]) rfl ?_
  refine z_aload_n C 0 dL_removes_197 rfl rfl ?_
  refine z_iload_n C 1 dL_removes_198 rfl rfl ?_
  refine z_iload_n C 2 dL_removes_199 rfl rfl ?_
  refine z_iload C dL_removes_200 rfl ?_
  refine z_callV (wn := (WRd X.2.1 x0 h0 h1 w0 w1 t r S1 o1 kp1 Q1 tx ln ps)) C kX5_remove gL_removes_X5_remove m1 dL_removes_202 [0, 1, 2, 3, 4, 5, 6, 7, 8, 9, 10, 11, 12, 13, 14, 15, 16, 17, 18, 19, 20, 21, 22, 23, 24, 25, 26, 27, 28, 29, 30, 31, 32, 33, 34, 35, 36, 37, 38, 39, 40, 41, 42, 43, 44, 45, 46, 47, 48, 49, 50] [] 0 rfl rfl nd_0_1_2_3_4_5_6_7_8_9_10_11_12_13_14_15_16_17_18_19_20_21_22_23_24_25_26_27_28_29_30_31_32_33_34_35_36_37_38_39_40_41_42_43_44_45_46_47_48_49_50 rfl rfl rfl (by decide) (by decide) (Nat.le_of_ble_eq_true rfl) rfl ((zput_par nd_0_1_2_3_4_5_6_7_8_9_10_11_12_13_14_15_16_17_18_19_20_21_22_23_24_25_26_27_28_29_30_31_32_33_34_35_36_37_38_39_40_41_42_43_44_45_46_47_48_49_50 rfl).trans rfl) ?_
  refine z_iload C dL_removes_205 rfl ?_
  refine z_icmp_eq_t C 212 dL_removes_207 (by decide) rfl ?_
  refine z_iload C dL_removes_212 rfl ?_
  refine z_if_ge_f C 234 dL_removes_214 (by decide) (by decide) ?_
  refine z_aload_n C 0 dL_removes_217 rfl rfl ?_
  refine z_iconst C (nI 0) dL_removes_218 (by decide) ?_
  refine z_iload_n C 2 dL_removes_219 rfl rfl ?_
  refine z_callVr C kX5_size gL_removes_X5_size (l_size0 X.2.1 x0 h0 w0 t S1 0 hG1 (by decide)) dL_removes_220 [0, 1, 2, 3, 4, 5, 6, 7, 8] [] 0 rfl nd_0_1_2_3_4_5_6_7_8 rfl rfl rfl (by decide) (by decide) (Nat.le_of_ble_eq_true rfl) rfl ?_
  refine z_iload C dL_removes_223 rfl ?_
  refine z_ncmp_ne_f C 232 dL_removes_225 (by decide) (by omega) (by omega) (by omega) ?_
  refine z_iconst C (nI 1) dL_removes_228 (by decide) ?_
  refine z_goto C 233 dL_removes_229 (by decide) ?_
  exact z_zret C N dL_removes_233 rfl (rfl) (rfl)

set_option maxHeartbeats 4000000 in
set_option maxRecDepth 100000 in
theorem w_rem0f0 (E : zE) (x0 h0 h1 w0 w1 : Nat) (t : Nat → Nat) (r : Nat → Nat → Nat) (S S1 : zSt) (o kp kp1 o1 : Nat) (Q Q1 : Nat → zSt) (tx : Nat → Nat) (ln : Nat) (ps : zPs) {B B1 : Nat} (au : Nat) (g : Int32) (hG : GG S B) (hG1 : GG S1 B1) (hau : au < 4) (hz : 0 < uU S 0) (hN : Nw S 0 (lw g (uU S 0)) = false) (hD : Dm S 0 (lw g (uU S 0)) = false) (ht : tK S = true) (hm : mK S = 60) (hu : uU S1 0 = uU S 0) (m1 : zM E yX5_remove wsX5_remove 6 [.ref x0, .int (nI au), .int (nI 0), .int (nI (lw g (uU S 0)))] (WAd E x0 h0 h1 w0 t r S o kp Q) (WAd E x0 h0 h1 w0 t r S1 o1 kp1 Q1) (some (.int (-3)))) : zM E yL_removes wsL_removes 7 [.ref x0, .int (nI au), .int (nI 0), .int g] (WRd E x0 h0 h1 w0 w1 t r S o kp Q tx ln ps) (WRd E x0 h0 h1 w0 w1 t r S1 o1 kp1 Q1 tx ln ps) (some (.int (nI 1))) := by
  refine zM.of kL_removes (Nat.le_of_ble_eq_true rfl) rfl [some (.ref x0), some (.int (nI au)), some (.int (nI 0)), some (.int g), none, none, none, none, none, none, none, none, none, none] rfl (Nat.le_of_ble_eq_true rfl) ?_
  intro X eX C N
  subst eX
  have hb0 : uU S 0 ≤ 12 := gg_u hG 0
  have hb1 : uU S 1 ≤ 8 := gg_u1 hG
  have hb2 : mK S ≤ 60 := gg_M hG
  have hb3 : uU S1 0 ≤ 12 := gg_u hG1 0
  have hb4 : uU S1 1 ≤ 8 := gg_u1 hG1
  have hb5 : mK S1 ≤ 60 := gg_M hG1
  refine z_aload_n C 0 dL_removes_0 rfl rfl ?_
  refine z_iconst C (nI 0) dL_removes_1 (by decide) ?_
  refine z_iload_n C 2 dL_removes_2 rfl rfl ?_
  refine z_callVr C kX5_size gL_removes_X5_size (l_size0 X.2.1 x0 h0 w0 t S 0 hG (by decide)) dL_removes_3 [0, 1, 2, 3, 4, 5, 6, 7, 8] [] 0 rfl nd_0_1_2_3_4_5_6_7_8 rfl rfl rfl (by decide) (by decide) (Nat.le_of_ble_eq_true rfl) rfl ?_
  refine z_istore C dL_removes_6 (Nat.le_of_ble_eq_true rfl) ?_
  refine z_lv (lv' := [some (.ref x0), some (.int (nI au)), some (.int (nI 0)), some (.int g), some (.int (nI (uU S 0))), none, none, none, none, none, none, none, none, none]) rfl ?_
  refine z_iload C dL_removes_8 rfl ?_
  refine z_nif_ne_t C 30 dL_removes_10 (by decide) (by omega) (by omega) ?_
  refine z_iload_n C 3 dL_removes_30 rfl rfl ?_
  refine z_iload C dL_removes_31 rfl ?_
  refine z_callS C kL_low gL_removes_L_low (l_low X.2.1 g (uU S 0) hz (by omega)) dL_removes_33 [] rfl (by decide) (by decide) (Nat.le_of_ble_eq_true rfl) rfl ?_
  have hg_1 : lw g (uU S 0) < (uU S 0) := lw_lt g (by omega)
  refine z_istore C dL_removes_36 (Nat.le_of_ble_eq_true rfl) ?_
  refine z_lv (lv' := [some (.ref x0), some (.int (nI au)), some (.int (nI 0)), some (.int g), some (.int (nI (uU S 0))), some (.int (nI (lw g (uU S 0)))), none, none, none, none, none, none, none, none]) rfl ?_
  refine z_aload_n C 0 dL_removes_38 rfl rfl ?_
  refine z_iconst C (nI 0) dL_removes_39 (by decide) ?_
  refine z_callVr C kX5_count gL_removes_X5_count (l_cnt0 X.2.1 x0 h0 h1 w0 w1 t S o kp ln ps  hG ) dL_removes_40 [0, 1, 2, 3, 4, 5, 6, 7, 8, 9, 51] [] 0 rfl nd_0_1_2_3_4_5_6_7_8_9_51 rfl rfl rfl (by decide) (by decide) (Nat.le_of_ble_eq_true rfl) rfl ?_
  refine z_istore C dL_removes_43 (Nat.le_of_ble_eq_true rfl) ?_
  refine z_lv (lv' := [some (.ref x0), some (.int (nI au)), some (.int (nI 0)), some (.int g), some (.int (nI (uU S 0))), some (.int (nI (lw g (uU S 0)))), some (.int (nI (mK S))), none, none, none, none, none, none, none]) rfl ?_
  refine z_aload_n C 0 dL_removes_45 rfl rfl ?_
  refine z_iconst C (nI 5) dL_removes_46 (by decide) ?_
  refine z_callVr C kX5_count gL_removes_X5_count (l_cnt5y X.2.1 x0 h0 h1 w0 w1 t S o kp ln ps  hG ht) dL_removes_47 [0, 1, 2, 3, 4, 5, 6, 7, 8, 9, 51] [] 0 rfl nd_0_1_2_3_4_5_6_7_8_9_51 rfl rfl rfl (by decide) (by decide) (Nat.le_of_ble_eq_true rfl) rfl ?_
  refine z_iconst C (nI 1) dL_removes_50 (by decide) ?_
  refine z_ncmp_ne_f C 58 dL_removes_51 (by decide) (by omega) (by omega) (by omega) ?_
  refine z_iconst C (nI 1) dL_removes_54 (by decide) ?_
  refine z_goto C 59 dL_removes_55 (by decide) ?_
  refine z_istore C dL_removes_59 (Nat.le_of_ble_eq_true rfl) ?_
  refine z_lv (lv' := [some (.ref x0), some (.int (nI au)), some (.int (nI 0)), some (.int g), some (.int (nI (uU S 0))), some (.int (nI (lw g (uU S 0)))), some (.int (nI (mK S))), some (.int (nI 1)), none, none, none, none, none, none]) rfl ?_
  refine z_aload_n C 0 dL_removes_61 rfl rfl ?_
  refine z_iload_n C 2 dL_removes_62 rfl rfl ?_
  refine z_iload C dL_removes_63 rfl ?_
  refine z_iconst C (nI 0) dL_removes_65 (by decide) ?_
  refine z_callVr C kX5_line gL_removes_X5_line (l_line0n X.2.1 x0 h0 w0 t S 0 (lw g (uU S 0)) hG (by decide) hg_1 hN) dL_removes_66 [0, 1, 2, 3, 4, 5, 6, 7, 8] [] 0 rfl nd_0_1_2_3_4_5_6_7_8 rfl rfl rfl (by decide) (by decide) (Nat.le_of_ble_eq_true rfl) rfl ?_
  refine z_istore C dL_removes_69 (Nat.le_of_ble_eq_true rfl) ?_
  refine z_lv (lv' := [some (.ref x0), some (.int (nI au)), some (.int (nI 0)), some (.int g), some (.int (nI (uU S 0))), some (.int (nI (lw g (uU S 0)))), some (.int (nI (mK S))), some (.int (nI 1)), some (.int (-5)), none, none, none, none, none]) rfl ?_
  refine z_aload_n C 0 dL_removes_71 rfl rfl ?_
  refine z_iload_n C 2 dL_removes_72 rfl rfl ?_
  refine z_iload C dL_removes_73 rfl ?_
  refine z_iconst C (nI 1) dL_removes_75 (by decide) ?_
  refine z_callVr C kX5_line gL_removes_X5_line (l_line1n X.2.1 x0 h0 w0 t S 0 (lw g (uU S 0)) hG (by decide) hg_1 hD) dL_removes_76 [0, 1, 2, 3, 4, 5, 6, 7, 8] [] 0 rfl nd_0_1_2_3_4_5_6_7_8 rfl rfl rfl (by decide) (by decide) (Nat.le_of_ble_eq_true rfl) rfl ?_
  refine z_if_lt_t C 86 dL_removes_79 (by decide) (by decide) ?_
  refine z_iconst C (nI 0) dL_removes_86 (by decide) ?_
  refine z_istore C dL_removes_87 (Nat.le_of_ble_eq_true rfl) ?_
  refine z_lv (lv' := [some (.ref x0), some (.int (nI au)), some (.int (nI 0)), some (.int g), some (.int (nI (uU S 0))), some (.int (nI (lw g (uU S 0)))), some (.int (nI (mK S))), some (.int (nI 1)), some (.int (-5)), some (.int (nI 0)), none, none, none, none]) rfl ?_
  refine z_iload C dL_removes_89 rfl ?_
  refine z_if_lt_t C 109 dL_removes_91 (by decide) (by decide) ?_
  refine z_iconst C (nI 0) dL_removes_109 (by decide) ?_
  refine z_istore C dL_removes_110 (Nat.le_of_ble_eq_true rfl) ?_
  refine z_lv (lv' := [some (.ref x0), some (.int (nI au)), some (.int (nI 0)), some (.int g), some (.int (nI (uU S 0))), some (.int (nI (lw g (uU S 0)))), some (.int (nI (mK S))), some (.int (nI 1)), some (.int (-5)), some (.int (nI 0)), some (.int (nI 0)), none, none, none]) rfl ?_
  refine z_iload C dL_removes_112 rfl ?_
  refine z_nif_ne_t C 123 dL_removes_114 (by decide) (by omega) (by omega) ?_
  refine z_iload C dL_removes_123 rfl ?_
  refine z_nif_eq_t C 133 dL_removes_125 (by decide) (by omega) (by omega) ?_
  refine z_iload C dL_removes_133 rfl ?_
  refine z_nif_eq_t C 143 dL_removes_135 (by decide) (by omega) (by omega) ?_
  refine z_iload C dL_removes_143 rfl ?_
  refine z_bipush C (nI 60) dL_removes_145 (by decide) ?_
  refine z_ncmp_ne_f C 155 dL_removes_147 (by decide) (by omega) (by omega) (by omega) ?_
  refine z_bipush C (-3) dL_removes_150 (by decide) ?_
  refine z_goto C 157 dL_removes_152 (by decide) ?_
  refine z_istore C dL_removes_157 (Nat.le_of_ble_eq_true rfl) ?_
  refine z_lv (lv' := [some (.ref x0), some (.int (nI au)), some (.int (nI 0)), some (.int g), some (.int (nI (uU S 0))), some (.int (nI (lw g (uU S 0)))), some (.int (nI (mK S))), some (.int (nI 1)), some (.int (-5)), some (.int (nI 0)), some (.int (nI 0)), some (.int (-3)), none, none]) rfl ?_
  refine z_aload_n C 0 dL_removes_159 rfl rfl ?_
  refine z_iconst C (nI 4) dL_removes_160 (by decide) ?_
  refine z_callVr C kX5_count gL_removes_X5_count (l_cntK X.2.1 x0 h0 h1 w0 w1 t S o kp ln ps 3 hG (by decide)) dL_removes_161 [0, 1, 2, 3, 4, 5, 6, 7, 8, 9, 51] [] 0 rfl nd_0_1_2_3_4_5_6_7_8_9_51 rfl rfl rfl (by decide) (by decide) (Nat.le_of_ble_eq_true rfl) rfl ?_
  have hg_2 : cnS S 3 ≤ mK S := zc_le _ _
  refine z_aload_n C 0 dL_removes_164 rfl rfl ?_
  refine z_iload_n C 2 dL_removes_165 rfl rfl ?_
  refine z_iload C dL_removes_166 rfl ?_
  refine z_iconst C (nI 4) dL_removes_168 (by decide) ?_
  refine z_callVr C kX5_line gL_removes_X5_line (l_line4 X.2.1 x0 h0 w0 t S 0 (lw g (uU S 0)) hG (by decide) hg_1) dL_removes_169 [0, 1, 2, 3, 4, 5, 6, 7, 8] [.int (nI (cnS S 3))] 0 rfl nd_0_1_2_3_4_5_6_7_8 rfl rfl rfl (by decide) (by decide) (Nat.le_of_ble_eq_true rfl) rfl ?_
  refine z_iadd C dL_removes_172 ?_
  refine z_top (y := nI ((cnS S 3) + (nSt S 0 (lw g (uU S 0))))) (nI_add _ _) ?_
  refine z_iload C dL_removes_173 rfl ?_
  refine z_if_lt_t C 182 dL_removes_175 (by decide) (by decide) ?_
  refine z_iconst C (nI 0) dL_removes_182 (by decide) ?_
  refine z_iadd C dL_removes_183 ?_
  refine z_top (y := nI ((cnS S 3) + (nSt S 0 (lw g (uU S 0))))) (nI_add _ _) ?_
  refine z_iload C dL_removes_184 rfl ?_
  refine z_nif_eq_t C 193 dL_removes_186 (by decide) (by omega) (by omega) ?_
  refine z_iconst C (nI 0) dL_removes_193 (by decide) ?_
  refine z_iadd C dL_removes_194 ?_
  refine z_top (y := nI ((cnS S 3) + (nSt S 0 (lw g (uU S 0))))) (nI_add _ _) ?_
  refine z_istore C dL_removes_195 (Nat.le_of_ble_eq_true rfl) ?_
  refine z_lv (lv' := [some (.ref x0), some (.int (nI au)), some (.int (nI 0)), some (.int g), some (.int (nI (uU S 0))), some (.int (nI (lw g (uU S 0)))), some (.int (nI (mK S))), some (.int (nI 1)), some (.int (-5)), some (.int (nI 0)), some (.int (nI 0)), some (.int (-3)), some (.int (nI ((cnS S 3) + (nSt S 0 (lw g (uU S 0)))))), none]) rfl ?_
  refine z_aload_n C 0 dL_removes_197 rfl rfl ?_
  refine z_iload_n C 1 dL_removes_198 rfl rfl ?_
  refine z_iload_n C 2 dL_removes_199 rfl rfl ?_
  refine z_iload C dL_removes_200 rfl ?_
  refine z_callV (wn := (WRd X.2.1 x0 h0 h1 w0 w1 t r S1 o1 kp1 Q1 tx ln ps)) C kX5_remove gL_removes_X5_remove m1 dL_removes_202 [0, 1, 2, 3, 4, 5, 6, 7, 8, 9, 10, 11, 12, 13, 14, 15, 16, 17, 18, 19, 20, 21, 22, 23, 24, 25, 26, 27, 28, 29, 30, 31, 32, 33, 34, 35, 36, 37, 38, 39, 40, 41, 42, 43, 44, 45, 46, 47, 48, 49, 50] [] 0 rfl rfl nd_0_1_2_3_4_5_6_7_8_9_10_11_12_13_14_15_16_17_18_19_20_21_22_23_24_25_26_27_28_29_30_31_32_33_34_35_36_37_38_39_40_41_42_43_44_45_46_47_48_49_50 rfl rfl rfl (by decide) (by decide) (Nat.le_of_ble_eq_true rfl) rfl ((zput_par nd_0_1_2_3_4_5_6_7_8_9_10_11_12_13_14_15_16_17_18_19_20_21_22_23_24_25_26_27_28_29_30_31_32_33_34_35_36_37_38_39_40_41_42_43_44_45_46_47_48_49_50 rfl).trans rfl) ?_
  refine z_iload C dL_removes_205 rfl ?_
  refine z_icmp_eq_t C 212 dL_removes_207 (by decide) rfl ?_
  refine z_iload C dL_removes_212 rfl ?_
  refine z_if_ge_f C 234 dL_removes_214 (by decide) (by decide) ?_
  refine z_aload_n C 0 dL_removes_217 rfl rfl ?_
  refine z_iconst C (nI 0) dL_removes_218 (by decide) ?_
  refine z_iload_n C 2 dL_removes_219 rfl rfl ?_
  refine z_callVr C kX5_size gL_removes_X5_size (l_size0 X.2.1 x0 h0 w0 t S1 0 hG1 (by decide)) dL_removes_220 [0, 1, 2, 3, 4, 5, 6, 7, 8] [] 0 rfl nd_0_1_2_3_4_5_6_7_8 rfl rfl rfl (by decide) (by decide) (Nat.le_of_ble_eq_true rfl) rfl ?_
  refine z_iload C dL_removes_223 rfl ?_
  refine z_ncmp_ne_f C 232 dL_removes_225 (by decide) (by omega) (by omega) (by omega) ?_
  refine z_iconst C (nI 1) dL_removes_228 (by decide) ?_
  refine z_goto C 233 dL_removes_229 (by decide) ?_
  exact z_zret C N dL_removes_233 rfl (rfl) (rfl)

set_option maxHeartbeats 4000000 in
set_option maxRecDepth 100000 in
theorem w_rem0t0 (E : zE) (x0 h0 h1 w0 w1 : Nat) (t : Nat → Nat) (r : Nat → Nat → Nat) (S S1 : zSt) (o kp kp1 o1 : Nat) (Q Q1 : Nat → zSt) (tx : Nat → Nat) (ln : Nat) (ps : zPs) {B B1 : Nat} (au : Nat) (g : Int32) (hG : GG S B) (hG1 : GG S1 B1) (hau : au < 4) (hz : 0 < uU S 0) (hN : Nw S 0 (lw g (uU S 0)) = false) (hD : Dm S 0 (lw g (uU S 0)) = false) (ht : tK S = true) (hm : mK S < 60) (hu : uU S1 0 = uU S 0) (hD1 : Dm S1 0 (lw g (uU S 0)) = true) (hx1 : xR S1 0 (lw g (uU S 0)) = mK S) (m1 : zM E yX5_remove wsX5_remove 6 [.ref x0, .int (nI au), .int (nI 0), .int (nI (lw g (uU S 0)))] (WAd E x0 h0 h1 w0 t r S o kp Q) (WAd E x0 h0 h1 w0 t r S1 o1 kp1 Q1) (some (.int (nI (mK S))))) : zM E yL_removes wsL_removes 7 [.ref x0, .int (nI au), .int (nI 0), .int g] (WRd E x0 h0 h1 w0 w1 t r S o kp Q tx ln ps) (WRd E x0 h0 h1 w0 w1 t r S1 o1 kp1 Q1 tx ln ps) (some (.int (nI 1))) := by
  refine zM.of kL_removes (Nat.le_of_ble_eq_true rfl) rfl [some (.ref x0), some (.int (nI au)), some (.int (nI 0)), some (.int g), none, none, none, none, none, none, none, none, none, none] rfl (Nat.le_of_ble_eq_true rfl) ?_
  intro X eX C N
  subst eX
  have hb0 : uU S 0 ≤ 12 := gg_u hG 0
  have hb1 : uU S 1 ≤ 8 := gg_u1 hG
  have hb2 : mK S ≤ 60 := gg_M hG
  have hb3 : uU S1 0 ≤ 12 := gg_u hG1 0
  have hb4 : uU S1 1 ≤ 8 := gg_u1 hG1
  have hb5 : mK S1 ≤ 60 := gg_M hG1
  refine z_aload_n C 0 dL_removes_0 rfl rfl ?_
  refine z_iconst C (nI 0) dL_removes_1 (by decide) ?_
  refine z_iload_n C 2 dL_removes_2 rfl rfl ?_
  refine z_callVr C kX5_size gL_removes_X5_size (l_size0 X.2.1 x0 h0 w0 t S 0 hG (by decide)) dL_removes_3 [0, 1, 2, 3, 4, 5, 6, 7, 8] [] 0 rfl nd_0_1_2_3_4_5_6_7_8 rfl rfl rfl (by decide) (by decide) (Nat.le_of_ble_eq_true rfl) rfl ?_
  refine z_istore C dL_removes_6 (Nat.le_of_ble_eq_true rfl) ?_
  refine z_lv (lv' := [some (.ref x0), some (.int (nI au)), some (.int (nI 0)), some (.int g), some (.int (nI (uU S 0))), none, none, none, none, none, none, none, none, none]) rfl ?_
  refine z_iload C dL_removes_8 rfl ?_
  refine z_nif_ne_t C 30 dL_removes_10 (by decide) (by omega) (by omega) ?_
  refine z_iload_n C 3 dL_removes_30 rfl rfl ?_
  refine z_iload C dL_removes_31 rfl ?_
  refine z_callS C kL_low gL_removes_L_low (l_low X.2.1 g (uU S 0) hz (by omega)) dL_removes_33 [] rfl (by decide) (by decide) (Nat.le_of_ble_eq_true rfl) rfl ?_
  have hg_1 : lw g (uU S 0) < (uU S 0) := lw_lt g (by omega)
  refine z_istore C dL_removes_36 (Nat.le_of_ble_eq_true rfl) ?_
  refine z_lv (lv' := [some (.ref x0), some (.int (nI au)), some (.int (nI 0)), some (.int g), some (.int (nI (uU S 0))), some (.int (nI (lw g (uU S 0)))), none, none, none, none, none, none, none, none]) rfl ?_
  refine z_aload_n C 0 dL_removes_38 rfl rfl ?_
  refine z_iconst C (nI 0) dL_removes_39 (by decide) ?_
  refine z_callVr C kX5_count gL_removes_X5_count (l_cnt0 X.2.1 x0 h0 h1 w0 w1 t S o kp ln ps  hG ) dL_removes_40 [0, 1, 2, 3, 4, 5, 6, 7, 8, 9, 51] [] 0 rfl nd_0_1_2_3_4_5_6_7_8_9_51 rfl rfl rfl (by decide) (by decide) (Nat.le_of_ble_eq_true rfl) rfl ?_
  refine z_istore C dL_removes_43 (Nat.le_of_ble_eq_true rfl) ?_
  refine z_lv (lv' := [some (.ref x0), some (.int (nI au)), some (.int (nI 0)), some (.int g), some (.int (nI (uU S 0))), some (.int (nI (lw g (uU S 0)))), some (.int (nI (mK S))), none, none, none, none, none, none, none]) rfl ?_
  refine z_aload_n C 0 dL_removes_45 rfl rfl ?_
  refine z_iconst C (nI 5) dL_removes_46 (by decide) ?_
  refine z_callVr C kX5_count gL_removes_X5_count (l_cnt5y X.2.1 x0 h0 h1 w0 w1 t S o kp ln ps  hG ht) dL_removes_47 [0, 1, 2, 3, 4, 5, 6, 7, 8, 9, 51] [] 0 rfl nd_0_1_2_3_4_5_6_7_8_9_51 rfl rfl rfl (by decide) (by decide) (Nat.le_of_ble_eq_true rfl) rfl ?_
  refine z_iconst C (nI 1) dL_removes_50 (by decide) ?_
  refine z_ncmp_ne_f C 58 dL_removes_51 (by decide) (by omega) (by omega) (by omega) ?_
  refine z_iconst C (nI 1) dL_removes_54 (by decide) ?_
  refine z_goto C 59 dL_removes_55 (by decide) ?_
  refine z_istore C dL_removes_59 (Nat.le_of_ble_eq_true rfl) ?_
  refine z_lv (lv' := [some (.ref x0), some (.int (nI au)), some (.int (nI 0)), some (.int g), some (.int (nI (uU S 0))), some (.int (nI (lw g (uU S 0)))), some (.int (nI (mK S))), some (.int (nI 1)), none, none, none, none, none, none]) rfl ?_
  refine z_aload_n C 0 dL_removes_61 rfl rfl ?_
  refine z_iload_n C 2 dL_removes_62 rfl rfl ?_
  refine z_iload C dL_removes_63 rfl ?_
  refine z_iconst C (nI 0) dL_removes_65 (by decide) ?_
  refine z_callVr C kX5_line gL_removes_X5_line (l_line0n X.2.1 x0 h0 w0 t S 0 (lw g (uU S 0)) hG (by decide) hg_1 hN) dL_removes_66 [0, 1, 2, 3, 4, 5, 6, 7, 8] [] 0 rfl nd_0_1_2_3_4_5_6_7_8 rfl rfl rfl (by decide) (by decide) (Nat.le_of_ble_eq_true rfl) rfl ?_
  refine z_istore C dL_removes_69 (Nat.le_of_ble_eq_true rfl) ?_
  refine z_lv (lv' := [some (.ref x0), some (.int (nI au)), some (.int (nI 0)), some (.int g), some (.int (nI (uU S 0))), some (.int (nI (lw g (uU S 0)))), some (.int (nI (mK S))), some (.int (nI 1)), some (.int (-5)), none, none, none, none, none]) rfl ?_
  refine z_aload_n C 0 dL_removes_71 rfl rfl ?_
  refine z_iload_n C 2 dL_removes_72 rfl rfl ?_
  refine z_iload C dL_removes_73 rfl ?_
  refine z_iconst C (nI 1) dL_removes_75 (by decide) ?_
  refine z_callVr C kX5_line gL_removes_X5_line (l_line1n X.2.1 x0 h0 w0 t S 0 (lw g (uU S 0)) hG (by decide) hg_1 hD) dL_removes_76 [0, 1, 2, 3, 4, 5, 6, 7, 8] [] 0 rfl nd_0_1_2_3_4_5_6_7_8 rfl rfl rfl (by decide) (by decide) (Nat.le_of_ble_eq_true rfl) rfl ?_
  refine z_if_lt_t C 86 dL_removes_79 (by decide) (by decide) ?_
  refine z_iconst C (nI 0) dL_removes_86 (by decide) ?_
  refine z_istore C dL_removes_87 (Nat.le_of_ble_eq_true rfl) ?_
  refine z_lv (lv' := [some (.ref x0), some (.int (nI au)), some (.int (nI 0)), some (.int g), some (.int (nI (uU S 0))), some (.int (nI (lw g (uU S 0)))), some (.int (nI (mK S))), some (.int (nI 1)), some (.int (-5)), some (.int (nI 0)), none, none, none, none]) rfl ?_
  refine z_iload C dL_removes_89 rfl ?_
  refine z_if_lt_t C 109 dL_removes_91 (by decide) (by decide) ?_
  refine z_iconst C (nI 0) dL_removes_109 (by decide) ?_
  refine z_istore C dL_removes_110 (Nat.le_of_ble_eq_true rfl) ?_
  refine z_lv (lv' := [some (.ref x0), some (.int (nI au)), some (.int (nI 0)), some (.int g), some (.int (nI (uU S 0))), some (.int (nI (lw g (uU S 0)))), some (.int (nI (mK S))), some (.int (nI 1)), some (.int (-5)), some (.int (nI 0)), some (.int (nI 0)), none, none, none]) rfl ?_
  refine z_iload C dL_removes_112 rfl ?_
  refine z_nif_ne_t C 123 dL_removes_114 (by decide) (by omega) (by omega) ?_
  refine z_iload C dL_removes_123 rfl ?_
  refine z_nif_eq_t C 133 dL_removes_125 (by decide) (by omega) (by omega) ?_
  refine z_iload C dL_removes_133 rfl ?_
  refine z_nif_eq_t C 143 dL_removes_135 (by decide) (by omega) (by omega) ?_
  refine z_iload C dL_removes_143 rfl ?_
  refine z_bipush C (nI 60) dL_removes_145 (by decide) ?_
  refine z_ncmp_ne_t C 155 dL_removes_147 (by decide) (by omega) (by omega) (by omega) ?_
  refine z_iload C dL_removes_155 rfl ?_
  refine z_istore C dL_removes_157 (Nat.le_of_ble_eq_true rfl) ?_
  refine z_lv (lv' := [some (.ref x0), some (.int (nI au)), some (.int (nI 0)), some (.int g), some (.int (nI (uU S 0))), some (.int (nI (lw g (uU S 0)))), some (.int (nI (mK S))), some (.int (nI 1)), some (.int (-5)), some (.int (nI 0)), some (.int (nI 0)), some (.int (nI (mK S))), none, none]) rfl ?_
  refine z_aload_n C 0 dL_removes_159 rfl rfl ?_
  refine z_iconst C (nI 4) dL_removes_160 (by decide) ?_
  refine z_callVr C kX5_count gL_removes_X5_count (l_cntK X.2.1 x0 h0 h1 w0 w1 t S o kp ln ps 3 hG (by decide)) dL_removes_161 [0, 1, 2, 3, 4, 5, 6, 7, 8, 9, 51] [] 0 rfl nd_0_1_2_3_4_5_6_7_8_9_51 rfl rfl rfl (by decide) (by decide) (Nat.le_of_ble_eq_true rfl) rfl ?_
  have hg_2 : cnS S 3 ≤ mK S := zc_le _ _
  refine z_aload_n C 0 dL_removes_164 rfl rfl ?_
  refine z_iload_n C 2 dL_removes_165 rfl rfl ?_
  refine z_iload C dL_removes_166 rfl ?_
  refine z_iconst C (nI 4) dL_removes_168 (by decide) ?_
  refine z_callVr C kX5_line gL_removes_X5_line (l_line4 X.2.1 x0 h0 w0 t S 0 (lw g (uU S 0)) hG (by decide) hg_1) dL_removes_169 [0, 1, 2, 3, 4, 5, 6, 7, 8] [.int (nI (cnS S 3))] 0 rfl nd_0_1_2_3_4_5_6_7_8 rfl rfl rfl (by decide) (by decide) (Nat.le_of_ble_eq_true rfl) rfl ?_
  refine z_iadd C dL_removes_172 ?_
  refine z_top (y := nI ((cnS S 3) + (nSt S 0 (lw g (uU S 0))))) (nI_add _ _) ?_
  refine z_iload C dL_removes_173 rfl ?_
  refine z_if_lt_t C 182 dL_removes_175 (by decide) (by decide) ?_
  refine z_iconst C (nI 0) dL_removes_182 (by decide) ?_
  refine z_iadd C dL_removes_183 ?_
  refine z_top (y := nI ((cnS S 3) + (nSt S 0 (lw g (uU S 0))))) (nI_add _ _) ?_
  refine z_iload C dL_removes_184 rfl ?_
  refine z_nif_eq_t C 193 dL_removes_186 (by decide) (by omega) (by omega) ?_
  refine z_iconst C (nI 0) dL_removes_193 (by decide) ?_
  refine z_iadd C dL_removes_194 ?_
  refine z_top (y := nI ((cnS S 3) + (nSt S 0 (lw g (uU S 0))))) (nI_add _ _) ?_
  refine z_istore C dL_removes_195 (Nat.le_of_ble_eq_true rfl) ?_
  refine z_lv (lv' := [some (.ref x0), some (.int (nI au)), some (.int (nI 0)), some (.int g), some (.int (nI (uU S 0))), some (.int (nI (lw g (uU S 0)))), some (.int (nI (mK S))), some (.int (nI 1)), some (.int (-5)), some (.int (nI 0)), some (.int (nI 0)), some (.int (nI (mK S))), some (.int (nI ((cnS S 3) + (nSt S 0 (lw g (uU S 0)))))), none]) rfl ?_
  refine z_aload_n C 0 dL_removes_197 rfl rfl ?_
  refine z_iload_n C 1 dL_removes_198 rfl rfl ?_
  refine z_iload_n C 2 dL_removes_199 rfl rfl ?_
  refine z_iload C dL_removes_200 rfl ?_
  refine z_callV (wn := (WRd X.2.1 x0 h0 h1 w0 w1 t r S1 o1 kp1 Q1 tx ln ps)) C kX5_remove gL_removes_X5_remove m1 dL_removes_202 [0, 1, 2, 3, 4, 5, 6, 7, 8, 9, 10, 11, 12, 13, 14, 15, 16, 17, 18, 19, 20, 21, 22, 23, 24, 25, 26, 27, 28, 29, 30, 31, 32, 33, 34, 35, 36, 37, 38, 39, 40, 41, 42, 43, 44, 45, 46, 47, 48, 49, 50] [] 0 rfl rfl nd_0_1_2_3_4_5_6_7_8_9_10_11_12_13_14_15_16_17_18_19_20_21_22_23_24_25_26_27_28_29_30_31_32_33_34_35_36_37_38_39_40_41_42_43_44_45_46_47_48_49_50 rfl rfl rfl (by decide) (by decide) (Nat.le_of_ble_eq_true rfl) rfl ((zput_par nd_0_1_2_3_4_5_6_7_8_9_10_11_12_13_14_15_16_17_18_19_20_21_22_23_24_25_26_27_28_29_30_31_32_33_34_35_36_37_38_39_40_41_42_43_44_45_46_47_48_49_50 rfl).trans rfl) ?_
  refine z_iload C dL_removes_205 rfl ?_
  refine z_ncmp_eq_t C 212 dL_removes_207 (by decide) (by omega) (by omega) (by omega) ?_
  refine z_iload C dL_removes_212 rfl ?_
  refine z_nif_ge_t C 234 dL_removes_214 (by decide) (by omega) (by trivial) ?_
  refine z_iload C dL_removes_234 rfl ?_
  refine z_nif_eq_f C 244 dL_removes_236 (by decide) (by omega) (by omega) ?_
  refine z_iload C dL_removes_239 rfl ?_
  refine z_nif_eq_t C 248 dL_removes_241 (by decide) (by omega) (by omega) ?_
  refine z_iconst C (nI 0) dL_removes_248 (by decide) ?_
  refine z_istore C dL_removes_249 (Nat.le_of_ble_eq_true rfl) ?_
  refine z_lv (lv' := [some (.ref x0), some (.int (nI au)), some (.int (nI 0)), some (.int g), some (.int (nI (uU S 0))), some (.int (nI (lw g (uU S 0)))), some (.int (nI (mK S))), some (.int (nI 1)), some (.int (-5)), some (.int (nI 0)), some (.int (nI 0)), some (.int (nI (mK S))), some (.int (nI ((cnS S 3) + (nSt S 0 (lw g (uU S 0)))))), some (.int (nI 0))]) rfl ?_
  refine z_aload_n C 0 dL_removes_251 rfl rfl ?_
  refine z_iconst C (nI 0) dL_removes_252 (by decide) ?_
  refine z_iload_n C 2 dL_removes_253 rfl rfl ?_
  refine z_callVr C kX5_size gL_removes_X5_size (l_size0 X.2.1 x0 h0 w0 t S1 0 hG1 (by decide)) dL_removes_254 [0, 1, 2, 3, 4, 5, 6, 7, 8] [] 0 rfl nd_0_1_2_3_4_5_6_7_8 rfl rfl rfl (by decide) (by decide) (Nat.le_of_ble_eq_true rfl) rfl ?_
  refine z_iload C dL_removes_257 rfl ?_
  refine z_nif_eq_t C 269 dL_removes_259 (by decide) (by omega) (by omega) ?_
  refine z_iload C dL_removes_269 rfl ?_
  refine z_ncmp_ne_f C 309 dL_removes_271 (by decide) (by omega) (by omega) (by omega) ?_
  refine z_iload C dL_removes_274 rfl ?_
  refine z_nif_eq_t C 292 dL_removes_276 (by decide) (by omega) (by omega) ?_
  refine z_aload_n C 0 dL_removes_292 rfl rfl ?_
  refine z_iload_n C 2 dL_removes_293 rfl rfl ?_
  refine z_iload C dL_removes_294 rfl ?_
  refine z_iconst C (nI 1) dL_removes_296 (by decide) ?_
  refine z_callVr C kX5_line gL_removes_X5_line (l_line1y X.2.1 x0 h0 w0 t S1 0 (lw g (uU S 0)) hG1 (by decide) (by omega) hD1) dL_removes_297 [0, 1, 2, 3, 4, 5, 6, 7, 8] [] 0 rfl nd_0_1_2_3_4_5_6_7_8 rfl rfl rfl (by decide) (by decide) (Nat.le_of_ble_eq_true rfl) rfl ?_
  refine z_iload C dL_removes_300 rfl ?_
  refine z_ncmp_ne_f C 309 dL_removes_302 (by decide) (by omega) (by omega) (by omega) ?_
  refine z_iconst C (nI 1) dL_removes_305 (by decide) ?_
  refine z_goto C 310 dL_removes_306 (by decide) ?_
  exact z_zret C N dL_removes_310 rfl (rfl) (rfl)

set_option maxHeartbeats 4000000 in
set_option maxRecDepth 100000 in
theorem w_rem0u10 (E : zE) (x0 h0 h1 w0 w1 : Nat) (t : Nat → Nat) (r : Nat → Nat → Nat) (S S1 : zSt) (o kp kp1 o1 : Nat) (Q Q1 : Nat → zSt) (tx : Nat → Nat) (ln : Nat) (ps : zPs) {B B1 : Nat} (au : Nat) (g : Int32) (hG : GG S B) (hG1 : GG S1 B1) (hau : au < 4) (hz : 0 < uU S 0) (hN : Nw S 0 (lw g (uU S 0)) = true) (hD : Dm S 0 (lw g (uU S 0)) = false) (ht : tK S = false) (hu : uU S1 0 + 1 = uU S 0) (hc : cnS S1 3 = cnS S 3 + nSt S 0 (lw g (uU S 0)) + 1) (hc6 : cnS S1 3 ≤ 60) (m1 : zM E yX5_remove wsX5_remove 6 [.ref x0, .int (nI au), .int (nI 0), .int (nI (lw g (uU S 0)))] (WAd E x0 h0 h1 w0 t r S o kp Q) (WAd E x0 h0 h1 w0 t r S1 o1 kp1 Q1) (some (.int (nI 1000)))) : zM E yL_removes wsL_removes 7 [.ref x0, .int (nI au), .int (nI 0), .int g] (WRd E x0 h0 h1 w0 w1 t r S o kp Q tx ln ps) (WRd E x0 h0 h1 w0 w1 t r S1 o1 kp1 Q1 tx ln ps) (some (.int (nI 1))) := by
  refine zM.of kL_removes (Nat.le_of_ble_eq_true rfl) rfl [some (.ref x0), some (.int (nI au)), some (.int (nI 0)), some (.int g), none, none, none, none, none, none, none, none, none, none] rfl (Nat.le_of_ble_eq_true rfl) ?_
  intro X eX C N
  subst eX
  have hb0 : uU S 0 ≤ 12 := gg_u hG 0
  have hb1 : uU S 1 ≤ 8 := gg_u1 hG
  have hb2 : mK S ≤ 60 := gg_M hG
  have hb3 : uU S1 0 ≤ 12 := gg_u hG1 0
  have hb4 : uU S1 1 ≤ 8 := gg_u1 hG1
  have hb5 : mK S1 ≤ 60 := gg_M hG1
  have hxm : xI S 0 (lw g (uU S 0)) < mK S := (Nw_t hN).1
  have hxa : aN S (xI S 0 (lw g (uU S 0))) < 4 := (aN_e hG hxm).2
  refine z_aload_n C 0 dL_removes_0 rfl rfl ?_
  refine z_iconst C (nI 0) dL_removes_1 (by decide) ?_
  refine z_iload_n C 2 dL_removes_2 rfl rfl ?_
  refine z_callVr C kX5_size gL_removes_X5_size (l_size0 X.2.1 x0 h0 w0 t S 0 hG (by decide)) dL_removes_3 [0, 1, 2, 3, 4, 5, 6, 7, 8] [] 0 rfl nd_0_1_2_3_4_5_6_7_8 rfl rfl rfl (by decide) (by decide) (Nat.le_of_ble_eq_true rfl) rfl ?_
  refine z_istore C dL_removes_6 (Nat.le_of_ble_eq_true rfl) ?_
  refine z_lv (lv' := [some (.ref x0), some (.int (nI au)), some (.int (nI 0)), some (.int g), some (.int (nI (uU S 0))), none, none, none, none, none, none, none, none, none]) rfl ?_
  refine z_iload C dL_removes_8 rfl ?_
  refine z_nif_ne_t C 30 dL_removes_10 (by decide) (by omega) (by omega) ?_
  refine z_iload_n C 3 dL_removes_30 rfl rfl ?_
  refine z_iload C dL_removes_31 rfl ?_
  refine z_callS C kL_low gL_removes_L_low (l_low X.2.1 g (uU S 0) hz (by omega)) dL_removes_33 [] rfl (by decide) (by decide) (Nat.le_of_ble_eq_true rfl) rfl ?_
  have hg_1 : lw g (uU S 0) < (uU S 0) := lw_lt g (by omega)
  refine z_istore C dL_removes_36 (Nat.le_of_ble_eq_true rfl) ?_
  refine z_lv (lv' := [some (.ref x0), some (.int (nI au)), some (.int (nI 0)), some (.int g), some (.int (nI (uU S 0))), some (.int (nI (lw g (uU S 0)))), none, none, none, none, none, none, none, none]) rfl ?_
  refine z_aload_n C 0 dL_removes_38 rfl rfl ?_
  refine z_iconst C (nI 0) dL_removes_39 (by decide) ?_
  refine z_callVr C kX5_count gL_removes_X5_count (l_cnt0 X.2.1 x0 h0 h1 w0 w1 t S o kp ln ps  hG ) dL_removes_40 [0, 1, 2, 3, 4, 5, 6, 7, 8, 9, 51] [] 0 rfl nd_0_1_2_3_4_5_6_7_8_9_51 rfl rfl rfl (by decide) (by decide) (Nat.le_of_ble_eq_true rfl) rfl ?_
  refine z_istore C dL_removes_43 (Nat.le_of_ble_eq_true rfl) ?_
  refine z_lv (lv' := [some (.ref x0), some (.int (nI au)), some (.int (nI 0)), some (.int g), some (.int (nI (uU S 0))), some (.int (nI (lw g (uU S 0)))), some (.int (nI (mK S))), none, none, none, none, none, none, none]) rfl ?_
  refine z_aload_n C 0 dL_removes_45 rfl rfl ?_
  refine z_iconst C (nI 5) dL_removes_46 (by decide) ?_
  refine z_callVr C kX5_count gL_removes_X5_count (l_cnt5n X.2.1 x0 h0 h1 w0 w1 t S o kp ln ps  hG ht) dL_removes_47 [0, 1, 2, 3, 4, 5, 6, 7, 8, 9, 51] [] 0 rfl nd_0_1_2_3_4_5_6_7_8_9_51 rfl rfl rfl (by decide) (by decide) (Nat.le_of_ble_eq_true rfl) rfl ?_
  refine z_iconst C (nI 1) dL_removes_50 (by decide) ?_
  refine z_ncmp_ne_t C 58 dL_removes_51 (by decide) (by omega) (by omega) (by omega) ?_
  refine z_iconst C (nI 0) dL_removes_58 (by decide) ?_
  refine z_istore C dL_removes_59 (Nat.le_of_ble_eq_true rfl) ?_
  refine z_lv (lv' := [some (.ref x0), some (.int (nI au)), some (.int (nI 0)), some (.int g), some (.int (nI (uU S 0))), some (.int (nI (lw g (uU S 0)))), some (.int (nI (mK S))), some (.int (nI 0)), none, none, none, none, none, none]) rfl ?_
  refine z_aload_n C 0 dL_removes_61 rfl rfl ?_
  refine z_iload_n C 2 dL_removes_62 rfl rfl ?_
  refine z_iload C dL_removes_63 rfl ?_
  refine z_iconst C (nI 0) dL_removes_65 (by decide) ?_
  refine z_callVr C kX5_line gL_removes_X5_line (l_line0y X.2.1 x0 h0 w0 t S 0 (lw g (uU S 0)) hG (by decide) hg_1 hN) dL_removes_66 [0, 1, 2, 3, 4, 5, 6, 7, 8] [] 0 rfl nd_0_1_2_3_4_5_6_7_8 rfl rfl rfl (by decide) (by decide) (Nat.le_of_ble_eq_true rfl) rfl ?_
  refine z_istore C dL_removes_69 (Nat.le_of_ble_eq_true rfl) ?_
  refine z_lv (lv' := [some (.ref x0), some (.int (nI au)), some (.int (nI 0)), some (.int g), some (.int (nI (uU S 0))), some (.int (nI (lw g (uU S 0)))), some (.int (nI (mK S))), some (.int (nI 0)), some (.int (nI (xI S 0 (lw g (uU S 0))))), none, none, none, none, none]) rfl ?_
  refine z_aload_n C 0 dL_removes_71 rfl rfl ?_
  refine z_iload_n C 2 dL_removes_72 rfl rfl ?_
  refine z_iload C dL_removes_73 rfl ?_
  refine z_iconst C (nI 1) dL_removes_75 (by decide) ?_
  refine z_callVr C kX5_line gL_removes_X5_line (l_line1n X.2.1 x0 h0 w0 t S 0 (lw g (uU S 0)) hG (by decide) hg_1 hD) dL_removes_76 [0, 1, 2, 3, 4, 5, 6, 7, 8] [] 0 rfl nd_0_1_2_3_4_5_6_7_8 rfl rfl rfl (by decide) (by decide) (Nat.le_of_ble_eq_true rfl) rfl ?_
  refine z_if_lt_t C 86 dL_removes_79 (by decide) (by decide) ?_
  refine z_iconst C (nI 0) dL_removes_86 (by decide) ?_
  refine z_istore C dL_removes_87 (Nat.le_of_ble_eq_true rfl) ?_
  refine z_lv (lv' := [some (.ref x0), some (.int (nI au)), some (.int (nI 0)), some (.int g), some (.int (nI (uU S 0))), some (.int (nI (lw g (uU S 0)))), some (.int (nI (mK S))), some (.int (nI 0)), some (.int (nI (xI S 0 (lw g (uU S 0))))), some (.int (nI 0)), none, none, none, none]) rfl ?_
  refine z_iload C dL_removes_89 rfl ?_
  refine z_nif_lt_f C 109 dL_removes_91 (by decide) (by omega) (by trivial) ?_
  refine z_aload_n C 0 dL_removes_94 rfl rfl ?_
  refine z_iload C dL_removes_95 rfl ?_
  refine z_iconst C (nI 1) dL_removes_97 (by decide) ?_
  refine z_callVr C kX5_change gL_removes_X5_change (l_chg1 X.2.1 x0 h0 w0 t S (xI S 0 (lw g (uU S 0))) hG hxm) dL_removes_98 [0, 1, 2, 3, 4, 5, 6, 7, 8] [] 0 rfl nd_0_1_2_3_4_5_6_7_8 rfl rfl rfl (by decide) (by decide) (Nat.le_of_ble_eq_true rfl) rfl ?_
  refine z_iload_n C 1 dL_removes_101 rfl rfl ?_
  refine z_ncmp_ne C 109 dL_removes_102 (by decide) (by omega) (by omega) (fun h_2 => ?_) (fun h_2 => ?_)
  · refine z_iconst C (nI 0) dL_removes_109 (by decide) ?_
    refine z_istore C dL_removes_110 (Nat.le_of_ble_eq_true rfl) ?_
    refine z_lv (lv' := [some (.ref x0), some (.int (nI au)), some (.int (nI 0)), some (.int g), some (.int (nI (uU S 0))), some (.int (nI (lw g (uU S 0)))), some (.int (nI (mK S))), some (.int (nI 0)), some (.int (nI (xI S 0 (lw g (uU S 0))))), some (.int (nI 0)), some (.int (nI 0)), none, none, none]) rfl ?_
    refine z_iload C dL_removes_112 rfl ?_
    refine z_nif_ne_f C 123 dL_removes_114 (by decide) (by omega) (by omega) ?_
    refine z_sipush C (nI 1000) dL_removes_117 (by decide) ?_
    refine z_goto C 157 dL_removes_120 (by decide) ?_
    refine z_istore C dL_removes_157 (Nat.le_of_ble_eq_true rfl) ?_
    refine z_lv (lv' := [some (.ref x0), some (.int (nI au)), some (.int (nI 0)), some (.int g), some (.int (nI (uU S 0))), some (.int (nI (lw g (uU S 0)))), some (.int (nI (mK S))), some (.int (nI 0)), some (.int (nI (xI S 0 (lw g (uU S 0))))), some (.int (nI 0)), some (.int (nI 0)), some (.int (nI 1000)), none, none]) rfl ?_
    refine z_aload_n C 0 dL_removes_159 rfl rfl ?_
    refine z_iconst C (nI 4) dL_removes_160 (by decide) ?_
    refine z_callVr C kX5_count gL_removes_X5_count (l_cntK X.2.1 x0 h0 h1 w0 w1 t S o kp ln ps 3 hG (by decide)) dL_removes_161 [0, 1, 2, 3, 4, 5, 6, 7, 8, 9, 51] [] 0 rfl nd_0_1_2_3_4_5_6_7_8_9_51 rfl rfl rfl (by decide) (by decide) (Nat.le_of_ble_eq_true rfl) rfl ?_
    have hg_3 : cnS S 3 ≤ mK S := zc_le _ _
    refine z_aload_n C 0 dL_removes_164 rfl rfl ?_
    refine z_iload_n C 2 dL_removes_165 rfl rfl ?_
    refine z_iload C dL_removes_166 rfl ?_
    refine z_iconst C (nI 4) dL_removes_168 (by decide) ?_
    refine z_callVr C kX5_line gL_removes_X5_line (l_line4 X.2.1 x0 h0 w0 t S 0 (lw g (uU S 0)) hG (by decide) hg_1) dL_removes_169 [0, 1, 2, 3, 4, 5, 6, 7, 8] [.int (nI (cnS S 3))] 0 rfl nd_0_1_2_3_4_5_6_7_8 rfl rfl rfl (by decide) (by decide) (Nat.le_of_ble_eq_true rfl) rfl ?_
    refine z_iadd C dL_removes_172 ?_
    refine z_top (y := nI ((cnS S 3) + (nSt S 0 (lw g (uU S 0))))) (nI_add _ _) ?_
    refine z_iload C dL_removes_173 rfl ?_
    refine z_nif_lt_f C 182 dL_removes_175 (by decide) (by omega) (by trivial) ?_
    refine z_iconst C (nI 1) dL_removes_178 (by decide) ?_
    refine z_goto C 183 dL_removes_179 (by decide) ?_
    refine z_iadd C dL_removes_183 ?_
    refine z_top (y := nI (((cnS S 3) + (nSt S 0 (lw g (uU S 0)))) + 1)) (nI_add _ _) ?_
    refine z_iload C dL_removes_184 rfl ?_
    refine z_nif_eq_t C 193 dL_removes_186 (by decide) (by omega) (by omega) ?_
    refine z_iconst C (nI 0) dL_removes_193 (by decide) ?_
    refine z_iadd C dL_removes_194 ?_
    refine z_top (y := nI (((cnS S 3) + (nSt S 0 (lw g (uU S 0)))) + 1)) (nI_add _ _) ?_
    refine z_istore C dL_removes_195 (Nat.le_of_ble_eq_true rfl) ?_
    refine z_lv (lv' := [some (.ref x0), some (.int (nI au)), some (.int (nI 0)), some (.int g), some (.int (nI (uU S 0))), some (.int (nI (lw g (uU S 0)))), some (.int (nI (mK S))), some (.int (nI 0)), some (.int (nI (xI S 0 (lw g (uU S 0))))), some (.int (nI 0)), some (.int (nI 0)), some (.int (nI 1000)), some (.int (nI (((cnS S 3) + (nSt S 0 (lw g (uU S 0)))) + 1))), none]) rfl ?_
    refine z_aload_n C 0 dL_removes_197 rfl rfl ?_
    refine z_iload_n C 1 dL_removes_198 rfl rfl ?_
    refine z_iload_n C 2 dL_removes_199 rfl rfl ?_
    refine z_iload C dL_removes_200 rfl ?_
    refine z_callV (wn := (WRd X.2.1 x0 h0 h1 w0 w1 t r S1 o1 kp1 Q1 tx ln ps)) C kX5_remove gL_removes_X5_remove m1 dL_removes_202 [0, 1, 2, 3, 4, 5, 6, 7, 8, 9, 10, 11, 12, 13, 14, 15, 16, 17, 18, 19, 20, 21, 22, 23, 24, 25, 26, 27, 28, 29, 30, 31, 32, 33, 34, 35, 36, 37, 38, 39, 40, 41, 42, 43, 44, 45, 46, 47, 48, 49, 50] [] 0 rfl rfl nd_0_1_2_3_4_5_6_7_8_9_10_11_12_13_14_15_16_17_18_19_20_21_22_23_24_25_26_27_28_29_30_31_32_33_34_35_36_37_38_39_40_41_42_43_44_45_46_47_48_49_50 rfl rfl rfl (by decide) (by decide) (Nat.le_of_ble_eq_true rfl) rfl ((zput_par nd_0_1_2_3_4_5_6_7_8_9_10_11_12_13_14_15_16_17_18_19_20_21_22_23_24_25_26_27_28_29_30_31_32_33_34_35_36_37_38_39_40_41_42_43_44_45_46_47_48_49_50 rfl).trans rfl) ?_
    refine z_iload C dL_removes_205 rfl ?_
    refine z_ncmp_eq_t C 212 dL_removes_207 (by decide) (by omega) (by omega) (by omega) ?_
    refine z_iload C dL_removes_212 rfl ?_
    refine z_nif_ge_t C 234 dL_removes_214 (by decide) (by omega) (by trivial) ?_
    refine z_iload C dL_removes_234 rfl ?_
    refine z_nif_eq_t C 244 dL_removes_236 (by decide) (by omega) (by omega) ?_
    refine z_iconst C (nI 1) dL_removes_244 (by decide) ?_
    refine z_goto C 249 dL_removes_245 (by decide) ?_
    refine z_istore C dL_removes_249 (Nat.le_of_ble_eq_true rfl) ?_
    refine z_lv (lv' := [some (.ref x0), some (.int (nI au)), some (.int (nI 0)), some (.int g), some (.int (nI (uU S 0))), some (.int (nI (lw g (uU S 0)))), some (.int (nI (mK S))), some (.int (nI 0)), some (.int (nI (xI S 0 (lw g (uU S 0))))), some (.int (nI 0)), some (.int (nI 0)), some (.int (nI 1000)), some (.int (nI (((cnS S 3) + (nSt S 0 (lw g (uU S 0)))) + 1))), some (.int (nI 1))]) rfl ?_
    refine z_aload_n C 0 dL_removes_251 rfl rfl ?_
    refine z_iconst C (nI 0) dL_removes_252 (by decide) ?_
    refine z_iload_n C 2 dL_removes_253 rfl rfl ?_
    refine z_callVr C kX5_size gL_removes_X5_size (l_size0 X.2.1 x0 h0 w0 t S1 0 hG1 (by decide)) dL_removes_254 [0, 1, 2, 3, 4, 5, 6, 7, 8] [] 0 rfl nd_0_1_2_3_4_5_6_7_8 rfl rfl rfl (by decide) (by decide) (Nat.le_of_ble_eq_true rfl) rfl ?_
    refine z_iload C dL_removes_257 rfl ?_
    refine z_nif_eq_f C 269 dL_removes_259 (by decide) (by omega) (by omega) ?_
    refine z_iload C dL_removes_262 rfl ?_
    refine z_iconst C (nI 1) dL_removes_264 (by decide) ?_
    refine z_isub C dL_removes_265 ?_
    refine z_top (y := nI ((uU S 0) - 1)) ((pk_sub (by omega)).trans (congrArg nI (by omega))) ?_
    refine z_goto C 271 dL_removes_266 (by decide) ?_
    refine z_ncmp_ne_f C 309 dL_removes_271 (by decide) (by omega) (by omega) (by omega) ?_
    refine z_iload C dL_removes_274 rfl ?_
    refine z_nif_eq_f C 292 dL_removes_276 (by decide) (by omega) (by omega) ?_
    refine z_aload_n C 0 dL_removes_279 rfl rfl ?_
    refine z_iconst C (nI 4) dL_removes_280 (by decide) ?_
    refine z_callVr C kX5_count gL_removes_X5_count (l_cntK X.2.1 x0 h0 h1 w0 w1 t S1 o1 kp1 ln ps 3 hG1 (by decide)) dL_removes_281 [0, 1, 2, 3, 4, 5, 6, 7, 8, 9, 51] [] 0 rfl nd_0_1_2_3_4_5_6_7_8_9_51 rfl rfl rfl (by decide) (by decide) (Nat.le_of_ble_eq_true rfl) rfl ?_
    have hg_4 : cnS S1 3 ≤ mK S1 := zc_le _ _
    refine z_iload C dL_removes_284 rfl ?_
    refine z_ncmp_ne_f C 309 dL_removes_286 (by decide) (by omega) (by omega) (by omega) ?_
    refine z_goto C 305 dL_removes_289 (by decide) ?_
    refine z_iconst C (nI 1) dL_removes_305 (by decide) ?_
    refine z_goto C 310 dL_removes_306 (by decide) ?_
    exact z_zret C N dL_removes_310 rfl (rfl) (rfl)
  · refine z_iconst C (nI 1) dL_removes_105 (by decide) ?_
    refine z_goto C 110 dL_removes_106 (by decide) ?_
    refine z_istore C dL_removes_110 (Nat.le_of_ble_eq_true rfl) ?_
    refine z_lv (lv' := [some (.ref x0), some (.int (nI au)), some (.int (nI 0)), some (.int g), some (.int (nI (uU S 0))), some (.int (nI (lw g (uU S 0)))), some (.int (nI (mK S))), some (.int (nI 0)), some (.int (nI (xI S 0 (lw g (uU S 0))))), some (.int (nI 0)), some (.int (nI 1)), none, none, none]) rfl ?_
    refine z_iload C dL_removes_112 rfl ?_
    refine z_nif_ne_f C 123 dL_removes_114 (by decide) (by omega) (by omega) ?_
    refine z_sipush C (nI 1000) dL_removes_117 (by decide) ?_
    refine z_goto C 157 dL_removes_120 (by decide) ?_
    refine z_istore C dL_removes_157 (Nat.le_of_ble_eq_true rfl) ?_
    refine z_lv (lv' := [some (.ref x0), some (.int (nI au)), some (.int (nI 0)), some (.int g), some (.int (nI (uU S 0))), some (.int (nI (lw g (uU S 0)))), some (.int (nI (mK S))), some (.int (nI 0)), some (.int (nI (xI S 0 (lw g (uU S 0))))), some (.int (nI 0)), some (.int (nI 1)), some (.int (nI 1000)), none, none]) rfl ?_
    refine z_aload_n C 0 dL_removes_159 rfl rfl ?_
    refine z_iconst C (nI 4) dL_removes_160 (by decide) ?_
    refine z_callVr C kX5_count gL_removes_X5_count (l_cntK X.2.1 x0 h0 h1 w0 w1 t S o kp ln ps 3 hG (by decide)) dL_removes_161 [0, 1, 2, 3, 4, 5, 6, 7, 8, 9, 51] [] 0 rfl nd_0_1_2_3_4_5_6_7_8_9_51 rfl rfl rfl (by decide) (by decide) (Nat.le_of_ble_eq_true rfl) rfl ?_
    have hg_5 : cnS S 3 ≤ mK S := zc_le _ _
    refine z_aload_n C 0 dL_removes_164 rfl rfl ?_
    refine z_iload_n C 2 dL_removes_165 rfl rfl ?_
    refine z_iload C dL_removes_166 rfl ?_
    refine z_iconst C (nI 4) dL_removes_168 (by decide) ?_
    refine z_callVr C kX5_line gL_removes_X5_line (l_line4 X.2.1 x0 h0 w0 t S 0 (lw g (uU S 0)) hG (by decide) hg_1) dL_removes_169 [0, 1, 2, 3, 4, 5, 6, 7, 8] [.int (nI (cnS S 3))] 0 rfl nd_0_1_2_3_4_5_6_7_8 rfl rfl rfl (by decide) (by decide) (Nat.le_of_ble_eq_true rfl) rfl ?_
    refine z_iadd C dL_removes_172 ?_
    refine z_top (y := nI ((cnS S 3) + (nSt S 0 (lw g (uU S 0))))) (nI_add _ _) ?_
    refine z_iload C dL_removes_173 rfl ?_
    refine z_nif_lt_f C 182 dL_removes_175 (by decide) (by omega) (by trivial) ?_
    refine z_iconst C (nI 1) dL_removes_178 (by decide) ?_
    refine z_goto C 183 dL_removes_179 (by decide) ?_
    refine z_iadd C dL_removes_183 ?_
    refine z_top (y := nI (((cnS S 3) + (nSt S 0 (lw g (uU S 0)))) + 1)) (nI_add _ _) ?_
    refine z_iload C dL_removes_184 rfl ?_
    refine z_nif_eq_t C 193 dL_removes_186 (by decide) (by omega) (by omega) ?_
    refine z_iconst C (nI 0) dL_removes_193 (by decide) ?_
    refine z_iadd C dL_removes_194 ?_
    refine z_top (y := nI (((cnS S 3) + (nSt S 0 (lw g (uU S 0)))) + 1)) (nI_add _ _) ?_
    refine z_istore C dL_removes_195 (Nat.le_of_ble_eq_true rfl) ?_
    refine z_lv (lv' := [some (.ref x0), some (.int (nI au)), some (.int (nI 0)), some (.int g), some (.int (nI (uU S 0))), some (.int (nI (lw g (uU S 0)))), some (.int (nI (mK S))), some (.int (nI 0)), some (.int (nI (xI S 0 (lw g (uU S 0))))), some (.int (nI 0)), some (.int (nI 1)), some (.int (nI 1000)), some (.int (nI (((cnS S 3) + (nSt S 0 (lw g (uU S 0)))) + 1))), none]) rfl ?_
    refine z_aload_n C 0 dL_removes_197 rfl rfl ?_
    refine z_iload_n C 1 dL_removes_198 rfl rfl ?_
    refine z_iload_n C 2 dL_removes_199 rfl rfl ?_
    refine z_iload C dL_removes_200 rfl ?_
    refine z_callV (wn := (WRd X.2.1 x0 h0 h1 w0 w1 t r S1 o1 kp1 Q1 tx ln ps)) C kX5_remove gL_removes_X5_remove m1 dL_removes_202 [0, 1, 2, 3, 4, 5, 6, 7, 8, 9, 10, 11, 12, 13, 14, 15, 16, 17, 18, 19, 20, 21, 22, 23, 24, 25, 26, 27, 28, 29, 30, 31, 32, 33, 34, 35, 36, 37, 38, 39, 40, 41, 42, 43, 44, 45, 46, 47, 48, 49, 50] [] 0 rfl rfl nd_0_1_2_3_4_5_6_7_8_9_10_11_12_13_14_15_16_17_18_19_20_21_22_23_24_25_26_27_28_29_30_31_32_33_34_35_36_37_38_39_40_41_42_43_44_45_46_47_48_49_50 rfl rfl rfl (by decide) (by decide) (Nat.le_of_ble_eq_true rfl) rfl ((zput_par nd_0_1_2_3_4_5_6_7_8_9_10_11_12_13_14_15_16_17_18_19_20_21_22_23_24_25_26_27_28_29_30_31_32_33_34_35_36_37_38_39_40_41_42_43_44_45_46_47_48_49_50 rfl).trans rfl) ?_
    refine z_iload C dL_removes_205 rfl ?_
    refine z_ncmp_eq_t C 212 dL_removes_207 (by decide) (by omega) (by omega) (by omega) ?_
    refine z_iload C dL_removes_212 rfl ?_
    refine z_nif_ge_t C 234 dL_removes_214 (by decide) (by omega) (by trivial) ?_
    refine z_iload C dL_removes_234 rfl ?_
    refine z_nif_eq_t C 244 dL_removes_236 (by decide) (by omega) (by omega) ?_
    refine z_iconst C (nI 1) dL_removes_244 (by decide) ?_
    refine z_goto C 249 dL_removes_245 (by decide) ?_
    refine z_istore C dL_removes_249 (Nat.le_of_ble_eq_true rfl) ?_
    refine z_lv (lv' := [some (.ref x0), some (.int (nI au)), some (.int (nI 0)), some (.int g), some (.int (nI (uU S 0))), some (.int (nI (lw g (uU S 0)))), some (.int (nI (mK S))), some (.int (nI 0)), some (.int (nI (xI S 0 (lw g (uU S 0))))), some (.int (nI 0)), some (.int (nI 1)), some (.int (nI 1000)), some (.int (nI (((cnS S 3) + (nSt S 0 (lw g (uU S 0)))) + 1))), some (.int (nI 1))]) rfl ?_
    refine z_aload_n C 0 dL_removes_251 rfl rfl ?_
    refine z_iconst C (nI 0) dL_removes_252 (by decide) ?_
    refine z_iload_n C 2 dL_removes_253 rfl rfl ?_
    refine z_callVr C kX5_size gL_removes_X5_size (l_size0 X.2.1 x0 h0 w0 t S1 0 hG1 (by decide)) dL_removes_254 [0, 1, 2, 3, 4, 5, 6, 7, 8] [] 0 rfl nd_0_1_2_3_4_5_6_7_8 rfl rfl rfl (by decide) (by decide) (Nat.le_of_ble_eq_true rfl) rfl ?_
    refine z_iload C dL_removes_257 rfl ?_
    refine z_nif_eq_f C 269 dL_removes_259 (by decide) (by omega) (by omega) ?_
    refine z_iload C dL_removes_262 rfl ?_
    refine z_iconst C (nI 1) dL_removes_264 (by decide) ?_
    refine z_isub C dL_removes_265 ?_
    refine z_top (y := nI ((uU S 0) - 1)) ((pk_sub (by omega)).trans (congrArg nI (by omega))) ?_
    refine z_goto C 271 dL_removes_266 (by decide) ?_
    refine z_ncmp_ne_f C 309 dL_removes_271 (by decide) (by omega) (by omega) (by omega) ?_
    refine z_iload C dL_removes_274 rfl ?_
    refine z_nif_eq_f C 292 dL_removes_276 (by decide) (by omega) (by omega) ?_
    refine z_aload_n C 0 dL_removes_279 rfl rfl ?_
    refine z_iconst C (nI 4) dL_removes_280 (by decide) ?_
    refine z_callVr C kX5_count gL_removes_X5_count (l_cntK X.2.1 x0 h0 h1 w0 w1 t S1 o1 kp1 ln ps 3 hG1 (by decide)) dL_removes_281 [0, 1, 2, 3, 4, 5, 6, 7, 8, 9, 51] [] 0 rfl nd_0_1_2_3_4_5_6_7_8_9_51 rfl rfl rfl (by decide) (by decide) (Nat.le_of_ble_eq_true rfl) rfl ?_
    have hg_6 : cnS S1 3 ≤ mK S1 := zc_le _ _
    refine z_iload C dL_removes_284 rfl ?_
    refine z_ncmp_ne_f C 309 dL_removes_286 (by decide) (by omega) (by omega) (by omega) ?_
    refine z_goto C 305 dL_removes_289 (by decide) ?_
    refine z_iconst C (nI 1) dL_removes_305 (by decide) ?_
    refine z_goto C 310 dL_removes_306 (by decide) ?_
    exact z_zret C N dL_removes_310 rfl (rfl) (rfl)

set_option maxHeartbeats 4000000 in
set_option maxRecDepth 100000 in
theorem w_rem0u11 (E : zE) (x0 h0 h1 w0 w1 : Nat) (t : Nat → Nat) (r : Nat → Nat → Nat) (S S1 : zSt) (o kp kp1 o1 : Nat) (Q Q1 : Nat → zSt) (tx : Nat → Nat) (ln : Nat) (ps : zPs) {B B1 : Nat} (au : Nat) (g : Int32) (hG : GG S B) (hG1 : GG S1 B1) (hau : au < 4) (hz : 0 < uU S 0) (hN : Nw S 0 (lw g (uU S 0)) = true) (hD : Dm S 0 (lw g (uU S 0)) = true) (ht : tK S = false) (hu : uU S1 0 + 1 = uU S 0) (hc : cnS S1 3 = cnS S 3 + nSt S 0 (lw g (uU S 0)) + 1 + 1) (hc6 : cnS S1 3 ≤ 60) (m1 : zM E yX5_remove wsX5_remove 6 [.ref x0, .int (nI au), .int (nI 0), .int (nI (lw g (uU S 0)))] (WAd E x0 h0 h1 w0 t r S o kp Q) (WAd E x0 h0 h1 w0 t r S1 o1 kp1 Q1) (some (.int (nI 1000)))) : zM E yL_removes wsL_removes 7 [.ref x0, .int (nI au), .int (nI 0), .int g] (WRd E x0 h0 h1 w0 w1 t r S o kp Q tx ln ps) (WRd E x0 h0 h1 w0 w1 t r S1 o1 kp1 Q1 tx ln ps) (some (.int (nI 1))) := by
  refine zM.of kL_removes (Nat.le_of_ble_eq_true rfl) rfl [some (.ref x0), some (.int (nI au)), some (.int (nI 0)), some (.int g), none, none, none, none, none, none, none, none, none, none] rfl (Nat.le_of_ble_eq_true rfl) ?_
  intro X eX C N
  subst eX
  have hb0 : uU S 0 ≤ 12 := gg_u hG 0
  have hb1 : uU S 1 ≤ 8 := gg_u1 hG
  have hb2 : mK S ≤ 60 := gg_M hG
  have hb3 : uU S1 0 ≤ 12 := gg_u hG1 0
  have hb4 : uU S1 1 ≤ 8 := gg_u1 hG1
  have hb5 : mK S1 ≤ 60 := gg_M hG1
  have hxm : xI S 0 (lw g (uU S 0)) < mK S := (Nw_t hN).1
  have hxa : aN S (xI S 0 (lw g (uU S 0))) < 4 := (aN_e hG hxm).2
  have hxr : xR S 0 (lw g (uU S 0)) < mK S := (Dm_t hD).1
  refine z_aload_n C 0 dL_removes_0 rfl rfl ?_
  refine z_iconst C (nI 0) dL_removes_1 (by decide) ?_
  refine z_iload_n C 2 dL_removes_2 rfl rfl ?_
  refine z_callVr C kX5_size gL_removes_X5_size (l_size0 X.2.1 x0 h0 w0 t S 0 hG (by decide)) dL_removes_3 [0, 1, 2, 3, 4, 5, 6, 7, 8] [] 0 rfl nd_0_1_2_3_4_5_6_7_8 rfl rfl rfl (by decide) (by decide) (Nat.le_of_ble_eq_true rfl) rfl ?_
  refine z_istore C dL_removes_6 (Nat.le_of_ble_eq_true rfl) ?_
  refine z_lv (lv' := [some (.ref x0), some (.int (nI au)), some (.int (nI 0)), some (.int g), some (.int (nI (uU S 0))), none, none, none, none, none, none, none, none, none]) rfl ?_
  refine z_iload C dL_removes_8 rfl ?_
  refine z_nif_ne_t C 30 dL_removes_10 (by decide) (by omega) (by omega) ?_
  refine z_iload_n C 3 dL_removes_30 rfl rfl ?_
  refine z_iload C dL_removes_31 rfl ?_
  refine z_callS C kL_low gL_removes_L_low (l_low X.2.1 g (uU S 0) hz (by omega)) dL_removes_33 [] rfl (by decide) (by decide) (Nat.le_of_ble_eq_true rfl) rfl ?_
  have hg_1 : lw g (uU S 0) < (uU S 0) := lw_lt g (by omega)
  refine z_istore C dL_removes_36 (Nat.le_of_ble_eq_true rfl) ?_
  refine z_lv (lv' := [some (.ref x0), some (.int (nI au)), some (.int (nI 0)), some (.int g), some (.int (nI (uU S 0))), some (.int (nI (lw g (uU S 0)))), none, none, none, none, none, none, none, none]) rfl ?_
  refine z_aload_n C 0 dL_removes_38 rfl rfl ?_
  refine z_iconst C (nI 0) dL_removes_39 (by decide) ?_
  refine z_callVr C kX5_count gL_removes_X5_count (l_cnt0 X.2.1 x0 h0 h1 w0 w1 t S o kp ln ps  hG ) dL_removes_40 [0, 1, 2, 3, 4, 5, 6, 7, 8, 9, 51] [] 0 rfl nd_0_1_2_3_4_5_6_7_8_9_51 rfl rfl rfl (by decide) (by decide) (Nat.le_of_ble_eq_true rfl) rfl ?_
  refine z_istore C dL_removes_43 (Nat.le_of_ble_eq_true rfl) ?_
  refine z_lv (lv' := [some (.ref x0), some (.int (nI au)), some (.int (nI 0)), some (.int g), some (.int (nI (uU S 0))), some (.int (nI (lw g (uU S 0)))), some (.int (nI (mK S))), none, none, none, none, none, none, none]) rfl ?_
  refine z_aload_n C 0 dL_removes_45 rfl rfl ?_
  refine z_iconst C (nI 5) dL_removes_46 (by decide) ?_
  refine z_callVr C kX5_count gL_removes_X5_count (l_cnt5n X.2.1 x0 h0 h1 w0 w1 t S o kp ln ps  hG ht) dL_removes_47 [0, 1, 2, 3, 4, 5, 6, 7, 8, 9, 51] [] 0 rfl nd_0_1_2_3_4_5_6_7_8_9_51 rfl rfl rfl (by decide) (by decide) (Nat.le_of_ble_eq_true rfl) rfl ?_
  refine z_iconst C (nI 1) dL_removes_50 (by decide) ?_
  refine z_ncmp_ne_t C 58 dL_removes_51 (by decide) (by omega) (by omega) (by omega) ?_
  refine z_iconst C (nI 0) dL_removes_58 (by decide) ?_
  refine z_istore C dL_removes_59 (Nat.le_of_ble_eq_true rfl) ?_
  refine z_lv (lv' := [some (.ref x0), some (.int (nI au)), some (.int (nI 0)), some (.int g), some (.int (nI (uU S 0))), some (.int (nI (lw g (uU S 0)))), some (.int (nI (mK S))), some (.int (nI 0)), none, none, none, none, none, none]) rfl ?_
  refine z_aload_n C 0 dL_removes_61 rfl rfl ?_
  refine z_iload_n C 2 dL_removes_62 rfl rfl ?_
  refine z_iload C dL_removes_63 rfl ?_
  refine z_iconst C (nI 0) dL_removes_65 (by decide) ?_
  refine z_callVr C kX5_line gL_removes_X5_line (l_line0y X.2.1 x0 h0 w0 t S 0 (lw g (uU S 0)) hG (by decide) hg_1 hN) dL_removes_66 [0, 1, 2, 3, 4, 5, 6, 7, 8] [] 0 rfl nd_0_1_2_3_4_5_6_7_8 rfl rfl rfl (by decide) (by decide) (Nat.le_of_ble_eq_true rfl) rfl ?_
  refine z_istore C dL_removes_69 (Nat.le_of_ble_eq_true rfl) ?_
  refine z_lv (lv' := [some (.ref x0), some (.int (nI au)), some (.int (nI 0)), some (.int g), some (.int (nI (uU S 0))), some (.int (nI (lw g (uU S 0)))), some (.int (nI (mK S))), some (.int (nI 0)), some (.int (nI (xI S 0 (lw g (uU S 0))))), none, none, none, none, none]) rfl ?_
  refine z_aload_n C 0 dL_removes_71 rfl rfl ?_
  refine z_iload_n C 2 dL_removes_72 rfl rfl ?_
  refine z_iload C dL_removes_73 rfl ?_
  refine z_iconst C (nI 1) dL_removes_75 (by decide) ?_
  refine z_callVr C kX5_line gL_removes_X5_line (l_line1y X.2.1 x0 h0 w0 t S 0 (lw g (uU S 0)) hG (by decide) hg_1 hD) dL_removes_76 [0, 1, 2, 3, 4, 5, 6, 7, 8] [] 0 rfl nd_0_1_2_3_4_5_6_7_8 rfl rfl rfl (by decide) (by decide) (Nat.le_of_ble_eq_true rfl) rfl ?_
  refine z_nif_lt_f C 86 dL_removes_79 (by decide) (by omega) (by trivial) ?_
  refine z_iconst C (nI 1) dL_removes_82 (by decide) ?_
  refine z_goto C 87 dL_removes_83 (by decide) ?_
  refine z_istore C dL_removes_87 (Nat.le_of_ble_eq_true rfl) ?_
  refine z_lv (lv' := [some (.ref x0), some (.int (nI au)), some (.int (nI 0)), some (.int g), some (.int (nI (uU S 0))), some (.int (nI (lw g (uU S 0)))), some (.int (nI (mK S))), some (.int (nI 0)), some (.int (nI (xI S 0 (lw g (uU S 0))))), some (.int (nI 1)), none, none, none, none]) rfl ?_
  refine z_iload C dL_removes_89 rfl ?_
  refine z_nif_lt_f C 109 dL_removes_91 (by decide) (by omega) (by trivial) ?_
  refine z_aload_n C 0 dL_removes_94 rfl rfl ?_
  refine z_iload C dL_removes_95 rfl ?_
  refine z_iconst C (nI 1) dL_removes_97 (by decide) ?_
  refine z_callVr C kX5_change gL_removes_X5_change (l_chg1 X.2.1 x0 h0 w0 t S (xI S 0 (lw g (uU S 0))) hG hxm) dL_removes_98 [0, 1, 2, 3, 4, 5, 6, 7, 8] [] 0 rfl nd_0_1_2_3_4_5_6_7_8 rfl rfl rfl (by decide) (by decide) (Nat.le_of_ble_eq_true rfl) rfl ?_
  refine z_iload_n C 1 dL_removes_101 rfl rfl ?_
  refine z_ncmp_ne C 109 dL_removes_102 (by decide) (by omega) (by omega) (fun h_2 => ?_) (fun h_2 => ?_)
  · refine z_iconst C (nI 0) dL_removes_109 (by decide) ?_
    refine z_istore C dL_removes_110 (Nat.le_of_ble_eq_true rfl) ?_
    refine z_lv (lv' := [some (.ref x0), some (.int (nI au)), some (.int (nI 0)), some (.int g), some (.int (nI (uU S 0))), some (.int (nI (lw g (uU S 0)))), some (.int (nI (mK S))), some (.int (nI 0)), some (.int (nI (xI S 0 (lw g (uU S 0))))), some (.int (nI 1)), some (.int (nI 0)), none, none, none]) rfl ?_
    refine z_iload C dL_removes_112 rfl ?_
    refine z_nif_ne_f C 123 dL_removes_114 (by decide) (by omega) (by omega) ?_
    refine z_sipush C (nI 1000) dL_removes_117 (by decide) ?_
    refine z_goto C 157 dL_removes_120 (by decide) ?_
    refine z_istore C dL_removes_157 (Nat.le_of_ble_eq_true rfl) ?_
    refine z_lv (lv' := [some (.ref x0), some (.int (nI au)), some (.int (nI 0)), some (.int g), some (.int (nI (uU S 0))), some (.int (nI (lw g (uU S 0)))), some (.int (nI (mK S))), some (.int (nI 0)), some (.int (nI (xI S 0 (lw g (uU S 0))))), some (.int (nI 1)), some (.int (nI 0)), some (.int (nI 1000)), none, none]) rfl ?_
    refine z_aload_n C 0 dL_removes_159 rfl rfl ?_
    refine z_iconst C (nI 4) dL_removes_160 (by decide) ?_
    refine z_callVr C kX5_count gL_removes_X5_count (l_cntK X.2.1 x0 h0 h1 w0 w1 t S o kp ln ps 3 hG (by decide)) dL_removes_161 [0, 1, 2, 3, 4, 5, 6, 7, 8, 9, 51] [] 0 rfl nd_0_1_2_3_4_5_6_7_8_9_51 rfl rfl rfl (by decide) (by decide) (Nat.le_of_ble_eq_true rfl) rfl ?_
    have hg_3 : cnS S 3 ≤ mK S := zc_le _ _
    refine z_aload_n C 0 dL_removes_164 rfl rfl ?_
    refine z_iload_n C 2 dL_removes_165 rfl rfl ?_
    refine z_iload C dL_removes_166 rfl ?_
    refine z_iconst C (nI 4) dL_removes_168 (by decide) ?_
    refine z_callVr C kX5_line gL_removes_X5_line (l_line4 X.2.1 x0 h0 w0 t S 0 (lw g (uU S 0)) hG (by decide) hg_1) dL_removes_169 [0, 1, 2, 3, 4, 5, 6, 7, 8] [.int (nI (cnS S 3))] 0 rfl nd_0_1_2_3_4_5_6_7_8 rfl rfl rfl (by decide) (by decide) (Nat.le_of_ble_eq_true rfl) rfl ?_
    refine z_iadd C dL_removes_172 ?_
    refine z_top (y := nI ((cnS S 3) + (nSt S 0 (lw g (uU S 0))))) (nI_add _ _) ?_
    refine z_iload C dL_removes_173 rfl ?_
    refine z_nif_lt_f C 182 dL_removes_175 (by decide) (by omega) (by trivial) ?_
    refine z_iconst C (nI 1) dL_removes_178 (by decide) ?_
    refine z_goto C 183 dL_removes_179 (by decide) ?_
    refine z_iadd C dL_removes_183 ?_
    refine z_top (y := nI (((cnS S 3) + (nSt S 0 (lw g (uU S 0)))) + 1)) (nI_add _ _) ?_
    refine z_iload C dL_removes_184 rfl ?_
    refine z_nif_eq_f C 193 dL_removes_186 (by decide) (by omega) (by omega) ?_
    refine z_iconst C (nI 1) dL_removes_189 (by decide) ?_
    refine z_goto C 194 dL_removes_190 (by decide) ?_
    refine z_iadd C dL_removes_194 ?_
    refine z_top (y := nI (((cnS S 3) + (nSt S 0 (lw g (uU S 0)))) + 2)) (nI_add _ _) ?_
    refine z_istore C dL_removes_195 (Nat.le_of_ble_eq_true rfl) ?_
    refine z_lv (lv' := [some (.ref x0), some (.int (nI au)), some (.int (nI 0)), some (.int g), some (.int (nI (uU S 0))), some (.int (nI (lw g (uU S 0)))), some (.int (nI (mK S))), some (.int (nI 0)), some (.int (nI (xI S 0 (lw g (uU S 0))))), some (.int (nI 1)), some (.int (nI 0)), some (.int (nI 1000)), some (.int (nI (((cnS S 3) + (nSt S 0 (lw g (uU S 0)))) + 2))), none]) rfl ?_
    refine z_aload_n C 0 dL_removes_197 rfl rfl ?_
    refine z_iload_n C 1 dL_removes_198 rfl rfl ?_
    refine z_iload_n C 2 dL_removes_199 rfl rfl ?_
    refine z_iload C dL_removes_200 rfl ?_
    refine z_callV (wn := (WRd X.2.1 x0 h0 h1 w0 w1 t r S1 o1 kp1 Q1 tx ln ps)) C kX5_remove gL_removes_X5_remove m1 dL_removes_202 [0, 1, 2, 3, 4, 5, 6, 7, 8, 9, 10, 11, 12, 13, 14, 15, 16, 17, 18, 19, 20, 21, 22, 23, 24, 25, 26, 27, 28, 29, 30, 31, 32, 33, 34, 35, 36, 37, 38, 39, 40, 41, 42, 43, 44, 45, 46, 47, 48, 49, 50] [] 0 rfl rfl nd_0_1_2_3_4_5_6_7_8_9_10_11_12_13_14_15_16_17_18_19_20_21_22_23_24_25_26_27_28_29_30_31_32_33_34_35_36_37_38_39_40_41_42_43_44_45_46_47_48_49_50 rfl rfl rfl (by decide) (by decide) (Nat.le_of_ble_eq_true rfl) rfl ((zput_par nd_0_1_2_3_4_5_6_7_8_9_10_11_12_13_14_15_16_17_18_19_20_21_22_23_24_25_26_27_28_29_30_31_32_33_34_35_36_37_38_39_40_41_42_43_44_45_46_47_48_49_50 rfl).trans rfl) ?_
    refine z_iload C dL_removes_205 rfl ?_
    refine z_ncmp_eq_t C 212 dL_removes_207 (by decide) (by omega) (by omega) (by omega) ?_
    refine z_iload C dL_removes_212 rfl ?_
    refine z_nif_ge_t C 234 dL_removes_214 (by decide) (by omega) (by trivial) ?_
    refine z_iload C dL_removes_234 rfl ?_
    refine z_nif_eq_t C 244 dL_removes_236 (by decide) (by omega) (by omega) ?_
    refine z_iconst C (nI 1) dL_removes_244 (by decide) ?_
    refine z_goto C 249 dL_removes_245 (by decide) ?_
    refine z_istore C dL_removes_249 (Nat.le_of_ble_eq_true rfl) ?_
    refine z_lv (lv' := [some (.ref x0), some (.int (nI au)), some (.int (nI 0)), some (.int g), some (.int (nI (uU S 0))), some (.int (nI (lw g (uU S 0)))), some (.int (nI (mK S))), some (.int (nI 0)), some (.int (nI (xI S 0 (lw g (uU S 0))))), some (.int (nI 1)), some (.int (nI 0)), some (.int (nI 1000)), some (.int (nI (((cnS S 3) + (nSt S 0 (lw g (uU S 0)))) + 2))), some (.int (nI 1))]) rfl ?_
    refine z_aload_n C 0 dL_removes_251 rfl rfl ?_
    refine z_iconst C (nI 0) dL_removes_252 (by decide) ?_
    refine z_iload_n C 2 dL_removes_253 rfl rfl ?_
    refine z_callVr C kX5_size gL_removes_X5_size (l_size0 X.2.1 x0 h0 w0 t S1 0 hG1 (by decide)) dL_removes_254 [0, 1, 2, 3, 4, 5, 6, 7, 8] [] 0 rfl nd_0_1_2_3_4_5_6_7_8 rfl rfl rfl (by decide) (by decide) (Nat.le_of_ble_eq_true rfl) rfl ?_
    refine z_iload C dL_removes_257 rfl ?_
    refine z_nif_eq_f C 269 dL_removes_259 (by decide) (by omega) (by omega) ?_
    refine z_iload C dL_removes_262 rfl ?_
    refine z_iconst C (nI 1) dL_removes_264 (by decide) ?_
    refine z_isub C dL_removes_265 ?_
    refine z_top (y := nI ((uU S 0) - 1)) ((pk_sub (by omega)).trans (congrArg nI (by omega))) ?_
    refine z_goto C 271 dL_removes_266 (by decide) ?_
    refine z_ncmp_ne_f C 309 dL_removes_271 (by decide) (by omega) (by omega) (by omega) ?_
    refine z_iload C dL_removes_274 rfl ?_
    refine z_nif_eq_f C 292 dL_removes_276 (by decide) (by omega) (by omega) ?_
    refine z_aload_n C 0 dL_removes_279 rfl rfl ?_
    refine z_iconst C (nI 4) dL_removes_280 (by decide) ?_
    refine z_callVr C kX5_count gL_removes_X5_count (l_cntK X.2.1 x0 h0 h1 w0 w1 t S1 o1 kp1 ln ps 3 hG1 (by decide)) dL_removes_281 [0, 1, 2, 3, 4, 5, 6, 7, 8, 9, 51] [] 0 rfl nd_0_1_2_3_4_5_6_7_8_9_51 rfl rfl rfl (by decide) (by decide) (Nat.le_of_ble_eq_true rfl) rfl ?_
    have hg_4 : cnS S1 3 ≤ mK S1 := zc_le _ _
    refine z_iload C dL_removes_284 rfl ?_
    refine z_ncmp_ne_f C 309 dL_removes_286 (by decide) (by omega) (by omega) (by omega) ?_
    refine z_goto C 305 dL_removes_289 (by decide) ?_
    refine z_iconst C (nI 1) dL_removes_305 (by decide) ?_
    refine z_goto C 310 dL_removes_306 (by decide) ?_
    exact z_zret C N dL_removes_310 rfl (rfl) (rfl)
  · refine z_iconst C (nI 1) dL_removes_105 (by decide) ?_
    refine z_goto C 110 dL_removes_106 (by decide) ?_
    refine z_istore C dL_removes_110 (Nat.le_of_ble_eq_true rfl) ?_
    refine z_lv (lv' := [some (.ref x0), some (.int (nI au)), some (.int (nI 0)), some (.int g), some (.int (nI (uU S 0))), some (.int (nI (lw g (uU S 0)))), some (.int (nI (mK S))), some (.int (nI 0)), some (.int (nI (xI S 0 (lw g (uU S 0))))), some (.int (nI 1)), some (.int (nI 1)), none, none, none]) rfl ?_
    refine z_iload C dL_removes_112 rfl ?_
    refine z_nif_ne_f C 123 dL_removes_114 (by decide) (by omega) (by omega) ?_
    refine z_sipush C (nI 1000) dL_removes_117 (by decide) ?_
    refine z_goto C 157 dL_removes_120 (by decide) ?_
    refine z_istore C dL_removes_157 (Nat.le_of_ble_eq_true rfl) ?_
    refine z_lv (lv' := [some (.ref x0), some (.int (nI au)), some (.int (nI 0)), some (.int g), some (.int (nI (uU S 0))), some (.int (nI (lw g (uU S 0)))), some (.int (nI (mK S))), some (.int (nI 0)), some (.int (nI (xI S 0 (lw g (uU S 0))))), some (.int (nI 1)), some (.int (nI 1)), some (.int (nI 1000)), none, none]) rfl ?_
    refine z_aload_n C 0 dL_removes_159 rfl rfl ?_
    refine z_iconst C (nI 4) dL_removes_160 (by decide) ?_
    refine z_callVr C kX5_count gL_removes_X5_count (l_cntK X.2.1 x0 h0 h1 w0 w1 t S o kp ln ps 3 hG (by decide)) dL_removes_161 [0, 1, 2, 3, 4, 5, 6, 7, 8, 9, 51] [] 0 rfl nd_0_1_2_3_4_5_6_7_8_9_51 rfl rfl rfl (by decide) (by decide) (Nat.le_of_ble_eq_true rfl) rfl ?_
    have hg_5 : cnS S 3 ≤ mK S := zc_le _ _
    refine z_aload_n C 0 dL_removes_164 rfl rfl ?_
    refine z_iload_n C 2 dL_removes_165 rfl rfl ?_
    refine z_iload C dL_removes_166 rfl ?_
    refine z_iconst C (nI 4) dL_removes_168 (by decide) ?_
    refine z_callVr C kX5_line gL_removes_X5_line (l_line4 X.2.1 x0 h0 w0 t S 0 (lw g (uU S 0)) hG (by decide) hg_1) dL_removes_169 [0, 1, 2, 3, 4, 5, 6, 7, 8] [.int (nI (cnS S 3))] 0 rfl nd_0_1_2_3_4_5_6_7_8 rfl rfl rfl (by decide) (by decide) (Nat.le_of_ble_eq_true rfl) rfl ?_
    refine z_iadd C dL_removes_172 ?_
    refine z_top (y := nI ((cnS S 3) + (nSt S 0 (lw g (uU S 0))))) (nI_add _ _) ?_
    refine z_iload C dL_removes_173 rfl ?_
    refine z_nif_lt_f C 182 dL_removes_175 (by decide) (by omega) (by trivial) ?_
    refine z_iconst C (nI 1) dL_removes_178 (by decide) ?_
    refine z_goto C 183 dL_removes_179 (by decide) ?_
    refine z_iadd C dL_removes_183 ?_
    refine z_top (y := nI (((cnS S 3) + (nSt S 0 (lw g (uU S 0)))) + 1)) (nI_add _ _) ?_
    refine z_iload C dL_removes_184 rfl ?_
    refine z_nif_eq_f C 193 dL_removes_186 (by decide) (by omega) (by omega) ?_
    refine z_iconst C (nI 1) dL_removes_189 (by decide) ?_
    refine z_goto C 194 dL_removes_190 (by decide) ?_
    refine z_iadd C dL_removes_194 ?_
    refine z_top (y := nI (((cnS S 3) + (nSt S 0 (lw g (uU S 0)))) + 2)) (nI_add _ _) ?_
    refine z_istore C dL_removes_195 (Nat.le_of_ble_eq_true rfl) ?_
    refine z_lv (lv' := [some (.ref x0), some (.int (nI au)), some (.int (nI 0)), some (.int g), some (.int (nI (uU S 0))), some (.int (nI (lw g (uU S 0)))), some (.int (nI (mK S))), some (.int (nI 0)), some (.int (nI (xI S 0 (lw g (uU S 0))))), some (.int (nI 1)), some (.int (nI 1)), some (.int (nI 1000)), some (.int (nI (((cnS S 3) + (nSt S 0 (lw g (uU S 0)))) + 2))), none]) rfl ?_
    refine z_aload_n C 0 dL_removes_197 rfl rfl ?_
    refine z_iload_n C 1 dL_removes_198 rfl rfl ?_
    refine z_iload_n C 2 dL_removes_199 rfl rfl ?_
    refine z_iload C dL_removes_200 rfl ?_
    refine z_callV (wn := (WRd X.2.1 x0 h0 h1 w0 w1 t r S1 o1 kp1 Q1 tx ln ps)) C kX5_remove gL_removes_X5_remove m1 dL_removes_202 [0, 1, 2, 3, 4, 5, 6, 7, 8, 9, 10, 11, 12, 13, 14, 15, 16, 17, 18, 19, 20, 21, 22, 23, 24, 25, 26, 27, 28, 29, 30, 31, 32, 33, 34, 35, 36, 37, 38, 39, 40, 41, 42, 43, 44, 45, 46, 47, 48, 49, 50] [] 0 rfl rfl nd_0_1_2_3_4_5_6_7_8_9_10_11_12_13_14_15_16_17_18_19_20_21_22_23_24_25_26_27_28_29_30_31_32_33_34_35_36_37_38_39_40_41_42_43_44_45_46_47_48_49_50 rfl rfl rfl (by decide) (by decide) (Nat.le_of_ble_eq_true rfl) rfl ((zput_par nd_0_1_2_3_4_5_6_7_8_9_10_11_12_13_14_15_16_17_18_19_20_21_22_23_24_25_26_27_28_29_30_31_32_33_34_35_36_37_38_39_40_41_42_43_44_45_46_47_48_49_50 rfl).trans rfl) ?_
    refine z_iload C dL_removes_205 rfl ?_
    refine z_ncmp_eq_t C 212 dL_removes_207 (by decide) (by omega) (by omega) (by omega) ?_
    refine z_iload C dL_removes_212 rfl ?_
    refine z_nif_ge_t C 234 dL_removes_214 (by decide) (by omega) (by trivial) ?_
    refine z_iload C dL_removes_234 rfl ?_
    refine z_nif_eq_t C 244 dL_removes_236 (by decide) (by omega) (by omega) ?_
    refine z_iconst C (nI 1) dL_removes_244 (by decide) ?_
    refine z_goto C 249 dL_removes_245 (by decide) ?_
    refine z_istore C dL_removes_249 (Nat.le_of_ble_eq_true rfl) ?_
    refine z_lv (lv' := [some (.ref x0), some (.int (nI au)), some (.int (nI 0)), some (.int g), some (.int (nI (uU S 0))), some (.int (nI (lw g (uU S 0)))), some (.int (nI (mK S))), some (.int (nI 0)), some (.int (nI (xI S 0 (lw g (uU S 0))))), some (.int (nI 1)), some (.int (nI 1)), some (.int (nI 1000)), some (.int (nI (((cnS S 3) + (nSt S 0 (lw g (uU S 0)))) + 2))), some (.int (nI 1))]) rfl ?_
    refine z_aload_n C 0 dL_removes_251 rfl rfl ?_
    refine z_iconst C (nI 0) dL_removes_252 (by decide) ?_
    refine z_iload_n C 2 dL_removes_253 rfl rfl ?_
    refine z_callVr C kX5_size gL_removes_X5_size (l_size0 X.2.1 x0 h0 w0 t S1 0 hG1 (by decide)) dL_removes_254 [0, 1, 2, 3, 4, 5, 6, 7, 8] [] 0 rfl nd_0_1_2_3_4_5_6_7_8 rfl rfl rfl (by decide) (by decide) (Nat.le_of_ble_eq_true rfl) rfl ?_
    refine z_iload C dL_removes_257 rfl ?_
    refine z_nif_eq_f C 269 dL_removes_259 (by decide) (by omega) (by omega) ?_
    refine z_iload C dL_removes_262 rfl ?_
    refine z_iconst C (nI 1) dL_removes_264 (by decide) ?_
    refine z_isub C dL_removes_265 ?_
    refine z_top (y := nI ((uU S 0) - 1)) ((pk_sub (by omega)).trans (congrArg nI (by omega))) ?_
    refine z_goto C 271 dL_removes_266 (by decide) ?_
    refine z_ncmp_ne_f C 309 dL_removes_271 (by decide) (by omega) (by omega) (by omega) ?_
    refine z_iload C dL_removes_274 rfl ?_
    refine z_nif_eq_f C 292 dL_removes_276 (by decide) (by omega) (by omega) ?_
    refine z_aload_n C 0 dL_removes_279 rfl rfl ?_
    refine z_iconst C (nI 4) dL_removes_280 (by decide) ?_
    refine z_callVr C kX5_count gL_removes_X5_count (l_cntK X.2.1 x0 h0 h1 w0 w1 t S1 o1 kp1 ln ps 3 hG1 (by decide)) dL_removes_281 [0, 1, 2, 3, 4, 5, 6, 7, 8, 9, 51] [] 0 rfl nd_0_1_2_3_4_5_6_7_8_9_51 rfl rfl rfl (by decide) (by decide) (Nat.le_of_ble_eq_true rfl) rfl ?_
    have hg_6 : cnS S1 3 ≤ mK S1 := zc_le _ _
    refine z_iload C dL_removes_284 rfl ?_
    refine z_ncmp_ne_f C 309 dL_removes_286 (by decide) (by omega) (by omega) (by omega) ?_
    refine z_goto C 305 dL_removes_289 (by decide) ?_
    refine z_iconst C (nI 1) dL_removes_305 (by decide) ?_
    refine z_goto C 310 dL_removes_306 (by decide) ?_
    exact z_zret C N dL_removes_310 rfl (rfl) (rfl)

set_option maxHeartbeats 4000000 in
set_option maxRecDepth 100000 in
theorem w_rem0d1 (E : zE) (x0 h0 h1 w0 w1 : Nat) (t : Nat → Nat) (r : Nat → Nat → Nat) (S S1 : zSt) (o kp kp1 o1 : Nat) (Q Q1 : Nat → zSt) (tx : Nat → Nat) (ln : Nat) (ps : zPs) {B B1 : Nat} (au : Nat) (g : Int32) (hG : GG S B) (hG1 : GG S1 B1) (hau : au < 4) (hz : 0 < uU S 0) (hN : Nw S 0 (lw g (uU S 0)) = true) (hD : Dm S 0 (lw g (uU S 0)) = true) (ht : tK S = true) (hu : uU S1 0 = uU S 0) (m1 : zM E yX5_remove wsX5_remove 6 [.ref x0, .int (nI au), .int (nI 0), .int (nI (lw g (uU S 0)))] (WAd E x0 h0 h1 w0 t r S o kp Q) (WAd E x0 h0 h1 w0 t r S1 o1 kp1 Q1) (some (.int (-4)))) : zM E yL_removes wsL_removes 7 [.ref x0, .int (nI au), .int (nI 0), .int g] (WRd E x0 h0 h1 w0 w1 t r S o kp Q tx ln ps) (WRd E x0 h0 h1 w0 w1 t r S1 o1 kp1 Q1 tx ln ps) (some (.int (nI 1))) := by
  refine zM.of kL_removes (Nat.le_of_ble_eq_true rfl) rfl [some (.ref x0), some (.int (nI au)), some (.int (nI 0)), some (.int g), none, none, none, none, none, none, none, none, none, none] rfl (Nat.le_of_ble_eq_true rfl) ?_
  intro X eX C N
  subst eX
  have hb0 : uU S 0 ≤ 12 := gg_u hG 0
  have hb1 : uU S 1 ≤ 8 := gg_u1 hG
  have hb2 : mK S ≤ 60 := gg_M hG
  have hb3 : uU S1 0 ≤ 12 := gg_u hG1 0
  have hb4 : uU S1 1 ≤ 8 := gg_u1 hG1
  have hb5 : mK S1 ≤ 60 := gg_M hG1
  have hxm : xI S 0 (lw g (uU S 0)) < mK S := (Nw_t hN).1
  have hxa : aN S (xI S 0 (lw g (uU S 0))) < 4 := (aN_e hG hxm).2
  have hxr : xR S 0 (lw g (uU S 0)) < mK S := (Dm_t hD).1
  refine z_aload_n C 0 dL_removes_0 rfl rfl ?_
  refine z_iconst C (nI 0) dL_removes_1 (by decide) ?_
  refine z_iload_n C 2 dL_removes_2 rfl rfl ?_
  refine z_callVr C kX5_size gL_removes_X5_size (l_size0 X.2.1 x0 h0 w0 t S 0 hG (by decide)) dL_removes_3 [0, 1, 2, 3, 4, 5, 6, 7, 8] [] 0 rfl nd_0_1_2_3_4_5_6_7_8 rfl rfl rfl (by decide) (by decide) (Nat.le_of_ble_eq_true rfl) rfl ?_
  refine z_istore C dL_removes_6 (Nat.le_of_ble_eq_true rfl) ?_
  refine z_lv (lv' := [some (.ref x0), some (.int (nI au)), some (.int (nI 0)), some (.int g), some (.int (nI (uU S 0))), none, none, none, none, none, none, none, none, none]) rfl ?_
  refine z_iload C dL_removes_8 rfl ?_
  refine z_nif_ne_t C 30 dL_removes_10 (by decide) (by omega) (by omega) ?_
  refine z_iload_n C 3 dL_removes_30 rfl rfl ?_
  refine z_iload C dL_removes_31 rfl ?_
  refine z_callS C kL_low gL_removes_L_low (l_low X.2.1 g (uU S 0) hz (by omega)) dL_removes_33 [] rfl (by decide) (by decide) (Nat.le_of_ble_eq_true rfl) rfl ?_
  have hg_1 : lw g (uU S 0) < (uU S 0) := lw_lt g (by omega)
  refine z_istore C dL_removes_36 (Nat.le_of_ble_eq_true rfl) ?_
  refine z_lv (lv' := [some (.ref x0), some (.int (nI au)), some (.int (nI 0)), some (.int g), some (.int (nI (uU S 0))), some (.int (nI (lw g (uU S 0)))), none, none, none, none, none, none, none, none]) rfl ?_
  refine z_aload_n C 0 dL_removes_38 rfl rfl ?_
  refine z_iconst C (nI 0) dL_removes_39 (by decide) ?_
  refine z_callVr C kX5_count gL_removes_X5_count (l_cnt0 X.2.1 x0 h0 h1 w0 w1 t S o kp ln ps  hG ) dL_removes_40 [0, 1, 2, 3, 4, 5, 6, 7, 8, 9, 51] [] 0 rfl nd_0_1_2_3_4_5_6_7_8_9_51 rfl rfl rfl (by decide) (by decide) (Nat.le_of_ble_eq_true rfl) rfl ?_
  refine z_istore C dL_removes_43 (Nat.le_of_ble_eq_true rfl) ?_
  refine z_lv (lv' := [some (.ref x0), some (.int (nI au)), some (.int (nI 0)), some (.int g), some (.int (nI (uU S 0))), some (.int (nI (lw g (uU S 0)))), some (.int (nI (mK S))), none, none, none, none, none, none, none]) rfl ?_
  refine z_aload_n C 0 dL_removes_45 rfl rfl ?_
  refine z_iconst C (nI 5) dL_removes_46 (by decide) ?_
  refine z_callVr C kX5_count gL_removes_X5_count (l_cnt5y X.2.1 x0 h0 h1 w0 w1 t S o kp ln ps  hG ht) dL_removes_47 [0, 1, 2, 3, 4, 5, 6, 7, 8, 9, 51] [] 0 rfl nd_0_1_2_3_4_5_6_7_8_9_51 rfl rfl rfl (by decide) (by decide) (Nat.le_of_ble_eq_true rfl) rfl ?_
  refine z_iconst C (nI 1) dL_removes_50 (by decide) ?_
  refine z_ncmp_ne_f C 58 dL_removes_51 (by decide) (by omega) (by omega) (by omega) ?_
  refine z_iconst C (nI 1) dL_removes_54 (by decide) ?_
  refine z_goto C 59 dL_removes_55 (by decide) ?_
  refine z_istore C dL_removes_59 (Nat.le_of_ble_eq_true rfl) ?_
  refine z_lv (lv' := [some (.ref x0), some (.int (nI au)), some (.int (nI 0)), some (.int g), some (.int (nI (uU S 0))), some (.int (nI (lw g (uU S 0)))), some (.int (nI (mK S))), some (.int (nI 1)), none, none, none, none, none, none]) rfl ?_
  refine z_aload_n C 0 dL_removes_61 rfl rfl ?_
  refine z_iload_n C 2 dL_removes_62 rfl rfl ?_
  refine z_iload C dL_removes_63 rfl ?_
  refine z_iconst C (nI 0) dL_removes_65 (by decide) ?_
  refine z_callVr C kX5_line gL_removes_X5_line (l_line0y X.2.1 x0 h0 w0 t S 0 (lw g (uU S 0)) hG (by decide) hg_1 hN) dL_removes_66 [0, 1, 2, 3, 4, 5, 6, 7, 8] [] 0 rfl nd_0_1_2_3_4_5_6_7_8 rfl rfl rfl (by decide) (by decide) (Nat.le_of_ble_eq_true rfl) rfl ?_
  refine z_istore C dL_removes_69 (Nat.le_of_ble_eq_true rfl) ?_
  refine z_lv (lv' := [some (.ref x0), some (.int (nI au)), some (.int (nI 0)), some (.int g), some (.int (nI (uU S 0))), some (.int (nI (lw g (uU S 0)))), some (.int (nI (mK S))), some (.int (nI 1)), some (.int (nI (xI S 0 (lw g (uU S 0))))), none, none, none, none, none]) rfl ?_
  refine z_aload_n C 0 dL_removes_71 rfl rfl ?_
  refine z_iload_n C 2 dL_removes_72 rfl rfl ?_
  refine z_iload C dL_removes_73 rfl ?_
  refine z_iconst C (nI 1) dL_removes_75 (by decide) ?_
  refine z_callVr C kX5_line gL_removes_X5_line (l_line1y X.2.1 x0 h0 w0 t S 0 (lw g (uU S 0)) hG (by decide) hg_1 hD) dL_removes_76 [0, 1, 2, 3, 4, 5, 6, 7, 8] [] 0 rfl nd_0_1_2_3_4_5_6_7_8 rfl rfl rfl (by decide) (by decide) (Nat.le_of_ble_eq_true rfl) rfl ?_
  refine z_nif_lt_f C 86 dL_removes_79 (by decide) (by omega) (by trivial) ?_
  refine z_iconst C (nI 1) dL_removes_82 (by decide) ?_
  refine z_goto C 87 dL_removes_83 (by decide) ?_
  refine z_istore C dL_removes_87 (Nat.le_of_ble_eq_true rfl) ?_
  refine z_lv (lv' := [some (.ref x0), some (.int (nI au)), some (.int (nI 0)), some (.int g), some (.int (nI (uU S 0))), some (.int (nI (lw g (uU S 0)))), some (.int (nI (mK S))), some (.int (nI 1)), some (.int (nI (xI S 0 (lw g (uU S 0))))), some (.int (nI 1)), none, none, none, none]) rfl ?_
  refine z_iload C dL_removes_89 rfl ?_
  refine z_nif_lt_f C 109 dL_removes_91 (by decide) (by omega) (by trivial) ?_
  refine z_aload_n C 0 dL_removes_94 rfl rfl ?_
  refine z_iload C dL_removes_95 rfl ?_
  refine z_iconst C (nI 1) dL_removes_97 (by decide) ?_
  refine z_callVr C kX5_change gL_removes_X5_change (l_chg1 X.2.1 x0 h0 w0 t S (xI S 0 (lw g (uU S 0))) hG hxm) dL_removes_98 [0, 1, 2, 3, 4, 5, 6, 7, 8] [] 0 rfl nd_0_1_2_3_4_5_6_7_8 rfl rfl rfl (by decide) (by decide) (Nat.le_of_ble_eq_true rfl) rfl ?_
  refine z_iload_n C 1 dL_removes_101 rfl rfl ?_
  refine z_ncmp_ne C 109 dL_removes_102 (by decide) (by omega) (by omega) (fun h_2 => ?_) (fun h_2 => ?_)
  · refine z_iconst C (nI 0) dL_removes_109 (by decide) ?_
    refine z_istore C dL_removes_110 (Nat.le_of_ble_eq_true rfl) ?_
    refine z_lv (lv' := [some (.ref x0), some (.int (nI au)), some (.int (nI 0)), some (.int g), some (.int (nI (uU S 0))), some (.int (nI (lw g (uU S 0)))), some (.int (nI (mK S))), some (.int (nI 1)), some (.int (nI (xI S 0 (lw g (uU S 0))))), some (.int (nI 1)), some (.int (nI 0)), none, none, none]) rfl ?_
    refine z_iload C dL_removes_112 rfl ?_
    refine z_nif_ne_t C 123 dL_removes_114 (by decide) (by omega) (by omega) ?_
    refine z_iload C dL_removes_123 rfl ?_
    refine z_nif_eq_f C 133 dL_removes_125 (by decide) (by omega) (by omega) ?_
    refine z_bipush C (-4) dL_removes_128 (by decide) ?_
    refine z_goto C 157 dL_removes_130 (by decide) ?_
    refine z_istore C dL_removes_157 (Nat.le_of_ble_eq_true rfl) ?_
    refine z_lv (lv' := [some (.ref x0), some (.int (nI au)), some (.int (nI 0)), some (.int g), some (.int (nI (uU S 0))), some (.int (nI (lw g (uU S 0)))), some (.int (nI (mK S))), some (.int (nI 1)), some (.int (nI (xI S 0 (lw g (uU S 0))))), some (.int (nI 1)), some (.int (nI 0)), some (.int (-4)), none, none]) rfl ?_
    refine z_aload_n C 0 dL_removes_159 rfl rfl ?_
    refine z_iconst C (nI 4) dL_removes_160 (by decide) ?_
    refine z_callVr C kX5_count gL_removes_X5_count (l_cntK X.2.1 x0 h0 h1 w0 w1 t S o kp ln ps 3 hG (by decide)) dL_removes_161 [0, 1, 2, 3, 4, 5, 6, 7, 8, 9, 51] [] 0 rfl nd_0_1_2_3_4_5_6_7_8_9_51 rfl rfl rfl (by decide) (by decide) (Nat.le_of_ble_eq_true rfl) rfl ?_
    have hg_3 : cnS S 3 ≤ mK S := zc_le _ _
    refine z_aload_n C 0 dL_removes_164 rfl rfl ?_
    refine z_iload_n C 2 dL_removes_165 rfl rfl ?_
    refine z_iload C dL_removes_166 rfl ?_
    refine z_iconst C (nI 4) dL_removes_168 (by decide) ?_
    refine z_callVr C kX5_line gL_removes_X5_line (l_line4 X.2.1 x0 h0 w0 t S 0 (lw g (uU S 0)) hG (by decide) hg_1) dL_removes_169 [0, 1, 2, 3, 4, 5, 6, 7, 8] [.int (nI (cnS S 3))] 0 rfl nd_0_1_2_3_4_5_6_7_8 rfl rfl rfl (by decide) (by decide) (Nat.le_of_ble_eq_true rfl) rfl ?_
    refine z_iadd C dL_removes_172 ?_
    refine z_top (y := nI ((cnS S 3) + (nSt S 0 (lw g (uU S 0))))) (nI_add _ _) ?_
    refine z_iload C dL_removes_173 rfl ?_
    refine z_nif_lt_f C 182 dL_removes_175 (by decide) (by omega) (by trivial) ?_
    refine z_iconst C (nI 1) dL_removes_178 (by decide) ?_
    refine z_goto C 183 dL_removes_179 (by decide) ?_
    refine z_iadd C dL_removes_183 ?_
    refine z_top (y := nI (((cnS S 3) + (nSt S 0 (lw g (uU S 0)))) + 1)) (nI_add _ _) ?_
    refine z_iload C dL_removes_184 rfl ?_
    refine z_nif_eq_f C 193 dL_removes_186 (by decide) (by omega) (by omega) ?_
    refine z_iconst C (nI 1) dL_removes_189 (by decide) ?_
    refine z_goto C 194 dL_removes_190 (by decide) ?_
    refine z_iadd C dL_removes_194 ?_
    refine z_top (y := nI (((cnS S 3) + (nSt S 0 (lw g (uU S 0)))) + 2)) (nI_add _ _) ?_
    refine z_istore C dL_removes_195 (Nat.le_of_ble_eq_true rfl) ?_
    refine z_lv (lv' := [some (.ref x0), some (.int (nI au)), some (.int (nI 0)), some (.int g), some (.int (nI (uU S 0))), some (.int (nI (lw g (uU S 0)))), some (.int (nI (mK S))), some (.int (nI 1)), some (.int (nI (xI S 0 (lw g (uU S 0))))), some (.int (nI 1)), some (.int (nI 0)), some (.int (-4)), some (.int (nI (((cnS S 3) + (nSt S 0 (lw g (uU S 0)))) + 2))), none]) rfl ?_
    refine z_aload_n C 0 dL_removes_197 rfl rfl ?_
    refine z_iload_n C 1 dL_removes_198 rfl rfl ?_
    refine z_iload_n C 2 dL_removes_199 rfl rfl ?_
    refine z_iload C dL_removes_200 rfl ?_
    refine z_callV (wn := (WRd X.2.1 x0 h0 h1 w0 w1 t r S1 o1 kp1 Q1 tx ln ps)) C kX5_remove gL_removes_X5_remove m1 dL_removes_202 [0, 1, 2, 3, 4, 5, 6, 7, 8, 9, 10, 11, 12, 13, 14, 15, 16, 17, 18, 19, 20, 21, 22, 23, 24, 25, 26, 27, 28, 29, 30, 31, 32, 33, 34, 35, 36, 37, 38, 39, 40, 41, 42, 43, 44, 45, 46, 47, 48, 49, 50] [] 0 rfl rfl nd_0_1_2_3_4_5_6_7_8_9_10_11_12_13_14_15_16_17_18_19_20_21_22_23_24_25_26_27_28_29_30_31_32_33_34_35_36_37_38_39_40_41_42_43_44_45_46_47_48_49_50 rfl rfl rfl (by decide) (by decide) (Nat.le_of_ble_eq_true rfl) rfl ((zput_par nd_0_1_2_3_4_5_6_7_8_9_10_11_12_13_14_15_16_17_18_19_20_21_22_23_24_25_26_27_28_29_30_31_32_33_34_35_36_37_38_39_40_41_42_43_44_45_46_47_48_49_50 rfl).trans rfl) ?_
    refine z_iload C dL_removes_205 rfl ?_
    refine z_icmp_eq_t C 212 dL_removes_207 (by decide) rfl ?_
    refine z_iload C dL_removes_212 rfl ?_
    refine z_if_ge_f C 234 dL_removes_214 (by decide) (by decide) ?_
    refine z_aload_n C 0 dL_removes_217 rfl rfl ?_
    refine z_iconst C (nI 0) dL_removes_218 (by decide) ?_
    refine z_iload_n C 2 dL_removes_219 rfl rfl ?_
    refine z_callVr C kX5_size gL_removes_X5_size (l_size0 X.2.1 x0 h0 w0 t S1 0 hG1 (by decide)) dL_removes_220 [0, 1, 2, 3, 4, 5, 6, 7, 8] [] 0 rfl nd_0_1_2_3_4_5_6_7_8 rfl rfl rfl (by decide) (by decide) (Nat.le_of_ble_eq_true rfl) rfl ?_
    refine z_iload C dL_removes_223 rfl ?_
    refine z_ncmp_ne_f C 232 dL_removes_225 (by decide) (by omega) (by omega) (by omega) ?_
    refine z_iconst C (nI 1) dL_removes_228 (by decide) ?_
    refine z_goto C 233 dL_removes_229 (by decide) ?_
    exact z_zret C N dL_removes_233 rfl (rfl) (rfl)
  · refine z_iconst C (nI 1) dL_removes_105 (by decide) ?_
    refine z_goto C 110 dL_removes_106 (by decide) ?_
    refine z_istore C dL_removes_110 (Nat.le_of_ble_eq_true rfl) ?_
    refine z_lv (lv' := [some (.ref x0), some (.int (nI au)), some (.int (nI 0)), some (.int g), some (.int (nI (uU S 0))), some (.int (nI (lw g (uU S 0)))), some (.int (nI (mK S))), some (.int (nI 1)), some (.int (nI (xI S 0 (lw g (uU S 0))))), some (.int (nI 1)), some (.int (nI 1)), none, none, none]) rfl ?_
    refine z_iload C dL_removes_112 rfl ?_
    refine z_nif_ne_t C 123 dL_removes_114 (by decide) (by omega) (by omega) ?_
    refine z_iload C dL_removes_123 rfl ?_
    refine z_nif_eq_f C 133 dL_removes_125 (by decide) (by omega) (by omega) ?_
    refine z_bipush C (-4) dL_removes_128 (by decide) ?_
    refine z_goto C 157 dL_removes_130 (by decide) ?_
    refine z_istore C dL_removes_157 (Nat.le_of_ble_eq_true rfl) ?_
    refine z_lv (lv' := [some (.ref x0), some (.int (nI au)), some (.int (nI 0)), some (.int g), some (.int (nI (uU S 0))), some (.int (nI (lw g (uU S 0)))), some (.int (nI (mK S))), some (.int (nI 1)), some (.int (nI (xI S 0 (lw g (uU S 0))))), some (.int (nI 1)), some (.int (nI 1)), some (.int (-4)), none, none]) rfl ?_
    refine z_aload_n C 0 dL_removes_159 rfl rfl ?_
    refine z_iconst C (nI 4) dL_removes_160 (by decide) ?_
    refine z_callVr C kX5_count gL_removes_X5_count (l_cntK X.2.1 x0 h0 h1 w0 w1 t S o kp ln ps 3 hG (by decide)) dL_removes_161 [0, 1, 2, 3, 4, 5, 6, 7, 8, 9, 51] [] 0 rfl nd_0_1_2_3_4_5_6_7_8_9_51 rfl rfl rfl (by decide) (by decide) (Nat.le_of_ble_eq_true rfl) rfl ?_
    have hg_4 : cnS S 3 ≤ mK S := zc_le _ _
    refine z_aload_n C 0 dL_removes_164 rfl rfl ?_
    refine z_iload_n C 2 dL_removes_165 rfl rfl ?_
    refine z_iload C dL_removes_166 rfl ?_
    refine z_iconst C (nI 4) dL_removes_168 (by decide) ?_
    refine z_callVr C kX5_line gL_removes_X5_line (l_line4 X.2.1 x0 h0 w0 t S 0 (lw g (uU S 0)) hG (by decide) hg_1) dL_removes_169 [0, 1, 2, 3, 4, 5, 6, 7, 8] [.int (nI (cnS S 3))] 0 rfl nd_0_1_2_3_4_5_6_7_8 rfl rfl rfl (by decide) (by decide) (Nat.le_of_ble_eq_true rfl) rfl ?_
    refine z_iadd C dL_removes_172 ?_
    refine z_top (y := nI ((cnS S 3) + (nSt S 0 (lw g (uU S 0))))) (nI_add _ _) ?_
    refine z_iload C dL_removes_173 rfl ?_
    refine z_nif_lt_f C 182 dL_removes_175 (by decide) (by omega) (by trivial) ?_
    refine z_iconst C (nI 1) dL_removes_178 (by decide) ?_
    refine z_goto C 183 dL_removes_179 (by decide) ?_
    refine z_iadd C dL_removes_183 ?_
    refine z_top (y := nI (((cnS S 3) + (nSt S 0 (lw g (uU S 0)))) + 1)) (nI_add _ _) ?_
    refine z_iload C dL_removes_184 rfl ?_
    refine z_nif_eq_f C 193 dL_removes_186 (by decide) (by omega) (by omega) ?_
    refine z_iconst C (nI 1) dL_removes_189 (by decide) ?_
    refine z_goto C 194 dL_removes_190 (by decide) ?_
    refine z_iadd C dL_removes_194 ?_
    refine z_top (y := nI (((cnS S 3) + (nSt S 0 (lw g (uU S 0)))) + 2)) (nI_add _ _) ?_
    refine z_istore C dL_removes_195 (Nat.le_of_ble_eq_true rfl) ?_
    refine z_lv (lv' := [some (.ref x0), some (.int (nI au)), some (.int (nI 0)), some (.int g), some (.int (nI (uU S 0))), some (.int (nI (lw g (uU S 0)))), some (.int (nI (mK S))), some (.int (nI 1)), some (.int (nI (xI S 0 (lw g (uU S 0))))), some (.int (nI 1)), some (.int (nI 1)), some (.int (-4)), some (.int (nI (((cnS S 3) + (nSt S 0 (lw g (uU S 0)))) + 2))), none]) rfl ?_
    refine z_aload_n C 0 dL_removes_197 rfl rfl ?_
    refine z_iload_n C 1 dL_removes_198 rfl rfl ?_
    refine z_iload_n C 2 dL_removes_199 rfl rfl ?_
    refine z_iload C dL_removes_200 rfl ?_
    refine z_callV (wn := (WRd X.2.1 x0 h0 h1 w0 w1 t r S1 o1 kp1 Q1 tx ln ps)) C kX5_remove gL_removes_X5_remove m1 dL_removes_202 [0, 1, 2, 3, 4, 5, 6, 7, 8, 9, 10, 11, 12, 13, 14, 15, 16, 17, 18, 19, 20, 21, 22, 23, 24, 25, 26, 27, 28, 29, 30, 31, 32, 33, 34, 35, 36, 37, 38, 39, 40, 41, 42, 43, 44, 45, 46, 47, 48, 49, 50] [] 0 rfl rfl nd_0_1_2_3_4_5_6_7_8_9_10_11_12_13_14_15_16_17_18_19_20_21_22_23_24_25_26_27_28_29_30_31_32_33_34_35_36_37_38_39_40_41_42_43_44_45_46_47_48_49_50 rfl rfl rfl (by decide) (by decide) (Nat.le_of_ble_eq_true rfl) rfl ((zput_par nd_0_1_2_3_4_5_6_7_8_9_10_11_12_13_14_15_16_17_18_19_20_21_22_23_24_25_26_27_28_29_30_31_32_33_34_35_36_37_38_39_40_41_42_43_44_45_46_47_48_49_50 rfl).trans rfl) ?_
    refine z_iload C dL_removes_205 rfl ?_
    refine z_icmp_eq_t C 212 dL_removes_207 (by decide) rfl ?_
    refine z_iload C dL_removes_212 rfl ?_
    refine z_if_ge_f C 234 dL_removes_214 (by decide) (by decide) ?_
    refine z_aload_n C 0 dL_removes_217 rfl rfl ?_
    refine z_iconst C (nI 0) dL_removes_218 (by decide) ?_
    refine z_iload_n C 2 dL_removes_219 rfl rfl ?_
    refine z_callVr C kX5_size gL_removes_X5_size (l_size0 X.2.1 x0 h0 w0 t S1 0 hG1 (by decide)) dL_removes_220 [0, 1, 2, 3, 4, 5, 6, 7, 8] [] 0 rfl nd_0_1_2_3_4_5_6_7_8 rfl rfl rfl (by decide) (by decide) (Nat.le_of_ble_eq_true rfl) rfl ?_
    refine z_iload C dL_removes_223 rfl ?_
    refine z_ncmp_ne_f C 232 dL_removes_225 (by decide) (by omega) (by omega) (by omega) ?_
    refine z_iconst C (nI 1) dL_removes_228 (by decide) ?_
    refine z_goto C 233 dL_removes_229 (by decide) ?_
    exact z_zret C N dL_removes_233 rfl (rfl) (rfl)

set_option maxHeartbeats 4000000 in
set_option maxRecDepth 100000 in
theorem w_rem0o (E : zE) (x0 h0 h1 w0 w1 : Nat) (t : Nat → Nat) (r : Nat → Nat → Nat) (S S1 : zSt) (o kp kp1 o1 : Nat) (Q Q1 : Nat → zSt) (tx : Nat → Nat) (ln : Nat) (ps : zPs) {B B1 : Nat} (au : Nat) (g : Int32) (hG : GG S B) (hG1 : GG S1 B1) (hau : au < 4) (hz : 0 < uU S 0) (hN : Nw S 0 (lw g (uU S 0)) = true) (hD : Dm S 0 (lw g (uU S 0)) = false) (ht : tK S = true) (ho_ : aN S (xI S 0 (lw g (uU S 0))) = au) (hu : uU S1 0 + 1 = uU S 0) (hc : cnS S1 3 = cnS S 3 + nSt S 0 (lw g (uU S 0)) + 1) (hc6 : cnS S1 3 ≤ 60) (m1 : zM E yX5_remove wsX5_remove 6 [.ref x0, .int (nI au), .int (nI 0), .int (nI (lw g (uU S 0)))] (WAd E x0 h0 h1 w0 t r S o kp Q) (WAd E x0 h0 h1 w0 t r S1 o1 kp1 Q1) (some (.int (nI (xI S 0 (lw g (uU S 0))))))) : zM E yL_removes wsL_removes 7 [.ref x0, .int (nI au), .int (nI 0), .int g] (WRd E x0 h0 h1 w0 w1 t r S o kp Q tx ln ps) (WRd E x0 h0 h1 w0 w1 t r S1 o1 kp1 Q1 tx ln ps) (some (.int (nI 1))) := by
  refine zM.of kL_removes (Nat.le_of_ble_eq_true rfl) rfl [some (.ref x0), some (.int (nI au)), some (.int (nI 0)), some (.int g), none, none, none, none, none, none, none, none, none, none] rfl (Nat.le_of_ble_eq_true rfl) ?_
  intro X eX C N
  subst eX
  have hb0 : uU S 0 ≤ 12 := gg_u hG 0
  have hb1 : uU S 1 ≤ 8 := gg_u1 hG
  have hb2 : mK S ≤ 60 := gg_M hG
  have hb3 : uU S1 0 ≤ 12 := gg_u hG1 0
  have hb4 : uU S1 1 ≤ 8 := gg_u1 hG1
  have hb5 : mK S1 ≤ 60 := gg_M hG1
  have hxm : xI S 0 (lw g (uU S 0)) < mK S := (Nw_t hN).1
  have hxa : aN S (xI S 0 (lw g (uU S 0))) < 4 := (aN_e hG hxm).2
  refine z_aload_n C 0 dL_removes_0 rfl rfl ?_
  refine z_iconst C (nI 0) dL_removes_1 (by decide) ?_
  refine z_iload_n C 2 dL_removes_2 rfl rfl ?_
  refine z_callVr C kX5_size gL_removes_X5_size (l_size0 X.2.1 x0 h0 w0 t S 0 hG (by decide)) dL_removes_3 [0, 1, 2, 3, 4, 5, 6, 7, 8] [] 0 rfl nd_0_1_2_3_4_5_6_7_8 rfl rfl rfl (by decide) (by decide) (Nat.le_of_ble_eq_true rfl) rfl ?_
  refine z_istore C dL_removes_6 (Nat.le_of_ble_eq_true rfl) ?_
  refine z_lv (lv' := [some (.ref x0), some (.int (nI au)), some (.int (nI 0)), some (.int g), some (.int (nI (uU S 0))), none, none, none, none, none, none, none, none, none]) rfl ?_
  refine z_iload C dL_removes_8 rfl ?_
  refine z_nif_ne_t C 30 dL_removes_10 (by decide) (by omega) (by omega) ?_
  refine z_iload_n C 3 dL_removes_30 rfl rfl ?_
  refine z_iload C dL_removes_31 rfl ?_
  refine z_callS C kL_low gL_removes_L_low (l_low X.2.1 g (uU S 0) hz (by omega)) dL_removes_33 [] rfl (by decide) (by decide) (Nat.le_of_ble_eq_true rfl) rfl ?_
  have hg_1 : lw g (uU S 0) < (uU S 0) := lw_lt g (by omega)
  refine z_istore C dL_removes_36 (Nat.le_of_ble_eq_true rfl) ?_
  refine z_lv (lv' := [some (.ref x0), some (.int (nI au)), some (.int (nI 0)), some (.int g), some (.int (nI (uU S 0))), some (.int (nI (lw g (uU S 0)))), none, none, none, none, none, none, none, none]) rfl ?_
  refine z_aload_n C 0 dL_removes_38 rfl rfl ?_
  refine z_iconst C (nI 0) dL_removes_39 (by decide) ?_
  refine z_callVr C kX5_count gL_removes_X5_count (l_cnt0 X.2.1 x0 h0 h1 w0 w1 t S o kp ln ps  hG ) dL_removes_40 [0, 1, 2, 3, 4, 5, 6, 7, 8, 9, 51] [] 0 rfl nd_0_1_2_3_4_5_6_7_8_9_51 rfl rfl rfl (by decide) (by decide) (Nat.le_of_ble_eq_true rfl) rfl ?_
  refine z_istore C dL_removes_43 (Nat.le_of_ble_eq_true rfl) ?_
  refine z_lv (lv' := [some (.ref x0), some (.int (nI au)), some (.int (nI 0)), some (.int g), some (.int (nI (uU S 0))), some (.int (nI (lw g (uU S 0)))), some (.int (nI (mK S))), none, none, none, none, none, none, none]) rfl ?_
  refine z_aload_n C 0 dL_removes_45 rfl rfl ?_
  refine z_iconst C (nI 5) dL_removes_46 (by decide) ?_
  refine z_callVr C kX5_count gL_removes_X5_count (l_cnt5y X.2.1 x0 h0 h1 w0 w1 t S o kp ln ps  hG ht) dL_removes_47 [0, 1, 2, 3, 4, 5, 6, 7, 8, 9, 51] [] 0 rfl nd_0_1_2_3_4_5_6_7_8_9_51 rfl rfl rfl (by decide) (by decide) (Nat.le_of_ble_eq_true rfl) rfl ?_
  refine z_iconst C (nI 1) dL_removes_50 (by decide) ?_
  refine z_ncmp_ne_f C 58 dL_removes_51 (by decide) (by omega) (by omega) (by omega) ?_
  refine z_iconst C (nI 1) dL_removes_54 (by decide) ?_
  refine z_goto C 59 dL_removes_55 (by decide) ?_
  refine z_istore C dL_removes_59 (Nat.le_of_ble_eq_true rfl) ?_
  refine z_lv (lv' := [some (.ref x0), some (.int (nI au)), some (.int (nI 0)), some (.int g), some (.int (nI (uU S 0))), some (.int (nI (lw g (uU S 0)))), some (.int (nI (mK S))), some (.int (nI 1)), none, none, none, none, none, none]) rfl ?_
  refine z_aload_n C 0 dL_removes_61 rfl rfl ?_
  refine z_iload_n C 2 dL_removes_62 rfl rfl ?_
  refine z_iload C dL_removes_63 rfl ?_
  refine z_iconst C (nI 0) dL_removes_65 (by decide) ?_
  refine z_callVr C kX5_line gL_removes_X5_line (l_line0y X.2.1 x0 h0 w0 t S 0 (lw g (uU S 0)) hG (by decide) hg_1 hN) dL_removes_66 [0, 1, 2, 3, 4, 5, 6, 7, 8] [] 0 rfl nd_0_1_2_3_4_5_6_7_8 rfl rfl rfl (by decide) (by decide) (Nat.le_of_ble_eq_true rfl) rfl ?_
  refine z_istore C dL_removes_69 (Nat.le_of_ble_eq_true rfl) ?_
  refine z_lv (lv' := [some (.ref x0), some (.int (nI au)), some (.int (nI 0)), some (.int g), some (.int (nI (uU S 0))), some (.int (nI (lw g (uU S 0)))), some (.int (nI (mK S))), some (.int (nI 1)), some (.int (nI (xI S 0 (lw g (uU S 0))))), none, none, none, none, none]) rfl ?_
  refine z_aload_n C 0 dL_removes_71 rfl rfl ?_
  refine z_iload_n C 2 dL_removes_72 rfl rfl ?_
  refine z_iload C dL_removes_73 rfl ?_
  refine z_iconst C (nI 1) dL_removes_75 (by decide) ?_
  refine z_callVr C kX5_line gL_removes_X5_line (l_line1n X.2.1 x0 h0 w0 t S 0 (lw g (uU S 0)) hG (by decide) hg_1 hD) dL_removes_76 [0, 1, 2, 3, 4, 5, 6, 7, 8] [] 0 rfl nd_0_1_2_3_4_5_6_7_8 rfl rfl rfl (by decide) (by decide) (Nat.le_of_ble_eq_true rfl) rfl ?_
  refine z_if_lt_t C 86 dL_removes_79 (by decide) (by decide) ?_
  refine z_iconst C (nI 0) dL_removes_86 (by decide) ?_
  refine z_istore C dL_removes_87 (Nat.le_of_ble_eq_true rfl) ?_
  refine z_lv (lv' := [some (.ref x0), some (.int (nI au)), some (.int (nI 0)), some (.int g), some (.int (nI (uU S 0))), some (.int (nI (lw g (uU S 0)))), some (.int (nI (mK S))), some (.int (nI 1)), some (.int (nI (xI S 0 (lw g (uU S 0))))), some (.int (nI 0)), none, none, none, none]) rfl ?_
  refine z_iload C dL_removes_89 rfl ?_
  refine z_nif_lt_f C 109 dL_removes_91 (by decide) (by omega) (by trivial) ?_
  refine z_aload_n C 0 dL_removes_94 rfl rfl ?_
  refine z_iload C dL_removes_95 rfl ?_
  refine z_iconst C (nI 1) dL_removes_97 (by decide) ?_
  refine z_callVr C kX5_change gL_removes_X5_change (l_chg1 X.2.1 x0 h0 w0 t S (xI S 0 (lw g (uU S 0))) hG hxm) dL_removes_98 [0, 1, 2, 3, 4, 5, 6, 7, 8] [] 0 rfl nd_0_1_2_3_4_5_6_7_8 rfl rfl rfl (by decide) (by decide) (Nat.le_of_ble_eq_true rfl) rfl ?_
  refine z_iload_n C 1 dL_removes_101 rfl rfl ?_
  refine z_ncmp_ne_f C 109 dL_removes_102 (by decide) (by omega) (by omega) (by omega) ?_
  refine z_iconst C (nI 1) dL_removes_105 (by decide) ?_
  refine z_goto C 110 dL_removes_106 (by decide) ?_
  refine z_istore C dL_removes_110 (Nat.le_of_ble_eq_true rfl) ?_
  refine z_lv (lv' := [some (.ref x0), some (.int (nI au)), some (.int (nI 0)), some (.int g), some (.int (nI (uU S 0))), some (.int (nI (lw g (uU S 0)))), some (.int (nI (mK S))), some (.int (nI 1)), some (.int (nI (xI S 0 (lw g (uU S 0))))), some (.int (nI 0)), some (.int (nI 1)), none, none, none]) rfl ?_
  refine z_iload C dL_removes_112 rfl ?_
  refine z_nif_ne_t C 123 dL_removes_114 (by decide) (by omega) (by omega) ?_
  refine z_iload C dL_removes_123 rfl ?_
  refine z_nif_eq_t C 133 dL_removes_125 (by decide) (by omega) (by omega) ?_
  refine z_iload C dL_removes_133 rfl ?_
  refine z_nif_eq_f C 143 dL_removes_135 (by decide) (by omega) (by omega) ?_
  refine z_iload C dL_removes_138 rfl ?_
  refine z_goto C 157 dL_removes_140 (by decide) ?_
  refine z_istore C dL_removes_157 (Nat.le_of_ble_eq_true rfl) ?_
  refine z_lv (lv' := [some (.ref x0), some (.int (nI au)), some (.int (nI 0)), some (.int g), some (.int (nI (uU S 0))), some (.int (nI (lw g (uU S 0)))), some (.int (nI (mK S))), some (.int (nI 1)), some (.int (nI (xI S 0 (lw g (uU S 0))))), some (.int (nI 0)), some (.int (nI 1)), some (.int (nI (xI S 0 (lw g (uU S 0))))), none, none]) rfl ?_
  refine z_aload_n C 0 dL_removes_159 rfl rfl ?_
  refine z_iconst C (nI 4) dL_removes_160 (by decide) ?_
  refine z_callVr C kX5_count gL_removes_X5_count (l_cntK X.2.1 x0 h0 h1 w0 w1 t S o kp ln ps 3 hG (by decide)) dL_removes_161 [0, 1, 2, 3, 4, 5, 6, 7, 8, 9, 51] [] 0 rfl nd_0_1_2_3_4_5_6_7_8_9_51 rfl rfl rfl (by decide) (by decide) (Nat.le_of_ble_eq_true rfl) rfl ?_
  have hg_2 : cnS S 3 ≤ mK S := zc_le _ _
  refine z_aload_n C 0 dL_removes_164 rfl rfl ?_
  refine z_iload_n C 2 dL_removes_165 rfl rfl ?_
  refine z_iload C dL_removes_166 rfl ?_
  refine z_iconst C (nI 4) dL_removes_168 (by decide) ?_
  refine z_callVr C kX5_line gL_removes_X5_line (l_line4 X.2.1 x0 h0 w0 t S 0 (lw g (uU S 0)) hG (by decide) hg_1) dL_removes_169 [0, 1, 2, 3, 4, 5, 6, 7, 8] [.int (nI (cnS S 3))] 0 rfl nd_0_1_2_3_4_5_6_7_8 rfl rfl rfl (by decide) (by decide) (Nat.le_of_ble_eq_true rfl) rfl ?_
  refine z_iadd C dL_removes_172 ?_
  refine z_top (y := nI ((cnS S 3) + (nSt S 0 (lw g (uU S 0))))) (nI_add _ _) ?_
  refine z_iload C dL_removes_173 rfl ?_
  refine z_nif_lt_f C 182 dL_removes_175 (by decide) (by omega) (by trivial) ?_
  refine z_iconst C (nI 1) dL_removes_178 (by decide) ?_
  refine z_goto C 183 dL_removes_179 (by decide) ?_
  refine z_iadd C dL_removes_183 ?_
  refine z_top (y := nI (((cnS S 3) + (nSt S 0 (lw g (uU S 0)))) + 1)) (nI_add _ _) ?_
  refine z_iload C dL_removes_184 rfl ?_
  refine z_nif_eq_t C 193 dL_removes_186 (by decide) (by omega) (by omega) ?_
  refine z_iconst C (nI 0) dL_removes_193 (by decide) ?_
  refine z_iadd C dL_removes_194 ?_
  refine z_top (y := nI (((cnS S 3) + (nSt S 0 (lw g (uU S 0)))) + 1)) (nI_add _ _) ?_
  refine z_istore C dL_removes_195 (Nat.le_of_ble_eq_true rfl) ?_
  refine z_lv (lv' := [some (.ref x0), some (.int (nI au)), some (.int (nI 0)), some (.int g), some (.int (nI (uU S 0))), some (.int (nI (lw g (uU S 0)))), some (.int (nI (mK S))), some (.int (nI 1)), some (.int (nI (xI S 0 (lw g (uU S 0))))), some (.int (nI 0)), some (.int (nI 1)), some (.int (nI (xI S 0 (lw g (uU S 0))))), some (.int (nI (((cnS S 3) + (nSt S 0 (lw g (uU S 0)))) + 1))), none]) rfl ?_
  refine z_aload_n C 0 dL_removes_197 rfl rfl ?_
  refine z_iload_n C 1 dL_removes_198 rfl rfl ?_
  refine z_iload_n C 2 dL_removes_199 rfl rfl ?_
  refine z_iload C dL_removes_200 rfl ?_
  refine z_callV (wn := (WRd X.2.1 x0 h0 h1 w0 w1 t r S1 o1 kp1 Q1 tx ln ps)) C kX5_remove gL_removes_X5_remove m1 dL_removes_202 [0, 1, 2, 3, 4, 5, 6, 7, 8, 9, 10, 11, 12, 13, 14, 15, 16, 17, 18, 19, 20, 21, 22, 23, 24, 25, 26, 27, 28, 29, 30, 31, 32, 33, 34, 35, 36, 37, 38, 39, 40, 41, 42, 43, 44, 45, 46, 47, 48, 49, 50] [] 0 rfl rfl nd_0_1_2_3_4_5_6_7_8_9_10_11_12_13_14_15_16_17_18_19_20_21_22_23_24_25_26_27_28_29_30_31_32_33_34_35_36_37_38_39_40_41_42_43_44_45_46_47_48_49_50 rfl rfl rfl (by decide) (by decide) (Nat.le_of_ble_eq_true rfl) rfl ((zput_par nd_0_1_2_3_4_5_6_7_8_9_10_11_12_13_14_15_16_17_18_19_20_21_22_23_24_25_26_27_28_29_30_31_32_33_34_35_36_37_38_39_40_41_42_43_44_45_46_47_48_49_50 rfl).trans rfl) ?_
  refine z_iload C dL_removes_205 rfl ?_
  refine z_ncmp_eq_t C 212 dL_removes_207 (by decide) (by omega) (by omega) (by omega) ?_
  refine z_iload C dL_removes_212 rfl ?_
  refine z_nif_ge_t C 234 dL_removes_214 (by decide) (by omega) (by trivial) ?_
  refine z_iload C dL_removes_234 rfl ?_
  refine z_nif_eq_f C 244 dL_removes_236 (by decide) (by omega) (by omega) ?_
  refine z_iload C dL_removes_239 rfl ?_
  refine z_nif_eq_f C 248 dL_removes_241 (by decide) (by omega) (by omega) ?_
  refine z_iconst C (nI 1) dL_removes_244 (by decide) ?_
  refine z_goto C 249 dL_removes_245 (by decide) ?_
  refine z_istore C dL_removes_249 (Nat.le_of_ble_eq_true rfl) ?_
  refine z_lv (lv' := [some (.ref x0), some (.int (nI au)), some (.int (nI 0)), some (.int g), some (.int (nI (uU S 0))), some (.int (nI (lw g (uU S 0)))), some (.int (nI (mK S))), some (.int (nI 1)), some (.int (nI (xI S 0 (lw g (uU S 0))))), some (.int (nI 0)), some (.int (nI 1)), some (.int (nI (xI S 0 (lw g (uU S 0))))), some (.int (nI (((cnS S 3) + (nSt S 0 (lw g (uU S 0)))) + 1))), some (.int (nI 1))]) rfl ?_
  refine z_aload_n C 0 dL_removes_251 rfl rfl ?_
  refine z_iconst C (nI 0) dL_removes_252 (by decide) ?_
  refine z_iload_n C 2 dL_removes_253 rfl rfl ?_
  refine z_callVr C kX5_size gL_removes_X5_size (l_size0 X.2.1 x0 h0 w0 t S1 0 hG1 (by decide)) dL_removes_254 [0, 1, 2, 3, 4, 5, 6, 7, 8] [] 0 rfl nd_0_1_2_3_4_5_6_7_8 rfl rfl rfl (by decide) (by decide) (Nat.le_of_ble_eq_true rfl) rfl ?_
  refine z_iload C dL_removes_257 rfl ?_
  refine z_nif_eq_f C 269 dL_removes_259 (by decide) (by omega) (by omega) ?_
  refine z_iload C dL_removes_262 rfl ?_
  refine z_iconst C (nI 1) dL_removes_264 (by decide) ?_
  refine z_isub C dL_removes_265 ?_
  refine z_top (y := nI ((uU S 0) - 1)) ((pk_sub (by omega)).trans (congrArg nI (by omega))) ?_
  refine z_goto C 271 dL_removes_266 (by decide) ?_
  refine z_ncmp_ne_f C 309 dL_removes_271 (by decide) (by omega) (by omega) (by omega) ?_
  refine z_iload C dL_removes_274 rfl ?_
  refine z_nif_eq_f C 292 dL_removes_276 (by decide) (by omega) (by omega) ?_
  refine z_aload_n C 0 dL_removes_279 rfl rfl ?_
  refine z_iconst C (nI 4) dL_removes_280 (by decide) ?_
  refine z_callVr C kX5_count gL_removes_X5_count (l_cntK X.2.1 x0 h0 h1 w0 w1 t S1 o1 kp1 ln ps 3 hG1 (by decide)) dL_removes_281 [0, 1, 2, 3, 4, 5, 6, 7, 8, 9, 51] [] 0 rfl nd_0_1_2_3_4_5_6_7_8_9_51 rfl rfl rfl (by decide) (by decide) (Nat.le_of_ble_eq_true rfl) rfl ?_
  have hg_3 : cnS S1 3 ≤ mK S1 := zc_le _ _
  refine z_iload C dL_removes_284 rfl ?_
  refine z_ncmp_ne_f C 309 dL_removes_286 (by decide) (by omega) (by omega) (by omega) ?_
  refine z_goto C 305 dL_removes_289 (by decide) ?_
  refine z_iconst C (nI 1) dL_removes_305 (by decide) ?_
  refine z_goto C 310 dL_removes_306 (by decide) ?_
  exact z_zret C N dL_removes_310 rfl (rfl) (rfl)

set_option maxHeartbeats 4000000 in
set_option maxRecDepth 100000 in
theorem w_rem0f1 (E : zE) (x0 h0 h1 w0 w1 : Nat) (t : Nat → Nat) (r : Nat → Nat → Nat) (S S1 : zSt) (o kp kp1 o1 : Nat) (Q Q1 : Nat → zSt) (tx : Nat → Nat) (ln : Nat) (ps : zPs) {B B1 : Nat} (au : Nat) (g : Int32) (hG : GG S B) (hG1 : GG S1 B1) (hau : au < 4) (hz : 0 < uU S 0) (hN : Nw S 0 (lw g (uU S 0)) = true) (hD : Dm S 0 (lw g (uU S 0)) = false) (ht : tK S = true) (ho_ : aN S (xI S 0 (lw g (uU S 0))) ≠ au) (hm : mK S = 60) (hu : uU S1 0 = uU S 0) (m1 : zM E yX5_remove wsX5_remove 6 [.ref x0, .int (nI au), .int (nI 0), .int (nI (lw g (uU S 0)))] (WAd E x0 h0 h1 w0 t r S o kp Q) (WAd E x0 h0 h1 w0 t r S1 o1 kp1 Q1) (some (.int (-3)))) : zM E yL_removes wsL_removes 7 [.ref x0, .int (nI au), .int (nI 0), .int g] (WRd E x0 h0 h1 w0 w1 t r S o kp Q tx ln ps) (WRd E x0 h0 h1 w0 w1 t r S1 o1 kp1 Q1 tx ln ps) (some (.int (nI 1))) := by
  refine zM.of kL_removes (Nat.le_of_ble_eq_true rfl) rfl [some (.ref x0), some (.int (nI au)), some (.int (nI 0)), some (.int g), none, none, none, none, none, none, none, none, none, none] rfl (Nat.le_of_ble_eq_true rfl) ?_
  intro X eX C N
  subst eX
  have hb0 : uU S 0 ≤ 12 := gg_u hG 0
  have hb1 : uU S 1 ≤ 8 := gg_u1 hG
  have hb2 : mK S ≤ 60 := gg_M hG
  have hb3 : uU S1 0 ≤ 12 := gg_u hG1 0
  have hb4 : uU S1 1 ≤ 8 := gg_u1 hG1
  have hb5 : mK S1 ≤ 60 := gg_M hG1
  have hxm : xI S 0 (lw g (uU S 0)) < mK S := (Nw_t hN).1
  have hxa : aN S (xI S 0 (lw g (uU S 0))) < 4 := (aN_e hG hxm).2
  refine z_aload_n C 0 dL_removes_0 rfl rfl ?_
  refine z_iconst C (nI 0) dL_removes_1 (by decide) ?_
  refine z_iload_n C 2 dL_removes_2 rfl rfl ?_
  refine z_callVr C kX5_size gL_removes_X5_size (l_size0 X.2.1 x0 h0 w0 t S 0 hG (by decide)) dL_removes_3 [0, 1, 2, 3, 4, 5, 6, 7, 8] [] 0 rfl nd_0_1_2_3_4_5_6_7_8 rfl rfl rfl (by decide) (by decide) (Nat.le_of_ble_eq_true rfl) rfl ?_
  refine z_istore C dL_removes_6 (Nat.le_of_ble_eq_true rfl) ?_
  refine z_lv (lv' := [some (.ref x0), some (.int (nI au)), some (.int (nI 0)), some (.int g), some (.int (nI (uU S 0))), none, none, none, none, none, none, none, none, none]) rfl ?_
  refine z_iload C dL_removes_8 rfl ?_
  refine z_nif_ne_t C 30 dL_removes_10 (by decide) (by omega) (by omega) ?_
  refine z_iload_n C 3 dL_removes_30 rfl rfl ?_
  refine z_iload C dL_removes_31 rfl ?_
  refine z_callS C kL_low gL_removes_L_low (l_low X.2.1 g (uU S 0) hz (by omega)) dL_removes_33 [] rfl (by decide) (by decide) (Nat.le_of_ble_eq_true rfl) rfl ?_
  have hg_1 : lw g (uU S 0) < (uU S 0) := lw_lt g (by omega)
  refine z_istore C dL_removes_36 (Nat.le_of_ble_eq_true rfl) ?_
  refine z_lv (lv' := [some (.ref x0), some (.int (nI au)), some (.int (nI 0)), some (.int g), some (.int (nI (uU S 0))), some (.int (nI (lw g (uU S 0)))), none, none, none, none, none, none, none, none]) rfl ?_
  refine z_aload_n C 0 dL_removes_38 rfl rfl ?_
  refine z_iconst C (nI 0) dL_removes_39 (by decide) ?_
  refine z_callVr C kX5_count gL_removes_X5_count (l_cnt0 X.2.1 x0 h0 h1 w0 w1 t S o kp ln ps  hG ) dL_removes_40 [0, 1, 2, 3, 4, 5, 6, 7, 8, 9, 51] [] 0 rfl nd_0_1_2_3_4_5_6_7_8_9_51 rfl rfl rfl (by decide) (by decide) (Nat.le_of_ble_eq_true rfl) rfl ?_
  refine z_istore C dL_removes_43 (Nat.le_of_ble_eq_true rfl) ?_
  refine z_lv (lv' := [some (.ref x0), some (.int (nI au)), some (.int (nI 0)), some (.int g), some (.int (nI (uU S 0))), some (.int (nI (lw g (uU S 0)))), some (.int (nI (mK S))), none, none, none, none, none, none, none]) rfl ?_
  refine z_aload_n C 0 dL_removes_45 rfl rfl ?_
  refine z_iconst C (nI 5) dL_removes_46 (by decide) ?_
  refine z_callVr C kX5_count gL_removes_X5_count (l_cnt5y X.2.1 x0 h0 h1 w0 w1 t S o kp ln ps  hG ht) dL_removes_47 [0, 1, 2, 3, 4, 5, 6, 7, 8, 9, 51] [] 0 rfl nd_0_1_2_3_4_5_6_7_8_9_51 rfl rfl rfl (by decide) (by decide) (Nat.le_of_ble_eq_true rfl) rfl ?_
  refine z_iconst C (nI 1) dL_removes_50 (by decide) ?_
  refine z_ncmp_ne_f C 58 dL_removes_51 (by decide) (by omega) (by omega) (by omega) ?_
  refine z_iconst C (nI 1) dL_removes_54 (by decide) ?_
  refine z_goto C 59 dL_removes_55 (by decide) ?_
  refine z_istore C dL_removes_59 (Nat.le_of_ble_eq_true rfl) ?_
  refine z_lv (lv' := [some (.ref x0), some (.int (nI au)), some (.int (nI 0)), some (.int g), some (.int (nI (uU S 0))), some (.int (nI (lw g (uU S 0)))), some (.int (nI (mK S))), some (.int (nI 1)), none, none, none, none, none, none]) rfl ?_
  refine z_aload_n C 0 dL_removes_61 rfl rfl ?_
  refine z_iload_n C 2 dL_removes_62 rfl rfl ?_
  refine z_iload C dL_removes_63 rfl ?_
  refine z_iconst C (nI 0) dL_removes_65 (by decide) ?_
  refine z_callVr C kX5_line gL_removes_X5_line (l_line0y X.2.1 x0 h0 w0 t S 0 (lw g (uU S 0)) hG (by decide) hg_1 hN) dL_removes_66 [0, 1, 2, 3, 4, 5, 6, 7, 8] [] 0 rfl nd_0_1_2_3_4_5_6_7_8 rfl rfl rfl (by decide) (by decide) (Nat.le_of_ble_eq_true rfl) rfl ?_
  refine z_istore C dL_removes_69 (Nat.le_of_ble_eq_true rfl) ?_
  refine z_lv (lv' := [some (.ref x0), some (.int (nI au)), some (.int (nI 0)), some (.int g), some (.int (nI (uU S 0))), some (.int (nI (lw g (uU S 0)))), some (.int (nI (mK S))), some (.int (nI 1)), some (.int (nI (xI S 0 (lw g (uU S 0))))), none, none, none, none, none]) rfl ?_
  refine z_aload_n C 0 dL_removes_71 rfl rfl ?_
  refine z_iload_n C 2 dL_removes_72 rfl rfl ?_
  refine z_iload C dL_removes_73 rfl ?_
  refine z_iconst C (nI 1) dL_removes_75 (by decide) ?_
  refine z_callVr C kX5_line gL_removes_X5_line (l_line1n X.2.1 x0 h0 w0 t S 0 (lw g (uU S 0)) hG (by decide) hg_1 hD) dL_removes_76 [0, 1, 2, 3, 4, 5, 6, 7, 8] [] 0 rfl nd_0_1_2_3_4_5_6_7_8 rfl rfl rfl (by decide) (by decide) (Nat.le_of_ble_eq_true rfl) rfl ?_
  refine z_if_lt_t C 86 dL_removes_79 (by decide) (by decide) ?_
  refine z_iconst C (nI 0) dL_removes_86 (by decide) ?_
  refine z_istore C dL_removes_87 (Nat.le_of_ble_eq_true rfl) ?_
  refine z_lv (lv' := [some (.ref x0), some (.int (nI au)), some (.int (nI 0)), some (.int g), some (.int (nI (uU S 0))), some (.int (nI (lw g (uU S 0)))), some (.int (nI (mK S))), some (.int (nI 1)), some (.int (nI (xI S 0 (lw g (uU S 0))))), some (.int (nI 0)), none, none, none, none]) rfl ?_
  refine z_iload C dL_removes_89 rfl ?_
  refine z_nif_lt_f C 109 dL_removes_91 (by decide) (by omega) (by trivial) ?_
  refine z_aload_n C 0 dL_removes_94 rfl rfl ?_
  refine z_iload C dL_removes_95 rfl ?_
  refine z_iconst C (nI 1) dL_removes_97 (by decide) ?_
  refine z_callVr C kX5_change gL_removes_X5_change (l_chg1 X.2.1 x0 h0 w0 t S (xI S 0 (lw g (uU S 0))) hG hxm) dL_removes_98 [0, 1, 2, 3, 4, 5, 6, 7, 8] [] 0 rfl nd_0_1_2_3_4_5_6_7_8 rfl rfl rfl (by decide) (by decide) (Nat.le_of_ble_eq_true rfl) rfl ?_
  refine z_iload_n C 1 dL_removes_101 rfl rfl ?_
  refine z_ncmp_ne_t C 109 dL_removes_102 (by decide) (by omega) (by omega) (by omega) ?_
  refine z_iconst C (nI 0) dL_removes_109 (by decide) ?_
  refine z_istore C dL_removes_110 (Nat.le_of_ble_eq_true rfl) ?_
  refine z_lv (lv' := [some (.ref x0), some (.int (nI au)), some (.int (nI 0)), some (.int g), some (.int (nI (uU S 0))), some (.int (nI (lw g (uU S 0)))), some (.int (nI (mK S))), some (.int (nI 1)), some (.int (nI (xI S 0 (lw g (uU S 0))))), some (.int (nI 0)), some (.int (nI 0)), none, none, none]) rfl ?_
  refine z_iload C dL_removes_112 rfl ?_
  refine z_nif_ne_t C 123 dL_removes_114 (by decide) (by omega) (by omega) ?_
  refine z_iload C dL_removes_123 rfl ?_
  refine z_nif_eq_t C 133 dL_removes_125 (by decide) (by omega) (by omega) ?_
  refine z_iload C dL_removes_133 rfl ?_
  refine z_nif_eq_t C 143 dL_removes_135 (by decide) (by omega) (by omega) ?_
  refine z_iload C dL_removes_143 rfl ?_
  refine z_bipush C (nI 60) dL_removes_145 (by decide) ?_
  refine z_ncmp_ne_f C 155 dL_removes_147 (by decide) (by omega) (by omega) (by omega) ?_
  refine z_bipush C (-3) dL_removes_150 (by decide) ?_
  refine z_goto C 157 dL_removes_152 (by decide) ?_
  refine z_istore C dL_removes_157 (Nat.le_of_ble_eq_true rfl) ?_
  refine z_lv (lv' := [some (.ref x0), some (.int (nI au)), some (.int (nI 0)), some (.int g), some (.int (nI (uU S 0))), some (.int (nI (lw g (uU S 0)))), some (.int (nI (mK S))), some (.int (nI 1)), some (.int (nI (xI S 0 (lw g (uU S 0))))), some (.int (nI 0)), some (.int (nI 0)), some (.int (-3)), none, none]) rfl ?_
  refine z_aload_n C 0 dL_removes_159 rfl rfl ?_
  refine z_iconst C (nI 4) dL_removes_160 (by decide) ?_
  refine z_callVr C kX5_count gL_removes_X5_count (l_cntK X.2.1 x0 h0 h1 w0 w1 t S o kp ln ps 3 hG (by decide)) dL_removes_161 [0, 1, 2, 3, 4, 5, 6, 7, 8, 9, 51] [] 0 rfl nd_0_1_2_3_4_5_6_7_8_9_51 rfl rfl rfl (by decide) (by decide) (Nat.le_of_ble_eq_true rfl) rfl ?_
  have hg_2 : cnS S 3 ≤ mK S := zc_le _ _
  refine z_aload_n C 0 dL_removes_164 rfl rfl ?_
  refine z_iload_n C 2 dL_removes_165 rfl rfl ?_
  refine z_iload C dL_removes_166 rfl ?_
  refine z_iconst C (nI 4) dL_removes_168 (by decide) ?_
  refine z_callVr C kX5_line gL_removes_X5_line (l_line4 X.2.1 x0 h0 w0 t S 0 (lw g (uU S 0)) hG (by decide) hg_1) dL_removes_169 [0, 1, 2, 3, 4, 5, 6, 7, 8] [.int (nI (cnS S 3))] 0 rfl nd_0_1_2_3_4_5_6_7_8 rfl rfl rfl (by decide) (by decide) (Nat.le_of_ble_eq_true rfl) rfl ?_
  refine z_iadd C dL_removes_172 ?_
  refine z_top (y := nI ((cnS S 3) + (nSt S 0 (lw g (uU S 0))))) (nI_add _ _) ?_
  refine z_iload C dL_removes_173 rfl ?_
  refine z_nif_lt_f C 182 dL_removes_175 (by decide) (by omega) (by trivial) ?_
  refine z_iconst C (nI 1) dL_removes_178 (by decide) ?_
  refine z_goto C 183 dL_removes_179 (by decide) ?_
  refine z_iadd C dL_removes_183 ?_
  refine z_top (y := nI (((cnS S 3) + (nSt S 0 (lw g (uU S 0)))) + 1)) (nI_add _ _) ?_
  refine z_iload C dL_removes_184 rfl ?_
  refine z_nif_eq_t C 193 dL_removes_186 (by decide) (by omega) (by omega) ?_
  refine z_iconst C (nI 0) dL_removes_193 (by decide) ?_
  refine z_iadd C dL_removes_194 ?_
  refine z_top (y := nI (((cnS S 3) + (nSt S 0 (lw g (uU S 0)))) + 1)) (nI_add _ _) ?_
  refine z_istore C dL_removes_195 (Nat.le_of_ble_eq_true rfl) ?_
  refine z_lv (lv' := [some (.ref x0), some (.int (nI au)), some (.int (nI 0)), some (.int g), some (.int (nI (uU S 0))), some (.int (nI (lw g (uU S 0)))), some (.int (nI (mK S))), some (.int (nI 1)), some (.int (nI (xI S 0 (lw g (uU S 0))))), some (.int (nI 0)), some (.int (nI 0)), some (.int (-3)), some (.int (nI (((cnS S 3) + (nSt S 0 (lw g (uU S 0)))) + 1))), none]) rfl ?_
  refine z_aload_n C 0 dL_removes_197 rfl rfl ?_
  refine z_iload_n C 1 dL_removes_198 rfl rfl ?_
  refine z_iload_n C 2 dL_removes_199 rfl rfl ?_
  refine z_iload C dL_removes_200 rfl ?_
  refine z_callV (wn := (WRd X.2.1 x0 h0 h1 w0 w1 t r S1 o1 kp1 Q1 tx ln ps)) C kX5_remove gL_removes_X5_remove m1 dL_removes_202 [0, 1, 2, 3, 4, 5, 6, 7, 8, 9, 10, 11, 12, 13, 14, 15, 16, 17, 18, 19, 20, 21, 22, 23, 24, 25, 26, 27, 28, 29, 30, 31, 32, 33, 34, 35, 36, 37, 38, 39, 40, 41, 42, 43, 44, 45, 46, 47, 48, 49, 50] [] 0 rfl rfl nd_0_1_2_3_4_5_6_7_8_9_10_11_12_13_14_15_16_17_18_19_20_21_22_23_24_25_26_27_28_29_30_31_32_33_34_35_36_37_38_39_40_41_42_43_44_45_46_47_48_49_50 rfl rfl rfl (by decide) (by decide) (Nat.le_of_ble_eq_true rfl) rfl ((zput_par nd_0_1_2_3_4_5_6_7_8_9_10_11_12_13_14_15_16_17_18_19_20_21_22_23_24_25_26_27_28_29_30_31_32_33_34_35_36_37_38_39_40_41_42_43_44_45_46_47_48_49_50 rfl).trans rfl) ?_
  refine z_iload C dL_removes_205 rfl ?_
  refine z_icmp_eq_t C 212 dL_removes_207 (by decide) rfl ?_
  refine z_iload C dL_removes_212 rfl ?_
  refine z_if_ge_f C 234 dL_removes_214 (by decide) (by decide) ?_
  refine z_aload_n C 0 dL_removes_217 rfl rfl ?_
  refine z_iconst C (nI 0) dL_removes_218 (by decide) ?_
  refine z_iload_n C 2 dL_removes_219 rfl rfl ?_
  refine z_callVr C kX5_size gL_removes_X5_size (l_size0 X.2.1 x0 h0 w0 t S1 0 hG1 (by decide)) dL_removes_220 [0, 1, 2, 3, 4, 5, 6, 7, 8] [] 0 rfl nd_0_1_2_3_4_5_6_7_8 rfl rfl rfl (by decide) (by decide) (Nat.le_of_ble_eq_true rfl) rfl ?_
  refine z_iload C dL_removes_223 rfl ?_
  refine z_ncmp_ne_f C 232 dL_removes_225 (by decide) (by omega) (by omega) (by omega) ?_
  refine z_iconst C (nI 1) dL_removes_228 (by decide) ?_
  refine z_goto C 233 dL_removes_229 (by decide) ?_
  exact z_zret C N dL_removes_233 rfl (rfl) (rfl)

set_option maxHeartbeats 4000000 in
set_option maxRecDepth 100000 in
theorem w_rem0t1 (E : zE) (x0 h0 h1 w0 w1 : Nat) (t : Nat → Nat) (r : Nat → Nat → Nat) (S S1 : zSt) (o kp kp1 o1 : Nat) (Q Q1 : Nat → zSt) (tx : Nat → Nat) (ln : Nat) (ps : zPs) {B B1 : Nat} (au : Nat) (g : Int32) (hG : GG S B) (hG1 : GG S1 B1) (hau : au < 4) (hz : 0 < uU S 0) (hN : Nw S 0 (lw g (uU S 0)) = true) (hD : Dm S 0 (lw g (uU S 0)) = false) (ht : tK S = true) (ho_ : aN S (xI S 0 (lw g (uU S 0))) ≠ au) (hm : mK S < 60) (hu : uU S1 0 = uU S 0) (hD1 : Dm S1 0 (lw g (uU S 0)) = true) (hx1 : xR S1 0 (lw g (uU S 0)) = mK S) (m1 : zM E yX5_remove wsX5_remove 6 [.ref x0, .int (nI au), .int (nI 0), .int (nI (lw g (uU S 0)))] (WAd E x0 h0 h1 w0 t r S o kp Q) (WAd E x0 h0 h1 w0 t r S1 o1 kp1 Q1) (some (.int (nI (mK S))))) : zM E yL_removes wsL_removes 7 [.ref x0, .int (nI au), .int (nI 0), .int g] (WRd E x0 h0 h1 w0 w1 t r S o kp Q tx ln ps) (WRd E x0 h0 h1 w0 w1 t r S1 o1 kp1 Q1 tx ln ps) (some (.int (nI 1))) := by
  refine zM.of kL_removes (Nat.le_of_ble_eq_true rfl) rfl [some (.ref x0), some (.int (nI au)), some (.int (nI 0)), some (.int g), none, none, none, none, none, none, none, none, none, none] rfl (Nat.le_of_ble_eq_true rfl) ?_
  intro X eX C N
  subst eX
  have hb0 : uU S 0 ≤ 12 := gg_u hG 0
  have hb1 : uU S 1 ≤ 8 := gg_u1 hG
  have hb2 : mK S ≤ 60 := gg_M hG
  have hb3 : uU S1 0 ≤ 12 := gg_u hG1 0
  have hb4 : uU S1 1 ≤ 8 := gg_u1 hG1
  have hb5 : mK S1 ≤ 60 := gg_M hG1
  have hxm : xI S 0 (lw g (uU S 0)) < mK S := (Nw_t hN).1
  have hxa : aN S (xI S 0 (lw g (uU S 0))) < 4 := (aN_e hG hxm).2
  refine z_aload_n C 0 dL_removes_0 rfl rfl ?_
  refine z_iconst C (nI 0) dL_removes_1 (by decide) ?_
  refine z_iload_n C 2 dL_removes_2 rfl rfl ?_
  refine z_callVr C kX5_size gL_removes_X5_size (l_size0 X.2.1 x0 h0 w0 t S 0 hG (by decide)) dL_removes_3 [0, 1, 2, 3, 4, 5, 6, 7, 8] [] 0 rfl nd_0_1_2_3_4_5_6_7_8 rfl rfl rfl (by decide) (by decide) (Nat.le_of_ble_eq_true rfl) rfl ?_
  refine z_istore C dL_removes_6 (Nat.le_of_ble_eq_true rfl) ?_
  refine z_lv (lv' := [some (.ref x0), some (.int (nI au)), some (.int (nI 0)), some (.int g), some (.int (nI (uU S 0))), none, none, none, none, none, none, none, none, none]) rfl ?_
  refine z_iload C dL_removes_8 rfl ?_
  refine z_nif_ne_t C 30 dL_removes_10 (by decide) (by omega) (by omega) ?_
  refine z_iload_n C 3 dL_removes_30 rfl rfl ?_
  refine z_iload C dL_removes_31 rfl ?_
  refine z_callS C kL_low gL_removes_L_low (l_low X.2.1 g (uU S 0) hz (by omega)) dL_removes_33 [] rfl (by decide) (by decide) (Nat.le_of_ble_eq_true rfl) rfl ?_
  have hg_1 : lw g (uU S 0) < (uU S 0) := lw_lt g (by omega)
  refine z_istore C dL_removes_36 (Nat.le_of_ble_eq_true rfl) ?_
  refine z_lv (lv' := [some (.ref x0), some (.int (nI au)), some (.int (nI 0)), some (.int g), some (.int (nI (uU S 0))), some (.int (nI (lw g (uU S 0)))), none, none, none, none, none, none, none, none]) rfl ?_
  refine z_aload_n C 0 dL_removes_38 rfl rfl ?_
  refine z_iconst C (nI 0) dL_removes_39 (by decide) ?_
  refine z_callVr C kX5_count gL_removes_X5_count (l_cnt0 X.2.1 x0 h0 h1 w0 w1 t S o kp ln ps  hG ) dL_removes_40 [0, 1, 2, 3, 4, 5, 6, 7, 8, 9, 51] [] 0 rfl nd_0_1_2_3_4_5_6_7_8_9_51 rfl rfl rfl (by decide) (by decide) (Nat.le_of_ble_eq_true rfl) rfl ?_
  refine z_istore C dL_removes_43 (Nat.le_of_ble_eq_true rfl) ?_
  refine z_lv (lv' := [some (.ref x0), some (.int (nI au)), some (.int (nI 0)), some (.int g), some (.int (nI (uU S 0))), some (.int (nI (lw g (uU S 0)))), some (.int (nI (mK S))), none, none, none, none, none, none, none]) rfl ?_
  refine z_aload_n C 0 dL_removes_45 rfl rfl ?_
  refine z_iconst C (nI 5) dL_removes_46 (by decide) ?_
  refine z_callVr C kX5_count gL_removes_X5_count (l_cnt5y X.2.1 x0 h0 h1 w0 w1 t S o kp ln ps  hG ht) dL_removes_47 [0, 1, 2, 3, 4, 5, 6, 7, 8, 9, 51] [] 0 rfl nd_0_1_2_3_4_5_6_7_8_9_51 rfl rfl rfl (by decide) (by decide) (Nat.le_of_ble_eq_true rfl) rfl ?_
  refine z_iconst C (nI 1) dL_removes_50 (by decide) ?_
  refine z_ncmp_ne_f C 58 dL_removes_51 (by decide) (by omega) (by omega) (by omega) ?_
  refine z_iconst C (nI 1) dL_removes_54 (by decide) ?_
  refine z_goto C 59 dL_removes_55 (by decide) ?_
  refine z_istore C dL_removes_59 (Nat.le_of_ble_eq_true rfl) ?_
  refine z_lv (lv' := [some (.ref x0), some (.int (nI au)), some (.int (nI 0)), some (.int g), some (.int (nI (uU S 0))), some (.int (nI (lw g (uU S 0)))), some (.int (nI (mK S))), some (.int (nI 1)), none, none, none, none, none, none]) rfl ?_
  refine z_aload_n C 0 dL_removes_61 rfl rfl ?_
  refine z_iload_n C 2 dL_removes_62 rfl rfl ?_
  refine z_iload C dL_removes_63 rfl ?_
  refine z_iconst C (nI 0) dL_removes_65 (by decide) ?_
  refine z_callVr C kX5_line gL_removes_X5_line (l_line0y X.2.1 x0 h0 w0 t S 0 (lw g (uU S 0)) hG (by decide) hg_1 hN) dL_removes_66 [0, 1, 2, 3, 4, 5, 6, 7, 8] [] 0 rfl nd_0_1_2_3_4_5_6_7_8 rfl rfl rfl (by decide) (by decide) (Nat.le_of_ble_eq_true rfl) rfl ?_
  refine z_istore C dL_removes_69 (Nat.le_of_ble_eq_true rfl) ?_
  refine z_lv (lv' := [some (.ref x0), some (.int (nI au)), some (.int (nI 0)), some (.int g), some (.int (nI (uU S 0))), some (.int (nI (lw g (uU S 0)))), some (.int (nI (mK S))), some (.int (nI 1)), some (.int (nI (xI S 0 (lw g (uU S 0))))), none, none, none, none, none]) rfl ?_
  refine z_aload_n C 0 dL_removes_71 rfl rfl ?_
  refine z_iload_n C 2 dL_removes_72 rfl rfl ?_
  refine z_iload C dL_removes_73 rfl ?_
  refine z_iconst C (nI 1) dL_removes_75 (by decide) ?_
  refine z_callVr C kX5_line gL_removes_X5_line (l_line1n X.2.1 x0 h0 w0 t S 0 (lw g (uU S 0)) hG (by decide) hg_1 hD) dL_removes_76 [0, 1, 2, 3, 4, 5, 6, 7, 8] [] 0 rfl nd_0_1_2_3_4_5_6_7_8 rfl rfl rfl (by decide) (by decide) (Nat.le_of_ble_eq_true rfl) rfl ?_
  refine z_if_lt_t C 86 dL_removes_79 (by decide) (by decide) ?_
  refine z_iconst C (nI 0) dL_removes_86 (by decide) ?_
  refine z_istore C dL_removes_87 (Nat.le_of_ble_eq_true rfl) ?_
  refine z_lv (lv' := [some (.ref x0), some (.int (nI au)), some (.int (nI 0)), some (.int g), some (.int (nI (uU S 0))), some (.int (nI (lw g (uU S 0)))), some (.int (nI (mK S))), some (.int (nI 1)), some (.int (nI (xI S 0 (lw g (uU S 0))))), some (.int (nI 0)), none, none, none, none]) rfl ?_
  refine z_iload C dL_removes_89 rfl ?_
  refine z_nif_lt_f C 109 dL_removes_91 (by decide) (by omega) (by trivial) ?_
  refine z_aload_n C 0 dL_removes_94 rfl rfl ?_
  refine z_iload C dL_removes_95 rfl ?_
  refine z_iconst C (nI 1) dL_removes_97 (by decide) ?_
  refine z_callVr C kX5_change gL_removes_X5_change (l_chg1 X.2.1 x0 h0 w0 t S (xI S 0 (lw g (uU S 0))) hG hxm) dL_removes_98 [0, 1, 2, 3, 4, 5, 6, 7, 8] [] 0 rfl nd_0_1_2_3_4_5_6_7_8 rfl rfl rfl (by decide) (by decide) (Nat.le_of_ble_eq_true rfl) rfl ?_
  refine z_iload_n C 1 dL_removes_101 rfl rfl ?_
  refine z_ncmp_ne_t C 109 dL_removes_102 (by decide) (by omega) (by omega) (by omega) ?_
  refine z_iconst C (nI 0) dL_removes_109 (by decide) ?_
  refine z_istore C dL_removes_110 (Nat.le_of_ble_eq_true rfl) ?_
  refine z_lv (lv' := [some (.ref x0), some (.int (nI au)), some (.int (nI 0)), some (.int g), some (.int (nI (uU S 0))), some (.int (nI (lw g (uU S 0)))), some (.int (nI (mK S))), some (.int (nI 1)), some (.int (nI (xI S 0 (lw g (uU S 0))))), some (.int (nI 0)), some (.int (nI 0)), none, none, none]) rfl ?_
  refine z_iload C dL_removes_112 rfl ?_
  refine z_nif_ne_t C 123 dL_removes_114 (by decide) (by omega) (by omega) ?_
  refine z_iload C dL_removes_123 rfl ?_
  refine z_nif_eq_t C 133 dL_removes_125 (by decide) (by omega) (by omega) ?_
  refine z_iload C dL_removes_133 rfl ?_
  refine z_nif_eq_t C 143 dL_removes_135 (by decide) (by omega) (by omega) ?_
  refine z_iload C dL_removes_143 rfl ?_
  refine z_bipush C (nI 60) dL_removes_145 (by decide) ?_
  refine z_ncmp_ne_t C 155 dL_removes_147 (by decide) (by omega) (by omega) (by omega) ?_
  refine z_iload C dL_removes_155 rfl ?_
  refine z_istore C dL_removes_157 (Nat.le_of_ble_eq_true rfl) ?_
  refine z_lv (lv' := [some (.ref x0), some (.int (nI au)), some (.int (nI 0)), some (.int g), some (.int (nI (uU S 0))), some (.int (nI (lw g (uU S 0)))), some (.int (nI (mK S))), some (.int (nI 1)), some (.int (nI (xI S 0 (lw g (uU S 0))))), some (.int (nI 0)), some (.int (nI 0)), some (.int (nI (mK S))), none, none]) rfl ?_
  refine z_aload_n C 0 dL_removes_159 rfl rfl ?_
  refine z_iconst C (nI 4) dL_removes_160 (by decide) ?_
  refine z_callVr C kX5_count gL_removes_X5_count (l_cntK X.2.1 x0 h0 h1 w0 w1 t S o kp ln ps 3 hG (by decide)) dL_removes_161 [0, 1, 2, 3, 4, 5, 6, 7, 8, 9, 51] [] 0 rfl nd_0_1_2_3_4_5_6_7_8_9_51 rfl rfl rfl (by decide) (by decide) (Nat.le_of_ble_eq_true rfl) rfl ?_
  have hg_2 : cnS S 3 ≤ mK S := zc_le _ _
  refine z_aload_n C 0 dL_removes_164 rfl rfl ?_
  refine z_iload_n C 2 dL_removes_165 rfl rfl ?_
  refine z_iload C dL_removes_166 rfl ?_
  refine z_iconst C (nI 4) dL_removes_168 (by decide) ?_
  refine z_callVr C kX5_line gL_removes_X5_line (l_line4 X.2.1 x0 h0 w0 t S 0 (lw g (uU S 0)) hG (by decide) hg_1) dL_removes_169 [0, 1, 2, 3, 4, 5, 6, 7, 8] [.int (nI (cnS S 3))] 0 rfl nd_0_1_2_3_4_5_6_7_8 rfl rfl rfl (by decide) (by decide) (Nat.le_of_ble_eq_true rfl) rfl ?_
  refine z_iadd C dL_removes_172 ?_
  refine z_top (y := nI ((cnS S 3) + (nSt S 0 (lw g (uU S 0))))) (nI_add _ _) ?_
  refine z_iload C dL_removes_173 rfl ?_
  refine z_nif_lt_f C 182 dL_removes_175 (by decide) (by omega) (by trivial) ?_
  refine z_iconst C (nI 1) dL_removes_178 (by decide) ?_
  refine z_goto C 183 dL_removes_179 (by decide) ?_
  refine z_iadd C dL_removes_183 ?_
  refine z_top (y := nI (((cnS S 3) + (nSt S 0 (lw g (uU S 0)))) + 1)) (nI_add _ _) ?_
  refine z_iload C dL_removes_184 rfl ?_
  refine z_nif_eq_t C 193 dL_removes_186 (by decide) (by omega) (by omega) ?_
  refine z_iconst C (nI 0) dL_removes_193 (by decide) ?_
  refine z_iadd C dL_removes_194 ?_
  refine z_top (y := nI (((cnS S 3) + (nSt S 0 (lw g (uU S 0)))) + 1)) (nI_add _ _) ?_
  refine z_istore C dL_removes_195 (Nat.le_of_ble_eq_true rfl) ?_
  refine z_lv (lv' := [some (.ref x0), some (.int (nI au)), some (.int (nI 0)), some (.int g), some (.int (nI (uU S 0))), some (.int (nI (lw g (uU S 0)))), some (.int (nI (mK S))), some (.int (nI 1)), some (.int (nI (xI S 0 (lw g (uU S 0))))), some (.int (nI 0)), some (.int (nI 0)), some (.int (nI (mK S))), some (.int (nI (((cnS S 3) + (nSt S 0 (lw g (uU S 0)))) + 1))), none]) rfl ?_
  refine z_aload_n C 0 dL_removes_197 rfl rfl ?_
  refine z_iload_n C 1 dL_removes_198 rfl rfl ?_
  refine z_iload_n C 2 dL_removes_199 rfl rfl ?_
  refine z_iload C dL_removes_200 rfl ?_
  refine z_callV (wn := (WRd X.2.1 x0 h0 h1 w0 w1 t r S1 o1 kp1 Q1 tx ln ps)) C kX5_remove gL_removes_X5_remove m1 dL_removes_202 [0, 1, 2, 3, 4, 5, 6, 7, 8, 9, 10, 11, 12, 13, 14, 15, 16, 17, 18, 19, 20, 21, 22, 23, 24, 25, 26, 27, 28, 29, 30, 31, 32, 33, 34, 35, 36, 37, 38, 39, 40, 41, 42, 43, 44, 45, 46, 47, 48, 49, 50] [] 0 rfl rfl nd_0_1_2_3_4_5_6_7_8_9_10_11_12_13_14_15_16_17_18_19_20_21_22_23_24_25_26_27_28_29_30_31_32_33_34_35_36_37_38_39_40_41_42_43_44_45_46_47_48_49_50 rfl rfl rfl (by decide) (by decide) (Nat.le_of_ble_eq_true rfl) rfl ((zput_par nd_0_1_2_3_4_5_6_7_8_9_10_11_12_13_14_15_16_17_18_19_20_21_22_23_24_25_26_27_28_29_30_31_32_33_34_35_36_37_38_39_40_41_42_43_44_45_46_47_48_49_50 rfl).trans rfl) ?_
  refine z_iload C dL_removes_205 rfl ?_
  refine z_ncmp_eq_t C 212 dL_removes_207 (by decide) (by omega) (by omega) (by omega) ?_
  refine z_iload C dL_removes_212 rfl ?_
  refine z_nif_ge_t C 234 dL_removes_214 (by decide) (by omega) (by trivial) ?_
  refine z_iload C dL_removes_234 rfl ?_
  refine z_nif_eq_f C 244 dL_removes_236 (by decide) (by omega) (by omega) ?_
  refine z_iload C dL_removes_239 rfl ?_
  refine z_nif_eq_t C 248 dL_removes_241 (by decide) (by omega) (by omega) ?_
  refine z_iconst C (nI 0) dL_removes_248 (by decide) ?_
  refine z_istore C dL_removes_249 (Nat.le_of_ble_eq_true rfl) ?_
  refine z_lv (lv' := [some (.ref x0), some (.int (nI au)), some (.int (nI 0)), some (.int g), some (.int (nI (uU S 0))), some (.int (nI (lw g (uU S 0)))), some (.int (nI (mK S))), some (.int (nI 1)), some (.int (nI (xI S 0 (lw g (uU S 0))))), some (.int (nI 0)), some (.int (nI 0)), some (.int (nI (mK S))), some (.int (nI (((cnS S 3) + (nSt S 0 (lw g (uU S 0)))) + 1))), some (.int (nI 0))]) rfl ?_
  refine z_aload_n C 0 dL_removes_251 rfl rfl ?_
  refine z_iconst C (nI 0) dL_removes_252 (by decide) ?_
  refine z_iload_n C 2 dL_removes_253 rfl rfl ?_
  refine z_callVr C kX5_size gL_removes_X5_size (l_size0 X.2.1 x0 h0 w0 t S1 0 hG1 (by decide)) dL_removes_254 [0, 1, 2, 3, 4, 5, 6, 7, 8] [] 0 rfl nd_0_1_2_3_4_5_6_7_8 rfl rfl rfl (by decide) (by decide) (Nat.le_of_ble_eq_true rfl) rfl ?_
  refine z_iload C dL_removes_257 rfl ?_
  refine z_nif_eq_t C 269 dL_removes_259 (by decide) (by omega) (by omega) ?_
  refine z_iload C dL_removes_269 rfl ?_
  refine z_ncmp_ne_f C 309 dL_removes_271 (by decide) (by omega) (by omega) (by omega) ?_
  refine z_iload C dL_removes_274 rfl ?_
  refine z_nif_eq_t C 292 dL_removes_276 (by decide) (by omega) (by omega) ?_
  refine z_aload_n C 0 dL_removes_292 rfl rfl ?_
  refine z_iload_n C 2 dL_removes_293 rfl rfl ?_
  refine z_iload C dL_removes_294 rfl ?_
  refine z_iconst C (nI 1) dL_removes_296 (by decide) ?_
  refine z_callVr C kX5_line gL_removes_X5_line (l_line1y X.2.1 x0 h0 w0 t S1 0 (lw g (uU S 0)) hG1 (by decide) (by omega) hD1) dL_removes_297 [0, 1, 2, 3, 4, 5, 6, 7, 8] [] 0 rfl nd_0_1_2_3_4_5_6_7_8 rfl rfl rfl (by decide) (by decide) (Nat.le_of_ble_eq_true rfl) rfl ?_
  refine z_iload C dL_removes_300 rfl ?_
  refine z_ncmp_ne_f C 309 dL_removes_302 (by decide) (by omega) (by omega) (by omega) ?_
  refine z_iconst C (nI 1) dL_removes_305 (by decide) ?_
  refine z_goto C 310 dL_removes_306 (by decide) ?_
  exact z_zret C N dL_removes_310 rfl (rfl) (rfl)

set_option maxHeartbeats 4000000 in
set_option maxRecDepth 100000 in
theorem w_rem1z (E : zE) (x0 h0 h1 w0 w1 : Nat) (t : Nat → Nat) (r : Nat → Nat → Nat) (S S1 : zSt) (o kp kp1 o1 : Nat) (Q Q1 : Nat → zSt) (tx : Nat → Nat) (ln : Nat) (ps : zPs) {B B1 : Nat} (au : Nat) (g : Int32) (hG : GG S B) (hG1 : GG S1 B1) (hau : au < 4) (hz : uU S 1 = 0) (m1 : zM E yX5_remove wsX5_remove 6 [.ref x0, .int (nI au), .int (nI 1), .int (nI 0)] (WAd E x0 h0 h1 w0 t r S o kp Q) (WAd E x0 h0 h1 w0 t r S1 o1 kp1 Q1) (some (.int (-1)))) : zM E yL_removes wsL_removes 7 [.ref x0, .int (nI au), .int (nI 1), .int g] (WRd E x0 h0 h1 w0 w1 t r S o kp Q tx ln ps) (WRd E x0 h0 h1 w0 w1 t r S1 o1 kp1 Q1 tx ln ps) (some (.int (nI 1))) := by
  refine zM.of kL_removes (Nat.le_of_ble_eq_true rfl) rfl [some (.ref x0), some (.int (nI au)), some (.int (nI 1)), some (.int g), none, none, none, none, none, none, none, none, none, none] rfl (Nat.le_of_ble_eq_true rfl) ?_
  intro X eX C N
  subst eX
  have hb0 : uU S 0 ≤ 12 := gg_u hG 0
  have hb1 : uU S 1 ≤ 8 := gg_u1 hG
  have hb2 : mK S ≤ 60 := gg_M hG
  have hb3 : uU S1 0 ≤ 12 := gg_u hG1 0
  have hb4 : uU S1 1 ≤ 8 := gg_u1 hG1
  have hb5 : mK S1 ≤ 60 := gg_M hG1
  refine z_aload_n C 0 dL_removes_0 rfl rfl ?_
  refine z_iconst C (nI 0) dL_removes_1 (by decide) ?_
  refine z_iload_n C 2 dL_removes_2 rfl rfl ?_
  refine z_callVr C kX5_size gL_removes_X5_size (l_size0 X.2.1 x0 h0 w0 t S 1 hG (by decide)) dL_removes_3 [0, 1, 2, 3, 4, 5, 6, 7, 8] [] 0 rfl nd_0_1_2_3_4_5_6_7_8 rfl rfl rfl (by decide) (by decide) (Nat.le_of_ble_eq_true rfl) rfl ?_
  refine z_istore C dL_removes_6 (Nat.le_of_ble_eq_true rfl) ?_
  refine z_lv (lv' := [some (.ref x0), some (.int (nI au)), some (.int (nI 1)), some (.int g), some (.int (nI (uU S 1))), none, none, none, none, none, none, none, none, none]) rfl ?_
  refine z_iload C dL_removes_8 rfl ?_
  refine z_nif_ne_f C 30 dL_removes_10 (by decide) (by omega) (by omega) ?_
  refine z_aload_n C 0 dL_removes_13 rfl rfl ?_
  refine z_iload_n C 1 dL_removes_14 rfl rfl ?_
  refine z_iload_n C 2 dL_removes_15 rfl rfl ?_
  refine z_iconst C (nI 0) dL_removes_16 (by decide) ?_
  refine z_callV (wn := (WRd X.2.1 x0 h0 h1 w0 w1 t r S1 o1 kp1 Q1 tx ln ps)) C kX5_remove gL_removes_X5_remove m1 dL_removes_17 [0, 1, 2, 3, 4, 5, 6, 7, 8, 9, 10, 11, 12, 13, 14, 15, 16, 17, 18, 19, 20, 21, 22, 23, 24, 25, 26, 27, 28, 29, 30, 31, 32, 33, 34, 35, 36, 37, 38, 39, 40, 41, 42, 43, 44, 45, 46, 47, 48, 49, 50] [] 0 rfl rfl nd_0_1_2_3_4_5_6_7_8_9_10_11_12_13_14_15_16_17_18_19_20_21_22_23_24_25_26_27_28_29_30_31_32_33_34_35_36_37_38_39_40_41_42_43_44_45_46_47_48_49_50 rfl rfl rfl (by decide) (by decide) (Nat.le_of_ble_eq_true rfl) rfl ((zput_par nd_0_1_2_3_4_5_6_7_8_9_10_11_12_13_14_15_16_17_18_19_20_21_22_23_24_25_26_27_28_29_30_31_32_33_34_35_36_37_38_39_40_41_42_43_44_45_46_47_48_49_50 rfl).trans rfl) ?_
  refine z_iconst C (-1) dL_removes_20 (by decide) ?_
  refine z_icmp_ne_f C 28 dL_removes_21 (by decide) rfl ?_
  refine z_iconst C (nI 1) dL_removes_24 (by decide) ?_
  refine z_goto C 29 dL_removes_25 (by decide) ?_
  exact z_zret C N dL_removes_29 rfl (rfl) (rfl)

set_option maxHeartbeats 4000000 in
set_option maxRecDepth 100000 in
theorem w_rem1u00 (E : zE) (x0 h0 h1 w0 w1 : Nat) (t : Nat → Nat) (r : Nat → Nat → Nat) (S S1 : zSt) (o kp kp1 o1 : Nat) (Q Q1 : Nat → zSt) (tx : Nat → Nat) (ln : Nat) (ps : zPs) {B B1 : Nat} (au : Nat) (g : Int32) (hG : GG S B) (hG1 : GG S1 B1) (hau : au < 4) (hz : 0 < uU S 1) (hN : Nw S 1 (lw g (uU S 1)) = false) (hD : Dm S 1 (lw g (uU S 1)) = false) (ht : tK S = false) (hu : uU S1 1 + 1 = uU S 1) (hc : cnS S1 3 = cnS S 3 + nSt S 1 (lw g (uU S 1))) (hc6 : cnS S1 3 ≤ 60) (m1 : zM E yX5_remove wsX5_remove 6 [.ref x0, .int (nI au), .int (nI 1), .int (nI (lw g (uU S 1)))] (WAd E x0 h0 h1 w0 t r S o kp Q) (WAd E x0 h0 h1 w0 t r S1 o1 kp1 Q1) (some (.int (nI 1000)))) : zM E yL_removes wsL_removes 7 [.ref x0, .int (nI au), .int (nI 1), .int g] (WRd E x0 h0 h1 w0 w1 t r S o kp Q tx ln ps) (WRd E x0 h0 h1 w0 w1 t r S1 o1 kp1 Q1 tx ln ps) (some (.int (nI 1))) := by
  refine zM.of kL_removes (Nat.le_of_ble_eq_true rfl) rfl [some (.ref x0), some (.int (nI au)), some (.int (nI 1)), some (.int g), none, none, none, none, none, none, none, none, none, none] rfl (Nat.le_of_ble_eq_true rfl) ?_
  intro X eX C N
  subst eX
  have hb0 : uU S 0 ≤ 12 := gg_u hG 0
  have hb1 : uU S 1 ≤ 8 := gg_u1 hG
  have hb2 : mK S ≤ 60 := gg_M hG
  have hb3 : uU S1 0 ≤ 12 := gg_u hG1 0
  have hb4 : uU S1 1 ≤ 8 := gg_u1 hG1
  have hb5 : mK S1 ≤ 60 := gg_M hG1
  refine z_aload_n C 0 dL_removes_0 rfl rfl ?_
  refine z_iconst C (nI 0) dL_removes_1 (by decide) ?_
  refine z_iload_n C 2 dL_removes_2 rfl rfl ?_
  refine z_callVr C kX5_size gL_removes_X5_size (l_size0 X.2.1 x0 h0 w0 t S 1 hG (by decide)) dL_removes_3 [0, 1, 2, 3, 4, 5, 6, 7, 8] [] 0 rfl nd_0_1_2_3_4_5_6_7_8 rfl rfl rfl (by decide) (by decide) (Nat.le_of_ble_eq_true rfl) rfl ?_
  refine z_istore C dL_removes_6 (Nat.le_of_ble_eq_true rfl) ?_
  refine z_lv (lv' := [some (.ref x0), some (.int (nI au)), some (.int (nI 1)), some (.int g), some (.int (nI (uU S 1))), none, none, none, none, none, none, none, none, none]) rfl ?_
  refine z_iload C dL_removes_8 rfl ?_
  refine z_nif_ne_t C 30 dL_removes_10 (by decide) (by omega) (by omega) ?_
  refine z_iload_n C 3 dL_removes_30 rfl rfl ?_
  refine z_iload C dL_removes_31 rfl ?_
  refine z_callS C kL_low gL_removes_L_low (l_low X.2.1 g (uU S 1) hz (by omega)) dL_removes_33 [] rfl (by decide) (by decide) (Nat.le_of_ble_eq_true rfl) rfl ?_
  have hg_1 : lw g (uU S 1) < (uU S 1) := lw_lt g (by omega)
  refine z_istore C dL_removes_36 (Nat.le_of_ble_eq_true rfl) ?_
  refine z_lv (lv' := [some (.ref x0), some (.int (nI au)), some (.int (nI 1)), some (.int g), some (.int (nI (uU S 1))), some (.int (nI (lw g (uU S 1)))), none, none, none, none, none, none, none, none]) rfl ?_
  refine z_aload_n C 0 dL_removes_38 rfl rfl ?_
  refine z_iconst C (nI 0) dL_removes_39 (by decide) ?_
  refine z_callVr C kX5_count gL_removes_X5_count (l_cnt0 X.2.1 x0 h0 h1 w0 w1 t S o kp ln ps  hG ) dL_removes_40 [0, 1, 2, 3, 4, 5, 6, 7, 8, 9, 51] [] 0 rfl nd_0_1_2_3_4_5_6_7_8_9_51 rfl rfl rfl (by decide) (by decide) (Nat.le_of_ble_eq_true rfl) rfl ?_
  refine z_istore C dL_removes_43 (Nat.le_of_ble_eq_true rfl) ?_
  refine z_lv (lv' := [some (.ref x0), some (.int (nI au)), some (.int (nI 1)), some (.int g), some (.int (nI (uU S 1))), some (.int (nI (lw g (uU S 1)))), some (.int (nI (mK S))), none, none, none, none, none, none, none]) rfl ?_
  refine z_aload_n C 0 dL_removes_45 rfl rfl ?_
  refine z_iconst C (nI 5) dL_removes_46 (by decide) ?_
  refine z_callVr C kX5_count gL_removes_X5_count (l_cnt5n X.2.1 x0 h0 h1 w0 w1 t S o kp ln ps  hG ht) dL_removes_47 [0, 1, 2, 3, 4, 5, 6, 7, 8, 9, 51] [] 0 rfl nd_0_1_2_3_4_5_6_7_8_9_51 rfl rfl rfl (by decide) (by decide) (Nat.le_of_ble_eq_true rfl) rfl ?_
  refine z_iconst C (nI 1) dL_removes_50 (by decide) ?_
  refine z_ncmp_ne_t C 58 dL_removes_51 (by decide) (by omega) (by omega) (by omega) ?_
  refine z_iconst C (nI 0) dL_removes_58 (by decide) ?_
  refine z_istore C dL_removes_59 (Nat.le_of_ble_eq_true rfl) ?_
  refine z_lv (lv' := [some (.ref x0), some (.int (nI au)), some (.int (nI 1)), some (.int g), some (.int (nI (uU S 1))), some (.int (nI (lw g (uU S 1)))), some (.int (nI (mK S))), some (.int (nI 0)), none, none, none, none, none, none]) rfl ?_
  refine z_aload_n C 0 dL_removes_61 rfl rfl ?_
  refine z_iload_n C 2 dL_removes_62 rfl rfl ?_
  refine z_iload C dL_removes_63 rfl ?_
  refine z_iconst C (nI 0) dL_removes_65 (by decide) ?_
  refine z_callVr C kX5_line gL_removes_X5_line (l_line0n X.2.1 x0 h0 w0 t S 1 (lw g (uU S 1)) hG (by decide) hg_1 hN) dL_removes_66 [0, 1, 2, 3, 4, 5, 6, 7, 8] [] 0 rfl nd_0_1_2_3_4_5_6_7_8 rfl rfl rfl (by decide) (by decide) (Nat.le_of_ble_eq_true rfl) rfl ?_
  refine z_istore C dL_removes_69 (Nat.le_of_ble_eq_true rfl) ?_
  refine z_lv (lv' := [some (.ref x0), some (.int (nI au)), some (.int (nI 1)), some (.int g), some (.int (nI (uU S 1))), some (.int (nI (lw g (uU S 1)))), some (.int (nI (mK S))), some (.int (nI 0)), some (.int (-5)), none, none, none, none, none]) rfl ?_
  refine z_aload_n C 0 dL_removes_71 rfl rfl ?_
  refine z_iload_n C 2 dL_removes_72 rfl rfl ?_
  refine z_iload C dL_removes_73 rfl ?_
  refine z_iconst C (nI 1) dL_removes_75 (by decide) ?_
  refine z_callVr C kX5_line gL_removes_X5_line (l_line1n X.2.1 x0 h0 w0 t S 1 (lw g (uU S 1)) hG (by decide) hg_1 hD) dL_removes_76 [0, 1, 2, 3, 4, 5, 6, 7, 8] [] 0 rfl nd_0_1_2_3_4_5_6_7_8 rfl rfl rfl (by decide) (by decide) (Nat.le_of_ble_eq_true rfl) rfl ?_
  refine z_if_lt_t C 86 dL_removes_79 (by decide) (by decide) ?_
  refine z_iconst C (nI 0) dL_removes_86 (by decide) ?_
  refine z_istore C dL_removes_87 (Nat.le_of_ble_eq_true rfl) ?_
  refine z_lv (lv' := [some (.ref x0), some (.int (nI au)), some (.int (nI 1)), some (.int g), some (.int (nI (uU S 1))), some (.int (nI (lw g (uU S 1)))), some (.int (nI (mK S))), some (.int (nI 0)), some (.int (-5)), some (.int (nI 0)), none, none, none, none]) rfl ?_
  refine z_iload C dL_removes_89 rfl ?_
  refine z_if_lt_t C 109 dL_removes_91 (by decide) (by decide) ?_
  refine z_iconst C (nI 0) dL_removes_109 (by decide) ?_
  refine z_istore C dL_removes_110 (Nat.le_of_ble_eq_true rfl) ?_
  refine z_lv (lv' := [some (.ref x0), some (.int (nI au)), some (.int (nI 1)), some (.int g), some (.int (nI (uU S 1))), some (.int (nI (lw g (uU S 1)))), some (.int (nI (mK S))), some (.int (nI 0)), some (.int (-5)), some (.int (nI 0)), some (.int (nI 0)), none, none, none]) rfl ?_
  refine z_iload C dL_removes_112 rfl ?_
  refine z_nif_ne_f C 123 dL_removes_114 (by decide) (by omega) (by omega) ?_
  refine z_sipush C (nI 1000) dL_removes_117 (by decide) ?_
  refine z_goto C 157 dL_removes_120 (by decide) ?_
  refine z_istore C dL_removes_157 (Nat.le_of_ble_eq_true rfl) ?_
  refine z_lv (lv' := [some (.ref x0), some (.int (nI au)), some (.int (nI 1)), some (.int g), some (.int (nI (uU S 1))), some (.int (nI (lw g (uU S 1)))), some (.int (nI (mK S))), some (.int (nI 0)), some (.int (-5)), some (.int (nI 0)), some (.int (nI 0)), some (.int (nI 1000)), none, none]) rfl ?_
  refine z_aload_n C 0 dL_removes_159 rfl rfl ?_
  refine z_iconst C (nI 4) dL_removes_160 (by decide) ?_
  refine z_callVr C kX5_count gL_removes_X5_count (l_cntK X.2.1 x0 h0 h1 w0 w1 t S o kp ln ps 3 hG (by decide)) dL_removes_161 [0, 1, 2, 3, 4, 5, 6, 7, 8, 9, 51] [] 0 rfl nd_0_1_2_3_4_5_6_7_8_9_51 rfl rfl rfl (by decide) (by decide) (Nat.le_of_ble_eq_true rfl) rfl ?_
  have hg_2 : cnS S 3 ≤ mK S := zc_le _ _
  refine z_aload_n C 0 dL_removes_164 rfl rfl ?_
  refine z_iload_n C 2 dL_removes_165 rfl rfl ?_
  refine z_iload C dL_removes_166 rfl ?_
  refine z_iconst C (nI 4) dL_removes_168 (by decide) ?_
  refine z_callVr C kX5_line gL_removes_X5_line (l_line4 X.2.1 x0 h0 w0 t S 1 (lw g (uU S 1)) hG (by decide) hg_1) dL_removes_169 [0, 1, 2, 3, 4, 5, 6, 7, 8] [.int (nI (cnS S 3))] 0 rfl nd_0_1_2_3_4_5_6_7_8 rfl rfl rfl (by decide) (by decide) (Nat.le_of_ble_eq_true rfl) rfl ?_
  refine z_iadd C dL_removes_172 ?_
  refine z_top (y := nI ((cnS S 3) + (nSt S 1 (lw g (uU S 1))))) (nI_add _ _) ?_
  refine z_iload C dL_removes_173 rfl ?_
  refine z_if_lt_t C 182 dL_removes_175 (by decide) (by decide) ?_
  refine z_iconst C (nI 0) dL_removes_182 (by decide) ?_
  refine z_iadd C dL_removes_183 ?_
  refine z_top (y := nI ((cnS S 3) + (nSt S 1 (lw g (uU S 1))))) (nI_add _ _) ?_
  refine z_iload C dL_removes_184 rfl ?_
  refine z_nif_eq_t C 193 dL_removes_186 (by decide) (by omega) (by omega) ?_
  refine z_iconst C (nI 0) dL_removes_193 (by decide) ?_
  refine z_iadd C dL_removes_194 ?_
  refine z_top (y := nI ((cnS S 3) + (nSt S 1 (lw g (uU S 1))))) (nI_add _ _) ?_
  refine z_istore C dL_removes_195 (Nat.le_of_ble_eq_true rfl) ?_
  refine z_lv (lv' := [some (.ref x0), some (.int (nI au)), some (.int (nI 1)), some (.int g), some (.int (nI (uU S 1))), some (.int (nI (lw g (uU S 1)))), some (.int (nI (mK S))), some (.int (nI 0)), some (.int (-5)), some (.int (nI 0)), some (.int (nI 0)), some (.int (nI 1000)), some (.int (nI ((cnS S 3) + (nSt S 1 (lw g (uU S 1)))))), none]) rfl ?_
  refine z_aload_n C 0 dL_removes_197 rfl rfl ?_
  refine z_iload_n C 1 dL_removes_198 rfl rfl ?_
  refine z_iload_n C 2 dL_removes_199 rfl rfl ?_
  refine z_iload C dL_removes_200 rfl ?_
  refine z_callV (wn := (WRd X.2.1 x0 h0 h1 w0 w1 t r S1 o1 kp1 Q1 tx ln ps)) C kX5_remove gL_removes_X5_remove m1 dL_removes_202 [0, 1, 2, 3, 4, 5, 6, 7, 8, 9, 10, 11, 12, 13, 14, 15, 16, 17, 18, 19, 20, 21, 22, 23, 24, 25, 26, 27, 28, 29, 30, 31, 32, 33, 34, 35, 36, 37, 38, 39, 40, 41, 42, 43, 44, 45, 46, 47, 48, 49, 50] [] 0 rfl rfl nd_0_1_2_3_4_5_6_7_8_9_10_11_12_13_14_15_16_17_18_19_20_21_22_23_24_25_26_27_28_29_30_31_32_33_34_35_36_37_38_39_40_41_42_43_44_45_46_47_48_49_50 rfl rfl rfl (by decide) (by decide) (Nat.le_of_ble_eq_true rfl) rfl ((zput_par nd_0_1_2_3_4_5_6_7_8_9_10_11_12_13_14_15_16_17_18_19_20_21_22_23_24_25_26_27_28_29_30_31_32_33_34_35_36_37_38_39_40_41_42_43_44_45_46_47_48_49_50 rfl).trans rfl) ?_
  refine z_iload C dL_removes_205 rfl ?_
  refine z_ncmp_eq_t C 212 dL_removes_207 (by decide) (by omega) (by omega) (by omega) ?_
  refine z_iload C dL_removes_212 rfl ?_
  refine z_nif_ge_t C 234 dL_removes_214 (by decide) (by omega) (by trivial) ?_
  refine z_iload C dL_removes_234 rfl ?_
  refine z_nif_eq_t C 244 dL_removes_236 (by decide) (by omega) (by omega) ?_
  refine z_iconst C (nI 1) dL_removes_244 (by decide) ?_
  refine z_goto C 249 dL_removes_245 (by decide) ?_
  refine z_istore C dL_removes_249 (Nat.le_of_ble_eq_true rfl) ?_
  refine z_lv (lv' := [some (.ref x0), some (.int (nI au)), some (.int (nI 1)), some (.int g), some (.int (nI (uU S 1))), some (.int (nI (lw g (uU S 1)))), some (.int (nI (mK S))), some (.int (nI 0)), some (.int (-5)), some (.int (nI 0)), some (.int (nI 0)), some (.int (nI 1000)), some (.int (nI ((cnS S 3) + (nSt S 1 (lw g (uU S 1)))))), some (.int (nI 1))]) rfl ?_
  refine z_aload_n C 0 dL_removes_251 rfl rfl ?_
  refine z_iconst C (nI 0) dL_removes_252 (by decide) ?_
  refine z_iload_n C 2 dL_removes_253 rfl rfl ?_
  refine z_callVr C kX5_size gL_removes_X5_size (l_size0 X.2.1 x0 h0 w0 t S1 1 hG1 (by decide)) dL_removes_254 [0, 1, 2, 3, 4, 5, 6, 7, 8] [] 0 rfl nd_0_1_2_3_4_5_6_7_8 rfl rfl rfl (by decide) (by decide) (Nat.le_of_ble_eq_true rfl) rfl ?_
  refine z_iload C dL_removes_257 rfl ?_
  refine z_nif_eq_f C 269 dL_removes_259 (by decide) (by omega) (by omega) ?_
  refine z_iload C dL_removes_262 rfl ?_
  refine z_iconst C (nI 1) dL_removes_264 (by decide) ?_
  refine z_isub C dL_removes_265 ?_
  refine z_top (y := nI ((uU S 1) - 1)) ((pk_sub (by omega)).trans (congrArg nI (by omega))) ?_
  refine z_goto C 271 dL_removes_266 (by decide) ?_
  refine z_ncmp_ne_f C 309 dL_removes_271 (by decide) (by omega) (by omega) (by omega) ?_
  refine z_iload C dL_removes_274 rfl ?_
  refine z_nif_eq_f C 292 dL_removes_276 (by decide) (by omega) (by omega) ?_
  refine z_aload_n C 0 dL_removes_279 rfl rfl ?_
  refine z_iconst C (nI 4) dL_removes_280 (by decide) ?_
  refine z_callVr C kX5_count gL_removes_X5_count (l_cntK X.2.1 x0 h0 h1 w0 w1 t S1 o1 kp1 ln ps 3 hG1 (by decide)) dL_removes_281 [0, 1, 2, 3, 4, 5, 6, 7, 8, 9, 51] [] 0 rfl nd_0_1_2_3_4_5_6_7_8_9_51 rfl rfl rfl (by decide) (by decide) (Nat.le_of_ble_eq_true rfl) rfl ?_
  have hg_3 : cnS S1 3 ≤ mK S1 := zc_le _ _
  refine z_iload C dL_removes_284 rfl ?_
  refine z_ncmp_ne_f C 309 dL_removes_286 (by decide) (by omega) (by omega) (by omega) ?_
  refine z_goto C 305 dL_removes_289 (by decide) ?_
  refine z_iconst C (nI 1) dL_removes_305 (by decide) ?_
  refine z_goto C 310 dL_removes_306 (by decide) ?_
  exact z_zret C N dL_removes_310 rfl (rfl) (rfl)

set_option maxHeartbeats 4000000 in
set_option maxRecDepth 100000 in
theorem w_rem1u01 (E : zE) (x0 h0 h1 w0 w1 : Nat) (t : Nat → Nat) (r : Nat → Nat → Nat) (S S1 : zSt) (o kp kp1 o1 : Nat) (Q Q1 : Nat → zSt) (tx : Nat → Nat) (ln : Nat) (ps : zPs) {B B1 : Nat} (au : Nat) (g : Int32) (hG : GG S B) (hG1 : GG S1 B1) (hau : au < 4) (hz : 0 < uU S 1) (hN : Nw S 1 (lw g (uU S 1)) = false) (hD : Dm S 1 (lw g (uU S 1)) = true) (ht : tK S = false) (hu : uU S1 1 + 1 = uU S 1) (hc : cnS S1 3 = cnS S 3 + nSt S 1 (lw g (uU S 1)) + 1) (hc6 : cnS S1 3 ≤ 60) (m1 : zM E yX5_remove wsX5_remove 6 [.ref x0, .int (nI au), .int (nI 1), .int (nI (lw g (uU S 1)))] (WAd E x0 h0 h1 w0 t r S o kp Q) (WAd E x0 h0 h1 w0 t r S1 o1 kp1 Q1) (some (.int (nI 1000)))) : zM E yL_removes wsL_removes 7 [.ref x0, .int (nI au), .int (nI 1), .int g] (WRd E x0 h0 h1 w0 w1 t r S o kp Q tx ln ps) (WRd E x0 h0 h1 w0 w1 t r S1 o1 kp1 Q1 tx ln ps) (some (.int (nI 1))) := by
  refine zM.of kL_removes (Nat.le_of_ble_eq_true rfl) rfl [some (.ref x0), some (.int (nI au)), some (.int (nI 1)), some (.int g), none, none, none, none, none, none, none, none, none, none] rfl (Nat.le_of_ble_eq_true rfl) ?_
  intro X eX C N
  subst eX
  have hb0 : uU S 0 ≤ 12 := gg_u hG 0
  have hb1 : uU S 1 ≤ 8 := gg_u1 hG
  have hb2 : mK S ≤ 60 := gg_M hG
  have hb3 : uU S1 0 ≤ 12 := gg_u hG1 0
  have hb4 : uU S1 1 ≤ 8 := gg_u1 hG1
  have hb5 : mK S1 ≤ 60 := gg_M hG1
  have hxr : xR S 1 (lw g (uU S 1)) < mK S := (Dm_t hD).1
  refine z_aload_n C 0 dL_removes_0 rfl rfl ?_
  refine z_iconst C (nI 0) dL_removes_1 (by decide) ?_
  refine z_iload_n C 2 dL_removes_2 rfl rfl ?_
  refine z_callVr C kX5_size gL_removes_X5_size (l_size0 X.2.1 x0 h0 w0 t S 1 hG (by decide)) dL_removes_3 [0, 1, 2, 3, 4, 5, 6, 7, 8] [] 0 rfl nd_0_1_2_3_4_5_6_7_8 rfl rfl rfl (by decide) (by decide) (Nat.le_of_ble_eq_true rfl) rfl ?_
  refine z_istore C dL_removes_6 (Nat.le_of_ble_eq_true rfl) ?_
  refine z_lv (lv' := [some (.ref x0), some (.int (nI au)), some (.int (nI 1)), some (.int g), some (.int (nI (uU S 1))), none, none, none, none, none, none, none, none, none]) rfl ?_
  refine z_iload C dL_removes_8 rfl ?_
  refine z_nif_ne_t C 30 dL_removes_10 (by decide) (by omega) (by omega) ?_
  refine z_iload_n C 3 dL_removes_30 rfl rfl ?_
  refine z_iload C dL_removes_31 rfl ?_
  refine z_callS C kL_low gL_removes_L_low (l_low X.2.1 g (uU S 1) hz (by omega)) dL_removes_33 [] rfl (by decide) (by decide) (Nat.le_of_ble_eq_true rfl) rfl ?_
  have hg_1 : lw g (uU S 1) < (uU S 1) := lw_lt g (by omega)
  refine z_istore C dL_removes_36 (Nat.le_of_ble_eq_true rfl) ?_
  refine z_lv (lv' := [some (.ref x0), some (.int (nI au)), some (.int (nI 1)), some (.int g), some (.int (nI (uU S 1))), some (.int (nI (lw g (uU S 1)))), none, none, none, none, none, none, none, none]) rfl ?_
  refine z_aload_n C 0 dL_removes_38 rfl rfl ?_
  refine z_iconst C (nI 0) dL_removes_39 (by decide) ?_
  refine z_callVr C kX5_count gL_removes_X5_count (l_cnt0 X.2.1 x0 h0 h1 w0 w1 t S o kp ln ps  hG ) dL_removes_40 [0, 1, 2, 3, 4, 5, 6, 7, 8, 9, 51] [] 0 rfl nd_0_1_2_3_4_5_6_7_8_9_51 rfl rfl rfl (by decide) (by decide) (Nat.le_of_ble_eq_true rfl) rfl ?_
  refine z_istore C dL_removes_43 (Nat.le_of_ble_eq_true rfl) ?_
  refine z_lv (lv' := [some (.ref x0), some (.int (nI au)), some (.int (nI 1)), some (.int g), some (.int (nI (uU S 1))), some (.int (nI (lw g (uU S 1)))), some (.int (nI (mK S))), none, none, none, none, none, none, none]) rfl ?_
  refine z_aload_n C 0 dL_removes_45 rfl rfl ?_
  refine z_iconst C (nI 5) dL_removes_46 (by decide) ?_
  refine z_callVr C kX5_count gL_removes_X5_count (l_cnt5n X.2.1 x0 h0 h1 w0 w1 t S o kp ln ps  hG ht) dL_removes_47 [0, 1, 2, 3, 4, 5, 6, 7, 8, 9, 51] [] 0 rfl nd_0_1_2_3_4_5_6_7_8_9_51 rfl rfl rfl (by decide) (by decide) (Nat.le_of_ble_eq_true rfl) rfl ?_
  refine z_iconst C (nI 1) dL_removes_50 (by decide) ?_
  refine z_ncmp_ne_t C 58 dL_removes_51 (by decide) (by omega) (by omega) (by omega) ?_
  refine z_iconst C (nI 0) dL_removes_58 (by decide) ?_
  refine z_istore C dL_removes_59 (Nat.le_of_ble_eq_true rfl) ?_
  refine z_lv (lv' := [some (.ref x0), some (.int (nI au)), some (.int (nI 1)), some (.int g), some (.int (nI (uU S 1))), some (.int (nI (lw g (uU S 1)))), some (.int (nI (mK S))), some (.int (nI 0)), none, none, none, none, none, none]) rfl ?_
  refine z_aload_n C 0 dL_removes_61 rfl rfl ?_
  refine z_iload_n C 2 dL_removes_62 rfl rfl ?_
  refine z_iload C dL_removes_63 rfl ?_
  refine z_iconst C (nI 0) dL_removes_65 (by decide) ?_
  refine z_callVr C kX5_line gL_removes_X5_line (l_line0n X.2.1 x0 h0 w0 t S 1 (lw g (uU S 1)) hG (by decide) hg_1 hN) dL_removes_66 [0, 1, 2, 3, 4, 5, 6, 7, 8] [] 0 rfl nd_0_1_2_3_4_5_6_7_8 rfl rfl rfl (by decide) (by decide) (Nat.le_of_ble_eq_true rfl) rfl ?_
  refine z_istore C dL_removes_69 (Nat.le_of_ble_eq_true rfl) ?_
  refine z_lv (lv' := [some (.ref x0), some (.int (nI au)), some (.int (nI 1)), some (.int g), some (.int (nI (uU S 1))), some (.int (nI (lw g (uU S 1)))), some (.int (nI (mK S))), some (.int (nI 0)), some (.int (-5)), none, none, none, none, none]) rfl ?_
  refine z_aload_n C 0 dL_removes_71 rfl rfl ?_
  refine z_iload_n C 2 dL_removes_72 rfl rfl ?_
  refine z_iload C dL_removes_73 rfl ?_
  refine z_iconst C (nI 1) dL_removes_75 (by decide) ?_
  refine z_callVr C kX5_line gL_removes_X5_line (l_line1y X.2.1 x0 h0 w0 t S 1 (lw g (uU S 1)) hG (by decide) hg_1 hD) dL_removes_76 [0, 1, 2, 3, 4, 5, 6, 7, 8] [] 0 rfl nd_0_1_2_3_4_5_6_7_8 rfl rfl rfl (by decide) (by decide) (Nat.le_of_ble_eq_true rfl) rfl ?_
  refine z_nif_lt_f C 86 dL_removes_79 (by decide) (by omega) (by trivial) ?_
  refine z_iconst C (nI 1) dL_removes_82 (by decide) ?_
  refine z_goto C 87 dL_removes_83 (by decide) ?_
  refine z_istore C dL_removes_87 (Nat.le_of_ble_eq_true rfl) ?_
  refine z_lv (lv' := [some (.ref x0), some (.int (nI au)), some (.int (nI 1)), some (.int g), some (.int (nI (uU S 1))), some (.int (nI (lw g (uU S 1)))), some (.int (nI (mK S))), some (.int (nI 0)), some (.int (-5)), some (.int (nI 1)), none, none, none, none]) rfl ?_
  refine z_iload C dL_removes_89 rfl ?_
  refine z_if_lt_t C 109 dL_removes_91 (by decide) (by decide) ?_
  refine z_iconst C (nI 0) dL_removes_109 (by decide) ?_
  refine z_istore C dL_removes_110 (Nat.le_of_ble_eq_true rfl) ?_
  refine z_lv (lv' := [some (.ref x0), some (.int (nI au)), some (.int (nI 1)), some (.int g), some (.int (nI (uU S 1))), some (.int (nI (lw g (uU S 1)))), some (.int (nI (mK S))), some (.int (nI 0)), some (.int (-5)), some (.int (nI 1)), some (.int (nI 0)), none, none, none]) rfl ?_
  refine z_iload C dL_removes_112 rfl ?_
  refine z_nif_ne_f C 123 dL_removes_114 (by decide) (by omega) (by omega) ?_
  refine z_sipush C (nI 1000) dL_removes_117 (by decide) ?_
  refine z_goto C 157 dL_removes_120 (by decide) ?_
  refine z_istore C dL_removes_157 (Nat.le_of_ble_eq_true rfl) ?_
  refine z_lv (lv' := [some (.ref x0), some (.int (nI au)), some (.int (nI 1)), some (.int g), some (.int (nI (uU S 1))), some (.int (nI (lw g (uU S 1)))), some (.int (nI (mK S))), some (.int (nI 0)), some (.int (-5)), some (.int (nI 1)), some (.int (nI 0)), some (.int (nI 1000)), none, none]) rfl ?_
  refine z_aload_n C 0 dL_removes_159 rfl rfl ?_
  refine z_iconst C (nI 4) dL_removes_160 (by decide) ?_
  refine z_callVr C kX5_count gL_removes_X5_count (l_cntK X.2.1 x0 h0 h1 w0 w1 t S o kp ln ps 3 hG (by decide)) dL_removes_161 [0, 1, 2, 3, 4, 5, 6, 7, 8, 9, 51] [] 0 rfl nd_0_1_2_3_4_5_6_7_8_9_51 rfl rfl rfl (by decide) (by decide) (Nat.le_of_ble_eq_true rfl) rfl ?_
  have hg_2 : cnS S 3 ≤ mK S := zc_le _ _
  refine z_aload_n C 0 dL_removes_164 rfl rfl ?_
  refine z_iload_n C 2 dL_removes_165 rfl rfl ?_
  refine z_iload C dL_removes_166 rfl ?_
  refine z_iconst C (nI 4) dL_removes_168 (by decide) ?_
  refine z_callVr C kX5_line gL_removes_X5_line (l_line4 X.2.1 x0 h0 w0 t S 1 (lw g (uU S 1)) hG (by decide) hg_1) dL_removes_169 [0, 1, 2, 3, 4, 5, 6, 7, 8] [.int (nI (cnS S 3))] 0 rfl nd_0_1_2_3_4_5_6_7_8 rfl rfl rfl (by decide) (by decide) (Nat.le_of_ble_eq_true rfl) rfl ?_
  refine z_iadd C dL_removes_172 ?_
  refine z_top (y := nI ((cnS S 3) + (nSt S 1 (lw g (uU S 1))))) (nI_add _ _) ?_
  refine z_iload C dL_removes_173 rfl ?_
  refine z_if_lt_t C 182 dL_removes_175 (by decide) (by decide) ?_
  refine z_iconst C (nI 0) dL_removes_182 (by decide) ?_
  refine z_iadd C dL_removes_183 ?_
  refine z_top (y := nI ((cnS S 3) + (nSt S 1 (lw g (uU S 1))))) (nI_add _ _) ?_
  refine z_iload C dL_removes_184 rfl ?_
  refine z_nif_eq_f C 193 dL_removes_186 (by decide) (by omega) (by omega) ?_
  refine z_iconst C (nI 1) dL_removes_189 (by decide) ?_
  refine z_goto C 194 dL_removes_190 (by decide) ?_
  refine z_iadd C dL_removes_194 ?_
  refine z_top (y := nI (((cnS S 3) + (nSt S 1 (lw g (uU S 1)))) + 1)) (nI_add _ _) ?_
  refine z_istore C dL_removes_195 (Nat.le_of_ble_eq_true rfl) ?_
  refine z_lv (lv' := [some (.ref x0), some (.int (nI au)), some (.int (nI 1)), some (.int g), some (.int (nI (uU S 1))), some (.int (nI (lw g (uU S 1)))), some (.int (nI (mK S))), some (.int (nI 0)), some (.int (-5)), some (.int (nI 1)), some (.int (nI 0)), some (.int (nI 1000)), some (.int (nI (((cnS S 3) + (nSt S 1 (lw g (uU S 1)))) + 1))), none]) rfl ?_
  refine z_aload_n C 0 dL_removes_197 rfl rfl ?_
  refine z_iload_n C 1 dL_removes_198 rfl rfl ?_
  refine z_iload_n C 2 dL_removes_199 rfl rfl ?_
  refine z_iload C dL_removes_200 rfl ?_
  refine z_callV (wn := (WRd X.2.1 x0 h0 h1 w0 w1 t r S1 o1 kp1 Q1 tx ln ps)) C kX5_remove gL_removes_X5_remove m1 dL_removes_202 [0, 1, 2, 3, 4, 5, 6, 7, 8, 9, 10, 11, 12, 13, 14, 15, 16, 17, 18, 19, 20, 21, 22, 23, 24, 25, 26, 27, 28, 29, 30, 31, 32, 33, 34, 35, 36, 37, 38, 39, 40, 41, 42, 43, 44, 45, 46, 47, 48, 49, 50] [] 0 rfl rfl nd_0_1_2_3_4_5_6_7_8_9_10_11_12_13_14_15_16_17_18_19_20_21_22_23_24_25_26_27_28_29_30_31_32_33_34_35_36_37_38_39_40_41_42_43_44_45_46_47_48_49_50 rfl rfl rfl (by decide) (by decide) (Nat.le_of_ble_eq_true rfl) rfl ((zput_par nd_0_1_2_3_4_5_6_7_8_9_10_11_12_13_14_15_16_17_18_19_20_21_22_23_24_25_26_27_28_29_30_31_32_33_34_35_36_37_38_39_40_41_42_43_44_45_46_47_48_49_50 rfl).trans rfl) ?_
  refine z_iload C dL_removes_205 rfl ?_
  refine z_ncmp_eq_t C 212 dL_removes_207 (by decide) (by omega) (by omega) (by omega) ?_
  refine z_iload C dL_removes_212 rfl ?_
  refine z_nif_ge_t C 234 dL_removes_214 (by decide) (by omega) (by trivial) ?_
  refine z_iload C dL_removes_234 rfl ?_
  refine z_nif_eq_t C 244 dL_removes_236 (by decide) (by omega) (by omega) ?_
  refine z_iconst C (nI 1) dL_removes_244 (by decide) ?_
  refine z_goto C 249 dL_removes_245 (by decide) ?_
  refine z_istore C dL_removes_249 (Nat.le_of_ble_eq_true rfl) ?_
  refine z_lv (lv' := [some (.ref x0), some (.int (nI au)), some (.int (nI 1)), some (.int g), some (.int (nI (uU S 1))), some (.int (nI (lw g (uU S 1)))), some (.int (nI (mK S))), some (.int (nI 0)), some (.int (-5)), some (.int (nI 1)), some (.int (nI 0)), some (.int (nI 1000)), some (.int (nI (((cnS S 3) + (nSt S 1 (lw g (uU S 1)))) + 1))), some (.int (nI 1))]) rfl ?_
  refine z_aload_n C 0 dL_removes_251 rfl rfl ?_
  refine z_iconst C (nI 0) dL_removes_252 (by decide) ?_
  refine z_iload_n C 2 dL_removes_253 rfl rfl ?_
  refine z_callVr C kX5_size gL_removes_X5_size (l_size0 X.2.1 x0 h0 w0 t S1 1 hG1 (by decide)) dL_removes_254 [0, 1, 2, 3, 4, 5, 6, 7, 8] [] 0 rfl nd_0_1_2_3_4_5_6_7_8 rfl rfl rfl (by decide) (by decide) (Nat.le_of_ble_eq_true rfl) rfl ?_
  refine z_iload C dL_removes_257 rfl ?_
  refine z_nif_eq_f C 269 dL_removes_259 (by decide) (by omega) (by omega) ?_
  refine z_iload C dL_removes_262 rfl ?_
  refine z_iconst C (nI 1) dL_removes_264 (by decide) ?_
  refine z_isub C dL_removes_265 ?_
  refine z_top (y := nI ((uU S 1) - 1)) ((pk_sub (by omega)).trans (congrArg nI (by omega))) ?_
  refine z_goto C 271 dL_removes_266 (by decide) ?_
  refine z_ncmp_ne_f C 309 dL_removes_271 (by decide) (by omega) (by omega) (by omega) ?_
  refine z_iload C dL_removes_274 rfl ?_
  refine z_nif_eq_f C 292 dL_removes_276 (by decide) (by omega) (by omega) ?_
  refine z_aload_n C 0 dL_removes_279 rfl rfl ?_
  refine z_iconst C (nI 4) dL_removes_280 (by decide) ?_
  refine z_callVr C kX5_count gL_removes_X5_count (l_cntK X.2.1 x0 h0 h1 w0 w1 t S1 o1 kp1 ln ps 3 hG1 (by decide)) dL_removes_281 [0, 1, 2, 3, 4, 5, 6, 7, 8, 9, 51] [] 0 rfl nd_0_1_2_3_4_5_6_7_8_9_51 rfl rfl rfl (by decide) (by decide) (Nat.le_of_ble_eq_true rfl) rfl ?_
  have hg_3 : cnS S1 3 ≤ mK S1 := zc_le _ _
  refine z_iload C dL_removes_284 rfl ?_
  refine z_ncmp_ne_f C 309 dL_removes_286 (by decide) (by omega) (by omega) (by omega) ?_
  refine z_goto C 305 dL_removes_289 (by decide) ?_
  refine z_iconst C (nI 1) dL_removes_305 (by decide) ?_
  refine z_goto C 310 dL_removes_306 (by decide) ?_
  exact z_zret C N dL_removes_310 rfl (rfl) (rfl)

set_option maxHeartbeats 4000000 in
set_option maxRecDepth 100000 in
theorem w_rem1d0 (E : zE) (x0 h0 h1 w0 w1 : Nat) (t : Nat → Nat) (r : Nat → Nat → Nat) (S S1 : zSt) (o kp kp1 o1 : Nat) (Q Q1 : Nat → zSt) (tx : Nat → Nat) (ln : Nat) (ps : zPs) {B B1 : Nat} (au : Nat) (g : Int32) (hG : GG S B) (hG1 : GG S1 B1) (hau : au < 4) (hz : 0 < uU S 1) (hN : Nw S 1 (lw g (uU S 1)) = false) (hD : Dm S 1 (lw g (uU S 1)) = true) (ht : tK S = true) (hu : uU S1 1 = uU S 1) (m1 : zM E yX5_remove wsX5_remove 6 [.ref x0, .int (nI au), .int (nI 1), .int (nI (lw g (uU S 1)))] (WAd E x0 h0 h1 w0 t r S o kp Q) (WAd E x0 h0 h1 w0 t r S1 o1 kp1 Q1) (some (.int (-4)))) : zM E yL_removes wsL_removes 7 [.ref x0, .int (nI au), .int (nI 1), .int g] (WRd E x0 h0 h1 w0 w1 t r S o kp Q tx ln ps) (WRd E x0 h0 h1 w0 w1 t r S1 o1 kp1 Q1 tx ln ps) (some (.int (nI 1))) := by
  refine zM.of kL_removes (Nat.le_of_ble_eq_true rfl) rfl [some (.ref x0), some (.int (nI au)), some (.int (nI 1)), some (.int g), none, none, none, none, none, none, none, none, none, none] rfl (Nat.le_of_ble_eq_true rfl) ?_
  intro X eX C N
  subst eX
  have hb0 : uU S 0 ≤ 12 := gg_u hG 0
  have hb1 : uU S 1 ≤ 8 := gg_u1 hG
  have hb2 : mK S ≤ 60 := gg_M hG
  have hb3 : uU S1 0 ≤ 12 := gg_u hG1 0
  have hb4 : uU S1 1 ≤ 8 := gg_u1 hG1
  have hb5 : mK S1 ≤ 60 := gg_M hG1
  have hxr : xR S 1 (lw g (uU S 1)) < mK S := (Dm_t hD).1
  refine z_aload_n C 0 dL_removes_0 rfl rfl ?_
  refine z_iconst C (nI 0) dL_removes_1 (by decide) ?_
  refine z_iload_n C 2 dL_removes_2 rfl rfl ?_
  refine z_callVr C kX5_size gL_removes_X5_size (l_size0 X.2.1 x0 h0 w0 t S 1 hG (by decide)) dL_removes_3 [0, 1, 2, 3, 4, 5, 6, 7, 8] [] 0 rfl nd_0_1_2_3_4_5_6_7_8 rfl rfl rfl (by decide) (by decide) (Nat.le_of_ble_eq_true rfl) rfl ?_
  refine z_istore C dL_removes_6 (Nat.le_of_ble_eq_true rfl) ?_
  refine z_lv (lv' := [some (.ref x0), some (.int (nI au)), some (.int (nI 1)), some (.int g), some (.int (nI (uU S 1))), none, none, none, none, none, none, none, none, none]) rfl ?_
  refine z_iload C dL_removes_8 rfl ?_
  refine z_nif_ne_t C 30 dL_removes_10 (by decide) (by omega) (by omega) ?_
  refine z_iload_n C 3 dL_removes_30 rfl rfl ?_
  refine z_iload C dL_removes_31 rfl ?_
  refine z_callS C kL_low gL_removes_L_low (l_low X.2.1 g (uU S 1) hz (by omega)) dL_removes_33 [] rfl (by decide) (by decide) (Nat.le_of_ble_eq_true rfl) rfl ?_
  have hg_1 : lw g (uU S 1) < (uU S 1) := lw_lt g (by omega)
  refine z_istore C dL_removes_36 (Nat.le_of_ble_eq_true rfl) ?_
  refine z_lv (lv' := [some (.ref x0), some (.int (nI au)), some (.int (nI 1)), some (.int g), some (.int (nI (uU S 1))), some (.int (nI (lw g (uU S 1)))), none, none, none, none, none, none, none, none]) rfl ?_
  refine z_aload_n C 0 dL_removes_38 rfl rfl ?_
  refine z_iconst C (nI 0) dL_removes_39 (by decide) ?_
  refine z_callVr C kX5_count gL_removes_X5_count (l_cnt0 X.2.1 x0 h0 h1 w0 w1 t S o kp ln ps  hG ) dL_removes_40 [0, 1, 2, 3, 4, 5, 6, 7, 8, 9, 51] [] 0 rfl nd_0_1_2_3_4_5_6_7_8_9_51 rfl rfl rfl (by decide) (by decide) (Nat.le_of_ble_eq_true rfl) rfl ?_
  refine z_istore C dL_removes_43 (Nat.le_of_ble_eq_true rfl) ?_
  refine z_lv (lv' := [some (.ref x0), some (.int (nI au)), some (.int (nI 1)), some (.int g), some (.int (nI (uU S 1))), some (.int (nI (lw g (uU S 1)))), some (.int (nI (mK S))), none, none, none, none, none, none, none]) rfl ?_
  refine z_aload_n C 0 dL_removes_45 rfl rfl ?_
  refine z_iconst C (nI 5) dL_removes_46 (by decide) ?_
  refine z_callVr C kX5_count gL_removes_X5_count (l_cnt5y X.2.1 x0 h0 h1 w0 w1 t S o kp ln ps  hG ht) dL_removes_47 [0, 1, 2, 3, 4, 5, 6, 7, 8, 9, 51] [] 0 rfl nd_0_1_2_3_4_5_6_7_8_9_51 rfl rfl rfl (by decide) (by decide) (Nat.le_of_ble_eq_true rfl) rfl ?_
  refine z_iconst C (nI 1) dL_removes_50 (by decide) ?_
  refine z_ncmp_ne_f C 58 dL_removes_51 (by decide) (by omega) (by omega) (by omega) ?_
  refine z_iconst C (nI 1) dL_removes_54 (by decide) ?_
  refine z_goto C 59 dL_removes_55 (by decide) ?_
  refine z_istore C dL_removes_59 (Nat.le_of_ble_eq_true rfl) ?_
  refine z_lv (lv' := [some (.ref x0), some (.int (nI au)), some (.int (nI 1)), some (.int g), some (.int (nI (uU S 1))), some (.int (nI (lw g (uU S 1)))), some (.int (nI (mK S))), some (.int (nI 1)), none, none, none, none, none, none]) rfl ?_
  refine z_aload_n C 0 dL_removes_61 rfl rfl ?_
  refine z_iload_n C 2 dL_removes_62 rfl rfl ?_
  refine z_iload C dL_removes_63 rfl ?_
  refine z_iconst C (nI 0) dL_removes_65 (by decide) ?_
  refine z_callVr C kX5_line gL_removes_X5_line (l_line0n X.2.1 x0 h0 w0 t S 1 (lw g (uU S 1)) hG (by decide) hg_1 hN) dL_removes_66 [0, 1, 2, 3, 4, 5, 6, 7, 8] [] 0 rfl nd_0_1_2_3_4_5_6_7_8 rfl rfl rfl (by decide) (by decide) (Nat.le_of_ble_eq_true rfl) rfl ?_
  refine z_istore C dL_removes_69 (Nat.le_of_ble_eq_true rfl) ?_
  refine z_lv (lv' := [some (.ref x0), some (.int (nI au)), some (.int (nI 1)), some (.int g), some (.int (nI (uU S 1))), some (.int (nI (lw g (uU S 1)))), some (.int (nI (mK S))), some (.int (nI 1)), some (.int (-5)), none, none, none, none, none]) rfl ?_
  refine z_aload_n C 0 dL_removes_71 rfl rfl ?_
  refine z_iload_n C 2 dL_removes_72 rfl rfl ?_
  refine z_iload C dL_removes_73 rfl ?_
  refine z_iconst C (nI 1) dL_removes_75 (by decide) ?_
  refine z_callVr C kX5_line gL_removes_X5_line (l_line1y X.2.1 x0 h0 w0 t S 1 (lw g (uU S 1)) hG (by decide) hg_1 hD) dL_removes_76 [0, 1, 2, 3, 4, 5, 6, 7, 8] [] 0 rfl nd_0_1_2_3_4_5_6_7_8 rfl rfl rfl (by decide) (by decide) (Nat.le_of_ble_eq_true rfl) rfl ?_
  refine z_nif_lt_f C 86 dL_removes_79 (by decide) (by omega) (by trivial) ?_
  refine z_iconst C (nI 1) dL_removes_82 (by decide) ?_
  refine z_goto C 87 dL_removes_83 (by decide) ?_
  refine z_istore C dL_removes_87 (Nat.le_of_ble_eq_true rfl) ?_
  refine z_lv (lv' := [some (.ref x0), some (.int (nI au)), some (.int (nI 1)), some (.int g), some (.int (nI (uU S 1))), some (.int (nI (lw g (uU S 1)))), some (.int (nI (mK S))), some (.int (nI 1)), some (.int (-5)), some (.int (nI 1)), none, none, none, none]) rfl ?_
  refine z_iload C dL_removes_89 rfl ?_
  refine z_if_lt_t C 109 dL_removes_91 (by decide) (by decide) ?_
  refine z_iconst C (nI 0) dL_removes_109 (by decide) ?_
  refine z_istore C dL_removes_110 (Nat.le_of_ble_eq_true rfl) ?_
  refine z_lv (lv' := [some (.ref x0), some (.int (nI au)), some (.int (nI 1)), some (.int g), some (.int (nI (uU S 1))), some (.int (nI (lw g (uU S 1)))), some (.int (nI (mK S))), some (.int (nI 1)), some (.int (-5)), some (.int (nI 1)), some (.int (nI 0)), none, none, none]) rfl ?_
  refine z_iload C dL_removes_112 rfl ?_
  refine z_nif_ne_t C 123 dL_removes_114 (by decide) (by omega) (by omega) ?_
  refine z_iload C dL_removes_123 rfl ?_
  refine z_nif_eq_f C 133 dL_removes_125 (by decide) (by omega) (by omega) ?_
  refine z_bipush C (-4) dL_removes_128 (by decide) ?_
  refine z_goto C 157 dL_removes_130 (by decide) ?_
  refine z_istore C dL_removes_157 (Nat.le_of_ble_eq_true rfl) ?_
  refine z_lv (lv' := [some (.ref x0), some (.int (nI au)), some (.int (nI 1)), some (.int g), some (.int (nI (uU S 1))), some (.int (nI (lw g (uU S 1)))), some (.int (nI (mK S))), some (.int (nI 1)), some (.int (-5)), some (.int (nI 1)), some (.int (nI 0)), some (.int (-4)), none, none]) rfl ?_
  refine z_aload_n C 0 dL_removes_159 rfl rfl ?_
  refine z_iconst C (nI 4) dL_removes_160 (by decide) ?_
  refine z_callVr C kX5_count gL_removes_X5_count (l_cntK X.2.1 x0 h0 h1 w0 w1 t S o kp ln ps 3 hG (by decide)) dL_removes_161 [0, 1, 2, 3, 4, 5, 6, 7, 8, 9, 51] [] 0 rfl nd_0_1_2_3_4_5_6_7_8_9_51 rfl rfl rfl (by decide) (by decide) (Nat.le_of_ble_eq_true rfl) rfl ?_
  have hg_2 : cnS S 3 ≤ mK S := zc_le _ _
  refine z_aload_n C 0 dL_removes_164 rfl rfl ?_
  refine z_iload_n C 2 dL_removes_165 rfl rfl ?_
  refine z_iload C dL_removes_166 rfl ?_
  refine z_iconst C (nI 4) dL_removes_168 (by decide) ?_
  refine z_callVr C kX5_line gL_removes_X5_line (l_line4 X.2.1 x0 h0 w0 t S 1 (lw g (uU S 1)) hG (by decide) hg_1) dL_removes_169 [0, 1, 2, 3, 4, 5, 6, 7, 8] [.int (nI (cnS S 3))] 0 rfl nd_0_1_2_3_4_5_6_7_8 rfl rfl rfl (by decide) (by decide) (Nat.le_of_ble_eq_true rfl) rfl ?_
  refine z_iadd C dL_removes_172 ?_
  refine z_top (y := nI ((cnS S 3) + (nSt S 1 (lw g (uU S 1))))) (nI_add _ _) ?_
  refine z_iload C dL_removes_173 rfl ?_
  refine z_if_lt_t C 182 dL_removes_175 (by decide) (by decide) ?_
  refine z_iconst C (nI 0) dL_removes_182 (by decide) ?_
  refine z_iadd C dL_removes_183 ?_
  refine z_top (y := nI ((cnS S 3) + (nSt S 1 (lw g (uU S 1))))) (nI_add _ _) ?_
  refine z_iload C dL_removes_184 rfl ?_
  refine z_nif_eq_f C 193 dL_removes_186 (by decide) (by omega) (by omega) ?_
  refine z_iconst C (nI 1) dL_removes_189 (by decide) ?_
  refine z_goto C 194 dL_removes_190 (by decide) ?_
  refine z_iadd C dL_removes_194 ?_
  refine z_top (y := nI (((cnS S 3) + (nSt S 1 (lw g (uU S 1)))) + 1)) (nI_add _ _) ?_
  refine z_istore C dL_removes_195 (Nat.le_of_ble_eq_true rfl) ?_
  refine z_lv (lv' := [some (.ref x0), some (.int (nI au)), some (.int (nI 1)), some (.int g), some (.int (nI (uU S 1))), some (.int (nI (lw g (uU S 1)))), some (.int (nI (mK S))), some (.int (nI 1)), some (.int (-5)), some (.int (nI 1)), some (.int (nI 0)), some (.int (-4)), some (.int (nI (((cnS S 3) + (nSt S 1 (lw g (uU S 1)))) + 1))), none]) rfl ?_
  refine z_aload_n C 0 dL_removes_197 rfl rfl ?_
  refine z_iload_n C 1 dL_removes_198 rfl rfl ?_
  refine z_iload_n C 2 dL_removes_199 rfl rfl ?_
  refine z_iload C dL_removes_200 rfl ?_
  refine z_callV (wn := (WRd X.2.1 x0 h0 h1 w0 w1 t r S1 o1 kp1 Q1 tx ln ps)) C kX5_remove gL_removes_X5_remove m1 dL_removes_202 [0, 1, 2, 3, 4, 5, 6, 7, 8, 9, 10, 11, 12, 13, 14, 15, 16, 17, 18, 19, 20, 21, 22, 23, 24, 25, 26, 27, 28, 29, 30, 31, 32, 33, 34, 35, 36, 37, 38, 39, 40, 41, 42, 43, 44, 45, 46, 47, 48, 49, 50] [] 0 rfl rfl nd_0_1_2_3_4_5_6_7_8_9_10_11_12_13_14_15_16_17_18_19_20_21_22_23_24_25_26_27_28_29_30_31_32_33_34_35_36_37_38_39_40_41_42_43_44_45_46_47_48_49_50 rfl rfl rfl (by decide) (by decide) (Nat.le_of_ble_eq_true rfl) rfl ((zput_par nd_0_1_2_3_4_5_6_7_8_9_10_11_12_13_14_15_16_17_18_19_20_21_22_23_24_25_26_27_28_29_30_31_32_33_34_35_36_37_38_39_40_41_42_43_44_45_46_47_48_49_50 rfl).trans rfl) ?_
  refine z_iload C dL_removes_205 rfl ?_
  refine z_icmp_eq_t C 212 dL_removes_207 (by decide) rfl ?_
  refine z_iload C dL_removes_212 rfl ?_
  refine z_if_ge_f C 234 dL_removes_214 (by decide) (by decide) ?_
  refine z_aload_n C 0 dL_removes_217 rfl rfl ?_
  refine z_iconst C (nI 0) dL_removes_218 (by decide) ?_
  refine z_iload_n C 2 dL_removes_219 rfl rfl ?_
  refine z_callVr C kX5_size gL_removes_X5_size (l_size0 X.2.1 x0 h0 w0 t S1 1 hG1 (by decide)) dL_removes_220 [0, 1, 2, 3, 4, 5, 6, 7, 8] [] 0 rfl nd_0_1_2_3_4_5_6_7_8 rfl rfl rfl (by decide) (by decide) (Nat.le_of_ble_eq_true rfl) rfl ?_
  refine z_iload C dL_removes_223 rfl ?_
  refine z_ncmp_ne_f C 232 dL_removes_225 (by decide) (by omega) (by omega) (by omega) ?_
  refine z_iconst C (nI 1) dL_removes_228 (by decide) ?_
  refine z_goto C 233 dL_removes_229 (by decide) ?_
  exact z_zret C N dL_removes_233 rfl (rfl) (rfl)

set_option maxHeartbeats 4000000 in
set_option maxRecDepth 100000 in
theorem w_rem1f0 (E : zE) (x0 h0 h1 w0 w1 : Nat) (t : Nat → Nat) (r : Nat → Nat → Nat) (S S1 : zSt) (o kp kp1 o1 : Nat) (Q Q1 : Nat → zSt) (tx : Nat → Nat) (ln : Nat) (ps : zPs) {B B1 : Nat} (au : Nat) (g : Int32) (hG : GG S B) (hG1 : GG S1 B1) (hau : au < 4) (hz : 0 < uU S 1) (hN : Nw S 1 (lw g (uU S 1)) = false) (hD : Dm S 1 (lw g (uU S 1)) = false) (ht : tK S = true) (hm : mK S = 60) (hu : uU S1 1 = uU S 1) (m1 : zM E yX5_remove wsX5_remove 6 [.ref x0, .int (nI au), .int (nI 1), .int (nI (lw g (uU S 1)))] (WAd E x0 h0 h1 w0 t r S o kp Q) (WAd E x0 h0 h1 w0 t r S1 o1 kp1 Q1) (some (.int (-3)))) : zM E yL_removes wsL_removes 7 [.ref x0, .int (nI au), .int (nI 1), .int g] (WRd E x0 h0 h1 w0 w1 t r S o kp Q tx ln ps) (WRd E x0 h0 h1 w0 w1 t r S1 o1 kp1 Q1 tx ln ps) (some (.int (nI 1))) := by
  refine zM.of kL_removes (Nat.le_of_ble_eq_true rfl) rfl [some (.ref x0), some (.int (nI au)), some (.int (nI 1)), some (.int g), none, none, none, none, none, none, none, none, none, none] rfl (Nat.le_of_ble_eq_true rfl) ?_
  intro X eX C N
  subst eX
  have hb0 : uU S 0 ≤ 12 := gg_u hG 0
  have hb1 : uU S 1 ≤ 8 := gg_u1 hG
  have hb2 : mK S ≤ 60 := gg_M hG
  have hb3 : uU S1 0 ≤ 12 := gg_u hG1 0
  have hb4 : uU S1 1 ≤ 8 := gg_u1 hG1
  have hb5 : mK S1 ≤ 60 := gg_M hG1
  refine z_aload_n C 0 dL_removes_0 rfl rfl ?_
  refine z_iconst C (nI 0) dL_removes_1 (by decide) ?_
  refine z_iload_n C 2 dL_removes_2 rfl rfl ?_
  refine z_callVr C kX5_size gL_removes_X5_size (l_size0 X.2.1 x0 h0 w0 t S 1 hG (by decide)) dL_removes_3 [0, 1, 2, 3, 4, 5, 6, 7, 8] [] 0 rfl nd_0_1_2_3_4_5_6_7_8 rfl rfl rfl (by decide) (by decide) (Nat.le_of_ble_eq_true rfl) rfl ?_
  refine z_istore C dL_removes_6 (Nat.le_of_ble_eq_true rfl) ?_
  refine z_lv (lv' := [some (.ref x0), some (.int (nI au)), some (.int (nI 1)), some (.int g), some (.int (nI (uU S 1))), none, none, none, none, none, none, none, none, none]) rfl ?_
  refine z_iload C dL_removes_8 rfl ?_
  refine z_nif_ne_t C 30 dL_removes_10 (by decide) (by omega) (by omega) ?_
  refine z_iload_n C 3 dL_removes_30 rfl rfl ?_
  refine z_iload C dL_removes_31 rfl ?_
  refine z_callS C kL_low gL_removes_L_low (l_low X.2.1 g (uU S 1) hz (by omega)) dL_removes_33 [] rfl (by decide) (by decide) (Nat.le_of_ble_eq_true rfl) rfl ?_
  have hg_1 : lw g (uU S 1) < (uU S 1) := lw_lt g (by omega)
  refine z_istore C dL_removes_36 (Nat.le_of_ble_eq_true rfl) ?_
  refine z_lv (lv' := [some (.ref x0), some (.int (nI au)), some (.int (nI 1)), some (.int g), some (.int (nI (uU S 1))), some (.int (nI (lw g (uU S 1)))), none, none, none, none, none, none, none, none]) rfl ?_
  refine z_aload_n C 0 dL_removes_38 rfl rfl ?_
  refine z_iconst C (nI 0) dL_removes_39 (by decide) ?_
  refine z_callVr C kX5_count gL_removes_X5_count (l_cnt0 X.2.1 x0 h0 h1 w0 w1 t S o kp ln ps  hG ) dL_removes_40 [0, 1, 2, 3, 4, 5, 6, 7, 8, 9, 51] [] 0 rfl nd_0_1_2_3_4_5_6_7_8_9_51 rfl rfl rfl (by decide) (by decide) (Nat.le_of_ble_eq_true rfl) rfl ?_
  refine z_istore C dL_removes_43 (Nat.le_of_ble_eq_true rfl) ?_
  refine z_lv (lv' := [some (.ref x0), some (.int (nI au)), some (.int (nI 1)), some (.int g), some (.int (nI (uU S 1))), some (.int (nI (lw g (uU S 1)))), some (.int (nI (mK S))), none, none, none, none, none, none, none]) rfl ?_
  refine z_aload_n C 0 dL_removes_45 rfl rfl ?_
  refine z_iconst C (nI 5) dL_removes_46 (by decide) ?_
  refine z_callVr C kX5_count gL_removes_X5_count (l_cnt5y X.2.1 x0 h0 h1 w0 w1 t S o kp ln ps  hG ht) dL_removes_47 [0, 1, 2, 3, 4, 5, 6, 7, 8, 9, 51] [] 0 rfl nd_0_1_2_3_4_5_6_7_8_9_51 rfl rfl rfl (by decide) (by decide) (Nat.le_of_ble_eq_true rfl) rfl ?_
  refine z_iconst C (nI 1) dL_removes_50 (by decide) ?_
  refine z_ncmp_ne_f C 58 dL_removes_51 (by decide) (by omega) (by omega) (by omega) ?_
  refine z_iconst C (nI 1) dL_removes_54 (by decide) ?_
  refine z_goto C 59 dL_removes_55 (by decide) ?_
  refine z_istore C dL_removes_59 (Nat.le_of_ble_eq_true rfl) ?_
  refine z_lv (lv' := [some (.ref x0), some (.int (nI au)), some (.int (nI 1)), some (.int g), some (.int (nI (uU S 1))), some (.int (nI (lw g (uU S 1)))), some (.int (nI (mK S))), some (.int (nI 1)), none, none, none, none, none, none]) rfl ?_
  refine z_aload_n C 0 dL_removes_61 rfl rfl ?_
  refine z_iload_n C 2 dL_removes_62 rfl rfl ?_
  refine z_iload C dL_removes_63 rfl ?_
  refine z_iconst C (nI 0) dL_removes_65 (by decide) ?_
  refine z_callVr C kX5_line gL_removes_X5_line (l_line0n X.2.1 x0 h0 w0 t S 1 (lw g (uU S 1)) hG (by decide) hg_1 hN) dL_removes_66 [0, 1, 2, 3, 4, 5, 6, 7, 8] [] 0 rfl nd_0_1_2_3_4_5_6_7_8 rfl rfl rfl (by decide) (by decide) (Nat.le_of_ble_eq_true rfl) rfl ?_
  refine z_istore C dL_removes_69 (Nat.le_of_ble_eq_true rfl) ?_
  refine z_lv (lv' := [some (.ref x0), some (.int (nI au)), some (.int (nI 1)), some (.int g), some (.int (nI (uU S 1))), some (.int (nI (lw g (uU S 1)))), some (.int (nI (mK S))), some (.int (nI 1)), some (.int (-5)), none, none, none, none, none]) rfl ?_
  refine z_aload_n C 0 dL_removes_71 rfl rfl ?_
  refine z_iload_n C 2 dL_removes_72 rfl rfl ?_
  refine z_iload C dL_removes_73 rfl ?_
  refine z_iconst C (nI 1) dL_removes_75 (by decide) ?_
  refine z_callVr C kX5_line gL_removes_X5_line (l_line1n X.2.1 x0 h0 w0 t S 1 (lw g (uU S 1)) hG (by decide) hg_1 hD) dL_removes_76 [0, 1, 2, 3, 4, 5, 6, 7, 8] [] 0 rfl nd_0_1_2_3_4_5_6_7_8 rfl rfl rfl (by decide) (by decide) (Nat.le_of_ble_eq_true rfl) rfl ?_
  refine z_if_lt_t C 86 dL_removes_79 (by decide) (by decide) ?_
  refine z_iconst C (nI 0) dL_removes_86 (by decide) ?_
  refine z_istore C dL_removes_87 (Nat.le_of_ble_eq_true rfl) ?_
  refine z_lv (lv' := [some (.ref x0), some (.int (nI au)), some (.int (nI 1)), some (.int g), some (.int (nI (uU S 1))), some (.int (nI (lw g (uU S 1)))), some (.int (nI (mK S))), some (.int (nI 1)), some (.int (-5)), some (.int (nI 0)), none, none, none, none]) rfl ?_
  refine z_iload C dL_removes_89 rfl ?_
  refine z_if_lt_t C 109 dL_removes_91 (by decide) (by decide) ?_
  refine z_iconst C (nI 0) dL_removes_109 (by decide) ?_
  refine z_istore C dL_removes_110 (Nat.le_of_ble_eq_true rfl) ?_
  refine z_lv (lv' := [some (.ref x0), some (.int (nI au)), some (.int (nI 1)), some (.int g), some (.int (nI (uU S 1))), some (.int (nI (lw g (uU S 1)))), some (.int (nI (mK S))), some (.int (nI 1)), some (.int (-5)), some (.int (nI 0)), some (.int (nI 0)), none, none, none]) rfl ?_
  refine z_iload C dL_removes_112 rfl ?_
  refine z_nif_ne_t C 123 dL_removes_114 (by decide) (by omega) (by omega) ?_
  refine z_iload C dL_removes_123 rfl ?_
  refine z_nif_eq_t C 133 dL_removes_125 (by decide) (by omega) (by omega) ?_
  refine z_iload C dL_removes_133 rfl ?_
  refine z_nif_eq_t C 143 dL_removes_135 (by decide) (by omega) (by omega) ?_
  refine z_iload C dL_removes_143 rfl ?_
  refine z_bipush C (nI 60) dL_removes_145 (by decide) ?_
  refine z_ncmp_ne_f C 155 dL_removes_147 (by decide) (by omega) (by omega) (by omega) ?_
  refine z_bipush C (-3) dL_removes_150 (by decide) ?_
  refine z_goto C 157 dL_removes_152 (by decide) ?_
  refine z_istore C dL_removes_157 (Nat.le_of_ble_eq_true rfl) ?_
  refine z_lv (lv' := [some (.ref x0), some (.int (nI au)), some (.int (nI 1)), some (.int g), some (.int (nI (uU S 1))), some (.int (nI (lw g (uU S 1)))), some (.int (nI (mK S))), some (.int (nI 1)), some (.int (-5)), some (.int (nI 0)), some (.int (nI 0)), some (.int (-3)), none, none]) rfl ?_
  refine z_aload_n C 0 dL_removes_159 rfl rfl ?_
  refine z_iconst C (nI 4) dL_removes_160 (by decide) ?_
  refine z_callVr C kX5_count gL_removes_X5_count (l_cntK X.2.1 x0 h0 h1 w0 w1 t S o kp ln ps 3 hG (by decide)) dL_removes_161 [0, 1, 2, 3, 4, 5, 6, 7, 8, 9, 51] [] 0 rfl nd_0_1_2_3_4_5_6_7_8_9_51 rfl rfl rfl (by decide) (by decide) (Nat.le_of_ble_eq_true rfl) rfl ?_
  have hg_2 : cnS S 3 ≤ mK S := zc_le _ _
  refine z_aload_n C 0 dL_removes_164 rfl rfl ?_
  refine z_iload_n C 2 dL_removes_165 rfl rfl ?_
  refine z_iload C dL_removes_166 rfl ?_
  refine z_iconst C (nI 4) dL_removes_168 (by decide) ?_
  refine z_callVr C kX5_line gL_removes_X5_line (l_line4 X.2.1 x0 h0 w0 t S 1 (lw g (uU S 1)) hG (by decide) hg_1) dL_removes_169 [0, 1, 2, 3, 4, 5, 6, 7, 8] [.int (nI (cnS S 3))] 0 rfl nd_0_1_2_3_4_5_6_7_8 rfl rfl rfl (by decide) (by decide) (Nat.le_of_ble_eq_true rfl) rfl ?_
  refine z_iadd C dL_removes_172 ?_
  refine z_top (y := nI ((cnS S 3) + (nSt S 1 (lw g (uU S 1))))) (nI_add _ _) ?_
  refine z_iload C dL_removes_173 rfl ?_
  refine z_if_lt_t C 182 dL_removes_175 (by decide) (by decide) ?_
  refine z_iconst C (nI 0) dL_removes_182 (by decide) ?_
  refine z_iadd C dL_removes_183 ?_
  refine z_top (y := nI ((cnS S 3) + (nSt S 1 (lw g (uU S 1))))) (nI_add _ _) ?_
  refine z_iload C dL_removes_184 rfl ?_
  refine z_nif_eq_t C 193 dL_removes_186 (by decide) (by omega) (by omega) ?_
  refine z_iconst C (nI 0) dL_removes_193 (by decide) ?_
  refine z_iadd C dL_removes_194 ?_
  refine z_top (y := nI ((cnS S 3) + (nSt S 1 (lw g (uU S 1))))) (nI_add _ _) ?_
  refine z_istore C dL_removes_195 (Nat.le_of_ble_eq_true rfl) ?_
  refine z_lv (lv' := [some (.ref x0), some (.int (nI au)), some (.int (nI 1)), some (.int g), some (.int (nI (uU S 1))), some (.int (nI (lw g (uU S 1)))), some (.int (nI (mK S))), some (.int (nI 1)), some (.int (-5)), some (.int (nI 0)), some (.int (nI 0)), some (.int (-3)), some (.int (nI ((cnS S 3) + (nSt S 1 (lw g (uU S 1)))))), none]) rfl ?_
  refine z_aload_n C 0 dL_removes_197 rfl rfl ?_
  refine z_iload_n C 1 dL_removes_198 rfl rfl ?_
  refine z_iload_n C 2 dL_removes_199 rfl rfl ?_
  refine z_iload C dL_removes_200 rfl ?_
  refine z_callV (wn := (WRd X.2.1 x0 h0 h1 w0 w1 t r S1 o1 kp1 Q1 tx ln ps)) C kX5_remove gL_removes_X5_remove m1 dL_removes_202 [0, 1, 2, 3, 4, 5, 6, 7, 8, 9, 10, 11, 12, 13, 14, 15, 16, 17, 18, 19, 20, 21, 22, 23, 24, 25, 26, 27, 28, 29, 30, 31, 32, 33, 34, 35, 36, 37, 38, 39, 40, 41, 42, 43, 44, 45, 46, 47, 48, 49, 50] [] 0 rfl rfl nd_0_1_2_3_4_5_6_7_8_9_10_11_12_13_14_15_16_17_18_19_20_21_22_23_24_25_26_27_28_29_30_31_32_33_34_35_36_37_38_39_40_41_42_43_44_45_46_47_48_49_50 rfl rfl rfl (by decide) (by decide) (Nat.le_of_ble_eq_true rfl) rfl ((zput_par nd_0_1_2_3_4_5_6_7_8_9_10_11_12_13_14_15_16_17_18_19_20_21_22_23_24_25_26_27_28_29_30_31_32_33_34_35_36_37_38_39_40_41_42_43_44_45_46_47_48_49_50 rfl).trans rfl) ?_
  refine z_iload C dL_removes_205 rfl ?_
  refine z_icmp_eq_t C 212 dL_removes_207 (by decide) rfl ?_
  refine z_iload C dL_removes_212 rfl ?_
  refine z_if_ge_f C 234 dL_removes_214 (by decide) (by decide) ?_
  refine z_aload_n C 0 dL_removes_217 rfl rfl ?_
  refine z_iconst C (nI 0) dL_removes_218 (by decide) ?_
  refine z_iload_n C 2 dL_removes_219 rfl rfl ?_
  refine z_callVr C kX5_size gL_removes_X5_size (l_size0 X.2.1 x0 h0 w0 t S1 1 hG1 (by decide)) dL_removes_220 [0, 1, 2, 3, 4, 5, 6, 7, 8] [] 0 rfl nd_0_1_2_3_4_5_6_7_8 rfl rfl rfl (by decide) (by decide) (Nat.le_of_ble_eq_true rfl) rfl ?_
  refine z_iload C dL_removes_223 rfl ?_
  refine z_ncmp_ne_f C 232 dL_removes_225 (by decide) (by omega) (by omega) (by omega) ?_
  refine z_iconst C (nI 1) dL_removes_228 (by decide) ?_
  refine z_goto C 233 dL_removes_229 (by decide) ?_
  exact z_zret C N dL_removes_233 rfl (rfl) (rfl)

set_option maxHeartbeats 4000000 in
set_option maxRecDepth 100000 in
theorem w_rem1t0 (E : zE) (x0 h0 h1 w0 w1 : Nat) (t : Nat → Nat) (r : Nat → Nat → Nat) (S S1 : zSt) (o kp kp1 o1 : Nat) (Q Q1 : Nat → zSt) (tx : Nat → Nat) (ln : Nat) (ps : zPs) {B B1 : Nat} (au : Nat) (g : Int32) (hG : GG S B) (hG1 : GG S1 B1) (hau : au < 4) (hz : 0 < uU S 1) (hN : Nw S 1 (lw g (uU S 1)) = false) (hD : Dm S 1 (lw g (uU S 1)) = false) (ht : tK S = true) (hm : mK S < 60) (hu : uU S1 1 = uU S 1) (hD1 : Dm S1 1 (lw g (uU S 1)) = true) (hx1 : xR S1 1 (lw g (uU S 1)) = mK S) (m1 : zM E yX5_remove wsX5_remove 6 [.ref x0, .int (nI au), .int (nI 1), .int (nI (lw g (uU S 1)))] (WAd E x0 h0 h1 w0 t r S o kp Q) (WAd E x0 h0 h1 w0 t r S1 o1 kp1 Q1) (some (.int (nI (mK S))))) : zM E yL_removes wsL_removes 7 [.ref x0, .int (nI au), .int (nI 1), .int g] (WRd E x0 h0 h1 w0 w1 t r S o kp Q tx ln ps) (WRd E x0 h0 h1 w0 w1 t r S1 o1 kp1 Q1 tx ln ps) (some (.int (nI 1))) := by
  refine zM.of kL_removes (Nat.le_of_ble_eq_true rfl) rfl [some (.ref x0), some (.int (nI au)), some (.int (nI 1)), some (.int g), none, none, none, none, none, none, none, none, none, none] rfl (Nat.le_of_ble_eq_true rfl) ?_
  intro X eX C N
  subst eX
  have hb0 : uU S 0 ≤ 12 := gg_u hG 0
  have hb1 : uU S 1 ≤ 8 := gg_u1 hG
  have hb2 : mK S ≤ 60 := gg_M hG
  have hb3 : uU S1 0 ≤ 12 := gg_u hG1 0
  have hb4 : uU S1 1 ≤ 8 := gg_u1 hG1
  have hb5 : mK S1 ≤ 60 := gg_M hG1
  refine z_aload_n C 0 dL_removes_0 rfl rfl ?_
  refine z_iconst C (nI 0) dL_removes_1 (by decide) ?_
  refine z_iload_n C 2 dL_removes_2 rfl rfl ?_
  refine z_callVr C kX5_size gL_removes_X5_size (l_size0 X.2.1 x0 h0 w0 t S 1 hG (by decide)) dL_removes_3 [0, 1, 2, 3, 4, 5, 6, 7, 8] [] 0 rfl nd_0_1_2_3_4_5_6_7_8 rfl rfl rfl (by decide) (by decide) (Nat.le_of_ble_eq_true rfl) rfl ?_
  refine z_istore C dL_removes_6 (Nat.le_of_ble_eq_true rfl) ?_
  refine z_lv (lv' := [some (.ref x0), some (.int (nI au)), some (.int (nI 1)), some (.int g), some (.int (nI (uU S 1))), none, none, none, none, none, none, none, none, none]) rfl ?_
  refine z_iload C dL_removes_8 rfl ?_
  refine z_nif_ne_t C 30 dL_removes_10 (by decide) (by omega) (by omega) ?_
  refine z_iload_n C 3 dL_removes_30 rfl rfl ?_
  refine z_iload C dL_removes_31 rfl ?_
  refine z_callS C kL_low gL_removes_L_low (l_low X.2.1 g (uU S 1) hz (by omega)) dL_removes_33 [] rfl (by decide) (by decide) (Nat.le_of_ble_eq_true rfl) rfl ?_
  have hg_1 : lw g (uU S 1) < (uU S 1) := lw_lt g (by omega)
  refine z_istore C dL_removes_36 (Nat.le_of_ble_eq_true rfl) ?_
  refine z_lv (lv' := [some (.ref x0), some (.int (nI au)), some (.int (nI 1)), some (.int g), some (.int (nI (uU S 1))), some (.int (nI (lw g (uU S 1)))), none, none, none, none, none, none, none, none]) rfl ?_
  refine z_aload_n C 0 dL_removes_38 rfl rfl ?_
  refine z_iconst C (nI 0) dL_removes_39 (by decide) ?_
  refine z_callVr C kX5_count gL_removes_X5_count (l_cnt0 X.2.1 x0 h0 h1 w0 w1 t S o kp ln ps  hG ) dL_removes_40 [0, 1, 2, 3, 4, 5, 6, 7, 8, 9, 51] [] 0 rfl nd_0_1_2_3_4_5_6_7_8_9_51 rfl rfl rfl (by decide) (by decide) (Nat.le_of_ble_eq_true rfl) rfl ?_
  refine z_istore C dL_removes_43 (Nat.le_of_ble_eq_true rfl) ?_
  refine z_lv (lv' := [some (.ref x0), some (.int (nI au)), some (.int (nI 1)), some (.int g), some (.int (nI (uU S 1))), some (.int (nI (lw g (uU S 1)))), some (.int (nI (mK S))), none, none, none, none, none, none, none]) rfl ?_
  refine z_aload_n C 0 dL_removes_45 rfl rfl ?_
  refine z_iconst C (nI 5) dL_removes_46 (by decide) ?_
  refine z_callVr C kX5_count gL_removes_X5_count (l_cnt5y X.2.1 x0 h0 h1 w0 w1 t S o kp ln ps  hG ht) dL_removes_47 [0, 1, 2, 3, 4, 5, 6, 7, 8, 9, 51] [] 0 rfl nd_0_1_2_3_4_5_6_7_8_9_51 rfl rfl rfl (by decide) (by decide) (Nat.le_of_ble_eq_true rfl) rfl ?_
  refine z_iconst C (nI 1) dL_removes_50 (by decide) ?_
  refine z_ncmp_ne_f C 58 dL_removes_51 (by decide) (by omega) (by omega) (by omega) ?_
  refine z_iconst C (nI 1) dL_removes_54 (by decide) ?_
  refine z_goto C 59 dL_removes_55 (by decide) ?_
  refine z_istore C dL_removes_59 (Nat.le_of_ble_eq_true rfl) ?_
  refine z_lv (lv' := [some (.ref x0), some (.int (nI au)), some (.int (nI 1)), some (.int g), some (.int (nI (uU S 1))), some (.int (nI (lw g (uU S 1)))), some (.int (nI (mK S))), some (.int (nI 1)), none, none, none, none, none, none]) rfl ?_
  refine z_aload_n C 0 dL_removes_61 rfl rfl ?_
  refine z_iload_n C 2 dL_removes_62 rfl rfl ?_
  refine z_iload C dL_removes_63 rfl ?_
  refine z_iconst C (nI 0) dL_removes_65 (by decide) ?_
  refine z_callVr C kX5_line gL_removes_X5_line (l_line0n X.2.1 x0 h0 w0 t S 1 (lw g (uU S 1)) hG (by decide) hg_1 hN) dL_removes_66 [0, 1, 2, 3, 4, 5, 6, 7, 8] [] 0 rfl nd_0_1_2_3_4_5_6_7_8 rfl rfl rfl (by decide) (by decide) (Nat.le_of_ble_eq_true rfl) rfl ?_
  refine z_istore C dL_removes_69 (Nat.le_of_ble_eq_true rfl) ?_
  refine z_lv (lv' := [some (.ref x0), some (.int (nI au)), some (.int (nI 1)), some (.int g), some (.int (nI (uU S 1))), some (.int (nI (lw g (uU S 1)))), some (.int (nI (mK S))), some (.int (nI 1)), some (.int (-5)), none, none, none, none, none]) rfl ?_
  refine z_aload_n C 0 dL_removes_71 rfl rfl ?_
  refine z_iload_n C 2 dL_removes_72 rfl rfl ?_
  refine z_iload C dL_removes_73 rfl ?_
  refine z_iconst C (nI 1) dL_removes_75 (by decide) ?_
  refine z_callVr C kX5_line gL_removes_X5_line (l_line1n X.2.1 x0 h0 w0 t S 1 (lw g (uU S 1)) hG (by decide) hg_1 hD) dL_removes_76 [0, 1, 2, 3, 4, 5, 6, 7, 8] [] 0 rfl nd_0_1_2_3_4_5_6_7_8 rfl rfl rfl (by decide) (by decide) (Nat.le_of_ble_eq_true rfl) rfl ?_
  refine z_if_lt_t C 86 dL_removes_79 (by decide) (by decide) ?_
  refine z_iconst C (nI 0) dL_removes_86 (by decide) ?_
  refine z_istore C dL_removes_87 (Nat.le_of_ble_eq_true rfl) ?_
  refine z_lv (lv' := [some (.ref x0), some (.int (nI au)), some (.int (nI 1)), some (.int g), some (.int (nI (uU S 1))), some (.int (nI (lw g (uU S 1)))), some (.int (nI (mK S))), some (.int (nI 1)), some (.int (-5)), some (.int (nI 0)), none, none, none, none]) rfl ?_
  refine z_iload C dL_removes_89 rfl ?_
  refine z_if_lt_t C 109 dL_removes_91 (by decide) (by decide) ?_
  refine z_iconst C (nI 0) dL_removes_109 (by decide) ?_
  refine z_istore C dL_removes_110 (Nat.le_of_ble_eq_true rfl) ?_
  refine z_lv (lv' := [some (.ref x0), some (.int (nI au)), some (.int (nI 1)), some (.int g), some (.int (nI (uU S 1))), some (.int (nI (lw g (uU S 1)))), some (.int (nI (mK S))), some (.int (nI 1)), some (.int (-5)), some (.int (nI 0)), some (.int (nI 0)), none, none, none]) rfl ?_
  refine z_iload C dL_removes_112 rfl ?_
  refine z_nif_ne_t C 123 dL_removes_114 (by decide) (by omega) (by omega) ?_
  refine z_iload C dL_removes_123 rfl ?_
  refine z_nif_eq_t C 133 dL_removes_125 (by decide) (by omega) (by omega) ?_
  refine z_iload C dL_removes_133 rfl ?_
  refine z_nif_eq_t C 143 dL_removes_135 (by decide) (by omega) (by omega) ?_
  refine z_iload C dL_removes_143 rfl ?_
  refine z_bipush C (nI 60) dL_removes_145 (by decide) ?_
  refine z_ncmp_ne_t C 155 dL_removes_147 (by decide) (by omega) (by omega) (by omega) ?_
  refine z_iload C dL_removes_155 rfl ?_
  refine z_istore C dL_removes_157 (Nat.le_of_ble_eq_true rfl) ?_
  refine z_lv (lv' := [some (.ref x0), some (.int (nI au)), some (.int (nI 1)), some (.int g), some (.int (nI (uU S 1))), some (.int (nI (lw g (uU S 1)))), some (.int (nI (mK S))), some (.int (nI 1)), some (.int (-5)), some (.int (nI 0)), some (.int (nI 0)), some (.int (nI (mK S))), none, none]) rfl ?_
  refine z_aload_n C 0 dL_removes_159 rfl rfl ?_
  refine z_iconst C (nI 4) dL_removes_160 (by decide) ?_
  refine z_callVr C kX5_count gL_removes_X5_count (l_cntK X.2.1 x0 h0 h1 w0 w1 t S o kp ln ps 3 hG (by decide)) dL_removes_161 [0, 1, 2, 3, 4, 5, 6, 7, 8, 9, 51] [] 0 rfl nd_0_1_2_3_4_5_6_7_8_9_51 rfl rfl rfl (by decide) (by decide) (Nat.le_of_ble_eq_true rfl) rfl ?_
  have hg_2 : cnS S 3 ≤ mK S := zc_le _ _
  refine z_aload_n C 0 dL_removes_164 rfl rfl ?_
  refine z_iload_n C 2 dL_removes_165 rfl rfl ?_
  refine z_iload C dL_removes_166 rfl ?_
  refine z_iconst C (nI 4) dL_removes_168 (by decide) ?_
  refine z_callVr C kX5_line gL_removes_X5_line (l_line4 X.2.1 x0 h0 w0 t S 1 (lw g (uU S 1)) hG (by decide) hg_1) dL_removes_169 [0, 1, 2, 3, 4, 5, 6, 7, 8] [.int (nI (cnS S 3))] 0 rfl nd_0_1_2_3_4_5_6_7_8 rfl rfl rfl (by decide) (by decide) (Nat.le_of_ble_eq_true rfl) rfl ?_
  refine z_iadd C dL_removes_172 ?_
  refine z_top (y := nI ((cnS S 3) + (nSt S 1 (lw g (uU S 1))))) (nI_add _ _) ?_
  refine z_iload C dL_removes_173 rfl ?_
  refine z_if_lt_t C 182 dL_removes_175 (by decide) (by decide) ?_
  refine z_iconst C (nI 0) dL_removes_182 (by decide) ?_
  refine z_iadd C dL_removes_183 ?_
  refine z_top (y := nI ((cnS S 3) + (nSt S 1 (lw g (uU S 1))))) (nI_add _ _) ?_
  refine z_iload C dL_removes_184 rfl ?_
  refine z_nif_eq_t C 193 dL_removes_186 (by decide) (by omega) (by omega) ?_
  refine z_iconst C (nI 0) dL_removes_193 (by decide) ?_
  refine z_iadd C dL_removes_194 ?_
  refine z_top (y := nI ((cnS S 3) + (nSt S 1 (lw g (uU S 1))))) (nI_add _ _) ?_
  refine z_istore C dL_removes_195 (Nat.le_of_ble_eq_true rfl) ?_
  refine z_lv (lv' := [some (.ref x0), some (.int (nI au)), some (.int (nI 1)), some (.int g), some (.int (nI (uU S 1))), some (.int (nI (lw g (uU S 1)))), some (.int (nI (mK S))), some (.int (nI 1)), some (.int (-5)), some (.int (nI 0)), some (.int (nI 0)), some (.int (nI (mK S))), some (.int (nI ((cnS S 3) + (nSt S 1 (lw g (uU S 1)))))), none]) rfl ?_
  refine z_aload_n C 0 dL_removes_197 rfl rfl ?_
  refine z_iload_n C 1 dL_removes_198 rfl rfl ?_
  refine z_iload_n C 2 dL_removes_199 rfl rfl ?_
  refine z_iload C dL_removes_200 rfl ?_
  refine z_callV (wn := (WRd X.2.1 x0 h0 h1 w0 w1 t r S1 o1 kp1 Q1 tx ln ps)) C kX5_remove gL_removes_X5_remove m1 dL_removes_202 [0, 1, 2, 3, 4, 5, 6, 7, 8, 9, 10, 11, 12, 13, 14, 15, 16, 17, 18, 19, 20, 21, 22, 23, 24, 25, 26, 27, 28, 29, 30, 31, 32, 33, 34, 35, 36, 37, 38, 39, 40, 41, 42, 43, 44, 45, 46, 47, 48, 49, 50] [] 0 rfl rfl nd_0_1_2_3_4_5_6_7_8_9_10_11_12_13_14_15_16_17_18_19_20_21_22_23_24_25_26_27_28_29_30_31_32_33_34_35_36_37_38_39_40_41_42_43_44_45_46_47_48_49_50 rfl rfl rfl (by decide) (by decide) (Nat.le_of_ble_eq_true rfl) rfl ((zput_par nd_0_1_2_3_4_5_6_7_8_9_10_11_12_13_14_15_16_17_18_19_20_21_22_23_24_25_26_27_28_29_30_31_32_33_34_35_36_37_38_39_40_41_42_43_44_45_46_47_48_49_50 rfl).trans rfl) ?_
  refine z_iload C dL_removes_205 rfl ?_
  refine z_ncmp_eq_t C 212 dL_removes_207 (by decide) (by omega) (by omega) (by omega) ?_
  refine z_iload C dL_removes_212 rfl ?_
  refine z_nif_ge_t C 234 dL_removes_214 (by decide) (by omega) (by trivial) ?_
  refine z_iload C dL_removes_234 rfl ?_
  refine z_nif_eq_f C 244 dL_removes_236 (by decide) (by omega) (by omega) ?_
  refine z_iload C dL_removes_239 rfl ?_
  refine z_nif_eq_t C 248 dL_removes_241 (by decide) (by omega) (by omega) ?_
  refine z_iconst C (nI 0) dL_removes_248 (by decide) ?_
  refine z_istore C dL_removes_249 (Nat.le_of_ble_eq_true rfl) ?_
  refine z_lv (lv' := [some (.ref x0), some (.int (nI au)), some (.int (nI 1)), some (.int g), some (.int (nI (uU S 1))), some (.int (nI (lw g (uU S 1)))), some (.int (nI (mK S))), some (.int (nI 1)), some (.int (-5)), some (.int (nI 0)), some (.int (nI 0)), some (.int (nI (mK S))), some (.int (nI ((cnS S 3) + (nSt S 1 (lw g (uU S 1)))))), some (.int (nI 0))]) rfl ?_
  refine z_aload_n C 0 dL_removes_251 rfl rfl ?_
  refine z_iconst C (nI 0) dL_removes_252 (by decide) ?_
  refine z_iload_n C 2 dL_removes_253 rfl rfl ?_
  refine z_callVr C kX5_size gL_removes_X5_size (l_size0 X.2.1 x0 h0 w0 t S1 1 hG1 (by decide)) dL_removes_254 [0, 1, 2, 3, 4, 5, 6, 7, 8] [] 0 rfl nd_0_1_2_3_4_5_6_7_8 rfl rfl rfl (by decide) (by decide) (Nat.le_of_ble_eq_true rfl) rfl ?_
  refine z_iload C dL_removes_257 rfl ?_
  refine z_nif_eq_t C 269 dL_removes_259 (by decide) (by omega) (by omega) ?_
  refine z_iload C dL_removes_269 rfl ?_
  refine z_ncmp_ne_f C 309 dL_removes_271 (by decide) (by omega) (by omega) (by omega) ?_
  refine z_iload C dL_removes_274 rfl ?_
  refine z_nif_eq_t C 292 dL_removes_276 (by decide) (by omega) (by omega) ?_
  refine z_aload_n C 0 dL_removes_292 rfl rfl ?_
  refine z_iload_n C 2 dL_removes_293 rfl rfl ?_
  refine z_iload C dL_removes_294 rfl ?_
  refine z_iconst C (nI 1) dL_removes_296 (by decide) ?_
  refine z_callVr C kX5_line gL_removes_X5_line (l_line1y X.2.1 x0 h0 w0 t S1 1 (lw g (uU S 1)) hG1 (by decide) (by omega) hD1) dL_removes_297 [0, 1, 2, 3, 4, 5, 6, 7, 8] [] 0 rfl nd_0_1_2_3_4_5_6_7_8 rfl rfl rfl (by decide) (by decide) (Nat.le_of_ble_eq_true rfl) rfl ?_
  refine z_iload C dL_removes_300 rfl ?_
  refine z_ncmp_ne_f C 309 dL_removes_302 (by decide) (by omega) (by omega) (by omega) ?_
  refine z_iconst C (nI 1) dL_removes_305 (by decide) ?_
  refine z_goto C 310 dL_removes_306 (by decide) ?_
  exact z_zret C N dL_removes_310 rfl (rfl) (rfl)

set_option maxHeartbeats 4000000 in
set_option maxRecDepth 100000 in
theorem w_rem1u10 (E : zE) (x0 h0 h1 w0 w1 : Nat) (t : Nat → Nat) (r : Nat → Nat → Nat) (S S1 : zSt) (o kp kp1 o1 : Nat) (Q Q1 : Nat → zSt) (tx : Nat → Nat) (ln : Nat) (ps : zPs) {B B1 : Nat} (au : Nat) (g : Int32) (hG : GG S B) (hG1 : GG S1 B1) (hau : au < 4) (hz : 0 < uU S 1) (hN : Nw S 1 (lw g (uU S 1)) = true) (hD : Dm S 1 (lw g (uU S 1)) = false) (ht : tK S = false) (hu : uU S1 1 + 1 = uU S 1) (hc : cnS S1 3 = cnS S 3 + nSt S 1 (lw g (uU S 1)) + 1) (hc6 : cnS S1 3 ≤ 60) (m1 : zM E yX5_remove wsX5_remove 6 [.ref x0, .int (nI au), .int (nI 1), .int (nI (lw g (uU S 1)))] (WAd E x0 h0 h1 w0 t r S o kp Q) (WAd E x0 h0 h1 w0 t r S1 o1 kp1 Q1) (some (.int (nI 1000)))) : zM E yL_removes wsL_removes 7 [.ref x0, .int (nI au), .int (nI 1), .int g] (WRd E x0 h0 h1 w0 w1 t r S o kp Q tx ln ps) (WRd E x0 h0 h1 w0 w1 t r S1 o1 kp1 Q1 tx ln ps) (some (.int (nI 1))) := by
  refine zM.of kL_removes (Nat.le_of_ble_eq_true rfl) rfl [some (.ref x0), some (.int (nI au)), some (.int (nI 1)), some (.int g), none, none, none, none, none, none, none, none, none, none] rfl (Nat.le_of_ble_eq_true rfl) ?_
  intro X eX C N
  subst eX
  have hb0 : uU S 0 ≤ 12 := gg_u hG 0
  have hb1 : uU S 1 ≤ 8 := gg_u1 hG
  have hb2 : mK S ≤ 60 := gg_M hG
  have hb3 : uU S1 0 ≤ 12 := gg_u hG1 0
  have hb4 : uU S1 1 ≤ 8 := gg_u1 hG1
  have hb5 : mK S1 ≤ 60 := gg_M hG1
  have hxm : xI S 1 (lw g (uU S 1)) < mK S := (Nw_t hN).1
  have hxa : aN S (xI S 1 (lw g (uU S 1))) < 4 := (aN_e hG hxm).2
  refine z_aload_n C 0 dL_removes_0 rfl rfl ?_
  refine z_iconst C (nI 0) dL_removes_1 (by decide) ?_
  refine z_iload_n C 2 dL_removes_2 rfl rfl ?_
  refine z_callVr C kX5_size gL_removes_X5_size (l_size0 X.2.1 x0 h0 w0 t S 1 hG (by decide)) dL_removes_3 [0, 1, 2, 3, 4, 5, 6, 7, 8] [] 0 rfl nd_0_1_2_3_4_5_6_7_8 rfl rfl rfl (by decide) (by decide) (Nat.le_of_ble_eq_true rfl) rfl ?_
  refine z_istore C dL_removes_6 (Nat.le_of_ble_eq_true rfl) ?_
  refine z_lv (lv' := [some (.ref x0), some (.int (nI au)), some (.int (nI 1)), some (.int g), some (.int (nI (uU S 1))), none, none, none, none, none, none, none, none, none]) rfl ?_
  refine z_iload C dL_removes_8 rfl ?_
  refine z_nif_ne_t C 30 dL_removes_10 (by decide) (by omega) (by omega) ?_
  refine z_iload_n C 3 dL_removes_30 rfl rfl ?_
  refine z_iload C dL_removes_31 rfl ?_
  refine z_callS C kL_low gL_removes_L_low (l_low X.2.1 g (uU S 1) hz (by omega)) dL_removes_33 [] rfl (by decide) (by decide) (Nat.le_of_ble_eq_true rfl) rfl ?_
  have hg_1 : lw g (uU S 1) < (uU S 1) := lw_lt g (by omega)
  refine z_istore C dL_removes_36 (Nat.le_of_ble_eq_true rfl) ?_
  refine z_lv (lv' := [some (.ref x0), some (.int (nI au)), some (.int (nI 1)), some (.int g), some (.int (nI (uU S 1))), some (.int (nI (lw g (uU S 1)))), none, none, none, none, none, none, none, none]) rfl ?_
  refine z_aload_n C 0 dL_removes_38 rfl rfl ?_
  refine z_iconst C (nI 0) dL_removes_39 (by decide) ?_
  refine z_callVr C kX5_count gL_removes_X5_count (l_cnt0 X.2.1 x0 h0 h1 w0 w1 t S o kp ln ps  hG ) dL_removes_40 [0, 1, 2, 3, 4, 5, 6, 7, 8, 9, 51] [] 0 rfl nd_0_1_2_3_4_5_6_7_8_9_51 rfl rfl rfl (by decide) (by decide) (Nat.le_of_ble_eq_true rfl) rfl ?_
  refine z_istore C dL_removes_43 (Nat.le_of_ble_eq_true rfl) ?_
  refine z_lv (lv' := [some (.ref x0), some (.int (nI au)), some (.int (nI 1)), some (.int g), some (.int (nI (uU S 1))), some (.int (nI (lw g (uU S 1)))), some (.int (nI (mK S))), none, none, none, none, none, none, none]) rfl ?_
  refine z_aload_n C 0 dL_removes_45 rfl rfl ?_
  refine z_iconst C (nI 5) dL_removes_46 (by decide) ?_
  refine z_callVr C kX5_count gL_removes_X5_count (l_cnt5n X.2.1 x0 h0 h1 w0 w1 t S o kp ln ps  hG ht) dL_removes_47 [0, 1, 2, 3, 4, 5, 6, 7, 8, 9, 51] [] 0 rfl nd_0_1_2_3_4_5_6_7_8_9_51 rfl rfl rfl (by decide) (by decide) (Nat.le_of_ble_eq_true rfl) rfl ?_
  refine z_iconst C (nI 1) dL_removes_50 (by decide) ?_
  refine z_ncmp_ne_t C 58 dL_removes_51 (by decide) (by omega) (by omega) (by omega) ?_
  refine z_iconst C (nI 0) dL_removes_58 (by decide) ?_
  refine z_istore C dL_removes_59 (Nat.le_of_ble_eq_true rfl) ?_
  refine z_lv (lv' := [some (.ref x0), some (.int (nI au)), some (.int (nI 1)), some (.int g), some (.int (nI (uU S 1))), some (.int (nI (lw g (uU S 1)))), some (.int (nI (mK S))), some (.int (nI 0)), none, none, none, none, none, none]) rfl ?_
  refine z_aload_n C 0 dL_removes_61 rfl rfl ?_
  refine z_iload_n C 2 dL_removes_62 rfl rfl ?_
  refine z_iload C dL_removes_63 rfl ?_
  refine z_iconst C (nI 0) dL_removes_65 (by decide) ?_
  refine z_callVr C kX5_line gL_removes_X5_line (l_line0y X.2.1 x0 h0 w0 t S 1 (lw g (uU S 1)) hG (by decide) hg_1 hN) dL_removes_66 [0, 1, 2, 3, 4, 5, 6, 7, 8] [] 0 rfl nd_0_1_2_3_4_5_6_7_8 rfl rfl rfl (by decide) (by decide) (Nat.le_of_ble_eq_true rfl) rfl ?_
  refine z_istore C dL_removes_69 (Nat.le_of_ble_eq_true rfl) ?_
  refine z_lv (lv' := [some (.ref x0), some (.int (nI au)), some (.int (nI 1)), some (.int g), some (.int (nI (uU S 1))), some (.int (nI (lw g (uU S 1)))), some (.int (nI (mK S))), some (.int (nI 0)), some (.int (nI (xI S 1 (lw g (uU S 1))))), none, none, none, none, none]) rfl ?_
  refine z_aload_n C 0 dL_removes_71 rfl rfl ?_
  refine z_iload_n C 2 dL_removes_72 rfl rfl ?_
  refine z_iload C dL_removes_73 rfl ?_
  refine z_iconst C (nI 1) dL_removes_75 (by decide) ?_
  refine z_callVr C kX5_line gL_removes_X5_line (l_line1n X.2.1 x0 h0 w0 t S 1 (lw g (uU S 1)) hG (by decide) hg_1 hD) dL_removes_76 [0, 1, 2, 3, 4, 5, 6, 7, 8] [] 0 rfl nd_0_1_2_3_4_5_6_7_8 rfl rfl rfl (by decide) (by decide) (Nat.le_of_ble_eq_true rfl) rfl ?_
  refine z_if_lt_t C 86 dL_removes_79 (by decide) (by decide) ?_
  refine z_iconst C (nI 0) dL_removes_86 (by decide) ?_
  refine z_istore C dL_removes_87 (Nat.le_of_ble_eq_true rfl) ?_
  refine z_lv (lv' := [some (.ref x0), some (.int (nI au)), some (.int (nI 1)), some (.int g), some (.int (nI (uU S 1))), some (.int (nI (lw g (uU S 1)))), some (.int (nI (mK S))), some (.int (nI 0)), some (.int (nI (xI S 1 (lw g (uU S 1))))), some (.int (nI 0)), none, none, none, none]) rfl ?_
  refine z_iload C dL_removes_89 rfl ?_
  refine z_nif_lt_f C 109 dL_removes_91 (by decide) (by omega) (by trivial) ?_
  refine z_aload_n C 0 dL_removes_94 rfl rfl ?_
  refine z_iload C dL_removes_95 rfl ?_
  refine z_iconst C (nI 1) dL_removes_97 (by decide) ?_
  refine z_callVr C kX5_change gL_removes_X5_change (l_chg1 X.2.1 x0 h0 w0 t S (xI S 1 (lw g (uU S 1))) hG hxm) dL_removes_98 [0, 1, 2, 3, 4, 5, 6, 7, 8] [] 0 rfl nd_0_1_2_3_4_5_6_7_8 rfl rfl rfl (by decide) (by decide) (Nat.le_of_ble_eq_true rfl) rfl ?_
  refine z_iload_n C 1 dL_removes_101 rfl rfl ?_
  refine z_ncmp_ne C 109 dL_removes_102 (by decide) (by omega) (by omega) (fun h_2 => ?_) (fun h_2 => ?_)
  · refine z_iconst C (nI 0) dL_removes_109 (by decide) ?_
    refine z_istore C dL_removes_110 (Nat.le_of_ble_eq_true rfl) ?_
    refine z_lv (lv' := [some (.ref x0), some (.int (nI au)), some (.int (nI 1)), some (.int g), some (.int (nI (uU S 1))), some (.int (nI (lw g (uU S 1)))), some (.int (nI (mK S))), some (.int (nI 0)), some (.int (nI (xI S 1 (lw g (uU S 1))))), some (.int (nI 0)), some (.int (nI 0)), none, none, none]) rfl ?_
    refine z_iload C dL_removes_112 rfl ?_
    refine z_nif_ne_f C 123 dL_removes_114 (by decide) (by omega) (by omega) ?_
    refine z_sipush C (nI 1000) dL_removes_117 (by decide) ?_
    refine z_goto C 157 dL_removes_120 (by decide) ?_
    refine z_istore C dL_removes_157 (Nat.le_of_ble_eq_true rfl) ?_
    refine z_lv (lv' := [some (.ref x0), some (.int (nI au)), some (.int (nI 1)), some (.int g), some (.int (nI (uU S 1))), some (.int (nI (lw g (uU S 1)))), some (.int (nI (mK S))), some (.int (nI 0)), some (.int (nI (xI S 1 (lw g (uU S 1))))), some (.int (nI 0)), some (.int (nI 0)), some (.int (nI 1000)), none, none]) rfl ?_
    refine z_aload_n C 0 dL_removes_159 rfl rfl ?_
    refine z_iconst C (nI 4) dL_removes_160 (by decide) ?_
    refine z_callVr C kX5_count gL_removes_X5_count (l_cntK X.2.1 x0 h0 h1 w0 w1 t S o kp ln ps 3 hG (by decide)) dL_removes_161 [0, 1, 2, 3, 4, 5, 6, 7, 8, 9, 51] [] 0 rfl nd_0_1_2_3_4_5_6_7_8_9_51 rfl rfl rfl (by decide) (by decide) (Nat.le_of_ble_eq_true rfl) rfl ?_
    have hg_3 : cnS S 3 ≤ mK S := zc_le _ _
    refine z_aload_n C 0 dL_removes_164 rfl rfl ?_
    refine z_iload_n C 2 dL_removes_165 rfl rfl ?_
    refine z_iload C dL_removes_166 rfl ?_
    refine z_iconst C (nI 4) dL_removes_168 (by decide) ?_
    refine z_callVr C kX5_line gL_removes_X5_line (l_line4 X.2.1 x0 h0 w0 t S 1 (lw g (uU S 1)) hG (by decide) hg_1) dL_removes_169 [0, 1, 2, 3, 4, 5, 6, 7, 8] [.int (nI (cnS S 3))] 0 rfl nd_0_1_2_3_4_5_6_7_8 rfl rfl rfl (by decide) (by decide) (Nat.le_of_ble_eq_true rfl) rfl ?_
    refine z_iadd C dL_removes_172 ?_
    refine z_top (y := nI ((cnS S 3) + (nSt S 1 (lw g (uU S 1))))) (nI_add _ _) ?_
    refine z_iload C dL_removes_173 rfl ?_
    refine z_nif_lt_f C 182 dL_removes_175 (by decide) (by omega) (by trivial) ?_
    refine z_iconst C (nI 1) dL_removes_178 (by decide) ?_
    refine z_goto C 183 dL_removes_179 (by decide) ?_
    refine z_iadd C dL_removes_183 ?_
    refine z_top (y := nI (((cnS S 3) + (nSt S 1 (lw g (uU S 1)))) + 1)) (nI_add _ _) ?_
    refine z_iload C dL_removes_184 rfl ?_
    refine z_nif_eq_t C 193 dL_removes_186 (by decide) (by omega) (by omega) ?_
    refine z_iconst C (nI 0) dL_removes_193 (by decide) ?_
    refine z_iadd C dL_removes_194 ?_
    refine z_top (y := nI (((cnS S 3) + (nSt S 1 (lw g (uU S 1)))) + 1)) (nI_add _ _) ?_
    refine z_istore C dL_removes_195 (Nat.le_of_ble_eq_true rfl) ?_
    refine z_lv (lv' := [some (.ref x0), some (.int (nI au)), some (.int (nI 1)), some (.int g), some (.int (nI (uU S 1))), some (.int (nI (lw g (uU S 1)))), some (.int (nI (mK S))), some (.int (nI 0)), some (.int (nI (xI S 1 (lw g (uU S 1))))), some (.int (nI 0)), some (.int (nI 0)), some (.int (nI 1000)), some (.int (nI (((cnS S 3) + (nSt S 1 (lw g (uU S 1)))) + 1))), none]) rfl ?_
    refine z_aload_n C 0 dL_removes_197 rfl rfl ?_
    refine z_iload_n C 1 dL_removes_198 rfl rfl ?_
    refine z_iload_n C 2 dL_removes_199 rfl rfl ?_
    refine z_iload C dL_removes_200 rfl ?_
    refine z_callV (wn := (WRd X.2.1 x0 h0 h1 w0 w1 t r S1 o1 kp1 Q1 tx ln ps)) C kX5_remove gL_removes_X5_remove m1 dL_removes_202 [0, 1, 2, 3, 4, 5, 6, 7, 8, 9, 10, 11, 12, 13, 14, 15, 16, 17, 18, 19, 20, 21, 22, 23, 24, 25, 26, 27, 28, 29, 30, 31, 32, 33, 34, 35, 36, 37, 38, 39, 40, 41, 42, 43, 44, 45, 46, 47, 48, 49, 50] [] 0 rfl rfl nd_0_1_2_3_4_5_6_7_8_9_10_11_12_13_14_15_16_17_18_19_20_21_22_23_24_25_26_27_28_29_30_31_32_33_34_35_36_37_38_39_40_41_42_43_44_45_46_47_48_49_50 rfl rfl rfl (by decide) (by decide) (Nat.le_of_ble_eq_true rfl) rfl ((zput_par nd_0_1_2_3_4_5_6_7_8_9_10_11_12_13_14_15_16_17_18_19_20_21_22_23_24_25_26_27_28_29_30_31_32_33_34_35_36_37_38_39_40_41_42_43_44_45_46_47_48_49_50 rfl).trans rfl) ?_
    refine z_iload C dL_removes_205 rfl ?_
    refine z_ncmp_eq_t C 212 dL_removes_207 (by decide) (by omega) (by omega) (by omega) ?_
    refine z_iload C dL_removes_212 rfl ?_
    refine z_nif_ge_t C 234 dL_removes_214 (by decide) (by omega) (by trivial) ?_
    refine z_iload C dL_removes_234 rfl ?_
    refine z_nif_eq_t C 244 dL_removes_236 (by decide) (by omega) (by omega) ?_
    refine z_iconst C (nI 1) dL_removes_244 (by decide) ?_
    refine z_goto C 249 dL_removes_245 (by decide) ?_
    refine z_istore C dL_removes_249 (Nat.le_of_ble_eq_true rfl) ?_
    refine z_lv (lv' := [some (.ref x0), some (.int (nI au)), some (.int (nI 1)), some (.int g), some (.int (nI (uU S 1))), some (.int (nI (lw g (uU S 1)))), some (.int (nI (mK S))), some (.int (nI 0)), some (.int (nI (xI S 1 (lw g (uU S 1))))), some (.int (nI 0)), some (.int (nI 0)), some (.int (nI 1000)), some (.int (nI (((cnS S 3) + (nSt S 1 (lw g (uU S 1)))) + 1))), some (.int (nI 1))]) rfl ?_
    refine z_aload_n C 0 dL_removes_251 rfl rfl ?_
    refine z_iconst C (nI 0) dL_removes_252 (by decide) ?_
    refine z_iload_n C 2 dL_removes_253 rfl rfl ?_
    refine z_callVr C kX5_size gL_removes_X5_size (l_size0 X.2.1 x0 h0 w0 t S1 1 hG1 (by decide)) dL_removes_254 [0, 1, 2, 3, 4, 5, 6, 7, 8] [] 0 rfl nd_0_1_2_3_4_5_6_7_8 rfl rfl rfl (by decide) (by decide) (Nat.le_of_ble_eq_true rfl) rfl ?_
    refine z_iload C dL_removes_257 rfl ?_
    refine z_nif_eq_f C 269 dL_removes_259 (by decide) (by omega) (by omega) ?_
    refine z_iload C dL_removes_262 rfl ?_
    refine z_iconst C (nI 1) dL_removes_264 (by decide) ?_
    refine z_isub C dL_removes_265 ?_
    refine z_top (y := nI ((uU S 1) - 1)) ((pk_sub (by omega)).trans (congrArg nI (by omega))) ?_
    refine z_goto C 271 dL_removes_266 (by decide) ?_
    refine z_ncmp_ne_f C 309 dL_removes_271 (by decide) (by omega) (by omega) (by omega) ?_
    refine z_iload C dL_removes_274 rfl ?_
    refine z_nif_eq_f C 292 dL_removes_276 (by decide) (by omega) (by omega) ?_
    refine z_aload_n C 0 dL_removes_279 rfl rfl ?_
    refine z_iconst C (nI 4) dL_removes_280 (by decide) ?_
    refine z_callVr C kX5_count gL_removes_X5_count (l_cntK X.2.1 x0 h0 h1 w0 w1 t S1 o1 kp1 ln ps 3 hG1 (by decide)) dL_removes_281 [0, 1, 2, 3, 4, 5, 6, 7, 8, 9, 51] [] 0 rfl nd_0_1_2_3_4_5_6_7_8_9_51 rfl rfl rfl (by decide) (by decide) (Nat.le_of_ble_eq_true rfl) rfl ?_
    have hg_4 : cnS S1 3 ≤ mK S1 := zc_le _ _
    refine z_iload C dL_removes_284 rfl ?_
    refine z_ncmp_ne_f C 309 dL_removes_286 (by decide) (by omega) (by omega) (by omega) ?_
    refine z_goto C 305 dL_removes_289 (by decide) ?_
    refine z_iconst C (nI 1) dL_removes_305 (by decide) ?_
    refine z_goto C 310 dL_removes_306 (by decide) ?_
    exact z_zret C N dL_removes_310 rfl (rfl) (rfl)
  · refine z_iconst C (nI 1) dL_removes_105 (by decide) ?_
    refine z_goto C 110 dL_removes_106 (by decide) ?_
    refine z_istore C dL_removes_110 (Nat.le_of_ble_eq_true rfl) ?_
    refine z_lv (lv' := [some (.ref x0), some (.int (nI au)), some (.int (nI 1)), some (.int g), some (.int (nI (uU S 1))), some (.int (nI (lw g (uU S 1)))), some (.int (nI (mK S))), some (.int (nI 0)), some (.int (nI (xI S 1 (lw g (uU S 1))))), some (.int (nI 0)), some (.int (nI 1)), none, none, none]) rfl ?_
    refine z_iload C dL_removes_112 rfl ?_
    refine z_nif_ne_f C 123 dL_removes_114 (by decide) (by omega) (by omega) ?_
    refine z_sipush C (nI 1000) dL_removes_117 (by decide) ?_
    refine z_goto C 157 dL_removes_120 (by decide) ?_
    refine z_istore C dL_removes_157 (Nat.le_of_ble_eq_true rfl) ?_
    refine z_lv (lv' := [some (.ref x0), some (.int (nI au)), some (.int (nI 1)), some (.int g), some (.int (nI (uU S 1))), some (.int (nI (lw g (uU S 1)))), some (.int (nI (mK S))), some (.int (nI 0)), some (.int (nI (xI S 1 (lw g (uU S 1))))), some (.int (nI 0)), some (.int (nI 1)), some (.int (nI 1000)), none, none]) rfl ?_
    refine z_aload_n C 0 dL_removes_159 rfl rfl ?_
    refine z_iconst C (nI 4) dL_removes_160 (by decide) ?_
    refine z_callVr C kX5_count gL_removes_X5_count (l_cntK X.2.1 x0 h0 h1 w0 w1 t S o kp ln ps 3 hG (by decide)) dL_removes_161 [0, 1, 2, 3, 4, 5, 6, 7, 8, 9, 51] [] 0 rfl nd_0_1_2_3_4_5_6_7_8_9_51 rfl rfl rfl (by decide) (by decide) (Nat.le_of_ble_eq_true rfl) rfl ?_
    have hg_5 : cnS S 3 ≤ mK S := zc_le _ _
    refine z_aload_n C 0 dL_removes_164 rfl rfl ?_
    refine z_iload_n C 2 dL_removes_165 rfl rfl ?_
    refine z_iload C dL_removes_166 rfl ?_
    refine z_iconst C (nI 4) dL_removes_168 (by decide) ?_
    refine z_callVr C kX5_line gL_removes_X5_line (l_line4 X.2.1 x0 h0 w0 t S 1 (lw g (uU S 1)) hG (by decide) hg_1) dL_removes_169 [0, 1, 2, 3, 4, 5, 6, 7, 8] [.int (nI (cnS S 3))] 0 rfl nd_0_1_2_3_4_5_6_7_8 rfl rfl rfl (by decide) (by decide) (Nat.le_of_ble_eq_true rfl) rfl ?_
    refine z_iadd C dL_removes_172 ?_
    refine z_top (y := nI ((cnS S 3) + (nSt S 1 (lw g (uU S 1))))) (nI_add _ _) ?_
    refine z_iload C dL_removes_173 rfl ?_
    refine z_nif_lt_f C 182 dL_removes_175 (by decide) (by omega) (by trivial) ?_
    refine z_iconst C (nI 1) dL_removes_178 (by decide) ?_
    refine z_goto C 183 dL_removes_179 (by decide) ?_
    refine z_iadd C dL_removes_183 ?_
    refine z_top (y := nI (((cnS S 3) + (nSt S 1 (lw g (uU S 1)))) + 1)) (nI_add _ _) ?_
    refine z_iload C dL_removes_184 rfl ?_
    refine z_nif_eq_t C 193 dL_removes_186 (by decide) (by omega) (by omega) ?_
    refine z_iconst C (nI 0) dL_removes_193 (by decide) ?_
    refine z_iadd C dL_removes_194 ?_
    refine z_top (y := nI (((cnS S 3) + (nSt S 1 (lw g (uU S 1)))) + 1)) (nI_add _ _) ?_
    refine z_istore C dL_removes_195 (Nat.le_of_ble_eq_true rfl) ?_
    refine z_lv (lv' := [some (.ref x0), some (.int (nI au)), some (.int (nI 1)), some (.int g), some (.int (nI (uU S 1))), some (.int (nI (lw g (uU S 1)))), some (.int (nI (mK S))), some (.int (nI 0)), some (.int (nI (xI S 1 (lw g (uU S 1))))), some (.int (nI 0)), some (.int (nI 1)), some (.int (nI 1000)), some (.int (nI (((cnS S 3) + (nSt S 1 (lw g (uU S 1)))) + 1))), none]) rfl ?_
    refine z_aload_n C 0 dL_removes_197 rfl rfl ?_
    refine z_iload_n C 1 dL_removes_198 rfl rfl ?_
    refine z_iload_n C 2 dL_removes_199 rfl rfl ?_
    refine z_iload C dL_removes_200 rfl ?_
    refine z_callV (wn := (WRd X.2.1 x0 h0 h1 w0 w1 t r S1 o1 kp1 Q1 tx ln ps)) C kX5_remove gL_removes_X5_remove m1 dL_removes_202 [0, 1, 2, 3, 4, 5, 6, 7, 8, 9, 10, 11, 12, 13, 14, 15, 16, 17, 18, 19, 20, 21, 22, 23, 24, 25, 26, 27, 28, 29, 30, 31, 32, 33, 34, 35, 36, 37, 38, 39, 40, 41, 42, 43, 44, 45, 46, 47, 48, 49, 50] [] 0 rfl rfl nd_0_1_2_3_4_5_6_7_8_9_10_11_12_13_14_15_16_17_18_19_20_21_22_23_24_25_26_27_28_29_30_31_32_33_34_35_36_37_38_39_40_41_42_43_44_45_46_47_48_49_50 rfl rfl rfl (by decide) (by decide) (Nat.le_of_ble_eq_true rfl) rfl ((zput_par nd_0_1_2_3_4_5_6_7_8_9_10_11_12_13_14_15_16_17_18_19_20_21_22_23_24_25_26_27_28_29_30_31_32_33_34_35_36_37_38_39_40_41_42_43_44_45_46_47_48_49_50 rfl).trans rfl) ?_
    refine z_iload C dL_removes_205 rfl ?_
    refine z_ncmp_eq_t C 212 dL_removes_207 (by decide) (by omega) (by omega) (by omega) ?_
    refine z_iload C dL_removes_212 rfl ?_
    refine z_nif_ge_t C 234 dL_removes_214 (by decide) (by omega) (by trivial) ?_
    refine z_iload C dL_removes_234 rfl ?_
    refine z_nif_eq_t C 244 dL_removes_236 (by decide) (by omega) (by omega) ?_
    refine z_iconst C (nI 1) dL_removes_244 (by decide) ?_
    refine z_goto C 249 dL_removes_245 (by decide) ?_
    refine z_istore C dL_removes_249 (Nat.le_of_ble_eq_true rfl) ?_
    refine z_lv (lv' := [some (.ref x0), some (.int (nI au)), some (.int (nI 1)), some (.int g), some (.int (nI (uU S 1))), some (.int (nI (lw g (uU S 1)))), some (.int (nI (mK S))), some (.int (nI 0)), some (.int (nI (xI S 1 (lw g (uU S 1))))), some (.int (nI 0)), some (.int (nI 1)), some (.int (nI 1000)), some (.int (nI (((cnS S 3) + (nSt S 1 (lw g (uU S 1)))) + 1))), some (.int (nI 1))]) rfl ?_
    refine z_aload_n C 0 dL_removes_251 rfl rfl ?_
    refine z_iconst C (nI 0) dL_removes_252 (by decide) ?_
    refine z_iload_n C 2 dL_removes_253 rfl rfl ?_
    refine z_callVr C kX5_size gL_removes_X5_size (l_size0 X.2.1 x0 h0 w0 t S1 1 hG1 (by decide)) dL_removes_254 [0, 1, 2, 3, 4, 5, 6, 7, 8] [] 0 rfl nd_0_1_2_3_4_5_6_7_8 rfl rfl rfl (by decide) (by decide) (Nat.le_of_ble_eq_true rfl) rfl ?_
    refine z_iload C dL_removes_257 rfl ?_
    refine z_nif_eq_f C 269 dL_removes_259 (by decide) (by omega) (by omega) ?_
    refine z_iload C dL_removes_262 rfl ?_
    refine z_iconst C (nI 1) dL_removes_264 (by decide) ?_
    refine z_isub C dL_removes_265 ?_
    refine z_top (y := nI ((uU S 1) - 1)) ((pk_sub (by omega)).trans (congrArg nI (by omega))) ?_
    refine z_goto C 271 dL_removes_266 (by decide) ?_
    refine z_ncmp_ne_f C 309 dL_removes_271 (by decide) (by omega) (by omega) (by omega) ?_
    refine z_iload C dL_removes_274 rfl ?_
    refine z_nif_eq_f C 292 dL_removes_276 (by decide) (by omega) (by omega) ?_
    refine z_aload_n C 0 dL_removes_279 rfl rfl ?_
    refine z_iconst C (nI 4) dL_removes_280 (by decide) ?_
    refine z_callVr C kX5_count gL_removes_X5_count (l_cntK X.2.1 x0 h0 h1 w0 w1 t S1 o1 kp1 ln ps 3 hG1 (by decide)) dL_removes_281 [0, 1, 2, 3, 4, 5, 6, 7, 8, 9, 51] [] 0 rfl nd_0_1_2_3_4_5_6_7_8_9_51 rfl rfl rfl (by decide) (by decide) (Nat.le_of_ble_eq_true rfl) rfl ?_
    have hg_6 : cnS S1 3 ≤ mK S1 := zc_le _ _
    refine z_iload C dL_removes_284 rfl ?_
    refine z_ncmp_ne_f C 309 dL_removes_286 (by decide) (by omega) (by omega) (by omega) ?_
    refine z_goto C 305 dL_removes_289 (by decide) ?_
    refine z_iconst C (nI 1) dL_removes_305 (by decide) ?_
    refine z_goto C 310 dL_removes_306 (by decide) ?_
    exact z_zret C N dL_removes_310 rfl (rfl) (rfl)

set_option maxHeartbeats 4000000 in
set_option maxRecDepth 100000 in
theorem w_rem1u11 (E : zE) (x0 h0 h1 w0 w1 : Nat) (t : Nat → Nat) (r : Nat → Nat → Nat) (S S1 : zSt) (o kp kp1 o1 : Nat) (Q Q1 : Nat → zSt) (tx : Nat → Nat) (ln : Nat) (ps : zPs) {B B1 : Nat} (au : Nat) (g : Int32) (hG : GG S B) (hG1 : GG S1 B1) (hau : au < 4) (hz : 0 < uU S 1) (hN : Nw S 1 (lw g (uU S 1)) = true) (hD : Dm S 1 (lw g (uU S 1)) = true) (ht : tK S = false) (hu : uU S1 1 + 1 = uU S 1) (hc : cnS S1 3 = cnS S 3 + nSt S 1 (lw g (uU S 1)) + 1 + 1) (hc6 : cnS S1 3 ≤ 60) (m1 : zM E yX5_remove wsX5_remove 6 [.ref x0, .int (nI au), .int (nI 1), .int (nI (lw g (uU S 1)))] (WAd E x0 h0 h1 w0 t r S o kp Q) (WAd E x0 h0 h1 w0 t r S1 o1 kp1 Q1) (some (.int (nI 1000)))) : zM E yL_removes wsL_removes 7 [.ref x0, .int (nI au), .int (nI 1), .int g] (WRd E x0 h0 h1 w0 w1 t r S o kp Q tx ln ps) (WRd E x0 h0 h1 w0 w1 t r S1 o1 kp1 Q1 tx ln ps) (some (.int (nI 1))) := by
  refine zM.of kL_removes (Nat.le_of_ble_eq_true rfl) rfl [some (.ref x0), some (.int (nI au)), some (.int (nI 1)), some (.int g), none, none, none, none, none, none, none, none, none, none] rfl (Nat.le_of_ble_eq_true rfl) ?_
  intro X eX C N
  subst eX
  have hb0 : uU S 0 ≤ 12 := gg_u hG 0
  have hb1 : uU S 1 ≤ 8 := gg_u1 hG
  have hb2 : mK S ≤ 60 := gg_M hG
  have hb3 : uU S1 0 ≤ 12 := gg_u hG1 0
  have hb4 : uU S1 1 ≤ 8 := gg_u1 hG1
  have hb5 : mK S1 ≤ 60 := gg_M hG1
  have hxm : xI S 1 (lw g (uU S 1)) < mK S := (Nw_t hN).1
  have hxa : aN S (xI S 1 (lw g (uU S 1))) < 4 := (aN_e hG hxm).2
  have hxr : xR S 1 (lw g (uU S 1)) < mK S := (Dm_t hD).1
  refine z_aload_n C 0 dL_removes_0 rfl rfl ?_
  refine z_iconst C (nI 0) dL_removes_1 (by decide) ?_
  refine z_iload_n C 2 dL_removes_2 rfl rfl ?_
  refine z_callVr C kX5_size gL_removes_X5_size (l_size0 X.2.1 x0 h0 w0 t S 1 hG (by decide)) dL_removes_3 [0, 1, 2, 3, 4, 5, 6, 7, 8] [] 0 rfl nd_0_1_2_3_4_5_6_7_8 rfl rfl rfl (by decide) (by decide) (Nat.le_of_ble_eq_true rfl) rfl ?_
  refine z_istore C dL_removes_6 (Nat.le_of_ble_eq_true rfl) ?_
  refine z_lv (lv' := [some (.ref x0), some (.int (nI au)), some (.int (nI 1)), some (.int g), some (.int (nI (uU S 1))), none, none, none, none, none, none, none, none, none]) rfl ?_
  refine z_iload C dL_removes_8 rfl ?_
  refine z_nif_ne_t C 30 dL_removes_10 (by decide) (by omega) (by omega) ?_
  refine z_iload_n C 3 dL_removes_30 rfl rfl ?_
  refine z_iload C dL_removes_31 rfl ?_
  refine z_callS C kL_low gL_removes_L_low (l_low X.2.1 g (uU S 1) hz (by omega)) dL_removes_33 [] rfl (by decide) (by decide) (Nat.le_of_ble_eq_true rfl) rfl ?_
  have hg_1 : lw g (uU S 1) < (uU S 1) := lw_lt g (by omega)
  refine z_istore C dL_removes_36 (Nat.le_of_ble_eq_true rfl) ?_
  refine z_lv (lv' := [some (.ref x0), some (.int (nI au)), some (.int (nI 1)), some (.int g), some (.int (nI (uU S 1))), some (.int (nI (lw g (uU S 1)))), none, none, none, none, none, none, none, none]) rfl ?_
  refine z_aload_n C 0 dL_removes_38 rfl rfl ?_
  refine z_iconst C (nI 0) dL_removes_39 (by decide) ?_
  refine z_callVr C kX5_count gL_removes_X5_count (l_cnt0 X.2.1 x0 h0 h1 w0 w1 t S o kp ln ps  hG ) dL_removes_40 [0, 1, 2, 3, 4, 5, 6, 7, 8, 9, 51] [] 0 rfl nd_0_1_2_3_4_5_6_7_8_9_51 rfl rfl rfl (by decide) (by decide) (Nat.le_of_ble_eq_true rfl) rfl ?_
  refine z_istore C dL_removes_43 (Nat.le_of_ble_eq_true rfl) ?_
  refine z_lv (lv' := [some (.ref x0), some (.int (nI au)), some (.int (nI 1)), some (.int g), some (.int (nI (uU S 1))), some (.int (nI (lw g (uU S 1)))), some (.int (nI (mK S))), none, none, none, none, none, none, none]) rfl ?_
  refine z_aload_n C 0 dL_removes_45 rfl rfl ?_
  refine z_iconst C (nI 5) dL_removes_46 (by decide) ?_
  refine z_callVr C kX5_count gL_removes_X5_count (l_cnt5n X.2.1 x0 h0 h1 w0 w1 t S o kp ln ps  hG ht) dL_removes_47 [0, 1, 2, 3, 4, 5, 6, 7, 8, 9, 51] [] 0 rfl nd_0_1_2_3_4_5_6_7_8_9_51 rfl rfl rfl (by decide) (by decide) (Nat.le_of_ble_eq_true rfl) rfl ?_
  refine z_iconst C (nI 1) dL_removes_50 (by decide) ?_
  refine z_ncmp_ne_t C 58 dL_removes_51 (by decide) (by omega) (by omega) (by omega) ?_
  refine z_iconst C (nI 0) dL_removes_58 (by decide) ?_
  refine z_istore C dL_removes_59 (Nat.le_of_ble_eq_true rfl) ?_
  refine z_lv (lv' := [some (.ref x0), some (.int (nI au)), some (.int (nI 1)), some (.int g), some (.int (nI (uU S 1))), some (.int (nI (lw g (uU S 1)))), some (.int (nI (mK S))), some (.int (nI 0)), none, none, none, none, none, none]) rfl ?_
  refine z_aload_n C 0 dL_removes_61 rfl rfl ?_
  refine z_iload_n C 2 dL_removes_62 rfl rfl ?_
  refine z_iload C dL_removes_63 rfl ?_
  refine z_iconst C (nI 0) dL_removes_65 (by decide) ?_
  refine z_callVr C kX5_line gL_removes_X5_line (l_line0y X.2.1 x0 h0 w0 t S 1 (lw g (uU S 1)) hG (by decide) hg_1 hN) dL_removes_66 [0, 1, 2, 3, 4, 5, 6, 7, 8] [] 0 rfl nd_0_1_2_3_4_5_6_7_8 rfl rfl rfl (by decide) (by decide) (Nat.le_of_ble_eq_true rfl) rfl ?_
  refine z_istore C dL_removes_69 (Nat.le_of_ble_eq_true rfl) ?_
  refine z_lv (lv' := [some (.ref x0), some (.int (nI au)), some (.int (nI 1)), some (.int g), some (.int (nI (uU S 1))), some (.int (nI (lw g (uU S 1)))), some (.int (nI (mK S))), some (.int (nI 0)), some (.int (nI (xI S 1 (lw g (uU S 1))))), none, none, none, none, none]) rfl ?_
  refine z_aload_n C 0 dL_removes_71 rfl rfl ?_
  refine z_iload_n C 2 dL_removes_72 rfl rfl ?_
  refine z_iload C dL_removes_73 rfl ?_
  refine z_iconst C (nI 1) dL_removes_75 (by decide) ?_
  refine z_callVr C kX5_line gL_removes_X5_line (l_line1y X.2.1 x0 h0 w0 t S 1 (lw g (uU S 1)) hG (by decide) hg_1 hD) dL_removes_76 [0, 1, 2, 3, 4, 5, 6, 7, 8] [] 0 rfl nd_0_1_2_3_4_5_6_7_8 rfl rfl rfl (by decide) (by decide) (Nat.le_of_ble_eq_true rfl) rfl ?_
  refine z_nif_lt_f C 86 dL_removes_79 (by decide) (by omega) (by trivial) ?_
  refine z_iconst C (nI 1) dL_removes_82 (by decide) ?_
  refine z_goto C 87 dL_removes_83 (by decide) ?_
  refine z_istore C dL_removes_87 (Nat.le_of_ble_eq_true rfl) ?_
  refine z_lv (lv' := [some (.ref x0), some (.int (nI au)), some (.int (nI 1)), some (.int g), some (.int (nI (uU S 1))), some (.int (nI (lw g (uU S 1)))), some (.int (nI (mK S))), some (.int (nI 0)), some (.int (nI (xI S 1 (lw g (uU S 1))))), some (.int (nI 1)), none, none, none, none]) rfl ?_
  refine z_iload C dL_removes_89 rfl ?_
  refine z_nif_lt_f C 109 dL_removes_91 (by decide) (by omega) (by trivial) ?_
  refine z_aload_n C 0 dL_removes_94 rfl rfl ?_
  refine z_iload C dL_removes_95 rfl ?_
  refine z_iconst C (nI 1) dL_removes_97 (by decide) ?_
  refine z_callVr C kX5_change gL_removes_X5_change (l_chg1 X.2.1 x0 h0 w0 t S (xI S 1 (lw g (uU S 1))) hG hxm) dL_removes_98 [0, 1, 2, 3, 4, 5, 6, 7, 8] [] 0 rfl nd_0_1_2_3_4_5_6_7_8 rfl rfl rfl (by decide) (by decide) (Nat.le_of_ble_eq_true rfl) rfl ?_
  refine z_iload_n C 1 dL_removes_101 rfl rfl ?_
  refine z_ncmp_ne C 109 dL_removes_102 (by decide) (by omega) (by omega) (fun h_2 => ?_) (fun h_2 => ?_)
  · refine z_iconst C (nI 0) dL_removes_109 (by decide) ?_
    refine z_istore C dL_removes_110 (Nat.le_of_ble_eq_true rfl) ?_
    refine z_lv (lv' := [some (.ref x0), some (.int (nI au)), some (.int (nI 1)), some (.int g), some (.int (nI (uU S 1))), some (.int (nI (lw g (uU S 1)))), some (.int (nI (mK S))), some (.int (nI 0)), some (.int (nI (xI S 1 (lw g (uU S 1))))), some (.int (nI 1)), some (.int (nI 0)), none, none, none]) rfl ?_
    refine z_iload C dL_removes_112 rfl ?_
    refine z_nif_ne_f C 123 dL_removes_114 (by decide) (by omega) (by omega) ?_
    refine z_sipush C (nI 1000) dL_removes_117 (by decide) ?_
    refine z_goto C 157 dL_removes_120 (by decide) ?_
    refine z_istore C dL_removes_157 (Nat.le_of_ble_eq_true rfl) ?_
    refine z_lv (lv' := [some (.ref x0), some (.int (nI au)), some (.int (nI 1)), some (.int g), some (.int (nI (uU S 1))), some (.int (nI (lw g (uU S 1)))), some (.int (nI (mK S))), some (.int (nI 0)), some (.int (nI (xI S 1 (lw g (uU S 1))))), some (.int (nI 1)), some (.int (nI 0)), some (.int (nI 1000)), none, none]) rfl ?_
    refine z_aload_n C 0 dL_removes_159 rfl rfl ?_
    refine z_iconst C (nI 4) dL_removes_160 (by decide) ?_
    refine z_callVr C kX5_count gL_removes_X5_count (l_cntK X.2.1 x0 h0 h1 w0 w1 t S o kp ln ps 3 hG (by decide)) dL_removes_161 [0, 1, 2, 3, 4, 5, 6, 7, 8, 9, 51] [] 0 rfl nd_0_1_2_3_4_5_6_7_8_9_51 rfl rfl rfl (by decide) (by decide) (Nat.le_of_ble_eq_true rfl) rfl ?_
    have hg_3 : cnS S 3 ≤ mK S := zc_le _ _
    refine z_aload_n C 0 dL_removes_164 rfl rfl ?_
    refine z_iload_n C 2 dL_removes_165 rfl rfl ?_
    refine z_iload C dL_removes_166 rfl ?_
    refine z_iconst C (nI 4) dL_removes_168 (by decide) ?_
    refine z_callVr C kX5_line gL_removes_X5_line (l_line4 X.2.1 x0 h0 w0 t S 1 (lw g (uU S 1)) hG (by decide) hg_1) dL_removes_169 [0, 1, 2, 3, 4, 5, 6, 7, 8] [.int (nI (cnS S 3))] 0 rfl nd_0_1_2_3_4_5_6_7_8 rfl rfl rfl (by decide) (by decide) (Nat.le_of_ble_eq_true rfl) rfl ?_
    refine z_iadd C dL_removes_172 ?_
    refine z_top (y := nI ((cnS S 3) + (nSt S 1 (lw g (uU S 1))))) (nI_add _ _) ?_
    refine z_iload C dL_removes_173 rfl ?_
    refine z_nif_lt_f C 182 dL_removes_175 (by decide) (by omega) (by trivial) ?_
    refine z_iconst C (nI 1) dL_removes_178 (by decide) ?_
    refine z_goto C 183 dL_removes_179 (by decide) ?_
    refine z_iadd C dL_removes_183 ?_
    refine z_top (y := nI (((cnS S 3) + (nSt S 1 (lw g (uU S 1)))) + 1)) (nI_add _ _) ?_
    refine z_iload C dL_removes_184 rfl ?_
    refine z_nif_eq_f C 193 dL_removes_186 (by decide) (by omega) (by omega) ?_
    refine z_iconst C (nI 1) dL_removes_189 (by decide) ?_
    refine z_goto C 194 dL_removes_190 (by decide) ?_
    refine z_iadd C dL_removes_194 ?_
    refine z_top (y := nI (((cnS S 3) + (nSt S 1 (lw g (uU S 1)))) + 2)) (nI_add _ _) ?_
    refine z_istore C dL_removes_195 (Nat.le_of_ble_eq_true rfl) ?_
    refine z_lv (lv' := [some (.ref x0), some (.int (nI au)), some (.int (nI 1)), some (.int g), some (.int (nI (uU S 1))), some (.int (nI (lw g (uU S 1)))), some (.int (nI (mK S))), some (.int (nI 0)), some (.int (nI (xI S 1 (lw g (uU S 1))))), some (.int (nI 1)), some (.int (nI 0)), some (.int (nI 1000)), some (.int (nI (((cnS S 3) + (nSt S 1 (lw g (uU S 1)))) + 2))), none]) rfl ?_
    refine z_aload_n C 0 dL_removes_197 rfl rfl ?_
    refine z_iload_n C 1 dL_removes_198 rfl rfl ?_
    refine z_iload_n C 2 dL_removes_199 rfl rfl ?_
    refine z_iload C dL_removes_200 rfl ?_
    refine z_callV (wn := (WRd X.2.1 x0 h0 h1 w0 w1 t r S1 o1 kp1 Q1 tx ln ps)) C kX5_remove gL_removes_X5_remove m1 dL_removes_202 [0, 1, 2, 3, 4, 5, 6, 7, 8, 9, 10, 11, 12, 13, 14, 15, 16, 17, 18, 19, 20, 21, 22, 23, 24, 25, 26, 27, 28, 29, 30, 31, 32, 33, 34, 35, 36, 37, 38, 39, 40, 41, 42, 43, 44, 45, 46, 47, 48, 49, 50] [] 0 rfl rfl nd_0_1_2_3_4_5_6_7_8_9_10_11_12_13_14_15_16_17_18_19_20_21_22_23_24_25_26_27_28_29_30_31_32_33_34_35_36_37_38_39_40_41_42_43_44_45_46_47_48_49_50 rfl rfl rfl (by decide) (by decide) (Nat.le_of_ble_eq_true rfl) rfl ((zput_par nd_0_1_2_3_4_5_6_7_8_9_10_11_12_13_14_15_16_17_18_19_20_21_22_23_24_25_26_27_28_29_30_31_32_33_34_35_36_37_38_39_40_41_42_43_44_45_46_47_48_49_50 rfl).trans rfl) ?_
    refine z_iload C dL_removes_205 rfl ?_
    refine z_ncmp_eq_t C 212 dL_removes_207 (by decide) (by omega) (by omega) (by omega) ?_
    refine z_iload C dL_removes_212 rfl ?_
    refine z_nif_ge_t C 234 dL_removes_214 (by decide) (by omega) (by trivial) ?_
    refine z_iload C dL_removes_234 rfl ?_
    refine z_nif_eq_t C 244 dL_removes_236 (by decide) (by omega) (by omega) ?_
    refine z_iconst C (nI 1) dL_removes_244 (by decide) ?_
    refine z_goto C 249 dL_removes_245 (by decide) ?_
    refine z_istore C dL_removes_249 (Nat.le_of_ble_eq_true rfl) ?_
    refine z_lv (lv' := [some (.ref x0), some (.int (nI au)), some (.int (nI 1)), some (.int g), some (.int (nI (uU S 1))), some (.int (nI (lw g (uU S 1)))), some (.int (nI (mK S))), some (.int (nI 0)), some (.int (nI (xI S 1 (lw g (uU S 1))))), some (.int (nI 1)), some (.int (nI 0)), some (.int (nI 1000)), some (.int (nI (((cnS S 3) + (nSt S 1 (lw g (uU S 1)))) + 2))), some (.int (nI 1))]) rfl ?_
    refine z_aload_n C 0 dL_removes_251 rfl rfl ?_
    refine z_iconst C (nI 0) dL_removes_252 (by decide) ?_
    refine z_iload_n C 2 dL_removes_253 rfl rfl ?_
    refine z_callVr C kX5_size gL_removes_X5_size (l_size0 X.2.1 x0 h0 w0 t S1 1 hG1 (by decide)) dL_removes_254 [0, 1, 2, 3, 4, 5, 6, 7, 8] [] 0 rfl nd_0_1_2_3_4_5_6_7_8 rfl rfl rfl (by decide) (by decide) (Nat.le_of_ble_eq_true rfl) rfl ?_
    refine z_iload C dL_removes_257 rfl ?_
    refine z_nif_eq_f C 269 dL_removes_259 (by decide) (by omega) (by omega) ?_
    refine z_iload C dL_removes_262 rfl ?_
    refine z_iconst C (nI 1) dL_removes_264 (by decide) ?_
    refine z_isub C dL_removes_265 ?_
    refine z_top (y := nI ((uU S 1) - 1)) ((pk_sub (by omega)).trans (congrArg nI (by omega))) ?_
    refine z_goto C 271 dL_removes_266 (by decide) ?_
    refine z_ncmp_ne_f C 309 dL_removes_271 (by decide) (by omega) (by omega) (by omega) ?_
    refine z_iload C dL_removes_274 rfl ?_
    refine z_nif_eq_f C 292 dL_removes_276 (by decide) (by omega) (by omega) ?_
    refine z_aload_n C 0 dL_removes_279 rfl rfl ?_
    refine z_iconst C (nI 4) dL_removes_280 (by decide) ?_
    refine z_callVr C kX5_count gL_removes_X5_count (l_cntK X.2.1 x0 h0 h1 w0 w1 t S1 o1 kp1 ln ps 3 hG1 (by decide)) dL_removes_281 [0, 1, 2, 3, 4, 5, 6, 7, 8, 9, 51] [] 0 rfl nd_0_1_2_3_4_5_6_7_8_9_51 rfl rfl rfl (by decide) (by decide) (Nat.le_of_ble_eq_true rfl) rfl ?_
    have hg_4 : cnS S1 3 ≤ mK S1 := zc_le _ _
    refine z_iload C dL_removes_284 rfl ?_
    refine z_ncmp_ne_f C 309 dL_removes_286 (by decide) (by omega) (by omega) (by omega) ?_
    refine z_goto C 305 dL_removes_289 (by decide) ?_
    refine z_iconst C (nI 1) dL_removes_305 (by decide) ?_
    refine z_goto C 310 dL_removes_306 (by decide) ?_
    exact z_zret C N dL_removes_310 rfl (rfl) (rfl)
  · refine z_iconst C (nI 1) dL_removes_105 (by decide) ?_
    refine z_goto C 110 dL_removes_106 (by decide) ?_
    refine z_istore C dL_removes_110 (Nat.le_of_ble_eq_true rfl) ?_
    refine z_lv (lv' := [some (.ref x0), some (.int (nI au)), some (.int (nI 1)), some (.int g), some (.int (nI (uU S 1))), some (.int (nI (lw g (uU S 1)))), some (.int (nI (mK S))), some (.int (nI 0)), some (.int (nI (xI S 1 (lw g (uU S 1))))), some (.int (nI 1)), some (.int (nI 1)), none, none, none]) rfl ?_
    refine z_iload C dL_removes_112 rfl ?_
    refine z_nif_ne_f C 123 dL_removes_114 (by decide) (by omega) (by omega) ?_
    refine z_sipush C (nI 1000) dL_removes_117 (by decide) ?_
    refine z_goto C 157 dL_removes_120 (by decide) ?_
    refine z_istore C dL_removes_157 (Nat.le_of_ble_eq_true rfl) ?_
    refine z_lv (lv' := [some (.ref x0), some (.int (nI au)), some (.int (nI 1)), some (.int g), some (.int (nI (uU S 1))), some (.int (nI (lw g (uU S 1)))), some (.int (nI (mK S))), some (.int (nI 0)), some (.int (nI (xI S 1 (lw g (uU S 1))))), some (.int (nI 1)), some (.int (nI 1)), some (.int (nI 1000)), none, none]) rfl ?_
    refine z_aload_n C 0 dL_removes_159 rfl rfl ?_
    refine z_iconst C (nI 4) dL_removes_160 (by decide) ?_
    refine z_callVr C kX5_count gL_removes_X5_count (l_cntK X.2.1 x0 h0 h1 w0 w1 t S o kp ln ps 3 hG (by decide)) dL_removes_161 [0, 1, 2, 3, 4, 5, 6, 7, 8, 9, 51] [] 0 rfl nd_0_1_2_3_4_5_6_7_8_9_51 rfl rfl rfl (by decide) (by decide) (Nat.le_of_ble_eq_true rfl) rfl ?_
    have hg_5 : cnS S 3 ≤ mK S := zc_le _ _
    refine z_aload_n C 0 dL_removes_164 rfl rfl ?_
    refine z_iload_n C 2 dL_removes_165 rfl rfl ?_
    refine z_iload C dL_removes_166 rfl ?_
    refine z_iconst C (nI 4) dL_removes_168 (by decide) ?_
    refine z_callVr C kX5_line gL_removes_X5_line (l_line4 X.2.1 x0 h0 w0 t S 1 (lw g (uU S 1)) hG (by decide) hg_1) dL_removes_169 [0, 1, 2, 3, 4, 5, 6, 7, 8] [.int (nI (cnS S 3))] 0 rfl nd_0_1_2_3_4_5_6_7_8 rfl rfl rfl (by decide) (by decide) (Nat.le_of_ble_eq_true rfl) rfl ?_
    refine z_iadd C dL_removes_172 ?_
    refine z_top (y := nI ((cnS S 3) + (nSt S 1 (lw g (uU S 1))))) (nI_add _ _) ?_
    refine z_iload C dL_removes_173 rfl ?_
    refine z_nif_lt_f C 182 dL_removes_175 (by decide) (by omega) (by trivial) ?_
    refine z_iconst C (nI 1) dL_removes_178 (by decide) ?_
    refine z_goto C 183 dL_removes_179 (by decide) ?_
    refine z_iadd C dL_removes_183 ?_
    refine z_top (y := nI (((cnS S 3) + (nSt S 1 (lw g (uU S 1)))) + 1)) (nI_add _ _) ?_
    refine z_iload C dL_removes_184 rfl ?_
    refine z_nif_eq_f C 193 dL_removes_186 (by decide) (by omega) (by omega) ?_
    refine z_iconst C (nI 1) dL_removes_189 (by decide) ?_
    refine z_goto C 194 dL_removes_190 (by decide) ?_
    refine z_iadd C dL_removes_194 ?_
    refine z_top (y := nI (((cnS S 3) + (nSt S 1 (lw g (uU S 1)))) + 2)) (nI_add _ _) ?_
    refine z_istore C dL_removes_195 (Nat.le_of_ble_eq_true rfl) ?_
    refine z_lv (lv' := [some (.ref x0), some (.int (nI au)), some (.int (nI 1)), some (.int g), some (.int (nI (uU S 1))), some (.int (nI (lw g (uU S 1)))), some (.int (nI (mK S))), some (.int (nI 0)), some (.int (nI (xI S 1 (lw g (uU S 1))))), some (.int (nI 1)), some (.int (nI 1)), some (.int (nI 1000)), some (.int (nI (((cnS S 3) + (nSt S 1 (lw g (uU S 1)))) + 2))), none]) rfl ?_
    refine z_aload_n C 0 dL_removes_197 rfl rfl ?_
    refine z_iload_n C 1 dL_removes_198 rfl rfl ?_
    refine z_iload_n C 2 dL_removes_199 rfl rfl ?_
    refine z_iload C dL_removes_200 rfl ?_
    refine z_callV (wn := (WRd X.2.1 x0 h0 h1 w0 w1 t r S1 o1 kp1 Q1 tx ln ps)) C kX5_remove gL_removes_X5_remove m1 dL_removes_202 [0, 1, 2, 3, 4, 5, 6, 7, 8, 9, 10, 11, 12, 13, 14, 15, 16, 17, 18, 19, 20, 21, 22, 23, 24, 25, 26, 27, 28, 29, 30, 31, 32, 33, 34, 35, 36, 37, 38, 39, 40, 41, 42, 43, 44, 45, 46, 47, 48, 49, 50] [] 0 rfl rfl nd_0_1_2_3_4_5_6_7_8_9_10_11_12_13_14_15_16_17_18_19_20_21_22_23_24_25_26_27_28_29_30_31_32_33_34_35_36_37_38_39_40_41_42_43_44_45_46_47_48_49_50 rfl rfl rfl (by decide) (by decide) (Nat.le_of_ble_eq_true rfl) rfl ((zput_par nd_0_1_2_3_4_5_6_7_8_9_10_11_12_13_14_15_16_17_18_19_20_21_22_23_24_25_26_27_28_29_30_31_32_33_34_35_36_37_38_39_40_41_42_43_44_45_46_47_48_49_50 rfl).trans rfl) ?_
    refine z_iload C dL_removes_205 rfl ?_
    refine z_ncmp_eq_t C 212 dL_removes_207 (by decide) (by omega) (by omega) (by omega) ?_
    refine z_iload C dL_removes_212 rfl ?_
    refine z_nif_ge_t C 234 dL_removes_214 (by decide) (by omega) (by trivial) ?_
    refine z_iload C dL_removes_234 rfl ?_
    refine z_nif_eq_t C 244 dL_removes_236 (by decide) (by omega) (by omega) ?_
    refine z_iconst C (nI 1) dL_removes_244 (by decide) ?_
    refine z_goto C 249 dL_removes_245 (by decide) ?_
    refine z_istore C dL_removes_249 (Nat.le_of_ble_eq_true rfl) ?_
    refine z_lv (lv' := [some (.ref x0), some (.int (nI au)), some (.int (nI 1)), some (.int g), some (.int (nI (uU S 1))), some (.int (nI (lw g (uU S 1)))), some (.int (nI (mK S))), some (.int (nI 0)), some (.int (nI (xI S 1 (lw g (uU S 1))))), some (.int (nI 1)), some (.int (nI 1)), some (.int (nI 1000)), some (.int (nI (((cnS S 3) + (nSt S 1 (lw g (uU S 1)))) + 2))), some (.int (nI 1))]) rfl ?_
    refine z_aload_n C 0 dL_removes_251 rfl rfl ?_
    refine z_iconst C (nI 0) dL_removes_252 (by decide) ?_
    refine z_iload_n C 2 dL_removes_253 rfl rfl ?_
    refine z_callVr C kX5_size gL_removes_X5_size (l_size0 X.2.1 x0 h0 w0 t S1 1 hG1 (by decide)) dL_removes_254 [0, 1, 2, 3, 4, 5, 6, 7, 8] [] 0 rfl nd_0_1_2_3_4_5_6_7_8 rfl rfl rfl (by decide) (by decide) (Nat.le_of_ble_eq_true rfl) rfl ?_
    refine z_iload C dL_removes_257 rfl ?_
    refine z_nif_eq_f C 269 dL_removes_259 (by decide) (by omega) (by omega) ?_
    refine z_iload C dL_removes_262 rfl ?_
    refine z_iconst C (nI 1) dL_removes_264 (by decide) ?_
    refine z_isub C dL_removes_265 ?_
    refine z_top (y := nI ((uU S 1) - 1)) ((pk_sub (by omega)).trans (congrArg nI (by omega))) ?_
    refine z_goto C 271 dL_removes_266 (by decide) ?_
    refine z_ncmp_ne_f C 309 dL_removes_271 (by decide) (by omega) (by omega) (by omega) ?_
    refine z_iload C dL_removes_274 rfl ?_
    refine z_nif_eq_f C 292 dL_removes_276 (by decide) (by omega) (by omega) ?_
    refine z_aload_n C 0 dL_removes_279 rfl rfl ?_
    refine z_iconst C (nI 4) dL_removes_280 (by decide) ?_
    refine z_callVr C kX5_count gL_removes_X5_count (l_cntK X.2.1 x0 h0 h1 w0 w1 t S1 o1 kp1 ln ps 3 hG1 (by decide)) dL_removes_281 [0, 1, 2, 3, 4, 5, 6, 7, 8, 9, 51] [] 0 rfl nd_0_1_2_3_4_5_6_7_8_9_51 rfl rfl rfl (by decide) (by decide) (Nat.le_of_ble_eq_true rfl) rfl ?_
    have hg_6 : cnS S1 3 ≤ mK S1 := zc_le _ _
    refine z_iload C dL_removes_284 rfl ?_
    refine z_ncmp_ne_f C 309 dL_removes_286 (by decide) (by omega) (by omega) (by omega) ?_
    refine z_goto C 305 dL_removes_289 (by decide) ?_
    refine z_iconst C (nI 1) dL_removes_305 (by decide) ?_
    refine z_goto C 310 dL_removes_306 (by decide) ?_
    exact z_zret C N dL_removes_310 rfl (rfl) (rfl)

set_option maxHeartbeats 4000000 in
set_option maxRecDepth 100000 in
theorem w_rem1d1 (E : zE) (x0 h0 h1 w0 w1 : Nat) (t : Nat → Nat) (r : Nat → Nat → Nat) (S S1 : zSt) (o kp kp1 o1 : Nat) (Q Q1 : Nat → zSt) (tx : Nat → Nat) (ln : Nat) (ps : zPs) {B B1 : Nat} (au : Nat) (g : Int32) (hG : GG S B) (hG1 : GG S1 B1) (hau : au < 4) (hz : 0 < uU S 1) (hN : Nw S 1 (lw g (uU S 1)) = true) (hD : Dm S 1 (lw g (uU S 1)) = true) (ht : tK S = true) (hu : uU S1 1 = uU S 1) (m1 : zM E yX5_remove wsX5_remove 6 [.ref x0, .int (nI au), .int (nI 1), .int (nI (lw g (uU S 1)))] (WAd E x0 h0 h1 w0 t r S o kp Q) (WAd E x0 h0 h1 w0 t r S1 o1 kp1 Q1) (some (.int (-4)))) : zM E yL_removes wsL_removes 7 [.ref x0, .int (nI au), .int (nI 1), .int g] (WRd E x0 h0 h1 w0 w1 t r S o kp Q tx ln ps) (WRd E x0 h0 h1 w0 w1 t r S1 o1 kp1 Q1 tx ln ps) (some (.int (nI 1))) := by
  refine zM.of kL_removes (Nat.le_of_ble_eq_true rfl) rfl [some (.ref x0), some (.int (nI au)), some (.int (nI 1)), some (.int g), none, none, none, none, none, none, none, none, none, none] rfl (Nat.le_of_ble_eq_true rfl) ?_
  intro X eX C N
  subst eX
  have hb0 : uU S 0 ≤ 12 := gg_u hG 0
  have hb1 : uU S 1 ≤ 8 := gg_u1 hG
  have hb2 : mK S ≤ 60 := gg_M hG
  have hb3 : uU S1 0 ≤ 12 := gg_u hG1 0
  have hb4 : uU S1 1 ≤ 8 := gg_u1 hG1
  have hb5 : mK S1 ≤ 60 := gg_M hG1
  have hxm : xI S 1 (lw g (uU S 1)) < mK S := (Nw_t hN).1
  have hxa : aN S (xI S 1 (lw g (uU S 1))) < 4 := (aN_e hG hxm).2
  have hxr : xR S 1 (lw g (uU S 1)) < mK S := (Dm_t hD).1
  refine z_aload_n C 0 dL_removes_0 rfl rfl ?_
  refine z_iconst C (nI 0) dL_removes_1 (by decide) ?_
  refine z_iload_n C 2 dL_removes_2 rfl rfl ?_
  refine z_callVr C kX5_size gL_removes_X5_size (l_size0 X.2.1 x0 h0 w0 t S 1 hG (by decide)) dL_removes_3 [0, 1, 2, 3, 4, 5, 6, 7, 8] [] 0 rfl nd_0_1_2_3_4_5_6_7_8 rfl rfl rfl (by decide) (by decide) (Nat.le_of_ble_eq_true rfl) rfl ?_
  refine z_istore C dL_removes_6 (Nat.le_of_ble_eq_true rfl) ?_
  refine z_lv (lv' := [some (.ref x0), some (.int (nI au)), some (.int (nI 1)), some (.int g), some (.int (nI (uU S 1))), none, none, none, none, none, none, none, none, none]) rfl ?_
  refine z_iload C dL_removes_8 rfl ?_
  refine z_nif_ne_t C 30 dL_removes_10 (by decide) (by omega) (by omega) ?_
  refine z_iload_n C 3 dL_removes_30 rfl rfl ?_
  refine z_iload C dL_removes_31 rfl ?_
  refine z_callS C kL_low gL_removes_L_low (l_low X.2.1 g (uU S 1) hz (by omega)) dL_removes_33 [] rfl (by decide) (by decide) (Nat.le_of_ble_eq_true rfl) rfl ?_
  have hg_1 : lw g (uU S 1) < (uU S 1) := lw_lt g (by omega)
  refine z_istore C dL_removes_36 (Nat.le_of_ble_eq_true rfl) ?_
  refine z_lv (lv' := [some (.ref x0), some (.int (nI au)), some (.int (nI 1)), some (.int g), some (.int (nI (uU S 1))), some (.int (nI (lw g (uU S 1)))), none, none, none, none, none, none, none, none]) rfl ?_
  refine z_aload_n C 0 dL_removes_38 rfl rfl ?_
  refine z_iconst C (nI 0) dL_removes_39 (by decide) ?_
  refine z_callVr C kX5_count gL_removes_X5_count (l_cnt0 X.2.1 x0 h0 h1 w0 w1 t S o kp ln ps  hG ) dL_removes_40 [0, 1, 2, 3, 4, 5, 6, 7, 8, 9, 51] [] 0 rfl nd_0_1_2_3_4_5_6_7_8_9_51 rfl rfl rfl (by decide) (by decide) (Nat.le_of_ble_eq_true rfl) rfl ?_
  refine z_istore C dL_removes_43 (Nat.le_of_ble_eq_true rfl) ?_
  refine z_lv (lv' := [some (.ref x0), some (.int (nI au)), some (.int (nI 1)), some (.int g), some (.int (nI (uU S 1))), some (.int (nI (lw g (uU S 1)))), some (.int (nI (mK S))), none, none, none, none, none, none, none]) rfl ?_
  refine z_aload_n C 0 dL_removes_45 rfl rfl ?_
  refine z_iconst C (nI 5) dL_removes_46 (by decide) ?_
  refine z_callVr C kX5_count gL_removes_X5_count (l_cnt5y X.2.1 x0 h0 h1 w0 w1 t S o kp ln ps  hG ht) dL_removes_47 [0, 1, 2, 3, 4, 5, 6, 7, 8, 9, 51] [] 0 rfl nd_0_1_2_3_4_5_6_7_8_9_51 rfl rfl rfl (by decide) (by decide) (Nat.le_of_ble_eq_true rfl) rfl ?_
  refine z_iconst C (nI 1) dL_removes_50 (by decide) ?_
  refine z_ncmp_ne_f C 58 dL_removes_51 (by decide) (by omega) (by omega) (by omega) ?_
  refine z_iconst C (nI 1) dL_removes_54 (by decide) ?_
  refine z_goto C 59 dL_removes_55 (by decide) ?_
  refine z_istore C dL_removes_59 (Nat.le_of_ble_eq_true rfl) ?_
  refine z_lv (lv' := [some (.ref x0), some (.int (nI au)), some (.int (nI 1)), some (.int g), some (.int (nI (uU S 1))), some (.int (nI (lw g (uU S 1)))), some (.int (nI (mK S))), some (.int (nI 1)), none, none, none, none, none, none]) rfl ?_
  refine z_aload_n C 0 dL_removes_61 rfl rfl ?_
  refine z_iload_n C 2 dL_removes_62 rfl rfl ?_
  refine z_iload C dL_removes_63 rfl ?_
  refine z_iconst C (nI 0) dL_removes_65 (by decide) ?_
  refine z_callVr C kX5_line gL_removes_X5_line (l_line0y X.2.1 x0 h0 w0 t S 1 (lw g (uU S 1)) hG (by decide) hg_1 hN) dL_removes_66 [0, 1, 2, 3, 4, 5, 6, 7, 8] [] 0 rfl nd_0_1_2_3_4_5_6_7_8 rfl rfl rfl (by decide) (by decide) (Nat.le_of_ble_eq_true rfl) rfl ?_
  refine z_istore C dL_removes_69 (Nat.le_of_ble_eq_true rfl) ?_
  refine z_lv (lv' := [some (.ref x0), some (.int (nI au)), some (.int (nI 1)), some (.int g), some (.int (nI (uU S 1))), some (.int (nI (lw g (uU S 1)))), some (.int (nI (mK S))), some (.int (nI 1)), some (.int (nI (xI S 1 (lw g (uU S 1))))), none, none, none, none, none]) rfl ?_
  refine z_aload_n C 0 dL_removes_71 rfl rfl ?_
  refine z_iload_n C 2 dL_removes_72 rfl rfl ?_
  refine z_iload C dL_removes_73 rfl ?_
  refine z_iconst C (nI 1) dL_removes_75 (by decide) ?_
  refine z_callVr C kX5_line gL_removes_X5_line (l_line1y X.2.1 x0 h0 w0 t S 1 (lw g (uU S 1)) hG (by decide) hg_1 hD) dL_removes_76 [0, 1, 2, 3, 4, 5, 6, 7, 8] [] 0 rfl nd_0_1_2_3_4_5_6_7_8 rfl rfl rfl (by decide) (by decide) (Nat.le_of_ble_eq_true rfl) rfl ?_
  refine z_nif_lt_f C 86 dL_removes_79 (by decide) (by omega) (by trivial) ?_
  refine z_iconst C (nI 1) dL_removes_82 (by decide) ?_
  refine z_goto C 87 dL_removes_83 (by decide) ?_
  refine z_istore C dL_removes_87 (Nat.le_of_ble_eq_true rfl) ?_
  refine z_lv (lv' := [some (.ref x0), some (.int (nI au)), some (.int (nI 1)), some (.int g), some (.int (nI (uU S 1))), some (.int (nI (lw g (uU S 1)))), some (.int (nI (mK S))), some (.int (nI 1)), some (.int (nI (xI S 1 (lw g (uU S 1))))), some (.int (nI 1)), none, none, none, none]) rfl ?_
  refine z_iload C dL_removes_89 rfl ?_
  refine z_nif_lt_f C 109 dL_removes_91 (by decide) (by omega) (by trivial) ?_
  refine z_aload_n C 0 dL_removes_94 rfl rfl ?_
  refine z_iload C dL_removes_95 rfl ?_
  refine z_iconst C (nI 1) dL_removes_97 (by decide) ?_
  refine z_callVr C kX5_change gL_removes_X5_change (l_chg1 X.2.1 x0 h0 w0 t S (xI S 1 (lw g (uU S 1))) hG hxm) dL_removes_98 [0, 1, 2, 3, 4, 5, 6, 7, 8] [] 0 rfl nd_0_1_2_3_4_5_6_7_8 rfl rfl rfl (by decide) (by decide) (Nat.le_of_ble_eq_true rfl) rfl ?_
  refine z_iload_n C 1 dL_removes_101 rfl rfl ?_
  refine z_ncmp_ne C 109 dL_removes_102 (by decide) (by omega) (by omega) (fun h_2 => ?_) (fun h_2 => ?_)
  · refine z_iconst C (nI 0) dL_removes_109 (by decide) ?_
    refine z_istore C dL_removes_110 (Nat.le_of_ble_eq_true rfl) ?_
    refine z_lv (lv' := [some (.ref x0), some (.int (nI au)), some (.int (nI 1)), some (.int g), some (.int (nI (uU S 1))), some (.int (nI (lw g (uU S 1)))), some (.int (nI (mK S))), some (.int (nI 1)), some (.int (nI (xI S 1 (lw g (uU S 1))))), some (.int (nI 1)), some (.int (nI 0)), none, none, none]) rfl ?_
    refine z_iload C dL_removes_112 rfl ?_
    refine z_nif_ne_t C 123 dL_removes_114 (by decide) (by omega) (by omega) ?_
    refine z_iload C dL_removes_123 rfl ?_
    refine z_nif_eq_f C 133 dL_removes_125 (by decide) (by omega) (by omega) ?_
    refine z_bipush C (-4) dL_removes_128 (by decide) ?_
    refine z_goto C 157 dL_removes_130 (by decide) ?_
    refine z_istore C dL_removes_157 (Nat.le_of_ble_eq_true rfl) ?_
    refine z_lv (lv' := [some (.ref x0), some (.int (nI au)), some (.int (nI 1)), some (.int g), some (.int (nI (uU S 1))), some (.int (nI (lw g (uU S 1)))), some (.int (nI (mK S))), some (.int (nI 1)), some (.int (nI (xI S 1 (lw g (uU S 1))))), some (.int (nI 1)), some (.int (nI 0)), some (.int (-4)), none, none]) rfl ?_
    refine z_aload_n C 0 dL_removes_159 rfl rfl ?_
    refine z_iconst C (nI 4) dL_removes_160 (by decide) ?_
    refine z_callVr C kX5_count gL_removes_X5_count (l_cntK X.2.1 x0 h0 h1 w0 w1 t S o kp ln ps 3 hG (by decide)) dL_removes_161 [0, 1, 2, 3, 4, 5, 6, 7, 8, 9, 51] [] 0 rfl nd_0_1_2_3_4_5_6_7_8_9_51 rfl rfl rfl (by decide) (by decide) (Nat.le_of_ble_eq_true rfl) rfl ?_
    have hg_3 : cnS S 3 ≤ mK S := zc_le _ _
    refine z_aload_n C 0 dL_removes_164 rfl rfl ?_
    refine z_iload_n C 2 dL_removes_165 rfl rfl ?_
    refine z_iload C dL_removes_166 rfl ?_
    refine z_iconst C (nI 4) dL_removes_168 (by decide) ?_
    refine z_callVr C kX5_line gL_removes_X5_line (l_line4 X.2.1 x0 h0 w0 t S 1 (lw g (uU S 1)) hG (by decide) hg_1) dL_removes_169 [0, 1, 2, 3, 4, 5, 6, 7, 8] [.int (nI (cnS S 3))] 0 rfl nd_0_1_2_3_4_5_6_7_8 rfl rfl rfl (by decide) (by decide) (Nat.le_of_ble_eq_true rfl) rfl ?_
    refine z_iadd C dL_removes_172 ?_
    refine z_top (y := nI ((cnS S 3) + (nSt S 1 (lw g (uU S 1))))) (nI_add _ _) ?_
    refine z_iload C dL_removes_173 rfl ?_
    refine z_nif_lt_f C 182 dL_removes_175 (by decide) (by omega) (by trivial) ?_
    refine z_iconst C (nI 1) dL_removes_178 (by decide) ?_
    refine z_goto C 183 dL_removes_179 (by decide) ?_
    refine z_iadd C dL_removes_183 ?_
    refine z_top (y := nI (((cnS S 3) + (nSt S 1 (lw g (uU S 1)))) + 1)) (nI_add _ _) ?_
    refine z_iload C dL_removes_184 rfl ?_
    refine z_nif_eq_f C 193 dL_removes_186 (by decide) (by omega) (by omega) ?_
    refine z_iconst C (nI 1) dL_removes_189 (by decide) ?_
    refine z_goto C 194 dL_removes_190 (by decide) ?_
    refine z_iadd C dL_removes_194 ?_
    refine z_top (y := nI (((cnS S 3) + (nSt S 1 (lw g (uU S 1)))) + 2)) (nI_add _ _) ?_
    refine z_istore C dL_removes_195 (Nat.le_of_ble_eq_true rfl) ?_
    refine z_lv (lv' := [some (.ref x0), some (.int (nI au)), some (.int (nI 1)), some (.int g), some (.int (nI (uU S 1))), some (.int (nI (lw g (uU S 1)))), some (.int (nI (mK S))), some (.int (nI 1)), some (.int (nI (xI S 1 (lw g (uU S 1))))), some (.int (nI 1)), some (.int (nI 0)), some (.int (-4)), some (.int (nI (((cnS S 3) + (nSt S 1 (lw g (uU S 1)))) + 2))), none]) rfl ?_
    refine z_aload_n C 0 dL_removes_197 rfl rfl ?_
    refine z_iload_n C 1 dL_removes_198 rfl rfl ?_
    refine z_iload_n C 2 dL_removes_199 rfl rfl ?_
    refine z_iload C dL_removes_200 rfl ?_
    refine z_callV (wn := (WRd X.2.1 x0 h0 h1 w0 w1 t r S1 o1 kp1 Q1 tx ln ps)) C kX5_remove gL_removes_X5_remove m1 dL_removes_202 [0, 1, 2, 3, 4, 5, 6, 7, 8, 9, 10, 11, 12, 13, 14, 15, 16, 17, 18, 19, 20, 21, 22, 23, 24, 25, 26, 27, 28, 29, 30, 31, 32, 33, 34, 35, 36, 37, 38, 39, 40, 41, 42, 43, 44, 45, 46, 47, 48, 49, 50] [] 0 rfl rfl nd_0_1_2_3_4_5_6_7_8_9_10_11_12_13_14_15_16_17_18_19_20_21_22_23_24_25_26_27_28_29_30_31_32_33_34_35_36_37_38_39_40_41_42_43_44_45_46_47_48_49_50 rfl rfl rfl (by decide) (by decide) (Nat.le_of_ble_eq_true rfl) rfl ((zput_par nd_0_1_2_3_4_5_6_7_8_9_10_11_12_13_14_15_16_17_18_19_20_21_22_23_24_25_26_27_28_29_30_31_32_33_34_35_36_37_38_39_40_41_42_43_44_45_46_47_48_49_50 rfl).trans rfl) ?_
    refine z_iload C dL_removes_205 rfl ?_
    refine z_icmp_eq_t C 212 dL_removes_207 (by decide) rfl ?_
    refine z_iload C dL_removes_212 rfl ?_
    refine z_if_ge_f C 234 dL_removes_214 (by decide) (by decide) ?_
    refine z_aload_n C 0 dL_removes_217 rfl rfl ?_
    refine z_iconst C (nI 0) dL_removes_218 (by decide) ?_
    refine z_iload_n C 2 dL_removes_219 rfl rfl ?_
    refine z_callVr C kX5_size gL_removes_X5_size (l_size0 X.2.1 x0 h0 w0 t S1 1 hG1 (by decide)) dL_removes_220 [0, 1, 2, 3, 4, 5, 6, 7, 8] [] 0 rfl nd_0_1_2_3_4_5_6_7_8 rfl rfl rfl (by decide) (by decide) (Nat.le_of_ble_eq_true rfl) rfl ?_
    refine z_iload C dL_removes_223 rfl ?_
    refine z_ncmp_ne_f C 232 dL_removes_225 (by decide) (by omega) (by omega) (by omega) ?_
    refine z_iconst C (nI 1) dL_removes_228 (by decide) ?_
    refine z_goto C 233 dL_removes_229 (by decide) ?_
    exact z_zret C N dL_removes_233 rfl (rfl) (rfl)
  · refine z_iconst C (nI 1) dL_removes_105 (by decide) ?_
    refine z_goto C 110 dL_removes_106 (by decide) ?_
    refine z_istore C dL_removes_110 (Nat.le_of_ble_eq_true rfl) ?_
    refine z_lv (lv' := [some (.ref x0), some (.int (nI au)), some (.int (nI 1)), some (.int g), some (.int (nI (uU S 1))), some (.int (nI (lw g (uU S 1)))), some (.int (nI (mK S))), some (.int (nI 1)), some (.int (nI (xI S 1 (lw g (uU S 1))))), some (.int (nI 1)), some (.int (nI 1)), none, none, none]) rfl ?_
    refine z_iload C dL_removes_112 rfl ?_
    refine z_nif_ne_t C 123 dL_removes_114 (by decide) (by omega) (by omega) ?_
    refine z_iload C dL_removes_123 rfl ?_
    refine z_nif_eq_f C 133 dL_removes_125 (by decide) (by omega) (by omega) ?_
    refine z_bipush C (-4) dL_removes_128 (by decide) ?_
    refine z_goto C 157 dL_removes_130 (by decide) ?_
    refine z_istore C dL_removes_157 (Nat.le_of_ble_eq_true rfl) ?_
    refine z_lv (lv' := [some (.ref x0), some (.int (nI au)), some (.int (nI 1)), some (.int g), some (.int (nI (uU S 1))), some (.int (nI (lw g (uU S 1)))), some (.int (nI (mK S))), some (.int (nI 1)), some (.int (nI (xI S 1 (lw g (uU S 1))))), some (.int (nI 1)), some (.int (nI 1)), some (.int (-4)), none, none]) rfl ?_
    refine z_aload_n C 0 dL_removes_159 rfl rfl ?_
    refine z_iconst C (nI 4) dL_removes_160 (by decide) ?_
    refine z_callVr C kX5_count gL_removes_X5_count (l_cntK X.2.1 x0 h0 h1 w0 w1 t S o kp ln ps 3 hG (by decide)) dL_removes_161 [0, 1, 2, 3, 4, 5, 6, 7, 8, 9, 51] [] 0 rfl nd_0_1_2_3_4_5_6_7_8_9_51 rfl rfl rfl (by decide) (by decide) (Nat.le_of_ble_eq_true rfl) rfl ?_
    have hg_4 : cnS S 3 ≤ mK S := zc_le _ _
    refine z_aload_n C 0 dL_removes_164 rfl rfl ?_
    refine z_iload_n C 2 dL_removes_165 rfl rfl ?_
    refine z_iload C dL_removes_166 rfl ?_
    refine z_iconst C (nI 4) dL_removes_168 (by decide) ?_
    refine z_callVr C kX5_line gL_removes_X5_line (l_line4 X.2.1 x0 h0 w0 t S 1 (lw g (uU S 1)) hG (by decide) hg_1) dL_removes_169 [0, 1, 2, 3, 4, 5, 6, 7, 8] [.int (nI (cnS S 3))] 0 rfl nd_0_1_2_3_4_5_6_7_8 rfl rfl rfl (by decide) (by decide) (Nat.le_of_ble_eq_true rfl) rfl ?_
    refine z_iadd C dL_removes_172 ?_
    refine z_top (y := nI ((cnS S 3) + (nSt S 1 (lw g (uU S 1))))) (nI_add _ _) ?_
    refine z_iload C dL_removes_173 rfl ?_
    refine z_nif_lt_f C 182 dL_removes_175 (by decide) (by omega) (by trivial) ?_
    refine z_iconst C (nI 1) dL_removes_178 (by decide) ?_
    refine z_goto C 183 dL_removes_179 (by decide) ?_
    refine z_iadd C dL_removes_183 ?_
    refine z_top (y := nI (((cnS S 3) + (nSt S 1 (lw g (uU S 1)))) + 1)) (nI_add _ _) ?_
    refine z_iload C dL_removes_184 rfl ?_
    refine z_nif_eq_f C 193 dL_removes_186 (by decide) (by omega) (by omega) ?_
    refine z_iconst C (nI 1) dL_removes_189 (by decide) ?_
    refine z_goto C 194 dL_removes_190 (by decide) ?_
    refine z_iadd C dL_removes_194 ?_
    refine z_top (y := nI (((cnS S 3) + (nSt S 1 (lw g (uU S 1)))) + 2)) (nI_add _ _) ?_
    refine z_istore C dL_removes_195 (Nat.le_of_ble_eq_true rfl) ?_
    refine z_lv (lv' := [some (.ref x0), some (.int (nI au)), some (.int (nI 1)), some (.int g), some (.int (nI (uU S 1))), some (.int (nI (lw g (uU S 1)))), some (.int (nI (mK S))), some (.int (nI 1)), some (.int (nI (xI S 1 (lw g (uU S 1))))), some (.int (nI 1)), some (.int (nI 1)), some (.int (-4)), some (.int (nI (((cnS S 3) + (nSt S 1 (lw g (uU S 1)))) + 2))), none]) rfl ?_
    refine z_aload_n C 0 dL_removes_197 rfl rfl ?_
    refine z_iload_n C 1 dL_removes_198 rfl rfl ?_
    refine z_iload_n C 2 dL_removes_199 rfl rfl ?_
    refine z_iload C dL_removes_200 rfl ?_
    refine z_callV (wn := (WRd X.2.1 x0 h0 h1 w0 w1 t r S1 o1 kp1 Q1 tx ln ps)) C kX5_remove gL_removes_X5_remove m1 dL_removes_202 [0, 1, 2, 3, 4, 5, 6, 7, 8, 9, 10, 11, 12, 13, 14, 15, 16, 17, 18, 19, 20, 21, 22, 23, 24, 25, 26, 27, 28, 29, 30, 31, 32, 33, 34, 35, 36, 37, 38, 39, 40, 41, 42, 43, 44, 45, 46, 47, 48, 49, 50] [] 0 rfl rfl nd_0_1_2_3_4_5_6_7_8_9_10_11_12_13_14_15_16_17_18_19_20_21_22_23_24_25_26_27_28_29_30_31_32_33_34_35_36_37_38_39_40_41_42_43_44_45_46_47_48_49_50 rfl rfl rfl (by decide) (by decide) (Nat.le_of_ble_eq_true rfl) rfl ((zput_par nd_0_1_2_3_4_5_6_7_8_9_10_11_12_13_14_15_16_17_18_19_20_21_22_23_24_25_26_27_28_29_30_31_32_33_34_35_36_37_38_39_40_41_42_43_44_45_46_47_48_49_50 rfl).trans rfl) ?_
    refine z_iload C dL_removes_205 rfl ?_
    refine z_icmp_eq_t C 212 dL_removes_207 (by decide) rfl ?_
    refine z_iload C dL_removes_212 rfl ?_
    refine z_if_ge_f C 234 dL_removes_214 (by decide) (by decide) ?_
    refine z_aload_n C 0 dL_removes_217 rfl rfl ?_
    refine z_iconst C (nI 0) dL_removes_218 (by decide) ?_
    refine z_iload_n C 2 dL_removes_219 rfl rfl ?_
    refine z_callVr C kX5_size gL_removes_X5_size (l_size0 X.2.1 x0 h0 w0 t S1 1 hG1 (by decide)) dL_removes_220 [0, 1, 2, 3, 4, 5, 6, 7, 8] [] 0 rfl nd_0_1_2_3_4_5_6_7_8 rfl rfl rfl (by decide) (by decide) (Nat.le_of_ble_eq_true rfl) rfl ?_
    refine z_iload C dL_removes_223 rfl ?_
    refine z_ncmp_ne_f C 232 dL_removes_225 (by decide) (by omega) (by omega) (by omega) ?_
    refine z_iconst C (nI 1) dL_removes_228 (by decide) ?_
    refine z_goto C 233 dL_removes_229 (by decide) ?_
    exact z_zret C N dL_removes_233 rfl (rfl) (rfl)

set_option maxHeartbeats 4000000 in
set_option maxRecDepth 100000 in
theorem w_rem1o (E : zE) (x0 h0 h1 w0 w1 : Nat) (t : Nat → Nat) (r : Nat → Nat → Nat) (S S1 : zSt) (o kp kp1 o1 : Nat) (Q Q1 : Nat → zSt) (tx : Nat → Nat) (ln : Nat) (ps : zPs) {B B1 : Nat} (au : Nat) (g : Int32) (hG : GG S B) (hG1 : GG S1 B1) (hau : au < 4) (hz : 0 < uU S 1) (hN : Nw S 1 (lw g (uU S 1)) = true) (hD : Dm S 1 (lw g (uU S 1)) = false) (ht : tK S = true) (ho_ : aN S (xI S 1 (lw g (uU S 1))) = au) (hu : uU S1 1 + 1 = uU S 1) (hc : cnS S1 3 = cnS S 3 + nSt S 1 (lw g (uU S 1)) + 1) (hc6 : cnS S1 3 ≤ 60) (m1 : zM E yX5_remove wsX5_remove 6 [.ref x0, .int (nI au), .int (nI 1), .int (nI (lw g (uU S 1)))] (WAd E x0 h0 h1 w0 t r S o kp Q) (WAd E x0 h0 h1 w0 t r S1 o1 kp1 Q1) (some (.int (nI (xI S 1 (lw g (uU S 1))))))) : zM E yL_removes wsL_removes 7 [.ref x0, .int (nI au), .int (nI 1), .int g] (WRd E x0 h0 h1 w0 w1 t r S o kp Q tx ln ps) (WRd E x0 h0 h1 w0 w1 t r S1 o1 kp1 Q1 tx ln ps) (some (.int (nI 1))) := by
  refine zM.of kL_removes (Nat.le_of_ble_eq_true rfl) rfl [some (.ref x0), some (.int (nI au)), some (.int (nI 1)), some (.int g), none, none, none, none, none, none, none, none, none, none] rfl (Nat.le_of_ble_eq_true rfl) ?_
  intro X eX C N
  subst eX
  have hb0 : uU S 0 ≤ 12 := gg_u hG 0
  have hb1 : uU S 1 ≤ 8 := gg_u1 hG
  have hb2 : mK S ≤ 60 := gg_M hG
  have hb3 : uU S1 0 ≤ 12 := gg_u hG1 0
  have hb4 : uU S1 1 ≤ 8 := gg_u1 hG1
  have hb5 : mK S1 ≤ 60 := gg_M hG1
  have hxm : xI S 1 (lw g (uU S 1)) < mK S := (Nw_t hN).1
  have hxa : aN S (xI S 1 (lw g (uU S 1))) < 4 := (aN_e hG hxm).2
  refine z_aload_n C 0 dL_removes_0 rfl rfl ?_
  refine z_iconst C (nI 0) dL_removes_1 (by decide) ?_
  refine z_iload_n C 2 dL_removes_2 rfl rfl ?_
  refine z_callVr C kX5_size gL_removes_X5_size (l_size0 X.2.1 x0 h0 w0 t S 1 hG (by decide)) dL_removes_3 [0, 1, 2, 3, 4, 5, 6, 7, 8] [] 0 rfl nd_0_1_2_3_4_5_6_7_8 rfl rfl rfl (by decide) (by decide) (Nat.le_of_ble_eq_true rfl) rfl ?_
  refine z_istore C dL_removes_6 (Nat.le_of_ble_eq_true rfl) ?_
  refine z_lv (lv' := [some (.ref x0), some (.int (nI au)), some (.int (nI 1)), some (.int g), some (.int (nI (uU S 1))), none, none, none, none, none, none, none, none, none]) rfl ?_
  refine z_iload C dL_removes_8 rfl ?_
  refine z_nif_ne_t C 30 dL_removes_10 (by decide) (by omega) (by omega) ?_
  refine z_iload_n C 3 dL_removes_30 rfl rfl ?_
  refine z_iload C dL_removes_31 rfl ?_
  refine z_callS C kL_low gL_removes_L_low (l_low X.2.1 g (uU S 1) hz (by omega)) dL_removes_33 [] rfl (by decide) (by decide) (Nat.le_of_ble_eq_true rfl) rfl ?_
  have hg_1 : lw g (uU S 1) < (uU S 1) := lw_lt g (by omega)
  refine z_istore C dL_removes_36 (Nat.le_of_ble_eq_true rfl) ?_
  refine z_lv (lv' := [some (.ref x0), some (.int (nI au)), some (.int (nI 1)), some (.int g), some (.int (nI (uU S 1))), some (.int (nI (lw g (uU S 1)))), none, none, none, none, none, none, none, none]) rfl ?_
  refine z_aload_n C 0 dL_removes_38 rfl rfl ?_
  refine z_iconst C (nI 0) dL_removes_39 (by decide) ?_
  refine z_callVr C kX5_count gL_removes_X5_count (l_cnt0 X.2.1 x0 h0 h1 w0 w1 t S o kp ln ps  hG ) dL_removes_40 [0, 1, 2, 3, 4, 5, 6, 7, 8, 9, 51] [] 0 rfl nd_0_1_2_3_4_5_6_7_8_9_51 rfl rfl rfl (by decide) (by decide) (Nat.le_of_ble_eq_true rfl) rfl ?_
  refine z_istore C dL_removes_43 (Nat.le_of_ble_eq_true rfl) ?_
  refine z_lv (lv' := [some (.ref x0), some (.int (nI au)), some (.int (nI 1)), some (.int g), some (.int (nI (uU S 1))), some (.int (nI (lw g (uU S 1)))), some (.int (nI (mK S))), none, none, none, none, none, none, none]) rfl ?_
  refine z_aload_n C 0 dL_removes_45 rfl rfl ?_
  refine z_iconst C (nI 5) dL_removes_46 (by decide) ?_
  refine z_callVr C kX5_count gL_removes_X5_count (l_cnt5y X.2.1 x0 h0 h1 w0 w1 t S o kp ln ps  hG ht) dL_removes_47 [0, 1, 2, 3, 4, 5, 6, 7, 8, 9, 51] [] 0 rfl nd_0_1_2_3_4_5_6_7_8_9_51 rfl rfl rfl (by decide) (by decide) (Nat.le_of_ble_eq_true rfl) rfl ?_
  refine z_iconst C (nI 1) dL_removes_50 (by decide) ?_
  refine z_ncmp_ne_f C 58 dL_removes_51 (by decide) (by omega) (by omega) (by omega) ?_
  refine z_iconst C (nI 1) dL_removes_54 (by decide) ?_
  refine z_goto C 59 dL_removes_55 (by decide) ?_
  refine z_istore C dL_removes_59 (Nat.le_of_ble_eq_true rfl) ?_
  refine z_lv (lv' := [some (.ref x0), some (.int (nI au)), some (.int (nI 1)), some (.int g), some (.int (nI (uU S 1))), some (.int (nI (lw g (uU S 1)))), some (.int (nI (mK S))), some (.int (nI 1)), none, none, none, none, none, none]) rfl ?_
  refine z_aload_n C 0 dL_removes_61 rfl rfl ?_
  refine z_iload_n C 2 dL_removes_62 rfl rfl ?_
  refine z_iload C dL_removes_63 rfl ?_
  refine z_iconst C (nI 0) dL_removes_65 (by decide) ?_
  refine z_callVr C kX5_line gL_removes_X5_line (l_line0y X.2.1 x0 h0 w0 t S 1 (lw g (uU S 1)) hG (by decide) hg_1 hN) dL_removes_66 [0, 1, 2, 3, 4, 5, 6, 7, 8] [] 0 rfl nd_0_1_2_3_4_5_6_7_8 rfl rfl rfl (by decide) (by decide) (Nat.le_of_ble_eq_true rfl) rfl ?_
  refine z_istore C dL_removes_69 (Nat.le_of_ble_eq_true rfl) ?_
  refine z_lv (lv' := [some (.ref x0), some (.int (nI au)), some (.int (nI 1)), some (.int g), some (.int (nI (uU S 1))), some (.int (nI (lw g (uU S 1)))), some (.int (nI (mK S))), some (.int (nI 1)), some (.int (nI (xI S 1 (lw g (uU S 1))))), none, none, none, none, none]) rfl ?_
  refine z_aload_n C 0 dL_removes_71 rfl rfl ?_
  refine z_iload_n C 2 dL_removes_72 rfl rfl ?_
  refine z_iload C dL_removes_73 rfl ?_
  refine z_iconst C (nI 1) dL_removes_75 (by decide) ?_
  refine z_callVr C kX5_line gL_removes_X5_line (l_line1n X.2.1 x0 h0 w0 t S 1 (lw g (uU S 1)) hG (by decide) hg_1 hD) dL_removes_76 [0, 1, 2, 3, 4, 5, 6, 7, 8] [] 0 rfl nd_0_1_2_3_4_5_6_7_8 rfl rfl rfl (by decide) (by decide) (Nat.le_of_ble_eq_true rfl) rfl ?_
  refine z_if_lt_t C 86 dL_removes_79 (by decide) (by decide) ?_
  refine z_iconst C (nI 0) dL_removes_86 (by decide) ?_
  refine z_istore C dL_removes_87 (Nat.le_of_ble_eq_true rfl) ?_
  refine z_lv (lv' := [some (.ref x0), some (.int (nI au)), some (.int (nI 1)), some (.int g), some (.int (nI (uU S 1))), some (.int (nI (lw g (uU S 1)))), some (.int (nI (mK S))), some (.int (nI 1)), some (.int (nI (xI S 1 (lw g (uU S 1))))), some (.int (nI 0)), none, none, none, none]) rfl ?_
  refine z_iload C dL_removes_89 rfl ?_
  refine z_nif_lt_f C 109 dL_removes_91 (by decide) (by omega) (by trivial) ?_
  refine z_aload_n C 0 dL_removes_94 rfl rfl ?_
  refine z_iload C dL_removes_95 rfl ?_
  refine z_iconst C (nI 1) dL_removes_97 (by decide) ?_
  refine z_callVr C kX5_change gL_removes_X5_change (l_chg1 X.2.1 x0 h0 w0 t S (xI S 1 (lw g (uU S 1))) hG hxm) dL_removes_98 [0, 1, 2, 3, 4, 5, 6, 7, 8] [] 0 rfl nd_0_1_2_3_4_5_6_7_8 rfl rfl rfl (by decide) (by decide) (Nat.le_of_ble_eq_true rfl) rfl ?_
  refine z_iload_n C 1 dL_removes_101 rfl rfl ?_
  refine z_ncmp_ne_f C 109 dL_removes_102 (by decide) (by omega) (by omega) (by omega) ?_
  refine z_iconst C (nI 1) dL_removes_105 (by decide) ?_
  refine z_goto C 110 dL_removes_106 (by decide) ?_
  refine z_istore C dL_removes_110 (Nat.le_of_ble_eq_true rfl) ?_
  refine z_lv (lv' := [some (.ref x0), some (.int (nI au)), some (.int (nI 1)), some (.int g), some (.int (nI (uU S 1))), some (.int (nI (lw g (uU S 1)))), some (.int (nI (mK S))), some (.int (nI 1)), some (.int (nI (xI S 1 (lw g (uU S 1))))), some (.int (nI 0)), some (.int (nI 1)), none, none, none]) rfl ?_
  refine z_iload C dL_removes_112 rfl ?_
  refine z_nif_ne_t C 123 dL_removes_114 (by decide) (by omega) (by omega) ?_
  refine z_iload C dL_removes_123 rfl ?_
  refine z_nif_eq_t C 133 dL_removes_125 (by decide) (by omega) (by omega) ?_
  refine z_iload C dL_removes_133 rfl ?_
  refine z_nif_eq_f C 143 dL_removes_135 (by decide) (by omega) (by omega) ?_
  refine z_iload C dL_removes_138 rfl ?_
  refine z_goto C 157 dL_removes_140 (by decide) ?_
  refine z_istore C dL_removes_157 (Nat.le_of_ble_eq_true rfl) ?_
  refine z_lv (lv' := [some (.ref x0), some (.int (nI au)), some (.int (nI 1)), some (.int g), some (.int (nI (uU S 1))), some (.int (nI (lw g (uU S 1)))), some (.int (nI (mK S))), some (.int (nI 1)), some (.int (nI (xI S 1 (lw g (uU S 1))))), some (.int (nI 0)), some (.int (nI 1)), some (.int (nI (xI S 1 (lw g (uU S 1))))), none, none]) rfl ?_
  refine z_aload_n C 0 dL_removes_159 rfl rfl ?_
  refine z_iconst C (nI 4) dL_removes_160 (by decide) ?_
  refine z_callVr C kX5_count gL_removes_X5_count (l_cntK X.2.1 x0 h0 h1 w0 w1 t S o kp ln ps 3 hG (by decide)) dL_removes_161 [0, 1, 2, 3, 4, 5, 6, 7, 8, 9, 51] [] 0 rfl nd_0_1_2_3_4_5_6_7_8_9_51 rfl rfl rfl (by decide) (by decide) (Nat.le_of_ble_eq_true rfl) rfl ?_
  have hg_2 : cnS S 3 ≤ mK S := zc_le _ _
  refine z_aload_n C 0 dL_removes_164 rfl rfl ?_
  refine z_iload_n C 2 dL_removes_165 rfl rfl ?_
  refine z_iload C dL_removes_166 rfl ?_
  refine z_iconst C (nI 4) dL_removes_168 (by decide) ?_
  refine z_callVr C kX5_line gL_removes_X5_line (l_line4 X.2.1 x0 h0 w0 t S 1 (lw g (uU S 1)) hG (by decide) hg_1) dL_removes_169 [0, 1, 2, 3, 4, 5, 6, 7, 8] [.int (nI (cnS S 3))] 0 rfl nd_0_1_2_3_4_5_6_7_8 rfl rfl rfl (by decide) (by decide) (Nat.le_of_ble_eq_true rfl) rfl ?_
  refine z_iadd C dL_removes_172 ?_
  refine z_top (y := nI ((cnS S 3) + (nSt S 1 (lw g (uU S 1))))) (nI_add _ _) ?_
  refine z_iload C dL_removes_173 rfl ?_
  refine z_nif_lt_f C 182 dL_removes_175 (by decide) (by omega) (by trivial) ?_
  refine z_iconst C (nI 1) dL_removes_178 (by decide) ?_
  refine z_goto C 183 dL_removes_179 (by decide) ?_
  refine z_iadd C dL_removes_183 ?_
  refine z_top (y := nI (((cnS S 3) + (nSt S 1 (lw g (uU S 1)))) + 1)) (nI_add _ _) ?_
  refine z_iload C dL_removes_184 rfl ?_
  refine z_nif_eq_t C 193 dL_removes_186 (by decide) (by omega) (by omega) ?_
  refine z_iconst C (nI 0) dL_removes_193 (by decide) ?_
  refine z_iadd C dL_removes_194 ?_
  refine z_top (y := nI (((cnS S 3) + (nSt S 1 (lw g (uU S 1)))) + 1)) (nI_add _ _) ?_
  refine z_istore C dL_removes_195 (Nat.le_of_ble_eq_true rfl) ?_
  refine z_lv (lv' := [some (.ref x0), some (.int (nI au)), some (.int (nI 1)), some (.int g), some (.int (nI (uU S 1))), some (.int (nI (lw g (uU S 1)))), some (.int (nI (mK S))), some (.int (nI 1)), some (.int (nI (xI S 1 (lw g (uU S 1))))), some (.int (nI 0)), some (.int (nI 1)), some (.int (nI (xI S 1 (lw g (uU S 1))))), some (.int (nI (((cnS S 3) + (nSt S 1 (lw g (uU S 1)))) + 1))), none]) rfl ?_
  refine z_aload_n C 0 dL_removes_197 rfl rfl ?_
  refine z_iload_n C 1 dL_removes_198 rfl rfl ?_
  refine z_iload_n C 2 dL_removes_199 rfl rfl ?_
  refine z_iload C dL_removes_200 rfl ?_
  refine z_callV (wn := (WRd X.2.1 x0 h0 h1 w0 w1 t r S1 o1 kp1 Q1 tx ln ps)) C kX5_remove gL_removes_X5_remove m1 dL_removes_202 [0, 1, 2, 3, 4, 5, 6, 7, 8, 9, 10, 11, 12, 13, 14, 15, 16, 17, 18, 19, 20, 21, 22, 23, 24, 25, 26, 27, 28, 29, 30, 31, 32, 33, 34, 35, 36, 37, 38, 39, 40, 41, 42, 43, 44, 45, 46, 47, 48, 49, 50] [] 0 rfl rfl nd_0_1_2_3_4_5_6_7_8_9_10_11_12_13_14_15_16_17_18_19_20_21_22_23_24_25_26_27_28_29_30_31_32_33_34_35_36_37_38_39_40_41_42_43_44_45_46_47_48_49_50 rfl rfl rfl (by decide) (by decide) (Nat.le_of_ble_eq_true rfl) rfl ((zput_par nd_0_1_2_3_4_5_6_7_8_9_10_11_12_13_14_15_16_17_18_19_20_21_22_23_24_25_26_27_28_29_30_31_32_33_34_35_36_37_38_39_40_41_42_43_44_45_46_47_48_49_50 rfl).trans rfl) ?_
  refine z_iload C dL_removes_205 rfl ?_
  refine z_ncmp_eq_t C 212 dL_removes_207 (by decide) (by omega) (by omega) (by omega) ?_
  refine z_iload C dL_removes_212 rfl ?_
  refine z_nif_ge_t C 234 dL_removes_214 (by decide) (by omega) (by trivial) ?_
  refine z_iload C dL_removes_234 rfl ?_
  refine z_nif_eq_f C 244 dL_removes_236 (by decide) (by omega) (by omega) ?_
  refine z_iload C dL_removes_239 rfl ?_
  refine z_nif_eq_f C 248 dL_removes_241 (by decide) (by omega) (by omega) ?_
  refine z_iconst C (nI 1) dL_removes_244 (by decide) ?_
  refine z_goto C 249 dL_removes_245 (by decide) ?_
  refine z_istore C dL_removes_249 (Nat.le_of_ble_eq_true rfl) ?_
  refine z_lv (lv' := [some (.ref x0), some (.int (nI au)), some (.int (nI 1)), some (.int g), some (.int (nI (uU S 1))), some (.int (nI (lw g (uU S 1)))), some (.int (nI (mK S))), some (.int (nI 1)), some (.int (nI (xI S 1 (lw g (uU S 1))))), some (.int (nI 0)), some (.int (nI 1)), some (.int (nI (xI S 1 (lw g (uU S 1))))), some (.int (nI (((cnS S 3) + (nSt S 1 (lw g (uU S 1)))) + 1))), some (.int (nI 1))]) rfl ?_
  refine z_aload_n C 0 dL_removes_251 rfl rfl ?_
  refine z_iconst C (nI 0) dL_removes_252 (by decide) ?_
  refine z_iload_n C 2 dL_removes_253 rfl rfl ?_
  refine z_callVr C kX5_size gL_removes_X5_size (l_size0 X.2.1 x0 h0 w0 t S1 1 hG1 (by decide)) dL_removes_254 [0, 1, 2, 3, 4, 5, 6, 7, 8] [] 0 rfl nd_0_1_2_3_4_5_6_7_8 rfl rfl rfl (by decide) (by decide) (Nat.le_of_ble_eq_true rfl) rfl ?_
  refine z_iload C dL_removes_257 rfl ?_
  refine z_nif_eq_f C 269 dL_removes_259 (by decide) (by omega) (by omega) ?_
  refine z_iload C dL_removes_262 rfl ?_
  refine z_iconst C (nI 1) dL_removes_264 (by decide) ?_
  refine z_isub C dL_removes_265 ?_
  refine z_top (y := nI ((uU S 1) - 1)) ((pk_sub (by omega)).trans (congrArg nI (by omega))) ?_
  refine z_goto C 271 dL_removes_266 (by decide) ?_
  refine z_ncmp_ne_f C 309 dL_removes_271 (by decide) (by omega) (by omega) (by omega) ?_
  refine z_iload C dL_removes_274 rfl ?_
  refine z_nif_eq_f C 292 dL_removes_276 (by decide) (by omega) (by omega) ?_
  refine z_aload_n C 0 dL_removes_279 rfl rfl ?_
  refine z_iconst C (nI 4) dL_removes_280 (by decide) ?_
  refine z_callVr C kX5_count gL_removes_X5_count (l_cntK X.2.1 x0 h0 h1 w0 w1 t S1 o1 kp1 ln ps 3 hG1 (by decide)) dL_removes_281 [0, 1, 2, 3, 4, 5, 6, 7, 8, 9, 51] [] 0 rfl nd_0_1_2_3_4_5_6_7_8_9_51 rfl rfl rfl (by decide) (by decide) (Nat.le_of_ble_eq_true rfl) rfl ?_
  have hg_3 : cnS S1 3 ≤ mK S1 := zc_le _ _
  refine z_iload C dL_removes_284 rfl ?_
  refine z_ncmp_ne_f C 309 dL_removes_286 (by decide) (by omega) (by omega) (by omega) ?_
  refine z_goto C 305 dL_removes_289 (by decide) ?_
  refine z_iconst C (nI 1) dL_removes_305 (by decide) ?_
  refine z_goto C 310 dL_removes_306 (by decide) ?_
  exact z_zret C N dL_removes_310 rfl (rfl) (rfl)

set_option maxHeartbeats 4000000 in
set_option maxRecDepth 100000 in
theorem w_rem1f1 (E : zE) (x0 h0 h1 w0 w1 : Nat) (t : Nat → Nat) (r : Nat → Nat → Nat) (S S1 : zSt) (o kp kp1 o1 : Nat) (Q Q1 : Nat → zSt) (tx : Nat → Nat) (ln : Nat) (ps : zPs) {B B1 : Nat} (au : Nat) (g : Int32) (hG : GG S B) (hG1 : GG S1 B1) (hau : au < 4) (hz : 0 < uU S 1) (hN : Nw S 1 (lw g (uU S 1)) = true) (hD : Dm S 1 (lw g (uU S 1)) = false) (ht : tK S = true) (ho_ : aN S (xI S 1 (lw g (uU S 1))) ≠ au) (hm : mK S = 60) (hu : uU S1 1 = uU S 1) (m1 : zM E yX5_remove wsX5_remove 6 [.ref x0, .int (nI au), .int (nI 1), .int (nI (lw g (uU S 1)))] (WAd E x0 h0 h1 w0 t r S o kp Q) (WAd E x0 h0 h1 w0 t r S1 o1 kp1 Q1) (some (.int (-3)))) : zM E yL_removes wsL_removes 7 [.ref x0, .int (nI au), .int (nI 1), .int g] (WRd E x0 h0 h1 w0 w1 t r S o kp Q tx ln ps) (WRd E x0 h0 h1 w0 w1 t r S1 o1 kp1 Q1 tx ln ps) (some (.int (nI 1))) := by
  refine zM.of kL_removes (Nat.le_of_ble_eq_true rfl) rfl [some (.ref x0), some (.int (nI au)), some (.int (nI 1)), some (.int g), none, none, none, none, none, none, none, none, none, none] rfl (Nat.le_of_ble_eq_true rfl) ?_
  intro X eX C N
  subst eX
  have hb0 : uU S 0 ≤ 12 := gg_u hG 0
  have hb1 : uU S 1 ≤ 8 := gg_u1 hG
  have hb2 : mK S ≤ 60 := gg_M hG
  have hb3 : uU S1 0 ≤ 12 := gg_u hG1 0
  have hb4 : uU S1 1 ≤ 8 := gg_u1 hG1
  have hb5 : mK S1 ≤ 60 := gg_M hG1
  have hxm : xI S 1 (lw g (uU S 1)) < mK S := (Nw_t hN).1
  have hxa : aN S (xI S 1 (lw g (uU S 1))) < 4 := (aN_e hG hxm).2
  refine z_aload_n C 0 dL_removes_0 rfl rfl ?_
  refine z_iconst C (nI 0) dL_removes_1 (by decide) ?_
  refine z_iload_n C 2 dL_removes_2 rfl rfl ?_
  refine z_callVr C kX5_size gL_removes_X5_size (l_size0 X.2.1 x0 h0 w0 t S 1 hG (by decide)) dL_removes_3 [0, 1, 2, 3, 4, 5, 6, 7, 8] [] 0 rfl nd_0_1_2_3_4_5_6_7_8 rfl rfl rfl (by decide) (by decide) (Nat.le_of_ble_eq_true rfl) rfl ?_
  refine z_istore C dL_removes_6 (Nat.le_of_ble_eq_true rfl) ?_
  refine z_lv (lv' := [some (.ref x0), some (.int (nI au)), some (.int (nI 1)), some (.int g), some (.int (nI (uU S 1))), none, none, none, none, none, none, none, none, none]) rfl ?_
  refine z_iload C dL_removes_8 rfl ?_
  refine z_nif_ne_t C 30 dL_removes_10 (by decide) (by omega) (by omega) ?_
  refine z_iload_n C 3 dL_removes_30 rfl rfl ?_
  refine z_iload C dL_removes_31 rfl ?_
  refine z_callS C kL_low gL_removes_L_low (l_low X.2.1 g (uU S 1) hz (by omega)) dL_removes_33 [] rfl (by decide) (by decide) (Nat.le_of_ble_eq_true rfl) rfl ?_
  have hg_1 : lw g (uU S 1) < (uU S 1) := lw_lt g (by omega)
  refine z_istore C dL_removes_36 (Nat.le_of_ble_eq_true rfl) ?_
  refine z_lv (lv' := [some (.ref x0), some (.int (nI au)), some (.int (nI 1)), some (.int g), some (.int (nI (uU S 1))), some (.int (nI (lw g (uU S 1)))), none, none, none, none, none, none, none, none]) rfl ?_
  refine z_aload_n C 0 dL_removes_38 rfl rfl ?_
  refine z_iconst C (nI 0) dL_removes_39 (by decide) ?_
  refine z_callVr C kX5_count gL_removes_X5_count (l_cnt0 X.2.1 x0 h0 h1 w0 w1 t S o kp ln ps  hG ) dL_removes_40 [0, 1, 2, 3, 4, 5, 6, 7, 8, 9, 51] [] 0 rfl nd_0_1_2_3_4_5_6_7_8_9_51 rfl rfl rfl (by decide) (by decide) (Nat.le_of_ble_eq_true rfl) rfl ?_
  refine z_istore C dL_removes_43 (Nat.le_of_ble_eq_true rfl) ?_
  refine z_lv (lv' := [some (.ref x0), some (.int (nI au)), some (.int (nI 1)), some (.int g), some (.int (nI (uU S 1))), some (.int (nI (lw g (uU S 1)))), some (.int (nI (mK S))), none, none, none, none, none, none, none]) rfl ?_
  refine z_aload_n C 0 dL_removes_45 rfl rfl ?_
  refine z_iconst C (nI 5) dL_removes_46 (by decide) ?_
  refine z_callVr C kX5_count gL_removes_X5_count (l_cnt5y X.2.1 x0 h0 h1 w0 w1 t S o kp ln ps  hG ht) dL_removes_47 [0, 1, 2, 3, 4, 5, 6, 7, 8, 9, 51] [] 0 rfl nd_0_1_2_3_4_5_6_7_8_9_51 rfl rfl rfl (by decide) (by decide) (Nat.le_of_ble_eq_true rfl) rfl ?_
  refine z_iconst C (nI 1) dL_removes_50 (by decide) ?_
  refine z_ncmp_ne_f C 58 dL_removes_51 (by decide) (by omega) (by omega) (by omega) ?_
  refine z_iconst C (nI 1) dL_removes_54 (by decide) ?_
  refine z_goto C 59 dL_removes_55 (by decide) ?_
  refine z_istore C dL_removes_59 (Nat.le_of_ble_eq_true rfl) ?_
  refine z_lv (lv' := [some (.ref x0), some (.int (nI au)), some (.int (nI 1)), some (.int g), some (.int (nI (uU S 1))), some (.int (nI (lw g (uU S 1)))), some (.int (nI (mK S))), some (.int (nI 1)), none, none, none, none, none, none]) rfl ?_
  refine z_aload_n C 0 dL_removes_61 rfl rfl ?_
  refine z_iload_n C 2 dL_removes_62 rfl rfl ?_
  refine z_iload C dL_removes_63 rfl ?_
  refine z_iconst C (nI 0) dL_removes_65 (by decide) ?_
  refine z_callVr C kX5_line gL_removes_X5_line (l_line0y X.2.1 x0 h0 w0 t S 1 (lw g (uU S 1)) hG (by decide) hg_1 hN) dL_removes_66 [0, 1, 2, 3, 4, 5, 6, 7, 8] [] 0 rfl nd_0_1_2_3_4_5_6_7_8 rfl rfl rfl (by decide) (by decide) (Nat.le_of_ble_eq_true rfl) rfl ?_
  refine z_istore C dL_removes_69 (Nat.le_of_ble_eq_true rfl) ?_
  refine z_lv (lv' := [some (.ref x0), some (.int (nI au)), some (.int (nI 1)), some (.int g), some (.int (nI (uU S 1))), some (.int (nI (lw g (uU S 1)))), some (.int (nI (mK S))), some (.int (nI 1)), some (.int (nI (xI S 1 (lw g (uU S 1))))), none, none, none, none, none]) rfl ?_
  refine z_aload_n C 0 dL_removes_71 rfl rfl ?_
  refine z_iload_n C 2 dL_removes_72 rfl rfl ?_
  refine z_iload C dL_removes_73 rfl ?_
  refine z_iconst C (nI 1) dL_removes_75 (by decide) ?_
  refine z_callVr C kX5_line gL_removes_X5_line (l_line1n X.2.1 x0 h0 w0 t S 1 (lw g (uU S 1)) hG (by decide) hg_1 hD) dL_removes_76 [0, 1, 2, 3, 4, 5, 6, 7, 8] [] 0 rfl nd_0_1_2_3_4_5_6_7_8 rfl rfl rfl (by decide) (by decide) (Nat.le_of_ble_eq_true rfl) rfl ?_
  refine z_if_lt_t C 86 dL_removes_79 (by decide) (by decide) ?_
  refine z_iconst C (nI 0) dL_removes_86 (by decide) ?_
  refine z_istore C dL_removes_87 (Nat.le_of_ble_eq_true rfl) ?_
  refine z_lv (lv' := [some (.ref x0), some (.int (nI au)), some (.int (nI 1)), some (.int g), some (.int (nI (uU S 1))), some (.int (nI (lw g (uU S 1)))), some (.int (nI (mK S))), some (.int (nI 1)), some (.int (nI (xI S 1 (lw g (uU S 1))))), some (.int (nI 0)), none, none, none, none]) rfl ?_
  refine z_iload C dL_removes_89 rfl ?_
  refine z_nif_lt_f C 109 dL_removes_91 (by decide) (by omega) (by trivial) ?_
  refine z_aload_n C 0 dL_removes_94 rfl rfl ?_
  refine z_iload C dL_removes_95 rfl ?_
  refine z_iconst C (nI 1) dL_removes_97 (by decide) ?_
  refine z_callVr C kX5_change gL_removes_X5_change (l_chg1 X.2.1 x0 h0 w0 t S (xI S 1 (lw g (uU S 1))) hG hxm) dL_removes_98 [0, 1, 2, 3, 4, 5, 6, 7, 8] [] 0 rfl nd_0_1_2_3_4_5_6_7_8 rfl rfl rfl (by decide) (by decide) (Nat.le_of_ble_eq_true rfl) rfl ?_
  refine z_iload_n C 1 dL_removes_101 rfl rfl ?_
  refine z_ncmp_ne_t C 109 dL_removes_102 (by decide) (by omega) (by omega) (by omega) ?_
  refine z_iconst C (nI 0) dL_removes_109 (by decide) ?_
  refine z_istore C dL_removes_110 (Nat.le_of_ble_eq_true rfl) ?_
  refine z_lv (lv' := [some (.ref x0), some (.int (nI au)), some (.int (nI 1)), some (.int g), some (.int (nI (uU S 1))), some (.int (nI (lw g (uU S 1)))), some (.int (nI (mK S))), some (.int (nI 1)), some (.int (nI (xI S 1 (lw g (uU S 1))))), some (.int (nI 0)), some (.int (nI 0)), none, none, none]) rfl ?_
  refine z_iload C dL_removes_112 rfl ?_
  refine z_nif_ne_t C 123 dL_removes_114 (by decide) (by omega) (by omega) ?_
  refine z_iload C dL_removes_123 rfl ?_
  refine z_nif_eq_t C 133 dL_removes_125 (by decide) (by omega) (by omega) ?_
  refine z_iload C dL_removes_133 rfl ?_
  refine z_nif_eq_t C 143 dL_removes_135 (by decide) (by omega) (by omega) ?_
  refine z_iload C dL_removes_143 rfl ?_
  refine z_bipush C (nI 60) dL_removes_145 (by decide) ?_
  refine z_ncmp_ne_f C 155 dL_removes_147 (by decide) (by omega) (by omega) (by omega) ?_
  refine z_bipush C (-3) dL_removes_150 (by decide) ?_
  refine z_goto C 157 dL_removes_152 (by decide) ?_
  refine z_istore C dL_removes_157 (Nat.le_of_ble_eq_true rfl) ?_
  refine z_lv (lv' := [some (.ref x0), some (.int (nI au)), some (.int (nI 1)), some (.int g), some (.int (nI (uU S 1))), some (.int (nI (lw g (uU S 1)))), some (.int (nI (mK S))), some (.int (nI 1)), some (.int (nI (xI S 1 (lw g (uU S 1))))), some (.int (nI 0)), some (.int (nI 0)), some (.int (-3)), none, none]) rfl ?_
  refine z_aload_n C 0 dL_removes_159 rfl rfl ?_
  refine z_iconst C (nI 4) dL_removes_160 (by decide) ?_
  refine z_callVr C kX5_count gL_removes_X5_count (l_cntK X.2.1 x0 h0 h1 w0 w1 t S o kp ln ps 3 hG (by decide)) dL_removes_161 [0, 1, 2, 3, 4, 5, 6, 7, 8, 9, 51] [] 0 rfl nd_0_1_2_3_4_5_6_7_8_9_51 rfl rfl rfl (by decide) (by decide) (Nat.le_of_ble_eq_true rfl) rfl ?_
  have hg_2 : cnS S 3 ≤ mK S := zc_le _ _
  refine z_aload_n C 0 dL_removes_164 rfl rfl ?_
  refine z_iload_n C 2 dL_removes_165 rfl rfl ?_
  refine z_iload C dL_removes_166 rfl ?_
  refine z_iconst C (nI 4) dL_removes_168 (by decide) ?_
  refine z_callVr C kX5_line gL_removes_X5_line (l_line4 X.2.1 x0 h0 w0 t S 1 (lw g (uU S 1)) hG (by decide) hg_1) dL_removes_169 [0, 1, 2, 3, 4, 5, 6, 7, 8] [.int (nI (cnS S 3))] 0 rfl nd_0_1_2_3_4_5_6_7_8 rfl rfl rfl (by decide) (by decide) (Nat.le_of_ble_eq_true rfl) rfl ?_
  refine z_iadd C dL_removes_172 ?_
  refine z_top (y := nI ((cnS S 3) + (nSt S 1 (lw g (uU S 1))))) (nI_add _ _) ?_
  refine z_iload C dL_removes_173 rfl ?_
  refine z_nif_lt_f C 182 dL_removes_175 (by decide) (by omega) (by trivial) ?_
  refine z_iconst C (nI 1) dL_removes_178 (by decide) ?_
  refine z_goto C 183 dL_removes_179 (by decide) ?_
  refine z_iadd C dL_removes_183 ?_
  refine z_top (y := nI (((cnS S 3) + (nSt S 1 (lw g (uU S 1)))) + 1)) (nI_add _ _) ?_
  refine z_iload C dL_removes_184 rfl ?_
  refine z_nif_eq_t C 193 dL_removes_186 (by decide) (by omega) (by omega) ?_
  refine z_iconst C (nI 0) dL_removes_193 (by decide) ?_
  refine z_iadd C dL_removes_194 ?_
  refine z_top (y := nI (((cnS S 3) + (nSt S 1 (lw g (uU S 1)))) + 1)) (nI_add _ _) ?_
  refine z_istore C dL_removes_195 (Nat.le_of_ble_eq_true rfl) ?_
  refine z_lv (lv' := [some (.ref x0), some (.int (nI au)), some (.int (nI 1)), some (.int g), some (.int (nI (uU S 1))), some (.int (nI (lw g (uU S 1)))), some (.int (nI (mK S))), some (.int (nI 1)), some (.int (nI (xI S 1 (lw g (uU S 1))))), some (.int (nI 0)), some (.int (nI 0)), some (.int (-3)), some (.int (nI (((cnS S 3) + (nSt S 1 (lw g (uU S 1)))) + 1))), none]) rfl ?_
  refine z_aload_n C 0 dL_removes_197 rfl rfl ?_
  refine z_iload_n C 1 dL_removes_198 rfl rfl ?_
  refine z_iload_n C 2 dL_removes_199 rfl rfl ?_
  refine z_iload C dL_removes_200 rfl ?_
  refine z_callV (wn := (WRd X.2.1 x0 h0 h1 w0 w1 t r S1 o1 kp1 Q1 tx ln ps)) C kX5_remove gL_removes_X5_remove m1 dL_removes_202 [0, 1, 2, 3, 4, 5, 6, 7, 8, 9, 10, 11, 12, 13, 14, 15, 16, 17, 18, 19, 20, 21, 22, 23, 24, 25, 26, 27, 28, 29, 30, 31, 32, 33, 34, 35, 36, 37, 38, 39, 40, 41, 42, 43, 44, 45, 46, 47, 48, 49, 50] [] 0 rfl rfl nd_0_1_2_3_4_5_6_7_8_9_10_11_12_13_14_15_16_17_18_19_20_21_22_23_24_25_26_27_28_29_30_31_32_33_34_35_36_37_38_39_40_41_42_43_44_45_46_47_48_49_50 rfl rfl rfl (by decide) (by decide) (Nat.le_of_ble_eq_true rfl) rfl ((zput_par nd_0_1_2_3_4_5_6_7_8_9_10_11_12_13_14_15_16_17_18_19_20_21_22_23_24_25_26_27_28_29_30_31_32_33_34_35_36_37_38_39_40_41_42_43_44_45_46_47_48_49_50 rfl).trans rfl) ?_
  refine z_iload C dL_removes_205 rfl ?_
  refine z_icmp_eq_t C 212 dL_removes_207 (by decide) rfl ?_
  refine z_iload C dL_removes_212 rfl ?_
  refine z_if_ge_f C 234 dL_removes_214 (by decide) (by decide) ?_
  refine z_aload_n C 0 dL_removes_217 rfl rfl ?_
  refine z_iconst C (nI 0) dL_removes_218 (by decide) ?_
  refine z_iload_n C 2 dL_removes_219 rfl rfl ?_
  refine z_callVr C kX5_size gL_removes_X5_size (l_size0 X.2.1 x0 h0 w0 t S1 1 hG1 (by decide)) dL_removes_220 [0, 1, 2, 3, 4, 5, 6, 7, 8] [] 0 rfl nd_0_1_2_3_4_5_6_7_8 rfl rfl rfl (by decide) (by decide) (Nat.le_of_ble_eq_true rfl) rfl ?_
  refine z_iload C dL_removes_223 rfl ?_
  refine z_ncmp_ne_f C 232 dL_removes_225 (by decide) (by omega) (by omega) (by omega) ?_
  refine z_iconst C (nI 1) dL_removes_228 (by decide) ?_
  refine z_goto C 233 dL_removes_229 (by decide) ?_
  exact z_zret C N dL_removes_233 rfl (rfl) (rfl)

set_option maxHeartbeats 4000000 in
set_option maxRecDepth 100000 in
theorem w_rem1t1 (E : zE) (x0 h0 h1 w0 w1 : Nat) (t : Nat → Nat) (r : Nat → Nat → Nat) (S S1 : zSt) (o kp kp1 o1 : Nat) (Q Q1 : Nat → zSt) (tx : Nat → Nat) (ln : Nat) (ps : zPs) {B B1 : Nat} (au : Nat) (g : Int32) (hG : GG S B) (hG1 : GG S1 B1) (hau : au < 4) (hz : 0 < uU S 1) (hN : Nw S 1 (lw g (uU S 1)) = true) (hD : Dm S 1 (lw g (uU S 1)) = false) (ht : tK S = true) (ho_ : aN S (xI S 1 (lw g (uU S 1))) ≠ au) (hm : mK S < 60) (hu : uU S1 1 = uU S 1) (hD1 : Dm S1 1 (lw g (uU S 1)) = true) (hx1 : xR S1 1 (lw g (uU S 1)) = mK S) (m1 : zM E yX5_remove wsX5_remove 6 [.ref x0, .int (nI au), .int (nI 1), .int (nI (lw g (uU S 1)))] (WAd E x0 h0 h1 w0 t r S o kp Q) (WAd E x0 h0 h1 w0 t r S1 o1 kp1 Q1) (some (.int (nI (mK S))))) : zM E yL_removes wsL_removes 7 [.ref x0, .int (nI au), .int (nI 1), .int g] (WRd E x0 h0 h1 w0 w1 t r S o kp Q tx ln ps) (WRd E x0 h0 h1 w0 w1 t r S1 o1 kp1 Q1 tx ln ps) (some (.int (nI 1))) := by
  refine zM.of kL_removes (Nat.le_of_ble_eq_true rfl) rfl [some (.ref x0), some (.int (nI au)), some (.int (nI 1)), some (.int g), none, none, none, none, none, none, none, none, none, none] rfl (Nat.le_of_ble_eq_true rfl) ?_
  intro X eX C N
  subst eX
  have hb0 : uU S 0 ≤ 12 := gg_u hG 0
  have hb1 : uU S 1 ≤ 8 := gg_u1 hG
  have hb2 : mK S ≤ 60 := gg_M hG
  have hb3 : uU S1 0 ≤ 12 := gg_u hG1 0
  have hb4 : uU S1 1 ≤ 8 := gg_u1 hG1
  have hb5 : mK S1 ≤ 60 := gg_M hG1
  have hxm : xI S 1 (lw g (uU S 1)) < mK S := (Nw_t hN).1
  have hxa : aN S (xI S 1 (lw g (uU S 1))) < 4 := (aN_e hG hxm).2
  refine z_aload_n C 0 dL_removes_0 rfl rfl ?_
  refine z_iconst C (nI 0) dL_removes_1 (by decide) ?_
  refine z_iload_n C 2 dL_removes_2 rfl rfl ?_
  refine z_callVr C kX5_size gL_removes_X5_size (l_size0 X.2.1 x0 h0 w0 t S 1 hG (by decide)) dL_removes_3 [0, 1, 2, 3, 4, 5, 6, 7, 8] [] 0 rfl nd_0_1_2_3_4_5_6_7_8 rfl rfl rfl (by decide) (by decide) (Nat.le_of_ble_eq_true rfl) rfl ?_
  refine z_istore C dL_removes_6 (Nat.le_of_ble_eq_true rfl) ?_
  refine z_lv (lv' := [some (.ref x0), some (.int (nI au)), some (.int (nI 1)), some (.int g), some (.int (nI (uU S 1))), none, none, none, none, none, none, none, none, none]) rfl ?_
  refine z_iload C dL_removes_8 rfl ?_
  refine z_nif_ne_t C 30 dL_removes_10 (by decide) (by omega) (by omega) ?_
  refine z_iload_n C 3 dL_removes_30 rfl rfl ?_
  refine z_iload C dL_removes_31 rfl ?_
  refine z_callS C kL_low gL_removes_L_low (l_low X.2.1 g (uU S 1) hz (by omega)) dL_removes_33 [] rfl (by decide) (by decide) (Nat.le_of_ble_eq_true rfl) rfl ?_
  have hg_1 : lw g (uU S 1) < (uU S 1) := lw_lt g (by omega)
  refine z_istore C dL_removes_36 (Nat.le_of_ble_eq_true rfl) ?_
  refine z_lv (lv' := [some (.ref x0), some (.int (nI au)), some (.int (nI 1)), some (.int g), some (.int (nI (uU S 1))), some (.int (nI (lw g (uU S 1)))), none, none, none, none, none, none, none, none]) rfl ?_
  refine z_aload_n C 0 dL_removes_38 rfl rfl ?_
  refine z_iconst C (nI 0) dL_removes_39 (by decide) ?_
  refine z_callVr C kX5_count gL_removes_X5_count (l_cnt0 X.2.1 x0 h0 h1 w0 w1 t S o kp ln ps  hG ) dL_removes_40 [0, 1, 2, 3, 4, 5, 6, 7, 8, 9, 51] [] 0 rfl nd_0_1_2_3_4_5_6_7_8_9_51 rfl rfl rfl (by decide) (by decide) (Nat.le_of_ble_eq_true rfl) rfl ?_
  refine z_istore C dL_removes_43 (Nat.le_of_ble_eq_true rfl) ?_
  refine z_lv (lv' := [some (.ref x0), some (.int (nI au)), some (.int (nI 1)), some (.int g), some (.int (nI (uU S 1))), some (.int (nI (lw g (uU S 1)))), some (.int (nI (mK S))), none, none, none, none, none, none, none]) rfl ?_
  refine z_aload_n C 0 dL_removes_45 rfl rfl ?_
  refine z_iconst C (nI 5) dL_removes_46 (by decide) ?_
  refine z_callVr C kX5_count gL_removes_X5_count (l_cnt5y X.2.1 x0 h0 h1 w0 w1 t S o kp ln ps  hG ht) dL_removes_47 [0, 1, 2, 3, 4, 5, 6, 7, 8, 9, 51] [] 0 rfl nd_0_1_2_3_4_5_6_7_8_9_51 rfl rfl rfl (by decide) (by decide) (Nat.le_of_ble_eq_true rfl) rfl ?_
  refine z_iconst C (nI 1) dL_removes_50 (by decide) ?_
  refine z_ncmp_ne_f C 58 dL_removes_51 (by decide) (by omega) (by omega) (by omega) ?_
  refine z_iconst C (nI 1) dL_removes_54 (by decide) ?_
  refine z_goto C 59 dL_removes_55 (by decide) ?_
  refine z_istore C dL_removes_59 (Nat.le_of_ble_eq_true rfl) ?_
  refine z_lv (lv' := [some (.ref x0), some (.int (nI au)), some (.int (nI 1)), some (.int g), some (.int (nI (uU S 1))), some (.int (nI (lw g (uU S 1)))), some (.int (nI (mK S))), some (.int (nI 1)), none, none, none, none, none, none]) rfl ?_
  refine z_aload_n C 0 dL_removes_61 rfl rfl ?_
  refine z_iload_n C 2 dL_removes_62 rfl rfl ?_
  refine z_iload C dL_removes_63 rfl ?_
  refine z_iconst C (nI 0) dL_removes_65 (by decide) ?_
  refine z_callVr C kX5_line gL_removes_X5_line (l_line0y X.2.1 x0 h0 w0 t S 1 (lw g (uU S 1)) hG (by decide) hg_1 hN) dL_removes_66 [0, 1, 2, 3, 4, 5, 6, 7, 8] [] 0 rfl nd_0_1_2_3_4_5_6_7_8 rfl rfl rfl (by decide) (by decide) (Nat.le_of_ble_eq_true rfl) rfl ?_
  refine z_istore C dL_removes_69 (Nat.le_of_ble_eq_true rfl) ?_
  refine z_lv (lv' := [some (.ref x0), some (.int (nI au)), some (.int (nI 1)), some (.int g), some (.int (nI (uU S 1))), some (.int (nI (lw g (uU S 1)))), some (.int (nI (mK S))), some (.int (nI 1)), some (.int (nI (xI S 1 (lw g (uU S 1))))), none, none, none, none, none]) rfl ?_
  refine z_aload_n C 0 dL_removes_71 rfl rfl ?_
  refine z_iload_n C 2 dL_removes_72 rfl rfl ?_
  refine z_iload C dL_removes_73 rfl ?_
  refine z_iconst C (nI 1) dL_removes_75 (by decide) ?_
  refine z_callVr C kX5_line gL_removes_X5_line (l_line1n X.2.1 x0 h0 w0 t S 1 (lw g (uU S 1)) hG (by decide) hg_1 hD) dL_removes_76 [0, 1, 2, 3, 4, 5, 6, 7, 8] [] 0 rfl nd_0_1_2_3_4_5_6_7_8 rfl rfl rfl (by decide) (by decide) (Nat.le_of_ble_eq_true rfl) rfl ?_
  refine z_if_lt_t C 86 dL_removes_79 (by decide) (by decide) ?_
  refine z_iconst C (nI 0) dL_removes_86 (by decide) ?_
  refine z_istore C dL_removes_87 (Nat.le_of_ble_eq_true rfl) ?_
  refine z_lv (lv' := [some (.ref x0), some (.int (nI au)), some (.int (nI 1)), some (.int g), some (.int (nI (uU S 1))), some (.int (nI (lw g (uU S 1)))), some (.int (nI (mK S))), some (.int (nI 1)), some (.int (nI (xI S 1 (lw g (uU S 1))))), some (.int (nI 0)), none, none, none, none]) rfl ?_
  refine z_iload C dL_removes_89 rfl ?_
  refine z_nif_lt_f C 109 dL_removes_91 (by decide) (by omega) (by trivial) ?_
  refine z_aload_n C 0 dL_removes_94 rfl rfl ?_
  refine z_iload C dL_removes_95 rfl ?_
  refine z_iconst C (nI 1) dL_removes_97 (by decide) ?_
  refine z_callVr C kX5_change gL_removes_X5_change (l_chg1 X.2.1 x0 h0 w0 t S (xI S 1 (lw g (uU S 1))) hG hxm) dL_removes_98 [0, 1, 2, 3, 4, 5, 6, 7, 8] [] 0 rfl nd_0_1_2_3_4_5_6_7_8 rfl rfl rfl (by decide) (by decide) (Nat.le_of_ble_eq_true rfl) rfl ?_
  refine z_iload_n C 1 dL_removes_101 rfl rfl ?_
  refine z_ncmp_ne_t C 109 dL_removes_102 (by decide) (by omega) (by omega) (by omega) ?_
  refine z_iconst C (nI 0) dL_removes_109 (by decide) ?_
  refine z_istore C dL_removes_110 (Nat.le_of_ble_eq_true rfl) ?_
  refine z_lv (lv' := [some (.ref x0), some (.int (nI au)), some (.int (nI 1)), some (.int g), some (.int (nI (uU S 1))), some (.int (nI (lw g (uU S 1)))), some (.int (nI (mK S))), some (.int (nI 1)), some (.int (nI (xI S 1 (lw g (uU S 1))))), some (.int (nI 0)), some (.int (nI 0)), none, none, none]) rfl ?_
  refine z_iload C dL_removes_112 rfl ?_
  refine z_nif_ne_t C 123 dL_removes_114 (by decide) (by omega) (by omega) ?_
  refine z_iload C dL_removes_123 rfl ?_
  refine z_nif_eq_t C 133 dL_removes_125 (by decide) (by omega) (by omega) ?_
  refine z_iload C dL_removes_133 rfl ?_
  refine z_nif_eq_t C 143 dL_removes_135 (by decide) (by omega) (by omega) ?_
  refine z_iload C dL_removes_143 rfl ?_
  refine z_bipush C (nI 60) dL_removes_145 (by decide) ?_
  refine z_ncmp_ne_t C 155 dL_removes_147 (by decide) (by omega) (by omega) (by omega) ?_
  refine z_iload C dL_removes_155 rfl ?_
  refine z_istore C dL_removes_157 (Nat.le_of_ble_eq_true rfl) ?_
  refine z_lv (lv' := [some (.ref x0), some (.int (nI au)), some (.int (nI 1)), some (.int g), some (.int (nI (uU S 1))), some (.int (nI (lw g (uU S 1)))), some (.int (nI (mK S))), some (.int (nI 1)), some (.int (nI (xI S 1 (lw g (uU S 1))))), some (.int (nI 0)), some (.int (nI 0)), some (.int (nI (mK S))), none, none]) rfl ?_
  refine z_aload_n C 0 dL_removes_159 rfl rfl ?_
  refine z_iconst C (nI 4) dL_removes_160 (by decide) ?_
  refine z_callVr C kX5_count gL_removes_X5_count (l_cntK X.2.1 x0 h0 h1 w0 w1 t S o kp ln ps 3 hG (by decide)) dL_removes_161 [0, 1, 2, 3, 4, 5, 6, 7, 8, 9, 51] [] 0 rfl nd_0_1_2_3_4_5_6_7_8_9_51 rfl rfl rfl (by decide) (by decide) (Nat.le_of_ble_eq_true rfl) rfl ?_
  have hg_2 : cnS S 3 ≤ mK S := zc_le _ _
  refine z_aload_n C 0 dL_removes_164 rfl rfl ?_
  refine z_iload_n C 2 dL_removes_165 rfl rfl ?_
  refine z_iload C dL_removes_166 rfl ?_
  refine z_iconst C (nI 4) dL_removes_168 (by decide) ?_
  refine z_callVr C kX5_line gL_removes_X5_line (l_line4 X.2.1 x0 h0 w0 t S 1 (lw g (uU S 1)) hG (by decide) hg_1) dL_removes_169 [0, 1, 2, 3, 4, 5, 6, 7, 8] [.int (nI (cnS S 3))] 0 rfl nd_0_1_2_3_4_5_6_7_8 rfl rfl rfl (by decide) (by decide) (Nat.le_of_ble_eq_true rfl) rfl ?_
  refine z_iadd C dL_removes_172 ?_
  refine z_top (y := nI ((cnS S 3) + (nSt S 1 (lw g (uU S 1))))) (nI_add _ _) ?_
  refine z_iload C dL_removes_173 rfl ?_
  refine z_nif_lt_f C 182 dL_removes_175 (by decide) (by omega) (by trivial) ?_
  refine z_iconst C (nI 1) dL_removes_178 (by decide) ?_
  refine z_goto C 183 dL_removes_179 (by decide) ?_
  refine z_iadd C dL_removes_183 ?_
  refine z_top (y := nI (((cnS S 3) + (nSt S 1 (lw g (uU S 1)))) + 1)) (nI_add _ _) ?_
  refine z_iload C dL_removes_184 rfl ?_
  refine z_nif_eq_t C 193 dL_removes_186 (by decide) (by omega) (by omega) ?_
  refine z_iconst C (nI 0) dL_removes_193 (by decide) ?_
  refine z_iadd C dL_removes_194 ?_
  refine z_top (y := nI (((cnS S 3) + (nSt S 1 (lw g (uU S 1)))) + 1)) (nI_add _ _) ?_
  refine z_istore C dL_removes_195 (Nat.le_of_ble_eq_true rfl) ?_
  refine z_lv (lv' := [some (.ref x0), some (.int (nI au)), some (.int (nI 1)), some (.int g), some (.int (nI (uU S 1))), some (.int (nI (lw g (uU S 1)))), some (.int (nI (mK S))), some (.int (nI 1)), some (.int (nI (xI S 1 (lw g (uU S 1))))), some (.int (nI 0)), some (.int (nI 0)), some (.int (nI (mK S))), some (.int (nI (((cnS S 3) + (nSt S 1 (lw g (uU S 1)))) + 1))), none]) rfl ?_
  refine z_aload_n C 0 dL_removes_197 rfl rfl ?_
  refine z_iload_n C 1 dL_removes_198 rfl rfl ?_
  refine z_iload_n C 2 dL_removes_199 rfl rfl ?_
  refine z_iload C dL_removes_200 rfl ?_
  refine z_callV (wn := (WRd X.2.1 x0 h0 h1 w0 w1 t r S1 o1 kp1 Q1 tx ln ps)) C kX5_remove gL_removes_X5_remove m1 dL_removes_202 [0, 1, 2, 3, 4, 5, 6, 7, 8, 9, 10, 11, 12, 13, 14, 15, 16, 17, 18, 19, 20, 21, 22, 23, 24, 25, 26, 27, 28, 29, 30, 31, 32, 33, 34, 35, 36, 37, 38, 39, 40, 41, 42, 43, 44, 45, 46, 47, 48, 49, 50] [] 0 rfl rfl nd_0_1_2_3_4_5_6_7_8_9_10_11_12_13_14_15_16_17_18_19_20_21_22_23_24_25_26_27_28_29_30_31_32_33_34_35_36_37_38_39_40_41_42_43_44_45_46_47_48_49_50 rfl rfl rfl (by decide) (by decide) (Nat.le_of_ble_eq_true rfl) rfl ((zput_par nd_0_1_2_3_4_5_6_7_8_9_10_11_12_13_14_15_16_17_18_19_20_21_22_23_24_25_26_27_28_29_30_31_32_33_34_35_36_37_38_39_40_41_42_43_44_45_46_47_48_49_50 rfl).trans rfl) ?_
  refine z_iload C dL_removes_205 rfl ?_
  refine z_ncmp_eq_t C 212 dL_removes_207 (by decide) (by omega) (by omega) (by omega) ?_
  refine z_iload C dL_removes_212 rfl ?_
  refine z_nif_ge_t C 234 dL_removes_214 (by decide) (by omega) (by trivial) ?_
  refine z_iload C dL_removes_234 rfl ?_
  refine z_nif_eq_f C 244 dL_removes_236 (by decide) (by omega) (by omega) ?_
  refine z_iload C dL_removes_239 rfl ?_
  refine z_nif_eq_t C 248 dL_removes_241 (by decide) (by omega) (by omega) ?_
  refine z_iconst C (nI 0) dL_removes_248 (by decide) ?_
  refine z_istore C dL_removes_249 (Nat.le_of_ble_eq_true rfl) ?_
  refine z_lv (lv' := [some (.ref x0), some (.int (nI au)), some (.int (nI 1)), some (.int g), some (.int (nI (uU S 1))), some (.int (nI (lw g (uU S 1)))), some (.int (nI (mK S))), some (.int (nI 1)), some (.int (nI (xI S 1 (lw g (uU S 1))))), some (.int (nI 0)), some (.int (nI 0)), some (.int (nI (mK S))), some (.int (nI (((cnS S 3) + (nSt S 1 (lw g (uU S 1)))) + 1))), some (.int (nI 0))]) rfl ?_
  refine z_aload_n C 0 dL_removes_251 rfl rfl ?_
  refine z_iconst C (nI 0) dL_removes_252 (by decide) ?_
  refine z_iload_n C 2 dL_removes_253 rfl rfl ?_
  refine z_callVr C kX5_size gL_removes_X5_size (l_size0 X.2.1 x0 h0 w0 t S1 1 hG1 (by decide)) dL_removes_254 [0, 1, 2, 3, 4, 5, 6, 7, 8] [] 0 rfl nd_0_1_2_3_4_5_6_7_8 rfl rfl rfl (by decide) (by decide) (Nat.le_of_ble_eq_true rfl) rfl ?_
  refine z_iload C dL_removes_257 rfl ?_
  refine z_nif_eq_t C 269 dL_removes_259 (by decide) (by omega) (by omega) ?_
  refine z_iload C dL_removes_269 rfl ?_
  refine z_ncmp_ne_f C 309 dL_removes_271 (by decide) (by omega) (by omega) (by omega) ?_
  refine z_iload C dL_removes_274 rfl ?_
  refine z_nif_eq_t C 292 dL_removes_276 (by decide) (by omega) (by omega) ?_
  refine z_aload_n C 0 dL_removes_292 rfl rfl ?_
  refine z_iload_n C 2 dL_removes_293 rfl rfl ?_
  refine z_iload C dL_removes_294 rfl ?_
  refine z_iconst C (nI 1) dL_removes_296 (by decide) ?_
  refine z_callVr C kX5_line gL_removes_X5_line (l_line1y X.2.1 x0 h0 w0 t S1 1 (lw g (uU S 1)) hG1 (by decide) (by omega) hD1) dL_removes_297 [0, 1, 2, 3, 4, 5, 6, 7, 8] [] 0 rfl nd_0_1_2_3_4_5_6_7_8 rfl rfl rfl (by decide) (by decide) (Nat.le_of_ble_eq_true rfl) rfl ?_
  refine z_iload C dL_removes_300 rfl ?_
  refine z_ncmp_ne_f C 309 dL_removes_302 (by decide) (by omega) (by omega) (by omega) ?_
  refine z_iconst C (nI 1) dL_removes_305 (by decide) ?_
  refine z_goto C 310 dL_removes_306 (by decide) ?_
  exact z_zret C N dL_removes_310 rfl (rfl) (rfl)
