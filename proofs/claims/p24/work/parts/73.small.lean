set_option maxHeartbeats 4000000 in
set_option maxRecDepth 100000 in
theorem w_rests (E : zE) (x0 h0 w0 : Nat) (t : Nat → Nat) (S : zSt) {B : Nat} (x y : Nat) (hG : GG S B) (hx : x < mK S) (hy : y < mK S) : zM E yL_rests wsL_rests 6 [.ref x0, .int (nI x), .int (nI y)] (WTd E x0 h0 w0 t S) (WTd E x0 h0 w0 t S) (some (.int (zb (sup S x y)))) := by
  refine zM.of kL_rests (Nat.le_of_ble_eq_true rfl) rfl [some (.ref x0), some (.int (nI x)), some (.int (nI y)), none, none, none, none, none, none] rfl (Nat.le_of_ble_eq_true rfl) ?_
  intro X eX C N
  subst eX
  have hu0 := gg_u hG 0
  have hu1 := gg_u hG 1
  have hM := gg_M hG
  have hkx := (kN_e hG hx).2
  have hky := (kN_e hG hy).2
  have hsx := (sN_e hG hx).2
  have hsy := (sN_e hG hy).2
  refine z_aload_n C 0 dL_rests_0 rfl rfl ?_
  refine z_iload_n C 1 dL_rests_1 rfl rfl ?_
  refine z_iconst C (nI 0) dL_rests_2 (by decide) ?_
  refine z_callVr C kX5_change gL_rests_X5_change (l_chg0 X.2.1 x0 h0 w0 t S x hG hx) dL_rests_3 [0, 1, 2, 3, 4, 5, 6, 7, 8] [] 0 rfl nd_0_1_2_3_4_5_6_7_8 rfl rfl rfl (by decide) (by decide) (Nat.le_of_ble_eq_true rfl) rfl ?_
  refine z_istore_n C 3 dL_rests_6 rfl (Nat.le_of_ble_eq_true rfl) ?_
  refine z_lv (lv' := [some (.ref x0), some (.int (nI x)), some (.int (nI y)), some (.int (nI (kN S x))), none, none, none, none, none]) rfl ?_
  refine z_aload_n C 0 dL_rests_7 rfl rfl ?_
  refine z_iload_n C 2 dL_rests_8 rfl rfl ?_
  refine z_iconst C (nI 0) dL_rests_9 (by decide) ?_
  refine z_callVr C kX5_change gL_rests_X5_change (l_chg0 X.2.1 x0 h0 w0 t S y hG hy) dL_rests_10 [0, 1, 2, 3, 4, 5, 6, 7, 8] [] 0 rfl nd_0_1_2_3_4_5_6_7_8 rfl rfl rfl (by decide) (by decide) (Nat.le_of_ble_eq_true rfl) rfl ?_
  refine z_istore C dL_rests_13 (Nat.le_of_ble_eq_true rfl) ?_
  refine z_lv (lv' := [some (.ref x0), some (.int (nI x)), some (.int (nI y)), some (.int (nI (kN S x))), some (.int (nI (kN S y))), none, none, none, none]) rfl ?_
  refine z_aload_n C 0 dL_rests_15 rfl rfl ?_
  refine z_iload_n C 1 dL_rests_16 rfl rfl ?_
  refine z_iconst C (nI 2) dL_rests_17 (by decide) ?_
  refine z_callVr C kX5_change gL_rests_X5_change (l_chg2 X.2.1 x0 h0 w0 t S x hG hx) dL_rests_18 [0, 1, 2, 3, 4, 5, 6, 7, 8] [] 0 rfl nd_0_1_2_3_4_5_6_7_8 rfl rfl rfl (by decide) (by decide) (Nat.le_of_ble_eq_true rfl) rfl ?_
  refine z_nif_ne C 37 dL_rests_21 (by decide) (by omega) (fun h_1 => ?_) (fun h_1 => ?_)
  · refine z_iconst C (nI 0) dL_rests_37 (by decide) ?_
    refine z_istore C dL_rests_38 (Nat.le_of_ble_eq_true rfl) ?_
    refine z_lv (lv' := [some (.ref x0), some (.int (nI x)), some (.int (nI y)), some (.int (nI (kN S x))), some (.int (nI (kN S y))), some (.int (nI 0)), none, none, none]) rfl ?_
    refine z_iload C dL_rests_40 rfl ?_
    refine z_nif_ne C 74 dL_rests_42 (by decide) (by omega) (fun h_2 => ?_) (fun h_2 => ?_)
    · refine z_iconst C (nI 0) dL_rests_74 (by decide) ?_
      refine z_istore C dL_rests_75 (Nat.le_of_ble_eq_true rfl) ?_
      refine z_lv (lv' := [some (.ref x0), some (.int (nI x)), some (.int (nI y)), some (.int (nI (kN S x))), some (.int (nI (kN S y))), some (.int (nI 0)), some (.int (nI 0)), none, none]) rfl ?_
      refine z_iload C dL_rests_77 rfl ?_
      refine z_iconst C (nI 2) dL_rests_79 (by decide) ?_
      refine z_ncmp_ne C 112 dL_rests_80 (by decide) (by omega) (by omega) (fun h_3 => ?_) (fun h_3 => ?_)
      · refine z_iconst C (nI 0) dL_rests_112 (by decide) ?_
        refine z_istore C dL_rests_113 (Nat.le_of_ble_eq_true rfl) ?_
        refine z_lv (lv' := [some (.ref x0), some (.int (nI x)), some (.int (nI y)), some (.int (nI (kN S x))), some (.int (nI (kN S y))), some (.int (nI 0)), some (.int (nI 0)), some (.int (nI 0)), none]) rfl ?_
        refine z_iload C dL_rests_115 rfl ?_
        refine z_iconst C (nI 4) dL_rests_117 (by decide) ?_
        refine z_ncmp_ne C 165 dL_rests_118 (by decide) (by omega) (by omega) (fun h_4 => ?_) (fun h_4 => ?_)
        · refine z_iconst C (nI 0) dL_rests_165 (by decide) ?_
          refine z_istore C dL_rests_166 (Nat.le_of_ble_eq_true rfl) ?_
          refine z_lv (lv' := [some (.ref x0), some (.int (nI x)), some (.int (nI y)), some (.int (nI (kN S x))), some (.int (nI (kN S y))), some (.int (nI 0)), some (.int (nI 0)), some (.int (nI 0)), some (.int (nI 0))]) rfl ?_
          refine z_iload C dL_rests_168 rfl ?_
          refine z_nif_eq_t C 192 dL_rests_170 (by decide) (by omega) (by omega) ?_
          refine z_iconst C (nI 0) dL_rests_192 (by decide) ?_
          exact z_iret C N dL_rests_193 (rfl) (congrArg (fun x => some (Value.int x)) (zb_f (by first | (simp [sup_e hG hx hy, rsL, h_1, h_2, h_3, h_4]; done) | (simp [sup_e hG hx hy, rsL, h_1, h_2, h_3, h_4]; intros; omega))).symm)
        · refine z_iload_n C 3 dL_rests_121 rfl rfl ?_
          refine z_iconst C (nI 4) dL_rests_122 (by decide) ?_
          refine z_ncmp_ne C 165 dL_rests_123 (by decide) (by omega) (by omega) (fun h_5 => ?_) (fun h_5 => ?_)
          · refine z_iconst C (nI 0) dL_rests_165 (by decide) ?_
            refine z_istore C dL_rests_166 (Nat.le_of_ble_eq_true rfl) ?_
            refine z_lv (lv' := [some (.ref x0), some (.int (nI x)), some (.int (nI y)), some (.int (nI (kN S x))), some (.int (nI (kN S y))), some (.int (nI 0)), some (.int (nI 0)), some (.int (nI 0)), some (.int (nI 0))]) rfl ?_
            refine z_iload C dL_rests_168 rfl ?_
            refine z_nif_eq_t C 192 dL_rests_170 (by decide) (by omega) (by omega) ?_
            refine z_iconst C (nI 0) dL_rests_192 (by decide) ?_
            exact z_iret C N dL_rests_193 (rfl) (congrArg (fun x => some (Value.int x)) (zb_f (by first | (simp [sup_e hG hx hy, rsL, h_1, h_2, h_3, h_4, h_5]; done) | (simp [sup_e hG hx hy, rsL, h_1, h_2, h_3, h_4, h_5]; intros; omega))).symm)
          · refine z_iload_n C 2 dL_rests_126 rfl rfl ?_
            refine z_iload_n C 1 dL_rests_127 rfl rfl ?_
            refine z_ncmp_ge C 165 dL_rests_128 (by decide) (by omega) (by omega) (fun h_6 => ?_) (fun h_6 => ?_)
            · refine z_iconst C (nI 0) dL_rests_165 (by decide) ?_
              refine z_istore C dL_rests_166 (Nat.le_of_ble_eq_true rfl) ?_
              refine z_lv (lv' := [some (.ref x0), some (.int (nI x)), some (.int (nI y)), some (.int (nI (kN S x))), some (.int (nI (kN S y))), some (.int (nI 0)), some (.int (nI 0)), some (.int (nI 0)), some (.int (nI 0))]) rfl ?_
              refine z_iload C dL_rests_168 rfl ?_
              refine z_nif_eq_t C 192 dL_rests_170 (by decide) (by omega) (by omega) ?_
              refine z_iconst C (nI 0) dL_rests_192 (by decide) ?_
              exact z_iret C N dL_rests_193 (rfl) (congrArg (fun x => some (Value.int x)) (zb_f (by first | (simp [sup_e hG hx hy, rsL, h_1, h_2, h_3, h_4, h_5, h_6]; done) | (simp [sup_e hG hx hy, rsL, h_1, h_2, h_3, h_4, h_5, h_6]; intros; omega))).symm)
            · refine z_aload_n C 0 dL_rests_131 rfl rfl ?_
              refine z_iload_n C 2 dL_rests_132 rfl rfl ?_
              refine z_iconst C (nI 3) dL_rests_133 (by decide) ?_
              refine z_callVr C kX5_change gL_rests_X5_change (l_chg3 X.2.1 x0 h0 w0 t S y hG hy) dL_rests_134 [0, 1, 2, 3, 4, 5, 6, 7, 8] [] 0 rfl nd_0_1_2_3_4_5_6_7_8 rfl rfl rfl (by decide) (by decide) (Nat.le_of_ble_eq_true rfl) rfl ?_
              refine z_aload_n C 0 dL_rests_137 rfl rfl ?_
              refine z_iload_n C 1 dL_rests_138 rfl rfl ?_
              refine z_iconst C (nI 3) dL_rests_139 (by decide) ?_
              refine z_callVr C kX5_change gL_rests_X5_change (l_chg3 X.2.1 x0 h0 w0 t S x hG hx) dL_rests_140 [0, 1, 2, 3, 4, 5, 6, 7, 8] [.int (eP (lP S 0 y))] 0 rfl nd_0_1_2_3_4_5_6_7_8 rfl rfl rfl (by decide) (by decide) (Nat.le_of_ble_eq_true rfl) rfl ?_
              refine z_icmp_ne C 165 dL_rests_143 (by decide) (fun h_7 => ?_) (fun h_7 => ?_)
              · refine z_iconst C (nI 0) dL_rests_165 (by decide) ?_
                refine z_istore C dL_rests_166 (Nat.le_of_ble_eq_true rfl) ?_
                refine z_lv (lv' := [some (.ref x0), some (.int (nI x)), some (.int (nI y)), some (.int (nI (kN S x))), some (.int (nI (kN S y))), some (.int (nI 0)), some (.int (nI 0)), some (.int (nI 0)), some (.int (nI 0))]) rfl ?_
                refine z_iload C dL_rests_168 rfl ?_
                refine z_nif_eq_t C 192 dL_rests_170 (by decide) (by omega) (by omega) ?_
                refine z_iconst C (nI 0) dL_rests_192 (by decide) ?_
                exact z_iret C N dL_rests_193 (rfl) (congrArg (fun x => some (Value.int x)) (zb_f (by first | (simp [sup_e hG hx hy, rsL, h_1, h_2, h_3, h_4, h_5, h_6, h_7]; done) | (simp [sup_e hG hx hy, rsL, h_1, h_2, h_3, h_4, h_5, h_6, h_7]; intros; omega))).symm)
              · refine z_aload_n C 0 dL_rests_146 rfl rfl ?_
                refine z_iload_n C 2 dL_rests_147 rfl rfl ?_
                refine z_iconst C (nI 4) dL_rests_148 (by decide) ?_
                refine z_callVr C kX5_change gL_rests_X5_change (l_chg4 X.2.1 x0 h0 w0 t S y hG hy) dL_rests_149 [0, 1, 2, 3, 4, 5, 6, 7, 8] [] 0 rfl nd_0_1_2_3_4_5_6_7_8 rfl rfl rfl (by decide) (by decide) (Nat.le_of_ble_eq_true rfl) rfl ?_
                refine z_aload_n C 0 dL_rests_152 rfl rfl ?_
                refine z_iload_n C 1 dL_rests_153 rfl rfl ?_
                refine z_iconst C (nI 4) dL_rests_154 (by decide) ?_
                refine z_callVr C kX5_change gL_rests_X5_change (l_chg4 X.2.1 x0 h0 w0 t S x hG hx) dL_rests_155 [0, 1, 2, 3, 4, 5, 6, 7, 8] [.int (eP (lP S 1 y))] 0 rfl nd_0_1_2_3_4_5_6_7_8 rfl rfl rfl (by decide) (by decide) (Nat.le_of_ble_eq_true rfl) rfl ?_
                refine z_icmp_ne C 165 dL_rests_158 (by decide) (fun h_8 => ?_) (fun h_8 => ?_)
                · refine z_iconst C (nI 0) dL_rests_165 (by decide) ?_
                  refine z_istore C dL_rests_166 (Nat.le_of_ble_eq_true rfl) ?_
                  refine z_lv (lv' := [some (.ref x0), some (.int (nI x)), some (.int (nI y)), some (.int (nI (kN S x))), some (.int (nI (kN S y))), some (.int (nI 0)), some (.int (nI 0)), some (.int (nI 0)), some (.int (nI 0))]) rfl ?_
                  refine z_iload C dL_rests_168 rfl ?_
                  refine z_nif_eq_t C 192 dL_rests_170 (by decide) (by omega) (by omega) ?_
                  refine z_iconst C (nI 0) dL_rests_192 (by decide) ?_
                  exact z_iret C N dL_rests_193 (rfl) (congrArg (fun x => some (Value.int x)) (zb_f (by first | (simp [sup_e hG hx hy, rsL, h_1, h_2, h_3, h_4, h_5, h_6, h_7, h_8]; done) | (simp [sup_e hG hx hy, rsL, h_1, h_2, h_3, h_4, h_5, h_6, h_7, h_8]; intros; omega))).symm)
                · refine z_iconst C (nI 1) dL_rests_161 (by decide) ?_
                  refine z_goto C 166 dL_rests_162 (by decide) ?_
                  refine z_istore C dL_rests_166 (Nat.le_of_ble_eq_true rfl) ?_
                  refine z_lv (lv' := [some (.ref x0), some (.int (nI x)), some (.int (nI y)), some (.int (nI (kN S x))), some (.int (nI (kN S y))), some (.int (nI 0)), some (.int (nI 0)), some (.int (nI 0)), some (.int (nI 1))]) rfl ?_
                  refine z_iload C dL_rests_168 rfl ?_
                  refine z_nif_eq_t C 192 dL_rests_170 (by decide) (by omega) (by omega) ?_
                  refine z_iconst C (nI 0) dL_rests_192 (by decide) ?_
                  exact z_iret C N dL_rests_193 (rfl) (congrArg (fun x => some (Value.int x)) (zb_f (by first | (simp [sup_e hG hx hy, rsL, h_1, h_2, h_3, h_4, h_5, h_6, h_7, h_8]; done) | (simp [sup_e hG hx hy, rsL, h_1, h_2, h_3, h_4, h_5, h_6, h_7, h_8]; intros; omega))).symm)
      · refine z_iload_n C 3 dL_rests_83 rfl rfl ?_
        refine z_iconst C (nI 3) dL_rests_84 (by decide) ?_
        refine z_ncmp_eq C 93 dL_rests_85 (by decide) (by omega) (by omega) (fun h_9 => ?_) (fun h_9 => ?_)
        · refine z_aload_n C 0 dL_rests_93 rfl rfl ?_
          refine z_iload_n C 2 dL_rests_94 rfl rfl ?_
          refine z_iconst C (nI 4) dL_rests_95 (by decide) ?_
          refine z_callVr C kX5_change gL_rests_X5_change (l_chg4 X.2.1 x0 h0 w0 t S y hG hy) dL_rests_96 [0, 1, 2, 3, 4, 5, 6, 7, 8] [] 0 rfl nd_0_1_2_3_4_5_6_7_8 rfl rfl rfl (by decide) (by decide) (Nat.le_of_ble_eq_true rfl) rfl ?_
          refine z_aload_n C 0 dL_rests_99 rfl rfl ?_
          refine z_iload_n C 1 dL_rests_100 rfl rfl ?_
          refine z_iconst C (nI 4) dL_rests_101 (by decide) ?_
          refine z_callVr C kX5_change gL_rests_X5_change (l_chg4 X.2.1 x0 h0 w0 t S x hG hx) dL_rests_102 [0, 1, 2, 3, 4, 5, 6, 7, 8] [.int (eP (lP S 1 y))] 0 rfl nd_0_1_2_3_4_5_6_7_8 rfl rfl rfl (by decide) (by decide) (Nat.le_of_ble_eq_true rfl) rfl ?_
          refine z_icmp_ne C 112 dL_rests_105 (by decide) (fun h_10 => ?_) (fun h_10 => ?_)
          · refine z_iconst C (nI 0) dL_rests_112 (by decide) ?_
            refine z_istore C dL_rests_113 (Nat.le_of_ble_eq_true rfl) ?_
            refine z_lv (lv' := [some (.ref x0), some (.int (nI x)), some (.int (nI y)), some (.int (nI (kN S x))), some (.int (nI (kN S y))), some (.int (nI 0)), some (.int (nI 0)), some (.int (nI 0)), none]) rfl ?_
            refine z_iload C dL_rests_115 rfl ?_
            refine z_iconst C (nI 4) dL_rests_117 (by decide) ?_
            refine z_ncmp_ne_t C 165 dL_rests_118 (by decide) (by omega) (by omega) (by omega) ?_
            refine z_iconst C (nI 0) dL_rests_165 (by decide) ?_
            refine z_istore C dL_rests_166 (Nat.le_of_ble_eq_true rfl) ?_
            refine z_lv (lv' := [some (.ref x0), some (.int (nI x)), some (.int (nI y)), some (.int (nI (kN S x))), some (.int (nI (kN S y))), some (.int (nI 0)), some (.int (nI 0)), some (.int (nI 0)), some (.int (nI 0))]) rfl ?_
            refine z_iload C dL_rests_168 rfl ?_
            refine z_nif_eq_t C 192 dL_rests_170 (by decide) (by omega) (by omega) ?_
            refine z_iconst C (nI 0) dL_rests_192 (by decide) ?_
            exact z_iret C N dL_rests_193 (rfl) (congrArg (fun x => some (Value.int x)) (zb_f (by first | (simp [sup_e hG hx hy, rsL, h_1, h_2, h_3, h_9, h_10]; done) | (simp [sup_e hG hx hy, rsL, h_1, h_2, h_3, h_9, h_10]; intros; omega))).symm)
          · refine z_iconst C (nI 1) dL_rests_108 (by decide) ?_
            refine z_goto C 113 dL_rests_109 (by decide) ?_
            refine z_istore C dL_rests_113 (Nat.le_of_ble_eq_true rfl) ?_
            refine z_lv (lv' := [some (.ref x0), some (.int (nI x)), some (.int (nI y)), some (.int (nI (kN S x))), some (.int (nI (kN S y))), some (.int (nI 0)), some (.int (nI 0)), some (.int (nI 1)), none]) rfl ?_
            refine z_iload C dL_rests_115 rfl ?_
            refine z_iconst C (nI 4) dL_rests_117 (by decide) ?_
            refine z_ncmp_ne_t C 165 dL_rests_118 (by decide) (by omega) (by omega) (by omega) ?_
            refine z_iconst C (nI 0) dL_rests_165 (by decide) ?_
            refine z_istore C dL_rests_166 (Nat.le_of_ble_eq_true rfl) ?_
            refine z_lv (lv' := [some (.ref x0), some (.int (nI x)), some (.int (nI y)), some (.int (nI (kN S x))), some (.int (nI (kN S y))), some (.int (nI 0)), some (.int (nI 0)), some (.int (nI 1)), some (.int (nI 0))]) rfl ?_
            refine z_iload C dL_rests_168 rfl ?_
            refine z_nif_eq_t C 192 dL_rests_170 (by decide) (by omega) (by omega) ?_
            refine z_iconst C (nI 0) dL_rests_192 (by decide) ?_
            exact z_iret C N dL_rests_193 (rfl) (congrArg (fun x => some (Value.int x)) (zb_f (by first | (simp [sup_e hG hx hy, rsL, h_1, h_2, h_3, h_9, h_10]; done) | (simp [sup_e hG hx hy, rsL, h_1, h_2, h_3, h_9, h_10]; intros; omega))).symm)
        · refine z_iload_n C 3 dL_rests_88 rfl rfl ?_
          refine z_iconst C (nI 4) dL_rests_89 (by decide) ?_
          refine z_ncmp_ne C 112 dL_rests_90 (by decide) (by omega) (by omega) (fun h_11 => ?_) (fun h_11 => ?_)
          · refine z_iconst C (nI 0) dL_rests_112 (by decide) ?_
            refine z_istore C dL_rests_113 (Nat.le_of_ble_eq_true rfl) ?_
            refine z_lv (lv' := [some (.ref x0), some (.int (nI x)), some (.int (nI y)), some (.int (nI (kN S x))), some (.int (nI (kN S y))), some (.int (nI 0)), some (.int (nI 0)), some (.int (nI 0)), none]) rfl ?_
            refine z_iload C dL_rests_115 rfl ?_
            refine z_iconst C (nI 4) dL_rests_117 (by decide) ?_
            refine z_ncmp_ne_t C 165 dL_rests_118 (by decide) (by omega) (by omega) (by omega) ?_
            refine z_iconst C (nI 0) dL_rests_165 (by decide) ?_
            refine z_istore C dL_rests_166 (Nat.le_of_ble_eq_true rfl) ?_
            refine z_lv (lv' := [some (.ref x0), some (.int (nI x)), some (.int (nI y)), some (.int (nI (kN S x))), some (.int (nI (kN S y))), some (.int (nI 0)), some (.int (nI 0)), some (.int (nI 0)), some (.int (nI 0))]) rfl ?_
            refine z_iload C dL_rests_168 rfl ?_
            refine z_nif_eq_t C 192 dL_rests_170 (by decide) (by omega) (by omega) ?_
            refine z_iconst C (nI 0) dL_rests_192 (by decide) ?_
            exact z_iret C N dL_rests_193 (rfl) (congrArg (fun x => some (Value.int x)) (zb_f (by first | (simp [sup_e hG hx hy, rsL, h_1, h_2, h_3, h_9, h_11]; done) | (simp [sup_e hG hx hy, rsL, h_1, h_2, h_3, h_9, h_11]; intros; omega))).symm)
          · refine z_aload_n C 0 dL_rests_93 rfl rfl ?_
            refine z_iload_n C 2 dL_rests_94 rfl rfl ?_
            refine z_iconst C (nI 4) dL_rests_95 (by decide) ?_
            refine z_callVr C kX5_change gL_rests_X5_change (l_chg4 X.2.1 x0 h0 w0 t S y hG hy) dL_rests_96 [0, 1, 2, 3, 4, 5, 6, 7, 8] [] 0 rfl nd_0_1_2_3_4_5_6_7_8 rfl rfl rfl (by decide) (by decide) (Nat.le_of_ble_eq_true rfl) rfl ?_
            refine z_aload_n C 0 dL_rests_99 rfl rfl ?_
            refine z_iload_n C 1 dL_rests_100 rfl rfl ?_
            refine z_iconst C (nI 4) dL_rests_101 (by decide) ?_
            refine z_callVr C kX5_change gL_rests_X5_change (l_chg4 X.2.1 x0 h0 w0 t S x hG hx) dL_rests_102 [0, 1, 2, 3, 4, 5, 6, 7, 8] [.int (eP (lP S 1 y))] 0 rfl nd_0_1_2_3_4_5_6_7_8 rfl rfl rfl (by decide) (by decide) (Nat.le_of_ble_eq_true rfl) rfl ?_
            refine z_icmp_ne C 112 dL_rests_105 (by decide) (fun h_12 => ?_) (fun h_12 => ?_)
            · refine z_iconst C (nI 0) dL_rests_112 (by decide) ?_
              refine z_istore C dL_rests_113 (Nat.le_of_ble_eq_true rfl) ?_
              refine z_lv (lv' := [some (.ref x0), some (.int (nI x)), some (.int (nI y)), some (.int (nI (kN S x))), some (.int (nI (kN S y))), some (.int (nI 0)), some (.int (nI 0)), some (.int (nI 0)), none]) rfl ?_
              refine z_iload C dL_rests_115 rfl ?_
              refine z_iconst C (nI 4) dL_rests_117 (by decide) ?_
              refine z_ncmp_ne_t C 165 dL_rests_118 (by decide) (by omega) (by omega) (by omega) ?_
              refine z_iconst C (nI 0) dL_rests_165 (by decide) ?_
              refine z_istore C dL_rests_166 (Nat.le_of_ble_eq_true rfl) ?_
              refine z_lv (lv' := [some (.ref x0), some (.int (nI x)), some (.int (nI y)), some (.int (nI (kN S x))), some (.int (nI (kN S y))), some (.int (nI 0)), some (.int (nI 0)), some (.int (nI 0)), some (.int (nI 0))]) rfl ?_
              refine z_iload C dL_rests_168 rfl ?_
              refine z_nif_eq_t C 192 dL_rests_170 (by decide) (by omega) (by omega) ?_
              refine z_iconst C (nI 0) dL_rests_192 (by decide) ?_
              exact z_iret C N dL_rests_193 (rfl) (congrArg (fun x => some (Value.int x)) (zb_f (by first | (simp [sup_e hG hx hy, rsL, h_1, h_2, h_3, h_9, h_11, h_12]; done) | (simp [sup_e hG hx hy, rsL, h_1, h_2, h_3, h_9, h_11, h_12]; intros; omega))).symm)
            · refine z_iconst C (nI 1) dL_rests_108 (by decide) ?_
              refine z_goto C 113 dL_rests_109 (by decide) ?_
              refine z_istore C dL_rests_113 (Nat.le_of_ble_eq_true rfl) ?_
              refine z_lv (lv' := [some (.ref x0), some (.int (nI x)), some (.int (nI y)), some (.int (nI (kN S x))), some (.int (nI (kN S y))), some (.int (nI 0)), some (.int (nI 0)), some (.int (nI 1)), none]) rfl ?_
              refine z_iload C dL_rests_115 rfl ?_
              refine z_iconst C (nI 4) dL_rests_117 (by decide) ?_
              refine z_ncmp_ne_t C 165 dL_rests_118 (by decide) (by omega) (by omega) (by omega) ?_
              refine z_iconst C (nI 0) dL_rests_165 (by decide) ?_
              refine z_istore C dL_rests_166 (Nat.le_of_ble_eq_true rfl) ?_
              refine z_lv (lv' := [some (.ref x0), some (.int (nI x)), some (.int (nI y)), some (.int (nI (kN S x))), some (.int (nI (kN S y))), some (.int (nI 0)), some (.int (nI 0)), some (.int (nI 1)), some (.int (nI 0))]) rfl ?_
              refine z_iload C dL_rests_168 rfl ?_
              refine z_nif_eq_t C 192 dL_rests_170 (by decide) (by omega) (by omega) ?_
              refine z_iconst C (nI 0) dL_rests_192 (by decide) ?_
              exact z_iret C N dL_rests_193 (rfl) (congrArg (fun x => some (Value.int x)) (zb_f (by first | (simp [sup_e hG hx hy, rsL, h_1, h_2, h_3, h_9, h_11, h_12]; done) | (simp [sup_e hG hx hy, rsL, h_1, h_2, h_3, h_9, h_11, h_12]; intros; omega))).symm)
    · refine z_iload_n C 3 dL_rests_45 rfl rfl ?_
      refine z_iconst C (nI 1) dL_rests_46 (by decide) ?_
      refine z_ncmp_eq C 55 dL_rests_47 (by decide) (by omega) (by omega) (fun h_13 => ?_) (fun h_13 => ?_)
      · refine z_aload_n C 0 dL_rests_55 rfl rfl ?_
        refine z_iload_n C 2 dL_rests_56 rfl rfl ?_
        refine z_iconst C (nI 3) dL_rests_57 (by decide) ?_
        refine z_callVr C kX5_change gL_rests_X5_change (l_chg3 X.2.1 x0 h0 w0 t S y hG hy) dL_rests_58 [0, 1, 2, 3, 4, 5, 6, 7, 8] [] 0 rfl nd_0_1_2_3_4_5_6_7_8 rfl rfl rfl (by decide) (by decide) (Nat.le_of_ble_eq_true rfl) rfl ?_
        refine z_aload_n C 0 dL_rests_61 rfl rfl ?_
        refine z_iload_n C 1 dL_rests_62 rfl rfl ?_
        refine z_iconst C (nI 3) dL_rests_63 (by decide) ?_
        refine z_callVr C kX5_change gL_rests_X5_change (l_chg3 X.2.1 x0 h0 w0 t S x hG hx) dL_rests_64 [0, 1, 2, 3, 4, 5, 6, 7, 8] [.int (eP (lP S 0 y))] 0 rfl nd_0_1_2_3_4_5_6_7_8 rfl rfl rfl (by decide) (by decide) (Nat.le_of_ble_eq_true rfl) rfl ?_
        refine z_icmp_ne C 74 dL_rests_67 (by decide) (fun h_14 => ?_) (fun h_14 => ?_)
        · refine z_iconst C (nI 0) dL_rests_74 (by decide) ?_
          refine z_istore C dL_rests_75 (Nat.le_of_ble_eq_true rfl) ?_
          refine z_lv (lv' := [some (.ref x0), some (.int (nI x)), some (.int (nI y)), some (.int (nI (kN S x))), some (.int (nI (kN S y))), some (.int (nI 0)), some (.int (nI 0)), none, none]) rfl ?_
          refine z_iload C dL_rests_77 rfl ?_
          refine z_iconst C (nI 2) dL_rests_79 (by decide) ?_
          refine z_ncmp_ne_t C 112 dL_rests_80 (by decide) (by omega) (by omega) (by omega) ?_
          refine z_iconst C (nI 0) dL_rests_112 (by decide) ?_
          refine z_istore C dL_rests_113 (Nat.le_of_ble_eq_true rfl) ?_
          refine z_lv (lv' := [some (.ref x0), some (.int (nI x)), some (.int (nI y)), some (.int (nI (kN S x))), some (.int (nI (kN S y))), some (.int (nI 0)), some (.int (nI 0)), some (.int (nI 0)), none]) rfl ?_
          refine z_iload C dL_rests_115 rfl ?_
          refine z_iconst C (nI 4) dL_rests_117 (by decide) ?_
          refine z_ncmp_ne_t C 165 dL_rests_118 (by decide) (by omega) (by omega) (by omega) ?_
          refine z_iconst C (nI 0) dL_rests_165 (by decide) ?_
          refine z_istore C dL_rests_166 (Nat.le_of_ble_eq_true rfl) ?_
          refine z_lv (lv' := [some (.ref x0), some (.int (nI x)), some (.int (nI y)), some (.int (nI (kN S x))), some (.int (nI (kN S y))), some (.int (nI 0)), some (.int (nI 0)), some (.int (nI 0)), some (.int (nI 0))]) rfl ?_
          refine z_iload C dL_rests_168 rfl ?_
          refine z_nif_eq_t C 192 dL_rests_170 (by decide) (by omega) (by omega) ?_
          refine z_iconst C (nI 0) dL_rests_192 (by decide) ?_
          exact z_iret C N dL_rests_193 (rfl) (congrArg (fun x => some (Value.int x)) (zb_f (by first | (simp [sup_e hG hx hy, rsL, h_1, h_2, h_13, h_14]; done) | (simp [sup_e hG hx hy, rsL, h_1, h_2, h_13, h_14]; intros; omega))).symm)
        · refine z_iconst C (nI 1) dL_rests_70 (by decide) ?_
          refine z_goto C 75 dL_rests_71 (by decide) ?_
          refine z_istore C dL_rests_75 (Nat.le_of_ble_eq_true rfl) ?_
          refine z_lv (lv' := [some (.ref x0), some (.int (nI x)), some (.int (nI y)), some (.int (nI (kN S x))), some (.int (nI (kN S y))), some (.int (nI 0)), some (.int (nI 1)), none, none]) rfl ?_
          refine z_iload C dL_rests_77 rfl ?_
          refine z_iconst C (nI 2) dL_rests_79 (by decide) ?_
          refine z_ncmp_ne_t C 112 dL_rests_80 (by decide) (by omega) (by omega) (by omega) ?_
          refine z_iconst C (nI 0) dL_rests_112 (by decide) ?_
          refine z_istore C dL_rests_113 (Nat.le_of_ble_eq_true rfl) ?_
          refine z_lv (lv' := [some (.ref x0), some (.int (nI x)), some (.int (nI y)), some (.int (nI (kN S x))), some (.int (nI (kN S y))), some (.int (nI 0)), some (.int (nI 1)), some (.int (nI 0)), none]) rfl ?_
          refine z_iload C dL_rests_115 rfl ?_
          refine z_iconst C (nI 4) dL_rests_117 (by decide) ?_
          refine z_ncmp_ne_t C 165 dL_rests_118 (by decide) (by omega) (by omega) (by omega) ?_
          refine z_iconst C (nI 0) dL_rests_165 (by decide) ?_
          refine z_istore C dL_rests_166 (Nat.le_of_ble_eq_true rfl) ?_
          refine z_lv (lv' := [some (.ref x0), some (.int (nI x)), some (.int (nI y)), some (.int (nI (kN S x))), some (.int (nI (kN S y))), some (.int (nI 0)), some (.int (nI 1)), some (.int (nI 0)), some (.int (nI 0))]) rfl ?_
          refine z_iload C dL_rests_168 rfl ?_
          refine z_nif_eq_t C 192 dL_rests_170 (by decide) (by omega) (by omega) ?_
          refine z_iconst C (nI 0) dL_rests_192 (by decide) ?_
          exact z_iret C N dL_rests_193 (rfl) (congrArg (fun x => some (Value.int x)) (zb_f (by first | (simp [sup_e hG hx hy, rsL, h_1, h_2, h_13, h_14]; done) | (simp [sup_e hG hx hy, rsL, h_1, h_2, h_13, h_14]; intros; omega))).symm)
      · refine z_iload_n C 3 dL_rests_50 rfl rfl ?_
        refine z_iconst C (nI 4) dL_rests_51 (by decide) ?_
        refine z_ncmp_ne C 74 dL_rests_52 (by decide) (by omega) (by omega) (fun h_15 => ?_) (fun h_15 => ?_)
        · refine z_iconst C (nI 0) dL_rests_74 (by decide) ?_
          refine z_istore C dL_rests_75 (Nat.le_of_ble_eq_true rfl) ?_
          refine z_lv (lv' := [some (.ref x0), some (.int (nI x)), some (.int (nI y)), some (.int (nI (kN S x))), some (.int (nI (kN S y))), some (.int (nI 0)), some (.int (nI 0)), none, none]) rfl ?_
          refine z_iload C dL_rests_77 rfl ?_
          refine z_iconst C (nI 2) dL_rests_79 (by decide) ?_
          refine z_ncmp_ne_t C 112 dL_rests_80 (by decide) (by omega) (by omega) (by omega) ?_
          refine z_iconst C (nI 0) dL_rests_112 (by decide) ?_
          refine z_istore C dL_rests_113 (Nat.le_of_ble_eq_true rfl) ?_
          refine z_lv (lv' := [some (.ref x0), some (.int (nI x)), some (.int (nI y)), some (.int (nI (kN S x))), some (.int (nI (kN S y))), some (.int (nI 0)), some (.int (nI 0)), some (.int (nI 0)), none]) rfl ?_
          refine z_iload C dL_rests_115 rfl ?_
          refine z_iconst C (nI 4) dL_rests_117 (by decide) ?_
          refine z_ncmp_ne_t C 165 dL_rests_118 (by decide) (by omega) (by omega) (by omega) ?_
          refine z_iconst C (nI 0) dL_rests_165 (by decide) ?_
          refine z_istore C dL_rests_166 (Nat.le_of_ble_eq_true rfl) ?_
          refine z_lv (lv' := [some (.ref x0), some (.int (nI x)), some (.int (nI y)), some (.int (nI (kN S x))), some (.int (nI (kN S y))), some (.int (nI 0)), some (.int (nI 0)), some (.int (nI 0)), some (.int (nI 0))]) rfl ?_
          refine z_iload C dL_rests_168 rfl ?_
          refine z_nif_eq_t C 192 dL_rests_170 (by decide) (by omega) (by omega) ?_
          refine z_iconst C (nI 0) dL_rests_192 (by decide) ?_
          exact z_iret C N dL_rests_193 (rfl) (congrArg (fun x => some (Value.int x)) (zb_f (by first | (simp [sup_e hG hx hy, rsL, h_1, h_2, h_13, h_15]; done) | (simp [sup_e hG hx hy, rsL, h_1, h_2, h_13, h_15]; intros; omega))).symm)
        · refine z_aload_n C 0 dL_rests_55 rfl rfl ?_
          refine z_iload_n C 2 dL_rests_56 rfl rfl ?_
          refine z_iconst C (nI 3) dL_rests_57 (by decide) ?_
          refine z_callVr C kX5_change gL_rests_X5_change (l_chg3 X.2.1 x0 h0 w0 t S y hG hy) dL_rests_58 [0, 1, 2, 3, 4, 5, 6, 7, 8] [] 0 rfl nd_0_1_2_3_4_5_6_7_8 rfl rfl rfl (by decide) (by decide) (Nat.le_of_ble_eq_true rfl) rfl ?_
          refine z_aload_n C 0 dL_rests_61 rfl rfl ?_
          refine z_iload_n C 1 dL_rests_62 rfl rfl ?_
          refine z_iconst C (nI 3) dL_rests_63 (by decide) ?_
          refine z_callVr C kX5_change gL_rests_X5_change (l_chg3 X.2.1 x0 h0 w0 t S x hG hx) dL_rests_64 [0, 1, 2, 3, 4, 5, 6, 7, 8] [.int (eP (lP S 0 y))] 0 rfl nd_0_1_2_3_4_5_6_7_8 rfl rfl rfl (by decide) (by decide) (Nat.le_of_ble_eq_true rfl) rfl ?_
          refine z_icmp_ne C 74 dL_rests_67 (by decide) (fun h_16 => ?_) (fun h_16 => ?_)
          · refine z_iconst C (nI 0) dL_rests_74 (by decide) ?_
            refine z_istore C dL_rests_75 (Nat.le_of_ble_eq_true rfl) ?_
            refine z_lv (lv' := [some (.ref x0), some (.int (nI x)), some (.int (nI y)), some (.int (nI (kN S x))), some (.int (nI (kN S y))), some (.int (nI 0)), some (.int (nI 0)), none, none]) rfl ?_
            refine z_iload C dL_rests_77 rfl ?_
            refine z_iconst C (nI 2) dL_rests_79 (by decide) ?_
            refine z_ncmp_ne_t C 112 dL_rests_80 (by decide) (by omega) (by omega) (by omega) ?_
            refine z_iconst C (nI 0) dL_rests_112 (by decide) ?_
            refine z_istore C dL_rests_113 (Nat.le_of_ble_eq_true rfl) ?_
            refine z_lv (lv' := [some (.ref x0), some (.int (nI x)), some (.int (nI y)), some (.int (nI (kN S x))), some (.int (nI (kN S y))), some (.int (nI 0)), some (.int (nI 0)), some (.int (nI 0)), none]) rfl ?_
            refine z_iload C dL_rests_115 rfl ?_
            refine z_iconst C (nI 4) dL_rests_117 (by decide) ?_
            refine z_ncmp_ne_t C 165 dL_rests_118 (by decide) (by omega) (by omega) (by omega) ?_
            refine z_iconst C (nI 0) dL_rests_165 (by decide) ?_
            refine z_istore C dL_rests_166 (Nat.le_of_ble_eq_true rfl) ?_
            refine z_lv (lv' := [some (.ref x0), some (.int (nI x)), some (.int (nI y)), some (.int (nI (kN S x))), some (.int (nI (kN S y))), some (.int (nI 0)), some (.int (nI 0)), some (.int (nI 0)), some (.int (nI 0))]) rfl ?_
            refine z_iload C dL_rests_168 rfl ?_
            refine z_nif_eq_t C 192 dL_rests_170 (by decide) (by omega) (by omega) ?_
            refine z_iconst C (nI 0) dL_rests_192 (by decide) ?_
            exact z_iret C N dL_rests_193 (rfl) (congrArg (fun x => some (Value.int x)) (zb_f (by first | (simp [sup_e hG hx hy, rsL, h_1, h_2, h_13, h_15, h_16]; done) | (simp [sup_e hG hx hy, rsL, h_1, h_2, h_13, h_15, h_16]; intros; omega))).symm)
          · refine z_iconst C (nI 1) dL_rests_70 (by decide) ?_
            refine z_goto C 75 dL_rests_71 (by decide) ?_
            refine z_istore C dL_rests_75 (Nat.le_of_ble_eq_true rfl) ?_
            refine z_lv (lv' := [some (.ref x0), some (.int (nI x)), some (.int (nI y)), some (.int (nI (kN S x))), some (.int (nI (kN S y))), some (.int (nI 0)), some (.int (nI 1)), none, none]) rfl ?_
            refine z_iload C dL_rests_77 rfl ?_
            refine z_iconst C (nI 2) dL_rests_79 (by decide) ?_
            refine z_ncmp_ne_t C 112 dL_rests_80 (by decide) (by omega) (by omega) (by omega) ?_
            refine z_iconst C (nI 0) dL_rests_112 (by decide) ?_
            refine z_istore C dL_rests_113 (Nat.le_of_ble_eq_true rfl) ?_
            refine z_lv (lv' := [some (.ref x0), some (.int (nI x)), some (.int (nI y)), some (.int (nI (kN S x))), some (.int (nI (kN S y))), some (.int (nI 0)), some (.int (nI 1)), some (.int (nI 0)), none]) rfl ?_
            refine z_iload C dL_rests_115 rfl ?_
            refine z_iconst C (nI 4) dL_rests_117 (by decide) ?_
            refine z_ncmp_ne_t C 165 dL_rests_118 (by decide) (by omega) (by omega) (by omega) ?_
            refine z_iconst C (nI 0) dL_rests_165 (by decide) ?_
            refine z_istore C dL_rests_166 (Nat.le_of_ble_eq_true rfl) ?_
            refine z_lv (lv' := [some (.ref x0), some (.int (nI x)), some (.int (nI y)), some (.int (nI (kN S x))), some (.int (nI (kN S y))), some (.int (nI 0)), some (.int (nI 1)), some (.int (nI 0)), some (.int (nI 0))]) rfl ?_
            refine z_iload C dL_rests_168 rfl ?_
            refine z_nif_eq_t C 192 dL_rests_170 (by decide) (by omega) (by omega) ?_
            refine z_iconst C (nI 0) dL_rests_192 (by decide) ?_
            exact z_iret C N dL_rests_193 (rfl) (congrArg (fun x => some (Value.int x)) (zb_f (by first | (simp [sup_e hG hx hy, rsL, h_1, h_2, h_13, h_15, h_16]; done) | (simp [sup_e hG hx hy, rsL, h_1, h_2, h_13, h_15, h_16]; intros; omega))).symm)
  · refine z_aload_n C 0 dL_rests_24 rfl rfl ?_
    refine z_iload_n C 2 dL_rests_25 rfl rfl ?_
    refine z_iconst C (nI 2) dL_rests_26 (by decide) ?_
    refine z_callVr C kX5_change gL_rests_X5_change (l_chg2 X.2.1 x0 h0 w0 t S y hG hy) dL_rests_27 [0, 1, 2, 3, 4, 5, 6, 7, 8] [] 0 rfl nd_0_1_2_3_4_5_6_7_8 rfl rfl rfl (by decide) (by decide) (Nat.le_of_ble_eq_true rfl) rfl ?_
    refine z_nif_ne C 37 dL_rests_30 (by decide) (by omega) (fun h_17 => ?_) (fun h_17 => ?_)
    · refine z_iconst C (nI 0) dL_rests_37 (by decide) ?_
      refine z_istore C dL_rests_38 (Nat.le_of_ble_eq_true rfl) ?_
      refine z_lv (lv' := [some (.ref x0), some (.int (nI x)), some (.int (nI y)), some (.int (nI (kN S x))), some (.int (nI (kN S y))), some (.int (nI 0)), none, none, none]) rfl ?_
      refine z_iload C dL_rests_40 rfl ?_
      refine z_nif_ne C 74 dL_rests_42 (by decide) (by omega) (fun h_18 => ?_) (fun h_18 => ?_)
      · refine z_iconst C (nI 0) dL_rests_74 (by decide) ?_
        refine z_istore C dL_rests_75 (Nat.le_of_ble_eq_true rfl) ?_
        refine z_lv (lv' := [some (.ref x0), some (.int (nI x)), some (.int (nI y)), some (.int (nI (kN S x))), some (.int (nI (kN S y))), some (.int (nI 0)), some (.int (nI 0)), none, none]) rfl ?_
        refine z_iload C dL_rests_77 rfl ?_
        refine z_iconst C (nI 2) dL_rests_79 (by decide) ?_
        refine z_ncmp_ne C 112 dL_rests_80 (by decide) (by omega) (by omega) (fun h_19 => ?_) (fun h_19 => ?_)
        · refine z_iconst C (nI 0) dL_rests_112 (by decide) ?_
          refine z_istore C dL_rests_113 (Nat.le_of_ble_eq_true rfl) ?_
          refine z_lv (lv' := [some (.ref x0), some (.int (nI x)), some (.int (nI y)), some (.int (nI (kN S x))), some (.int (nI (kN S y))), some (.int (nI 0)), some (.int (nI 0)), some (.int (nI 0)), none]) rfl ?_
          refine z_iload C dL_rests_115 rfl ?_
          refine z_iconst C (nI 4) dL_rests_117 (by decide) ?_
          refine z_ncmp_ne C 165 dL_rests_118 (by decide) (by omega) (by omega) (fun h_20 => ?_) (fun h_20 => ?_)
          · refine z_iconst C (nI 0) dL_rests_165 (by decide) ?_
            refine z_istore C dL_rests_166 (Nat.le_of_ble_eq_true rfl) ?_
            refine z_lv (lv' := [some (.ref x0), some (.int (nI x)), some (.int (nI y)), some (.int (nI (kN S x))), some (.int (nI (kN S y))), some (.int (nI 0)), some (.int (nI 0)), some (.int (nI 0)), some (.int (nI 0))]) rfl ?_
            refine z_iload C dL_rests_168 rfl ?_
            refine z_nif_eq_t C 192 dL_rests_170 (by decide) (by omega) (by omega) ?_
            refine z_iconst C (nI 0) dL_rests_192 (by decide) ?_
            exact z_iret C N dL_rests_193 (rfl) (congrArg (fun x => some (Value.int x)) (zb_f (by first | (simp [sup_e hG hx hy, rsL, h_1, h_17, h_18, h_19, h_20]; done) | (simp [sup_e hG hx hy, rsL, h_1, h_17, h_18, h_19, h_20]; intros; omega))).symm)
          · refine z_iload_n C 3 dL_rests_121 rfl rfl ?_
            refine z_iconst C (nI 4) dL_rests_122 (by decide) ?_
            refine z_ncmp_ne C 165 dL_rests_123 (by decide) (by omega) (by omega) (fun h_21 => ?_) (fun h_21 => ?_)
            · refine z_iconst C (nI 0) dL_rests_165 (by decide) ?_
              refine z_istore C dL_rests_166 (Nat.le_of_ble_eq_true rfl) ?_
              refine z_lv (lv' := [some (.ref x0), some (.int (nI x)), some (.int (nI y)), some (.int (nI (kN S x))), some (.int (nI (kN S y))), some (.int (nI 0)), some (.int (nI 0)), some (.int (nI 0)), some (.int (nI 0))]) rfl ?_
              refine z_iload C dL_rests_168 rfl ?_
              refine z_nif_eq_t C 192 dL_rests_170 (by decide) (by omega) (by omega) ?_
              refine z_iconst C (nI 0) dL_rests_192 (by decide) ?_
              exact z_iret C N dL_rests_193 (rfl) (congrArg (fun x => some (Value.int x)) (zb_f (by first | (simp [sup_e hG hx hy, rsL, h_1, h_17, h_18, h_19, h_20, h_21]; done) | (simp [sup_e hG hx hy, rsL, h_1, h_17, h_18, h_19, h_20, h_21]; intros; omega))).symm)
            · refine z_iload_n C 2 dL_rests_126 rfl rfl ?_
              refine z_iload_n C 1 dL_rests_127 rfl rfl ?_
              refine z_ncmp_ge C 165 dL_rests_128 (by decide) (by omega) (by omega) (fun h_22 => ?_) (fun h_22 => ?_)
              · refine z_iconst C (nI 0) dL_rests_165 (by decide) ?_
                refine z_istore C dL_rests_166 (Nat.le_of_ble_eq_true rfl) ?_
                refine z_lv (lv' := [some (.ref x0), some (.int (nI x)), some (.int (nI y)), some (.int (nI (kN S x))), some (.int (nI (kN S y))), some (.int (nI 0)), some (.int (nI 0)), some (.int (nI 0)), some (.int (nI 0))]) rfl ?_
                refine z_iload C dL_rests_168 rfl ?_
                refine z_nif_eq_t C 192 dL_rests_170 (by decide) (by omega) (by omega) ?_
                refine z_iconst C (nI 0) dL_rests_192 (by decide) ?_
                exact z_iret C N dL_rests_193 (rfl) (congrArg (fun x => some (Value.int x)) (zb_f (by first | (simp [sup_e hG hx hy, rsL, h_1, h_17, h_18, h_19, h_20, h_21, h_22]; done) | (simp [sup_e hG hx hy, rsL, h_1, h_17, h_18, h_19, h_20, h_21, h_22]; intros; omega))).symm)
              · refine z_aload_n C 0 dL_rests_131 rfl rfl ?_
                refine z_iload_n C 2 dL_rests_132 rfl rfl ?_
                refine z_iconst C (nI 3) dL_rests_133 (by decide) ?_
                refine z_callVr C kX5_change gL_rests_X5_change (l_chg3 X.2.1 x0 h0 w0 t S y hG hy) dL_rests_134 [0, 1, 2, 3, 4, 5, 6, 7, 8] [] 0 rfl nd_0_1_2_3_4_5_6_7_8 rfl rfl rfl (by decide) (by decide) (Nat.le_of_ble_eq_true rfl) rfl ?_
                refine z_aload_n C 0 dL_rests_137 rfl rfl ?_
                refine z_iload_n C 1 dL_rests_138 rfl rfl ?_
                refine z_iconst C (nI 3) dL_rests_139 (by decide) ?_
                refine z_callVr C kX5_change gL_rests_X5_change (l_chg3 X.2.1 x0 h0 w0 t S x hG hx) dL_rests_140 [0, 1, 2, 3, 4, 5, 6, 7, 8] [.int (eP (lP S 0 y))] 0 rfl nd_0_1_2_3_4_5_6_7_8 rfl rfl rfl (by decide) (by decide) (Nat.le_of_ble_eq_true rfl) rfl ?_
                refine z_icmp_ne C 165 dL_rests_143 (by decide) (fun h_23 => ?_) (fun h_23 => ?_)
                · refine z_iconst C (nI 0) dL_rests_165 (by decide) ?_
                  refine z_istore C dL_rests_166 (Nat.le_of_ble_eq_true rfl) ?_
                  refine z_lv (lv' := [some (.ref x0), some (.int (nI x)), some (.int (nI y)), some (.int (nI (kN S x))), some (.int (nI (kN S y))), some (.int (nI 0)), some (.int (nI 0)), some (.int (nI 0)), some (.int (nI 0))]) rfl ?_
                  refine z_iload C dL_rests_168 rfl ?_
                  refine z_nif_eq_t C 192 dL_rests_170 (by decide) (by omega) (by omega) ?_
                  refine z_iconst C (nI 0) dL_rests_192 (by decide) ?_
                  exact z_iret C N dL_rests_193 (rfl) (congrArg (fun x => some (Value.int x)) (zb_f (by first | (simp [sup_e hG hx hy, rsL, h_1, h_17, h_18, h_19, h_20, h_21, h_22, h_23]; done) | (simp [sup_e hG hx hy, rsL, h_1, h_17, h_18, h_19, h_20, h_21, h_22, h_23]; intros; omega))).symm)
                · refine z_aload_n C 0 dL_rests_146 rfl rfl ?_
                  refine z_iload_n C 2 dL_rests_147 rfl rfl ?_
                  refine z_iconst C (nI 4) dL_rests_148 (by decide) ?_
                  refine z_callVr C kX5_change gL_rests_X5_change (l_chg4 X.2.1 x0 h0 w0 t S y hG hy) dL_rests_149 [0, 1, 2, 3, 4, 5, 6, 7, 8] [] 0 rfl nd_0_1_2_3_4_5_6_7_8 rfl rfl rfl (by decide) (by decide) (Nat.le_of_ble_eq_true rfl) rfl ?_
                  refine z_aload_n C 0 dL_rests_152 rfl rfl ?_
                  refine z_iload_n C 1 dL_rests_153 rfl rfl ?_
                  refine z_iconst C (nI 4) dL_rests_154 (by decide) ?_
                  refine z_callVr C kX5_change gL_rests_X5_change (l_chg4 X.2.1 x0 h0 w0 t S x hG hx) dL_rests_155 [0, 1, 2, 3, 4, 5, 6, 7, 8] [.int (eP (lP S 1 y))] 0 rfl nd_0_1_2_3_4_5_6_7_8 rfl rfl rfl (by decide) (by decide) (Nat.le_of_ble_eq_true rfl) rfl ?_
                  refine z_icmp_ne C 165 dL_rests_158 (by decide) (fun h_24 => ?_) (fun h_24 => ?_)
                  · refine z_iconst C (nI 0) dL_rests_165 (by decide) ?_
                    refine z_istore C dL_rests_166 (Nat.le_of_ble_eq_true rfl) ?_
                    refine z_lv (lv' := [some (.ref x0), some (.int (nI x)), some (.int (nI y)), some (.int (nI (kN S x))), some (.int (nI (kN S y))), some (.int (nI 0)), some (.int (nI 0)), some (.int (nI 0)), some (.int (nI 0))]) rfl ?_
                    refine z_iload C dL_rests_168 rfl ?_
                    refine z_nif_eq_t C 192 dL_rests_170 (by decide) (by omega) (by omega) ?_
                    refine z_iconst C (nI 0) dL_rests_192 (by decide) ?_
                    exact z_iret C N dL_rests_193 (rfl) (congrArg (fun x => some (Value.int x)) (zb_f (by first | (simp [sup_e hG hx hy, rsL, h_1, h_17, h_18, h_19, h_20, h_21, h_22, h_23, h_24]; done) | (simp [sup_e hG hx hy, rsL, h_1, h_17, h_18, h_19, h_20, h_21, h_22, h_23, h_24]; intros; omega))).symm)
                  · refine z_iconst C (nI 1) dL_rests_161 (by decide) ?_
                    refine z_goto C 166 dL_rests_162 (by decide) ?_
                    refine z_istore C dL_rests_166 (Nat.le_of_ble_eq_true rfl) ?_
                    refine z_lv (lv' := [some (.ref x0), some (.int (nI x)), some (.int (nI y)), some (.int (nI (kN S x))), some (.int (nI (kN S y))), some (.int (nI 0)), some (.int (nI 0)), some (.int (nI 0)), some (.int (nI 1))]) rfl ?_
                    refine z_iload C dL_rests_168 rfl ?_
                    refine z_nif_eq_t C 192 dL_rests_170 (by decide) (by omega) (by omega) ?_
                    refine z_iconst C (nI 0) dL_rests_192 (by decide) ?_
                    exact z_iret C N dL_rests_193 (rfl) (congrArg (fun x => some (Value.int x)) (zb_f (by first | (simp [sup_e hG hx hy, rsL, h_1, h_17, h_18, h_19, h_20, h_21, h_22, h_23, h_24]; done) | (simp [sup_e hG hx hy, rsL, h_1, h_17, h_18, h_19, h_20, h_21, h_22, h_23, h_24]; intros; omega))).symm)
        · refine z_iload_n C 3 dL_rests_83 rfl rfl ?_
          refine z_iconst C (nI 3) dL_rests_84 (by decide) ?_
          refine z_ncmp_eq C 93 dL_rests_85 (by decide) (by omega) (by omega) (fun h_25 => ?_) (fun h_25 => ?_)
          · refine z_aload_n C 0 dL_rests_93 rfl rfl ?_
            refine z_iload_n C 2 dL_rests_94 rfl rfl ?_
            refine z_iconst C (nI 4) dL_rests_95 (by decide) ?_
            refine z_callVr C kX5_change gL_rests_X5_change (l_chg4 X.2.1 x0 h0 w0 t S y hG hy) dL_rests_96 [0, 1, 2, 3, 4, 5, 6, 7, 8] [] 0 rfl nd_0_1_2_3_4_5_6_7_8 rfl rfl rfl (by decide) (by decide) (Nat.le_of_ble_eq_true rfl) rfl ?_
            refine z_aload_n C 0 dL_rests_99 rfl rfl ?_
            refine z_iload_n C 1 dL_rests_100 rfl rfl ?_
            refine z_iconst C (nI 4) dL_rests_101 (by decide) ?_
            refine z_callVr C kX5_change gL_rests_X5_change (l_chg4 X.2.1 x0 h0 w0 t S x hG hx) dL_rests_102 [0, 1, 2, 3, 4, 5, 6, 7, 8] [.int (eP (lP S 1 y))] 0 rfl nd_0_1_2_3_4_5_6_7_8 rfl rfl rfl (by decide) (by decide) (Nat.le_of_ble_eq_true rfl) rfl ?_
            refine z_icmp_ne C 112 dL_rests_105 (by decide) (fun h_26 => ?_) (fun h_26 => ?_)
            · refine z_iconst C (nI 0) dL_rests_112 (by decide) ?_
              refine z_istore C dL_rests_113 (Nat.le_of_ble_eq_true rfl) ?_
              refine z_lv (lv' := [some (.ref x0), some (.int (nI x)), some (.int (nI y)), some (.int (nI (kN S x))), some (.int (nI (kN S y))), some (.int (nI 0)), some (.int (nI 0)), some (.int (nI 0)), none]) rfl ?_
              refine z_iload C dL_rests_115 rfl ?_
              refine z_iconst C (nI 4) dL_rests_117 (by decide) ?_
              refine z_ncmp_ne_t C 165 dL_rests_118 (by decide) (by omega) (by omega) (by omega) ?_
              refine z_iconst C (nI 0) dL_rests_165 (by decide) ?_
              refine z_istore C dL_rests_166 (Nat.le_of_ble_eq_true rfl) ?_
              refine z_lv (lv' := [some (.ref x0), some (.int (nI x)), some (.int (nI y)), some (.int (nI (kN S x))), some (.int (nI (kN S y))), some (.int (nI 0)), some (.int (nI 0)), some (.int (nI 0)), some (.int (nI 0))]) rfl ?_
              refine z_iload C dL_rests_168 rfl ?_
              refine z_nif_eq_t C 192 dL_rests_170 (by decide) (by omega) (by omega) ?_
              refine z_iconst C (nI 0) dL_rests_192 (by decide) ?_
              exact z_iret C N dL_rests_193 (rfl) (congrArg (fun x => some (Value.int x)) (zb_f (by first | (simp [sup_e hG hx hy, rsL, h_1, h_17, h_18, h_19, h_25, h_26]; done) | (simp [sup_e hG hx hy, rsL, h_1, h_17, h_18, h_19, h_25, h_26]; intros; omega))).symm)
            · refine z_iconst C (nI 1) dL_rests_108 (by decide) ?_
              refine z_goto C 113 dL_rests_109 (by decide) ?_
              refine z_istore C dL_rests_113 (Nat.le_of_ble_eq_true rfl) ?_
              refine z_lv (lv' := [some (.ref x0), some (.int (nI x)), some (.int (nI y)), some (.int (nI (kN S x))), some (.int (nI (kN S y))), some (.int (nI 0)), some (.int (nI 0)), some (.int (nI 1)), none]) rfl ?_
              refine z_iload C dL_rests_115 rfl ?_
              refine z_iconst C (nI 4) dL_rests_117 (by decide) ?_
              refine z_ncmp_ne_t C 165 dL_rests_118 (by decide) (by omega) (by omega) (by omega) ?_
              refine z_iconst C (nI 0) dL_rests_165 (by decide) ?_
              refine z_istore C dL_rests_166 (Nat.le_of_ble_eq_true rfl) ?_
              refine z_lv (lv' := [some (.ref x0), some (.int (nI x)), some (.int (nI y)), some (.int (nI (kN S x))), some (.int (nI (kN S y))), some (.int (nI 0)), some (.int (nI 0)), some (.int (nI 1)), some (.int (nI 0))]) rfl ?_
              refine z_iload C dL_rests_168 rfl ?_
              refine z_nif_eq_t C 192 dL_rests_170 (by decide) (by omega) (by omega) ?_
              refine z_iconst C (nI 0) dL_rests_192 (by decide) ?_
              exact z_iret C N dL_rests_193 (rfl) (congrArg (fun x => some (Value.int x)) (zb_f (by first | (simp [sup_e hG hx hy, rsL, h_1, h_17, h_18, h_19, h_25, h_26]; done) | (simp [sup_e hG hx hy, rsL, h_1, h_17, h_18, h_19, h_25, h_26]; intros; omega))).symm)
          · refine z_iload_n C 3 dL_rests_88 rfl rfl ?_
            refine z_iconst C (nI 4) dL_rests_89 (by decide) ?_
            refine z_ncmp_ne C 112 dL_rests_90 (by decide) (by omega) (by omega) (fun h_27 => ?_) (fun h_27 => ?_)
            · refine z_iconst C (nI 0) dL_rests_112 (by decide) ?_
              refine z_istore C dL_rests_113 (Nat.le_of_ble_eq_true rfl) ?_
              refine z_lv (lv' := [some (.ref x0), some (.int (nI x)), some (.int (nI y)), some (.int (nI (kN S x))), some (.int (nI (kN S y))), some (.int (nI 0)), some (.int (nI 0)), some (.int (nI 0)), none]) rfl ?_
              refine z_iload C dL_rests_115 rfl ?_
              refine z_iconst C (nI 4) dL_rests_117 (by decide) ?_
              refine z_ncmp_ne_t C 165 dL_rests_118 (by decide) (by omega) (by omega) (by omega) ?_
              refine z_iconst C (nI 0) dL_rests_165 (by decide) ?_
              refine z_istore C dL_rests_166 (Nat.le_of_ble_eq_true rfl) ?_
              refine z_lv (lv' := [some (.ref x0), some (.int (nI x)), some (.int (nI y)), some (.int (nI (kN S x))), some (.int (nI (kN S y))), some (.int (nI 0)), some (.int (nI 0)), some (.int (nI 0)), some (.int (nI 0))]) rfl ?_
              refine z_iload C dL_rests_168 rfl ?_
              refine z_nif_eq_t C 192 dL_rests_170 (by decide) (by omega) (by omega) ?_
              refine z_iconst C (nI 0) dL_rests_192 (by decide) ?_
              exact z_iret C N dL_rests_193 (rfl) (congrArg (fun x => some (Value.int x)) (zb_f (by first | (simp [sup_e hG hx hy, rsL, h_1, h_17, h_18, h_19, h_25, h_27]; done) | (simp [sup_e hG hx hy, rsL, h_1, h_17, h_18, h_19, h_25, h_27]; intros; omega))).symm)
            · refine z_aload_n C 0 dL_rests_93 rfl rfl ?_
              refine z_iload_n C 2 dL_rests_94 rfl rfl ?_
              refine z_iconst C (nI 4) dL_rests_95 (by decide) ?_
              refine z_callVr C kX5_change gL_rests_X5_change (l_chg4 X.2.1 x0 h0 w0 t S y hG hy) dL_rests_96 [0, 1, 2, 3, 4, 5, 6, 7, 8] [] 0 rfl nd_0_1_2_3_4_5_6_7_8 rfl rfl rfl (by decide) (by decide) (Nat.le_of_ble_eq_true rfl) rfl ?_
              refine z_aload_n C 0 dL_rests_99 rfl rfl ?_
              refine z_iload_n C 1 dL_rests_100 rfl rfl ?_
              refine z_iconst C (nI 4) dL_rests_101 (by decide) ?_
              refine z_callVr C kX5_change gL_rests_X5_change (l_chg4 X.2.1 x0 h0 w0 t S x hG hx) dL_rests_102 [0, 1, 2, 3, 4, 5, 6, 7, 8] [.int (eP (lP S 1 y))] 0 rfl nd_0_1_2_3_4_5_6_7_8 rfl rfl rfl (by decide) (by decide) (Nat.le_of_ble_eq_true rfl) rfl ?_
              refine z_icmp_ne C 112 dL_rests_105 (by decide) (fun h_28 => ?_) (fun h_28 => ?_)
              · refine z_iconst C (nI 0) dL_rests_112 (by decide) ?_
                refine z_istore C dL_rests_113 (Nat.le_of_ble_eq_true rfl) ?_
                refine z_lv (lv' := [some (.ref x0), some (.int (nI x)), some (.int (nI y)), some (.int (nI (kN S x))), some (.int (nI (kN S y))), some (.int (nI 0)), some (.int (nI 0)), some (.int (nI 0)), none]) rfl ?_
                refine z_iload C dL_rests_115 rfl ?_
                refine z_iconst C (nI 4) dL_rests_117 (by decide) ?_
                refine z_ncmp_ne_t C 165 dL_rests_118 (by decide) (by omega) (by omega) (by omega) ?_
                refine z_iconst C (nI 0) dL_rests_165 (by decide) ?_
                refine z_istore C dL_rests_166 (Nat.le_of_ble_eq_true rfl) ?_
                refine z_lv (lv' := [some (.ref x0), some (.int (nI x)), some (.int (nI y)), some (.int (nI (kN S x))), some (.int (nI (kN S y))), some (.int (nI 0)), some (.int (nI 0)), some (.int (nI 0)), some (.int (nI 0))]) rfl ?_
                refine z_iload C dL_rests_168 rfl ?_
                refine z_nif_eq_t C 192 dL_rests_170 (by decide) (by omega) (by omega) ?_
                refine z_iconst C (nI 0) dL_rests_192 (by decide) ?_
                exact z_iret C N dL_rests_193 (rfl) (congrArg (fun x => some (Value.int x)) (zb_f (by first | (simp [sup_e hG hx hy, rsL, h_1, h_17, h_18, h_19, h_25, h_27, h_28]; done) | (simp [sup_e hG hx hy, rsL, h_1, h_17, h_18, h_19, h_25, h_27, h_28]; intros; omega))).symm)
              · refine z_iconst C (nI 1) dL_rests_108 (by decide) ?_
                refine z_goto C 113 dL_rests_109 (by decide) ?_
                refine z_istore C dL_rests_113 (Nat.le_of_ble_eq_true rfl) ?_
                refine z_lv (lv' := [some (.ref x0), some (.int (nI x)), some (.int (nI y)), some (.int (nI (kN S x))), some (.int (nI (kN S y))), some (.int (nI 0)), some (.int (nI 0)), some (.int (nI 1)), none]) rfl ?_
                refine z_iload C dL_rests_115 rfl ?_
                refine z_iconst C (nI 4) dL_rests_117 (by decide) ?_
                refine z_ncmp_ne_t C 165 dL_rests_118 (by decide) (by omega) (by omega) (by omega) ?_
                refine z_iconst C (nI 0) dL_rests_165 (by decide) ?_
                refine z_istore C dL_rests_166 (Nat.le_of_ble_eq_true rfl) ?_
                refine z_lv (lv' := [some (.ref x0), some (.int (nI x)), some (.int (nI y)), some (.int (nI (kN S x))), some (.int (nI (kN S y))), some (.int (nI 0)), some (.int (nI 0)), some (.int (nI 1)), some (.int (nI 0))]) rfl ?_
                refine z_iload C dL_rests_168 rfl ?_
                refine z_nif_eq_t C 192 dL_rests_170 (by decide) (by omega) (by omega) ?_
                refine z_iconst C (nI 0) dL_rests_192 (by decide) ?_
                exact z_iret C N dL_rests_193 (rfl) (congrArg (fun x => some (Value.int x)) (zb_f (by first | (simp [sup_e hG hx hy, rsL, h_1, h_17, h_18, h_19, h_25, h_27, h_28]; done) | (simp [sup_e hG hx hy, rsL, h_1, h_17, h_18, h_19, h_25, h_27, h_28]; intros; omega))).symm)
      · refine z_iload_n C 3 dL_rests_45 rfl rfl ?_
        refine z_iconst C (nI 1) dL_rests_46 (by decide) ?_
        refine z_ncmp_eq C 55 dL_rests_47 (by decide) (by omega) (by omega) (fun h_29 => ?_) (fun h_29 => ?_)
        · refine z_aload_n C 0 dL_rests_55 rfl rfl ?_
          refine z_iload_n C 2 dL_rests_56 rfl rfl ?_
          refine z_iconst C (nI 3) dL_rests_57 (by decide) ?_
          refine z_callVr C kX5_change gL_rests_X5_change (l_chg3 X.2.1 x0 h0 w0 t S y hG hy) dL_rests_58 [0, 1, 2, 3, 4, 5, 6, 7, 8] [] 0 rfl nd_0_1_2_3_4_5_6_7_8 rfl rfl rfl (by decide) (by decide) (Nat.le_of_ble_eq_true rfl) rfl ?_
          refine z_aload_n C 0 dL_rests_61 rfl rfl ?_
          refine z_iload_n C 1 dL_rests_62 rfl rfl ?_
          refine z_iconst C (nI 3) dL_rests_63 (by decide) ?_
          refine z_callVr C kX5_change gL_rests_X5_change (l_chg3 X.2.1 x0 h0 w0 t S x hG hx) dL_rests_64 [0, 1, 2, 3, 4, 5, 6, 7, 8] [.int (eP (lP S 0 y))] 0 rfl nd_0_1_2_3_4_5_6_7_8 rfl rfl rfl (by decide) (by decide) (Nat.le_of_ble_eq_true rfl) rfl ?_
          refine z_icmp_ne C 74 dL_rests_67 (by decide) (fun h_30 => ?_) (fun h_30 => ?_)
          · refine z_iconst C (nI 0) dL_rests_74 (by decide) ?_
            refine z_istore C dL_rests_75 (Nat.le_of_ble_eq_true rfl) ?_
            refine z_lv (lv' := [some (.ref x0), some (.int (nI x)), some (.int (nI y)), some (.int (nI (kN S x))), some (.int (nI (kN S y))), some (.int (nI 0)), some (.int (nI 0)), none, none]) rfl ?_
            refine z_iload C dL_rests_77 rfl ?_
            refine z_iconst C (nI 2) dL_rests_79 (by decide) ?_
            refine z_ncmp_ne_t C 112 dL_rests_80 (by decide) (by omega) (by omega) (by omega) ?_
            refine z_iconst C (nI 0) dL_rests_112 (by decide) ?_
            refine z_istore C dL_rests_113 (Nat.le_of_ble_eq_true rfl) ?_
            refine z_lv (lv' := [some (.ref x0), some (.int (nI x)), some (.int (nI y)), some (.int (nI (kN S x))), some (.int (nI (kN S y))), some (.int (nI 0)), some (.int (nI 0)), some (.int (nI 0)), none]) rfl ?_
            refine z_iload C dL_rests_115 rfl ?_
            refine z_iconst C (nI 4) dL_rests_117 (by decide) ?_
            refine z_ncmp_ne_t C 165 dL_rests_118 (by decide) (by omega) (by omega) (by omega) ?_
            refine z_iconst C (nI 0) dL_rests_165 (by decide) ?_
            refine z_istore C dL_rests_166 (Nat.le_of_ble_eq_true rfl) ?_
            refine z_lv (lv' := [some (.ref x0), some (.int (nI x)), some (.int (nI y)), some (.int (nI (kN S x))), some (.int (nI (kN S y))), some (.int (nI 0)), some (.int (nI 0)), some (.int (nI 0)), some (.int (nI 0))]) rfl ?_
            refine z_iload C dL_rests_168 rfl ?_
            refine z_nif_eq_t C 192 dL_rests_170 (by decide) (by omega) (by omega) ?_
            refine z_iconst C (nI 0) dL_rests_192 (by decide) ?_
            exact z_iret C N dL_rests_193 (rfl) (congrArg (fun x => some (Value.int x)) (zb_f (by first | (simp [sup_e hG hx hy, rsL, h_1, h_17, h_18, h_29, h_30]; done) | (simp [sup_e hG hx hy, rsL, h_1, h_17, h_18, h_29, h_30]; intros; omega))).symm)
          · refine z_iconst C (nI 1) dL_rests_70 (by decide) ?_
            refine z_goto C 75 dL_rests_71 (by decide) ?_
            refine z_istore C dL_rests_75 (Nat.le_of_ble_eq_true rfl) ?_
            refine z_lv (lv' := [some (.ref x0), some (.int (nI x)), some (.int (nI y)), some (.int (nI (kN S x))), some (.int (nI (kN S y))), some (.int (nI 0)), some (.int (nI 1)), none, none]) rfl ?_
            refine z_iload C dL_rests_77 rfl ?_
            refine z_iconst C (nI 2) dL_rests_79 (by decide) ?_
            refine z_ncmp_ne_t C 112 dL_rests_80 (by decide) (by omega) (by omega) (by omega) ?_
            refine z_iconst C (nI 0) dL_rests_112 (by decide) ?_
            refine z_istore C dL_rests_113 (Nat.le_of_ble_eq_true rfl) ?_
            refine z_lv (lv' := [some (.ref x0), some (.int (nI x)), some (.int (nI y)), some (.int (nI (kN S x))), some (.int (nI (kN S y))), some (.int (nI 0)), some (.int (nI 1)), some (.int (nI 0)), none]) rfl ?_
            refine z_iload C dL_rests_115 rfl ?_
            refine z_iconst C (nI 4) dL_rests_117 (by decide) ?_
            refine z_ncmp_ne_t C 165 dL_rests_118 (by decide) (by omega) (by omega) (by omega) ?_
            refine z_iconst C (nI 0) dL_rests_165 (by decide) ?_
            refine z_istore C dL_rests_166 (Nat.le_of_ble_eq_true rfl) ?_
            refine z_lv (lv' := [some (.ref x0), some (.int (nI x)), some (.int (nI y)), some (.int (nI (kN S x))), some (.int (nI (kN S y))), some (.int (nI 0)), some (.int (nI 1)), some (.int (nI 0)), some (.int (nI 0))]) rfl ?_
            refine z_iload C dL_rests_168 rfl ?_
            refine z_nif_eq_t C 192 dL_rests_170 (by decide) (by omega) (by omega) ?_
            refine z_iconst C (nI 0) dL_rests_192 (by decide) ?_
            exact z_iret C N dL_rests_193 (rfl) (congrArg (fun x => some (Value.int x)) (zb_f (by first | (simp [sup_e hG hx hy, rsL, h_1, h_17, h_18, h_29, h_30]; done) | (simp [sup_e hG hx hy, rsL, h_1, h_17, h_18, h_29, h_30]; intros; omega))).symm)
        · refine z_iload_n C 3 dL_rests_50 rfl rfl ?_
          refine z_iconst C (nI 4) dL_rests_51 (by decide) ?_
          refine z_ncmp_ne C 74 dL_rests_52 (by decide) (by omega) (by omega) (fun h_31 => ?_) (fun h_31 => ?_)
          · refine z_iconst C (nI 0) dL_rests_74 (by decide) ?_
            refine z_istore C dL_rests_75 (Nat.le_of_ble_eq_true rfl) ?_
            refine z_lv (lv' := [some (.ref x0), some (.int (nI x)), some (.int (nI y)), some (.int (nI (kN S x))), some (.int (nI (kN S y))), some (.int (nI 0)), some (.int (nI 0)), none, none]) rfl ?_
            refine z_iload C dL_rests_77 rfl ?_
            refine z_iconst C (nI 2) dL_rests_79 (by decide) ?_
            refine z_ncmp_ne_t C 112 dL_rests_80 (by decide) (by omega) (by omega) (by omega) ?_
            refine z_iconst C (nI 0) dL_rests_112 (by decide) ?_
            refine z_istore C dL_rests_113 (Nat.le_of_ble_eq_true rfl) ?_
            refine z_lv (lv' := [some (.ref x0), some (.int (nI x)), some (.int (nI y)), some (.int (nI (kN S x))), some (.int (nI (kN S y))), some (.int (nI 0)), some (.int (nI 0)), some (.int (nI 0)), none]) rfl ?_
            refine z_iload C dL_rests_115 rfl ?_
            refine z_iconst C (nI 4) dL_rests_117 (by decide) ?_
            refine z_ncmp_ne_t C 165 dL_rests_118 (by decide) (by omega) (by omega) (by omega) ?_
            refine z_iconst C (nI 0) dL_rests_165 (by decide) ?_
            refine z_istore C dL_rests_166 (Nat.le_of_ble_eq_true rfl) ?_
            refine z_lv (lv' := [some (.ref x0), some (.int (nI x)), some (.int (nI y)), some (.int (nI (kN S x))), some (.int (nI (kN S y))), some (.int (nI 0)), some (.int (nI 0)), some (.int (nI 0)), some (.int (nI 0))]) rfl ?_
            refine z_iload C dL_rests_168 rfl ?_
            refine z_nif_eq_t C 192 dL_rests_170 (by decide) (by omega) (by omega) ?_
            refine z_iconst C (nI 0) dL_rests_192 (by decide) ?_
            exact z_iret C N dL_rests_193 (rfl) (congrArg (fun x => some (Value.int x)) (zb_f (by first | (simp [sup_e hG hx hy, rsL, h_1, h_17, h_18, h_29, h_31]; done) | (simp [sup_e hG hx hy, rsL, h_1, h_17, h_18, h_29, h_31]; intros; omega))).symm)
          · refine z_aload_n C 0 dL_rests_55 rfl rfl ?_
            refine z_iload_n C 2 dL_rests_56 rfl rfl ?_
            refine z_iconst C (nI 3) dL_rests_57 (by decide) ?_
            refine z_callVr C kX5_change gL_rests_X5_change (l_chg3 X.2.1 x0 h0 w0 t S y hG hy) dL_rests_58 [0, 1, 2, 3, 4, 5, 6, 7, 8] [] 0 rfl nd_0_1_2_3_4_5_6_7_8 rfl rfl rfl (by decide) (by decide) (Nat.le_of_ble_eq_true rfl) rfl ?_
            refine z_aload_n C 0 dL_rests_61 rfl rfl ?_
            refine z_iload_n C 1 dL_rests_62 rfl rfl ?_
            refine z_iconst C (nI 3) dL_rests_63 (by decide) ?_
            refine z_callVr C kX5_change gL_rests_X5_change (l_chg3 X.2.1 x0 h0 w0 t S x hG hx) dL_rests_64 [0, 1, 2, 3, 4, 5, 6, 7, 8] [.int (eP (lP S 0 y))] 0 rfl nd_0_1_2_3_4_5_6_7_8 rfl rfl rfl (by decide) (by decide) (Nat.le_of_ble_eq_true rfl) rfl ?_
            refine z_icmp_ne C 74 dL_rests_67 (by decide) (fun h_32 => ?_) (fun h_32 => ?_)
            · refine z_iconst C (nI 0) dL_rests_74 (by decide) ?_
              refine z_istore C dL_rests_75 (Nat.le_of_ble_eq_true rfl) ?_
              refine z_lv (lv' := [some (.ref x0), some (.int (nI x)), some (.int (nI y)), some (.int (nI (kN S x))), some (.int (nI (kN S y))), some (.int (nI 0)), some (.int (nI 0)), none, none]) rfl ?_
              refine z_iload C dL_rests_77 rfl ?_
              refine z_iconst C (nI 2) dL_rests_79 (by decide) ?_
              refine z_ncmp_ne_t C 112 dL_rests_80 (by decide) (by omega) (by omega) (by omega) ?_
              refine z_iconst C (nI 0) dL_rests_112 (by decide) ?_
              refine z_istore C dL_rests_113 (Nat.le_of_ble_eq_true rfl) ?_
              refine z_lv (lv' := [some (.ref x0), some (.int (nI x)), some (.int (nI y)), some (.int (nI (kN S x))), some (.int (nI (kN S y))), some (.int (nI 0)), some (.int (nI 0)), some (.int (nI 0)), none]) rfl ?_
              refine z_iload C dL_rests_115 rfl ?_
              refine z_iconst C (nI 4) dL_rests_117 (by decide) ?_
              refine z_ncmp_ne_t C 165 dL_rests_118 (by decide) (by omega) (by omega) (by omega) ?_
              refine z_iconst C (nI 0) dL_rests_165 (by decide) ?_
              refine z_istore C dL_rests_166 (Nat.le_of_ble_eq_true rfl) ?_
              refine z_lv (lv' := [some (.ref x0), some (.int (nI x)), some (.int (nI y)), some (.int (nI (kN S x))), some (.int (nI (kN S y))), some (.int (nI 0)), some (.int (nI 0)), some (.int (nI 0)), some (.int (nI 0))]) rfl ?_
              refine z_iload C dL_rests_168 rfl ?_
              refine z_nif_eq_t C 192 dL_rests_170 (by decide) (by omega) (by omega) ?_
              refine z_iconst C (nI 0) dL_rests_192 (by decide) ?_
              exact z_iret C N dL_rests_193 (rfl) (congrArg (fun x => some (Value.int x)) (zb_f (by first | (simp [sup_e hG hx hy, rsL, h_1, h_17, h_18, h_29, h_31, h_32]; done) | (simp [sup_e hG hx hy, rsL, h_1, h_17, h_18, h_29, h_31, h_32]; intros; omega))).symm)
            · refine z_iconst C (nI 1) dL_rests_70 (by decide) ?_
              refine z_goto C 75 dL_rests_71 (by decide) ?_
              refine z_istore C dL_rests_75 (Nat.le_of_ble_eq_true rfl) ?_
              refine z_lv (lv' := [some (.ref x0), some (.int (nI x)), some (.int (nI y)), some (.int (nI (kN S x))), some (.int (nI (kN S y))), some (.int (nI 0)), some (.int (nI 1)), none, none]) rfl ?_
              refine z_iload C dL_rests_77 rfl ?_
              refine z_iconst C (nI 2) dL_rests_79 (by decide) ?_
              refine z_ncmp_ne_t C 112 dL_rests_80 (by decide) (by omega) (by omega) (by omega) ?_
              refine z_iconst C (nI 0) dL_rests_112 (by decide) ?_
              refine z_istore C dL_rests_113 (Nat.le_of_ble_eq_true rfl) ?_
              refine z_lv (lv' := [some (.ref x0), some (.int (nI x)), some (.int (nI y)), some (.int (nI (kN S x))), some (.int (nI (kN S y))), some (.int (nI 0)), some (.int (nI 1)), some (.int (nI 0)), none]) rfl ?_
              refine z_iload C dL_rests_115 rfl ?_
              refine z_iconst C (nI 4) dL_rests_117 (by decide) ?_
              refine z_ncmp_ne_t C 165 dL_rests_118 (by decide) (by omega) (by omega) (by omega) ?_
              refine z_iconst C (nI 0) dL_rests_165 (by decide) ?_
              refine z_istore C dL_rests_166 (Nat.le_of_ble_eq_true rfl) ?_
              refine z_lv (lv' := [some (.ref x0), some (.int (nI x)), some (.int (nI y)), some (.int (nI (kN S x))), some (.int (nI (kN S y))), some (.int (nI 0)), some (.int (nI 1)), some (.int (nI 0)), some (.int (nI 0))]) rfl ?_
              refine z_iload C dL_rests_168 rfl ?_
              refine z_nif_eq_t C 192 dL_rests_170 (by decide) (by omega) (by omega) ?_
              refine z_iconst C (nI 0) dL_rests_192 (by decide) ?_
              exact z_iret C N dL_rests_193 (rfl) (congrArg (fun x => some (Value.int x)) (zb_f (by first | (simp [sup_e hG hx hy, rsL, h_1, h_17, h_18, h_29, h_31, h_32]; done) | (simp [sup_e hG hx hy, rsL, h_1, h_17, h_18, h_29, h_31, h_32]; intros; omega))).symm)
    · refine z_iconst C (nI 1) dL_rests_33 (by decide) ?_
      refine z_goto C 38 dL_rests_34 (by decide) ?_
      refine z_istore C dL_rests_38 (Nat.le_of_ble_eq_true rfl) ?_
      refine z_lv (lv' := [some (.ref x0), some (.int (nI x)), some (.int (nI y)), some (.int (nI (kN S x))), some (.int (nI (kN S y))), some (.int (nI 1)), none, none, none]) rfl ?_
      refine z_iload C dL_rests_40 rfl ?_
      refine z_nif_ne C 74 dL_rests_42 (by decide) (by omega) (fun h_33 => ?_) (fun h_33 => ?_)
      · refine z_iconst C (nI 0) dL_rests_74 (by decide) ?_
        refine z_istore C dL_rests_75 (Nat.le_of_ble_eq_true rfl) ?_
        refine z_lv (lv' := [some (.ref x0), some (.int (nI x)), some (.int (nI y)), some (.int (nI (kN S x))), some (.int (nI (kN S y))), some (.int (nI 1)), some (.int (nI 0)), none, none]) rfl ?_
        refine z_iload C dL_rests_77 rfl ?_
        refine z_iconst C (nI 2) dL_rests_79 (by decide) ?_
        refine z_ncmp_ne C 112 dL_rests_80 (by decide) (by omega) (by omega) (fun h_34 => ?_) (fun h_34 => ?_)
        · refine z_iconst C (nI 0) dL_rests_112 (by decide) ?_
          refine z_istore C dL_rests_113 (Nat.le_of_ble_eq_true rfl) ?_
          refine z_lv (lv' := [some (.ref x0), some (.int (nI x)), some (.int (nI y)), some (.int (nI (kN S x))), some (.int (nI (kN S y))), some (.int (nI 1)), some (.int (nI 0)), some (.int (nI 0)), none]) rfl ?_
          refine z_iload C dL_rests_115 rfl ?_
          refine z_iconst C (nI 4) dL_rests_117 (by decide) ?_
          refine z_ncmp_ne C 165 dL_rests_118 (by decide) (by omega) (by omega) (fun h_35 => ?_) (fun h_35 => ?_)
          · refine z_iconst C (nI 0) dL_rests_165 (by decide) ?_
            refine z_istore C dL_rests_166 (Nat.le_of_ble_eq_true rfl) ?_
            refine z_lv (lv' := [some (.ref x0), some (.int (nI x)), some (.int (nI y)), some (.int (nI (kN S x))), some (.int (nI (kN S y))), some (.int (nI 1)), some (.int (nI 0)), some (.int (nI 0)), some (.int (nI 0))]) rfl ?_
            refine z_iload C dL_rests_168 rfl ?_
            refine z_nif_eq_f C 192 dL_rests_170 (by decide) (by omega) (by omega) ?_
            refine z_iload C dL_rests_173 rfl ?_
            refine z_nif_ne_f C 188 dL_rests_175 (by decide) (by omega) (by omega) ?_
            refine z_iload C dL_rests_178 rfl ?_
            refine z_nif_ne_f C 188 dL_rests_180 (by decide) (by omega) (by omega) ?_
            refine z_iload C dL_rests_183 rfl ?_
            refine z_nif_eq_t C 192 dL_rests_185 (by decide) (by omega) (by omega) ?_
            refine z_iconst C (nI 0) dL_rests_192 (by decide) ?_
            exact z_iret C N dL_rests_193 (rfl) (congrArg (fun x => some (Value.int x)) (zb_f (by first | (simp [sup_e hG hx hy, rsL, h_1, h_17, h_33, h_34, h_35]; done) | (simp [sup_e hG hx hy, rsL, h_1, h_17, h_33, h_34, h_35]; intros; omega))).symm)
          · refine z_iload_n C 3 dL_rests_121 rfl rfl ?_
            refine z_iconst C (nI 4) dL_rests_122 (by decide) ?_
            refine z_ncmp_ne C 165 dL_rests_123 (by decide) (by omega) (by omega) (fun h_36 => ?_) (fun h_36 => ?_)
            · refine z_iconst C (nI 0) dL_rests_165 (by decide) ?_
              refine z_istore C dL_rests_166 (Nat.le_of_ble_eq_true rfl) ?_
              refine z_lv (lv' := [some (.ref x0), some (.int (nI x)), some (.int (nI y)), some (.int (nI (kN S x))), some (.int (nI (kN S y))), some (.int (nI 1)), some (.int (nI 0)), some (.int (nI 0)), some (.int (nI 0))]) rfl ?_
              refine z_iload C dL_rests_168 rfl ?_
              refine z_nif_eq_f C 192 dL_rests_170 (by decide) (by omega) (by omega) ?_
              refine z_iload C dL_rests_173 rfl ?_
              refine z_nif_ne_f C 188 dL_rests_175 (by decide) (by omega) (by omega) ?_
              refine z_iload C dL_rests_178 rfl ?_
              refine z_nif_ne_f C 188 dL_rests_180 (by decide) (by omega) (by omega) ?_
              refine z_iload C dL_rests_183 rfl ?_
              refine z_nif_eq_t C 192 dL_rests_185 (by decide) (by omega) (by omega) ?_
              refine z_iconst C (nI 0) dL_rests_192 (by decide) ?_
              exact z_iret C N dL_rests_193 (rfl) (congrArg (fun x => some (Value.int x)) (zb_f (by first | (simp [sup_e hG hx hy, rsL, h_1, h_17, h_33, h_34, h_35, h_36]; done) | (simp [sup_e hG hx hy, rsL, h_1, h_17, h_33, h_34, h_35, h_36]; intros; omega))).symm)
            · refine z_iload_n C 2 dL_rests_126 rfl rfl ?_
              refine z_iload_n C 1 dL_rests_127 rfl rfl ?_
              refine z_ncmp_ge C 165 dL_rests_128 (by decide) (by omega) (by omega) (fun h_37 => ?_) (fun h_37 => ?_)
              · refine z_iconst C (nI 0) dL_rests_165 (by decide) ?_
                refine z_istore C dL_rests_166 (Nat.le_of_ble_eq_true rfl) ?_
                refine z_lv (lv' := [some (.ref x0), some (.int (nI x)), some (.int (nI y)), some (.int (nI (kN S x))), some (.int (nI (kN S y))), some (.int (nI 1)), some (.int (nI 0)), some (.int (nI 0)), some (.int (nI 0))]) rfl ?_
                refine z_iload C dL_rests_168 rfl ?_
                refine z_nif_eq_f C 192 dL_rests_170 (by decide) (by omega) (by omega) ?_
                refine z_iload C dL_rests_173 rfl ?_
                refine z_nif_ne_f C 188 dL_rests_175 (by decide) (by omega) (by omega) ?_
                refine z_iload C dL_rests_178 rfl ?_
                refine z_nif_ne_f C 188 dL_rests_180 (by decide) (by omega) (by omega) ?_
                refine z_iload C dL_rests_183 rfl ?_
                refine z_nif_eq_t C 192 dL_rests_185 (by decide) (by omega) (by omega) ?_
                refine z_iconst C (nI 0) dL_rests_192 (by decide) ?_
                exact z_iret C N dL_rests_193 (rfl) (congrArg (fun x => some (Value.int x)) (zb_f (by first | (simp [sup_e hG hx hy, rsL, h_1, h_17, h_33, h_34, h_35, h_36, h_37]; done) | (simp [sup_e hG hx hy, rsL, h_1, h_17, h_33, h_34, h_35, h_36, h_37]; intros; omega))).symm)
              · refine z_aload_n C 0 dL_rests_131 rfl rfl ?_
                refine z_iload_n C 2 dL_rests_132 rfl rfl ?_
                refine z_iconst C (nI 3) dL_rests_133 (by decide) ?_
                refine z_callVr C kX5_change gL_rests_X5_change (l_chg3 X.2.1 x0 h0 w0 t S y hG hy) dL_rests_134 [0, 1, 2, 3, 4, 5, 6, 7, 8] [] 0 rfl nd_0_1_2_3_4_5_6_7_8 rfl rfl rfl (by decide) (by decide) (Nat.le_of_ble_eq_true rfl) rfl ?_
                refine z_aload_n C 0 dL_rests_137 rfl rfl ?_
                refine z_iload_n C 1 dL_rests_138 rfl rfl ?_
                refine z_iconst C (nI 3) dL_rests_139 (by decide) ?_
                refine z_callVr C kX5_change gL_rests_X5_change (l_chg3 X.2.1 x0 h0 w0 t S x hG hx) dL_rests_140 [0, 1, 2, 3, 4, 5, 6, 7, 8] [.int (eP (lP S 0 y))] 0 rfl nd_0_1_2_3_4_5_6_7_8 rfl rfl rfl (by decide) (by decide) (Nat.le_of_ble_eq_true rfl) rfl ?_
                refine z_icmp_ne C 165 dL_rests_143 (by decide) (fun h_38 => ?_) (fun h_38 => ?_)
                · refine z_iconst C (nI 0) dL_rests_165 (by decide) ?_
                  refine z_istore C dL_rests_166 (Nat.le_of_ble_eq_true rfl) ?_
                  refine z_lv (lv' := [some (.ref x0), some (.int (nI x)), some (.int (nI y)), some (.int (nI (kN S x))), some (.int (nI (kN S y))), some (.int (nI 1)), some (.int (nI 0)), some (.int (nI 0)), some (.int (nI 0))]) rfl ?_
                  refine z_iload C dL_rests_168 rfl ?_
                  refine z_nif_eq_f C 192 dL_rests_170 (by decide) (by omega) (by omega) ?_
                  refine z_iload C dL_rests_173 rfl ?_
                  refine z_nif_ne_f C 188 dL_rests_175 (by decide) (by omega) (by omega) ?_
                  refine z_iload C dL_rests_178 rfl ?_
                  refine z_nif_ne_f C 188 dL_rests_180 (by decide) (by omega) (by omega) ?_
                  refine z_iload C dL_rests_183 rfl ?_
                  refine z_nif_eq_t C 192 dL_rests_185 (by decide) (by omega) (by omega) ?_
                  refine z_iconst C (nI 0) dL_rests_192 (by decide) ?_
                  exact z_iret C N dL_rests_193 (rfl) (congrArg (fun x => some (Value.int x)) (zb_f (by first | (simp [sup_e hG hx hy, rsL, h_1, h_17, h_33, h_34, h_35, h_36, h_37, h_38]; done) | (simp [sup_e hG hx hy, rsL, h_1, h_17, h_33, h_34, h_35, h_36, h_37, h_38]; intros; omega))).symm)
                · refine z_aload_n C 0 dL_rests_146 rfl rfl ?_
                  refine z_iload_n C 2 dL_rests_147 rfl rfl ?_
                  refine z_iconst C (nI 4) dL_rests_148 (by decide) ?_
                  refine z_callVr C kX5_change gL_rests_X5_change (l_chg4 X.2.1 x0 h0 w0 t S y hG hy) dL_rests_149 [0, 1, 2, 3, 4, 5, 6, 7, 8] [] 0 rfl nd_0_1_2_3_4_5_6_7_8 rfl rfl rfl (by decide) (by decide) (Nat.le_of_ble_eq_true rfl) rfl ?_
                  refine z_aload_n C 0 dL_rests_152 rfl rfl ?_
                  refine z_iload_n C 1 dL_rests_153 rfl rfl ?_
                  refine z_iconst C (nI 4) dL_rests_154 (by decide) ?_
                  refine z_callVr C kX5_change gL_rests_X5_change (l_chg4 X.2.1 x0 h0 w0 t S x hG hx) dL_rests_155 [0, 1, 2, 3, 4, 5, 6, 7, 8] [.int (eP (lP S 1 y))] 0 rfl nd_0_1_2_3_4_5_6_7_8 rfl rfl rfl (by decide) (by decide) (Nat.le_of_ble_eq_true rfl) rfl ?_
                  refine z_icmp_ne C 165 dL_rests_158 (by decide) (fun h_39 => ?_) (fun h_39 => ?_)
                  · refine z_iconst C (nI 0) dL_rests_165 (by decide) ?_
                    refine z_istore C dL_rests_166 (Nat.le_of_ble_eq_true rfl) ?_
                    refine z_lv (lv' := [some (.ref x0), some (.int (nI x)), some (.int (nI y)), some (.int (nI (kN S x))), some (.int (nI (kN S y))), some (.int (nI 1)), some (.int (nI 0)), some (.int (nI 0)), some (.int (nI 0))]) rfl ?_
                    refine z_iload C dL_rests_168 rfl ?_
                    refine z_nif_eq_f C 192 dL_rests_170 (by decide) (by omega) (by omega) ?_
                    refine z_iload C dL_rests_173 rfl ?_
                    refine z_nif_ne_f C 188 dL_rests_175 (by decide) (by omega) (by omega) ?_
                    refine z_iload C dL_rests_178 rfl ?_
                    refine z_nif_ne_f C 188 dL_rests_180 (by decide) (by omega) (by omega) ?_
                    refine z_iload C dL_rests_183 rfl ?_
                    refine z_nif_eq_t C 192 dL_rests_185 (by decide) (by omega) (by omega) ?_
                    refine z_iconst C (nI 0) dL_rests_192 (by decide) ?_
                    exact z_iret C N dL_rests_193 (rfl) (congrArg (fun x => some (Value.int x)) (zb_f (by first | (simp [sup_e hG hx hy, rsL, h_1, h_17, h_33, h_34, h_35, h_36, h_37, h_38, h_39]; done) | (simp [sup_e hG hx hy, rsL, h_1, h_17, h_33, h_34, h_35, h_36, h_37, h_38, h_39]; intros; omega))).symm)
                  · refine z_iconst C (nI 1) dL_rests_161 (by decide) ?_
                    refine z_goto C 166 dL_rests_162 (by decide) ?_
                    refine z_istore C dL_rests_166 (Nat.le_of_ble_eq_true rfl) ?_
                    refine z_lv (lv' := [some (.ref x0), some (.int (nI x)), some (.int (nI y)), some (.int (nI (kN S x))), some (.int (nI (kN S y))), some (.int (nI 1)), some (.int (nI 0)), some (.int (nI 0)), some (.int (nI 1))]) rfl ?_
                    refine z_iload C dL_rests_168 rfl ?_
                    refine z_nif_eq_f C 192 dL_rests_170 (by decide) (by omega) (by omega) ?_
                    refine z_iload C dL_rests_173 rfl ?_
                    refine z_nif_ne_f C 188 dL_rests_175 (by decide) (by omega) (by omega) ?_
                    refine z_iload C dL_rests_178 rfl ?_
                    refine z_nif_ne_f C 188 dL_rests_180 (by decide) (by omega) (by omega) ?_
                    refine z_iload C dL_rests_183 rfl ?_
                    refine z_nif_eq_f C 192 dL_rests_185 (by decide) (by omega) (by omega) ?_
                    refine z_iconst C (nI 1) dL_rests_188 (by decide) ?_
                    refine z_goto C 193 dL_rests_189 (by decide) ?_
                    exact z_iret C N dL_rests_193 (rfl) (congrArg (fun x => some (Value.int x)) (zb_t (by first | (simp [sup_e hG hx hy, rsL, h_1, h_17, h_33, h_34, h_35, h_36, h_37, h_38, h_39]; done) | (simp [sup_e hG hx hy, rsL, h_1, h_17, h_33, h_34, h_35, h_36, h_37, h_38, h_39]; intros; omega))).symm)
        · refine z_iload_n C 3 dL_rests_83 rfl rfl ?_
          refine z_iconst C (nI 3) dL_rests_84 (by decide) ?_
          refine z_ncmp_eq C 93 dL_rests_85 (by decide) (by omega) (by omega) (fun h_40 => ?_) (fun h_40 => ?_)
          · refine z_aload_n C 0 dL_rests_93 rfl rfl ?_
            refine z_iload_n C 2 dL_rests_94 rfl rfl ?_
            refine z_iconst C (nI 4) dL_rests_95 (by decide) ?_
            refine z_callVr C kX5_change gL_rests_X5_change (l_chg4 X.2.1 x0 h0 w0 t S y hG hy) dL_rests_96 [0, 1, 2, 3, 4, 5, 6, 7, 8] [] 0 rfl nd_0_1_2_3_4_5_6_7_8 rfl rfl rfl (by decide) (by decide) (Nat.le_of_ble_eq_true rfl) rfl ?_
            refine z_aload_n C 0 dL_rests_99 rfl rfl ?_
            refine z_iload_n C 1 dL_rests_100 rfl rfl ?_
            refine z_iconst C (nI 4) dL_rests_101 (by decide) ?_
            refine z_callVr C kX5_change gL_rests_X5_change (l_chg4 X.2.1 x0 h0 w0 t S x hG hx) dL_rests_102 [0, 1, 2, 3, 4, 5, 6, 7, 8] [.int (eP (lP S 1 y))] 0 rfl nd_0_1_2_3_4_5_6_7_8 rfl rfl rfl (by decide) (by decide) (Nat.le_of_ble_eq_true rfl) rfl ?_
            refine z_icmp_ne C 112 dL_rests_105 (by decide) (fun h_41 => ?_) (fun h_41 => ?_)
            · refine z_iconst C (nI 0) dL_rests_112 (by decide) ?_
              refine z_istore C dL_rests_113 (Nat.le_of_ble_eq_true rfl) ?_
              refine z_lv (lv' := [some (.ref x0), some (.int (nI x)), some (.int (nI y)), some (.int (nI (kN S x))), some (.int (nI (kN S y))), some (.int (nI 1)), some (.int (nI 0)), some (.int (nI 0)), none]) rfl ?_
              refine z_iload C dL_rests_115 rfl ?_
              refine z_iconst C (nI 4) dL_rests_117 (by decide) ?_
              refine z_ncmp_ne_t C 165 dL_rests_118 (by decide) (by omega) (by omega) (by omega) ?_
              refine z_iconst C (nI 0) dL_rests_165 (by decide) ?_
              refine z_istore C dL_rests_166 (Nat.le_of_ble_eq_true rfl) ?_
              refine z_lv (lv' := [some (.ref x0), some (.int (nI x)), some (.int (nI y)), some (.int (nI (kN S x))), some (.int (nI (kN S y))), some (.int (nI 1)), some (.int (nI 0)), some (.int (nI 0)), some (.int (nI 0))]) rfl ?_
              refine z_iload C dL_rests_168 rfl ?_
              refine z_nif_eq_f C 192 dL_rests_170 (by decide) (by omega) (by omega) ?_
              refine z_iload C dL_rests_173 rfl ?_
              refine z_nif_ne_f C 188 dL_rests_175 (by decide) (by omega) (by omega) ?_
              refine z_iload C dL_rests_178 rfl ?_
              refine z_nif_ne_f C 188 dL_rests_180 (by decide) (by omega) (by omega) ?_
              refine z_iload C dL_rests_183 rfl ?_
              refine z_nif_eq_t C 192 dL_rests_185 (by decide) (by omega) (by omega) ?_
              refine z_iconst C (nI 0) dL_rests_192 (by decide) ?_
              exact z_iret C N dL_rests_193 (rfl) (congrArg (fun x => some (Value.int x)) (zb_f (by first | (simp [sup_e hG hx hy, rsL, h_1, h_17, h_33, h_34, h_40, h_41]; done) | (simp [sup_e hG hx hy, rsL, h_1, h_17, h_33, h_34, h_40, h_41]; intros; omega))).symm)
            · refine z_iconst C (nI 1) dL_rests_108 (by decide) ?_
              refine z_goto C 113 dL_rests_109 (by decide) ?_
              refine z_istore C dL_rests_113 (Nat.le_of_ble_eq_true rfl) ?_
              refine z_lv (lv' := [some (.ref x0), some (.int (nI x)), some (.int (nI y)), some (.int (nI (kN S x))), some (.int (nI (kN S y))), some (.int (nI 1)), some (.int (nI 0)), some (.int (nI 1)), none]) rfl ?_
              refine z_iload C dL_rests_115 rfl ?_
              refine z_iconst C (nI 4) dL_rests_117 (by decide) ?_
              refine z_ncmp_ne_t C 165 dL_rests_118 (by decide) (by omega) (by omega) (by omega) ?_
              refine z_iconst C (nI 0) dL_rests_165 (by decide) ?_
              refine z_istore C dL_rests_166 (Nat.le_of_ble_eq_true rfl) ?_
              refine z_lv (lv' := [some (.ref x0), some (.int (nI x)), some (.int (nI y)), some (.int (nI (kN S x))), some (.int (nI (kN S y))), some (.int (nI 1)), some (.int (nI 0)), some (.int (nI 1)), some (.int (nI 0))]) rfl ?_
              refine z_iload C dL_rests_168 rfl ?_
              refine z_nif_eq_f C 192 dL_rests_170 (by decide) (by omega) (by omega) ?_
              refine z_iload C dL_rests_173 rfl ?_
              refine z_nif_ne_f C 188 dL_rests_175 (by decide) (by omega) (by omega) ?_
              refine z_iload C dL_rests_178 rfl ?_
              refine z_nif_ne_t C 188 dL_rests_180 (by decide) (by omega) (by omega) ?_
              refine z_iconst C (nI 1) dL_rests_188 (by decide) ?_
              refine z_goto C 193 dL_rests_189 (by decide) ?_
              exact z_iret C N dL_rests_193 (rfl) (congrArg (fun x => some (Value.int x)) (zb_t (by first | (simp [sup_e hG hx hy, rsL, h_1, h_17, h_33, h_34, h_40, h_41]; done) | (simp [sup_e hG hx hy, rsL, h_1, h_17, h_33, h_34, h_40, h_41]; intros; omega))).symm)
          · refine z_iload_n C 3 dL_rests_88 rfl rfl ?_
            refine z_iconst C (nI 4) dL_rests_89 (by decide) ?_
            refine z_ncmp_ne C 112 dL_rests_90 (by decide) (by omega) (by omega) (fun h_42 => ?_) (fun h_42 => ?_)
            · refine z_iconst C (nI 0) dL_rests_112 (by decide) ?_
              refine z_istore C dL_rests_113 (Nat.le_of_ble_eq_true rfl) ?_
              refine z_lv (lv' := [some (.ref x0), some (.int (nI x)), some (.int (nI y)), some (.int (nI (kN S x))), some (.int (nI (kN S y))), some (.int (nI 1)), some (.int (nI 0)), some (.int (nI 0)), none]) rfl ?_
              refine z_iload C dL_rests_115 rfl ?_
              refine z_iconst C (nI 4) dL_rests_117 (by decide) ?_
              refine z_ncmp_ne_t C 165 dL_rests_118 (by decide) (by omega) (by omega) (by omega) ?_
              refine z_iconst C (nI 0) dL_rests_165 (by decide) ?_
              refine z_istore C dL_rests_166 (Nat.le_of_ble_eq_true rfl) ?_
              refine z_lv (lv' := [some (.ref x0), some (.int (nI x)), some (.int (nI y)), some (.int (nI (kN S x))), some (.int (nI (kN S y))), some (.int (nI 1)), some (.int (nI 0)), some (.int (nI 0)), some (.int (nI 0))]) rfl ?_
              refine z_iload C dL_rests_168 rfl ?_
              refine z_nif_eq_f C 192 dL_rests_170 (by decide) (by omega) (by omega) ?_
              refine z_iload C dL_rests_173 rfl ?_
              refine z_nif_ne_f C 188 dL_rests_175 (by decide) (by omega) (by omega) ?_
              refine z_iload C dL_rests_178 rfl ?_
              refine z_nif_ne_f C 188 dL_rests_180 (by decide) (by omega) (by omega) ?_
              refine z_iload C dL_rests_183 rfl ?_
              refine z_nif_eq_t C 192 dL_rests_185 (by decide) (by omega) (by omega) ?_
              refine z_iconst C (nI 0) dL_rests_192 (by decide) ?_
              exact z_iret C N dL_rests_193 (rfl) (congrArg (fun x => some (Value.int x)) (zb_f (by first | (simp [sup_e hG hx hy, rsL, h_1, h_17, h_33, h_34, h_40, h_42]; done) | (simp [sup_e hG hx hy, rsL, h_1, h_17, h_33, h_34, h_40, h_42]; intros; omega))).symm)
            · refine z_aload_n C 0 dL_rests_93 rfl rfl ?_
              refine z_iload_n C 2 dL_rests_94 rfl rfl ?_
              refine z_iconst C (nI 4) dL_rests_95 (by decide) ?_
              refine z_callVr C kX5_change gL_rests_X5_change (l_chg4 X.2.1 x0 h0 w0 t S y hG hy) dL_rests_96 [0, 1, 2, 3, 4, 5, 6, 7, 8] [] 0 rfl nd_0_1_2_3_4_5_6_7_8 rfl rfl rfl (by decide) (by decide) (Nat.le_of_ble_eq_true rfl) rfl ?_
              refine z_aload_n C 0 dL_rests_99 rfl rfl ?_
              refine z_iload_n C 1 dL_rests_100 rfl rfl ?_
              refine z_iconst C (nI 4) dL_rests_101 (by decide) ?_
              refine z_callVr C kX5_change gL_rests_X5_change (l_chg4 X.2.1 x0 h0 w0 t S x hG hx) dL_rests_102 [0, 1, 2, 3, 4, 5, 6, 7, 8] [.int (eP (lP S 1 y))] 0 rfl nd_0_1_2_3_4_5_6_7_8 rfl rfl rfl (by decide) (by decide) (Nat.le_of_ble_eq_true rfl) rfl ?_
              refine z_icmp_ne C 112 dL_rests_105 (by decide) (fun h_43 => ?_) (fun h_43 => ?_)
              · refine z_iconst C (nI 0) dL_rests_112 (by decide) ?_
                refine z_istore C dL_rests_113 (Nat.le_of_ble_eq_true rfl) ?_
                refine z_lv (lv' := [some (.ref x0), some (.int (nI x)), some (.int (nI y)), some (.int (nI (kN S x))), some (.int (nI (kN S y))), some (.int (nI 1)), some (.int (nI 0)), some (.int (nI 0)), none]) rfl ?_
                refine z_iload C dL_rests_115 rfl ?_
                refine z_iconst C (nI 4) dL_rests_117 (by decide) ?_
                refine z_ncmp_ne_t C 165 dL_rests_118 (by decide) (by omega) (by omega) (by omega) ?_
                refine z_iconst C (nI 0) dL_rests_165 (by decide) ?_
                refine z_istore C dL_rests_166 (Nat.le_of_ble_eq_true rfl) ?_
                refine z_lv (lv' := [some (.ref x0), some (.int (nI x)), some (.int (nI y)), some (.int (nI (kN S x))), some (.int (nI (kN S y))), some (.int (nI 1)), some (.int (nI 0)), some (.int (nI 0)), some (.int (nI 0))]) rfl ?_
                refine z_iload C dL_rests_168 rfl ?_
                refine z_nif_eq_f C 192 dL_rests_170 (by decide) (by omega) (by omega) ?_
                refine z_iload C dL_rests_173 rfl ?_
                refine z_nif_ne_f C 188 dL_rests_175 (by decide) (by omega) (by omega) ?_
                refine z_iload C dL_rests_178 rfl ?_
                refine z_nif_ne_f C 188 dL_rests_180 (by decide) (by omega) (by omega) ?_
                refine z_iload C dL_rests_183 rfl ?_
                refine z_nif_eq_t C 192 dL_rests_185 (by decide) (by omega) (by omega) ?_
                refine z_iconst C (nI 0) dL_rests_192 (by decide) ?_
                exact z_iret C N dL_rests_193 (rfl) (congrArg (fun x => some (Value.int x)) (zb_f (by first | (simp [sup_e hG hx hy, rsL, h_1, h_17, h_33, h_34, h_40, h_42, h_43]; done) | (simp [sup_e hG hx hy, rsL, h_1, h_17, h_33, h_34, h_40, h_42, h_43]; intros; omega))).symm)
              · refine z_iconst C (nI 1) dL_rests_108 (by decide) ?_
                refine z_goto C 113 dL_rests_109 (by decide) ?_
                refine z_istore C dL_rests_113 (Nat.le_of_ble_eq_true rfl) ?_
                refine z_lv (lv' := [some (.ref x0), some (.int (nI x)), some (.int (nI y)), some (.int (nI (kN S x))), some (.int (nI (kN S y))), some (.int (nI 1)), some (.int (nI 0)), some (.int (nI 1)), none]) rfl ?_
                refine z_iload C dL_rests_115 rfl ?_
                refine z_iconst C (nI 4) dL_rests_117 (by decide) ?_
                refine z_ncmp_ne_t C 165 dL_rests_118 (by decide) (by omega) (by omega) (by omega) ?_
                refine z_iconst C (nI 0) dL_rests_165 (by decide) ?_
                refine z_istore C dL_rests_166 (Nat.le_of_ble_eq_true rfl) ?_
                refine z_lv (lv' := [some (.ref x0), some (.int (nI x)), some (.int (nI y)), some (.int (nI (kN S x))), some (.int (nI (kN S y))), some (.int (nI 1)), some (.int (nI 0)), some (.int (nI 1)), some (.int (nI 0))]) rfl ?_
                refine z_iload C dL_rests_168 rfl ?_
                refine z_nif_eq_f C 192 dL_rests_170 (by decide) (by omega) (by omega) ?_
                refine z_iload C dL_rests_173 rfl ?_
                refine z_nif_ne_f C 188 dL_rests_175 (by decide) (by omega) (by omega) ?_
                refine z_iload C dL_rests_178 rfl ?_
                refine z_nif_ne_t C 188 dL_rests_180 (by decide) (by omega) (by omega) ?_
                refine z_iconst C (nI 1) dL_rests_188 (by decide) ?_
                refine z_goto C 193 dL_rests_189 (by decide) ?_
                exact z_iret C N dL_rests_193 (rfl) (congrArg (fun x => some (Value.int x)) (zb_t (by first | (simp [sup_e hG hx hy, rsL, h_1, h_17, h_33, h_34, h_40, h_42, h_43]; done) | (simp [sup_e hG hx hy, rsL, h_1, h_17, h_33, h_34, h_40, h_42, h_43]; intros; omega))).symm)
      · refine z_iload_n C 3 dL_rests_45 rfl rfl ?_
        refine z_iconst C (nI 1) dL_rests_46 (by decide) ?_
        refine z_ncmp_eq C 55 dL_rests_47 (by decide) (by omega) (by omega) (fun h_44 => ?_) (fun h_44 => ?_)
        · refine z_aload_n C 0 dL_rests_55 rfl rfl ?_
          refine z_iload_n C 2 dL_rests_56 rfl rfl ?_
          refine z_iconst C (nI 3) dL_rests_57 (by decide) ?_
          refine z_callVr C kX5_change gL_rests_X5_change (l_chg3 X.2.1 x0 h0 w0 t S y hG hy) dL_rests_58 [0, 1, 2, 3, 4, 5, 6, 7, 8] [] 0 rfl nd_0_1_2_3_4_5_6_7_8 rfl rfl rfl (by decide) (by decide) (Nat.le_of_ble_eq_true rfl) rfl ?_
          refine z_aload_n C 0 dL_rests_61 rfl rfl ?_
          refine z_iload_n C 1 dL_rests_62 rfl rfl ?_
          refine z_iconst C (nI 3) dL_rests_63 (by decide) ?_
          refine z_callVr C kX5_change gL_rests_X5_change (l_chg3 X.2.1 x0 h0 w0 t S x hG hx) dL_rests_64 [0, 1, 2, 3, 4, 5, 6, 7, 8] [.int (eP (lP S 0 y))] 0 rfl nd_0_1_2_3_4_5_6_7_8 rfl rfl rfl (by decide) (by decide) (Nat.le_of_ble_eq_true rfl) rfl ?_
          refine z_icmp_ne C 74 dL_rests_67 (by decide) (fun h_45 => ?_) (fun h_45 => ?_)
          · refine z_iconst C (nI 0) dL_rests_74 (by decide) ?_
            refine z_istore C dL_rests_75 (Nat.le_of_ble_eq_true rfl) ?_
            refine z_lv (lv' := [some (.ref x0), some (.int (nI x)), some (.int (nI y)), some (.int (nI (kN S x))), some (.int (nI (kN S y))), some (.int (nI 1)), some (.int (nI 0)), none, none]) rfl ?_
            refine z_iload C dL_rests_77 rfl ?_
            refine z_iconst C (nI 2) dL_rests_79 (by decide) ?_
            refine z_ncmp_ne_t C 112 dL_rests_80 (by decide) (by omega) (by omega) (by omega) ?_
            refine z_iconst C (nI 0) dL_rests_112 (by decide) ?_
            refine z_istore C dL_rests_113 (Nat.le_of_ble_eq_true rfl) ?_
            refine z_lv (lv' := [some (.ref x0), some (.int (nI x)), some (.int (nI y)), some (.int (nI (kN S x))), some (.int (nI (kN S y))), some (.int (nI 1)), some (.int (nI 0)), some (.int (nI 0)), none]) rfl ?_
            refine z_iload C dL_rests_115 rfl ?_
            refine z_iconst C (nI 4) dL_rests_117 (by decide) ?_
            refine z_ncmp_ne_t C 165 dL_rests_118 (by decide) (by omega) (by omega) (by omega) ?_
            refine z_iconst C (nI 0) dL_rests_165 (by decide) ?_
            refine z_istore C dL_rests_166 (Nat.le_of_ble_eq_true rfl) ?_
            refine z_lv (lv' := [some (.ref x0), some (.int (nI x)), some (.int (nI y)), some (.int (nI (kN S x))), some (.int (nI (kN S y))), some (.int (nI 1)), some (.int (nI 0)), some (.int (nI 0)), some (.int (nI 0))]) rfl ?_
            refine z_iload C dL_rests_168 rfl ?_
            refine z_nif_eq_f C 192 dL_rests_170 (by decide) (by omega) (by omega) ?_
            refine z_iload C dL_rests_173 rfl ?_
            refine z_nif_ne_f C 188 dL_rests_175 (by decide) (by omega) (by omega) ?_
            refine z_iload C dL_rests_178 rfl ?_
            refine z_nif_ne_f C 188 dL_rests_180 (by decide) (by omega) (by omega) ?_
            refine z_iload C dL_rests_183 rfl ?_
            refine z_nif_eq_t C 192 dL_rests_185 (by decide) (by omega) (by omega) ?_
            refine z_iconst C (nI 0) dL_rests_192 (by decide) ?_
            exact z_iret C N dL_rests_193 (rfl) (congrArg (fun x => some (Value.int x)) (zb_f (by first | (simp [sup_e hG hx hy, rsL, h_1, h_17, h_33, h_44, h_45]; done) | (simp [sup_e hG hx hy, rsL, h_1, h_17, h_33, h_44, h_45]; intros; omega))).symm)
          · refine z_iconst C (nI 1) dL_rests_70 (by decide) ?_
            refine z_goto C 75 dL_rests_71 (by decide) ?_
            refine z_istore C dL_rests_75 (Nat.le_of_ble_eq_true rfl) ?_
            refine z_lv (lv' := [some (.ref x0), some (.int (nI x)), some (.int (nI y)), some (.int (nI (kN S x))), some (.int (nI (kN S y))), some (.int (nI 1)), some (.int (nI 1)), none, none]) rfl ?_
            refine z_iload C dL_rests_77 rfl ?_
            refine z_iconst C (nI 2) dL_rests_79 (by decide) ?_
            refine z_ncmp_ne_t C 112 dL_rests_80 (by decide) (by omega) (by omega) (by omega) ?_
            refine z_iconst C (nI 0) dL_rests_112 (by decide) ?_
            refine z_istore C dL_rests_113 (Nat.le_of_ble_eq_true rfl) ?_
            refine z_lv (lv' := [some (.ref x0), some (.int (nI x)), some (.int (nI y)), some (.int (nI (kN S x))), some (.int (nI (kN S y))), some (.int (nI 1)), some (.int (nI 1)), some (.int (nI 0)), none]) rfl ?_
            refine z_iload C dL_rests_115 rfl ?_
            refine z_iconst C (nI 4) dL_rests_117 (by decide) ?_
            refine z_ncmp_ne_t C 165 dL_rests_118 (by decide) (by omega) (by omega) (by omega) ?_
            refine z_iconst C (nI 0) dL_rests_165 (by decide) ?_
            refine z_istore C dL_rests_166 (Nat.le_of_ble_eq_true rfl) ?_
            refine z_lv (lv' := [some (.ref x0), some (.int (nI x)), some (.int (nI y)), some (.int (nI (kN S x))), some (.int (nI (kN S y))), some (.int (nI 1)), some (.int (nI 1)), some (.int (nI 0)), some (.int (nI 0))]) rfl ?_
            refine z_iload C dL_rests_168 rfl ?_
            refine z_nif_eq_f C 192 dL_rests_170 (by decide) (by omega) (by omega) ?_
            refine z_iload C dL_rests_173 rfl ?_
            refine z_nif_ne_t C 188 dL_rests_175 (by decide) (by omega) (by omega) ?_
            refine z_iconst C (nI 1) dL_rests_188 (by decide) ?_
            refine z_goto C 193 dL_rests_189 (by decide) ?_
            exact z_iret C N dL_rests_193 (rfl) (congrArg (fun x => some (Value.int x)) (zb_t (by first | (simp [sup_e hG hx hy, rsL, h_1, h_17, h_33, h_44, h_45]; done) | (simp [sup_e hG hx hy, rsL, h_1, h_17, h_33, h_44, h_45]; intros; omega))).symm)
        · refine z_iload_n C 3 dL_rests_50 rfl rfl ?_
          refine z_iconst C (nI 4) dL_rests_51 (by decide) ?_
          refine z_ncmp_ne C 74 dL_rests_52 (by decide) (by omega) (by omega) (fun h_46 => ?_) (fun h_46 => ?_)
          · refine z_iconst C (nI 0) dL_rests_74 (by decide) ?_
            refine z_istore C dL_rests_75 (Nat.le_of_ble_eq_true rfl) ?_
            refine z_lv (lv' := [some (.ref x0), some (.int (nI x)), some (.int (nI y)), some (.int (nI (kN S x))), some (.int (nI (kN S y))), some (.int (nI 1)), some (.int (nI 0)), none, none]) rfl ?_
            refine z_iload C dL_rests_77 rfl ?_
            refine z_iconst C (nI 2) dL_rests_79 (by decide) ?_
            refine z_ncmp_ne_t C 112 dL_rests_80 (by decide) (by omega) (by omega) (by omega) ?_
            refine z_iconst C (nI 0) dL_rests_112 (by decide) ?_
            refine z_istore C dL_rests_113 (Nat.le_of_ble_eq_true rfl) ?_
            refine z_lv (lv' := [some (.ref x0), some (.int (nI x)), some (.int (nI y)), some (.int (nI (kN S x))), some (.int (nI (kN S y))), some (.int (nI 1)), some (.int (nI 0)), some (.int (nI 0)), none]) rfl ?_
            refine z_iload C dL_rests_115 rfl ?_
            refine z_iconst C (nI 4) dL_rests_117 (by decide) ?_
            refine z_ncmp_ne_t C 165 dL_rests_118 (by decide) (by omega) (by omega) (by omega) ?_
            refine z_iconst C (nI 0) dL_rests_165 (by decide) ?_
            refine z_istore C dL_rests_166 (Nat.le_of_ble_eq_true rfl) ?_
            refine z_lv (lv' := [some (.ref x0), some (.int (nI x)), some (.int (nI y)), some (.int (nI (kN S x))), some (.int (nI (kN S y))), some (.int (nI 1)), some (.int (nI 0)), some (.int (nI 0)), some (.int (nI 0))]) rfl ?_
            refine z_iload C dL_rests_168 rfl ?_
            refine z_nif_eq_f C 192 dL_rests_170 (by decide) (by omega) (by omega) ?_
            refine z_iload C dL_rests_173 rfl ?_
            refine z_nif_ne_f C 188 dL_rests_175 (by decide) (by omega) (by omega) ?_
            refine z_iload C dL_rests_178 rfl ?_
            refine z_nif_ne_f C 188 dL_rests_180 (by decide) (by omega) (by omega) ?_
            refine z_iload C dL_rests_183 rfl ?_
            refine z_nif_eq_t C 192 dL_rests_185 (by decide) (by omega) (by omega) ?_
            refine z_iconst C (nI 0) dL_rests_192 (by decide) ?_
            exact z_iret C N dL_rests_193 (rfl) (congrArg (fun x => some (Value.int x)) (zb_f (by first | (simp [sup_e hG hx hy, rsL, h_1, h_17, h_33, h_44, h_46]; done) | (simp [sup_e hG hx hy, rsL, h_1, h_17, h_33, h_44, h_46]; intros; omega))).symm)
          · refine z_aload_n C 0 dL_rests_55 rfl rfl ?_
            refine z_iload_n C 2 dL_rests_56 rfl rfl ?_
            refine z_iconst C (nI 3) dL_rests_57 (by decide) ?_
            refine z_callVr C kX5_change gL_rests_X5_change (l_chg3 X.2.1 x0 h0 w0 t S y hG hy) dL_rests_58 [0, 1, 2, 3, 4, 5, 6, 7, 8] [] 0 rfl nd_0_1_2_3_4_5_6_7_8 rfl rfl rfl (by decide) (by decide) (Nat.le_of_ble_eq_true rfl) rfl ?_
            refine z_aload_n C 0 dL_rests_61 rfl rfl ?_
            refine z_iload_n C 1 dL_rests_62 rfl rfl ?_
            refine z_iconst C (nI 3) dL_rests_63 (by decide) ?_
            refine z_callVr C kX5_change gL_rests_X5_change (l_chg3 X.2.1 x0 h0 w0 t S x hG hx) dL_rests_64 [0, 1, 2, 3, 4, 5, 6, 7, 8] [.int (eP (lP S 0 y))] 0 rfl nd_0_1_2_3_4_5_6_7_8 rfl rfl rfl (by decide) (by decide) (Nat.le_of_ble_eq_true rfl) rfl ?_
            refine z_icmp_ne C 74 dL_rests_67 (by decide) (fun h_47 => ?_) (fun h_47 => ?_)
            · refine z_iconst C (nI 0) dL_rests_74 (by decide) ?_
              refine z_istore C dL_rests_75 (Nat.le_of_ble_eq_true rfl) ?_
              refine z_lv (lv' := [some (.ref x0), some (.int (nI x)), some (.int (nI y)), some (.int (nI (kN S x))), some (.int (nI (kN S y))), some (.int (nI 1)), some (.int (nI 0)), none, none]) rfl ?_
              refine z_iload C dL_rests_77 rfl ?_
              refine z_iconst C (nI 2) dL_rests_79 (by decide) ?_
              refine z_ncmp_ne_t C 112 dL_rests_80 (by decide) (by omega) (by omega) (by omega) ?_
              refine z_iconst C (nI 0) dL_rests_112 (by decide) ?_
              refine z_istore C dL_rests_113 (Nat.le_of_ble_eq_true rfl) ?_
              refine z_lv (lv' := [some (.ref x0), some (.int (nI x)), some (.int (nI y)), some (.int (nI (kN S x))), some (.int (nI (kN S y))), some (.int (nI 1)), some (.int (nI 0)), some (.int (nI 0)), none]) rfl ?_
              refine z_iload C dL_rests_115 rfl ?_
              refine z_iconst C (nI 4) dL_rests_117 (by decide) ?_
              refine z_ncmp_ne_t C 165 dL_rests_118 (by decide) (by omega) (by omega) (by omega) ?_
              refine z_iconst C (nI 0) dL_rests_165 (by decide) ?_
              refine z_istore C dL_rests_166 (Nat.le_of_ble_eq_true rfl) ?_
              refine z_lv (lv' := [some (.ref x0), some (.int (nI x)), some (.int (nI y)), some (.int (nI (kN S x))), some (.int (nI (kN S y))), some (.int (nI 1)), some (.int (nI 0)), some (.int (nI 0)), some (.int (nI 0))]) rfl ?_
              refine z_iload C dL_rests_168 rfl ?_
              refine z_nif_eq_f C 192 dL_rests_170 (by decide) (by omega) (by omega) ?_
              refine z_iload C dL_rests_173 rfl ?_
              refine z_nif_ne_f C 188 dL_rests_175 (by decide) (by omega) (by omega) ?_
              refine z_iload C dL_rests_178 rfl ?_
              refine z_nif_ne_f C 188 dL_rests_180 (by decide) (by omega) (by omega) ?_
              refine z_iload C dL_rests_183 rfl ?_
              refine z_nif_eq_t C 192 dL_rests_185 (by decide) (by omega) (by omega) ?_
              refine z_iconst C (nI 0) dL_rests_192 (by decide) ?_
              exact z_iret C N dL_rests_193 (rfl) (congrArg (fun x => some (Value.int x)) (zb_f (by first | (simp [sup_e hG hx hy, rsL, h_1, h_17, h_33, h_44, h_46, h_47]; done) | (simp [sup_e hG hx hy, rsL, h_1, h_17, h_33, h_44, h_46, h_47]; intros; omega))).symm)
            · refine z_iconst C (nI 1) dL_rests_70 (by decide) ?_
              refine z_goto C 75 dL_rests_71 (by decide) ?_
              refine z_istore C dL_rests_75 (Nat.le_of_ble_eq_true rfl) ?_
              refine z_lv (lv' := [some (.ref x0), some (.int (nI x)), some (.int (nI y)), some (.int (nI (kN S x))), some (.int (nI (kN S y))), some (.int (nI 1)), some (.int (nI 1)), none, none]) rfl ?_
              refine z_iload C dL_rests_77 rfl ?_
              refine z_iconst C (nI 2) dL_rests_79 (by decide) ?_
              refine z_ncmp_ne_t C 112 dL_rests_80 (by decide) (by omega) (by omega) (by omega) ?_
              refine z_iconst C (nI 0) dL_rests_112 (by decide) ?_
              refine z_istore C dL_rests_113 (Nat.le_of_ble_eq_true rfl) ?_
              refine z_lv (lv' := [some (.ref x0), some (.int (nI x)), some (.int (nI y)), some (.int (nI (kN S x))), some (.int (nI (kN S y))), some (.int (nI 1)), some (.int (nI 1)), some (.int (nI 0)), none]) rfl ?_
              refine z_iload C dL_rests_115 rfl ?_
              refine z_iconst C (nI 4) dL_rests_117 (by decide) ?_
              refine z_ncmp_ne_t C 165 dL_rests_118 (by decide) (by omega) (by omega) (by omega) ?_
              refine z_iconst C (nI 0) dL_rests_165 (by decide) ?_
              refine z_istore C dL_rests_166 (Nat.le_of_ble_eq_true rfl) ?_
              refine z_lv (lv' := [some (.ref x0), some (.int (nI x)), some (.int (nI y)), some (.int (nI (kN S x))), some (.int (nI (kN S y))), some (.int (nI 1)), some (.int (nI 1)), some (.int (nI 0)), some (.int (nI 0))]) rfl ?_
              refine z_iload C dL_rests_168 rfl ?_
              refine z_nif_eq_f C 192 dL_rests_170 (by decide) (by omega) (by omega) ?_
              refine z_iload C dL_rests_173 rfl ?_
              refine z_nif_ne_t C 188 dL_rests_175 (by decide) (by omega) (by omega) ?_
              refine z_iconst C (nI 1) dL_rests_188 (by decide) ?_
              refine z_goto C 193 dL_rests_189 (by decide) ?_
              exact z_iret C N dL_rests_193 (rfl) (congrArg (fun x => some (Value.int x)) (zb_t (by first | (simp [sup_e hG hx hy, rsL, h_1, h_17, h_33, h_44, h_46, h_47]; done) | (simp [sup_e hG hx hy, rsL, h_1, h_17, h_33, h_44, h_46, h_47]; intros; omega))).symm)

set_option maxHeartbeats 4000000 in
set_option maxRecDepth 100000 in
theorem w_ahead1 (E : zE) (x0 h0 w0 : Nat) (t : Nat → Nat) (S : zSt) {B : Nat} (x y : Nat) (hG : GG S B) (hx : x < mK S) (hy : y < mK S) (ha : KA S x < KA S y) : zM E yL_ahead wsL_ahead 6 [.ref x0, .int (nI x), .int (nI y)] (WTd E x0 h0 w0 t S) (WTd E x0 h0 w0 t S) (some (.int (nI 1))) := by
  refine zM.of kL_ahead (Nat.le_of_ble_eq_true rfl) rfl [some (.ref x0), some (.int (nI x)), some (.int (nI y)), none] rfl (Nat.le_of_ble_eq_true rfl) ?_
  intro X eX C N
  subst eX
  have hu0 := gg_u hG 0
  have hu1 := gg_u hG 1
  have hM := gg_M hG
  have hkx := (kN_e hG hx).2
  have hky := (kN_e hG hy).2
  have hsx := (sN_e hG hx).2
  have hsy := (sN_e hG hy).2
  have hka := KA_lt S x
  have hkb := KA_lt S y
  have hl0 := lP_le S 0 x
  have hl1 := lP_le S 0 y
  have hl2 := lP_le S 1 x
  have hl3 := lP_le S 1 y
  have c2 : nI (KA S x) - nI (KA S y) < 0 := pk_sneg (by omega) ha
  have c1 := lt0_ne c2
  refine z_aload_n C 0 dL_ahead_0 rfl rfl ?_
  refine z_iload_n C 1 dL_ahead_1 rfl rfl ?_
  refine z_iconst C (nI 0) dL_ahead_2 (by decide) ?_
  refine z_callVr C kX5_change gL_ahead_X5_change (l_chg0 X.2.1 x0 h0 w0 t S x hG hx) dL_ahead_3 [0, 1, 2, 3, 4, 5, 6, 7, 8] [] 0 rfl nd_0_1_2_3_4_5_6_7_8 rfl rfl rfl (by decide) (by decide) (Nat.le_of_ble_eq_true rfl) rfl ?_
  refine z_iconst C (nI 2) dL_ahead_6 (by decide) ?_
  refine z_idiv C dL_ahead_7 (by decide) ?_
  refine z_top (y := nI (KA S x)) (KA_div hG hx) ?_
  refine z_aload_n C 0 dL_ahead_8 rfl rfl ?_
  refine z_iload_n C 2 dL_ahead_9 rfl rfl ?_
  refine z_iconst C (nI 0) dL_ahead_10 (by decide) ?_
  refine z_callVr C kX5_change gL_ahead_X5_change (l_chg0 X.2.1 x0 h0 w0 t S y hG hy) dL_ahead_11 [0, 1, 2, 3, 4, 5, 6, 7, 8] [.int (nI (KA S x))] 0 rfl nd_0_1_2_3_4_5_6_7_8 rfl rfl rfl (by decide) (by decide) (Nat.le_of_ble_eq_true rfl) rfl ?_
  refine z_iconst C (nI 2) dL_ahead_14 (by decide) ?_
  refine z_idiv C dL_ahead_15 (by decide) ?_
  refine z_top (y := nI (KA S y)) (KA_div hG hy) ?_
  refine z_isub C dL_ahead_16 ?_
  refine z_istore_n C 3 dL_ahead_17 rfl (Nat.le_of_ble_eq_true rfl) ?_
  refine z_lv (lv' := [some (.ref x0), some (.int (nI x)), some (.int (nI y)), some (.int ((nI (KA S x)) - (nI (KA S y))))]) rfl ?_
  refine z_iload_n C 3 dL_ahead_18 rfl rfl ?_
  refine z_if_ne_t C 38 dL_ahead_19 (by decide) c1 ?_
  refine z_iload_n C 3 dL_ahead_38 rfl rfl ?_
  refine z_istore_n C 3 dL_ahead_39 rfl (Nat.le_of_ble_eq_true rfl) ?_
  refine z_lv (lv' := [some (.ref x0), some (.int (nI x)), some (.int (nI y)), some (.int ((nI (KA S x)) - (nI (KA S y))))]) rfl ?_
  refine z_iload_n C 3 dL_ahead_40 rfl rfl ?_
  refine z_if_ne_t C 60 dL_ahead_41 (by decide) c1 ?_
  refine z_iload_n C 3 dL_ahead_60 rfl rfl ?_
  refine z_istore_n C 3 dL_ahead_61 rfl (Nat.le_of_ble_eq_true rfl) ?_
  refine z_lv (lv' := [some (.ref x0), some (.int (nI x)), some (.int (nI y)), some (.int ((nI (KA S x)) - (nI (KA S y))))]) rfl ?_
  refine z_iload_n C 3 dL_ahead_62 rfl rfl ?_
  refine z_if_ne_t C 79 dL_ahead_63 (by decide) c1 ?_
  refine z_iload_n C 3 dL_ahead_79 rfl rfl ?_
  refine z_if_ge_f C 87 dL_ahead_80 (by decide) (Int32.not_le.mpr c2) ?_
  refine z_iconst C (nI 1) dL_ahead_83 (by decide) ?_
  refine z_goto C 88 dL_ahead_84 (by decide) ?_
  exact z_zret C N dL_ahead_88 rfl (rfl) (rfl)

set_option maxHeartbeats 4000000 in
set_option maxRecDepth 100000 in
theorem w_ahead2 (E : zE) (x0 h0 w0 : Nat) (t : Nat → Nat) (S : zSt) {B : Nat} (x y : Nat) (hG : GG S B) (hx : x < mK S) (hy : y < mK S) (ha : KA S x = KA S y) (hb : lP S 0 x < lP S 0 y) : zM E yL_ahead wsL_ahead 6 [.ref x0, .int (nI x), .int (nI y)] (WTd E x0 h0 w0 t S) (WTd E x0 h0 w0 t S) (some (.int (nI 1))) := by
  refine zM.of kL_ahead (Nat.le_of_ble_eq_true rfl) rfl [some (.ref x0), some (.int (nI x)), some (.int (nI y)), none] rfl (Nat.le_of_ble_eq_true rfl) ?_
  intro X eX C N
  subst eX
  have hu0 := gg_u hG 0
  have hu1 := gg_u hG 1
  have hM := gg_M hG
  have hkx := (kN_e hG hx).2
  have hky := (kN_e hG hy).2
  have hsx := (sN_e hG hx).2
  have hsy := (sN_e hG hy).2
  have hka := KA_lt S x
  have hkb := KA_lt S y
  have hl0 := lP_le S 0 x
  have hl1 := lP_le S 0 y
  have hl2 := lP_le S 1 x
  have hl3 := lP_le S 1 y
  have c2 : eP (lP S 0 x) - eP (lP S 0 y) < 0 := eP_sl (by omega) (by omega) hb
  have c1 := lt0_ne c2
  refine z_aload_n C 0 dL_ahead_0 rfl rfl ?_
  refine z_iload_n C 1 dL_ahead_1 rfl rfl ?_
  refine z_iconst C (nI 0) dL_ahead_2 (by decide) ?_
  refine z_callVr C kX5_change gL_ahead_X5_change (l_chg0 X.2.1 x0 h0 w0 t S x hG hx) dL_ahead_3 [0, 1, 2, 3, 4, 5, 6, 7, 8] [] 0 rfl nd_0_1_2_3_4_5_6_7_8 rfl rfl rfl (by decide) (by decide) (Nat.le_of_ble_eq_true rfl) rfl ?_
  refine z_iconst C (nI 2) dL_ahead_6 (by decide) ?_
  refine z_idiv C dL_ahead_7 (by decide) ?_
  refine z_top (y := nI (KA S x)) (KA_div hG hx) ?_
  refine z_aload_n C 0 dL_ahead_8 rfl rfl ?_
  refine z_iload_n C 2 dL_ahead_9 rfl rfl ?_
  refine z_iconst C (nI 0) dL_ahead_10 (by decide) ?_
  refine z_callVr C kX5_change gL_ahead_X5_change (l_chg0 X.2.1 x0 h0 w0 t S y hG hy) dL_ahead_11 [0, 1, 2, 3, 4, 5, 6, 7, 8] [.int (nI (KA S x))] 0 rfl nd_0_1_2_3_4_5_6_7_8 rfl rfl rfl (by decide) (by decide) (Nat.le_of_ble_eq_true rfl) rfl ?_
  refine z_iconst C (nI 2) dL_ahead_14 (by decide) ?_
  refine z_idiv C dL_ahead_15 (by decide) ?_
  refine z_top (y := nI (KA S y)) (KA_div hG hy) ?_
  refine z_isub C dL_ahead_16 ?_
  refine z_top (y := nI ((KA S x) - (KA S y))) ((pk_sub (by omega)).trans (congrArg nI (by omega))) ?_
  refine z_istore_n C 3 dL_ahead_17 rfl (Nat.le_of_ble_eq_true rfl) ?_
  refine z_lv (lv' := [some (.ref x0), some (.int (nI x)), some (.int (nI y)), some (.int (nI ((KA S x) - (KA S y))))]) rfl ?_
  refine z_iload_n C 3 dL_ahead_18 rfl rfl ?_
  refine z_nif_ne_f C 38 dL_ahead_19 (by decide) (by omega) (by omega) ?_
  refine z_aload_n C 0 dL_ahead_22 rfl rfl ?_
  refine z_iload_n C 1 dL_ahead_23 rfl rfl ?_
  refine z_iconst C (nI 3) dL_ahead_24 (by decide) ?_
  refine z_callVr C kX5_change gL_ahead_X5_change (l_chg3 X.2.1 x0 h0 w0 t S x hG hx) dL_ahead_25 [0, 1, 2, 3, 4, 5, 6, 7, 8] [] 0 rfl nd_0_1_2_3_4_5_6_7_8 rfl rfl rfl (by decide) (by decide) (Nat.le_of_ble_eq_true rfl) rfl ?_
  refine z_aload_n C 0 dL_ahead_28 rfl rfl ?_
  refine z_iload_n C 2 dL_ahead_29 rfl rfl ?_
  refine z_iconst C (nI 3) dL_ahead_30 (by decide) ?_
  refine z_callVr C kX5_change gL_ahead_X5_change (l_chg3 X.2.1 x0 h0 w0 t S y hG hy) dL_ahead_31 [0, 1, 2, 3, 4, 5, 6, 7, 8] [.int (eP (lP S 0 x))] 0 rfl nd_0_1_2_3_4_5_6_7_8 rfl rfl rfl (by decide) (by decide) (Nat.le_of_ble_eq_true rfl) rfl ?_
  refine z_isub C dL_ahead_34 ?_
  refine z_goto C 39 dL_ahead_35 (by decide) ?_
  refine z_istore_n C 3 dL_ahead_39 rfl (Nat.le_of_ble_eq_true rfl) ?_
  refine z_lv (lv' := [some (.ref x0), some (.int (nI x)), some (.int (nI y)), some (.int ((eP (lP S 0 x)) - (eP (lP S 0 y))))]) rfl ?_
  refine z_iload_n C 3 dL_ahead_40 rfl rfl ?_
  refine z_if_ne_t C 60 dL_ahead_41 (by decide) c1 ?_
  refine z_iload_n C 3 dL_ahead_60 rfl rfl ?_
  refine z_istore_n C 3 dL_ahead_61 rfl (Nat.le_of_ble_eq_true rfl) ?_
  refine z_lv (lv' := [some (.ref x0), some (.int (nI x)), some (.int (nI y)), some (.int ((eP (lP S 0 x)) - (eP (lP S 0 y))))]) rfl ?_
  refine z_iload_n C 3 dL_ahead_62 rfl rfl ?_
  refine z_if_ne_t C 79 dL_ahead_63 (by decide) c1 ?_
  refine z_iload_n C 3 dL_ahead_79 rfl rfl ?_
  refine z_if_ge_f C 87 dL_ahead_80 (by decide) (Int32.not_le.mpr c2) ?_
  refine z_iconst C (nI 1) dL_ahead_83 (by decide) ?_
  refine z_goto C 88 dL_ahead_84 (by decide) ?_
  exact z_zret C N dL_ahead_88 rfl (rfl) (rfl)

set_option maxHeartbeats 4000000 in
set_option maxRecDepth 100000 in
theorem w_ahead3 (E : zE) (x0 h0 w0 : Nat) (t : Nat → Nat) (S : zSt) {B : Nat} (x y : Nat) (hG : GG S B) (hx : x < mK S) (hy : y < mK S) (ha : KA S x = KA S y) (hb : lP S 0 x = lP S 0 y) (hc : lP S 1 x < lP S 1 y) : zM E yL_ahead wsL_ahead 6 [.ref x0, .int (nI x), .int (nI y)] (WTd E x0 h0 w0 t S) (WTd E x0 h0 w0 t S) (some (.int (nI 1))) := by
  refine zM.of kL_ahead (Nat.le_of_ble_eq_true rfl) rfl [some (.ref x0), some (.int (nI x)), some (.int (nI y)), none] rfl (Nat.le_of_ble_eq_true rfl) ?_
  intro X eX C N
  subst eX
  have hu0 := gg_u hG 0
  have hu1 := gg_u hG 1
  have hM := gg_M hG
  have hkx := (kN_e hG hx).2
  have hky := (kN_e hG hy).2
  have hsx := (sN_e hG hx).2
  have hsy := (sN_e hG hy).2
  have hka := KA_lt S x
  have hkb := KA_lt S y
  have hl0 := lP_le S 0 x
  have hl1 := lP_le S 0 y
  have hl2 := lP_le S 1 x
  have hl3 := lP_le S 1 y
  have c0 : eP (lP S 0 x) - eP (lP S 0 y) = 0 := eP_sz (by omega) hb
  have c2 : eP (lP S 1 x) - eP (lP S 1 y) < 0 := eP_sl (by omega) (by omega) hc
  have c1 := lt0_ne c2
  refine z_aload_n C 0 dL_ahead_0 rfl rfl ?_
  refine z_iload_n C 1 dL_ahead_1 rfl rfl ?_
  refine z_iconst C (nI 0) dL_ahead_2 (by decide) ?_
  refine z_callVr C kX5_change gL_ahead_X5_change (l_chg0 X.2.1 x0 h0 w0 t S x hG hx) dL_ahead_3 [0, 1, 2, 3, 4, 5, 6, 7, 8] [] 0 rfl nd_0_1_2_3_4_5_6_7_8 rfl rfl rfl (by decide) (by decide) (Nat.le_of_ble_eq_true rfl) rfl ?_
  refine z_iconst C (nI 2) dL_ahead_6 (by decide) ?_
  refine z_idiv C dL_ahead_7 (by decide) ?_
  refine z_top (y := nI (KA S x)) (KA_div hG hx) ?_
  refine z_aload_n C 0 dL_ahead_8 rfl rfl ?_
  refine z_iload_n C 2 dL_ahead_9 rfl rfl ?_
  refine z_iconst C (nI 0) dL_ahead_10 (by decide) ?_
  refine z_callVr C kX5_change gL_ahead_X5_change (l_chg0 X.2.1 x0 h0 w0 t S y hG hy) dL_ahead_11 [0, 1, 2, 3, 4, 5, 6, 7, 8] [.int (nI (KA S x))] 0 rfl nd_0_1_2_3_4_5_6_7_8 rfl rfl rfl (by decide) (by decide) (Nat.le_of_ble_eq_true rfl) rfl ?_
  refine z_iconst C (nI 2) dL_ahead_14 (by decide) ?_
  refine z_idiv C dL_ahead_15 (by decide) ?_
  refine z_top (y := nI (KA S y)) (KA_div hG hy) ?_
  refine z_isub C dL_ahead_16 ?_
  refine z_top (y := nI ((KA S x) - (KA S y))) ((pk_sub (by omega)).trans (congrArg nI (by omega))) ?_
  refine z_istore_n C 3 dL_ahead_17 rfl (Nat.le_of_ble_eq_true rfl) ?_
  refine z_lv (lv' := [some (.ref x0), some (.int (nI x)), some (.int (nI y)), some (.int (nI ((KA S x) - (KA S y))))]) rfl ?_
  refine z_iload_n C 3 dL_ahead_18 rfl rfl ?_
  refine z_nif_ne_f C 38 dL_ahead_19 (by decide) (by omega) (by omega) ?_
  refine z_aload_n C 0 dL_ahead_22 rfl rfl ?_
  refine z_iload_n C 1 dL_ahead_23 rfl rfl ?_
  refine z_iconst C (nI 3) dL_ahead_24 (by decide) ?_
  refine z_callVr C kX5_change gL_ahead_X5_change (l_chg3 X.2.1 x0 h0 w0 t S x hG hx) dL_ahead_25 [0, 1, 2, 3, 4, 5, 6, 7, 8] [] 0 rfl nd_0_1_2_3_4_5_6_7_8 rfl rfl rfl (by decide) (by decide) (Nat.le_of_ble_eq_true rfl) rfl ?_
  refine z_aload_n C 0 dL_ahead_28 rfl rfl ?_
  refine z_iload_n C 2 dL_ahead_29 rfl rfl ?_
  refine z_iconst C (nI 3) dL_ahead_30 (by decide) ?_
  refine z_callVr C kX5_change gL_ahead_X5_change (l_chg3 X.2.1 x0 h0 w0 t S y hG hy) dL_ahead_31 [0, 1, 2, 3, 4, 5, 6, 7, 8] [.int (eP (lP S 0 x))] 0 rfl nd_0_1_2_3_4_5_6_7_8 rfl rfl rfl (by decide) (by decide) (Nat.le_of_ble_eq_true rfl) rfl ?_
  refine z_isub C dL_ahead_34 ?_
  refine z_goto C 39 dL_ahead_35 (by decide) ?_
  refine z_istore_n C 3 dL_ahead_39 rfl (Nat.le_of_ble_eq_true rfl) ?_
  refine z_lv (lv' := [some (.ref x0), some (.int (nI x)), some (.int (nI y)), some (.int ((eP (lP S 0 x)) - (eP (lP S 0 y))))]) rfl ?_
  refine z_iload_n C 3 dL_ahead_40 rfl rfl ?_
  refine z_if_ne_f C 60 dL_ahead_41 (by decide) c0 ?_
  refine z_aload_n C 0 dL_ahead_44 rfl rfl ?_
  refine z_iload_n C 1 dL_ahead_45 rfl rfl ?_
  refine z_iconst C (nI 4) dL_ahead_46 (by decide) ?_
  refine z_callVr C kX5_change gL_ahead_X5_change (l_chg4 X.2.1 x0 h0 w0 t S x hG hx) dL_ahead_47 [0, 1, 2, 3, 4, 5, 6, 7, 8] [] 0 rfl nd_0_1_2_3_4_5_6_7_8 rfl rfl rfl (by decide) (by decide) (Nat.le_of_ble_eq_true rfl) rfl ?_
  refine z_aload_n C 0 dL_ahead_50 rfl rfl ?_
  refine z_iload_n C 2 dL_ahead_51 rfl rfl ?_
  refine z_iconst C (nI 4) dL_ahead_52 (by decide) ?_
  refine z_callVr C kX5_change gL_ahead_X5_change (l_chg4 X.2.1 x0 h0 w0 t S y hG hy) dL_ahead_53 [0, 1, 2, 3, 4, 5, 6, 7, 8] [.int (eP (lP S 1 x))] 0 rfl nd_0_1_2_3_4_5_6_7_8 rfl rfl rfl (by decide) (by decide) (Nat.le_of_ble_eq_true rfl) rfl ?_
  refine z_isub C dL_ahead_56 ?_
  refine z_goto C 61 dL_ahead_57 (by decide) ?_
  refine z_istore_n C 3 dL_ahead_61 rfl (Nat.le_of_ble_eq_true rfl) ?_
  refine z_lv (lv' := [some (.ref x0), some (.int (nI x)), some (.int (nI y)), some (.int ((eP (lP S 1 x)) - (eP (lP S 1 y))))]) rfl ?_
  refine z_iload_n C 3 dL_ahead_62 rfl rfl ?_
  refine z_if_ne_t C 79 dL_ahead_63 (by decide) c1 ?_
  refine z_iload_n C 3 dL_ahead_79 rfl rfl ?_
  refine z_if_ge_f C 87 dL_ahead_80 (by decide) (Int32.not_le.mpr c2) ?_
  refine z_iconst C (nI 1) dL_ahead_83 (by decide) ?_
  refine z_goto C 88 dL_ahead_84 (by decide) ?_
  exact z_zret C N dL_ahead_88 rfl (rfl) (rfl)

set_option maxHeartbeats 4000000 in
set_option maxRecDepth 100000 in
theorem w_ahead4 (E : zE) (x0 h0 w0 : Nat) (t : Nat → Nat) (S : zSt) {B : Nat} (x y : Nat) (hG : GG S B) (hx : x < mK S) (hy : y < mK S) (ha : KA S x = KA S y) (hb : lP S 0 x = lP S 0 y) (hc : lP S 1 x = lP S 1 y) (hd : x < y) : zM E yL_ahead wsL_ahead 6 [.ref x0, .int (nI x), .int (nI y)] (WTd E x0 h0 w0 t S) (WTd E x0 h0 w0 t S) (some (.int (nI 1))) := by
  refine zM.of kL_ahead (Nat.le_of_ble_eq_true rfl) rfl [some (.ref x0), some (.int (nI x)), some (.int (nI y)), none] rfl (Nat.le_of_ble_eq_true rfl) ?_
  intro X eX C N
  subst eX
  have hu0 := gg_u hG 0
  have hu1 := gg_u hG 1
  have hM := gg_M hG
  have hkx := (kN_e hG hx).2
  have hky := (kN_e hG hy).2
  have hsx := (sN_e hG hx).2
  have hsy := (sN_e hG hy).2
  have hka := KA_lt S x
  have hkb := KA_lt S y
  have hl0 := lP_le S 0 x
  have hl1 := lP_le S 0 y
  have hl2 := lP_le S 1 x
  have hl3 := lP_le S 1 y
  have c0 : eP (lP S 0 x) - eP (lP S 0 y) = 0 := eP_sz (by omega) hb
  have c1 : eP (lP S 1 x) - eP (lP S 1 y) = 0 := eP_sz (by omega) hc
  refine z_aload_n C 0 dL_ahead_0 rfl rfl ?_
  refine z_iload_n C 1 dL_ahead_1 rfl rfl ?_
  refine z_iconst C (nI 0) dL_ahead_2 (by decide) ?_
  refine z_callVr C kX5_change gL_ahead_X5_change (l_chg0 X.2.1 x0 h0 w0 t S x hG hx) dL_ahead_3 [0, 1, 2, 3, 4, 5, 6, 7, 8] [] 0 rfl nd_0_1_2_3_4_5_6_7_8 rfl rfl rfl (by decide) (by decide) (Nat.le_of_ble_eq_true rfl) rfl ?_
  refine z_iconst C (nI 2) dL_ahead_6 (by decide) ?_
  refine z_idiv C dL_ahead_7 (by decide) ?_
  refine z_top (y := nI (KA S x)) (KA_div hG hx) ?_
  refine z_aload_n C 0 dL_ahead_8 rfl rfl ?_
  refine z_iload_n C 2 dL_ahead_9 rfl rfl ?_
  refine z_iconst C (nI 0) dL_ahead_10 (by decide) ?_
  refine z_callVr C kX5_change gL_ahead_X5_change (l_chg0 X.2.1 x0 h0 w0 t S y hG hy) dL_ahead_11 [0, 1, 2, 3, 4, 5, 6, 7, 8] [.int (nI (KA S x))] 0 rfl nd_0_1_2_3_4_5_6_7_8 rfl rfl rfl (by decide) (by decide) (Nat.le_of_ble_eq_true rfl) rfl ?_
  refine z_iconst C (nI 2) dL_ahead_14 (by decide) ?_
  refine z_idiv C dL_ahead_15 (by decide) ?_
  refine z_top (y := nI (KA S y)) (KA_div hG hy) ?_
  refine z_isub C dL_ahead_16 ?_
  refine z_top (y := nI ((KA S x) - (KA S y))) ((pk_sub (by omega)).trans (congrArg nI (by omega))) ?_
  refine z_istore_n C 3 dL_ahead_17 rfl (Nat.le_of_ble_eq_true rfl) ?_
  refine z_lv (lv' := [some (.ref x0), some (.int (nI x)), some (.int (nI y)), some (.int (nI ((KA S x) - (KA S y))))]) rfl ?_
  refine z_iload_n C 3 dL_ahead_18 rfl rfl ?_
  refine z_nif_ne_f C 38 dL_ahead_19 (by decide) (by omega) (by omega) ?_
  refine z_aload_n C 0 dL_ahead_22 rfl rfl ?_
  refine z_iload_n C 1 dL_ahead_23 rfl rfl ?_
  refine z_iconst C (nI 3) dL_ahead_24 (by decide) ?_
  refine z_callVr C kX5_change gL_ahead_X5_change (l_chg3 X.2.1 x0 h0 w0 t S x hG hx) dL_ahead_25 [0, 1, 2, 3, 4, 5, 6, 7, 8] [] 0 rfl nd_0_1_2_3_4_5_6_7_8 rfl rfl rfl (by decide) (by decide) (Nat.le_of_ble_eq_true rfl) rfl ?_
  refine z_aload_n C 0 dL_ahead_28 rfl rfl ?_
  refine z_iload_n C 2 dL_ahead_29 rfl rfl ?_
  refine z_iconst C (nI 3) dL_ahead_30 (by decide) ?_
  refine z_callVr C kX5_change gL_ahead_X5_change (l_chg3 X.2.1 x0 h0 w0 t S y hG hy) dL_ahead_31 [0, 1, 2, 3, 4, 5, 6, 7, 8] [.int (eP (lP S 0 x))] 0 rfl nd_0_1_2_3_4_5_6_7_8 rfl rfl rfl (by decide) (by decide) (Nat.le_of_ble_eq_true rfl) rfl ?_
  refine z_isub C dL_ahead_34 ?_
  refine z_goto C 39 dL_ahead_35 (by decide) ?_
  refine z_istore_n C 3 dL_ahead_39 rfl (Nat.le_of_ble_eq_true rfl) ?_
  refine z_lv (lv' := [some (.ref x0), some (.int (nI x)), some (.int (nI y)), some (.int ((eP (lP S 0 x)) - (eP (lP S 0 y))))]) rfl ?_
  refine z_iload_n C 3 dL_ahead_40 rfl rfl ?_
  refine z_if_ne_f C 60 dL_ahead_41 (by decide) c0 ?_
  refine z_aload_n C 0 dL_ahead_44 rfl rfl ?_
  refine z_iload_n C 1 dL_ahead_45 rfl rfl ?_
  refine z_iconst C (nI 4) dL_ahead_46 (by decide) ?_
  refine z_callVr C kX5_change gL_ahead_X5_change (l_chg4 X.2.1 x0 h0 w0 t S x hG hx) dL_ahead_47 [0, 1, 2, 3, 4, 5, 6, 7, 8] [] 0 rfl nd_0_1_2_3_4_5_6_7_8 rfl rfl rfl (by decide) (by decide) (Nat.le_of_ble_eq_true rfl) rfl ?_
  refine z_aload_n C 0 dL_ahead_50 rfl rfl ?_
  refine z_iload_n C 2 dL_ahead_51 rfl rfl ?_
  refine z_iconst C (nI 4) dL_ahead_52 (by decide) ?_
  refine z_callVr C kX5_change gL_ahead_X5_change (l_chg4 X.2.1 x0 h0 w0 t S y hG hy) dL_ahead_53 [0, 1, 2, 3, 4, 5, 6, 7, 8] [.int (eP (lP S 1 x))] 0 rfl nd_0_1_2_3_4_5_6_7_8 rfl rfl rfl (by decide) (by decide) (Nat.le_of_ble_eq_true rfl) rfl ?_
  refine z_isub C dL_ahead_56 ?_
  refine z_goto C 61 dL_ahead_57 (by decide) ?_
  refine z_istore_n C 3 dL_ahead_61 rfl (Nat.le_of_ble_eq_true rfl) ?_
  refine z_lv (lv' := [some (.ref x0), some (.int (nI x)), some (.int (nI y)), some (.int ((eP (lP S 1 x)) - (eP (lP S 1 y))))]) rfl ?_
  refine z_iload_n C 3 dL_ahead_62 rfl rfl ?_
  refine z_if_ne_f C 79 dL_ahead_63 (by decide) c1 ?_
  refine z_iload_n C 1 dL_ahead_66 rfl rfl ?_
  refine z_iload_n C 2 dL_ahead_67 rfl rfl ?_
  refine z_ncmp_ge_f C 75 dL_ahead_68 (by decide) (by omega) (by omega) (by omega) ?_
  refine z_iconst C (nI 1) dL_ahead_71 (by decide) ?_
  refine z_goto C 88 dL_ahead_72 (by decide) ?_
  exact z_zret C N dL_ahead_88 rfl (rfl) (rfl)

theorem w_ahead (E : zE) (x0 h0 w0 : Nat) (t : Nat → Nat) (S : zSt) {B : Nat} (x y : Nat) (hG : GG S B) (hx : x < mK S) (hy : y < mK S) (hl : lx S x y = true) : zM E yL_ahead wsL_ahead 6 [.ref x0, .int (nI x), .int (nI y)] (WTd E x0 h0 w0 t S) (WTd E x0 h0 w0 t S) (some (.int (nI 1))) := by
  have hl := of_decide_eq_true hl
  rcases hl with ha | ⟨ha, hb | ⟨hb, hc | ⟨hc, hd⟩⟩⟩
  · exact w_ahead1 E x0 h0 w0 t S x y hG hx hy ha
  · exact w_ahead2 E x0 h0 w0 t S x y hG hx hy ha hb
  · exact w_ahead3 E x0 h0 w0 t S x y hG hx hy ha hb hc
  · exact w_ahead4 E x0 h0 w0 t S x y hG hx hy ha hb hc hd
