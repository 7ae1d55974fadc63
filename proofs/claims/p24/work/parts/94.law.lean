/-! the law: its turns, by the sort of act -/
/-- what the law's loop comes to at turn e -/
def LI (X : zX) (b x0 h0 h1 w0 w1 : Nat) (t : Nat → Nat) (r : Nat → Nat → Nat) (e : Nat) : Prop := ∀ (S : zSt) (o kp : Nat) (Q : Nat → zSt) (tx : Nat → Nat) (ln : Nat) (ps : zPs), GG S (2 * e) → o < 5 → kp ≤ 4 → ln ≤ 60 → (∀ j, tx j < 65536) → zG X (53 + 3 * e) (3001 + 23 * e) (WRd X.2.1 x0 h0 h1 w0 w1 t r S o kp Q tx ln ps) [some (.ref b), some (.ref x0), some (.int (nI e)), none, none, none, none, none, none, none, none, none, none, none] [] 10
set_option maxHeartbeats 4000000 in
set_option maxRecDepth 100000 in
theorem law_tail {X : zX} (M : zRq X) {x0 h0 h1 w0 w1 : Nat} {t : Nat → Nat} {r : Nat → Nat → Nat} {e b : Nat} (C : zC X (53 + 3 * e) (3001 + 23 * e) code RL wsL_law 10) (he : e < 40) (IH : LI X b x0 h0 h1 w0 w1 t r (e + 1)) (S : zSt) (o kp : Nat) (Q : Nat → zSt) (tx : Nat → Nat) (ln : Nat) (ps : zPs) (v3 v4 v5 v6 v7 v9 v10 v11 v12 v13 : Option Value) (hG : GG S (2 * e + 2)) (ho : o < 5) (hk : kp ≤ 4) (hln : ln ≤ 60) (htx : ∀ j, tx j < 65536) : zG X (53 + 3 * e) (3001 + 23 * e) (WRd X.2.1 x0 h0 h1 w0 w1 t r S o kp Q tx ln ps) [some (.ref b), some (.ref x0), some (.int (nI e)), v3, v4, v5, v6, v7, some (.int (nI 1)), v9, v10, v11, v12, v13] [] 506 := by
  have IH' := IH S o kp Q tx ln ps hG ho hk hln htx
  refine z_iload C dL_law_506 rfl ?_
  refine z_if_eq_f C 539 dL_law_508 (by decide) (by decide) ?_
  refine z_aload_n C 1 dL_law_511 rfl rfl ?_
  refine z_callSr C kL_lines gL_law_L_lines (w_lines X.2.1 x0 h0 h1 w0 w1 t S o kp ln ps hG) dL_law_512 [0, 1, 2, 3, 4, 5, 6, 7, 8, 9, 51] [] rfl nd_0_1_2_3_4_5_6_7_8_9_51 rfl (by decide) (by decide) (Nat.le_of_ble_eq_true rfl) rfl ?_
  refine z_if_eq_f C 539 dL_law_515 (by decide) (by decide) ?_
  refine z_aload_n C 1 dL_law_518 rfl rfl ?_
  refine z_callSQ (k' := 54 + 3 * e) (n' := 3004 + 23 * e) C M kL_cells gL_law_L_cells (w_cells X.2.1 x0 h0 h1 w0 w1 t S o kp ln ps hG) dL_law_519 [0, 1, 2, 3, 4, 5, 6, 7, 8, 9, 51] [] rfl rfl nd_0_1_2_3_4_5_6_7_8_9_51 rfl (by decide) (by decide) (Nat.le_of_ble_eq_true rfl) rfl (zput_same _ _ _ rfl) (by omega) (by omega) (by omega) (by omega) ?_
  have C := zRq.mono M C (k' := 54 + 3 * e) (n' := 3004 + 23 * e) (by omega) (by omega)
  refine z_if_eq_f C 539 dL_law_522 (by decide) (by decide) ?_
  refine z_iload_n C 2 dL_law_525 rfl rfl ?_
  refine z_iconst C (nI 4) dL_law_526 (by decide) ?_
  refine z_irem C dL_law_527 (by decide) ?_
  refine z_top (y := nI (e % 4)) (pk_rem (by omega) (by decide) (by decide)) ?_
  refine z_iconst C (nI 3) dL_law_528 (by decide) ?_
  have fin : ∀ k2 n2, k2 ≤ 56 + 3 * e → n2 ≤ 3024 + 23 * e → zG X k2 n2 (WRd X.2.1 x0 h0 h1 w0 w1 t r S o kp Q tx ln ps) [some (.ref b), some (.ref x0), some (.int (nI e)), v3, v4, v5, v6, v7, some (.int (nI 1)), v9, v10, v11, v12, v13] [] 541 := by
    intro k2 n2 hk2 hn2
    have C := zRq.mono M C (k' := k2) (n' := n2) (by omega) (by omega)
    refine z_iinc C (nI (e + 1)) dL_law_541 rfl (nI_add e 1) ?_
    refine z_goto C 10 dL_law_544 (by decide) ?_
    refine z_wid (k' := 53 + 3 * (e + 1)) (n' := 3001 + 23 * (e + 1)) (by omega) (by omega) ?_
    refine z_lv (lv' := [some (.ref b), some (.ref x0), some (.int (nI (e + 1))), v3, v4, v5, v6, v7, some (.int (nI 1)), v9, v10, v11, v12, v13]) rfl ?_
    refine z_kill 3 ?_
    refine z_kill 4 ?_
    refine z_kill 5 ?_
    refine z_kill 6 ?_
    refine z_kill 7 ?_
    refine z_kill 8 ?_
    refine z_kill 9 ?_
    refine z_kill 10 ?_
    refine z_kill 11 ?_
    refine z_kill 12 ?_
    refine z_kill 13 ?_
    exact IH'
  refine z_ncmp_ne C 541 dL_law_529 (by decide) (by omega) (by decide) (fun _ => fin _ _ (by omega) (by omega)) (fun _ => ?_)
  refine z_aload_n C 1 dL_law_532 rfl rfl ?_
  refine z_callSQ (k' := 56 + 3 * e) (n' := 3024 + 23 * e) C M kL_changes gL_law_L_changes (w_changes X.2.1 x0 h0 h1 w0 w1 t S o kp ln ps hG) dL_law_533 [0, 1, 2, 3, 4, 5, 6, 7, 8, 9, 51] [] rfl rfl nd_0_1_2_3_4_5_6_7_8_9_51 rfl (by decide) (by decide) (Nat.le_of_ble_eq_true rfl) rfl (zput_same _ _ _ rfl) (by omega) (by omega) (by omega) (by omega) ?_
  have C := zRq.mono M C (k' := 56 + 3 * e) (n' := 3024 + 23 * e) (by omega) (by omega)
  refine z_if_ne_t C 541 dL_law_536 (by decide) (by decide) ?_
  exact fin _ _ (by omega) (by omega)

set_option maxHeartbeats 4000000 in
set_option maxRecDepth 100000 in
theorem lw_c0_0 {X : zX} (M : zRq X) (x0 h0 h1 w0 w1 : Nat) (t : Nat → Nat) (r : Nat → Nat → Nat) (e : Nat) (he : e < 40) {b : Nat} (C : zC X (53 + 3 * e) (3001 + 23 * e) code RL wsL_law 10) (IH : LI X b x0 h0 h1 w0 w1 t r (e + 1)) (g h : Int32) (au : Nat) (S : zSt) (o kp : Nat) (Q : Nat → zSt) (tx : Nat → Nat) (ln : Nat) (ps : zPs) (hG : GG S (2 * e)) (ho : o < 5) (hk : kp ≤ 4) (hln : ln ≤ 60) (htx : ∀ j, tx j < 65536) (hau : au < 3) : zG X (53 + 3 * e) (3001 + 23 * e) (WRd X.2.1 x0 h0 h1 w0 w1 t r S o kp Q tx ln ps) [some (.ref b), some (.ref x0), some (.int (nI e)), some (.int g), some (.int h), some (.int (nI 0)), some (.int (nI au)), some (.int (nI 0)), none, none, none, none, none, none] [] 80 := by
  have hb0 : uU S 0 ≤ 12 := gg_u hG 0
  have hb1 : uU S 1 ≤ 8 := gg_u1 hG
  have hb2 : mK S ≤ 60 := gg_M hG
  refine z_iload C dL_law_80 rfl ?_
  refine z_iconst C (nI 2) dL_law_82 (by decide) ?_
  refine z_ncmp_ge_f C 120 dL_law_83 (by decide) (by omega) (by omega) (by omega) ?_
  refine z_aload_n C 1 dL_law_86 rfl rfl ?_
  refine z_iconst C (nI 0) dL_law_87 (by decide) ?_
  refine z_iload C dL_law_88 rfl ?_
  refine z_callVr C kX5_size gL_law_X5_size (l_size0 X.2.1 x0 h0 w0 t S 0 hG (by decide)) dL_law_90 [0, 1, 2, 3, 4, 5, 6, 7, 8] [] 0 rfl nd_0_1_2_3_4_5_6_7_8 rfl rfl rfl (by decide) (by decide) (Nat.le_of_ble_eq_true rfl) rfl ?_
  refine z_iconst C (nI 5) dL_law_93 (by decide) ?_
  refine z_ncmp_gt C 112 dL_law_94 (by decide) (by omega) (by omega) (fun h_1 => ?_) (fun h_1 => ?_)
  · refine z_iconst C (nI 1) dL_law_112 (by decide) ?_
    refine z_goto C 121 dL_law_113 (by decide) ?_
    refine z_istore C dL_law_121 (Nat.le_of_ble_eq_true rfl) ?_
    refine z_lv (lv' := [some (.ref b), some (.ref x0), some (.int (nI e)), some (.int g), some (.int h), some (.int (nI 0)), some (.int (nI au)), some (.int (nI 0)), some (.int (nI 1)), none, none, none, none, none]) rfl ?_
    refine z_iload C dL_law_123 rfl ?_
    refine z_iconst C (nI 2) dL_law_125 (by decide) ?_
    refine z_ncmp_eq_f C 135 dL_law_126 (by decide) (by omega) (by omega) (by omega) ?_
    refine z_iload C dL_law_129 rfl ?_
    refine z_iconst C (nI 3) dL_law_131 (by decide) ?_
    refine z_ncmp_ne_t C 152 dL_law_132 (by decide) (by omega) (by omega) (by omega) ?_
    refine z_iload C dL_law_152 rfl ?_
    refine z_iconst C (nI 3) dL_law_154 (by decide) ?_
    refine z_ncmp_le_t C 181 dL_law_155 (by decide) (by omega) (by omega) (by omega) ?_
    refine z_iload C dL_law_181 rfl ?_
    refine z_bipush C (nI 8) dL_law_183 (by decide) ?_
    refine z_ncmp_le_t C 220 dL_law_185 (by decide) (by omega) (by omega) (by omega) ?_
    refine z_iload C dL_law_220 rfl ?_
    refine z_bipush C (nI 12) dL_law_222 (by decide) ?_
    refine z_ncmp_ne_t C 313 dL_law_224 (by decide) (by omega) (by omega) (by omega) ?_
    refine z_iload C dL_law_313 rfl ?_
    refine z_bipush C (nI 13) dL_law_315 (by decide) ?_
    refine z_ncmp_ne_t C 336 dL_law_317 (by decide) (by omega) (by omega) (by omega) ?_
    refine z_iload C dL_law_336 rfl ?_
    refine z_bipush C (nI 14) dL_law_338 (by decide) ?_
    refine z_ncmp_ne_t C 506 dL_law_340 (by decide) (by omega) (by omega) (by omega) ?_
    exact law_tail M C he IH _ _ _ _ _ _ _ _ _ _ _ _ _ _ _ _ _ (GG_mono hG (by omega)) ho hk hln htx
  · refine z_aload_n C 1 dL_law_97 rfl rfl ?_
    refine z_iload C dL_law_98 rfl ?_
    refine z_iload C dL_law_100 rfl ?_
    refine z_iload C dL_law_102 rfl ?_
    refine z_iconst C (nI 3) dL_law_104 (by decide) ?_
    refine z_ishr C dL_law_105 ?_
    obtain ⟨S', o', kp', Q', tx', ln', ps', hG', ho', hk', hln', htx', hM⟩ := e_ins0 X.2.1 x0 h0 h1 w0 w1 t r S o kp Q tx ln ps au (h >>> ((nI 3) &&& 31)) hG (by omega) ho hk hln htx (by omega)
    refine z_callSQ (wn := (WRd X.2.1 x0 h0 h1 w0 w1 t r S' o' kp' Q' tx' ln' ps')) (k' := 53 + 3 * e) (n' := 3001 + 23 * e) C M kL_inserts gL_law_L_inserts (zM.toA hM) dL_law_106 [0, 1, 2, 3, 4, 5, 6, 7, 8, 9, 10, 11, 12, 13, 14, 15, 16, 17, 18, 19, 20, 21, 22, 23, 24, 25, 26, 27, 28, 29, 30, 31, 32, 33, 34, 35, 36, 37, 38, 39, 40, 41, 42, 43, 44, 45, 46, 47, 48, 49, 50, 51, 52] [] rfl rfl nd_0_1_2_3_4_5_6_7_8_9_10_11_12_13_14_15_16_17_18_19_20_21_22_23_24_25_26_27_28_29_30_31_32_33_34_35_36_37_38_39_40_41_42_43_44_45_46_47_48_49_50_51_52 rfl (by decide) (by decide) (Nat.le_of_ble_eq_true rfl) rfl ((zput_par nd_0_1_2_3_4_5_6_7_8_9_10_11_12_13_14_15_16_17_18_19_20_21_22_23_24_25_26_27_28_29_30_31_32_33_34_35_36_37_38_39_40_41_42_43_44_45_46_47_48_49_50_51_52 rfl).trans rfl) (by omega) (by omega) (by omega) (by omega) ?_
    refine z_nif_eq_f C 116 dL_law_109 (by decide) (by omega) (by omega) ?_
    refine z_iconst C (nI 1) dL_law_112 (by decide) ?_
    refine z_goto C 121 dL_law_113 (by decide) ?_
    refine z_istore C dL_law_121 (Nat.le_of_ble_eq_true rfl) ?_
    refine z_lv (lv' := [some (.ref b), some (.ref x0), some (.int (nI e)), some (.int g), some (.int h), some (.int (nI 0)), some (.int (nI au)), some (.int (nI 0)), some (.int (nI 1)), none, none, none, none, none]) rfl ?_
    refine z_iload C dL_law_123 rfl ?_
    refine z_iconst C (nI 2) dL_law_125 (by decide) ?_
    refine z_ncmp_eq_f C 135 dL_law_126 (by decide) (by omega) (by omega) (by omega) ?_
    refine z_iload C dL_law_129 rfl ?_
    refine z_iconst C (nI 3) dL_law_131 (by decide) ?_
    refine z_ncmp_ne_t C 152 dL_law_132 (by decide) (by omega) (by omega) (by omega) ?_
    refine z_iload C dL_law_152 rfl ?_
    refine z_iconst C (nI 3) dL_law_154 (by decide) ?_
    refine z_ncmp_le_t C 181 dL_law_155 (by decide) (by omega) (by omega) (by omega) ?_
    refine z_iload C dL_law_181 rfl ?_
    refine z_bipush C (nI 8) dL_law_183 (by decide) ?_
    refine z_ncmp_le_t C 220 dL_law_185 (by decide) (by omega) (by omega) (by omega) ?_
    refine z_iload C dL_law_220 rfl ?_
    refine z_bipush C (nI 12) dL_law_222 (by decide) ?_
    refine z_ncmp_ne_t C 313 dL_law_224 (by decide) (by omega) (by omega) (by omega) ?_
    refine z_iload C dL_law_313 rfl ?_
    refine z_bipush C (nI 13) dL_law_315 (by decide) ?_
    refine z_ncmp_ne_t C 336 dL_law_317 (by decide) (by omega) (by omega) (by omega) ?_
    refine z_iload C dL_law_336 rfl ?_
    refine z_bipush C (nI 14) dL_law_338 (by decide) ?_
    refine z_ncmp_ne_t C 506 dL_law_340 (by decide) (by omega) (by omega) (by omega) ?_
    exact law_tail M C he IH _ _ _ _ _ _ _ _ _ _ _ _ _ _ _ _ _ hG' ho' hk' hln' htx'

set_option maxHeartbeats 4000000 in
set_option maxRecDepth 100000 in
theorem lw_c0_1 {X : zX} (M : zRq X) (x0 h0 h1 w0 w1 : Nat) (t : Nat → Nat) (r : Nat → Nat → Nat) (e : Nat) (he : e < 40) {b : Nat} (C : zC X (53 + 3 * e) (3001 + 23 * e) code RL wsL_law 10) (IH : LI X b x0 h0 h1 w0 w1 t r (e + 1)) (g h : Int32) (au : Nat) (S : zSt) (o kp : Nat) (Q : Nat → zSt) (tx : Nat → Nat) (ln : Nat) (ps : zPs) (hG : GG S (2 * e)) (ho : o < 5) (hk : kp ≤ 4) (hln : ln ≤ 60) (htx : ∀ j, tx j < 65536) (hau : au < 3) : zG X (53 + 3 * e) (3001 + 23 * e) (WRd X.2.1 x0 h0 h1 w0 w1 t r S o kp Q tx ln ps) [some (.ref b), some (.ref x0), some (.int (nI e)), some (.int g), some (.int h), some (.int (nI 0)), some (.int (nI au)), some (.int (nI 1)), none, none, none, none, none, none] [] 80 := by
  have hb0 : uU S 0 ≤ 12 := gg_u hG 0
  have hb1 : uU S 1 ≤ 8 := gg_u1 hG
  have hb2 : mK S ≤ 60 := gg_M hG
  refine z_iload C dL_law_80 rfl ?_
  refine z_iconst C (nI 2) dL_law_82 (by decide) ?_
  refine z_ncmp_ge_f C 120 dL_law_83 (by decide) (by omega) (by omega) (by omega) ?_
  refine z_aload_n C 1 dL_law_86 rfl rfl ?_
  refine z_iconst C (nI 0) dL_law_87 (by decide) ?_
  refine z_iload C dL_law_88 rfl ?_
  refine z_callVr C kX5_size gL_law_X5_size (l_size0 X.2.1 x0 h0 w0 t S 1 hG (by decide)) dL_law_90 [0, 1, 2, 3, 4, 5, 6, 7, 8] [] 0 rfl nd_0_1_2_3_4_5_6_7_8 rfl rfl rfl (by decide) (by decide) (Nat.le_of_ble_eq_true rfl) rfl ?_
  refine z_iconst C (nI 5) dL_law_93 (by decide) ?_
  refine z_ncmp_gt C 112 dL_law_94 (by decide) (by omega) (by omega) (fun h_1 => ?_) (fun h_1 => ?_)
  · refine z_iconst C (nI 1) dL_law_112 (by decide) ?_
    refine z_goto C 121 dL_law_113 (by decide) ?_
    refine z_istore C dL_law_121 (Nat.le_of_ble_eq_true rfl) ?_
    refine z_lv (lv' := [some (.ref b), some (.ref x0), some (.int (nI e)), some (.int g), some (.int h), some (.int (nI 0)), some (.int (nI au)), some (.int (nI 1)), some (.int (nI 1)), none, none, none, none, none]) rfl ?_
    refine z_iload C dL_law_123 rfl ?_
    refine z_iconst C (nI 2) dL_law_125 (by decide) ?_
    refine z_ncmp_eq_f C 135 dL_law_126 (by decide) (by omega) (by omega) (by omega) ?_
    refine z_iload C dL_law_129 rfl ?_
    refine z_iconst C (nI 3) dL_law_131 (by decide) ?_
    refine z_ncmp_ne_t C 152 dL_law_132 (by decide) (by omega) (by omega) (by omega) ?_
    refine z_iload C dL_law_152 rfl ?_
    refine z_iconst C (nI 3) dL_law_154 (by decide) ?_
    refine z_ncmp_le_t C 181 dL_law_155 (by decide) (by omega) (by omega) (by omega) ?_
    refine z_iload C dL_law_181 rfl ?_
    refine z_bipush C (nI 8) dL_law_183 (by decide) ?_
    refine z_ncmp_le_t C 220 dL_law_185 (by decide) (by omega) (by omega) (by omega) ?_
    refine z_iload C dL_law_220 rfl ?_
    refine z_bipush C (nI 12) dL_law_222 (by decide) ?_
    refine z_ncmp_ne_t C 313 dL_law_224 (by decide) (by omega) (by omega) (by omega) ?_
    refine z_iload C dL_law_313 rfl ?_
    refine z_bipush C (nI 13) dL_law_315 (by decide) ?_
    refine z_ncmp_ne_t C 336 dL_law_317 (by decide) (by omega) (by omega) (by omega) ?_
    refine z_iload C dL_law_336 rfl ?_
    refine z_bipush C (nI 14) dL_law_338 (by decide) ?_
    refine z_ncmp_ne_t C 506 dL_law_340 (by decide) (by omega) (by omega) (by omega) ?_
    exact law_tail M C he IH _ _ _ _ _ _ _ _ _ _ _ _ _ _ _ _ _ (GG_mono hG (by omega)) ho hk hln htx
  · refine z_aload_n C 1 dL_law_97 rfl rfl ?_
    refine z_iload C dL_law_98 rfl ?_
    refine z_iload C dL_law_100 rfl ?_
    refine z_iload C dL_law_102 rfl ?_
    refine z_iconst C (nI 3) dL_law_104 (by decide) ?_
    refine z_ishr C dL_law_105 ?_
    obtain ⟨S', o', kp', Q', tx', ln', ps', hG', ho', hk', hln', htx', hM⟩ := e_ins1 X.2.1 x0 h0 h1 w0 w1 t r S o kp Q tx ln ps au (h >>> ((nI 3) &&& 31)) hG (by omega) ho hk hln htx (by omega)
    refine z_callSQ (wn := (WRd X.2.1 x0 h0 h1 w0 w1 t r S' o' kp' Q' tx' ln' ps')) (k' := 53 + 3 * e) (n' := 3001 + 23 * e) C M kL_inserts gL_law_L_inserts (zM.toA hM) dL_law_106 [0, 1, 2, 3, 4, 5, 6, 7, 8, 9, 10, 11, 12, 13, 14, 15, 16, 17, 18, 19, 20, 21, 22, 23, 24, 25, 26, 27, 28, 29, 30, 31, 32, 33, 34, 35, 36, 37, 38, 39, 40, 41, 42, 43, 44, 45, 46, 47, 48, 49, 50, 51, 52] [] rfl rfl nd_0_1_2_3_4_5_6_7_8_9_10_11_12_13_14_15_16_17_18_19_20_21_22_23_24_25_26_27_28_29_30_31_32_33_34_35_36_37_38_39_40_41_42_43_44_45_46_47_48_49_50_51_52 rfl (by decide) (by decide) (Nat.le_of_ble_eq_true rfl) rfl ((zput_par nd_0_1_2_3_4_5_6_7_8_9_10_11_12_13_14_15_16_17_18_19_20_21_22_23_24_25_26_27_28_29_30_31_32_33_34_35_36_37_38_39_40_41_42_43_44_45_46_47_48_49_50_51_52 rfl).trans rfl) (by omega) (by omega) (by omega) (by omega) ?_
    refine z_nif_eq_f C 116 dL_law_109 (by decide) (by omega) (by omega) ?_
    refine z_iconst C (nI 1) dL_law_112 (by decide) ?_
    refine z_goto C 121 dL_law_113 (by decide) ?_
    refine z_istore C dL_law_121 (Nat.le_of_ble_eq_true rfl) ?_
    refine z_lv (lv' := [some (.ref b), some (.ref x0), some (.int (nI e)), some (.int g), some (.int h), some (.int (nI 0)), some (.int (nI au)), some (.int (nI 1)), some (.int (nI 1)), none, none, none, none, none]) rfl ?_
    refine z_iload C dL_law_123 rfl ?_
    refine z_iconst C (nI 2) dL_law_125 (by decide) ?_
    refine z_ncmp_eq_f C 135 dL_law_126 (by decide) (by omega) (by omega) (by omega) ?_
    refine z_iload C dL_law_129 rfl ?_
    refine z_iconst C (nI 3) dL_law_131 (by decide) ?_
    refine z_ncmp_ne_t C 152 dL_law_132 (by decide) (by omega) (by omega) (by omega) ?_
    refine z_iload C dL_law_152 rfl ?_
    refine z_iconst C (nI 3) dL_law_154 (by decide) ?_
    refine z_ncmp_le_t C 181 dL_law_155 (by decide) (by omega) (by omega) (by omega) ?_
    refine z_iload C dL_law_181 rfl ?_
    refine z_bipush C (nI 8) dL_law_183 (by decide) ?_
    refine z_ncmp_le_t C 220 dL_law_185 (by decide) (by omega) (by omega) (by omega) ?_
    refine z_iload C dL_law_220 rfl ?_
    refine z_bipush C (nI 12) dL_law_222 (by decide) ?_
    refine z_ncmp_ne_t C 313 dL_law_224 (by decide) (by omega) (by omega) (by omega) ?_
    refine z_iload C dL_law_313 rfl ?_
    refine z_bipush C (nI 13) dL_law_315 (by decide) ?_
    refine z_ncmp_ne_t C 336 dL_law_317 (by decide) (by omega) (by omega) (by omega) ?_
    refine z_iload C dL_law_336 rfl ?_
    refine z_bipush C (nI 14) dL_law_338 (by decide) ?_
    refine z_ncmp_ne_t C 506 dL_law_340 (by decide) (by omega) (by omega) (by omega) ?_
    exact law_tail M C he IH _ _ _ _ _ _ _ _ _ _ _ _ _ _ _ _ _ hG' ho' hk' hln' htx'

set_option maxHeartbeats 4000000 in
set_option maxRecDepth 100000 in
theorem lw_c1_0 {X : zX} (M : zRq X) (x0 h0 h1 w0 w1 : Nat) (t : Nat → Nat) (r : Nat → Nat → Nat) (e : Nat) (he : e < 40) {b : Nat} (C : zC X (53 + 3 * e) (3001 + 23 * e) code RL wsL_law 10) (IH : LI X b x0 h0 h1 w0 w1 t r (e + 1)) (g h : Int32) (au : Nat) (S : zSt) (o kp : Nat) (Q : Nat → zSt) (tx : Nat → Nat) (ln : Nat) (ps : zPs) (hG : GG S (2 * e)) (ho : o < 5) (hk : kp ≤ 4) (hln : ln ≤ 60) (htx : ∀ j, tx j < 65536) (hau : au < 3) : zG X (53 + 3 * e) (3001 + 23 * e) (WRd X.2.1 x0 h0 h1 w0 w1 t r S o kp Q tx ln ps) [some (.ref b), some (.ref x0), some (.int (nI e)), some (.int g), some (.int h), some (.int (nI 1)), some (.int (nI au)), some (.int (nI 0)), none, none, none, none, none, none] [] 80 := by
  have hb0 : uU S 0 ≤ 12 := gg_u hG 0
  have hb1 : uU S 1 ≤ 8 := gg_u1 hG
  have hb2 : mK S ≤ 60 := gg_M hG
  refine z_iload C dL_law_80 rfl ?_
  refine z_iconst C (nI 2) dL_law_82 (by decide) ?_
  refine z_ncmp_ge_f C 120 dL_law_83 (by decide) (by omega) (by omega) (by omega) ?_
  refine z_aload_n C 1 dL_law_86 rfl rfl ?_
  refine z_iconst C (nI 0) dL_law_87 (by decide) ?_
  refine z_iload C dL_law_88 rfl ?_
  refine z_callVr C kX5_size gL_law_X5_size (l_size0 X.2.1 x0 h0 w0 t S 0 hG (by decide)) dL_law_90 [0, 1, 2, 3, 4, 5, 6, 7, 8] [] 0 rfl nd_0_1_2_3_4_5_6_7_8 rfl rfl rfl (by decide) (by decide) (Nat.le_of_ble_eq_true rfl) rfl ?_
  refine z_iconst C (nI 5) dL_law_93 (by decide) ?_
  refine z_ncmp_gt C 112 dL_law_94 (by decide) (by omega) (by omega) (fun h_1 => ?_) (fun h_1 => ?_)
  · refine z_iconst C (nI 1) dL_law_112 (by decide) ?_
    refine z_goto C 121 dL_law_113 (by decide) ?_
    refine z_istore C dL_law_121 (Nat.le_of_ble_eq_true rfl) ?_
    refine z_lv (lv' := [some (.ref b), some (.ref x0), some (.int (nI e)), some (.int g), some (.int h), some (.int (nI 1)), some (.int (nI au)), some (.int (nI 0)), some (.int (nI 1)), none, none, none, none, none]) rfl ?_
    refine z_iload C dL_law_123 rfl ?_
    refine z_iconst C (nI 2) dL_law_125 (by decide) ?_
    refine z_ncmp_eq_f C 135 dL_law_126 (by decide) (by omega) (by omega) (by omega) ?_
    refine z_iload C dL_law_129 rfl ?_
    refine z_iconst C (nI 3) dL_law_131 (by decide) ?_
    refine z_ncmp_ne_t C 152 dL_law_132 (by decide) (by omega) (by omega) (by omega) ?_
    refine z_iload C dL_law_152 rfl ?_
    refine z_iconst C (nI 3) dL_law_154 (by decide) ?_
    refine z_ncmp_le_t C 181 dL_law_155 (by decide) (by omega) (by omega) (by omega) ?_
    refine z_iload C dL_law_181 rfl ?_
    refine z_bipush C (nI 8) dL_law_183 (by decide) ?_
    refine z_ncmp_le_t C 220 dL_law_185 (by decide) (by omega) (by omega) (by omega) ?_
    refine z_iload C dL_law_220 rfl ?_
    refine z_bipush C (nI 12) dL_law_222 (by decide) ?_
    refine z_ncmp_ne_t C 313 dL_law_224 (by decide) (by omega) (by omega) (by omega) ?_
    refine z_iload C dL_law_313 rfl ?_
    refine z_bipush C (nI 13) dL_law_315 (by decide) ?_
    refine z_ncmp_ne_t C 336 dL_law_317 (by decide) (by omega) (by omega) (by omega) ?_
    refine z_iload C dL_law_336 rfl ?_
    refine z_bipush C (nI 14) dL_law_338 (by decide) ?_
    refine z_ncmp_ne_t C 506 dL_law_340 (by decide) (by omega) (by omega) (by omega) ?_
    exact law_tail M C he IH _ _ _ _ _ _ _ _ _ _ _ _ _ _ _ _ _ (GG_mono hG (by omega)) ho hk hln htx
  · refine z_aload_n C 1 dL_law_97 rfl rfl ?_
    refine z_iload C dL_law_98 rfl ?_
    refine z_iload C dL_law_100 rfl ?_
    refine z_iload C dL_law_102 rfl ?_
    refine z_iconst C (nI 3) dL_law_104 (by decide) ?_
    refine z_ishr C dL_law_105 ?_
    obtain ⟨S', o', kp', Q', tx', ln', ps', hG', ho', hk', hln', htx', hM⟩ := e_ins0 X.2.1 x0 h0 h1 w0 w1 t r S o kp Q tx ln ps au (h >>> ((nI 3) &&& 31)) hG (by omega) ho hk hln htx (by omega)
    refine z_callSQ (wn := (WRd X.2.1 x0 h0 h1 w0 w1 t r S' o' kp' Q' tx' ln' ps')) (k' := 53 + 3 * e) (n' := 3001 + 23 * e) C M kL_inserts gL_law_L_inserts (zM.toA hM) dL_law_106 [0, 1, 2, 3, 4, 5, 6, 7, 8, 9, 10, 11, 12, 13, 14, 15, 16, 17, 18, 19, 20, 21, 22, 23, 24, 25, 26, 27, 28, 29, 30, 31, 32, 33, 34, 35, 36, 37, 38, 39, 40, 41, 42, 43, 44, 45, 46, 47, 48, 49, 50, 51, 52] [] rfl rfl nd_0_1_2_3_4_5_6_7_8_9_10_11_12_13_14_15_16_17_18_19_20_21_22_23_24_25_26_27_28_29_30_31_32_33_34_35_36_37_38_39_40_41_42_43_44_45_46_47_48_49_50_51_52 rfl (by decide) (by decide) (Nat.le_of_ble_eq_true rfl) rfl ((zput_par nd_0_1_2_3_4_5_6_7_8_9_10_11_12_13_14_15_16_17_18_19_20_21_22_23_24_25_26_27_28_29_30_31_32_33_34_35_36_37_38_39_40_41_42_43_44_45_46_47_48_49_50_51_52 rfl).trans rfl) (by omega) (by omega) (by omega) (by omega) ?_
    refine z_nif_eq_f C 116 dL_law_109 (by decide) (by omega) (by omega) ?_
    refine z_iconst C (nI 1) dL_law_112 (by decide) ?_
    refine z_goto C 121 dL_law_113 (by decide) ?_
    refine z_istore C dL_law_121 (Nat.le_of_ble_eq_true rfl) ?_
    refine z_lv (lv' := [some (.ref b), some (.ref x0), some (.int (nI e)), some (.int g), some (.int h), some (.int (nI 1)), some (.int (nI au)), some (.int (nI 0)), some (.int (nI 1)), none, none, none, none, none]) rfl ?_
    refine z_iload C dL_law_123 rfl ?_
    refine z_iconst C (nI 2) dL_law_125 (by decide) ?_
    refine z_ncmp_eq_f C 135 dL_law_126 (by decide) (by omega) (by omega) (by omega) ?_
    refine z_iload C dL_law_129 rfl ?_
    refine z_iconst C (nI 3) dL_law_131 (by decide) ?_
    refine z_ncmp_ne_t C 152 dL_law_132 (by decide) (by omega) (by omega) (by omega) ?_
    refine z_iload C dL_law_152 rfl ?_
    refine z_iconst C (nI 3) dL_law_154 (by decide) ?_
    refine z_ncmp_le_t C 181 dL_law_155 (by decide) (by omega) (by omega) (by omega) ?_
    refine z_iload C dL_law_181 rfl ?_
    refine z_bipush C (nI 8) dL_law_183 (by decide) ?_
    refine z_ncmp_le_t C 220 dL_law_185 (by decide) (by omega) (by omega) (by omega) ?_
    refine z_iload C dL_law_220 rfl ?_
    refine z_bipush C (nI 12) dL_law_222 (by decide) ?_
    refine z_ncmp_ne_t C 313 dL_law_224 (by decide) (by omega) (by omega) (by omega) ?_
    refine z_iload C dL_law_313 rfl ?_
    refine z_bipush C (nI 13) dL_law_315 (by decide) ?_
    refine z_ncmp_ne_t C 336 dL_law_317 (by decide) (by omega) (by omega) (by omega) ?_
    refine z_iload C dL_law_336 rfl ?_
    refine z_bipush C (nI 14) dL_law_338 (by decide) ?_
    refine z_ncmp_ne_t C 506 dL_law_340 (by decide) (by omega) (by omega) (by omega) ?_
    exact law_tail M C he IH _ _ _ _ _ _ _ _ _ _ _ _ _ _ _ _ _ hG' ho' hk' hln' htx'

set_option maxHeartbeats 4000000 in
set_option maxRecDepth 100000 in
theorem lw_c1_1 {X : zX} (M : zRq X) (x0 h0 h1 w0 w1 : Nat) (t : Nat → Nat) (r : Nat → Nat → Nat) (e : Nat) (he : e < 40) {b : Nat} (C : zC X (53 + 3 * e) (3001 + 23 * e) code RL wsL_law 10) (IH : LI X b x0 h0 h1 w0 w1 t r (e + 1)) (g h : Int32) (au : Nat) (S : zSt) (o kp : Nat) (Q : Nat → zSt) (tx : Nat → Nat) (ln : Nat) (ps : zPs) (hG : GG S (2 * e)) (ho : o < 5) (hk : kp ≤ 4) (hln : ln ≤ 60) (htx : ∀ j, tx j < 65536) (hau : au < 3) : zG X (53 + 3 * e) (3001 + 23 * e) (WRd X.2.1 x0 h0 h1 w0 w1 t r S o kp Q tx ln ps) [some (.ref b), some (.ref x0), some (.int (nI e)), some (.int g), some (.int h), some (.int (nI 1)), some (.int (nI au)), some (.int (nI 1)), none, none, none, none, none, none] [] 80 := by
  have hb0 : uU S 0 ≤ 12 := gg_u hG 0
  have hb1 : uU S 1 ≤ 8 := gg_u1 hG
  have hb2 : mK S ≤ 60 := gg_M hG
  refine z_iload C dL_law_80 rfl ?_
  refine z_iconst C (nI 2) dL_law_82 (by decide) ?_
  refine z_ncmp_ge_f C 120 dL_law_83 (by decide) (by omega) (by omega) (by omega) ?_
  refine z_aload_n C 1 dL_law_86 rfl rfl ?_
  refine z_iconst C (nI 0) dL_law_87 (by decide) ?_
  refine z_iload C dL_law_88 rfl ?_
  refine z_callVr C kX5_size gL_law_X5_size (l_size0 X.2.1 x0 h0 w0 t S 1 hG (by decide)) dL_law_90 [0, 1, 2, 3, 4, 5, 6, 7, 8] [] 0 rfl nd_0_1_2_3_4_5_6_7_8 rfl rfl rfl (by decide) (by decide) (Nat.le_of_ble_eq_true rfl) rfl ?_
  refine z_iconst C (nI 5) dL_law_93 (by decide) ?_
  refine z_ncmp_gt C 112 dL_law_94 (by decide) (by omega) (by omega) (fun h_1 => ?_) (fun h_1 => ?_)
  · refine z_iconst C (nI 1) dL_law_112 (by decide) ?_
    refine z_goto C 121 dL_law_113 (by decide) ?_
    refine z_istore C dL_law_121 (Nat.le_of_ble_eq_true rfl) ?_
    refine z_lv (lv' := [some (.ref b), some (.ref x0), some (.int (nI e)), some (.int g), some (.int h), some (.int (nI 1)), some (.int (nI au)), some (.int (nI 1)), some (.int (nI 1)), none, none, none, none, none]) rfl ?_
    refine z_iload C dL_law_123 rfl ?_
    refine z_iconst C (nI 2) dL_law_125 (by decide) ?_
    refine z_ncmp_eq_f C 135 dL_law_126 (by decide) (by omega) (by omega) (by omega) ?_
    refine z_iload C dL_law_129 rfl ?_
    refine z_iconst C (nI 3) dL_law_131 (by decide) ?_
    refine z_ncmp_ne_t C 152 dL_law_132 (by decide) (by omega) (by omega) (by omega) ?_
    refine z_iload C dL_law_152 rfl ?_
    refine z_iconst C (nI 3) dL_law_154 (by decide) ?_
    refine z_ncmp_le_t C 181 dL_law_155 (by decide) (by omega) (by omega) (by omega) ?_
    refine z_iload C dL_law_181 rfl ?_
    refine z_bipush C (nI 8) dL_law_183 (by decide) ?_
    refine z_ncmp_le_t C 220 dL_law_185 (by decide) (by omega) (by omega) (by omega) ?_
    refine z_iload C dL_law_220 rfl ?_
    refine z_bipush C (nI 12) dL_law_222 (by decide) ?_
    refine z_ncmp_ne_t C 313 dL_law_224 (by decide) (by omega) (by omega) (by omega) ?_
    refine z_iload C dL_law_313 rfl ?_
    refine z_bipush C (nI 13) dL_law_315 (by decide) ?_
    refine z_ncmp_ne_t C 336 dL_law_317 (by decide) (by omega) (by omega) (by omega) ?_
    refine z_iload C dL_law_336 rfl ?_
    refine z_bipush C (nI 14) dL_law_338 (by decide) ?_
    refine z_ncmp_ne_t C 506 dL_law_340 (by decide) (by omega) (by omega) (by omega) ?_
    exact law_tail M C he IH _ _ _ _ _ _ _ _ _ _ _ _ _ _ _ _ _ (GG_mono hG (by omega)) ho hk hln htx
  · refine z_aload_n C 1 dL_law_97 rfl rfl ?_
    refine z_iload C dL_law_98 rfl ?_
    refine z_iload C dL_law_100 rfl ?_
    refine z_iload C dL_law_102 rfl ?_
    refine z_iconst C (nI 3) dL_law_104 (by decide) ?_
    refine z_ishr C dL_law_105 ?_
    obtain ⟨S', o', kp', Q', tx', ln', ps', hG', ho', hk', hln', htx', hM⟩ := e_ins1 X.2.1 x0 h0 h1 w0 w1 t r S o kp Q tx ln ps au (h >>> ((nI 3) &&& 31)) hG (by omega) ho hk hln htx (by omega)
    refine z_callSQ (wn := (WRd X.2.1 x0 h0 h1 w0 w1 t r S' o' kp' Q' tx' ln' ps')) (k' := 53 + 3 * e) (n' := 3001 + 23 * e) C M kL_inserts gL_law_L_inserts (zM.toA hM) dL_law_106 [0, 1, 2, 3, 4, 5, 6, 7, 8, 9, 10, 11, 12, 13, 14, 15, 16, 17, 18, 19, 20, 21, 22, 23, 24, 25, 26, 27, 28, 29, 30, 31, 32, 33, 34, 35, 36, 37, 38, 39, 40, 41, 42, 43, 44, 45, 46, 47, 48, 49, 50, 51, 52] [] rfl rfl nd_0_1_2_3_4_5_6_7_8_9_10_11_12_13_14_15_16_17_18_19_20_21_22_23_24_25_26_27_28_29_30_31_32_33_34_35_36_37_38_39_40_41_42_43_44_45_46_47_48_49_50_51_52 rfl (by decide) (by decide) (Nat.le_of_ble_eq_true rfl) rfl ((zput_par nd_0_1_2_3_4_5_6_7_8_9_10_11_12_13_14_15_16_17_18_19_20_21_22_23_24_25_26_27_28_29_30_31_32_33_34_35_36_37_38_39_40_41_42_43_44_45_46_47_48_49_50_51_52 rfl).trans rfl) (by omega) (by omega) (by omega) (by omega) ?_
    refine z_nif_eq_f C 116 dL_law_109 (by decide) (by omega) (by omega) ?_
    refine z_iconst C (nI 1) dL_law_112 (by decide) ?_
    refine z_goto C 121 dL_law_113 (by decide) ?_
    refine z_istore C dL_law_121 (Nat.le_of_ble_eq_true rfl) ?_
    refine z_lv (lv' := [some (.ref b), some (.ref x0), some (.int (nI e)), some (.int g), some (.int h), some (.int (nI 1)), some (.int (nI au)), some (.int (nI 1)), some (.int (nI 1)), none, none, none, none, none]) rfl ?_
    refine z_iload C dL_law_123 rfl ?_
    refine z_iconst C (nI 2) dL_law_125 (by decide) ?_
    refine z_ncmp_eq_f C 135 dL_law_126 (by decide) (by omega) (by omega) (by omega) ?_
    refine z_iload C dL_law_129 rfl ?_
    refine z_iconst C (nI 3) dL_law_131 (by decide) ?_
    refine z_ncmp_ne_t C 152 dL_law_132 (by decide) (by omega) (by omega) (by omega) ?_
    refine z_iload C dL_law_152 rfl ?_
    refine z_iconst C (nI 3) dL_law_154 (by decide) ?_
    refine z_ncmp_le_t C 181 dL_law_155 (by decide) (by omega) (by omega) (by omega) ?_
    refine z_iload C dL_law_181 rfl ?_
    refine z_bipush C (nI 8) dL_law_183 (by decide) ?_
    refine z_ncmp_le_t C 220 dL_law_185 (by decide) (by omega) (by omega) (by omega) ?_
    refine z_iload C dL_law_220 rfl ?_
    refine z_bipush C (nI 12) dL_law_222 (by decide) ?_
    refine z_ncmp_ne_t C 313 dL_law_224 (by decide) (by omega) (by omega) (by omega) ?_
    refine z_iload C dL_law_313 rfl ?_
    refine z_bipush C (nI 13) dL_law_315 (by decide) ?_
    refine z_ncmp_ne_t C 336 dL_law_317 (by decide) (by omega) (by omega) (by omega) ?_
    refine z_iload C dL_law_336 rfl ?_
    refine z_bipush C (nI 14) dL_law_338 (by decide) ?_
    refine z_ncmp_ne_t C 506 dL_law_340 (by decide) (by omega) (by omega) (by omega) ?_
    exact law_tail M C he IH _ _ _ _ _ _ _ _ _ _ _ _ _ _ _ _ _ hG' ho' hk' hln' htx'

set_option maxHeartbeats 4000000 in
set_option maxRecDepth 100000 in
theorem lw_c2_0 {X : zX} (M : zRq X) (x0 h0 h1 w0 w1 : Nat) (t : Nat → Nat) (r : Nat → Nat → Nat) (e : Nat) (he : e < 40) {b : Nat} (C : zC X (53 + 3 * e) (3001 + 23 * e) code RL wsL_law 10) (IH : LI X b x0 h0 h1 w0 w1 t r (e + 1)) (g h : Int32) (au : Nat) (S : zSt) (o kp : Nat) (Q : Nat → zSt) (tx : Nat → Nat) (ln : Nat) (ps : zPs) (hG : GG S (2 * e)) (ho : o < 5) (hk : kp ≤ 4) (hln : ln ≤ 60) (htx : ∀ j, tx j < 65536) (hau : au < 3) : zG X (53 + 3 * e) (3001 + 23 * e) (WRd X.2.1 x0 h0 h1 w0 w1 t r S o kp Q tx ln ps) [some (.ref b), some (.ref x0), some (.int (nI e)), some (.int g), some (.int h), some (.int (nI 2)), some (.int (nI au)), some (.int (nI 0)), none, none, none, none, none, none] [] 80 := by
  have hb0 : uU S 0 ≤ 12 := gg_u hG 0
  have hb1 : uU S 1 ≤ 8 := gg_u1 hG
  have hb2 : mK S ≤ 60 := gg_M hG
  refine z_iload C dL_law_80 rfl ?_
  refine z_iconst C (nI 2) dL_law_82 (by decide) ?_
  refine z_ncmp_ge_t C 120 dL_law_83 (by decide) (by omega) (by omega) (by omega) ?_
  refine z_iconst C (nI 1) dL_law_120 (by decide) ?_
  refine z_istore C dL_law_121 (Nat.le_of_ble_eq_true rfl) ?_
  refine z_lv (lv' := [some (.ref b), some (.ref x0), some (.int (nI e)), some (.int g), some (.int h), some (.int (nI 2)), some (.int (nI au)), some (.int (nI 0)), some (.int (nI 1)), none, none, none, none, none]) rfl ?_
  refine z_iload C dL_law_123 rfl ?_
  refine z_iconst C (nI 2) dL_law_125 (by decide) ?_
  refine z_ncmp_eq_t C 135 dL_law_126 (by decide) (by omega) (by omega) (by omega) ?_
  refine z_aload_n C 1 dL_law_135 rfl rfl ?_
  refine z_iload C dL_law_136 rfl ?_
  refine z_iload C dL_law_138 rfl ?_
  refine z_iload C dL_law_140 rfl ?_
  refine z_iconst C (nI 3) dL_law_142 (by decide) ?_
  refine z_ishr C dL_law_143 ?_
  obtain ⟨S', o', kp', Q', tx', ln', ps', hG', ho', hk', hln', htx', hM⟩ := e_rem0 X.2.1 x0 h0 h1 w0 w1 t r S o kp Q tx ln ps au (h >>> ((nI 3) &&& 31)) hG (by omega) ho hk hln htx (by omega)
  refine z_callSQ (wn := (WRd X.2.1 x0 h0 h1 w0 w1 t r S' o' kp' Q' tx' ln' ps')) (k' := 53 + 3 * e) (n' := 3001 + 23 * e) C M kL_removes gL_law_L_removes (zM.toA hM) dL_law_144 [0, 1, 2, 3, 4, 5, 6, 7, 8, 9, 10, 11, 12, 13, 14, 15, 16, 17, 18, 19, 20, 21, 22, 23, 24, 25, 26, 27, 28, 29, 30, 31, 32, 33, 34, 35, 36, 37, 38, 39, 40, 41, 42, 43, 44, 45, 46, 47, 48, 49, 50, 51, 52] [] rfl rfl nd_0_1_2_3_4_5_6_7_8_9_10_11_12_13_14_15_16_17_18_19_20_21_22_23_24_25_26_27_28_29_30_31_32_33_34_35_36_37_38_39_40_41_42_43_44_45_46_47_48_49_50_51_52 rfl (by decide) (by decide) (Nat.le_of_ble_eq_true rfl) rfl ((zput_par nd_0_1_2_3_4_5_6_7_8_9_10_11_12_13_14_15_16_17_18_19_20_21_22_23_24_25_26_27_28_29_30_31_32_33_34_35_36_37_38_39_40_41_42_43_44_45_46_47_48_49_50_51_52 rfl).trans rfl) (by omega) (by omega) (by omega) (by omega) ?_
  refine z_istore C dL_law_147 (Nat.le_of_ble_eq_true rfl) ?_
  refine z_lv (lv' := [some (.ref b), some (.ref x0), some (.int (nI e)), some (.int g), some (.int h), some (.int (nI 2)), some (.int (nI au)), some (.int (nI 0)), some (.int (nI 1)), none, none, none, none, none]) rfl ?_
  refine z_goto C 506 dL_law_149 (by decide) ?_
  exact law_tail M C he IH _ _ _ _ _ _ _ _ _ _ _ _ _ _ _ _ _ hG' ho' hk' hln' htx'

set_option maxHeartbeats 4000000 in
set_option maxRecDepth 100000 in
theorem lw_c2_1 {X : zX} (M : zRq X) (x0 h0 h1 w0 w1 : Nat) (t : Nat → Nat) (r : Nat → Nat → Nat) (e : Nat) (he : e < 40) {b : Nat} (C : zC X (53 + 3 * e) (3001 + 23 * e) code RL wsL_law 10) (IH : LI X b x0 h0 h1 w0 w1 t r (e + 1)) (g h : Int32) (au : Nat) (S : zSt) (o kp : Nat) (Q : Nat → zSt) (tx : Nat → Nat) (ln : Nat) (ps : zPs) (hG : GG S (2 * e)) (ho : o < 5) (hk : kp ≤ 4) (hln : ln ≤ 60) (htx : ∀ j, tx j < 65536) (hau : au < 3) : zG X (53 + 3 * e) (3001 + 23 * e) (WRd X.2.1 x0 h0 h1 w0 w1 t r S o kp Q tx ln ps) [some (.ref b), some (.ref x0), some (.int (nI e)), some (.int g), some (.int h), some (.int (nI 2)), some (.int (nI au)), some (.int (nI 1)), none, none, none, none, none, none] [] 80 := by
  have hb0 : uU S 0 ≤ 12 := gg_u hG 0
  have hb1 : uU S 1 ≤ 8 := gg_u1 hG
  have hb2 : mK S ≤ 60 := gg_M hG
  refine z_iload C dL_law_80 rfl ?_
  refine z_iconst C (nI 2) dL_law_82 (by decide) ?_
  refine z_ncmp_ge_t C 120 dL_law_83 (by decide) (by omega) (by omega) (by omega) ?_
  refine z_iconst C (nI 1) dL_law_120 (by decide) ?_
  refine z_istore C dL_law_121 (Nat.le_of_ble_eq_true rfl) ?_
  refine z_lv (lv' := [some (.ref b), some (.ref x0), some (.int (nI e)), some (.int g), some (.int h), some (.int (nI 2)), some (.int (nI au)), some (.int (nI 1)), some (.int (nI 1)), none, none, none, none, none]) rfl ?_
  refine z_iload C dL_law_123 rfl ?_
  refine z_iconst C (nI 2) dL_law_125 (by decide) ?_
  refine z_ncmp_eq_t C 135 dL_law_126 (by decide) (by omega) (by omega) (by omega) ?_
  refine z_aload_n C 1 dL_law_135 rfl rfl ?_
  refine z_iload C dL_law_136 rfl ?_
  refine z_iload C dL_law_138 rfl ?_
  refine z_iload C dL_law_140 rfl ?_
  refine z_iconst C (nI 3) dL_law_142 (by decide) ?_
  refine z_ishr C dL_law_143 ?_
  obtain ⟨S', o', kp', Q', tx', ln', ps', hG', ho', hk', hln', htx', hM⟩ := e_rem1 X.2.1 x0 h0 h1 w0 w1 t r S o kp Q tx ln ps au (h >>> ((nI 3) &&& 31)) hG (by omega) ho hk hln htx (by omega)
  refine z_callSQ (wn := (WRd X.2.1 x0 h0 h1 w0 w1 t r S' o' kp' Q' tx' ln' ps')) (k' := 53 + 3 * e) (n' := 3001 + 23 * e) C M kL_removes gL_law_L_removes (zM.toA hM) dL_law_144 [0, 1, 2, 3, 4, 5, 6, 7, 8, 9, 10, 11, 12, 13, 14, 15, 16, 17, 18, 19, 20, 21, 22, 23, 24, 25, 26, 27, 28, 29, 30, 31, 32, 33, 34, 35, 36, 37, 38, 39, 40, 41, 42, 43, 44, 45, 46, 47, 48, 49, 50, 51, 52] [] rfl rfl nd_0_1_2_3_4_5_6_7_8_9_10_11_12_13_14_15_16_17_18_19_20_21_22_23_24_25_26_27_28_29_30_31_32_33_34_35_36_37_38_39_40_41_42_43_44_45_46_47_48_49_50_51_52 rfl (by decide) (by decide) (Nat.le_of_ble_eq_true rfl) rfl ((zput_par nd_0_1_2_3_4_5_6_7_8_9_10_11_12_13_14_15_16_17_18_19_20_21_22_23_24_25_26_27_28_29_30_31_32_33_34_35_36_37_38_39_40_41_42_43_44_45_46_47_48_49_50_51_52 rfl).trans rfl) (by omega) (by omega) (by omega) (by omega) ?_
  refine z_istore C dL_law_147 (Nat.le_of_ble_eq_true rfl) ?_
  refine z_lv (lv' := [some (.ref b), some (.ref x0), some (.int (nI e)), some (.int g), some (.int h), some (.int (nI 2)), some (.int (nI au)), some (.int (nI 1)), some (.int (nI 1)), none, none, none, none, none]) rfl ?_
  refine z_goto C 506 dL_law_149 (by decide) ?_
  exact law_tail M C he IH _ _ _ _ _ _ _ _ _ _ _ _ _ _ _ _ _ hG' ho' hk' hln' htx'

set_option maxHeartbeats 4000000 in
set_option maxRecDepth 100000 in
theorem lw_c3_0 {X : zX} (M : zRq X) (x0 h0 h1 w0 w1 : Nat) (t : Nat → Nat) (r : Nat → Nat → Nat) (e : Nat) (he : e < 40) {b : Nat} (C : zC X (53 + 3 * e) (3001 + 23 * e) code RL wsL_law 10) (IH : LI X b x0 h0 h1 w0 w1 t r (e + 1)) (g h : Int32) (au : Nat) (S : zSt) (o kp : Nat) (Q : Nat → zSt) (tx : Nat → Nat) (ln : Nat) (ps : zPs) (hG : GG S (2 * e)) (ho : o < 5) (hk : kp ≤ 4) (hln : ln ≤ 60) (htx : ∀ j, tx j < 65536) (hau : au < 3) : zG X (53 + 3 * e) (3001 + 23 * e) (WRd X.2.1 x0 h0 h1 w0 w1 t r S o kp Q tx ln ps) [some (.ref b), some (.ref x0), some (.int (nI e)), some (.int g), some (.int h), some (.int (nI 3)), some (.int (nI au)), some (.int (nI 0)), none, none, none, none, none, none] [] 80 := by
  have hb0 : uU S 0 ≤ 12 := gg_u hG 0
  have hb1 : uU S 1 ≤ 8 := gg_u1 hG
  have hb2 : mK S ≤ 60 := gg_M hG
  refine z_iload C dL_law_80 rfl ?_
  refine z_iconst C (nI 2) dL_law_82 (by decide) ?_
  refine z_ncmp_ge_t C 120 dL_law_83 (by decide) (by omega) (by omega) (by omega) ?_
  refine z_iconst C (nI 1) dL_law_120 (by decide) ?_
  refine z_istore C dL_law_121 (Nat.le_of_ble_eq_true rfl) ?_
  refine z_lv (lv' := [some (.ref b), some (.ref x0), some (.int (nI e)), some (.int g), some (.int h), some (.int (nI 3)), some (.int (nI au)), some (.int (nI 0)), some (.int (nI 1)), none, none, none, none, none]) rfl ?_
  refine z_iload C dL_law_123 rfl ?_
  refine z_iconst C (nI 2) dL_law_125 (by decide) ?_
  refine z_ncmp_eq_f C 135 dL_law_126 (by decide) (by omega) (by omega) (by omega) ?_
  refine z_iload C dL_law_129 rfl ?_
  refine z_iconst C (nI 3) dL_law_131 (by decide) ?_
  refine z_ncmp_ne_f C 152 dL_law_132 (by decide) (by omega) (by omega) (by omega) ?_
  refine z_aload_n C 1 dL_law_135 rfl rfl ?_
  refine z_iload C dL_law_136 rfl ?_
  refine z_iload C dL_law_138 rfl ?_
  refine z_iload C dL_law_140 rfl ?_
  refine z_iconst C (nI 3) dL_law_142 (by decide) ?_
  refine z_ishr C dL_law_143 ?_
  obtain ⟨S', o', kp', Q', tx', ln', ps', hG', ho', hk', hln', htx', hM⟩ := e_rem0 X.2.1 x0 h0 h1 w0 w1 t r S o kp Q tx ln ps au (h >>> ((nI 3) &&& 31)) hG (by omega) ho hk hln htx (by omega)
  refine z_callSQ (wn := (WRd X.2.1 x0 h0 h1 w0 w1 t r S' o' kp' Q' tx' ln' ps')) (k' := 53 + 3 * e) (n' := 3001 + 23 * e) C M kL_removes gL_law_L_removes (zM.toA hM) dL_law_144 [0, 1, 2, 3, 4, 5, 6, 7, 8, 9, 10, 11, 12, 13, 14, 15, 16, 17, 18, 19, 20, 21, 22, 23, 24, 25, 26, 27, 28, 29, 30, 31, 32, 33, 34, 35, 36, 37, 38, 39, 40, 41, 42, 43, 44, 45, 46, 47, 48, 49, 50, 51, 52] [] rfl rfl nd_0_1_2_3_4_5_6_7_8_9_10_11_12_13_14_15_16_17_18_19_20_21_22_23_24_25_26_27_28_29_30_31_32_33_34_35_36_37_38_39_40_41_42_43_44_45_46_47_48_49_50_51_52 rfl (by decide) (by decide) (Nat.le_of_ble_eq_true rfl) rfl ((zput_par nd_0_1_2_3_4_5_6_7_8_9_10_11_12_13_14_15_16_17_18_19_20_21_22_23_24_25_26_27_28_29_30_31_32_33_34_35_36_37_38_39_40_41_42_43_44_45_46_47_48_49_50_51_52 rfl).trans rfl) (by omega) (by omega) (by omega) (by omega) ?_
  refine z_istore C dL_law_147 (Nat.le_of_ble_eq_true rfl) ?_
  refine z_lv (lv' := [some (.ref b), some (.ref x0), some (.int (nI e)), some (.int g), some (.int h), some (.int (nI 3)), some (.int (nI au)), some (.int (nI 0)), some (.int (nI 1)), none, none, none, none, none]) rfl ?_
  refine z_goto C 506 dL_law_149 (by decide) ?_
  exact law_tail M C he IH _ _ _ _ _ _ _ _ _ _ _ _ _ _ _ _ _ hG' ho' hk' hln' htx'

set_option maxHeartbeats 4000000 in
set_option maxRecDepth 100000 in
theorem lw_c3_1 {X : zX} (M : zRq X) (x0 h0 h1 w0 w1 : Nat) (t : Nat → Nat) (r : Nat → Nat → Nat) (e : Nat) (he : e < 40) {b : Nat} (C : zC X (53 + 3 * e) (3001 + 23 * e) code RL wsL_law 10) (IH : LI X b x0 h0 h1 w0 w1 t r (e + 1)) (g h : Int32) (au : Nat) (S : zSt) (o kp : Nat) (Q : Nat → zSt) (tx : Nat → Nat) (ln : Nat) (ps : zPs) (hG : GG S (2 * e)) (ho : o < 5) (hk : kp ≤ 4) (hln : ln ≤ 60) (htx : ∀ j, tx j < 65536) (hau : au < 3) : zG X (53 + 3 * e) (3001 + 23 * e) (WRd X.2.1 x0 h0 h1 w0 w1 t r S o kp Q tx ln ps) [some (.ref b), some (.ref x0), some (.int (nI e)), some (.int g), some (.int h), some (.int (nI 3)), some (.int (nI au)), some (.int (nI 1)), none, none, none, none, none, none] [] 80 := by
  have hb0 : uU S 0 ≤ 12 := gg_u hG 0
  have hb1 : uU S 1 ≤ 8 := gg_u1 hG
  have hb2 : mK S ≤ 60 := gg_M hG
  refine z_iload C dL_law_80 rfl ?_
  refine z_iconst C (nI 2) dL_law_82 (by decide) ?_
  refine z_ncmp_ge_t C 120 dL_law_83 (by decide) (by omega) (by omega) (by omega) ?_
  refine z_iconst C (nI 1) dL_law_120 (by decide) ?_
  refine z_istore C dL_law_121 (Nat.le_of_ble_eq_true rfl) ?_
  refine z_lv (lv' := [some (.ref b), some (.ref x0), some (.int (nI e)), some (.int g), some (.int h), some (.int (nI 3)), some (.int (nI au)), some (.int (nI 1)), some (.int (nI 1)), none, none, none, none, none]) rfl ?_
  refine z_iload C dL_law_123 rfl ?_
  refine z_iconst C (nI 2) dL_law_125 (by decide) ?_
  refine z_ncmp_eq_f C 135 dL_law_126 (by decide) (by omega) (by omega) (by omega) ?_
  refine z_iload C dL_law_129 rfl ?_
  refine z_iconst C (nI 3) dL_law_131 (by decide) ?_
  refine z_ncmp_ne_f C 152 dL_law_132 (by decide) (by omega) (by omega) (by omega) ?_
  refine z_aload_n C 1 dL_law_135 rfl rfl ?_
  refine z_iload C dL_law_136 rfl ?_
  refine z_iload C dL_law_138 rfl ?_
  refine z_iload C dL_law_140 rfl ?_
  refine z_iconst C (nI 3) dL_law_142 (by decide) ?_
  refine z_ishr C dL_law_143 ?_
  obtain ⟨S', o', kp', Q', tx', ln', ps', hG', ho', hk', hln', htx', hM⟩ := e_rem1 X.2.1 x0 h0 h1 w0 w1 t r S o kp Q tx ln ps au (h >>> ((nI 3) &&& 31)) hG (by omega) ho hk hln htx (by omega)
  refine z_callSQ (wn := (WRd X.2.1 x0 h0 h1 w0 w1 t r S' o' kp' Q' tx' ln' ps')) (k' := 53 + 3 * e) (n' := 3001 + 23 * e) C M kL_removes gL_law_L_removes (zM.toA hM) dL_law_144 [0, 1, 2, 3, 4, 5, 6, 7, 8, 9, 10, 11, 12, 13, 14, 15, 16, 17, 18, 19, 20, 21, 22, 23, 24, 25, 26, 27, 28, 29, 30, 31, 32, 33, 34, 35, 36, 37, 38, 39, 40, 41, 42, 43, 44, 45, 46, 47, 48, 49, 50, 51, 52] [] rfl rfl nd_0_1_2_3_4_5_6_7_8_9_10_11_12_13_14_15_16_17_18_19_20_21_22_23_24_25_26_27_28_29_30_31_32_33_34_35_36_37_38_39_40_41_42_43_44_45_46_47_48_49_50_51_52 rfl (by decide) (by decide) (Nat.le_of_ble_eq_true rfl) rfl ((zput_par nd_0_1_2_3_4_5_6_7_8_9_10_11_12_13_14_15_16_17_18_19_20_21_22_23_24_25_26_27_28_29_30_31_32_33_34_35_36_37_38_39_40_41_42_43_44_45_46_47_48_49_50_51_52 rfl).trans rfl) (by omega) (by omega) (by omega) (by omega) ?_
  refine z_istore C dL_law_147 (Nat.le_of_ble_eq_true rfl) ?_
  refine z_lv (lv' := [some (.ref b), some (.ref x0), some (.int (nI e)), some (.int g), some (.int h), some (.int (nI 3)), some (.int (nI au)), some (.int (nI 1)), some (.int (nI 1)), none, none, none, none, none]) rfl ?_
  refine z_goto C 506 dL_law_149 (by decide) ?_
  exact law_tail M C he IH _ _ _ _ _ _ _ _ _ _ _ _ _ _ _ _ _ hG' ho' hk' hln' htx'

set_option maxHeartbeats 4000000 in
set_option maxRecDepth 100000 in
theorem lw_c4 {X : zX} (M : zRq X) (x0 h0 h1 w0 w1 : Nat) (t : Nat → Nat) (r : Nat → Nat → Nat) (e : Nat) (he : e < 40) {b : Nat} (C : zC X (53 + 3 * e) (3001 + 23 * e) code RL wsL_law 10) (IH : LI X b x0 h0 h1 w0 w1 t r (e + 1)) (g h : Int32) (au ax : Nat) (S : zSt) (o kp : Nat) (Q : Nat → zSt) (tx : Nat → Nat) (ln : Nat) (ps : zPs) (hG : GG S (2 * e)) (ho : o < 5) (hk : kp ≤ 4) (hln : ln ≤ 60) (htx : ∀ j, tx j < 65536) (hau : au < 3) : zG X (53 + 3 * e) (3001 + 23 * e) (WRd X.2.1 x0 h0 h1 w0 w1 t r S o kp Q tx ln ps) [some (.ref b), some (.ref x0), some (.int (nI e)), some (.int g), some (.int h), some (.int (nI 4)), some (.int (nI au)), some (.int (nI ax)), none, none, none, none, none, none] [] 80 := by
  have hb0 : uU S 0 ≤ 12 := gg_u hG 0
  have hb1 : uU S 1 ≤ 8 := gg_u1 hG
  have hb2 : mK S ≤ 60 := gg_M hG
  refine z_iload C dL_law_80 rfl ?_
  refine z_iconst C (nI 2) dL_law_82 (by decide) ?_
  refine z_ncmp_ge_t C 120 dL_law_83 (by decide) (by omega) (by omega) (by omega) ?_
  refine z_iconst C (nI 1) dL_law_120 (by decide) ?_
  refine z_istore C dL_law_121 (Nat.le_of_ble_eq_true rfl) ?_
  refine z_lv (lv' := [some (.ref b), some (.ref x0), some (.int (nI e)), some (.int g), some (.int h), some (.int (nI 4)), some (.int (nI au)), some (.int (nI ax)), some (.int (nI 1)), none, none, none, none, none]) rfl ?_
  refine z_iload C dL_law_123 rfl ?_
  refine z_iconst C (nI 2) dL_law_125 (by decide) ?_
  refine z_ncmp_eq_f C 135 dL_law_126 (by decide) (by omega) (by omega) (by omega) ?_
  refine z_iload C dL_law_129 rfl ?_
  refine z_iconst C (nI 3) dL_law_131 (by decide) ?_
  refine z_ncmp_ne_t C 152 dL_law_132 (by decide) (by omega) (by omega) (by omega) ?_
  refine z_iload C dL_law_152 rfl ?_
  refine z_iconst C (nI 3) dL_law_154 (by decide) ?_
  refine z_ncmp_le_f C 181 dL_law_155 (by decide) (by omega) (by omega) (by omega) ?_
  refine z_iload C dL_law_158 rfl ?_
  refine z_bipush C (nI 9) dL_law_160 (by decide) ?_
  refine z_ncmp_ge_f C 181 dL_law_162 (by decide) (by omega) (by omega) (by omega) ?_
  refine z_aload_n C 1 dL_law_165 rfl rfl ?_
  refine z_iload C dL_law_166 rfl ?_
  refine z_iload_n C 3 dL_law_168 rfl rfl ?_
  refine z_iload C dL_law_169 rfl ?_
  refine z_iconst C (nI 3) dL_law_171 (by decide) ?_
  refine z_ishr C dL_law_172 ?_
  obtain ⟨S', o', kp', Q', tx', ln', ps', hG', ho', hk', hln', htx', hM⟩ := e_set X.2.1 x0 h0 h1 w0 w1 t r S o kp Q tx ln ps au g (h >>> ((nI 3) &&& 31)) hG ho hk hln htx (by omega)
  refine z_callSQ (wn := (WRd X.2.1 x0 h0 h1 w0 w1 t r S' o' kp' Q' tx' ln' ps')) (k' := 53 + 3 * e) (n' := 3001 + 23 * e) C M kL_sets gL_law_L_sets (zM.toA hM) dL_law_173 [0, 1, 2, 3, 4, 5, 6, 7, 8, 9, 10, 11, 12, 13, 14, 15, 16, 17, 18, 19, 20, 21, 22, 23, 24, 25, 26, 27, 28, 29, 30, 31, 32, 33, 34, 35, 36, 37, 38, 39, 40, 41, 42, 43, 44, 45, 46, 47, 48, 49, 50, 51, 52] [] rfl rfl nd_0_1_2_3_4_5_6_7_8_9_10_11_12_13_14_15_16_17_18_19_20_21_22_23_24_25_26_27_28_29_30_31_32_33_34_35_36_37_38_39_40_41_42_43_44_45_46_47_48_49_50_51_52 rfl (by decide) (by decide) (Nat.le_of_ble_eq_true rfl) rfl ((zput_par nd_0_1_2_3_4_5_6_7_8_9_10_11_12_13_14_15_16_17_18_19_20_21_22_23_24_25_26_27_28_29_30_31_32_33_34_35_36_37_38_39_40_41_42_43_44_45_46_47_48_49_50_51_52 rfl).trans rfl) (by omega) (by omega) (by omega) (by omega) ?_
  refine z_istore C dL_law_176 (Nat.le_of_ble_eq_true rfl) ?_
  refine z_lv (lv' := [some (.ref b), some (.ref x0), some (.int (nI e)), some (.int g), some (.int h), some (.int (nI 4)), some (.int (nI au)), some (.int (nI ax)), some (.int (nI 1)), none, none, none, none, none]) rfl ?_
  refine z_goto C 506 dL_law_178 (by decide) ?_
  exact law_tail M C he IH _ _ _ _ _ _ _ _ _ _ _ _ _ _ _ _ _ hG' ho' hk' hln' htx'

set_option maxHeartbeats 4000000 in
set_option maxRecDepth 100000 in
theorem lw_c5 {X : zX} (M : zRq X) (x0 h0 h1 w0 w1 : Nat) (t : Nat → Nat) (r : Nat → Nat → Nat) (e : Nat) (he : e < 40) {b : Nat} (C : zC X (53 + 3 * e) (3001 + 23 * e) code RL wsL_law 10) (IH : LI X b x0 h0 h1 w0 w1 t r (e + 1)) (g h : Int32) (au ax : Nat) (S : zSt) (o kp : Nat) (Q : Nat → zSt) (tx : Nat → Nat) (ln : Nat) (ps : zPs) (hG : GG S (2 * e)) (ho : o < 5) (hk : kp ≤ 4) (hln : ln ≤ 60) (htx : ∀ j, tx j < 65536) (hau : au < 3) : zG X (53 + 3 * e) (3001 + 23 * e) (WRd X.2.1 x0 h0 h1 w0 w1 t r S o kp Q tx ln ps) [some (.ref b), some (.ref x0), some (.int (nI e)), some (.int g), some (.int h), some (.int (nI 5)), some (.int (nI au)), some (.int (nI ax)), none, none, none, none, none, none] [] 80 := by
  have hb0 : uU S 0 ≤ 12 := gg_u hG 0
  have hb1 : uU S 1 ≤ 8 := gg_u1 hG
  have hb2 : mK S ≤ 60 := gg_M hG
  refine z_iload C dL_law_80 rfl ?_
  refine z_iconst C (nI 2) dL_law_82 (by decide) ?_
  refine z_ncmp_ge_t C 120 dL_law_83 (by decide) (by omega) (by omega) (by omega) ?_
  refine z_iconst C (nI 1) dL_law_120 (by decide) ?_
  refine z_istore C dL_law_121 (Nat.le_of_ble_eq_true rfl) ?_
  refine z_lv (lv' := [some (.ref b), some (.ref x0), some (.int (nI e)), some (.int g), some (.int h), some (.int (nI 5)), some (.int (nI au)), some (.int (nI ax)), some (.int (nI 1)), none, none, none, none, none]) rfl ?_
  refine z_iload C dL_law_123 rfl ?_
  refine z_iconst C (nI 2) dL_law_125 (by decide) ?_
  refine z_ncmp_eq_f C 135 dL_law_126 (by decide) (by omega) (by omega) (by omega) ?_
  refine z_iload C dL_law_129 rfl ?_
  refine z_iconst C (nI 3) dL_law_131 (by decide) ?_
  refine z_ncmp_ne_t C 152 dL_law_132 (by decide) (by omega) (by omega) (by omega) ?_
  refine z_iload C dL_law_152 rfl ?_
  refine z_iconst C (nI 3) dL_law_154 (by decide) ?_
  refine z_ncmp_le_f C 181 dL_law_155 (by decide) (by omega) (by omega) (by omega) ?_
  refine z_iload C dL_law_158 rfl ?_
  refine z_bipush C (nI 9) dL_law_160 (by decide) ?_
  refine z_ncmp_ge_f C 181 dL_law_162 (by decide) (by omega) (by omega) (by omega) ?_
  refine z_aload_n C 1 dL_law_165 rfl rfl ?_
  refine z_iload C dL_law_166 rfl ?_
  refine z_iload_n C 3 dL_law_168 rfl rfl ?_
  refine z_iload C dL_law_169 rfl ?_
  refine z_iconst C (nI 3) dL_law_171 (by decide) ?_
  refine z_ishr C dL_law_172 ?_
  obtain ⟨S', o', kp', Q', tx', ln', ps', hG', ho', hk', hln', htx', hM⟩ := e_set X.2.1 x0 h0 h1 w0 w1 t r S o kp Q tx ln ps au g (h >>> ((nI 3) &&& 31)) hG ho hk hln htx (by omega)
  refine z_callSQ (wn := (WRd X.2.1 x0 h0 h1 w0 w1 t r S' o' kp' Q' tx' ln' ps')) (k' := 53 + 3 * e) (n' := 3001 + 23 * e) C M kL_sets gL_law_L_sets (zM.toA hM) dL_law_173 [0, 1, 2, 3, 4, 5, 6, 7, 8, 9, 10, 11, 12, 13, 14, 15, 16, 17, 18, 19, 20, 21, 22, 23, 24, 25, 26, 27, 28, 29, 30, 31, 32, 33, 34, 35, 36, 37, 38, 39, 40, 41, 42, 43, 44, 45, 46, 47, 48, 49, 50, 51, 52] [] rfl rfl nd_0_1_2_3_4_5_6_7_8_9_10_11_12_13_14_15_16_17_18_19_20_21_22_23_24_25_26_27_28_29_30_31_32_33_34_35_36_37_38_39_40_41_42_43_44_45_46_47_48_49_50_51_52 rfl (by decide) (by decide) (Nat.le_of_ble_eq_true rfl) rfl ((zput_par nd_0_1_2_3_4_5_6_7_8_9_10_11_12_13_14_15_16_17_18_19_20_21_22_23_24_25_26_27_28_29_30_31_32_33_34_35_36_37_38_39_40_41_42_43_44_45_46_47_48_49_50_51_52 rfl).trans rfl) (by omega) (by omega) (by omega) (by omega) ?_
  refine z_istore C dL_law_176 (Nat.le_of_ble_eq_true rfl) ?_
  refine z_lv (lv' := [some (.ref b), some (.ref x0), some (.int (nI e)), some (.int g), some (.int h), some (.int (nI 5)), some (.int (nI au)), some (.int (nI ax)), some (.int (nI 1)), none, none, none, none, none]) rfl ?_
  refine z_goto C 506 dL_law_178 (by decide) ?_
  exact law_tail M C he IH _ _ _ _ _ _ _ _ _ _ _ _ _ _ _ _ _ hG' ho' hk' hln' htx'

set_option maxHeartbeats 4000000 in
set_option maxRecDepth 100000 in
theorem lw_c6 {X : zX} (M : zRq X) (x0 h0 h1 w0 w1 : Nat) (t : Nat → Nat) (r : Nat → Nat → Nat) (e : Nat) (he : e < 40) {b : Nat} (C : zC X (53 + 3 * e) (3001 + 23 * e) code RL wsL_law 10) (IH : LI X b x0 h0 h1 w0 w1 t r (e + 1)) (g h : Int32) (au ax : Nat) (S : zSt) (o kp : Nat) (Q : Nat → zSt) (tx : Nat → Nat) (ln : Nat) (ps : zPs) (hG : GG S (2 * e)) (ho : o < 5) (hk : kp ≤ 4) (hln : ln ≤ 60) (htx : ∀ j, tx j < 65536) (hau : au < 3) : zG X (53 + 3 * e) (3001 + 23 * e) (WRd X.2.1 x0 h0 h1 w0 w1 t r S o kp Q tx ln ps) [some (.ref b), some (.ref x0), some (.int (nI e)), some (.int g), some (.int h), some (.int (nI 6)), some (.int (nI au)), some (.int (nI ax)), none, none, none, none, none, none] [] 80 := by
  have hb0 : uU S 0 ≤ 12 := gg_u hG 0
  have hb1 : uU S 1 ≤ 8 := gg_u1 hG
  have hb2 : mK S ≤ 60 := gg_M hG
  refine z_iload C dL_law_80 rfl ?_
  refine z_iconst C (nI 2) dL_law_82 (by decide) ?_
  refine z_ncmp_ge_t C 120 dL_law_83 (by decide) (by omega) (by omega) (by omega) ?_
  refine z_iconst C (nI 1) dL_law_120 (by decide) ?_
  refine z_istore C dL_law_121 (Nat.le_of_ble_eq_true rfl) ?_
  refine z_lv (lv' := [some (.ref b), some (.ref x0), some (.int (nI e)), some (.int g), some (.int h), some (.int (nI 6)), some (.int (nI au)), some (.int (nI ax)), some (.int (nI 1)), none, none, none, none, none]) rfl ?_
  refine z_iload C dL_law_123 rfl ?_
  refine z_iconst C (nI 2) dL_law_125 (by decide) ?_
  refine z_ncmp_eq_f C 135 dL_law_126 (by decide) (by omega) (by omega) (by omega) ?_
  refine z_iload C dL_law_129 rfl ?_
  refine z_iconst C (nI 3) dL_law_131 (by decide) ?_
  refine z_ncmp_ne_t C 152 dL_law_132 (by decide) (by omega) (by omega) (by omega) ?_
  refine z_iload C dL_law_152 rfl ?_
  refine z_iconst C (nI 3) dL_law_154 (by decide) ?_
  refine z_ncmp_le_f C 181 dL_law_155 (by decide) (by omega) (by omega) (by omega) ?_
  refine z_iload C dL_law_158 rfl ?_
  refine z_bipush C (nI 9) dL_law_160 (by decide) ?_
  refine z_ncmp_ge_f C 181 dL_law_162 (by decide) (by omega) (by omega) (by omega) ?_
  refine z_aload_n C 1 dL_law_165 rfl rfl ?_
  refine z_iload C dL_law_166 rfl ?_
  refine z_iload_n C 3 dL_law_168 rfl rfl ?_
  refine z_iload C dL_law_169 rfl ?_
  refine z_iconst C (nI 3) dL_law_171 (by decide) ?_
  refine z_ishr C dL_law_172 ?_
  obtain ⟨S', o', kp', Q', tx', ln', ps', hG', ho', hk', hln', htx', hM⟩ := e_set X.2.1 x0 h0 h1 w0 w1 t r S o kp Q tx ln ps au g (h >>> ((nI 3) &&& 31)) hG ho hk hln htx (by omega)
  refine z_callSQ (wn := (WRd X.2.1 x0 h0 h1 w0 w1 t r S' o' kp' Q' tx' ln' ps')) (k' := 53 + 3 * e) (n' := 3001 + 23 * e) C M kL_sets gL_law_L_sets (zM.toA hM) dL_law_173 [0, 1, 2, 3, 4, 5, 6, 7, 8, 9, 10, 11, 12, 13, 14, 15, 16, 17, 18, 19, 20, 21, 22, 23, 24, 25, 26, 27, 28, 29, 30, 31, 32, 33, 34, 35, 36, 37, 38, 39, 40, 41, 42, 43, 44, 45, 46, 47, 48, 49, 50, 51, 52] [] rfl rfl nd_0_1_2_3_4_5_6_7_8_9_10_11_12_13_14_15_16_17_18_19_20_21_22_23_24_25_26_27_28_29_30_31_32_33_34_35_36_37_38_39_40_41_42_43_44_45_46_47_48_49_50_51_52 rfl (by decide) (by decide) (Nat.le_of_ble_eq_true rfl) rfl ((zput_par nd_0_1_2_3_4_5_6_7_8_9_10_11_12_13_14_15_16_17_18_19_20_21_22_23_24_25_26_27_28_29_30_31_32_33_34_35_36_37_38_39_40_41_42_43_44_45_46_47_48_49_50_51_52 rfl).trans rfl) (by omega) (by omega) (by omega) (by omega) ?_
  refine z_istore C dL_law_176 (Nat.le_of_ble_eq_true rfl) ?_
  refine z_lv (lv' := [some (.ref b), some (.ref x0), some (.int (nI e)), some (.int g), some (.int h), some (.int (nI 6)), some (.int (nI au)), some (.int (nI ax)), some (.int (nI 1)), none, none, none, none, none]) rfl ?_
  refine z_goto C 506 dL_law_178 (by decide) ?_
  exact law_tail M C he IH _ _ _ _ _ _ _ _ _ _ _ _ _ _ _ _ _ hG' ho' hk' hln' htx'

set_option maxHeartbeats 4000000 in
set_option maxRecDepth 100000 in
theorem lw_c7 {X : zX} (M : zRq X) (x0 h0 h1 w0 w1 : Nat) (t : Nat → Nat) (r : Nat → Nat → Nat) (e : Nat) (he : e < 40) {b : Nat} (C : zC X (53 + 3 * e) (3001 + 23 * e) code RL wsL_law 10) (IH : LI X b x0 h0 h1 w0 w1 t r (e + 1)) (g h : Int32) (au ax : Nat) (S : zSt) (o kp : Nat) (Q : Nat → zSt) (tx : Nat → Nat) (ln : Nat) (ps : zPs) (hG : GG S (2 * e)) (ho : o < 5) (hk : kp ≤ 4) (hln : ln ≤ 60) (htx : ∀ j, tx j < 65536) (hau : au < 3) : zG X (53 + 3 * e) (3001 + 23 * e) (WRd X.2.1 x0 h0 h1 w0 w1 t r S o kp Q tx ln ps) [some (.ref b), some (.ref x0), some (.int (nI e)), some (.int g), some (.int h), some (.int (nI 7)), some (.int (nI au)), some (.int (nI ax)), none, none, none, none, none, none] [] 80 := by
  have hb0 : uU S 0 ≤ 12 := gg_u hG 0
  have hb1 : uU S 1 ≤ 8 := gg_u1 hG
  have hb2 : mK S ≤ 60 := gg_M hG
  refine z_iload C dL_law_80 rfl ?_
  refine z_iconst C (nI 2) dL_law_82 (by decide) ?_
  refine z_ncmp_ge_t C 120 dL_law_83 (by decide) (by omega) (by omega) (by omega) ?_
  refine z_iconst C (nI 1) dL_law_120 (by decide) ?_
  refine z_istore C dL_law_121 (Nat.le_of_ble_eq_true rfl) ?_
  refine z_lv (lv' := [some (.ref b), some (.ref x0), some (.int (nI e)), some (.int g), some (.int h), some (.int (nI 7)), some (.int (nI au)), some (.int (nI ax)), some (.int (nI 1)), none, none, none, none, none]) rfl ?_
  refine z_iload C dL_law_123 rfl ?_
  refine z_iconst C (nI 2) dL_law_125 (by decide) ?_
  refine z_ncmp_eq_f C 135 dL_law_126 (by decide) (by omega) (by omega) (by omega) ?_
  refine z_iload C dL_law_129 rfl ?_
  refine z_iconst C (nI 3) dL_law_131 (by decide) ?_
  refine z_ncmp_ne_t C 152 dL_law_132 (by decide) (by omega) (by omega) (by omega) ?_
  refine z_iload C dL_law_152 rfl ?_
  refine z_iconst C (nI 3) dL_law_154 (by decide) ?_
  refine z_ncmp_le_f C 181 dL_law_155 (by decide) (by omega) (by omega) (by omega) ?_
  refine z_iload C dL_law_158 rfl ?_
  refine z_bipush C (nI 9) dL_law_160 (by decide) ?_
  refine z_ncmp_ge_f C 181 dL_law_162 (by decide) (by omega) (by omega) (by omega) ?_
  refine z_aload_n C 1 dL_law_165 rfl rfl ?_
  refine z_iload C dL_law_166 rfl ?_
  refine z_iload_n C 3 dL_law_168 rfl rfl ?_
  refine z_iload C dL_law_169 rfl ?_
  refine z_iconst C (nI 3) dL_law_171 (by decide) ?_
  refine z_ishr C dL_law_172 ?_
  obtain ⟨S', o', kp', Q', tx', ln', ps', hG', ho', hk', hln', htx', hM⟩ := e_set X.2.1 x0 h0 h1 w0 w1 t r S o kp Q tx ln ps au g (h >>> ((nI 3) &&& 31)) hG ho hk hln htx (by omega)
  refine z_callSQ (wn := (WRd X.2.1 x0 h0 h1 w0 w1 t r S' o' kp' Q' tx' ln' ps')) (k' := 53 + 3 * e) (n' := 3001 + 23 * e) C M kL_sets gL_law_L_sets (zM.toA hM) dL_law_173 [0, 1, 2, 3, 4, 5, 6, 7, 8, 9, 10, 11, 12, 13, 14, 15, 16, 17, 18, 19, 20, 21, 22, 23, 24, 25, 26, 27, 28, 29, 30, 31, 32, 33, 34, 35, 36, 37, 38, 39, 40, 41, 42, 43, 44, 45, 46, 47, 48, 49, 50, 51, 52] [] rfl rfl nd_0_1_2_3_4_5_6_7_8_9_10_11_12_13_14_15_16_17_18_19_20_21_22_23_24_25_26_27_28_29_30_31_32_33_34_35_36_37_38_39_40_41_42_43_44_45_46_47_48_49_50_51_52 rfl (by decide) (by decide) (Nat.le_of_ble_eq_true rfl) rfl ((zput_par nd_0_1_2_3_4_5_6_7_8_9_10_11_12_13_14_15_16_17_18_19_20_21_22_23_24_25_26_27_28_29_30_31_32_33_34_35_36_37_38_39_40_41_42_43_44_45_46_47_48_49_50_51_52 rfl).trans rfl) (by omega) (by omega) (by omega) (by omega) ?_
  refine z_istore C dL_law_176 (Nat.le_of_ble_eq_true rfl) ?_
  refine z_lv (lv' := [some (.ref b), some (.ref x0), some (.int (nI e)), some (.int g), some (.int h), some (.int (nI 7)), some (.int (nI au)), some (.int (nI ax)), some (.int (nI 1)), none, none, none, none, none]) rfl ?_
  refine z_goto C 506 dL_law_178 (by decide) ?_
  exact law_tail M C he IH _ _ _ _ _ _ _ _ _ _ _ _ _ _ _ _ _ hG' ho' hk' hln' htx'

set_option maxHeartbeats 4000000 in
set_option maxRecDepth 100000 in
theorem lw_c8 {X : zX} (M : zRq X) (x0 h0 h1 w0 w1 : Nat) (t : Nat → Nat) (r : Nat → Nat → Nat) (e : Nat) (he : e < 40) {b : Nat} (C : zC X (53 + 3 * e) (3001 + 23 * e) code RL wsL_law 10) (IH : LI X b x0 h0 h1 w0 w1 t r (e + 1)) (g h : Int32) (au ax : Nat) (S : zSt) (o kp : Nat) (Q : Nat → zSt) (tx : Nat → Nat) (ln : Nat) (ps : zPs) (hG : GG S (2 * e)) (ho : o < 5) (hk : kp ≤ 4) (hln : ln ≤ 60) (htx : ∀ j, tx j < 65536) (hau : au < 3) : zG X (53 + 3 * e) (3001 + 23 * e) (WRd X.2.1 x0 h0 h1 w0 w1 t r S o kp Q tx ln ps) [some (.ref b), some (.ref x0), some (.int (nI e)), some (.int g), some (.int h), some (.int (nI 8)), some (.int (nI au)), some (.int (nI ax)), none, none, none, none, none, none] [] 80 := by
  have hb0 : uU S 0 ≤ 12 := gg_u hG 0
  have hb1 : uU S 1 ≤ 8 := gg_u1 hG
  have hb2 : mK S ≤ 60 := gg_M hG
  refine z_iload C dL_law_80 rfl ?_
  refine z_iconst C (nI 2) dL_law_82 (by decide) ?_
  refine z_ncmp_ge_t C 120 dL_law_83 (by decide) (by omega) (by omega) (by omega) ?_
  refine z_iconst C (nI 1) dL_law_120 (by decide) ?_
  refine z_istore C dL_law_121 (Nat.le_of_ble_eq_true rfl) ?_
  refine z_lv (lv' := [some (.ref b), some (.ref x0), some (.int (nI e)), some (.int g), some (.int h), some (.int (nI 8)), some (.int (nI au)), some (.int (nI ax)), some (.int (nI 1)), none, none, none, none, none]) rfl ?_
  refine z_iload C dL_law_123 rfl ?_
  refine z_iconst C (nI 2) dL_law_125 (by decide) ?_
  refine z_ncmp_eq_f C 135 dL_law_126 (by decide) (by omega) (by omega) (by omega) ?_
  refine z_iload C dL_law_129 rfl ?_
  refine z_iconst C (nI 3) dL_law_131 (by decide) ?_
  refine z_ncmp_ne_t C 152 dL_law_132 (by decide) (by omega) (by omega) (by omega) ?_
  refine z_iload C dL_law_152 rfl ?_
  refine z_iconst C (nI 3) dL_law_154 (by decide) ?_
  refine z_ncmp_le_f C 181 dL_law_155 (by decide) (by omega) (by omega) (by omega) ?_
  refine z_iload C dL_law_158 rfl ?_
  refine z_bipush C (nI 9) dL_law_160 (by decide) ?_
  refine z_ncmp_ge_f C 181 dL_law_162 (by decide) (by omega) (by omega) (by omega) ?_
  refine z_aload_n C 1 dL_law_165 rfl rfl ?_
  refine z_iload C dL_law_166 rfl ?_
  refine z_iload_n C 3 dL_law_168 rfl rfl ?_
  refine z_iload C dL_law_169 rfl ?_
  refine z_iconst C (nI 3) dL_law_171 (by decide) ?_
  refine z_ishr C dL_law_172 ?_
  obtain ⟨S', o', kp', Q', tx', ln', ps', hG', ho', hk', hln', htx', hM⟩ := e_set X.2.1 x0 h0 h1 w0 w1 t r S o kp Q tx ln ps au g (h >>> ((nI 3) &&& 31)) hG ho hk hln htx (by omega)
  refine z_callSQ (wn := (WRd X.2.1 x0 h0 h1 w0 w1 t r S' o' kp' Q' tx' ln' ps')) (k' := 53 + 3 * e) (n' := 3001 + 23 * e) C M kL_sets gL_law_L_sets (zM.toA hM) dL_law_173 [0, 1, 2, 3, 4, 5, 6, 7, 8, 9, 10, 11, 12, 13, 14, 15, 16, 17, 18, 19, 20, 21, 22, 23, 24, 25, 26, 27, 28, 29, 30, 31, 32, 33, 34, 35, 36, 37, 38, 39, 40, 41, 42, 43, 44, 45, 46, 47, 48, 49, 50, 51, 52] [] rfl rfl nd_0_1_2_3_4_5_6_7_8_9_10_11_12_13_14_15_16_17_18_19_20_21_22_23_24_25_26_27_28_29_30_31_32_33_34_35_36_37_38_39_40_41_42_43_44_45_46_47_48_49_50_51_52 rfl (by decide) (by decide) (Nat.le_of_ble_eq_true rfl) rfl ((zput_par nd_0_1_2_3_4_5_6_7_8_9_10_11_12_13_14_15_16_17_18_19_20_21_22_23_24_25_26_27_28_29_30_31_32_33_34_35_36_37_38_39_40_41_42_43_44_45_46_47_48_49_50_51_52 rfl).trans rfl) (by omega) (by omega) (by omega) (by omega) ?_
  refine z_istore C dL_law_176 (Nat.le_of_ble_eq_true rfl) ?_
  refine z_lv (lv' := [some (.ref b), some (.ref x0), some (.int (nI e)), some (.int g), some (.int h), some (.int (nI 8)), some (.int (nI au)), some (.int (nI ax)), some (.int (nI 1)), none, none, none, none, none]) rfl ?_
  refine z_goto C 506 dL_law_178 (by decide) ?_
  exact law_tail M C he IH _ _ _ _ _ _ _ _ _ _ _ _ _ _ _ _ _ hG' ho' hk' hln' htx'

set_option maxHeartbeats 4000000 in
set_option maxRecDepth 100000 in
theorem lw_c9 {X : zX} (M : zRq X) (x0 h0 h1 w0 w1 : Nat) (t : Nat → Nat) (r : Nat → Nat → Nat) (e : Nat) (he : e < 40) {b : Nat} (C : zC X (53 + 3 * e) (3001 + 23 * e) code RL wsL_law 10) (IH : LI X b x0 h0 h1 w0 w1 t r (e + 1)) (g h : Int32) (au ax : Nat) (S : zSt) (o kp : Nat) (Q : Nat → zSt) (tx : Nat → Nat) (ln : Nat) (ps : zPs) (hG : GG S (2 * e)) (ho : o < 5) (hk : kp ≤ 4) (hln : ln ≤ 60) (htx : ∀ j, tx j < 65536) (hau : au < 3) : zG X (53 + 3 * e) (3001 + 23 * e) (WRd X.2.1 x0 h0 h1 w0 w1 t r S o kp Q tx ln ps) [some (.ref b), some (.ref x0), some (.int (nI e)), some (.int g), some (.int h), some (.int (nI 9)), some (.int (nI au)), some (.int (nI ax)), none, none, none, none, none, none] [] 80 := by
  have hb0 : uU S 0 ≤ 12 := gg_u hG 0
  have hb1 : uU S 1 ≤ 8 := gg_u1 hG
  have hb2 : mK S ≤ 60 := gg_M hG
  refine z_iload C dL_law_80 rfl ?_
  refine z_iconst C (nI 2) dL_law_82 (by decide) ?_
  refine z_ncmp_ge_t C 120 dL_law_83 (by decide) (by omega) (by omega) (by omega) ?_
  refine z_iconst C (nI 1) dL_law_120 (by decide) ?_
  refine z_istore C dL_law_121 (Nat.le_of_ble_eq_true rfl) ?_
  refine z_lv (lv' := [some (.ref b), some (.ref x0), some (.int (nI e)), some (.int g), some (.int h), some (.int (nI 9)), some (.int (nI au)), some (.int (nI ax)), some (.int (nI 1)), none, none, none, none, none]) rfl ?_
  refine z_iload C dL_law_123 rfl ?_
  refine z_iconst C (nI 2) dL_law_125 (by decide) ?_
  refine z_ncmp_eq_f C 135 dL_law_126 (by decide) (by omega) (by omega) (by omega) ?_
  refine z_iload C dL_law_129 rfl ?_
  refine z_iconst C (nI 3) dL_law_131 (by decide) ?_
  refine z_ncmp_ne_t C 152 dL_law_132 (by decide) (by omega) (by omega) (by omega) ?_
  refine z_iload C dL_law_152 rfl ?_
  refine z_iconst C (nI 3) dL_law_154 (by decide) ?_
  refine z_ncmp_le_f C 181 dL_law_155 (by decide) (by omega) (by omega) (by omega) ?_
  refine z_iload C dL_law_158 rfl ?_
  refine z_bipush C (nI 9) dL_law_160 (by decide) ?_
  refine z_ncmp_ge_t C 181 dL_law_162 (by decide) (by omega) (by omega) (by omega) ?_
  refine z_iload C dL_law_181 rfl ?_
  refine z_bipush C (nI 8) dL_law_183 (by decide) ?_
  refine z_ncmp_le_f C 220 dL_law_185 (by decide) (by omega) (by omega) (by omega) ?_
  refine z_iload C dL_law_188 rfl ?_
  refine z_bipush C (nI 12) dL_law_190 (by decide) ?_
  refine z_ncmp_ge_f C 220 dL_law_192 (by decide) (by omega) (by omega) (by omega) ?_
  refine z_aload_n C 1 dL_law_195 rfl rfl ?_
  refine z_iload_n C 3 dL_law_196 rfl rfl ?_
  refine z_iconst C (nI 1) dL_law_197 (by decide) ?_
  refine z_ishr C dL_law_198 ?_
  refine z_iload C dL_law_199 rfl ?_
  refine z_bipush C (nI 8) dL_law_201 (by decide) ?_
  refine z_iand C dL_law_203 ?_
  refine z_if_ne C 211 dL_law_204 (by decide) (fun h_1 => ?_) (fun h_1 => ?_)
  · refine z_iconst C (nI 0) dL_law_211 (by decide) ?_
    obtain ⟨S', o', kp', Q', tx', ln', ps', hG', ho', hk', hln', htx', hM⟩ := e_stl0 X.2.1 x0 h0 h1 w0 w1 t r S o kp Q tx ln ps (g >>> ((nI 1) &&& 31)) hG ho hk hln htx
    refine z_callSQ (wn := (WRd X.2.1 x0 h0 h1 w0 w1 t r S' o' kp' Q' tx' ln' ps')) (k' := 53 + 3 * e) (n' := 3001 + 23 * e) C M kL_settles gL_law_L_settles (zM.toA hM) dL_law_212 [0, 1, 2, 3, 4, 5, 6, 7, 8, 9, 10, 11, 12, 13, 14, 15, 16, 17, 18, 19, 20, 21, 22, 23, 24, 25, 26, 27, 28, 29, 30, 31, 32, 33, 34, 35, 36, 37, 38, 39, 40, 41, 42, 43, 44, 45, 46, 47, 48, 49, 50, 51, 52] [] rfl rfl nd_0_1_2_3_4_5_6_7_8_9_10_11_12_13_14_15_16_17_18_19_20_21_22_23_24_25_26_27_28_29_30_31_32_33_34_35_36_37_38_39_40_41_42_43_44_45_46_47_48_49_50_51_52 rfl (by decide) (by decide) (Nat.le_of_ble_eq_true rfl) rfl ((zput_par nd_0_1_2_3_4_5_6_7_8_9_10_11_12_13_14_15_16_17_18_19_20_21_22_23_24_25_26_27_28_29_30_31_32_33_34_35_36_37_38_39_40_41_42_43_44_45_46_47_48_49_50_51_52 rfl).trans rfl) (by omega) (by omega) (by omega) (by omega) ?_
    refine z_istore C dL_law_215 (Nat.le_of_ble_eq_true rfl) ?_
    refine z_lv (lv' := [some (.ref b), some (.ref x0), some (.int (nI e)), some (.int g), some (.int h), some (.int (nI 9)), some (.int (nI au)), some (.int (nI ax)), some (.int (nI 1)), none, none, none, none, none]) rfl ?_
    refine z_goto C 506 dL_law_217 (by decide) ?_
    exact law_tail M C he IH _ _ _ _ _ _ _ _ _ _ _ _ _ _ _ _ _ hG' ho' hk' hln' htx'
  · refine z_iconst C (nI 1) dL_law_207 (by decide) ?_
    refine z_goto C 212 dL_law_208 (by decide) ?_
    obtain ⟨S', o', kp', Q', tx', ln', ps', hG', ho', hk', hln', htx', hM⟩ := e_stl1 X.2.1 x0 h0 h1 w0 w1 t r S o kp Q tx ln ps (g >>> ((nI 1) &&& 31)) hG ho hk hln htx
    refine z_callSQ (wn := (WRd X.2.1 x0 h0 h1 w0 w1 t r S' o' kp' Q' tx' ln' ps')) (k' := 53 + 3 * e) (n' := 3001 + 23 * e) C M kL_settles gL_law_L_settles (zM.toA hM) dL_law_212 [0, 1, 2, 3, 4, 5, 6, 7, 8, 9, 10, 11, 12, 13, 14, 15, 16, 17, 18, 19, 20, 21, 22, 23, 24, 25, 26, 27, 28, 29, 30, 31, 32, 33, 34, 35, 36, 37, 38, 39, 40, 41, 42, 43, 44, 45, 46, 47, 48, 49, 50, 51, 52] [] rfl rfl nd_0_1_2_3_4_5_6_7_8_9_10_11_12_13_14_15_16_17_18_19_20_21_22_23_24_25_26_27_28_29_30_31_32_33_34_35_36_37_38_39_40_41_42_43_44_45_46_47_48_49_50_51_52 rfl (by decide) (by decide) (Nat.le_of_ble_eq_true rfl) rfl ((zput_par nd_0_1_2_3_4_5_6_7_8_9_10_11_12_13_14_15_16_17_18_19_20_21_22_23_24_25_26_27_28_29_30_31_32_33_34_35_36_37_38_39_40_41_42_43_44_45_46_47_48_49_50_51_52 rfl).trans rfl) (by omega) (by omega) (by omega) (by omega) ?_
    refine z_istore C dL_law_215 (Nat.le_of_ble_eq_true rfl) ?_
    refine z_lv (lv' := [some (.ref b), some (.ref x0), some (.int (nI e)), some (.int g), some (.int h), some (.int (nI 9)), some (.int (nI au)), some (.int (nI ax)), some (.int (nI 1)), none, none, none, none, none]) rfl ?_
    refine z_goto C 506 dL_law_217 (by decide) ?_
    exact law_tail M C he IH _ _ _ _ _ _ _ _ _ _ _ _ _ _ _ _ _ hG' ho' hk' hln' htx'

set_option maxHeartbeats 4000000 in
set_option maxRecDepth 100000 in
theorem lw_c10 {X : zX} (M : zRq X) (x0 h0 h1 w0 w1 : Nat) (t : Nat → Nat) (r : Nat → Nat → Nat) (e : Nat) (he : e < 40) {b : Nat} (C : zC X (53 + 3 * e) (3001 + 23 * e) code RL wsL_law 10) (IH : LI X b x0 h0 h1 w0 w1 t r (e + 1)) (g h : Int32) (au ax : Nat) (S : zSt) (o kp : Nat) (Q : Nat → zSt) (tx : Nat → Nat) (ln : Nat) (ps : zPs) (hG : GG S (2 * e)) (ho : o < 5) (hk : kp ≤ 4) (hln : ln ≤ 60) (htx : ∀ j, tx j < 65536) (hau : au < 3) : zG X (53 + 3 * e) (3001 + 23 * e) (WRd X.2.1 x0 h0 h1 w0 w1 t r S o kp Q tx ln ps) [some (.ref b), some (.ref x0), some (.int (nI e)), some (.int g), some (.int h), some (.int (nI 10)), some (.int (nI au)), some (.int (nI ax)), none, none, none, none, none, none] [] 80 := by
  have hb0 : uU S 0 ≤ 12 := gg_u hG 0
  have hb1 : uU S 1 ≤ 8 := gg_u1 hG
  have hb2 : mK S ≤ 60 := gg_M hG
  refine z_iload C dL_law_80 rfl ?_
  refine z_iconst C (nI 2) dL_law_82 (by decide) ?_
  refine z_ncmp_ge_t C 120 dL_law_83 (by decide) (by omega) (by omega) (by omega) ?_
  refine z_iconst C (nI 1) dL_law_120 (by decide) ?_
  refine z_istore C dL_law_121 (Nat.le_of_ble_eq_true rfl) ?_
  refine z_lv (lv' := [some (.ref b), some (.ref x0), some (.int (nI e)), some (.int g), some (.int h), some (.int (nI 10)), some (.int (nI au)), some (.int (nI ax)), some (.int (nI 1)), none, none, none, none, none]) rfl ?_
  refine z_iload C dL_law_123 rfl ?_
  refine z_iconst C (nI 2) dL_law_125 (by decide) ?_
  refine z_ncmp_eq_f C 135 dL_law_126 (by decide) (by omega) (by omega) (by omega) ?_
  refine z_iload C dL_law_129 rfl ?_
  refine z_iconst C (nI 3) dL_law_131 (by decide) ?_
  refine z_ncmp_ne_t C 152 dL_law_132 (by decide) (by omega) (by omega) (by omega) ?_
  refine z_iload C dL_law_152 rfl ?_
  refine z_iconst C (nI 3) dL_law_154 (by decide) ?_
  refine z_ncmp_le_f C 181 dL_law_155 (by decide) (by omega) (by omega) (by omega) ?_
  refine z_iload C dL_law_158 rfl ?_
  refine z_bipush C (nI 9) dL_law_160 (by decide) ?_
  refine z_ncmp_ge_t C 181 dL_law_162 (by decide) (by omega) (by omega) (by omega) ?_
  refine z_iload C dL_law_181 rfl ?_
  refine z_bipush C (nI 8) dL_law_183 (by decide) ?_
  refine z_ncmp_le_f C 220 dL_law_185 (by decide) (by omega) (by omega) (by omega) ?_
  refine z_iload C dL_law_188 rfl ?_
  refine z_bipush C (nI 12) dL_law_190 (by decide) ?_
  refine z_ncmp_ge_f C 220 dL_law_192 (by decide) (by omega) (by omega) (by omega) ?_
  refine z_aload_n C 1 dL_law_195 rfl rfl ?_
  refine z_iload_n C 3 dL_law_196 rfl rfl ?_
  refine z_iconst C (nI 1) dL_law_197 (by decide) ?_
  refine z_ishr C dL_law_198 ?_
  refine z_iload C dL_law_199 rfl ?_
  refine z_bipush C (nI 8) dL_law_201 (by decide) ?_
  refine z_iand C dL_law_203 ?_
  refine z_if_ne C 211 dL_law_204 (by decide) (fun h_1 => ?_) (fun h_1 => ?_)
  · refine z_iconst C (nI 0) dL_law_211 (by decide) ?_
    obtain ⟨S', o', kp', Q', tx', ln', ps', hG', ho', hk', hln', htx', hM⟩ := e_stl0 X.2.1 x0 h0 h1 w0 w1 t r S o kp Q tx ln ps (g >>> ((nI 1) &&& 31)) hG ho hk hln htx
    refine z_callSQ (wn := (WRd X.2.1 x0 h0 h1 w0 w1 t r S' o' kp' Q' tx' ln' ps')) (k' := 53 + 3 * e) (n' := 3001 + 23 * e) C M kL_settles gL_law_L_settles (zM.toA hM) dL_law_212 [0, 1, 2, 3, 4, 5, 6, 7, 8, 9, 10, 11, 12, 13, 14, 15, 16, 17, 18, 19, 20, 21, 22, 23, 24, 25, 26, 27, 28, 29, 30, 31, 32, 33, 34, 35, 36, 37, 38, 39, 40, 41, 42, 43, 44, 45, 46, 47, 48, 49, 50, 51, 52] [] rfl rfl nd_0_1_2_3_4_5_6_7_8_9_10_11_12_13_14_15_16_17_18_19_20_21_22_23_24_25_26_27_28_29_30_31_32_33_34_35_36_37_38_39_40_41_42_43_44_45_46_47_48_49_50_51_52 rfl (by decide) (by decide) (Nat.le_of_ble_eq_true rfl) rfl ((zput_par nd_0_1_2_3_4_5_6_7_8_9_10_11_12_13_14_15_16_17_18_19_20_21_22_23_24_25_26_27_28_29_30_31_32_33_34_35_36_37_38_39_40_41_42_43_44_45_46_47_48_49_50_51_52 rfl).trans rfl) (by omega) (by omega) (by omega) (by omega) ?_
    refine z_istore C dL_law_215 (Nat.le_of_ble_eq_true rfl) ?_
    refine z_lv (lv' := [some (.ref b), some (.ref x0), some (.int (nI e)), some (.int g), some (.int h), some (.int (nI 10)), some (.int (nI au)), some (.int (nI ax)), some (.int (nI 1)), none, none, none, none, none]) rfl ?_
    refine z_goto C 506 dL_law_217 (by decide) ?_
    exact law_tail M C he IH _ _ _ _ _ _ _ _ _ _ _ _ _ _ _ _ _ hG' ho' hk' hln' htx'
  · refine z_iconst C (nI 1) dL_law_207 (by decide) ?_
    refine z_goto C 212 dL_law_208 (by decide) ?_
    obtain ⟨S', o', kp', Q', tx', ln', ps', hG', ho', hk', hln', htx', hM⟩ := e_stl1 X.2.1 x0 h0 h1 w0 w1 t r S o kp Q tx ln ps (g >>> ((nI 1) &&& 31)) hG ho hk hln htx
    refine z_callSQ (wn := (WRd X.2.1 x0 h0 h1 w0 w1 t r S' o' kp' Q' tx' ln' ps')) (k' := 53 + 3 * e) (n' := 3001 + 23 * e) C M kL_settles gL_law_L_settles (zM.toA hM) dL_law_212 [0, 1, 2, 3, 4, 5, 6, 7, 8, 9, 10, 11, 12, 13, 14, 15, 16, 17, 18, 19, 20, 21, 22, 23, 24, 25, 26, 27, 28, 29, 30, 31, 32, 33, 34, 35, 36, 37, 38, 39, 40, 41, 42, 43, 44, 45, 46, 47, 48, 49, 50, 51, 52] [] rfl rfl nd_0_1_2_3_4_5_6_7_8_9_10_11_12_13_14_15_16_17_18_19_20_21_22_23_24_25_26_27_28_29_30_31_32_33_34_35_36_37_38_39_40_41_42_43_44_45_46_47_48_49_50_51_52 rfl (by decide) (by decide) (Nat.le_of_ble_eq_true rfl) rfl ((zput_par nd_0_1_2_3_4_5_6_7_8_9_10_11_12_13_14_15_16_17_18_19_20_21_22_23_24_25_26_27_28_29_30_31_32_33_34_35_36_37_38_39_40_41_42_43_44_45_46_47_48_49_50_51_52 rfl).trans rfl) (by omega) (by omega) (by omega) (by omega) ?_
    refine z_istore C dL_law_215 (Nat.le_of_ble_eq_true rfl) ?_
    refine z_lv (lv' := [some (.ref b), some (.ref x0), some (.int (nI e)), some (.int g), some (.int h), some (.int (nI 10)), some (.int (nI au)), some (.int (nI ax)), some (.int (nI 1)), none, none, none, none, none]) rfl ?_
    refine z_goto C 506 dL_law_217 (by decide) ?_
    exact law_tail M C he IH _ _ _ _ _ _ _ _ _ _ _ _ _ _ _ _ _ hG' ho' hk' hln' htx'

set_option maxHeartbeats 4000000 in
set_option maxRecDepth 100000 in
theorem lw_c11 {X : zX} (M : zRq X) (x0 h0 h1 w0 w1 : Nat) (t : Nat → Nat) (r : Nat → Nat → Nat) (e : Nat) (he : e < 40) {b : Nat} (C : zC X (53 + 3 * e) (3001 + 23 * e) code RL wsL_law 10) (IH : LI X b x0 h0 h1 w0 w1 t r (e + 1)) (g h : Int32) (au ax : Nat) (S : zSt) (o kp : Nat) (Q : Nat → zSt) (tx : Nat → Nat) (ln : Nat) (ps : zPs) (hG : GG S (2 * e)) (ho : o < 5) (hk : kp ≤ 4) (hln : ln ≤ 60) (htx : ∀ j, tx j < 65536) (hau : au < 3) : zG X (53 + 3 * e) (3001 + 23 * e) (WRd X.2.1 x0 h0 h1 w0 w1 t r S o kp Q tx ln ps) [some (.ref b), some (.ref x0), some (.int (nI e)), some (.int g), some (.int h), some (.int (nI 11)), some (.int (nI au)), some (.int (nI ax)), none, none, none, none, none, none] [] 80 := by
  have hb0 : uU S 0 ≤ 12 := gg_u hG 0
  have hb1 : uU S 1 ≤ 8 := gg_u1 hG
  have hb2 : mK S ≤ 60 := gg_M hG
  refine z_iload C dL_law_80 rfl ?_
  refine z_iconst C (nI 2) dL_law_82 (by decide) ?_
  refine z_ncmp_ge_t C 120 dL_law_83 (by decide) (by omega) (by omega) (by omega) ?_
  refine z_iconst C (nI 1) dL_law_120 (by decide) ?_
  refine z_istore C dL_law_121 (Nat.le_of_ble_eq_true rfl) ?_
  refine z_lv (lv' := [some (.ref b), some (.ref x0), some (.int (nI e)), some (.int g), some (.int h), some (.int (nI 11)), some (.int (nI au)), some (.int (nI ax)), some (.int (nI 1)), none, none, none, none, none]) rfl ?_
  refine z_iload C dL_law_123 rfl ?_
  refine z_iconst C (nI 2) dL_law_125 (by decide) ?_
  refine z_ncmp_eq_f C 135 dL_law_126 (by decide) (by omega) (by omega) (by omega) ?_
  refine z_iload C dL_law_129 rfl ?_
  refine z_iconst C (nI 3) dL_law_131 (by decide) ?_
  refine z_ncmp_ne_t C 152 dL_law_132 (by decide) (by omega) (by omega) (by omega) ?_
  refine z_iload C dL_law_152 rfl ?_
  refine z_iconst C (nI 3) dL_law_154 (by decide) ?_
  refine z_ncmp_le_f C 181 dL_law_155 (by decide) (by omega) (by omega) (by omega) ?_
  refine z_iload C dL_law_158 rfl ?_
  refine z_bipush C (nI 9) dL_law_160 (by decide) ?_
  refine z_ncmp_ge_t C 181 dL_law_162 (by decide) (by omega) (by omega) (by omega) ?_
  refine z_iload C dL_law_181 rfl ?_
  refine z_bipush C (nI 8) dL_law_183 (by decide) ?_
  refine z_ncmp_le_f C 220 dL_law_185 (by decide) (by omega) (by omega) (by omega) ?_
  refine z_iload C dL_law_188 rfl ?_
  refine z_bipush C (nI 12) dL_law_190 (by decide) ?_
  refine z_ncmp_ge_f C 220 dL_law_192 (by decide) (by omega) (by omega) (by omega) ?_
  refine z_aload_n C 1 dL_law_195 rfl rfl ?_
  refine z_iload_n C 3 dL_law_196 rfl rfl ?_
  refine z_iconst C (nI 1) dL_law_197 (by decide) ?_
  refine z_ishr C dL_law_198 ?_
  refine z_iload C dL_law_199 rfl ?_
  refine z_bipush C (nI 8) dL_law_201 (by decide) ?_
  refine z_iand C dL_law_203 ?_
  refine z_if_ne C 211 dL_law_204 (by decide) (fun h_1 => ?_) (fun h_1 => ?_)
  · refine z_iconst C (nI 0) dL_law_211 (by decide) ?_
    obtain ⟨S', o', kp', Q', tx', ln', ps', hG', ho', hk', hln', htx', hM⟩ := e_stl0 X.2.1 x0 h0 h1 w0 w1 t r S o kp Q tx ln ps (g >>> ((nI 1) &&& 31)) hG ho hk hln htx
    refine z_callSQ (wn := (WRd X.2.1 x0 h0 h1 w0 w1 t r S' o' kp' Q' tx' ln' ps')) (k' := 53 + 3 * e) (n' := 3001 + 23 * e) C M kL_settles gL_law_L_settles (zM.toA hM) dL_law_212 [0, 1, 2, 3, 4, 5, 6, 7, 8, 9, 10, 11, 12, 13, 14, 15, 16, 17, 18, 19, 20, 21, 22, 23, 24, 25, 26, 27, 28, 29, 30, 31, 32, 33, 34, 35, 36, 37, 38, 39, 40, 41, 42, 43, 44, 45, 46, 47, 48, 49, 50, 51, 52] [] rfl rfl nd_0_1_2_3_4_5_6_7_8_9_10_11_12_13_14_15_16_17_18_19_20_21_22_23_24_25_26_27_28_29_30_31_32_33_34_35_36_37_38_39_40_41_42_43_44_45_46_47_48_49_50_51_52 rfl (by decide) (by decide) (Nat.le_of_ble_eq_true rfl) rfl ((zput_par nd_0_1_2_3_4_5_6_7_8_9_10_11_12_13_14_15_16_17_18_19_20_21_22_23_24_25_26_27_28_29_30_31_32_33_34_35_36_37_38_39_40_41_42_43_44_45_46_47_48_49_50_51_52 rfl).trans rfl) (by omega) (by omega) (by omega) (by omega) ?_
    refine z_istore C dL_law_215 (Nat.le_of_ble_eq_true rfl) ?_
    refine z_lv (lv' := [some (.ref b), some (.ref x0), some (.int (nI e)), some (.int g), some (.int h), some (.int (nI 11)), some (.int (nI au)), some (.int (nI ax)), some (.int (nI 1)), none, none, none, none, none]) rfl ?_
    refine z_goto C 506 dL_law_217 (by decide) ?_
    exact law_tail M C he IH _ _ _ _ _ _ _ _ _ _ _ _ _ _ _ _ _ hG' ho' hk' hln' htx'
  · refine z_iconst C (nI 1) dL_law_207 (by decide) ?_
    refine z_goto C 212 dL_law_208 (by decide) ?_
    obtain ⟨S', o', kp', Q', tx', ln', ps', hG', ho', hk', hln', htx', hM⟩ := e_stl1 X.2.1 x0 h0 h1 w0 w1 t r S o kp Q tx ln ps (g >>> ((nI 1) &&& 31)) hG ho hk hln htx
    refine z_callSQ (wn := (WRd X.2.1 x0 h0 h1 w0 w1 t r S' o' kp' Q' tx' ln' ps')) (k' := 53 + 3 * e) (n' := 3001 + 23 * e) C M kL_settles gL_law_L_settles (zM.toA hM) dL_law_212 [0, 1, 2, 3, 4, 5, 6, 7, 8, 9, 10, 11, 12, 13, 14, 15, 16, 17, 18, 19, 20, 21, 22, 23, 24, 25, 26, 27, 28, 29, 30, 31, 32, 33, 34, 35, 36, 37, 38, 39, 40, 41, 42, 43, 44, 45, 46, 47, 48, 49, 50, 51, 52] [] rfl rfl nd_0_1_2_3_4_5_6_7_8_9_10_11_12_13_14_15_16_17_18_19_20_21_22_23_24_25_26_27_28_29_30_31_32_33_34_35_36_37_38_39_40_41_42_43_44_45_46_47_48_49_50_51_52 rfl (by decide) (by decide) (Nat.le_of_ble_eq_true rfl) rfl ((zput_par nd_0_1_2_3_4_5_6_7_8_9_10_11_12_13_14_15_16_17_18_19_20_21_22_23_24_25_26_27_28_29_30_31_32_33_34_35_36_37_38_39_40_41_42_43_44_45_46_47_48_49_50_51_52 rfl).trans rfl) (by omega) (by omega) (by omega) (by omega) ?_
    refine z_istore C dL_law_215 (Nat.le_of_ble_eq_true rfl) ?_
    refine z_lv (lv' := [some (.ref b), some (.ref x0), some (.int (nI e)), some (.int g), some (.int h), some (.int (nI 11)), some (.int (nI au)), some (.int (nI ax)), some (.int (nI 1)), none, none, none, none, none]) rfl ?_
    refine z_goto C 506 dL_law_217 (by decide) ?_
    exact law_tail M C he IH _ _ _ _ _ _ _ _ _ _ _ _ _ _ _ _ _ hG' ho' hk' hln' htx'

set_option maxHeartbeats 4000000 in
set_option maxRecDepth 100000 in
theorem lw_c13 {X : zX} (M : zRq X) (x0 h0 h1 w0 w1 : Nat) (t : Nat → Nat) (r : Nat → Nat → Nat) (e : Nat) (he : e < 40) {b : Nat} (C : zC X (53 + 3 * e) (3001 + 23 * e) code RL wsL_law 10) (IH : LI X b x0 h0 h1 w0 w1 t r (e + 1)) (g h : Int32) (au ax : Nat) (S : zSt) (o kp : Nat) (Q : Nat → zSt) (tx : Nat → Nat) (ln : Nat) (ps : zPs) (hG : GG S (2 * e)) (ho : o < 5) (hk : kp ≤ 4) (hln : ln ≤ 60) (htx : ∀ j, tx j < 65536) (hau : au < 3) : zG X (53 + 3 * e) (3001 + 23 * e) (WRd X.2.1 x0 h0 h1 w0 w1 t r S o kp Q tx ln ps) [some (.ref b), some (.ref x0), some (.int (nI e)), some (.int g), some (.int h), some (.int (nI 13)), some (.int (nI au)), some (.int (nI ax)), none, none, none, none, none, none] [] 80 := by
  have hb0 : uU S 0 ≤ 12 := gg_u hG 0
  have hb1 : uU S 1 ≤ 8 := gg_u1 hG
  have hb2 : mK S ≤ 60 := gg_M hG
  refine z_iload C dL_law_80 rfl ?_
  refine z_iconst C (nI 2) dL_law_82 (by decide) ?_
  refine z_ncmp_ge_t C 120 dL_law_83 (by decide) (by omega) (by omega) (by omega) ?_
  refine z_iconst C (nI 1) dL_law_120 (by decide) ?_
  refine z_istore C dL_law_121 (Nat.le_of_ble_eq_true rfl) ?_
  refine z_lv (lv' := [some (.ref b), some (.ref x0), some (.int (nI e)), some (.int g), some (.int h), some (.int (nI 13)), some (.int (nI au)), some (.int (nI ax)), some (.int (nI 1)), none, none, none, none, none]) rfl ?_
  refine z_iload C dL_law_123 rfl ?_
  refine z_iconst C (nI 2) dL_law_125 (by decide) ?_
  refine z_ncmp_eq_f C 135 dL_law_126 (by decide) (by omega) (by omega) (by omega) ?_
  refine z_iload C dL_law_129 rfl ?_
  refine z_iconst C (nI 3) dL_law_131 (by decide) ?_
  refine z_ncmp_ne_t C 152 dL_law_132 (by decide) (by omega) (by omega) (by omega) ?_
  refine z_iload C dL_law_152 rfl ?_
  refine z_iconst C (nI 3) dL_law_154 (by decide) ?_
  refine z_ncmp_le_f C 181 dL_law_155 (by decide) (by omega) (by omega) (by omega) ?_
  refine z_iload C dL_law_158 rfl ?_
  refine z_bipush C (nI 9) dL_law_160 (by decide) ?_
  refine z_ncmp_ge_t C 181 dL_law_162 (by decide) (by omega) (by omega) (by omega) ?_
  refine z_iload C dL_law_181 rfl ?_
  refine z_bipush C (nI 8) dL_law_183 (by decide) ?_
  refine z_ncmp_le_f C 220 dL_law_185 (by decide) (by omega) (by omega) (by omega) ?_
  refine z_iload C dL_law_188 rfl ?_
  refine z_bipush C (nI 12) dL_law_190 (by decide) ?_
  refine z_ncmp_ge_t C 220 dL_law_192 (by decide) (by omega) (by omega) (by omega) ?_
  refine z_iload C dL_law_220 rfl ?_
  refine z_bipush C (nI 12) dL_law_222 (by decide) ?_
  refine z_ncmp_ne_t C 313 dL_law_224 (by decide) (by omega) (by omega) (by omega) ?_
  refine z_iload C dL_law_313 rfl ?_
  refine z_bipush C (nI 13) dL_law_315 (by decide) ?_
  refine z_ncmp_ne_f C 336 dL_law_317 (by decide) (by omega) (by omega) (by omega) ?_
  refine z_aload_n C 1 dL_law_320 rfl rfl ?_
  refine z_iload C dL_law_321 rfl ?_
  refine z_iload_n C 3 dL_law_323 rfl rfl ?_
  refine z_iload C dL_law_324 rfl ?_
  refine z_iconst C (nI 3) dL_law_326 (by decide) ?_
  refine z_ishr C dL_law_327 ?_
  obtain ⟨S', o', kp', Q', tx', ln', ps', hG', ho', hk', hln', htx', hM⟩ := e_ord X.2.1 x0 h0 h1 w0 w1 t r S o kp Q tx ln ps au g (h >>> ((nI 3) &&& 31)) hG (by omega) ho hk hln htx (by omega)
  refine z_callSQ (wn := (WRd X.2.1 x0 h0 h1 w0 w1 t r S' o' kp' Q' tx' ln' ps')) (k' := 53 + 3 * e) (n' := 3001 + 23 * e) C M kL_orders gL_law_L_orders (zM.toA hM) dL_law_328 [0, 1, 2, 3, 4, 5, 6, 7, 8, 9, 10, 11, 12, 13, 14, 15, 16, 17, 18, 19, 20, 21, 22, 23, 24, 25, 26, 27, 28, 29, 30, 31, 32, 33, 34, 35, 36, 37, 38, 39, 40, 41, 42, 43, 44, 45, 46, 47, 48, 49, 50, 51, 52] [] rfl rfl nd_0_1_2_3_4_5_6_7_8_9_10_11_12_13_14_15_16_17_18_19_20_21_22_23_24_25_26_27_28_29_30_31_32_33_34_35_36_37_38_39_40_41_42_43_44_45_46_47_48_49_50_51_52 rfl (by decide) (by decide) (Nat.le_of_ble_eq_true rfl) rfl ((zput_par nd_0_1_2_3_4_5_6_7_8_9_10_11_12_13_14_15_16_17_18_19_20_21_22_23_24_25_26_27_28_29_30_31_32_33_34_35_36_37_38_39_40_41_42_43_44_45_46_47_48_49_50_51_52 rfl).trans rfl) (by omega) (by omega) (by omega) (by omega) ?_
  refine z_istore C dL_law_331 (Nat.le_of_ble_eq_true rfl) ?_
  refine z_lv (lv' := [some (.ref b), some (.ref x0), some (.int (nI e)), some (.int g), some (.int h), some (.int (nI 13)), some (.int (nI au)), some (.int (nI ax)), some (.int (nI 1)), none, none, none, none, none]) rfl ?_
  refine z_goto C 506 dL_law_333 (by decide) ?_
  exact law_tail M C he IH _ _ _ _ _ _ _ _ _ _ _ _ _ _ _ _ _ hG' ho' hk' hln' htx'
