/-! the law: every turn, its loop, its start -/
theorem law_80 {X : zX} (M : zRq X) (x0 h0 h1 w0 w1 : Nat) (t : Nat → Nat) (r : Nat → Nat → Nat) (e : Nat) (he : e < 40) {b : Nat} (C : zC X (53 + 3 * e) (3001 + 23 * e) code RL wsL_law 10) (IH : LI X b x0 h0 h1 w0 w1 t r (e + 1)) (g h : Int32) (au ax so : Nat) (hso : so < 15) (hax : ax < 2) (S : zSt) (o kp : Nat) (Q : Nat → zSt) (tx : Nat → Nat) (ln : Nat) (ps : zPs) (hG : GG S (2 * e)) (ho : o < 5) (hk : kp ≤ 4) (hln : ln ≤ 60) (htx : ∀ j, tx j < 65536) (hau : au < 3) : zG X (53 + 3 * e) (3001 + 23 * e) (WRd X.2.1 x0 h0 h1 w0 w1 t r S o kp Q tx ln ps) [some (.ref b), some (.ref x0), some (.int (nI e)), some (.int g), some (.int h), some (.int (nI so)), some (.int (nI au)), some (.int (nI ax)), none, none, none, none, none, none] [] 80 := by
  rcases (show so = 0 ∨ so = 1 ∨ so = 2 ∨ so = 3 ∨ so = 4 ∨ so = 5 ∨ so = 6 ∨ so = 7 ∨ so = 8 ∨ so = 9 ∨ so = 10 ∨ so = 11 ∨ so = 12 ∨ so = 13 ∨ so = 14 by omega) with q | q | q | q | q | q | q | q | q | q | q | q | q | q | q <;> subst q
  · rcases (show ax = 0 ∨ ax = 1 by omega) with q | q <;> subst q
    · exact lw_c0_0 M x0 h0 h1 w0 w1 t r e he C IH g h au S o kp Q tx ln ps hG ho hk hln htx hau
    · exact lw_c0_1 M x0 h0 h1 w0 w1 t r e he C IH g h au S o kp Q tx ln ps hG ho hk hln htx hau
  · rcases (show ax = 0 ∨ ax = 1 by omega) with q | q <;> subst q
    · exact lw_c1_0 M x0 h0 h1 w0 w1 t r e he C IH g h au S o kp Q tx ln ps hG ho hk hln htx hau
    · exact lw_c1_1 M x0 h0 h1 w0 w1 t r e he C IH g h au S o kp Q tx ln ps hG ho hk hln htx hau
  · rcases (show ax = 0 ∨ ax = 1 by omega) with q | q <;> subst q
    · exact lw_c2_0 M x0 h0 h1 w0 w1 t r e he C IH g h au S o kp Q tx ln ps hG ho hk hln htx hau
    · exact lw_c2_1 M x0 h0 h1 w0 w1 t r e he C IH g h au S o kp Q tx ln ps hG ho hk hln htx hau
  · rcases (show ax = 0 ∨ ax = 1 by omega) with q | q <;> subst q
    · exact lw_c3_0 M x0 h0 h1 w0 w1 t r e he C IH g h au S o kp Q tx ln ps hG ho hk hln htx hau
    · exact lw_c3_1 M x0 h0 h1 w0 w1 t r e he C IH g h au S o kp Q tx ln ps hG ho hk hln htx hau
  · exact lw_c4 M x0 h0 h1 w0 w1 t r e he C IH g h au ax S o kp Q tx ln ps hG ho hk hln htx hau
  · exact lw_c5 M x0 h0 h1 w0 w1 t r e he C IH g h au ax S o kp Q tx ln ps hG ho hk hln htx hau
  · exact lw_c6 M x0 h0 h1 w0 w1 t r e he C IH g h au ax S o kp Q tx ln ps hG ho hk hln htx hau
  · exact lw_c7 M x0 h0 h1 w0 w1 t r e he C IH g h au ax S o kp Q tx ln ps hG ho hk hln htx hau
  · exact lw_c8 M x0 h0 h1 w0 w1 t r e he C IH g h au ax S o kp Q tx ln ps hG ho hk hln htx hau
  · exact lw_c9 M x0 h0 h1 w0 w1 t r e he C IH g h au ax S o kp Q tx ln ps hG ho hk hln htx hau
  · exact lw_c10 M x0 h0 h1 w0 w1 t r e he C IH g h au ax S o kp Q tx ln ps hG ho hk hln htx hau
  · exact lw_c11 M x0 h0 h1 w0 w1 t r e he C IH g h au ax S o kp Q tx ln ps hG ho hk hln htx hau
  · rcases Bool.eq_false_or_eq_true (tK S) with q | q
    · exact lw_c12_1 M x0 h0 h1 w0 w1 t r e he C IH g h au ax S o kp Q tx ln ps hG ho hk hln htx hau q
    · exact lw_c12_0 M x0 h0 h1 w0 w1 t r e he C IH g h au ax S o kp Q tx ln ps hG ho hk hln htx hau q
  · exact lw_c13 M x0 h0 h1 w0 w1 t r e he C IH g h au ax S o kp Q tx ln ps hG ho hk hln htx hau
  · have q5 := lw_lt (h >>> ((nI 5) &&& 31)) (n := 5) (by decide)
    rcases Nat.eq_zero_or_pos (lw (h >>> ((nI 5) &&& 31)) 5) with q | q
    · exact lw_c14_n M x0 h0 h1 w0 w1 t r e he C IH g h au ax S o kp Q tx ln ps hG ho hk hln htx hau q
    · obtain ⟨k9, hw⟩ : ∃ k9, lw (h >>> ((nI 5) &&& 31)) 5 = k9 + 1 := ⟨lw (h >>> ((nI 5) &&& 31)) 5 - 1, by omega⟩
      exact lw_c14_k M x0 h0 h1 w0 w1 t r e he C IH g h au ax k9 S o kp Q tx ln ps hG ho hk hln htx hau (by omega) hw

set_option maxHeartbeats 4000000 in
set_option maxRecDepth 100000 in
theorem law_head {X : zX} (M : zRq X) (x0 h0 h1 w0 w1 : Nat) (t : Nat → Nat) (r : Nat → Nat → Nat) (e : Nat) (he : e < 40) {b : Nat} (C : zC X (53 + 3 * e) (3001 + 23 * e) code RL wsL_law 10) (IH : LI X b x0 h0 h1 w0 w1 t r (e + 1)) {L : Nat} {xs : Nat → Int32} (La : zLa X b L xs) (hL : L ≤ 260) (S : zSt) (o kp : Nat) (Q : Nat → zSt) (tx : Nat → Nat) (ln : Nat) (ps : zPs) (hG : GG S (2 * e)) (ho : o < 5) (hk : kp ≤ 4) (hln : ln ≤ 60) (htx : ∀ j, tx j < 65536) : zG X (53 + 3 * e) (3001 + 23 * e) (WRd X.2.1 x0 h0 h1 w0 w1 t r S o kp Q tx ln ps) [some (.ref b), some (.ref x0), some (.int (nI e)), none, none, none, none, none, none, none, none, none, none, none] [] 10 := by
  have hb0 : uU S 0 ≤ 12 := gg_u hG 0
  have hb1 : uU S 1 ≤ 8 := gg_u1 hG
  have hb2 : mK S ≤ 60 := gg_M hG
  refine z_iload_n C 2 dL_law_10 rfl rfl ?_
  refine z_bipush C (nI 40) dL_law_11 (by decide) ?_
  refine z_ncmp_ge_f C 547 dL_law_13 (by decide) (by omega) (by omega) (by omega) ?_
  refine z_aload_n C 0 dL_law_16 rfl rfl ?_
  refine z_iconst C (nI 2) dL_law_17 (by decide) ?_
  refine z_iload_n C 2 dL_law_18 rfl rfl ?_
  refine z_imul C dL_law_19 ?_
  refine z_top (y := nI (2 * e)) (pk_mul _ _) ?_
  refine z_callX C La kL_cell gL_law_L_cell (l_cell X.2.1 b L (2 * e) xs hL (by omega)) dL_law_20 [] rfl (by decide) (by decide) (Nat.le_of_ble_eq_true rfl) rfl ?_
  refine z_istore_n C 3 dL_law_23 rfl (Nat.le_of_ble_eq_true rfl) ?_
  refine z_lv (lv' := [some (.ref b), some (.ref x0), some (.int (nI e)), some (.int (clv xs L (2 * e))), none, none, none, none, none, none, none, none, none, none]) rfl ?_
  refine z_aload_n C 0 dL_law_24 rfl rfl ?_
  refine z_iconst C (nI 2) dL_law_25 (by decide) ?_
  refine z_iload_n C 2 dL_law_26 rfl rfl ?_
  refine z_imul C dL_law_27 ?_
  refine z_top (y := nI (2 * e)) (pk_mul _ _) ?_
  refine z_iconst C (nI 1) dL_law_28 (by decide) ?_
  refine z_iadd C dL_law_29 ?_
  refine z_top (y := nI ((2 * e) + 1)) (nI_add _ _) ?_
  refine z_callX C La kL_cell gL_law_L_cell (l_cell X.2.1 b L ((2 * e) + 1) xs hL (by omega)) dL_law_30 [] rfl (by decide) (by decide) (Nat.le_of_ble_eq_true rfl) rfl ?_
  refine z_istore C dL_law_33 (Nat.le_of_ble_eq_true rfl) ?_
  refine z_lv (lv' := [some (.ref b), some (.ref x0), some (.int (nI e)), some (.int (clv xs L (2 * e))), some (.int (clv xs L ((2 * e) + 1))), none, none, none, none, none, none, none, none, none]) rfl ?_
  refine z_iload_n C 2 dL_law_35 rfl rfl ?_
  refine z_iconst C (nI 4) dL_law_36 (by decide) ?_
  refine z_ncmp_ge C 44 dL_law_37 (by decide) (by omega) (by omega) (fun h_1 => ?_) (fun h_1 => ?_)
  · refine z_iload_n C 3 dL_law_44 rfl rfl ?_
    refine z_bipush C (nI 15) dL_law_45 (by decide) ?_
    refine z_callS C kL_low gL_law_L_low (l_low X.2.1 (clv xs L (2 * e)) 15 (by decide) (by decide)) dL_law_47 [] rfl (by decide) (by decide) (Nat.le_of_ble_eq_true rfl) rfl ?_
    have hg_2 : lw (clv xs L (2 * e)) 15 < 15 := lw_lt (clv xs L (2 * e)) (by omega)
    refine z_istore C dL_law_50 (Nat.le_of_ble_eq_true rfl) ?_
    refine z_lv (lv' := [some (.ref b), some (.ref x0), some (.int (nI e)), some (.int (clv xs L (2 * e))), some (.int (clv xs L ((2 * e) + 1))), some (.int (nI (lw (clv xs L (2 * e)) 15))), none, none, none, none, none, none, none, none]) rfl ?_
    refine z_iload_n C 3 dL_law_52 rfl rfl ?_
    refine z_iconst C (nI 4) dL_law_53 (by decide) ?_
    refine z_ishr C dL_law_54 ?_
    refine z_istore_n C 3 dL_law_55 rfl (Nat.le_of_ble_eq_true rfl) ?_
    refine z_lv (lv' := [some (.ref b), some (.ref x0), some (.int (nI e)), some (.int ((clv xs L (2 * e)) >>> ((nI 4) &&& 31))), some (.int (clv xs L ((2 * e) + 1))), some (.int (nI (lw (clv xs L (2 * e)) 15))), none, none, none, none, none, none, none, none]) rfl ?_
    refine z_iload C dL_law_56 rfl ?_
    refine z_iconst C (nI 3) dL_law_58 (by decide) ?_
    refine z_callS C kL_low gL_law_L_low (l_low X.2.1 (clv xs L ((2 * e) + 1)) 3 (by decide) (by decide)) dL_law_59 [] rfl (by decide) (by decide) (Nat.le_of_ble_eq_true rfl) rfl ?_
    have hg_3 : lw (clv xs L ((2 * e) + 1)) 3 < 3 := lw_lt (clv xs L ((2 * e) + 1)) (by omega)
    refine z_istore C dL_law_62 (Nat.le_of_ble_eq_true rfl) ?_
    refine z_lv (lv' := [some (.ref b), some (.ref x0), some (.int (nI e)), some (.int ((clv xs L (2 * e)) >>> ((nI 4) &&& 31))), some (.int (clv xs L ((2 * e) + 1))), some (.int (nI (lw (clv xs L (2 * e)) 15))), some (.int (nI (lw (clv xs L ((2 * e) + 1)) 3))), none, none, none, none, none, none, none]) rfl ?_
    refine z_iload_n C 2 dL_law_64 rfl rfl ?_
    refine z_iconst C (nI 4) dL_law_65 (by decide) ?_
    refine z_ncmp_ge_t C 75 dL_law_66 (by decide) (by omega) (by omega) (by omega) ?_
    refine z_iload_n C 3 dL_law_75 rfl rfl ?_
    refine z_iconst C (nI 1) dL_law_76 (by decide) ?_
    refine z_iand C dL_law_77 ?_
    obtain ⟨ax, hax, hz⟩ := pk_andE ((clv xs L (2 * e)) >>> ((nI 4) &&& 31)) (m := nI 1) 1 (by decide)
    refine z_top (y := nI ax) hz ?_
    refine z_istore C dL_law_78 (Nat.le_of_ble_eq_true rfl) ?_
    refine z_lv (lv' := [some (.ref b), some (.ref x0), some (.int (nI e)), some (.int ((clv xs L (2 * e)) >>> ((nI 4) &&& 31))), some (.int (clv xs L ((2 * e) + 1))), some (.int (nI (lw (clv xs L (2 * e)) 15))), some (.int (nI (lw (clv xs L ((2 * e) + 1)) 3))), some (.int (nI ax)), none, none, none, none, none, none]) rfl ?_
    exact law_80 M x0 h0 h1 w0 w1 t r e he C IH ((clv xs L (2 * e)) >>> ((nI 4) &&& 31)) (clv xs L ((2 * e) + 1)) (lw (clv xs L ((2 * e) + 1)) 3) ax (lw (clv xs L (2 * e)) 15) (by omega) hax S o kp Q tx ln ps hG ho hk hln htx (by omega)
  · refine z_iconst C (nI 0) dL_law_40 (by decide) ?_
    refine z_goto C 50 dL_law_41 (by decide) ?_
    refine z_istore C dL_law_50 (Nat.le_of_ble_eq_true rfl) ?_
    refine z_lv (lv' := [some (.ref b), some (.ref x0), some (.int (nI e)), some (.int (clv xs L (2 * e))), some (.int (clv xs L ((2 * e) + 1))), some (.int (nI 0)), none, none, none, none, none, none, none, none]) rfl ?_
    refine z_iload_n C 3 dL_law_52 rfl rfl ?_
    refine z_iconst C (nI 4) dL_law_53 (by decide) ?_
    refine z_ishr C dL_law_54 ?_
    refine z_istore_n C 3 dL_law_55 rfl (Nat.le_of_ble_eq_true rfl) ?_
    refine z_lv (lv' := [some (.ref b), some (.ref x0), some (.int (nI e)), some (.int ((clv xs L (2 * e)) >>> ((nI 4) &&& 31))), some (.int (clv xs L ((2 * e) + 1))), some (.int (nI 0)), none, none, none, none, none, none, none, none]) rfl ?_
    refine z_iload C dL_law_56 rfl ?_
    refine z_iconst C (nI 3) dL_law_58 (by decide) ?_
    refine z_callS C kL_low gL_law_L_low (l_low X.2.1 (clv xs L ((2 * e) + 1)) 3 (by decide) (by decide)) dL_law_59 [] rfl (by decide) (by decide) (Nat.le_of_ble_eq_true rfl) rfl ?_
    have hg_4 : lw (clv xs L ((2 * e) + 1)) 3 < 3 := lw_lt (clv xs L ((2 * e) + 1)) (by omega)
    refine z_istore C dL_law_62 (Nat.le_of_ble_eq_true rfl) ?_
    refine z_lv (lv' := [some (.ref b), some (.ref x0), some (.int (nI e)), some (.int ((clv xs L (2 * e)) >>> ((nI 4) &&& 31))), some (.int (clv xs L ((2 * e) + 1))), some (.int (nI 0)), some (.int (nI (lw (clv xs L ((2 * e) + 1)) 3))), none, none, none, none, none, none, none]) rfl ?_
    refine z_iload_n C 2 dL_law_64 rfl rfl ?_
    refine z_iconst C (nI 4) dL_law_65 (by decide) ?_
    refine z_ncmp_ge_f C 75 dL_law_66 (by decide) (by omega) (by omega) (by omega) ?_
    refine z_iload_n C 2 dL_law_69 rfl rfl ?_
    refine z_iconst C (nI 1) dL_law_70 (by decide) ?_
    refine z_iand C dL_law_71 ?_
    obtain ⟨ax, hax, hz⟩ := pk_andE (nI e) (m := nI 1) 1 (by decide)
    refine z_top (y := nI ax) hz ?_
    refine z_goto C 78 dL_law_72 (by decide) ?_
    refine z_istore C dL_law_78 (Nat.le_of_ble_eq_true rfl) ?_
    refine z_lv (lv' := [some (.ref b), some (.ref x0), some (.int (nI e)), some (.int ((clv xs L (2 * e)) >>> ((nI 4) &&& 31))), some (.int (clv xs L ((2 * e) + 1))), some (.int (nI 0)), some (.int (nI (lw (clv xs L ((2 * e) + 1)) 3))), some (.int (nI ax)), none, none, none, none, none, none]) rfl ?_
    exact law_80 M x0 h0 h1 w0 w1 t r e he C IH ((clv xs L (2 * e)) >>> ((nI 4) &&& 31)) (clv xs L ((2 * e) + 1)) (lw (clv xs L ((2 * e) + 1)) 3) ax 0 (by omega) hax S o kp Q tx ln ps hG ho hk hln htx (by omega)

theorem law_loop {X : zX} (M : zRq X) {b L : Nat} {xs : Nat → Int32} (C0 : zC X 0 0 code RL wsL_law 10) (La : zLa X b L xs) (Le : zLe X b) (hL : L ≤ 260) (x0 h0 h1 w0 w1 : Nat) (t : Nat → Nat) (r : Nat → Nat → Nat) : ∀ d e, e + d = 40 → LI X b x0 h0 h1 w0 w1 t r e
  | 0, e, h => by
    intro S o kp Q tx ln ps hG ho hk hln htx
    have C := zRq.mono M C0 (k' := 53 + 3 * e) (n' := 3001 + 23 * e) (by omega) (by omega)
    refine z_iload_n C 2 dL_law_10 rfl rfl ?_
    refine z_bipush C (nI 40) dL_law_11 (by decide) ?_
    refine z_ncmp_ge_t C 547 dL_law_13 (by decide) (by omega) (by omega) (by omega) ?_
    refine z_aload_n C 1 dL_law_547 rfl rfl ?_
    obtain ⟨S', o', kp', Q', tx', ln', ps', hG', ho', hk', hln', htx', hM⟩ := e_err X.2.1 x0 h0 h1 w0 w1 t r S o kp Q tx ln ps hG ho hk hln htx
    refine z_callSQ (wn := (WRd X.2.1 x0 h0 h1 w0 w1 t r S' o' kp' Q' tx' ln' ps')) (k' := 53 + 3 * e) (n' := 3001 + 23 * e) C M kL_errors gL_law_L_errors (zM.toA hM) dL_law_548 [0, 1, 2, 3, 4, 5, 6, 7, 8, 9, 10, 11, 12, 13, 14, 15, 16, 17, 18, 19, 20, 21, 22, 23, 24, 25, 26, 27, 28, 29, 30, 31, 32, 33, 34, 35, 36, 37, 38, 39, 40, 41, 42, 43, 44, 45, 46, 47, 48, 49, 50, 51, 52] [] rfl rfl nd_0_1_2_3_4_5_6_7_8_9_10_11_12_13_14_15_16_17_18_19_20_21_22_23_24_25_26_27_28_29_30_31_32_33_34_35_36_37_38_39_40_41_42_43_44_45_46_47_48_49_50_51_52 rfl (by decide) (by decide) (Nat.le_of_ble_eq_true rfl) rfl ((zput_par nd_0_1_2_3_4_5_6_7_8_9_10_11_12_13_14_15_16_17_18_19_20_21_22_23_24_25_26_27_28_29_30_31_32_33_34_35_36_37_38_39_40_41_42_43_44_45_46_47_48_49_50_51_52 rfl).trans rfl) (by omega) (by omega) (by omega) (by omega) ?_
    exact z_lend C Le (by omega) (by omega) dL_law_551
  | d + 1, e, h => by
    intro S o kp Q tx ln ps hG ho hk hln htx
    exact law_head M x0 h0 h1 w0 w1 t r e (by omega) (zRq.mono M C0 (by omega) (by omega)) (law_loop M C0 La Le hL x0 h0 h1 w0 w1 t r d (e + 1) (by omega)) La hL S o kp Q tx ln ps hG ho hk hln htx
/-- the new object's table -/
def S0 : zSt := (nI, 0, nI, 0, fun _ => 0, fun _ => 0, 0, true)
theorem RO_nI {n : Nat} (hn : n < 100000) : RO nI n := ⟨fun j hj => ⟨j, hj, rfl⟩, fun i j hi hj e => (nI_eq (by omega) (by omega)).mp e⟩
theorem RR_0 : RR S0 m0 0 := by
  have v : ∀ {P : Nat → Prop}, ∀ p, p < 0 → P p := fun p h => absurd h (Nat.not_lt_zero p)
  refine ⟨⟨⟨⟨Nat.zero_le _, Nat.zero_le _, Nat.zero_le _⟩, fun j hj => nI_pos (by omega), fun j hj => nI_pos (by omega)⟩, ⟨Nat.zero_le _, Nat.zero_le _, Nat.zero_le _, fun p => (by decide : (0 : Nat) < 12), fun p => (by decide : (0 : Nat) < 8), fun x h => absurd h (Nat.not_lt_zero x)⟩, ⟨fun p q h => absurd h (Nat.not_lt_zero p), fun p q h => absurd h (Nat.not_lt_zero p)⟩, ⟨fun p q h => absurd h (Nat.not_lt_zero p), fun p q h => absurd h (Nat.not_lt_zero p)⟩⟩, ⟨rfl, rfl, rfl, rfl⟩, fun x h => absurd h (Nat.not_lt_zero x), ⟨fun x h => absurd h (Nat.not_lt_zero x), fun x h => absurd h (Nat.not_lt_zero x)⟩, ⟨RO_nI (by decide), RO_nI (by decide)⟩, fun p q h => absurd h (Nat.not_lt_zero p), ⟨Nat.le_refl _, fun p h => absurd h (Nat.not_lt_zero p), fun p h => absurd h (Nat.not_lt_zero p), fun x h => absurd h (Nat.not_lt_zero x)⟩, fun x h => absurd h (Nat.not_lt_zero x), fun x y h => absurd h (Nat.not_lt_zero x)⟩
theorem GG_0 : GG S0 0 := ⟨⟨m0, RR_0⟩, fun x h => absurd h (Nat.not_lt_zero x), fun i _ => ⟨0, by decide, nI_0.symm⟩⟩
theorem ndL_0 : va_nd [0] = true := by decide +kernel
theorem ndL_e : va_nd [] = true := by decide +kernel
theorem law_w1 : Cond.classLink RL 10 RX5 ∈ wsL_law ∧ Cond.instantiable RX5 3 ∈ wsL_law ∧ Cond.initialized RX5 ∈ wsL_law ∧ Cond.methodLink RL 91 yX5_init ∈ wsL_law ∧ Cond.instanceMethod yX5_init ∈ wsL_law := ⟨by decide +kernel, by decide +kernel, by decide +kernel, by decide +kernel, by decide +kernel⟩
set_option maxHeartbeats 4000000 in
set_option maxRecDepth 100000 in
theorem law_start {X : zX} (C : zC X 0 0 code RL wsL_law 10) (M : zRq X) {b L : Nat} {xs : Nat → Int32} (La : zLa X b L xs) (Le : zLe X b) (hL : L ≤ 260) : zG X 0 0 [] [some (.ref b), none, none, none, none, none, none, none, none, none, none, none, none, none] [] 0 := by
  have C0 := C
  refine z_newL C (zRq.toM M) 5 tyX5 inlX5 tyX5_ok law_w1.1 law_w1.2.1 law_w1.2.2.1 rfl (fs := [.null, .null, .null]) (fun j hj => by rcases (show j = 0 ∨ j = 1 ∨ j = 2 by omega) with rfl | rfl | rfl <;> rfl) rfl rfl (k' := 1) (n' := 3) (by decide) (by decide) dL_law_0 (fun q0 => ?_)
  have C := zRq.mono M C0 (k' := 1) (n' := 3) (by decide) (by decide)
  refine z_dup C dL_law_3 rfl ?_
  refine z_callIL (wr := []) C (zRq.toM M) kX5_init rfl gL_law_X5_init law_w1.2.2.1 law_w1.2.2.2.1 law_w1.2.2.2.2 (mX5_init X.2.1 q0) dL_law_4 [0] [] [.ref q0] rfl rfl ndL_0 ndL_e (by decide) rfl (by decide) (Nat.le_of_ble_eq_true rfl) (by simp [Value.category]) rfl rfl rfl (k' := 53) (n' := 3001) (by decide) (by decide) (fun q => ?_)
  have C := zRq.mono M C0 (k' := 53) (n' := 3001) (by decide) (by decide)
  refine z_cv (ws' := WRd X.2.1 q0 (q 8) (q 9) (q 50) (q 51) q (fun i j => q (10 + 8 * i + j)) S0 0 0 (fun _ => S0) (fun _ => 0) 0 (0, 0, 0, 0, 0, 0)) rfl rfl rfl ?_
  refine z_astore_n C 1 dL_law_7 rfl (Nat.le_of_ble_eq_true rfl) ?_
  refine z_iconst C (nI 0) dL_law_8 (by decide) ?_
  refine z_istore_n C 2 dL_law_9 rfl (Nat.le_of_ble_eq_true rfl) ?_
  refine z_lv (lv' := [some (.ref b), some (.ref q0), some (.int (nI 0)), none, none, none, none, none, none, none, none, none, none, none]) rfl ?_
  refine z_wid (k' := 53 + 3 * 0) (n' := 3001 + 23 * 0) (by decide) (by decide) ?_
  exact law_loop M C0 La Le hL q0 (q 8) (q 9) (q 50) (q 51) q (fun i j => q (10 + 8 * i + j)) 40 0 rfl S0 0 0 (fun _ => S0) (fun _ => 0) 0 (0, 0, 0, 0, 0, 0) (GG_mono GG_0 (Nat.zero_le _)) (by decide) (by decide) (by decide) (fun _ => (by decide : (0 : Nat) < 65536))
