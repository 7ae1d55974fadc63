theorem kX6_readOrder : zY yX6_readOrder wsX6_readOrder cX6_readOrder 4 none 0 := ⟨⟨_, rfl⟩, ⟨by decide +kernel, by decide +kernel, by decide +kernel⟩, by decide +kernel⟩
theorem fX6_readOrder_172 : zF wsX6_readOrder RX6 172 6 8 RX6 TX6 10 := ⟨by decide +kernel, rfl, by decide, by decide +kernel, rfl⟩
theorem fX6_readOrder_164 : zF wsX6_readOrder RX6 164 6 7 RX6 TX6 10 := ⟨by decide +kernel, rfl, by decide, by decide +kernel, rfl⟩
theorem fX6_readOrder_23 : zF wsX6_readOrder RX6 23 6 9 RX6 TX6 10 := ⟨by decide +kernel, rfl, by decide, by decide +kernel, rfl⟩
theorem ftX6_8 : zFt 8 10 TX6 tyX6 false := ⟨tyX6_ok, nmX6, rfl⟩
set_option maxHeartbeats 4000000 in
set_option maxRecDepth 100000 in
theorem mX6_readOrder_rp (E : zE) (a : Nat → Nat) (kp ty pl : Nat) (od : Nat) (tx : Nat → Nat) (oo : Nat → Int32)  (hty : ty ≤ 60) (htx : ∀ j, tx j < 65536) (hpl : pl ≤ ty) (hod : od < 28) (h0 : zHe tx ty pl = 43) (h1 : zHe tx ty (pl + 1) = 114) : zM E yX6_readOrder wsX6_readOrder 2 [.ref (a 0)] [((a 0), .inr (6, [.ref (a 1), .ref (a 2), .ref (a 3), .int (nI kp), .int (nI ty), .ref (a 4), .int (nI pl), .int (zb true), .int (nI od), .ref (a 5)])), ((a 4), .inl (E.2.2.2.1, 60, .inl (fun j9 => nI (tx j9)))), ((a 5), .inl (E.2.2.1, 120, .inl oo))] [((a 0), .inr (6, [.ref (a 1), .ref (a 2), .ref (a 3), .int (nI kp), .int (nI ty), .ref (a 4), .int (nI ((zRn tx ty 2 ((pl + 1) + 1)).2)), .int (zb (zDg (zHe tx ty ((pl + 1) + 1)))), .int (nI (od + 1)), .ref (a 5)])), ((a 4), .inl (E.2.2.2.1, 60, .inl (fun j9 => nI (tx j9)))), ((a 5), .inl (E.2.2.1, 120, .inl (upd (upd oo (4 * od) (nI 0)) ((4 * od) + 1) (mNv tx ty 2 ((pl + 1) + 1)))))] none := by
  refine zM.of kX6_readOrder (Nat.le_of_ble_eq_true rfl) rfl [some (.ref (a 0)), none, none, none] rfl (Nat.le_of_ble_eq_true rfl) ?_
  intro X eX C N
  subst eX
  refine z_iconst C (nI 4) dX6_readOrder_0 (by decide) ?_
  refine z_aload_n C 0 dX6_readOrder_1 rfl rfl ?_
  refine z_get C fX6_readOrder_172 0 dX6_readOrder_2 rfl rfl ?_
  refine z_imul C dX6_readOrder_5 ?_
  refine z_top (y := nI (4 * od)) (pk_mul _ _) ?_
  refine z_istore_n C 1 dX6_readOrder_6 rfl (Nat.le_of_ble_eq_true rfl) ?_
  refine z_aload_n C 0 dX6_readOrder_7 rfl rfl ?_
  refine z_bipush C (nI 43) dX6_readOrder_8 (by decide) ?_
  refine z_callV (wn := [((a 0), .inr (6, [.ref (a 1), .ref (a 2), .ref (a 3), .int (nI kp), .int (nI ty), .ref (a 4), .int (nI (pl + 1)), .int (zb true), .int (nI od), .ref (a 5)])), ((a 4), .inl (X.2.1.2.2.2.1, 60, .inl (fun j9 => nI (tx j9)))), ((a 5), .inl (X.2.1.2.2.1, 120, .inl oo))]) C kX6_skips gX6_readOrder_X6_skips (mX6_skips_y X.2.1 a kp ty pl od tx 43 hty htx hpl (by first | assumption | omega) (by first | assumption | omega) h0) dX6_readOrder_10 [0, 1] [] 0 rfl rfl nd_0_1 rfl rfl rfl (by decide) (by decide) (Nat.le_of_ble_eq_true rfl) rfl rfl ?_
  have hg_1 : pl + 1 ≤ ty := zHe_lt tx (by omega)
  refine z_istore_n C 2 dX6_readOrder_13 rfl (Nat.le_of_ble_eq_true rfl) ?_
  refine z_iload_n C 2 dX6_readOrder_14 rfl rfl ?_
  refine z_bif_ne_t C 27 dX6_readOrder_15 (by decide) rfl ?_
  refine z_aload_n C 0 dX6_readOrder_27 rfl rfl ?_
  refine z_bipush C (nI 114) dX6_readOrder_28 (by decide) ?_
  refine z_callV (wn := [((a 0), .inr (6, [.ref (a 1), .ref (a 2), .ref (a 3), .int (nI kp), .int (nI ty), .ref (a 4), .int (nI ((pl + 1) + 1)), .int (zb true), .int (nI od), .ref (a 5)])), ((a 4), .inl (X.2.1.2.2.2.1, 60, .inl (fun j9 => nI (tx j9)))), ((a 5), .inl (X.2.1.2.2.1, 120, .inl oo))]) C kX6_skips gX6_readOrder_X6_skips (mX6_skips_y X.2.1 a kp ty (pl + 1) od tx 114 hty htx hg_1 (by first | assumption | omega) (by first | assumption | omega) h1) dX6_readOrder_30 [0, 1] [] 0 rfl rfl nd_0_1 rfl rfl rfl (by decide) (by decide) (Nat.le_of_ble_eq_true rfl) rfl rfl ?_
  have hg_2 : (pl + 1) + 1 ≤ ty := zHe_lt tx (by omega)
  refine z_istore_n C 3 dX6_readOrder_33 rfl (Nat.le_of_ble_eq_true rfl) ?_
  refine z_aload_n C 0 dX6_readOrder_34 rfl rfl ?_
  refine z_iload_n C 3 dX6_readOrder_35 rfl rfl ?_
  refine z_bif_ne_t C 48 dX6_readOrder_36 (by decide) rfl ?_
  refine z_iconst C (nI 1) dX6_readOrder_48 (by decide) ?_
  refine z_goto C 53 dX6_readOrder_49 (by decide) ?_
  refine z_put C fX6_readOrder_164 ftX6_7 0 dX6_readOrder_53 rfl rfl rfl (Nat.le_of_ble_eq_true rfl) ?_
  refine z_aload_n C 0 dX6_readOrder_56 rfl rfl ?_
  refine z_get C fX6_readOrder_23 0 dX6_readOrder_57 rfl rfl ?_
  refine z_iload_n C 1 dX6_readOrder_60 rfl rfl ?_
  refine z_iload_n C 2 dX6_readOrder_61 rfl rfl ?_
  refine z_bif_eq_f C 69 dX6_readOrder_62 (by decide) rfl ?_
  refine z_iconst C (nI 0) dX6_readOrder_65 (by decide) ?_
  refine z_goto C 70 dX6_readOrder_66 (by decide) ?_
  refine z_iload_n C 3 dX6_readOrder_70 rfl rfl ?_
  refine z_bif_eq_f C 78 dX6_readOrder_71 (by decide) rfl ?_
  refine z_iconst C (nI 0) dX6_readOrder_74 (by decide) ?_
  refine z_goto C 79 dX6_readOrder_75 (by decide) ?_
  refine z_iadd C dX6_readOrder_79 ?_
  refine z_top (y := nI 0) (nI_add _ _) ?_
  refine z_iastN C 2 dX6_readOrder_80 rfl (by omega) (by decide) ?_
  refine z_aload_n C 0 dX6_readOrder_81 rfl rfl ?_
  refine z_get C fX6_readOrder_23 0 dX6_readOrder_82 rfl rfl ?_
  refine z_iload_n C 1 dX6_readOrder_85 rfl rfl ?_
  refine z_iconst C (nI 1) dX6_readOrder_86 (by decide) ?_
  refine z_iadd C dX6_readOrder_87 ?_
  refine z_top (y := nI ((4 * od) + 1)) (nI_add _ _) ?_
  refine z_aload_n C 0 dX6_readOrder_88 rfl rfl ?_
  refine z_iconst C (nI 2) dX6_readOrder_89 (by decide) ?_
  refine z_callV (wn := [((a 0), .inr (6, [.ref (a 1), .ref (a 2), .ref (a 3), .int (nI kp), .int (nI ty), .ref (a 4), .int (nI ((zRn tx ty 2 ((pl + 1) + 1)).2)), .int (zb (zDg (zHe tx ty ((pl + 1) + 1)))), .int (nI od), .ref (a 5)])), ((a 4), .inl (X.2.1.2.2.2.1, 60, .inl (fun j9 => nI (tx j9)))), ((a 5), .inl (X.2.1.2.2.1, 120, .inl (upd oo (4 * od) (nI 0))))]) C kX6_number gX6_readOrder_X6_number (mX6_number_u2 X.2.1 a kp ty ((pl + 1) + 1) od tx hty htx hg_2) dX6_readOrder_90 [0, 1] [.int (nI ((4 * od) + 1)), .ref (a 5)] 0 rfl rfl nd_0_1 rfl rfl rfl (by decide) (by decide) (Nat.le_of_ble_eq_true rfl) rfl rfl ?_
  have hg_3 : (zRn tx ty 2 ((pl + 1) + 1)).2 ≤ ty := zRn_le (by omega)
  refine z_iastN C 2 dX6_readOrder_93 rfl (by omega) (by decide) ?_
  refine z_goto C 163 dX6_readOrder_94 (by decide) ?_
  refine z_aload_n C 0 dX6_readOrder_163 rfl rfl ?_
  refine z_dup C dX6_readOrder_164 rfl ?_
  refine z_get C fX6_readOrder_172 0 dX6_readOrder_165 rfl rfl ?_
  refine z_iconst C (nI 1) dX6_readOrder_168 (by decide) ?_
  refine z_iadd C dX6_readOrder_169 ?_
  refine z_top (y := nI (od + 1)) (nI_add _ _) ?_
  refine z_put C fX6_readOrder_172 ftX6_8 0 dX6_readOrder_170 rfl rfl rfl (Nat.le_of_ble_eq_true rfl) ?_
  exact z_vret C N dX6_readOrder_173 (rfl)

set_option maxHeartbeats 4000000 in
set_option maxRecDepth 100000 in
theorem mX6_readOrder_cp (E : zE) (a : Nat → Nat) (kp ty pl : Nat) (od : Nat) (tx : Nat → Nat) (oo : Nat → Int32)  (hty : ty ≤ 60) (htx : ∀ j, tx j < 65536) (hpl : pl ≤ ty) (hod : od < 28) (h0 : zHe tx ty pl = 43) (h1 : zHe tx ty (pl + 1) = 99) : zM E yX6_readOrder wsX6_readOrder 2 [.ref (a 0)] [((a 0), .inr (6, [.ref (a 1), .ref (a 2), .ref (a 3), .int (nI kp), .int (nI ty), .ref (a 4), .int (nI pl), .int (zb true), .int (nI od), .ref (a 5)])), ((a 4), .inl (E.2.2.2.1, 60, .inl (fun j9 => nI (tx j9)))), ((a 5), .inl (E.2.2.1, 120, .inl oo))] [((a 0), .inr (6, [.ref (a 1), .ref (a 2), .ref (a 3), .int (nI kp), .int (nI ty), .ref (a 4), .int (nI ((zRn tx ty 2 ((pl + 1) + 1)).2)), .int (zb (zDg (zHe tx ty ((pl + 1) + 1)))), .int (nI (od + 1)), .ref (a 5)])), ((a 4), .inl (E.2.2.2.1, 60, .inl (fun j9 => nI (tx j9)))), ((a 5), .inl (E.2.2.1, 120, .inl (upd (upd oo (4 * od) (nI 1)) ((4 * od) + 1) (mNv tx ty 2 ((pl + 1) + 1)))))] none := by
  refine zM.of kX6_readOrder (Nat.le_of_ble_eq_true rfl) rfl [some (.ref (a 0)), none, none, none] rfl (Nat.le_of_ble_eq_true rfl) ?_
  intro X eX C N
  subst eX
  refine z_iconst C (nI 4) dX6_readOrder_0 (by decide) ?_
  refine z_aload_n C 0 dX6_readOrder_1 rfl rfl ?_
  refine z_get C fX6_readOrder_172 0 dX6_readOrder_2 rfl rfl ?_
  refine z_imul C dX6_readOrder_5 ?_
  refine z_top (y := nI (4 * od)) (pk_mul _ _) ?_
  refine z_istore_n C 1 dX6_readOrder_6 rfl (Nat.le_of_ble_eq_true rfl) ?_
  refine z_aload_n C 0 dX6_readOrder_7 rfl rfl ?_
  refine z_bipush C (nI 43) dX6_readOrder_8 (by decide) ?_
  refine z_callV (wn := [((a 0), .inr (6, [.ref (a 1), .ref (a 2), .ref (a 3), .int (nI kp), .int (nI ty), .ref (a 4), .int (nI (pl + 1)), .int (zb true), .int (nI od), .ref (a 5)])), ((a 4), .inl (X.2.1.2.2.2.1, 60, .inl (fun j9 => nI (tx j9)))), ((a 5), .inl (X.2.1.2.2.1, 120, .inl oo))]) C kX6_skips gX6_readOrder_X6_skips (mX6_skips_y X.2.1 a kp ty pl od tx 43 hty htx hpl (by first | assumption | omega) (by first | assumption | omega) h0) dX6_readOrder_10 [0, 1] [] 0 rfl rfl nd_0_1 rfl rfl rfl (by decide) (by decide) (Nat.le_of_ble_eq_true rfl) rfl rfl ?_
  have hg_1 : pl + 1 ≤ ty := zHe_lt tx (by omega)
  refine z_istore_n C 2 dX6_readOrder_13 rfl (Nat.le_of_ble_eq_true rfl) ?_
  refine z_iload_n C 2 dX6_readOrder_14 rfl rfl ?_
  refine z_bif_ne_t C 27 dX6_readOrder_15 (by decide) rfl ?_
  refine z_aload_n C 0 dX6_readOrder_27 rfl rfl ?_
  refine z_bipush C (nI 114) dX6_readOrder_28 (by decide) ?_
  refine z_callVr C kX6_skips gX6_readOrder_X6_skips (mX6_skips_n X.2.1 a kp ty (pl + 1) od tx 114 hty htx hg_1 (by first | assumption | omega) (by first | assumption | omega) (by first | assumption | omega)) dX6_readOrder_30 [0, 1] [] 0 rfl nd_0_1 rfl rfl rfl (by decide) (by decide) (Nat.le_of_ble_eq_true rfl) rfl ?_
  refine z_istore_n C 3 dX6_readOrder_33 rfl (Nat.le_of_ble_eq_true rfl) ?_
  refine z_aload_n C 0 dX6_readOrder_34 rfl rfl ?_
  refine z_iload_n C 3 dX6_readOrder_35 rfl rfl ?_
  refine z_bif_ne_f C 48 dX6_readOrder_36 (by decide) rfl ?_
  refine z_aload_n C 0 dX6_readOrder_39 rfl rfl ?_
  refine z_bipush C (nI 99) dX6_readOrder_40 (by decide) ?_
  refine z_callV (wn := [((a 0), .inr (6, [.ref (a 1), .ref (a 2), .ref (a 3), .int (nI kp), .int (nI ty), .ref (a 4), .int (nI ((pl + 1) + 1)), .int (zb true), .int (nI od), .ref (a 5)])), ((a 4), .inl (X.2.1.2.2.2.1, 60, .inl (fun j9 => nI (tx j9)))), ((a 5), .inl (X.2.1.2.2.1, 120, .inl oo))]) C kX6_skips gX6_readOrder_X6_skips (mX6_skips_y X.2.1 a kp ty (pl + 1) od tx 99 hty htx hg_1 (by first | assumption | omega) (by first | assumption | omega) h1) dX6_readOrder_42 [0, 1] [.ref (a 0)] 0 rfl rfl nd_0_1 rfl rfl rfl (by decide) (by decide) (Nat.le_of_ble_eq_true rfl) rfl rfl ?_
  have hg_2 : (pl + 1) + 1 ≤ ty := zHe_lt tx (by omega)
  refine z_bif_eq_f C 52 dX6_readOrder_45 (by decide) rfl ?_
  refine z_iconst C (nI 1) dX6_readOrder_48 (by decide) ?_
  refine z_goto C 53 dX6_readOrder_49 (by decide) ?_
  refine z_put C fX6_readOrder_164 ftX6_7 0 dX6_readOrder_53 rfl rfl rfl (Nat.le_of_ble_eq_true rfl) ?_
  refine z_aload_n C 0 dX6_readOrder_56 rfl rfl ?_
  refine z_get C fX6_readOrder_23 0 dX6_readOrder_57 rfl rfl ?_
  refine z_iload_n C 1 dX6_readOrder_60 rfl rfl ?_
  refine z_iload_n C 2 dX6_readOrder_61 rfl rfl ?_
  refine z_bif_eq_f C 69 dX6_readOrder_62 (by decide) rfl ?_
  refine z_iconst C (nI 0) dX6_readOrder_65 (by decide) ?_
  refine z_goto C 70 dX6_readOrder_66 (by decide) ?_
  refine z_iload_n C 3 dX6_readOrder_70 rfl rfl ?_
  refine z_bif_eq_t C 78 dX6_readOrder_71 (by decide) rfl ?_
  refine z_iconst C (nI 1) dX6_readOrder_78 (by decide) ?_
  refine z_iadd C dX6_readOrder_79 ?_
  refine z_top (y := nI 1) (nI_add _ _) ?_
  refine z_iastN C 2 dX6_readOrder_80 rfl (by omega) (by decide) ?_
  refine z_aload_n C 0 dX6_readOrder_81 rfl rfl ?_
  refine z_get C fX6_readOrder_23 0 dX6_readOrder_82 rfl rfl ?_
  refine z_iload_n C 1 dX6_readOrder_85 rfl rfl ?_
  refine z_iconst C (nI 1) dX6_readOrder_86 (by decide) ?_
  refine z_iadd C dX6_readOrder_87 ?_
  refine z_top (y := nI ((4 * od) + 1)) (nI_add _ _) ?_
  refine z_aload_n C 0 dX6_readOrder_88 rfl rfl ?_
  refine z_iconst C (nI 2) dX6_readOrder_89 (by decide) ?_
  refine z_callV (wn := [((a 0), .inr (6, [.ref (a 1), .ref (a 2), .ref (a 3), .int (nI kp), .int (nI ty), .ref (a 4), .int (nI ((zRn tx ty 2 ((pl + 1) + 1)).2)), .int (zb (zDg (zHe tx ty ((pl + 1) + 1)))), .int (nI od), .ref (a 5)])), ((a 4), .inl (X.2.1.2.2.2.1, 60, .inl (fun j9 => nI (tx j9)))), ((a 5), .inl (X.2.1.2.2.1, 120, .inl (upd oo (4 * od) (nI 1))))]) C kX6_number gX6_readOrder_X6_number (mX6_number_u2 X.2.1 a kp ty ((pl + 1) + 1) od tx hty htx hg_2) dX6_readOrder_90 [0, 1] [.int (nI ((4 * od) + 1)), .ref (a 5)] 0 rfl rfl nd_0_1 rfl rfl rfl (by decide) (by decide) (Nat.le_of_ble_eq_true rfl) rfl rfl ?_
  have hg_3 : (zRn tx ty 2 ((pl + 1) + 1)).2 ≤ ty := zRn_le (by omega)
  refine z_iastN C 2 dX6_readOrder_93 rfl (by omega) (by decide) ?_
  refine z_goto C 163 dX6_readOrder_94 (by decide) ?_
  refine z_aload_n C 0 dX6_readOrder_163 rfl rfl ?_
  refine z_dup C dX6_readOrder_164 rfl ?_
  refine z_get C fX6_readOrder_172 0 dX6_readOrder_165 rfl rfl ?_
  refine z_iconst C (nI 1) dX6_readOrder_168 (by decide) ?_
  refine z_iadd C dX6_readOrder_169 ?_
  refine z_top (y := nI (od + 1)) (nI_add _ _) ?_
  refine z_put C fX6_readOrder_172 ftX6_8 0 dX6_readOrder_170 rfl rfl rfl (Nat.le_of_ble_eq_true rfl) ?_
  exact z_vret C N dX6_readOrder_173 (rfl)

set_option maxHeartbeats 4000000 in
set_option maxRecDepth 100000 in
theorem mX6_readOrder_np (E : zE) (a : Nat → Nat) (kp ty pl : Nat) (od : Nat) (tx : Nat → Nat) (oo : Nat → Int32)  (hty : ty ≤ 60) (htx : ∀ j, tx j < 65536) (hpl : pl ≤ ty) (hod : od < 28) (h0 : zHe tx ty pl = 43) (h1 : zHe tx ty (pl + 1) ≠ 114) (h2 : zHe tx ty (pl + 1) ≠ 99) : zM E yX6_readOrder wsX6_readOrder 2 [.ref (a 0)] [((a 0), .inr (6, [.ref (a 1), .ref (a 2), .ref (a 3), .int (nI kp), .int (nI ty), .ref (a 4), .int (nI pl), .int (zb true), .int (nI od), .ref (a 5)])), ((a 4), .inl (E.2.2.2.1, 60, .inl (fun j9 => nI (tx j9)))), ((a 5), .inl (E.2.2.1, 120, .inl oo))] [((a 0), .inr (6, [.ref (a 1), .ref (a 2), .ref (a 3), .int (nI kp), .int (nI ty), .ref (a 4), .int (nI (pl + 1)), .int (zb false), .int (nI (od + 1)), .ref (a 5)])), ((a 4), .inl (E.2.2.2.1, 60, .inl (fun j9 => nI (tx j9)))), ((a 5), .inl (E.2.2.1, 120, .inl (upd (upd oo (4 * od) (nI 1)) ((4 * od) + 1) (nI 0))))] none := by
  refine zM.of kX6_readOrder (Nat.le_of_ble_eq_true rfl) rfl [some (.ref (a 0)), none, none, none] rfl (Nat.le_of_ble_eq_true rfl) ?_
  intro X eX C N
  subst eX
  refine z_iconst C (nI 4) dX6_readOrder_0 (by decide) ?_
  refine z_aload_n C 0 dX6_readOrder_1 rfl rfl ?_
  refine z_get C fX6_readOrder_172 0 dX6_readOrder_2 rfl rfl ?_
  refine z_imul C dX6_readOrder_5 ?_
  refine z_top (y := nI (4 * od)) (pk_mul _ _) ?_
  refine z_istore_n C 1 dX6_readOrder_6 rfl (Nat.le_of_ble_eq_true rfl) ?_
  refine z_aload_n C 0 dX6_readOrder_7 rfl rfl ?_
  refine z_bipush C (nI 43) dX6_readOrder_8 (by decide) ?_
  refine z_callV (wn := [((a 0), .inr (6, [.ref (a 1), .ref (a 2), .ref (a 3), .int (nI kp), .int (nI ty), .ref (a 4), .int (nI (pl + 1)), .int (zb true), .int (nI od), .ref (a 5)])), ((a 4), .inl (X.2.1.2.2.2.1, 60, .inl (fun j9 => nI (tx j9)))), ((a 5), .inl (X.2.1.2.2.1, 120, .inl oo))]) C kX6_skips gX6_readOrder_X6_skips (mX6_skips_y X.2.1 a kp ty pl od tx 43 hty htx hpl (by first | assumption | omega) (by first | assumption | omega) h0) dX6_readOrder_10 [0, 1] [] 0 rfl rfl nd_0_1 rfl rfl rfl (by decide) (by decide) (Nat.le_of_ble_eq_true rfl) rfl rfl ?_
  have hg_1 : pl + 1 ≤ ty := zHe_lt tx (by omega)
  refine z_istore_n C 2 dX6_readOrder_13 rfl (Nat.le_of_ble_eq_true rfl) ?_
  refine z_iload_n C 2 dX6_readOrder_14 rfl rfl ?_
  refine z_bif_ne_t C 27 dX6_readOrder_15 (by decide) rfl ?_
  refine z_aload_n C 0 dX6_readOrder_27 rfl rfl ?_
  refine z_bipush C (nI 114) dX6_readOrder_28 (by decide) ?_
  refine z_callVr C kX6_skips gX6_readOrder_X6_skips (mX6_skips_n X.2.1 a kp ty (pl + 1) od tx 114 hty htx hg_1 (by first | assumption | omega) (by first | assumption | omega) h1) dX6_readOrder_30 [0, 1] [] 0 rfl nd_0_1 rfl rfl rfl (by decide) (by decide) (Nat.le_of_ble_eq_true rfl) rfl ?_
  refine z_istore_n C 3 dX6_readOrder_33 rfl (Nat.le_of_ble_eq_true rfl) ?_
  refine z_aload_n C 0 dX6_readOrder_34 rfl rfl ?_
  refine z_iload_n C 3 dX6_readOrder_35 rfl rfl ?_
  refine z_bif_ne_f C 48 dX6_readOrder_36 (by decide) rfl ?_
  refine z_aload_n C 0 dX6_readOrder_39 rfl rfl ?_
  refine z_bipush C (nI 99) dX6_readOrder_40 (by decide) ?_
  refine z_callVr C kX6_skips gX6_readOrder_X6_skips (mX6_skips_n X.2.1 a kp ty (pl + 1) od tx 99 hty htx hg_1 (by first | assumption | omega) (by first | assumption | omega) h2) dX6_readOrder_42 [0, 1] [.ref (a 0)] 0 rfl nd_0_1 rfl rfl rfl (by decide) (by decide) (Nat.le_of_ble_eq_true rfl) rfl ?_
  refine z_bif_eq_t C 52 dX6_readOrder_45 (by decide) rfl ?_
  refine z_iconst C (nI 0) dX6_readOrder_52 (by decide) ?_
  refine z_put C fX6_readOrder_164 ftX6_7 0 dX6_readOrder_53 rfl rfl rfl (Nat.le_of_ble_eq_true rfl) ?_
  refine z_aload_n C 0 dX6_readOrder_56 rfl rfl ?_
  refine z_get C fX6_readOrder_23 0 dX6_readOrder_57 rfl rfl ?_
  refine z_iload_n C 1 dX6_readOrder_60 rfl rfl ?_
  refine z_iload_n C 2 dX6_readOrder_61 rfl rfl ?_
  refine z_bif_eq_f C 69 dX6_readOrder_62 (by decide) rfl ?_
  refine z_iconst C (nI 0) dX6_readOrder_65 (by decide) ?_
  refine z_goto C 70 dX6_readOrder_66 (by decide) ?_
  refine z_iload_n C 3 dX6_readOrder_70 rfl rfl ?_
  refine z_bif_eq_t C 78 dX6_readOrder_71 (by decide) rfl ?_
  refine z_iconst C (nI 1) dX6_readOrder_78 (by decide) ?_
  refine z_iadd C dX6_readOrder_79 ?_
  refine z_top (y := nI 1) (nI_add _ _) ?_
  refine z_iastN C 2 dX6_readOrder_80 rfl (by omega) (by decide) ?_
  refine z_aload_n C 0 dX6_readOrder_81 rfl rfl ?_
  refine z_get C fX6_readOrder_23 0 dX6_readOrder_82 rfl rfl ?_
  refine z_iload_n C 1 dX6_readOrder_85 rfl rfl ?_
  refine z_iconst C (nI 1) dX6_readOrder_86 (by decide) ?_
  refine z_iadd C dX6_readOrder_87 ?_
  refine z_top (y := nI ((4 * od) + 1)) (nI_add _ _) ?_
  refine z_aload_n C 0 dX6_readOrder_88 rfl rfl ?_
  refine z_iconst C (nI 2) dX6_readOrder_89 (by decide) ?_
  refine z_callVr C kX6_number gX6_readOrder_X6_number (mX6_number_g2 X.2.1 a kp ty (pl + 1) od tx hty htx hg_1) dX6_readOrder_90 [0, 1] [.int (nI ((4 * od) + 1)), .ref (a 5)] 0 rfl nd_0_1 rfl rfl rfl (by decide) (by decide) (Nat.le_of_ble_eq_true rfl) rfl ?_
  refine z_iastN C 2 dX6_readOrder_93 rfl (by omega) (by decide) ?_
  refine z_goto C 163 dX6_readOrder_94 (by decide) ?_
  refine z_aload_n C 0 dX6_readOrder_163 rfl rfl ?_
  refine z_dup C dX6_readOrder_164 rfl ?_
  refine z_get C fX6_readOrder_172 0 dX6_readOrder_165 rfl rfl ?_
  refine z_iconst C (nI 1) dX6_readOrder_168 (by decide) ?_
  refine z_iadd C dX6_readOrder_169 ?_
  refine z_top (y := nI (od + 1)) (nI_add _ _) ?_
  refine z_put C fX6_readOrder_172 ftX6_8 0 dX6_readOrder_170 rfl rfl rfl (Nat.le_of_ble_eq_true rfl) ?_
  exact z_vret C N dX6_readOrder_173 (rfl)

set_option maxHeartbeats 4000000 in
set_option maxRecDepth 100000 in
theorem mX6_readOrder_rm (E : zE) (a : Nat → Nat) (kp ty pl : Nat) (od : Nat) (tx : Nat → Nat) (oo : Nat → Int32)  (hty : ty ≤ 60) (htx : ∀ j, tx j < 65536) (hpl : pl ≤ ty) (hod : od < 28) (h0 : zHe tx ty pl = 45) (h1 : zHe tx ty (pl + 1) = 114) : zM E yX6_readOrder wsX6_readOrder 2 [.ref (a 0)] [((a 0), .inr (6, [.ref (a 1), .ref (a 2), .ref (a 3), .int (nI kp), .int (nI ty), .ref (a 4), .int (nI pl), .int (zb true), .int (nI od), .ref (a 5)])), ((a 4), .inl (E.2.2.2.1, 60, .inl (fun j9 => nI (tx j9)))), ((a 5), .inl (E.2.2.1, 120, .inl oo))] [((a 0), .inr (6, [.ref (a 1), .ref (a 2), .ref (a 3), .int (nI kp), .int (nI ty), .ref (a 4), .int (nI ((zRn tx ty 2 ((pl + 1) + 1)).2)), .int (zb (zDg (zHe tx ty ((pl + 1) + 1)))), .int (nI (od + 1)), .ref (a 5)])), ((a 4), .inl (E.2.2.2.1, 60, .inl (fun j9 => nI (tx j9)))), ((a 5), .inl (E.2.2.1, 120, .inl (upd (upd oo (4 * od) (nI 2)) ((4 * od) + 1) (mNv tx ty 2 ((pl + 1) + 1)))))] none := by
  refine zM.of kX6_readOrder (Nat.le_of_ble_eq_true rfl) rfl [some (.ref (a 0)), none, none, none] rfl (Nat.le_of_ble_eq_true rfl) ?_
  intro X eX C N
  subst eX
  refine z_iconst C (nI 4) dX6_readOrder_0 (by decide) ?_
  refine z_aload_n C 0 dX6_readOrder_1 rfl rfl ?_
  refine z_get C fX6_readOrder_172 0 dX6_readOrder_2 rfl rfl ?_
  refine z_imul C dX6_readOrder_5 ?_
  refine z_top (y := nI (4 * od)) (pk_mul _ _) ?_
  refine z_istore_n C 1 dX6_readOrder_6 rfl (Nat.le_of_ble_eq_true rfl) ?_
  refine z_aload_n C 0 dX6_readOrder_7 rfl rfl ?_
  refine z_bipush C (nI 43) dX6_readOrder_8 (by decide) ?_
  refine z_callVr C kX6_skips gX6_readOrder_X6_skips (mX6_skips_n X.2.1 a kp ty pl od tx 43 hty htx hpl (by first | assumption | omega) (by first | assumption | omega) (by first | assumption | omega)) dX6_readOrder_10 [0, 1] [] 0 rfl nd_0_1 rfl rfl rfl (by decide) (by decide) (Nat.le_of_ble_eq_true rfl) rfl ?_
  refine z_istore_n C 2 dX6_readOrder_13 rfl (Nat.le_of_ble_eq_true rfl) ?_
  refine z_iload_n C 2 dX6_readOrder_14 rfl rfl ?_
  refine z_bif_ne_f C 27 dX6_readOrder_15 (by decide) rfl ?_
  refine z_aload_n C 0 dX6_readOrder_18 rfl rfl ?_
  refine z_bipush C (nI 45) dX6_readOrder_19 (by decide) ?_
  refine z_callV (wn := [((a 0), .inr (6, [.ref (a 1), .ref (a 2), .ref (a 3), .int (nI kp), .int (nI ty), .ref (a 4), .int (nI (pl + 1)), .int (zb true), .int (nI od), .ref (a 5)])), ((a 4), .inl (X.2.1.2.2.2.1, 60, .inl (fun j9 => nI (tx j9)))), ((a 5), .inl (X.2.1.2.2.1, 120, .inl oo))]) C kX6_skips gX6_readOrder_X6_skips (mX6_skips_y X.2.1 a kp ty pl od tx 45 hty htx hpl (by first | assumption | omega) (by first | assumption | omega) h0) dX6_readOrder_21 [0, 1] [] 0 rfl rfl nd_0_1 rfl rfl rfl (by decide) (by decide) (Nat.le_of_ble_eq_true rfl) rfl rfl ?_
  have hg_1 : pl + 1 ≤ ty := zHe_lt tx (by omega)
  refine z_bif_eq_f C 97 dX6_readOrder_24 (by decide) rfl ?_
  refine z_aload_n C 0 dX6_readOrder_27 rfl rfl ?_
  refine z_bipush C (nI 114) dX6_readOrder_28 (by decide) ?_
  refine z_callV (wn := [((a 0), .inr (6, [.ref (a 1), .ref (a 2), .ref (a 3), .int (nI kp), .int (nI ty), .ref (a 4), .int (nI ((pl + 1) + 1)), .int (zb true), .int (nI od), .ref (a 5)])), ((a 4), .inl (X.2.1.2.2.2.1, 60, .inl (fun j9 => nI (tx j9)))), ((a 5), .inl (X.2.1.2.2.1, 120, .inl oo))]) C kX6_skips gX6_readOrder_X6_skips (mX6_skips_y X.2.1 a kp ty (pl + 1) od tx 114 hty htx hg_1 (by first | assumption | omega) (by first | assumption | omega) h1) dX6_readOrder_30 [0, 1] [] 0 rfl rfl nd_0_1 rfl rfl rfl (by decide) (by decide) (Nat.le_of_ble_eq_true rfl) rfl rfl ?_
  have hg_2 : (pl + 1) + 1 ≤ ty := zHe_lt tx (by omega)
  refine z_istore_n C 3 dX6_readOrder_33 rfl (Nat.le_of_ble_eq_true rfl) ?_
  refine z_aload_n C 0 dX6_readOrder_34 rfl rfl ?_
  refine z_iload_n C 3 dX6_readOrder_35 rfl rfl ?_
  refine z_bif_ne_t C 48 dX6_readOrder_36 (by decide) rfl ?_
  refine z_iconst C (nI 1) dX6_readOrder_48 (by decide) ?_
  refine z_goto C 53 dX6_readOrder_49 (by decide) ?_
  refine z_put C fX6_readOrder_164 ftX6_7 0 dX6_readOrder_53 rfl rfl rfl (Nat.le_of_ble_eq_true rfl) ?_
  refine z_aload_n C 0 dX6_readOrder_56 rfl rfl ?_
  refine z_get C fX6_readOrder_23 0 dX6_readOrder_57 rfl rfl ?_
  refine z_iload_n C 1 dX6_readOrder_60 rfl rfl ?_
  refine z_iload_n C 2 dX6_readOrder_61 rfl rfl ?_
  refine z_bif_eq_t C 69 dX6_readOrder_62 (by decide) rfl ?_
  refine z_iconst C (nI 2) dX6_readOrder_69 (by decide) ?_
  refine z_iload_n C 3 dX6_readOrder_70 rfl rfl ?_
  refine z_bif_eq_f C 78 dX6_readOrder_71 (by decide) rfl ?_
  refine z_iconst C (nI 0) dX6_readOrder_74 (by decide) ?_
  refine z_goto C 79 dX6_readOrder_75 (by decide) ?_
  refine z_iadd C dX6_readOrder_79 ?_
  refine z_top (y := nI 2) (nI_add _ _) ?_
  refine z_iastN C 2 dX6_readOrder_80 rfl (by omega) (by decide) ?_
  refine z_aload_n C 0 dX6_readOrder_81 rfl rfl ?_
  refine z_get C fX6_readOrder_23 0 dX6_readOrder_82 rfl rfl ?_
  refine z_iload_n C 1 dX6_readOrder_85 rfl rfl ?_
  refine z_iconst C (nI 1) dX6_readOrder_86 (by decide) ?_
  refine z_iadd C dX6_readOrder_87 ?_
  refine z_top (y := nI ((4 * od) + 1)) (nI_add _ _) ?_
  refine z_aload_n C 0 dX6_readOrder_88 rfl rfl ?_
  refine z_iconst C (nI 2) dX6_readOrder_89 (by decide) ?_
  refine z_callV (wn := [((a 0), .inr (6, [.ref (a 1), .ref (a 2), .ref (a 3), .int (nI kp), .int (nI ty), .ref (a 4), .int (nI ((zRn tx ty 2 ((pl + 1) + 1)).2)), .int (zb (zDg (zHe tx ty ((pl + 1) + 1)))), .int (nI od), .ref (a 5)])), ((a 4), .inl (X.2.1.2.2.2.1, 60, .inl (fun j9 => nI (tx j9)))), ((a 5), .inl (X.2.1.2.2.1, 120, .inl (upd oo (4 * od) (nI 2))))]) C kX6_number gX6_readOrder_X6_number (mX6_number_u2 X.2.1 a kp ty ((pl + 1) + 1) od tx hty htx hg_2) dX6_readOrder_90 [0, 1] [.int (nI ((4 * od) + 1)), .ref (a 5)] 0 rfl rfl nd_0_1 rfl rfl rfl (by decide) (by decide) (Nat.le_of_ble_eq_true rfl) rfl rfl ?_
  have hg_3 : (zRn tx ty 2 ((pl + 1) + 1)).2 ≤ ty := zRn_le (by omega)
  refine z_iastN C 2 dX6_readOrder_93 rfl (by omega) (by decide) ?_
  refine z_goto C 163 dX6_readOrder_94 (by decide) ?_
  refine z_aload_n C 0 dX6_readOrder_163 rfl rfl ?_
  refine z_dup C dX6_readOrder_164 rfl ?_
  refine z_get C fX6_readOrder_172 0 dX6_readOrder_165 rfl rfl ?_
  refine z_iconst C (nI 1) dX6_readOrder_168 (by decide) ?_
  refine z_iadd C dX6_readOrder_169 ?_
  refine z_top (y := nI (od + 1)) (nI_add _ _) ?_
  refine z_put C fX6_readOrder_172 ftX6_8 0 dX6_readOrder_170 rfl rfl rfl (Nat.le_of_ble_eq_true rfl) ?_
  exact z_vret C N dX6_readOrder_173 (rfl)

set_option maxHeartbeats 4000000 in
set_option maxRecDepth 100000 in
theorem mX6_readOrder_cm (E : zE) (a : Nat → Nat) (kp ty pl : Nat) (od : Nat) (tx : Nat → Nat) (oo : Nat → Int32)  (hty : ty ≤ 60) (htx : ∀ j, tx j < 65536) (hpl : pl ≤ ty) (hod : od < 28) (h0 : zHe tx ty pl = 45) (h1 : zHe tx ty (pl + 1) = 99) : zM E yX6_readOrder wsX6_readOrder 2 [.ref (a 0)] [((a 0), .inr (6, [.ref (a 1), .ref (a 2), .ref (a 3), .int (nI kp), .int (nI ty), .ref (a 4), .int (nI pl), .int (zb true), .int (nI od), .ref (a 5)])), ((a 4), .inl (E.2.2.2.1, 60, .inl (fun j9 => nI (tx j9)))), ((a 5), .inl (E.2.2.1, 120, .inl oo))] [((a 0), .inr (6, [.ref (a 1), .ref (a 2), .ref (a 3), .int (nI kp), .int (nI ty), .ref (a 4), .int (nI ((zRn tx ty 2 ((pl + 1) + 1)).2)), .int (zb (zDg (zHe tx ty ((pl + 1) + 1)))), .int (nI (od + 1)), .ref (a 5)])), ((a 4), .inl (E.2.2.2.1, 60, .inl (fun j9 => nI (tx j9)))), ((a 5), .inl (E.2.2.1, 120, .inl (upd (upd oo (4 * od) (nI 3)) ((4 * od) + 1) (mNv tx ty 2 ((pl + 1) + 1)))))] none := by
  refine zM.of kX6_readOrder (Nat.le_of_ble_eq_true rfl) rfl [some (.ref (a 0)), none, none, none] rfl (Nat.le_of_ble_eq_true rfl) ?_
  intro X eX C N
  subst eX
  refine z_iconst C (nI 4) dX6_readOrder_0 (by decide) ?_
  refine z_aload_n C 0 dX6_readOrder_1 rfl rfl ?_
  refine z_get C fX6_readOrder_172 0 dX6_readOrder_2 rfl rfl ?_
  refine z_imul C dX6_readOrder_5 ?_
  refine z_top (y := nI (4 * od)) (pk_mul _ _) ?_
  refine z_istore_n C 1 dX6_readOrder_6 rfl (Nat.le_of_ble_eq_true rfl) ?_
  refine z_aload_n C 0 dX6_readOrder_7 rfl rfl ?_
  refine z_bipush C (nI 43) dX6_readOrder_8 (by decide) ?_
  refine z_callVr C kX6_skips gX6_readOrder_X6_skips (mX6_skips_n X.2.1 a kp ty pl od tx 43 hty htx hpl (by first | assumption | omega) (by first | assumption | omega) (by first | assumption | omega)) dX6_readOrder_10 [0, 1] [] 0 rfl nd_0_1 rfl rfl rfl (by decide) (by decide) (Nat.le_of_ble_eq_true rfl) rfl ?_
  refine z_istore_n C 2 dX6_readOrder_13 rfl (Nat.le_of_ble_eq_true rfl) ?_
  refine z_iload_n C 2 dX6_readOrder_14 rfl rfl ?_
  refine z_bif_ne_f C 27 dX6_readOrder_15 (by decide) rfl ?_
  refine z_aload_n C 0 dX6_readOrder_18 rfl rfl ?_
  refine z_bipush C (nI 45) dX6_readOrder_19 (by decide) ?_
  refine z_callV (wn := [((a 0), .inr (6, [.ref (a 1), .ref (a 2), .ref (a 3), .int (nI kp), .int (nI ty), .ref (a 4), .int (nI (pl + 1)), .int (zb true), .int (nI od), .ref (a 5)])), ((a 4), .inl (X.2.1.2.2.2.1, 60, .inl (fun j9 => nI (tx j9)))), ((a 5), .inl (X.2.1.2.2.1, 120, .inl oo))]) C kX6_skips gX6_readOrder_X6_skips (mX6_skips_y X.2.1 a kp ty pl od tx 45 hty htx hpl (by first | assumption | omega) (by first | assumption | omega) h0) dX6_readOrder_21 [0, 1] [] 0 rfl rfl nd_0_1 rfl rfl rfl (by decide) (by decide) (Nat.le_of_ble_eq_true rfl) rfl rfl ?_
  have hg_1 : pl + 1 ≤ ty := zHe_lt tx (by omega)
  refine z_bif_eq_f C 97 dX6_readOrder_24 (by decide) rfl ?_
  refine z_aload_n C 0 dX6_readOrder_27 rfl rfl ?_
  refine z_bipush C (nI 114) dX6_readOrder_28 (by decide) ?_
  refine z_callVr C kX6_skips gX6_readOrder_X6_skips (mX6_skips_n X.2.1 a kp ty (pl + 1) od tx 114 hty htx hg_1 (by first | assumption | omega) (by first | assumption | omega) (by first | assumption | omega)) dX6_readOrder_30 [0, 1] [] 0 rfl nd_0_1 rfl rfl rfl (by decide) (by decide) (Nat.le_of_ble_eq_true rfl) rfl ?_
  refine z_istore_n C 3 dX6_readOrder_33 rfl (Nat.le_of_ble_eq_true rfl) ?_
  refine z_aload_n C 0 dX6_readOrder_34 rfl rfl ?_
  refine z_iload_n C 3 dX6_readOrder_35 rfl rfl ?_
  refine z_bif_ne_f C 48 dX6_readOrder_36 (by decide) rfl ?_
  refine z_aload_n C 0 dX6_readOrder_39 rfl rfl ?_
  refine z_bipush C (nI 99) dX6_readOrder_40 (by decide) ?_
  refine z_callV (wn := [((a 0), .inr (6, [.ref (a 1), .ref (a 2), .ref (a 3), .int (nI kp), .int (nI ty), .ref (a 4), .int (nI ((pl + 1) + 1)), .int (zb true), .int (nI od), .ref (a 5)])), ((a 4), .inl (X.2.1.2.2.2.1, 60, .inl (fun j9 => nI (tx j9)))), ((a 5), .inl (X.2.1.2.2.1, 120, .inl oo))]) C kX6_skips gX6_readOrder_X6_skips (mX6_skips_y X.2.1 a kp ty (pl + 1) od tx 99 hty htx hg_1 (by first | assumption | omega) (by first | assumption | omega) h1) dX6_readOrder_42 [0, 1] [.ref (a 0)] 0 rfl rfl nd_0_1 rfl rfl rfl (by decide) (by decide) (Nat.le_of_ble_eq_true rfl) rfl rfl ?_
  have hg_2 : (pl + 1) + 1 ≤ ty := zHe_lt tx (by omega)
  refine z_bif_eq_f C 52 dX6_readOrder_45 (by decide) rfl ?_
  refine z_iconst C (nI 1) dX6_readOrder_48 (by decide) ?_
  refine z_goto C 53 dX6_readOrder_49 (by decide) ?_
  refine z_put C fX6_readOrder_164 ftX6_7 0 dX6_readOrder_53 rfl rfl rfl (Nat.le_of_ble_eq_true rfl) ?_
  refine z_aload_n C 0 dX6_readOrder_56 rfl rfl ?_
  refine z_get C fX6_readOrder_23 0 dX6_readOrder_57 rfl rfl ?_
  refine z_iload_n C 1 dX6_readOrder_60 rfl rfl ?_
  refine z_iload_n C 2 dX6_readOrder_61 rfl rfl ?_
  refine z_bif_eq_t C 69 dX6_readOrder_62 (by decide) rfl ?_
  refine z_iconst C (nI 2) dX6_readOrder_69 (by decide) ?_
  refine z_iload_n C 3 dX6_readOrder_70 rfl rfl ?_
  refine z_bif_eq_t C 78 dX6_readOrder_71 (by decide) rfl ?_
  refine z_iconst C (nI 1) dX6_readOrder_78 (by decide) ?_
  refine z_iadd C dX6_readOrder_79 ?_
  refine z_top (y := nI 3) (nI_add _ _) ?_
  refine z_iastN C 2 dX6_readOrder_80 rfl (by omega) (by decide) ?_
  refine z_aload_n C 0 dX6_readOrder_81 rfl rfl ?_
  refine z_get C fX6_readOrder_23 0 dX6_readOrder_82 rfl rfl ?_
  refine z_iload_n C 1 dX6_readOrder_85 rfl rfl ?_
  refine z_iconst C (nI 1) dX6_readOrder_86 (by decide) ?_
  refine z_iadd C dX6_readOrder_87 ?_
  refine z_top (y := nI ((4 * od) + 1)) (nI_add _ _) ?_
  refine z_aload_n C 0 dX6_readOrder_88 rfl rfl ?_
  refine z_iconst C (nI 2) dX6_readOrder_89 (by decide) ?_
  refine z_callV (wn := [((a 0), .inr (6, [.ref (a 1), .ref (a 2), .ref (a 3), .int (nI kp), .int (nI ty), .ref (a 4), .int (nI ((zRn tx ty 2 ((pl + 1) + 1)).2)), .int (zb (zDg (zHe tx ty ((pl + 1) + 1)))), .int (nI od), .ref (a 5)])), ((a 4), .inl (X.2.1.2.2.2.1, 60, .inl (fun j9 => nI (tx j9)))), ((a 5), .inl (X.2.1.2.2.1, 120, .inl (upd oo (4 * od) (nI 3))))]) C kX6_number gX6_readOrder_X6_number (mX6_number_u2 X.2.1 a kp ty ((pl + 1) + 1) od tx hty htx hg_2) dX6_readOrder_90 [0, 1] [.int (nI ((4 * od) + 1)), .ref (a 5)] 0 rfl rfl nd_0_1 rfl rfl rfl (by decide) (by decide) (Nat.le_of_ble_eq_true rfl) rfl rfl ?_
  have hg_3 : (zRn tx ty 2 ((pl + 1) + 1)).2 ≤ ty := zRn_le (by omega)
  refine z_iastN C 2 dX6_readOrder_93 rfl (by omega) (by decide) ?_
  refine z_goto C 163 dX6_readOrder_94 (by decide) ?_
  refine z_aload_n C 0 dX6_readOrder_163 rfl rfl ?_
  refine z_dup C dX6_readOrder_164 rfl ?_
  refine z_get C fX6_readOrder_172 0 dX6_readOrder_165 rfl rfl ?_
  refine z_iconst C (nI 1) dX6_readOrder_168 (by decide) ?_
  refine z_iadd C dX6_readOrder_169 ?_
  refine z_top (y := nI (od + 1)) (nI_add _ _) ?_
  refine z_put C fX6_readOrder_172 ftX6_8 0 dX6_readOrder_170 rfl rfl rfl (Nat.le_of_ble_eq_true rfl) ?_
  exact z_vret C N dX6_readOrder_173 (rfl)

set_option maxHeartbeats 4000000 in
set_option maxRecDepth 100000 in
theorem mX6_readOrder_nm (E : zE) (a : Nat → Nat) (kp ty pl : Nat) (od : Nat) (tx : Nat → Nat) (oo : Nat → Int32)  (hty : ty ≤ 60) (htx : ∀ j, tx j < 65536) (hpl : pl ≤ ty) (hod : od < 28) (h0 : zHe tx ty pl = 45) (h1 : zHe tx ty (pl + 1) ≠ 114) (h2 : zHe tx ty (pl + 1) ≠ 99) : zM E yX6_readOrder wsX6_readOrder 2 [.ref (a 0)] [((a 0), .inr (6, [.ref (a 1), .ref (a 2), .ref (a 3), .int (nI kp), .int (nI ty), .ref (a 4), .int (nI pl), .int (zb true), .int (nI od), .ref (a 5)])), ((a 4), .inl (E.2.2.2.1, 60, .inl (fun j9 => nI (tx j9)))), ((a 5), .inl (E.2.2.1, 120, .inl oo))] [((a 0), .inr (6, [.ref (a 1), .ref (a 2), .ref (a 3), .int (nI kp), .int (nI ty), .ref (a 4), .int (nI (pl + 1)), .int (zb false), .int (nI (od + 1)), .ref (a 5)])), ((a 4), .inl (E.2.2.2.1, 60, .inl (fun j9 => nI (tx j9)))), ((a 5), .inl (E.2.2.1, 120, .inl (upd (upd oo (4 * od) (nI 3)) ((4 * od) + 1) (nI 0))))] none := by
  refine zM.of kX6_readOrder (Nat.le_of_ble_eq_true rfl) rfl [some (.ref (a 0)), none, none, none] rfl (Nat.le_of_ble_eq_true rfl) ?_
  intro X eX C N
  subst eX
  refine z_iconst C (nI 4) dX6_readOrder_0 (by decide) ?_
  refine z_aload_n C 0 dX6_readOrder_1 rfl rfl ?_
  refine z_get C fX6_readOrder_172 0 dX6_readOrder_2 rfl rfl ?_
  refine z_imul C dX6_readOrder_5 ?_
  refine z_top (y := nI (4 * od)) (pk_mul _ _) ?_
  refine z_istore_n C 1 dX6_readOrder_6 rfl (Nat.le_of_ble_eq_true rfl) ?_
  refine z_aload_n C 0 dX6_readOrder_7 rfl rfl ?_
  refine z_bipush C (nI 43) dX6_readOrder_8 (by decide) ?_
  refine z_callVr C kX6_skips gX6_readOrder_X6_skips (mX6_skips_n X.2.1 a kp ty pl od tx 43 hty htx hpl (by first | assumption | omega) (by first | assumption | omega) (by first | assumption | omega)) dX6_readOrder_10 [0, 1] [] 0 rfl nd_0_1 rfl rfl rfl (by decide) (by decide) (Nat.le_of_ble_eq_true rfl) rfl ?_
  refine z_istore_n C 2 dX6_readOrder_13 rfl (Nat.le_of_ble_eq_true rfl) ?_
  refine z_iload_n C 2 dX6_readOrder_14 rfl rfl ?_
  refine z_bif_ne_f C 27 dX6_readOrder_15 (by decide) rfl ?_
  refine z_aload_n C 0 dX6_readOrder_18 rfl rfl ?_
  refine z_bipush C (nI 45) dX6_readOrder_19 (by decide) ?_
  refine z_callV (wn := [((a 0), .inr (6, [.ref (a 1), .ref (a 2), .ref (a 3), .int (nI kp), .int (nI ty), .ref (a 4), .int (nI (pl + 1)), .int (zb true), .int (nI od), .ref (a 5)])), ((a 4), .inl (X.2.1.2.2.2.1, 60, .inl (fun j9 => nI (tx j9)))), ((a 5), .inl (X.2.1.2.2.1, 120, .inl oo))]) C kX6_skips gX6_readOrder_X6_skips (mX6_skips_y X.2.1 a kp ty pl od tx 45 hty htx hpl (by first | assumption | omega) (by first | assumption | omega) h0) dX6_readOrder_21 [0, 1] [] 0 rfl rfl nd_0_1 rfl rfl rfl (by decide) (by decide) (Nat.le_of_ble_eq_true rfl) rfl rfl ?_
  have hg_1 : pl + 1 ≤ ty := zHe_lt tx (by omega)
  refine z_bif_eq_f C 97 dX6_readOrder_24 (by decide) rfl ?_
  refine z_aload_n C 0 dX6_readOrder_27 rfl rfl ?_
  refine z_bipush C (nI 114) dX6_readOrder_28 (by decide) ?_
  refine z_callVr C kX6_skips gX6_readOrder_X6_skips (mX6_skips_n X.2.1 a kp ty (pl + 1) od tx 114 hty htx hg_1 (by first | assumption | omega) (by first | assumption | omega) h1) dX6_readOrder_30 [0, 1] [] 0 rfl nd_0_1 rfl rfl rfl (by decide) (by decide) (Nat.le_of_ble_eq_true rfl) rfl ?_
  refine z_istore_n C 3 dX6_readOrder_33 rfl (Nat.le_of_ble_eq_true rfl) ?_
  refine z_aload_n C 0 dX6_readOrder_34 rfl rfl ?_
  refine z_iload_n C 3 dX6_readOrder_35 rfl rfl ?_
  refine z_bif_ne_f C 48 dX6_readOrder_36 (by decide) rfl ?_
  refine z_aload_n C 0 dX6_readOrder_39 rfl rfl ?_
  refine z_bipush C (nI 99) dX6_readOrder_40 (by decide) ?_
  refine z_callVr C kX6_skips gX6_readOrder_X6_skips (mX6_skips_n X.2.1 a kp ty (pl + 1) od tx 99 hty htx hg_1 (by first | assumption | omega) (by first | assumption | omega) h2) dX6_readOrder_42 [0, 1] [.ref (a 0)] 0 rfl nd_0_1 rfl rfl rfl (by decide) (by decide) (Nat.le_of_ble_eq_true rfl) rfl ?_
  refine z_bif_eq_t C 52 dX6_readOrder_45 (by decide) rfl ?_
  refine z_iconst C (nI 0) dX6_readOrder_52 (by decide) ?_
  refine z_put C fX6_readOrder_164 ftX6_7 0 dX6_readOrder_53 rfl rfl rfl (Nat.le_of_ble_eq_true rfl) ?_
  refine z_aload_n C 0 dX6_readOrder_56 rfl rfl ?_
  refine z_get C fX6_readOrder_23 0 dX6_readOrder_57 rfl rfl ?_
  refine z_iload_n C 1 dX6_readOrder_60 rfl rfl ?_
  refine z_iload_n C 2 dX6_readOrder_61 rfl rfl ?_
  refine z_bif_eq_t C 69 dX6_readOrder_62 (by decide) rfl ?_
  refine z_iconst C (nI 2) dX6_readOrder_69 (by decide) ?_
  refine z_iload_n C 3 dX6_readOrder_70 rfl rfl ?_
  refine z_bif_eq_t C 78 dX6_readOrder_71 (by decide) rfl ?_
  refine z_iconst C (nI 1) dX6_readOrder_78 (by decide) ?_
  refine z_iadd C dX6_readOrder_79 ?_
  refine z_top (y := nI 3) (nI_add _ _) ?_
  refine z_iastN C 2 dX6_readOrder_80 rfl (by omega) (by decide) ?_
  refine z_aload_n C 0 dX6_readOrder_81 rfl rfl ?_
  refine z_get C fX6_readOrder_23 0 dX6_readOrder_82 rfl rfl ?_
  refine z_iload_n C 1 dX6_readOrder_85 rfl rfl ?_
  refine z_iconst C (nI 1) dX6_readOrder_86 (by decide) ?_
  refine z_iadd C dX6_readOrder_87 ?_
  refine z_top (y := nI ((4 * od) + 1)) (nI_add _ _) ?_
  refine z_aload_n C 0 dX6_readOrder_88 rfl rfl ?_
  refine z_iconst C (nI 2) dX6_readOrder_89 (by decide) ?_
  refine z_callVr C kX6_number gX6_readOrder_X6_number (mX6_number_g2 X.2.1 a kp ty (pl + 1) od tx hty htx hg_1) dX6_readOrder_90 [0, 1] [.int (nI ((4 * od) + 1)), .ref (a 5)] 0 rfl nd_0_1 rfl rfl rfl (by decide) (by decide) (Nat.le_of_ble_eq_true rfl) rfl ?_
  refine z_iastN C 2 dX6_readOrder_93 rfl (by omega) (by decide) ?_
  refine z_goto C 163 dX6_readOrder_94 (by decide) ?_
  refine z_aload_n C 0 dX6_readOrder_163 rfl rfl ?_
  refine z_dup C dX6_readOrder_164 rfl ?_
  refine z_get C fX6_readOrder_172 0 dX6_readOrder_165 rfl rfl ?_
  refine z_iconst C (nI 1) dX6_readOrder_168 (by decide) ?_
  refine z_iadd C dX6_readOrder_169 ?_
  refine z_top (y := nI (od + 1)) (nI_add _ _) ?_
  refine z_put C fX6_readOrder_172 ftX6_8 0 dX6_readOrder_170 rfl rfl rfl (Nat.le_of_ble_eq_true rfl) ?_
  exact z_vret C N dX6_readOrder_173 (rfl)

set_option maxHeartbeats 4000000 in
set_option maxRecDepth 100000 in
theorem mX6_readOrder_s0b (E : zE) (a : Nat → Nat) (kp ty pl : Nat) (od : Nat) (tx : Nat → Nat) (oo : Nat → Int32)  (hty : ty ≤ 60) (htx : ∀ j, tx j < 65536) (hpl : pl ≤ ty) (hod : od < 28) (h0 : zHe tx ty pl ≠ 43) (h01 : zHe tx ty pl ≠ 45) (h1 : zDg (zHe tx ty pl) = false) : zM E yX6_readOrder wsX6_readOrder 2 [.ref (a 0)] [((a 0), .inr (6, [.ref (a 1), .ref (a 2), .ref (a 3), .int (nI kp), .int (nI ty), .ref (a 4), .int (nI pl), .int (zb true), .int (nI od), .ref (a 5)])), ((a 4), .inl (E.2.2.2.1, 60, .inl (fun j9 => nI (tx j9)))), ((a 5), .inl (E.2.2.1, 120, .inl oo))] [((a 0), .inr (6, [.ref (a 1), .ref (a 2), .ref (a 3), .int (nI kp), .int (nI ty), .ref (a 4), .int (nI ((zRn tx ty 2 pl).2)), .int (zb false), .int (nI (od + 1)), .ref (a 5)])), ((a 4), .inl (E.2.2.2.1, 60, .inl (fun j9 => nI (tx j9)))), ((a 5), .inl (E.2.2.1, 120, .inl (upd (upd (upd (upd oo (4 * od) (nI 4)) ((4 * od) + 1) (mNv tx ty 2 pl)) ((4 * od) + 2) (nI 0)) ((4 * od) + 3) (nI 0))))] none := by
  refine zM.of kX6_readOrder (Nat.le_of_ble_eq_true rfl) rfl [some (.ref (a 0)), none, none, none] rfl (Nat.le_of_ble_eq_true rfl) ?_
  intro X eX C N
  subst eX
  refine z_iconst C (nI 4) dX6_readOrder_0 (by decide) ?_
  refine z_aload_n C 0 dX6_readOrder_1 rfl rfl ?_
  refine z_get C fX6_readOrder_172 0 dX6_readOrder_2 rfl rfl ?_
  refine z_imul C dX6_readOrder_5 ?_
  refine z_top (y := nI (4 * od)) (pk_mul _ _) ?_
  refine z_istore_n C 1 dX6_readOrder_6 rfl (Nat.le_of_ble_eq_true rfl) ?_
  refine z_aload_n C 0 dX6_readOrder_7 rfl rfl ?_
  refine z_bipush C (nI 43) dX6_readOrder_8 (by decide) ?_
  refine z_callVr C kX6_skips gX6_readOrder_X6_skips (mX6_skips_n X.2.1 a kp ty pl od tx 43 hty htx hpl (by first | assumption | omega) (by first | assumption | omega) h0) dX6_readOrder_10 [0, 1] [] 0 rfl nd_0_1 rfl rfl rfl (by decide) (by decide) (Nat.le_of_ble_eq_true rfl) rfl ?_
  refine z_istore_n C 2 dX6_readOrder_13 rfl (Nat.le_of_ble_eq_true rfl) ?_
  refine z_iload_n C 2 dX6_readOrder_14 rfl rfl ?_
  refine z_bif_ne_f C 27 dX6_readOrder_15 (by decide) rfl ?_
  refine z_aload_n C 0 dX6_readOrder_18 rfl rfl ?_
  refine z_bipush C (nI 45) dX6_readOrder_19 (by decide) ?_
  refine z_callVr C kX6_skips gX6_readOrder_X6_skips (mX6_skips_n X.2.1 a kp ty pl od tx 45 hty htx hpl (by first | assumption | omega) (by first | assumption | omega) h01) dX6_readOrder_21 [0, 1] [] 0 rfl nd_0_1 rfl rfl rfl (by decide) (by decide) (Nat.le_of_ble_eq_true rfl) rfl ?_
  refine z_bif_eq_t C 97 dX6_readOrder_24 (by decide) rfl ?_
  refine z_aload_n C 0 dX6_readOrder_97 rfl rfl ?_
  refine z_get C fX6_readOrder_23 0 dX6_readOrder_98 rfl rfl ?_
  refine z_iload_n C 1 dX6_readOrder_101 rfl rfl ?_
  refine z_iconst C (nI 4) dX6_readOrder_102 (by decide) ?_
  refine z_iastN C 2 dX6_readOrder_103 rfl (by omega) (by decide) ?_
  refine z_aload_n C 0 dX6_readOrder_104 rfl rfl ?_
  refine z_get C fX6_readOrder_23 0 dX6_readOrder_105 rfl rfl ?_
  refine z_iload_n C 1 dX6_readOrder_108 rfl rfl ?_
  refine z_iconst C (nI 1) dX6_readOrder_109 (by decide) ?_
  refine z_iadd C dX6_readOrder_110 ?_
  refine z_top (y := nI ((4 * od) + 1)) (nI_add _ _) ?_
  refine z_aload_n C 0 dX6_readOrder_111 rfl rfl ?_
  refine z_iconst C (nI 2) dX6_readOrder_112 (by decide) ?_
  refine z_callV (wn := [((a 0), .inr (6, [.ref (a 1), .ref (a 2), .ref (a 3), .int (nI kp), .int (nI ty), .ref (a 4), .int (nI ((zRn tx ty 2 pl).2)), .int (zb (zDg (zHe tx ty pl))), .int (nI od), .ref (a 5)])), ((a 4), .inl (X.2.1.2.2.2.1, 60, .inl (fun j9 => nI (tx j9)))), ((a 5), .inl (X.2.1.2.2.1, 120, .inl (upd oo (4 * od) (nI 4))))]) C kX6_number gX6_readOrder_X6_number (mX6_number_u2 X.2.1 a kp ty pl od tx hty htx hpl) dX6_readOrder_113 [0, 1] [.int (nI ((4 * od) + 1)), .ref (a 5)] 0 rfl rfl nd_0_1 rfl rfl rfl (by decide) (by decide) (Nat.le_of_ble_eq_true rfl) rfl rfl ?_
  have hg_1 : (zRn tx ty 2 pl).2 ≤ ty := zRn_le (by omega)
  refine z_cv (ws' := [((a 0), .inr (6, [.ref (a 1), .ref (a 2), .ref (a 3), .int (nI kp), .int (nI ty), .ref (a 4), .int (nI ((zRn tx ty 2 pl).2)), .int (zb false), .int (nI od), .ref (a 5)])), ((a 4), .inl (X.2.1.2.2.2.1, 60, .inl (fun j9 => nI (tx j9)))), ((a 5), .inl (X.2.1.2.2.1, 120, .inl (upd oo (4 * od) (nI 4))))]) (by rw [h1] <;> rfl) rfl rfl ?_
  refine z_iastN C 2 dX6_readOrder_116 rfl (by omega) (by decide) ?_
  refine z_aload_n C 0 dX6_readOrder_117 rfl rfl ?_
  refine z_aload_n C 0 dX6_readOrder_118 rfl rfl ?_
  refine z_bipush C (nI 46) dX6_readOrder_119 (by decide) ?_
  refine z_callVr C kX6_skips gX6_readOrder_X6_skips (mX6_skips_g X.2.1 a kp ty ((zRn tx ty 2 pl).2) od tx 46 hty htx hg_1 (by first | assumption | omega) (by first | assumption | omega)) dX6_readOrder_121 [0, 1] [.ref (a 0)] 0 rfl nd_0_1 rfl rfl rfl (by decide) (by decide) (Nat.le_of_ble_eq_true rfl) rfl ?_
  refine z_put C fX6_readOrder_164 ftX6_7 0 dX6_readOrder_124 rfl (zb_nar _) (zb_fit _) (Nat.le_of_ble_eq_true rfl) ?_
  refine z_aload_n C 0 dX6_readOrder_127 rfl rfl ?_
  refine z_get C fX6_readOrder_23 0 dX6_readOrder_128 rfl rfl ?_
  refine z_iload_n C 1 dX6_readOrder_131 rfl rfl ?_
  refine z_iconst C (nI 2) dX6_readOrder_132 (by decide) ?_
  refine z_iadd C dX6_readOrder_133 ?_
  refine z_top (y := nI ((4 * od) + 2)) (nI_add _ _) ?_
  refine z_aload_n C 0 dX6_readOrder_134 rfl rfl ?_
  refine z_iconst C (nI 2) dX6_readOrder_135 (by decide) ?_
  refine z_callVr C kX6_number gX6_readOrder_X6_number (mX6_number_g2 X.2.1 a kp ty ((zRn tx ty 2 pl).2) od tx hty htx hg_1) dX6_readOrder_136 [0, 1] [.int (nI ((4 * od) + 2)), .ref (a 5)] 0 rfl nd_0_1 rfl rfl rfl (by decide) (by decide) (Nat.le_of_ble_eq_true rfl) rfl ?_
  refine z_iastN C 2 dX6_readOrder_139 rfl (by omega) (by decide) ?_
  refine z_aload_n C 0 dX6_readOrder_140 rfl rfl ?_
  refine z_aload_n C 0 dX6_readOrder_141 rfl rfl ?_
  refine z_bipush C (nI 61) dX6_readOrder_142 (by decide) ?_
  refine z_callVr C kX6_skips gX6_readOrder_X6_skips (mX6_skips_g X.2.1 a kp ty ((zRn tx ty 2 pl).2) od tx 61 hty htx hg_1 (by first | assumption | omega) (by first | assumption | omega)) dX6_readOrder_144 [0, 1] [.ref (a 0)] 0 rfl nd_0_1 rfl rfl rfl (by decide) (by decide) (Nat.le_of_ble_eq_true rfl) rfl ?_
  refine z_put C fX6_readOrder_164 ftX6_7 0 dX6_readOrder_147 rfl (zb_nar _) (zb_fit _) (Nat.le_of_ble_eq_true rfl) ?_
  refine z_aload_n C 0 dX6_readOrder_150 rfl rfl ?_
  refine z_get C fX6_readOrder_23 0 dX6_readOrder_151 rfl rfl ?_
  refine z_iload_n C 1 dX6_readOrder_154 rfl rfl ?_
  refine z_iconst C (nI 3) dX6_readOrder_155 (by decide) ?_
  refine z_iadd C dX6_readOrder_156 ?_
  refine z_top (y := nI ((4 * od) + 3)) (nI_add _ _) ?_
  refine z_aload_n C 0 dX6_readOrder_157 rfl rfl ?_
  refine z_iconst C (nI 4) dX6_readOrder_158 (by decide) ?_
  refine z_callVr C kX6_number gX6_readOrder_X6_number (mX6_number_g4 X.2.1 a kp ty ((zRn tx ty 2 pl).2) od tx hty htx hg_1) dX6_readOrder_159 [0, 1] [.int (nI ((4 * od) + 3)), .ref (a 5)] 0 rfl nd_0_1 rfl rfl rfl (by decide) (by decide) (Nat.le_of_ble_eq_true rfl) rfl ?_
  refine z_iastN C 2 dX6_readOrder_162 rfl (by omega) (by decide) ?_
  refine z_aload_n C 0 dX6_readOrder_163 rfl rfl ?_
  refine z_dup C dX6_readOrder_164 rfl ?_
  refine z_get C fX6_readOrder_172 0 dX6_readOrder_165 rfl rfl ?_
  refine z_iconst C (nI 1) dX6_readOrder_168 (by decide) ?_
  refine z_iadd C dX6_readOrder_169 ?_
  refine z_top (y := nI (od + 1)) (nI_add _ _) ?_
  refine z_put C fX6_readOrder_172 ftX6_8 0 dX6_readOrder_170 rfl rfl rfl (Nat.le_of_ble_eq_true rfl) ?_
  exact z_vret C N dX6_readOrder_173 (rfl)

set_option maxHeartbeats 4000000 in
set_option maxRecDepth 100000 in
theorem mX6_readOrder_s0a (E : zE) (a : Nat → Nat) (kp ty pl : Nat) (od : Nat) (tx : Nat → Nat) (oo : Nat → Int32)  (hty : ty ≤ 60) (htx : ∀ j, tx j < 65536) (hpl : pl ≤ ty) (hod : od < 28) (h0 : zHe tx ty pl ≠ 43) (h01 : zHe tx ty pl ≠ 45) (h1 : zDg (zHe tx ty pl) = true) (h2 : zHe tx ty ((zRn tx ty 2 pl).2) ≠ 46) : zM E yX6_readOrder wsX6_readOrder 2 [.ref (a 0)] [((a 0), .inr (6, [.ref (a 1), .ref (a 2), .ref (a 3), .int (nI kp), .int (nI ty), .ref (a 4), .int (nI pl), .int (zb true), .int (nI od), .ref (a 5)])), ((a 4), .inl (E.2.2.2.1, 60, .inl (fun j9 => nI (tx j9)))), ((a 5), .inl (E.2.2.1, 120, .inl oo))] [((a 0), .inr (6, [.ref (a 1), .ref (a 2), .ref (a 3), .int (nI kp), .int (nI ty), .ref (a 4), .int (nI ((zRn tx ty 2 pl).2)), .int (zb false), .int (nI (od + 1)), .ref (a 5)])), ((a 4), .inl (E.2.2.2.1, 60, .inl (fun j9 => nI (tx j9)))), ((a 5), .inl (E.2.2.1, 120, .inl (upd (upd (upd (upd oo (4 * od) (nI 4)) ((4 * od) + 1) (mNv tx ty 2 pl)) ((4 * od) + 2) (nI 0)) ((4 * od) + 3) (nI 0))))] none := by
  refine zM.of kX6_readOrder (Nat.le_of_ble_eq_true rfl) rfl [some (.ref (a 0)), none, none, none] rfl (Nat.le_of_ble_eq_true rfl) ?_
  intro X eX C N
  subst eX
  refine z_iconst C (nI 4) dX6_readOrder_0 (by decide) ?_
  refine z_aload_n C 0 dX6_readOrder_1 rfl rfl ?_
  refine z_get C fX6_readOrder_172 0 dX6_readOrder_2 rfl rfl ?_
  refine z_imul C dX6_readOrder_5 ?_
  refine z_top (y := nI (4 * od)) (pk_mul _ _) ?_
  refine z_istore_n C 1 dX6_readOrder_6 rfl (Nat.le_of_ble_eq_true rfl) ?_
  refine z_aload_n C 0 dX6_readOrder_7 rfl rfl ?_
  refine z_bipush C (nI 43) dX6_readOrder_8 (by decide) ?_
  refine z_callVr C kX6_skips gX6_readOrder_X6_skips (mX6_skips_n X.2.1 a kp ty pl od tx 43 hty htx hpl (by first | assumption | omega) (by first | assumption | omega) h0) dX6_readOrder_10 [0, 1] [] 0 rfl nd_0_1 rfl rfl rfl (by decide) (by decide) (Nat.le_of_ble_eq_true rfl) rfl ?_
  refine z_istore_n C 2 dX6_readOrder_13 rfl (Nat.le_of_ble_eq_true rfl) ?_
  refine z_iload_n C 2 dX6_readOrder_14 rfl rfl ?_
  refine z_bif_ne_f C 27 dX6_readOrder_15 (by decide) rfl ?_
  refine z_aload_n C 0 dX6_readOrder_18 rfl rfl ?_
  refine z_bipush C (nI 45) dX6_readOrder_19 (by decide) ?_
  refine z_callVr C kX6_skips gX6_readOrder_X6_skips (mX6_skips_n X.2.1 a kp ty pl od tx 45 hty htx hpl (by first | assumption | omega) (by first | assumption | omega) h01) dX6_readOrder_21 [0, 1] [] 0 rfl nd_0_1 rfl rfl rfl (by decide) (by decide) (Nat.le_of_ble_eq_true rfl) rfl ?_
  refine z_bif_eq_t C 97 dX6_readOrder_24 (by decide) rfl ?_
  refine z_aload_n C 0 dX6_readOrder_97 rfl rfl ?_
  refine z_get C fX6_readOrder_23 0 dX6_readOrder_98 rfl rfl ?_
  refine z_iload_n C 1 dX6_readOrder_101 rfl rfl ?_
  refine z_iconst C (nI 4) dX6_readOrder_102 (by decide) ?_
  refine z_iastN C 2 dX6_readOrder_103 rfl (by omega) (by decide) ?_
  refine z_aload_n C 0 dX6_readOrder_104 rfl rfl ?_
  refine z_get C fX6_readOrder_23 0 dX6_readOrder_105 rfl rfl ?_
  refine z_iload_n C 1 dX6_readOrder_108 rfl rfl ?_
  refine z_iconst C (nI 1) dX6_readOrder_109 (by decide) ?_
  refine z_iadd C dX6_readOrder_110 ?_
  refine z_top (y := nI ((4 * od) + 1)) (nI_add _ _) ?_
  refine z_aload_n C 0 dX6_readOrder_111 rfl rfl ?_
  refine z_iconst C (nI 2) dX6_readOrder_112 (by decide) ?_
  refine z_callV (wn := [((a 0), .inr (6, [.ref (a 1), .ref (a 2), .ref (a 3), .int (nI kp), .int (nI ty), .ref (a 4), .int (nI ((zRn tx ty 2 pl).2)), .int (zb (zDg (zHe tx ty pl))), .int (nI od), .ref (a 5)])), ((a 4), .inl (X.2.1.2.2.2.1, 60, .inl (fun j9 => nI (tx j9)))), ((a 5), .inl (X.2.1.2.2.1, 120, .inl (upd oo (4 * od) (nI 4))))]) C kX6_number gX6_readOrder_X6_number (mX6_number_u2 X.2.1 a kp ty pl od tx hty htx hpl) dX6_readOrder_113 [0, 1] [.int (nI ((4 * od) + 1)), .ref (a 5)] 0 rfl rfl nd_0_1 rfl rfl rfl (by decide) (by decide) (Nat.le_of_ble_eq_true rfl) rfl rfl ?_
  have hg_1 : (zRn tx ty 2 pl).2 ≤ ty := zRn_le (by omega)
  refine z_cv (ws' := [((a 0), .inr (6, [.ref (a 1), .ref (a 2), .ref (a 3), .int (nI kp), .int (nI ty), .ref (a 4), .int (nI ((zRn tx ty 2 pl).2)), .int (zb true), .int (nI od), .ref (a 5)])), ((a 4), .inl (X.2.1.2.2.2.1, 60, .inl (fun j9 => nI (tx j9)))), ((a 5), .inl (X.2.1.2.2.1, 120, .inl (upd oo (4 * od) (nI 4))))]) (by rw [h1] <;> rfl) rfl rfl ?_
  refine z_iastN C 2 dX6_readOrder_116 rfl (by omega) (by decide) ?_
  refine z_aload_n C 0 dX6_readOrder_117 rfl rfl ?_
  refine z_aload_n C 0 dX6_readOrder_118 rfl rfl ?_
  refine z_bipush C (nI 46) dX6_readOrder_119 (by decide) ?_
  refine z_callVr C kX6_skips gX6_readOrder_X6_skips (mX6_skips_n X.2.1 a kp ty ((zRn tx ty 2 pl).2) od tx 46 hty htx hg_1 (by first | assumption | omega) (by first | assumption | omega) h2) dX6_readOrder_121 [0, 1] [.ref (a 0)] 0 rfl nd_0_1 rfl rfl rfl (by decide) (by decide) (Nat.le_of_ble_eq_true rfl) rfl ?_
  refine z_put C fX6_readOrder_164 ftX6_7 0 dX6_readOrder_124 rfl (zb_nar _) (zb_fit _) (Nat.le_of_ble_eq_true rfl) ?_
  refine z_aload_n C 0 dX6_readOrder_127 rfl rfl ?_
  refine z_get C fX6_readOrder_23 0 dX6_readOrder_128 rfl rfl ?_
  refine z_iload_n C 1 dX6_readOrder_131 rfl rfl ?_
  refine z_iconst C (nI 2) dX6_readOrder_132 (by decide) ?_
  refine z_iadd C dX6_readOrder_133 ?_
  refine z_top (y := nI ((4 * od) + 2)) (nI_add _ _) ?_
  refine z_aload_n C 0 dX6_readOrder_134 rfl rfl ?_
  refine z_iconst C (nI 2) dX6_readOrder_135 (by decide) ?_
  refine z_callVr C kX6_number gX6_readOrder_X6_number (mX6_number_g2 X.2.1 a kp ty ((zRn tx ty 2 pl).2) od tx hty htx hg_1) dX6_readOrder_136 [0, 1] [.int (nI ((4 * od) + 2)), .ref (a 5)] 0 rfl nd_0_1 rfl rfl rfl (by decide) (by decide) (Nat.le_of_ble_eq_true rfl) rfl ?_
  refine z_iastN C 2 dX6_readOrder_139 rfl (by omega) (by decide) ?_
  refine z_aload_n C 0 dX6_readOrder_140 rfl rfl ?_
  refine z_aload_n C 0 dX6_readOrder_141 rfl rfl ?_
  refine z_bipush C (nI 61) dX6_readOrder_142 (by decide) ?_
  refine z_callVr C kX6_skips gX6_readOrder_X6_skips (mX6_skips_g X.2.1 a kp ty ((zRn tx ty 2 pl).2) od tx 61 hty htx hg_1 (by first | assumption | omega) (by first | assumption | omega)) dX6_readOrder_144 [0, 1] [.ref (a 0)] 0 rfl nd_0_1 rfl rfl rfl (by decide) (by decide) (Nat.le_of_ble_eq_true rfl) rfl ?_
  refine z_put C fX6_readOrder_164 ftX6_7 0 dX6_readOrder_147 rfl (zb_nar _) (zb_fit _) (Nat.le_of_ble_eq_true rfl) ?_
  refine z_aload_n C 0 dX6_readOrder_150 rfl rfl ?_
  refine z_get C fX6_readOrder_23 0 dX6_readOrder_151 rfl rfl ?_
  refine z_iload_n C 1 dX6_readOrder_154 rfl rfl ?_
  refine z_iconst C (nI 3) dX6_readOrder_155 (by decide) ?_
  refine z_iadd C dX6_readOrder_156 ?_
  refine z_top (y := nI ((4 * od) + 3)) (nI_add _ _) ?_
  refine z_aload_n C 0 dX6_readOrder_157 rfl rfl ?_
  refine z_iconst C (nI 4) dX6_readOrder_158 (by decide) ?_
  refine z_callVr C kX6_number gX6_readOrder_X6_number (mX6_number_g4 X.2.1 a kp ty ((zRn tx ty 2 pl).2) od tx hty htx hg_1) dX6_readOrder_159 [0, 1] [.int (nI ((4 * od) + 3)), .ref (a 5)] 0 rfl nd_0_1 rfl rfl rfl (by decide) (by decide) (Nat.le_of_ble_eq_true rfl) rfl ?_
  refine z_iastN C 2 dX6_readOrder_162 rfl (by omega) (by decide) ?_
  refine z_aload_n C 0 dX6_readOrder_163 rfl rfl ?_
  refine z_dup C dX6_readOrder_164 rfl ?_
  refine z_get C fX6_readOrder_172 0 dX6_readOrder_165 rfl rfl ?_
  refine z_iconst C (nI 1) dX6_readOrder_168 (by decide) ?_
  refine z_iadd C dX6_readOrder_169 ?_
  refine z_top (y := nI (od + 1)) (nI_add _ _) ?_
  refine z_put C fX6_readOrder_172 ftX6_8 0 dX6_readOrder_170 rfl rfl rfl (Nat.le_of_ble_eq_true rfl) ?_
  exact z_vret C N dX6_readOrder_173 (rfl)

set_option maxHeartbeats 4000000 in
set_option maxRecDepth 100000 in
theorem mX6_readOrder_s1c (E : zE) (a : Nat → Nat) (kp ty pl : Nat) (od : Nat) (tx : Nat → Nat) (oo : Nat → Int32)  (hty : ty ≤ 60) (htx : ∀ j, tx j < 65536) (hpl : pl ≤ ty) (hod : od < 28) (h0 : zHe tx ty pl ≠ 43) (h01 : zHe tx ty pl ≠ 45) (h1 : zDg (zHe tx ty pl) = true) (h2 : zHe tx ty ((zRn tx ty 2 pl).2) = 46) (h3 : zDg (zHe tx ty ((zRn tx ty 2 pl).2 + 1)) = false) : zM E yX6_readOrder wsX6_readOrder 2 [.ref (a 0)] [((a 0), .inr (6, [.ref (a 1), .ref (a 2), .ref (a 3), .int (nI kp), .int (nI ty), .ref (a 4), .int (nI pl), .int (zb true), .int (nI od), .ref (a 5)])), ((a 4), .inl (E.2.2.2.1, 60, .inl (fun j9 => nI (tx j9)))), ((a 5), .inl (E.2.2.1, 120, .inl oo))] [((a 0), .inr (6, [.ref (a 1), .ref (a 2), .ref (a 3), .int (nI kp), .int (nI ty), .ref (a 4), .int (nI ((zRn tx ty 2 (((zRn tx ty 2 pl).2) + 1)).2)), .int (zb false), .int (nI (od + 1)), .ref (a 5)])), ((a 4), .inl (E.2.2.2.1, 60, .inl (fun j9 => nI (tx j9)))), ((a 5), .inl (E.2.2.1, 120, .inl (upd (upd (upd (upd oo (4 * od) (nI 4)) ((4 * od) + 1) (mNv tx ty 2 pl)) ((4 * od) + 2) (mNv tx ty 2 (((zRn tx ty 2 pl).2) + 1))) ((4 * od) + 3) (nI 0))))] none := by
  refine zM.of kX6_readOrder (Nat.le_of_ble_eq_true rfl) rfl [some (.ref (a 0)), none, none, none] rfl (Nat.le_of_ble_eq_true rfl) ?_
  intro X eX C N
  subst eX
  refine z_iconst C (nI 4) dX6_readOrder_0 (by decide) ?_
  refine z_aload_n C 0 dX6_readOrder_1 rfl rfl ?_
  refine z_get C fX6_readOrder_172 0 dX6_readOrder_2 rfl rfl ?_
  refine z_imul C dX6_readOrder_5 ?_
  refine z_top (y := nI (4 * od)) (pk_mul _ _) ?_
  refine z_istore_n C 1 dX6_readOrder_6 rfl (Nat.le_of_ble_eq_true rfl) ?_
  refine z_aload_n C 0 dX6_readOrder_7 rfl rfl ?_
  refine z_bipush C (nI 43) dX6_readOrder_8 (by decide) ?_
  refine z_callVr C kX6_skips gX6_readOrder_X6_skips (mX6_skips_n X.2.1 a kp ty pl od tx 43 hty htx hpl (by first | assumption | omega) (by first | assumption | omega) h0) dX6_readOrder_10 [0, 1] [] 0 rfl nd_0_1 rfl rfl rfl (by decide) (by decide) (Nat.le_of_ble_eq_true rfl) rfl ?_
  refine z_istore_n C 2 dX6_readOrder_13 rfl (Nat.le_of_ble_eq_true rfl) ?_
  refine z_iload_n C 2 dX6_readOrder_14 rfl rfl ?_
  refine z_bif_ne_f C 27 dX6_readOrder_15 (by decide) rfl ?_
  refine z_aload_n C 0 dX6_readOrder_18 rfl rfl ?_
  refine z_bipush C (nI 45) dX6_readOrder_19 (by decide) ?_
  refine z_callVr C kX6_skips gX6_readOrder_X6_skips (mX6_skips_n X.2.1 a kp ty pl od tx 45 hty htx hpl (by first | assumption | omega) (by first | assumption | omega) h01) dX6_readOrder_21 [0, 1] [] 0 rfl nd_0_1 rfl rfl rfl (by decide) (by decide) (Nat.le_of_ble_eq_true rfl) rfl ?_
  refine z_bif_eq_t C 97 dX6_readOrder_24 (by decide) rfl ?_
  refine z_aload_n C 0 dX6_readOrder_97 rfl rfl ?_
  refine z_get C fX6_readOrder_23 0 dX6_readOrder_98 rfl rfl ?_
  refine z_iload_n C 1 dX6_readOrder_101 rfl rfl ?_
  refine z_iconst C (nI 4) dX6_readOrder_102 (by decide) ?_
  refine z_iastN C 2 dX6_readOrder_103 rfl (by omega) (by decide) ?_
  refine z_aload_n C 0 dX6_readOrder_104 rfl rfl ?_
  refine z_get C fX6_readOrder_23 0 dX6_readOrder_105 rfl rfl ?_
  refine z_iload_n C 1 dX6_readOrder_108 rfl rfl ?_
  refine z_iconst C (nI 1) dX6_readOrder_109 (by decide) ?_
  refine z_iadd C dX6_readOrder_110 ?_
  refine z_top (y := nI ((4 * od) + 1)) (nI_add _ _) ?_
  refine z_aload_n C 0 dX6_readOrder_111 rfl rfl ?_
  refine z_iconst C (nI 2) dX6_readOrder_112 (by decide) ?_
  refine z_callV (wn := [((a 0), .inr (6, [.ref (a 1), .ref (a 2), .ref (a 3), .int (nI kp), .int (nI ty), .ref (a 4), .int (nI ((zRn tx ty 2 pl).2)), .int (zb (zDg (zHe tx ty pl))), .int (nI od), .ref (a 5)])), ((a 4), .inl (X.2.1.2.2.2.1, 60, .inl (fun j9 => nI (tx j9)))), ((a 5), .inl (X.2.1.2.2.1, 120, .inl (upd oo (4 * od) (nI 4))))]) C kX6_number gX6_readOrder_X6_number (mX6_number_u2 X.2.1 a kp ty pl od tx hty htx hpl) dX6_readOrder_113 [0, 1] [.int (nI ((4 * od) + 1)), .ref (a 5)] 0 rfl rfl nd_0_1 rfl rfl rfl (by decide) (by decide) (Nat.le_of_ble_eq_true rfl) rfl rfl ?_
  have hg_1 : (zRn tx ty 2 pl).2 ≤ ty := zRn_le (by omega)
  refine z_cv (ws' := [((a 0), .inr (6, [.ref (a 1), .ref (a 2), .ref (a 3), .int (nI kp), .int (nI ty), .ref (a 4), .int (nI ((zRn tx ty 2 pl).2)), .int (zb true), .int (nI od), .ref (a 5)])), ((a 4), .inl (X.2.1.2.2.2.1, 60, .inl (fun j9 => nI (tx j9)))), ((a 5), .inl (X.2.1.2.2.1, 120, .inl (upd oo (4 * od) (nI 4))))]) (by rw [h1] <;> rfl) rfl rfl ?_
  refine z_iastN C 2 dX6_readOrder_116 rfl (by omega) (by decide) ?_
  refine z_aload_n C 0 dX6_readOrder_117 rfl rfl ?_
  refine z_aload_n C 0 dX6_readOrder_118 rfl rfl ?_
  refine z_bipush C (nI 46) dX6_readOrder_119 (by decide) ?_
  refine z_callV (wn := [((a 0), .inr (6, [.ref (a 1), .ref (a 2), .ref (a 3), .int (nI kp), .int (nI ty), .ref (a 4), .int (nI (((zRn tx ty 2 pl).2) + 1)), .int (zb true), .int (nI od), .ref (a 5)])), ((a 4), .inl (X.2.1.2.2.2.1, 60, .inl (fun j9 => nI (tx j9)))), ((a 5), .inl (X.2.1.2.2.1, 120, .inl (upd (upd oo (4 * od) (nI 4)) ((4 * od) + 1) (mNv tx ty 2 pl))))]) C kX6_skips gX6_readOrder_X6_skips (mX6_skips_y X.2.1 a kp ty ((zRn tx ty 2 pl).2) od tx 46 hty htx hg_1 (by first | assumption | omega) (by first | assumption | omega) h2) dX6_readOrder_121 [0, 1] [.ref (a 0)] 0 rfl rfl nd_0_1 rfl rfl rfl (by decide) (by decide) (Nat.le_of_ble_eq_true rfl) rfl rfl ?_
  have hg_2 : ((zRn tx ty 2 pl).2) + 1 ≤ ty := zHe_lt tx (by omega)
  refine z_put C fX6_readOrder_164 ftX6_7 0 dX6_readOrder_124 rfl (zb_nar _) (zb_fit _) (Nat.le_of_ble_eq_true rfl) ?_
  refine z_aload_n C 0 dX6_readOrder_127 rfl rfl ?_
  refine z_get C fX6_readOrder_23 0 dX6_readOrder_128 rfl rfl ?_
  refine z_iload_n C 1 dX6_readOrder_131 rfl rfl ?_
  refine z_iconst C (nI 2) dX6_readOrder_132 (by decide) ?_
  refine z_iadd C dX6_readOrder_133 ?_
  refine z_top (y := nI ((4 * od) + 2)) (nI_add _ _) ?_
  refine z_aload_n C 0 dX6_readOrder_134 rfl rfl ?_
  refine z_iconst C (nI 2) dX6_readOrder_135 (by decide) ?_
  refine z_callV (wn := [((a 0), .inr (6, [.ref (a 1), .ref (a 2), .ref (a 3), .int (nI kp), .int (nI ty), .ref (a 4), .int (nI ((zRn tx ty 2 (((zRn tx ty 2 pl).2) + 1)).2)), .int (zb (zDg (zHe tx ty (((zRn tx ty 2 pl).2) + 1)))), .int (nI od), .ref (a 5)])), ((a 4), .inl (X.2.1.2.2.2.1, 60, .inl (fun j9 => nI (tx j9)))), ((a 5), .inl (X.2.1.2.2.1, 120, .inl (upd (upd oo (4 * od) (nI 4)) ((4 * od) + 1) (mNv tx ty 2 pl))))]) C kX6_number gX6_readOrder_X6_number (mX6_number_u2 X.2.1 a kp ty (((zRn tx ty 2 pl).2) + 1) od tx hty htx hg_2) dX6_readOrder_136 [0, 1] [.int (nI ((4 * od) + 2)), .ref (a 5)] 0 rfl rfl nd_0_1 rfl rfl rfl (by decide) (by decide) (Nat.le_of_ble_eq_true rfl) rfl rfl ?_
  have hg_3 : (zRn tx ty 2 (((zRn tx ty 2 pl).2) + 1)).2 ≤ ty := zRn_le (by omega)
  refine z_cv (ws' := [((a 0), .inr (6, [.ref (a 1), .ref (a 2), .ref (a 3), .int (nI kp), .int (nI ty), .ref (a 4), .int (nI ((zRn tx ty 2 (((zRn tx ty 2 pl).2) + 1)).2)), .int (zb false), .int (nI od), .ref (a 5)])), ((a 4), .inl (X.2.1.2.2.2.1, 60, .inl (fun j9 => nI (tx j9)))), ((a 5), .inl (X.2.1.2.2.1, 120, .inl (upd (upd oo (4 * od) (nI 4)) ((4 * od) + 1) (mNv tx ty 2 pl))))]) (by rw [h3] <;> rfl) rfl rfl ?_
  refine z_iastN C 2 dX6_readOrder_139 rfl (by omega) (by decide) ?_
  refine z_aload_n C 0 dX6_readOrder_140 rfl rfl ?_
  refine z_aload_n C 0 dX6_readOrder_141 rfl rfl ?_
  refine z_bipush C (nI 61) dX6_readOrder_142 (by decide) ?_
  refine z_callVr C kX6_skips gX6_readOrder_X6_skips (mX6_skips_g X.2.1 a kp ty ((zRn tx ty 2 (((zRn tx ty 2 pl).2) + 1)).2) od tx 61 hty htx hg_3 (by first | assumption | omega) (by first | assumption | omega)) dX6_readOrder_144 [0, 1] [.ref (a 0)] 0 rfl nd_0_1 rfl rfl rfl (by decide) (by decide) (Nat.le_of_ble_eq_true rfl) rfl ?_
  refine z_put C fX6_readOrder_164 ftX6_7 0 dX6_readOrder_147 rfl (zb_nar _) (zb_fit _) (Nat.le_of_ble_eq_true rfl) ?_
  refine z_aload_n C 0 dX6_readOrder_150 rfl rfl ?_
  refine z_get C fX6_readOrder_23 0 dX6_readOrder_151 rfl rfl ?_
  refine z_iload_n C 1 dX6_readOrder_154 rfl rfl ?_
  refine z_iconst C (nI 3) dX6_readOrder_155 (by decide) ?_
  refine z_iadd C dX6_readOrder_156 ?_
  refine z_top (y := nI ((4 * od) + 3)) (nI_add _ _) ?_
  refine z_aload_n C 0 dX6_readOrder_157 rfl rfl ?_
  refine z_iconst C (nI 4) dX6_readOrder_158 (by decide) ?_
  refine z_callVr C kX6_number gX6_readOrder_X6_number (mX6_number_g4 X.2.1 a kp ty ((zRn tx ty 2 (((zRn tx ty 2 pl).2) + 1)).2) od tx hty htx hg_3) dX6_readOrder_159 [0, 1] [.int (nI ((4 * od) + 3)), .ref (a 5)] 0 rfl nd_0_1 rfl rfl rfl (by decide) (by decide) (Nat.le_of_ble_eq_true rfl) rfl ?_
  refine z_iastN C 2 dX6_readOrder_162 rfl (by omega) (by decide) ?_
  refine z_aload_n C 0 dX6_readOrder_163 rfl rfl ?_
  refine z_dup C dX6_readOrder_164 rfl ?_
  refine z_get C fX6_readOrder_172 0 dX6_readOrder_165 rfl rfl ?_
  refine z_iconst C (nI 1) dX6_readOrder_168 (by decide) ?_
  refine z_iadd C dX6_readOrder_169 ?_
  refine z_top (y := nI (od + 1)) (nI_add _ _) ?_
  refine z_put C fX6_readOrder_172 ftX6_8 0 dX6_readOrder_170 rfl rfl rfl (Nat.le_of_ble_eq_true rfl) ?_
  exact z_vret C N dX6_readOrder_173 (rfl)

set_option maxHeartbeats 4000000 in
set_option maxRecDepth 100000 in
theorem mX6_readOrder_s1b (E : zE) (a : Nat → Nat) (kp ty pl : Nat) (od : Nat) (tx : Nat → Nat) (oo : Nat → Int32)  (hty : ty ≤ 60) (htx : ∀ j, tx j < 65536) (hpl : pl ≤ ty) (hod : od < 28) (h0 : zHe tx ty pl ≠ 43) (h01 : zHe tx ty pl ≠ 45) (h1 : zDg (zHe tx ty pl) = true) (h2 : zHe tx ty ((zRn tx ty 2 pl).2) = 46) (h3 : zDg (zHe tx ty ((zRn tx ty 2 pl).2 + 1)) = true) (h4 : zHe tx ty ((zRn tx ty 2 ((zRn tx ty 2 pl).2 + 1)).2) ≠ 61) : zM E yX6_readOrder wsX6_readOrder 2 [.ref (a 0)] [((a 0), .inr (6, [.ref (a 1), .ref (a 2), .ref (a 3), .int (nI kp), .int (nI ty), .ref (a 4), .int (nI pl), .int (zb true), .int (nI od), .ref (a 5)])), ((a 4), .inl (E.2.2.2.1, 60, .inl (fun j9 => nI (tx j9)))), ((a 5), .inl (E.2.2.1, 120, .inl oo))] [((a 0), .inr (6, [.ref (a 1), .ref (a 2), .ref (a 3), .int (nI kp), .int (nI ty), .ref (a 4), .int (nI ((zRn tx ty 2 (((zRn tx ty 2 pl).2) + 1)).2)), .int (zb false), .int (nI (od + 1)), .ref (a 5)])), ((a 4), .inl (E.2.2.2.1, 60, .inl (fun j9 => nI (tx j9)))), ((a 5), .inl (E.2.2.1, 120, .inl (upd (upd (upd (upd oo (4 * od) (nI 4)) ((4 * od) + 1) (mNv tx ty 2 pl)) ((4 * od) + 2) (mNv tx ty 2 (((zRn tx ty 2 pl).2) + 1))) ((4 * od) + 3) (nI 0))))] none := by
  refine zM.of kX6_readOrder (Nat.le_of_ble_eq_true rfl) rfl [some (.ref (a 0)), none, none, none] rfl (Nat.le_of_ble_eq_true rfl) ?_
  intro X eX C N
  subst eX
  refine z_iconst C (nI 4) dX6_readOrder_0 (by decide) ?_
  refine z_aload_n C 0 dX6_readOrder_1 rfl rfl ?_
  refine z_get C fX6_readOrder_172 0 dX6_readOrder_2 rfl rfl ?_
  refine z_imul C dX6_readOrder_5 ?_
  refine z_top (y := nI (4 * od)) (pk_mul _ _) ?_
  refine z_istore_n C 1 dX6_readOrder_6 rfl (Nat.le_of_ble_eq_true rfl) ?_
  refine z_aload_n C 0 dX6_readOrder_7 rfl rfl ?_
  refine z_bipush C (nI 43) dX6_readOrder_8 (by decide) ?_
  refine z_callVr C kX6_skips gX6_readOrder_X6_skips (mX6_skips_n X.2.1 a kp ty pl od tx 43 hty htx hpl (by first | assumption | omega) (by first | assumption | omega) h0) dX6_readOrder_10 [0, 1] [] 0 rfl nd_0_1 rfl rfl rfl (by decide) (by decide) (Nat.le_of_ble_eq_true rfl) rfl ?_
  refine z_istore_n C 2 dX6_readOrder_13 rfl (Nat.le_of_ble_eq_true rfl) ?_
  refine z_iload_n C 2 dX6_readOrder_14 rfl rfl ?_
  refine z_bif_ne_f C 27 dX6_readOrder_15 (by decide) rfl ?_
  refine z_aload_n C 0 dX6_readOrder_18 rfl rfl ?_
  refine z_bipush C (nI 45) dX6_readOrder_19 (by decide) ?_
  refine z_callVr C kX6_skips gX6_readOrder_X6_skips (mX6_skips_n X.2.1 a kp ty pl od tx 45 hty htx hpl (by first | assumption | omega) (by first | assumption | omega) h01) dX6_readOrder_21 [0, 1] [] 0 rfl nd_0_1 rfl rfl rfl (by decide) (by decide) (Nat.le_of_ble_eq_true rfl) rfl ?_
  refine z_bif_eq_t C 97 dX6_readOrder_24 (by decide) rfl ?_
  refine z_aload_n C 0 dX6_readOrder_97 rfl rfl ?_
  refine z_get C fX6_readOrder_23 0 dX6_readOrder_98 rfl rfl ?_
  refine z_iload_n C 1 dX6_readOrder_101 rfl rfl ?_
  refine z_iconst C (nI 4) dX6_readOrder_102 (by decide) ?_
  refine z_iastN C 2 dX6_readOrder_103 rfl (by omega) (by decide) ?_
  refine z_aload_n C 0 dX6_readOrder_104 rfl rfl ?_
  refine z_get C fX6_readOrder_23 0 dX6_readOrder_105 rfl rfl ?_
  refine z_iload_n C 1 dX6_readOrder_108 rfl rfl ?_
  refine z_iconst C (nI 1) dX6_readOrder_109 (by decide) ?_
  refine z_iadd C dX6_readOrder_110 ?_
  refine z_top (y := nI ((4 * od) + 1)) (nI_add _ _) ?_
  refine z_aload_n C 0 dX6_readOrder_111 rfl rfl ?_
  refine z_iconst C (nI 2) dX6_readOrder_112 (by decide) ?_
  refine z_callV (wn := [((a 0), .inr (6, [.ref (a 1), .ref (a 2), .ref (a 3), .int (nI kp), .int (nI ty), .ref (a 4), .int (nI ((zRn tx ty 2 pl).2)), .int (zb (zDg (zHe tx ty pl))), .int (nI od), .ref (a 5)])), ((a 4), .inl (X.2.1.2.2.2.1, 60, .inl (fun j9 => nI (tx j9)))), ((a 5), .inl (X.2.1.2.2.1, 120, .inl (upd oo (4 * od) (nI 4))))]) C kX6_number gX6_readOrder_X6_number (mX6_number_u2 X.2.1 a kp ty pl od tx hty htx hpl) dX6_readOrder_113 [0, 1] [.int (nI ((4 * od) + 1)), .ref (a 5)] 0 rfl rfl nd_0_1 rfl rfl rfl (by decide) (by decide) (Nat.le_of_ble_eq_true rfl) rfl rfl ?_
  have hg_1 : (zRn tx ty 2 pl).2 ≤ ty := zRn_le (by omega)
  refine z_cv (ws' := [((a 0), .inr (6, [.ref (a 1), .ref (a 2), .ref (a 3), .int (nI kp), .int (nI ty), .ref (a 4), .int (nI ((zRn tx ty 2 pl).2)), .int (zb true), .int (nI od), .ref (a 5)])), ((a 4), .inl (X.2.1.2.2.2.1, 60, .inl (fun j9 => nI (tx j9)))), ((a 5), .inl (X.2.1.2.2.1, 120, .inl (upd oo (4 * od) (nI 4))))]) (by rw [h1] <;> rfl) rfl rfl ?_
  refine z_iastN C 2 dX6_readOrder_116 rfl (by omega) (by decide) ?_
  refine z_aload_n C 0 dX6_readOrder_117 rfl rfl ?_
  refine z_aload_n C 0 dX6_readOrder_118 rfl rfl ?_
  refine z_bipush C (nI 46) dX6_readOrder_119 (by decide) ?_
  refine z_callV (wn := [((a 0), .inr (6, [.ref (a 1), .ref (a 2), .ref (a 3), .int (nI kp), .int (nI ty), .ref (a 4), .int (nI (((zRn tx ty 2 pl).2) + 1)), .int (zb true), .int (nI od), .ref (a 5)])), ((a 4), .inl (X.2.1.2.2.2.1, 60, .inl (fun j9 => nI (tx j9)))), ((a 5), .inl (X.2.1.2.2.1, 120, .inl (upd (upd oo (4 * od) (nI 4)) ((4 * od) + 1) (mNv tx ty 2 pl))))]) C kX6_skips gX6_readOrder_X6_skips (mX6_skips_y X.2.1 a kp ty ((zRn tx ty 2 pl).2) od tx 46 hty htx hg_1 (by first | assumption | omega) (by first | assumption | omega) h2) dX6_readOrder_121 [0, 1] [.ref (a 0)] 0 rfl rfl nd_0_1 rfl rfl rfl (by decide) (by decide) (Nat.le_of_ble_eq_true rfl) rfl rfl ?_
  have hg_2 : ((zRn tx ty 2 pl).2) + 1 ≤ ty := zHe_lt tx (by omega)
  refine z_put C fX6_readOrder_164 ftX6_7 0 dX6_readOrder_124 rfl (zb_nar _) (zb_fit _) (Nat.le_of_ble_eq_true rfl) ?_
  refine z_aload_n C 0 dX6_readOrder_127 rfl rfl ?_
  refine z_get C fX6_readOrder_23 0 dX6_readOrder_128 rfl rfl ?_
  refine z_iload_n C 1 dX6_readOrder_131 rfl rfl ?_
  refine z_iconst C (nI 2) dX6_readOrder_132 (by decide) ?_
  refine z_iadd C dX6_readOrder_133 ?_
  refine z_top (y := nI ((4 * od) + 2)) (nI_add _ _) ?_
  refine z_aload_n C 0 dX6_readOrder_134 rfl rfl ?_
  refine z_iconst C (nI 2) dX6_readOrder_135 (by decide) ?_
  refine z_callV (wn := [((a 0), .inr (6, [.ref (a 1), .ref (a 2), .ref (a 3), .int (nI kp), .int (nI ty), .ref (a 4), .int (nI ((zRn tx ty 2 (((zRn tx ty 2 pl).2) + 1)).2)), .int (zb (zDg (zHe tx ty (((zRn tx ty 2 pl).2) + 1)))), .int (nI od), .ref (a 5)])), ((a 4), .inl (X.2.1.2.2.2.1, 60, .inl (fun j9 => nI (tx j9)))), ((a 5), .inl (X.2.1.2.2.1, 120, .inl (upd (upd oo (4 * od) (nI 4)) ((4 * od) + 1) (mNv tx ty 2 pl))))]) C kX6_number gX6_readOrder_X6_number (mX6_number_u2 X.2.1 a kp ty (((zRn tx ty 2 pl).2) + 1) od tx hty htx hg_2) dX6_readOrder_136 [0, 1] [.int (nI ((4 * od) + 2)), .ref (a 5)] 0 rfl rfl nd_0_1 rfl rfl rfl (by decide) (by decide) (Nat.le_of_ble_eq_true rfl) rfl rfl ?_
  have hg_3 : (zRn tx ty 2 (((zRn tx ty 2 pl).2) + 1)).2 ≤ ty := zRn_le (by omega)
  refine z_cv (ws' := [((a 0), .inr (6, [.ref (a 1), .ref (a 2), .ref (a 3), .int (nI kp), .int (nI ty), .ref (a 4), .int (nI ((zRn tx ty 2 (((zRn tx ty 2 pl).2) + 1)).2)), .int (zb true), .int (nI od), .ref (a 5)])), ((a 4), .inl (X.2.1.2.2.2.1, 60, .inl (fun j9 => nI (tx j9)))), ((a 5), .inl (X.2.1.2.2.1, 120, .inl (upd (upd oo (4 * od) (nI 4)) ((4 * od) + 1) (mNv tx ty 2 pl))))]) (by rw [h3] <;> rfl) rfl rfl ?_
  refine z_iastN C 2 dX6_readOrder_139 rfl (by omega) (by decide) ?_
  refine z_aload_n C 0 dX6_readOrder_140 rfl rfl ?_
  refine z_aload_n C 0 dX6_readOrder_141 rfl rfl ?_
  refine z_bipush C (nI 61) dX6_readOrder_142 (by decide) ?_
  refine z_callVr C kX6_skips gX6_readOrder_X6_skips (mX6_skips_n X.2.1 a kp ty ((zRn tx ty 2 (((zRn tx ty 2 pl).2) + 1)).2) od tx 61 hty htx hg_3 (by first | assumption | omega) (by first | assumption | omega) h4) dX6_readOrder_144 [0, 1] [.ref (a 0)] 0 rfl nd_0_1 rfl rfl rfl (by decide) (by decide) (Nat.le_of_ble_eq_true rfl) rfl ?_
  refine z_put C fX6_readOrder_164 ftX6_7 0 dX6_readOrder_147 rfl (zb_nar _) (zb_fit _) (Nat.le_of_ble_eq_true rfl) ?_
  refine z_aload_n C 0 dX6_readOrder_150 rfl rfl ?_
  refine z_get C fX6_readOrder_23 0 dX6_readOrder_151 rfl rfl ?_
  refine z_iload_n C 1 dX6_readOrder_154 rfl rfl ?_
  refine z_iconst C (nI 3) dX6_readOrder_155 (by decide) ?_
  refine z_iadd C dX6_readOrder_156 ?_
  refine z_top (y := nI ((4 * od) + 3)) (nI_add _ _) ?_
  refine z_aload_n C 0 dX6_readOrder_157 rfl rfl ?_
  refine z_iconst C (nI 4) dX6_readOrder_158 (by decide) ?_
  refine z_callVr C kX6_number gX6_readOrder_X6_number (mX6_number_g4 X.2.1 a kp ty ((zRn tx ty 2 (((zRn tx ty 2 pl).2) + 1)).2) od tx hty htx hg_3) dX6_readOrder_159 [0, 1] [.int (nI ((4 * od) + 3)), .ref (a 5)] 0 rfl nd_0_1 rfl rfl rfl (by decide) (by decide) (Nat.le_of_ble_eq_true rfl) rfl ?_
  refine z_iastN C 2 dX6_readOrder_162 rfl (by omega) (by decide) ?_
  refine z_aload_n C 0 dX6_readOrder_163 rfl rfl ?_
  refine z_dup C dX6_readOrder_164 rfl ?_
  refine z_get C fX6_readOrder_172 0 dX6_readOrder_165 rfl rfl ?_
  refine z_iconst C (nI 1) dX6_readOrder_168 (by decide) ?_
  refine z_iadd C dX6_readOrder_169 ?_
  refine z_top (y := nI (od + 1)) (nI_add _ _) ?_
  refine z_put C fX6_readOrder_172 ftX6_8 0 dX6_readOrder_170 rfl rfl rfl (Nat.le_of_ble_eq_true rfl) ?_
  exact z_vret C N dX6_readOrder_173 (rfl)

set_option maxHeartbeats 4000000 in
set_option maxRecDepth 100000 in
theorem mX6_readOrder_s1a (E : zE) (a : Nat → Nat) (kp ty pl : Nat) (od : Nat) (tx : Nat → Nat) (oo : Nat → Int32)  (hty : ty ≤ 60) (htx : ∀ j, tx j < 65536) (hpl : pl ≤ ty) (hod : od < 28) (h0 : zHe tx ty pl ≠ 43) (h01 : zHe tx ty pl ≠ 45) (h1 : zDg (zHe tx ty pl) = true) (h2 : zHe tx ty ((zRn tx ty 2 pl).2) = 46) (h3 : zDg (zHe tx ty ((zRn tx ty 2 pl).2 + 1)) = true) (h4 : zHe tx ty ((zRn tx ty 2 ((zRn tx ty 2 pl).2 + 1)).2) = 61) : zM E yX6_readOrder wsX6_readOrder 2 [.ref (a 0)] [((a 0), .inr (6, [.ref (a 1), .ref (a 2), .ref (a 3), .int (nI kp), .int (nI ty), .ref (a 4), .int (nI pl), .int (zb true), .int (nI od), .ref (a 5)])), ((a 4), .inl (E.2.2.2.1, 60, .inl (fun j9 => nI (tx j9)))), ((a 5), .inl (E.2.2.1, 120, .inl oo))] [((a 0), .inr (6, [.ref (a 1), .ref (a 2), .ref (a 3), .int (nI kp), .int (nI ty), .ref (a 4), .int (nI ((zRn tx ty 4 (((zRn tx ty 2 (((zRn tx ty 2 pl).2) + 1)).2) + 1)).2)), .int (zb (zDg (zHe tx ty (((zRn tx ty 2 (((zRn tx ty 2 pl).2) + 1)).2) + 1)))), .int (nI (od + 1)), .ref (a 5)])), ((a 4), .inl (E.2.2.2.1, 60, .inl (fun j9 => nI (tx j9)))), ((a 5), .inl (E.2.2.1, 120, .inl (upd (upd (upd (upd oo (4 * od) (nI 4)) ((4 * od) + 1) (mNv tx ty 2 pl)) ((4 * od) + 2) (mNv tx ty 2 (((zRn tx ty 2 pl).2) + 1))) ((4 * od) + 3) (mNv tx ty 4 (((zRn tx ty 2 (((zRn tx ty 2 pl).2) + 1)).2) + 1)))))] none := by
  refine zM.of kX6_readOrder (Nat.le_of_ble_eq_true rfl) rfl [some (.ref (a 0)), none, none, none] rfl (Nat.le_of_ble_eq_true rfl) ?_
  intro X eX C N
  subst eX
  refine z_iconst C (nI 4) dX6_readOrder_0 (by decide) ?_
  refine z_aload_n C 0 dX6_readOrder_1 rfl rfl ?_
  refine z_get C fX6_readOrder_172 0 dX6_readOrder_2 rfl rfl ?_
  refine z_imul C dX6_readOrder_5 ?_
  refine z_top (y := nI (4 * od)) (pk_mul _ _) ?_
  refine z_istore_n C 1 dX6_readOrder_6 rfl (Nat.le_of_ble_eq_true rfl) ?_
  refine z_aload_n C 0 dX6_readOrder_7 rfl rfl ?_
  refine z_bipush C (nI 43) dX6_readOrder_8 (by decide) ?_
  refine z_callVr C kX6_skips gX6_readOrder_X6_skips (mX6_skips_n X.2.1 a kp ty pl od tx 43 hty htx hpl (by first | assumption | omega) (by first | assumption | omega) h0) dX6_readOrder_10 [0, 1] [] 0 rfl nd_0_1 rfl rfl rfl (by decide) (by decide) (Nat.le_of_ble_eq_true rfl) rfl ?_
  refine z_istore_n C 2 dX6_readOrder_13 rfl (Nat.le_of_ble_eq_true rfl) ?_
  refine z_iload_n C 2 dX6_readOrder_14 rfl rfl ?_
  refine z_bif_ne_f C 27 dX6_readOrder_15 (by decide) rfl ?_
  refine z_aload_n C 0 dX6_readOrder_18 rfl rfl ?_
  refine z_bipush C (nI 45) dX6_readOrder_19 (by decide) ?_
  refine z_callVr C kX6_skips gX6_readOrder_X6_skips (mX6_skips_n X.2.1 a kp ty pl od tx 45 hty htx hpl (by first | assumption | omega) (by first | assumption | omega) h01) dX6_readOrder_21 [0, 1] [] 0 rfl nd_0_1 rfl rfl rfl (by decide) (by decide) (Nat.le_of_ble_eq_true rfl) rfl ?_
  refine z_bif_eq_t C 97 dX6_readOrder_24 (by decide) rfl ?_
  refine z_aload_n C 0 dX6_readOrder_97 rfl rfl ?_
  refine z_get C fX6_readOrder_23 0 dX6_readOrder_98 rfl rfl ?_
  refine z_iload_n C 1 dX6_readOrder_101 rfl rfl ?_
  refine z_iconst C (nI 4) dX6_readOrder_102 (by decide) ?_
  refine z_iastN C 2 dX6_readOrder_103 rfl (by omega) (by decide) ?_
  refine z_aload_n C 0 dX6_readOrder_104 rfl rfl ?_
  refine z_get C fX6_readOrder_23 0 dX6_readOrder_105 rfl rfl ?_
  refine z_iload_n C 1 dX6_readOrder_108 rfl rfl ?_
  refine z_iconst C (nI 1) dX6_readOrder_109 (by decide) ?_
  refine z_iadd C dX6_readOrder_110 ?_
  refine z_top (y := nI ((4 * od) + 1)) (nI_add _ _) ?_
  refine z_aload_n C 0 dX6_readOrder_111 rfl rfl ?_
  refine z_iconst C (nI 2) dX6_readOrder_112 (by decide) ?_
  refine z_callV (wn := [((a 0), .inr (6, [.ref (a 1), .ref (a 2), .ref (a 3), .int (nI kp), .int (nI ty), .ref (a 4), .int (nI ((zRn tx ty 2 pl).2)), .int (zb (zDg (zHe tx ty pl))), .int (nI od), .ref (a 5)])), ((a 4), .inl (X.2.1.2.2.2.1, 60, .inl (fun j9 => nI (tx j9)))), ((a 5), .inl (X.2.1.2.2.1, 120, .inl (upd oo (4 * od) (nI 4))))]) C kX6_number gX6_readOrder_X6_number (mX6_number_u2 X.2.1 a kp ty pl od tx hty htx hpl) dX6_readOrder_113 [0, 1] [.int (nI ((4 * od) + 1)), .ref (a 5)] 0 rfl rfl nd_0_1 rfl rfl rfl (by decide) (by decide) (Nat.le_of_ble_eq_true rfl) rfl rfl ?_
  have hg_1 : (zRn tx ty 2 pl).2 ≤ ty := zRn_le (by omega)
  refine z_cv (ws' := [((a 0), .inr (6, [.ref (a 1), .ref (a 2), .ref (a 3), .int (nI kp), .int (nI ty), .ref (a 4), .int (nI ((zRn tx ty 2 pl).2)), .int (zb true), .int (nI od), .ref (a 5)])), ((a 4), .inl (X.2.1.2.2.2.1, 60, .inl (fun j9 => nI (tx j9)))), ((a 5), .inl (X.2.1.2.2.1, 120, .inl (upd oo (4 * od) (nI 4))))]) (by rw [h1] <;> rfl) rfl rfl ?_
  refine z_iastN C 2 dX6_readOrder_116 rfl (by omega) (by decide) ?_
  refine z_aload_n C 0 dX6_readOrder_117 rfl rfl ?_
  refine z_aload_n C 0 dX6_readOrder_118 rfl rfl ?_
  refine z_bipush C (nI 46) dX6_readOrder_119 (by decide) ?_
  refine z_callV (wn := [((a 0), .inr (6, [.ref (a 1), .ref (a 2), .ref (a 3), .int (nI kp), .int (nI ty), .ref (a 4), .int (nI (((zRn tx ty 2 pl).2) + 1)), .int (zb true), .int (nI od), .ref (a 5)])), ((a 4), .inl (X.2.1.2.2.2.1, 60, .inl (fun j9 => nI (tx j9)))), ((a 5), .inl (X.2.1.2.2.1, 120, .inl (upd (upd oo (4 * od) (nI 4)) ((4 * od) + 1) (mNv tx ty 2 pl))))]) C kX6_skips gX6_readOrder_X6_skips (mX6_skips_y X.2.1 a kp ty ((zRn tx ty 2 pl).2) od tx 46 hty htx hg_1 (by first | assumption | omega) (by first | assumption | omega) h2) dX6_readOrder_121 [0, 1] [.ref (a 0)] 0 rfl rfl nd_0_1 rfl rfl rfl (by decide) (by decide) (Nat.le_of_ble_eq_true rfl) rfl rfl ?_
  have hg_2 : ((zRn tx ty 2 pl).2) + 1 ≤ ty := zHe_lt tx (by omega)
  refine z_put C fX6_readOrder_164 ftX6_7 0 dX6_readOrder_124 rfl (zb_nar _) (zb_fit _) (Nat.le_of_ble_eq_true rfl) ?_
  refine z_aload_n C 0 dX6_readOrder_127 rfl rfl ?_
  refine z_get C fX6_readOrder_23 0 dX6_readOrder_128 rfl rfl ?_
  refine z_iload_n C 1 dX6_readOrder_131 rfl rfl ?_
  refine z_iconst C (nI 2) dX6_readOrder_132 (by decide) ?_
  refine z_iadd C dX6_readOrder_133 ?_
  refine z_top (y := nI ((4 * od) + 2)) (nI_add _ _) ?_
  refine z_aload_n C 0 dX6_readOrder_134 rfl rfl ?_
  refine z_iconst C (nI 2) dX6_readOrder_135 (by decide) ?_
  refine z_callV (wn := [((a 0), .inr (6, [.ref (a 1), .ref (a 2), .ref (a 3), .int (nI kp), .int (nI ty), .ref (a 4), .int (nI ((zRn tx ty 2 (((zRn tx ty 2 pl).2) + 1)).2)), .int (zb (zDg (zHe tx ty (((zRn tx ty 2 pl).2) + 1)))), .int (nI od), .ref (a 5)])), ((a 4), .inl (X.2.1.2.2.2.1, 60, .inl (fun j9 => nI (tx j9)))), ((a 5), .inl (X.2.1.2.2.1, 120, .inl (upd (upd oo (4 * od) (nI 4)) ((4 * od) + 1) (mNv tx ty 2 pl))))]) C kX6_number gX6_readOrder_X6_number (mX6_number_u2 X.2.1 a kp ty (((zRn tx ty 2 pl).2) + 1) od tx hty htx hg_2) dX6_readOrder_136 [0, 1] [.int (nI ((4 * od) + 2)), .ref (a 5)] 0 rfl rfl nd_0_1 rfl rfl rfl (by decide) (by decide) (Nat.le_of_ble_eq_true rfl) rfl rfl ?_
  have hg_3 : (zRn tx ty 2 (((zRn tx ty 2 pl).2) + 1)).2 ≤ ty := zRn_le (by omega)
  refine z_cv (ws' := [((a 0), .inr (6, [.ref (a 1), .ref (a 2), .ref (a 3), .int (nI kp), .int (nI ty), .ref (a 4), .int (nI ((zRn tx ty 2 (((zRn tx ty 2 pl).2) + 1)).2)), .int (zb true), .int (nI od), .ref (a 5)])), ((a 4), .inl (X.2.1.2.2.2.1, 60, .inl (fun j9 => nI (tx j9)))), ((a 5), .inl (X.2.1.2.2.1, 120, .inl (upd (upd oo (4 * od) (nI 4)) ((4 * od) + 1) (mNv tx ty 2 pl))))]) (by rw [h3] <;> rfl) rfl rfl ?_
  refine z_iastN C 2 dX6_readOrder_139 rfl (by omega) (by decide) ?_
  refine z_aload_n C 0 dX6_readOrder_140 rfl rfl ?_
  refine z_aload_n C 0 dX6_readOrder_141 rfl rfl ?_
  refine z_bipush C (nI 61) dX6_readOrder_142 (by decide) ?_
  refine z_callV (wn := [((a 0), .inr (6, [.ref (a 1), .ref (a 2), .ref (a 3), .int (nI kp), .int (nI ty), .ref (a 4), .int (nI (((zRn tx ty 2 (((zRn tx ty 2 pl).2) + 1)).2) + 1)), .int (zb true), .int (nI od), .ref (a 5)])), ((a 4), .inl (X.2.1.2.2.2.1, 60, .inl (fun j9 => nI (tx j9)))), ((a 5), .inl (X.2.1.2.2.1, 120, .inl (upd (upd (upd oo (4 * od) (nI 4)) ((4 * od) + 1) (mNv tx ty 2 pl)) ((4 * od) + 2) (mNv tx ty 2 (((zRn tx ty 2 pl).2) + 1)))))]) C kX6_skips gX6_readOrder_X6_skips (mX6_skips_y X.2.1 a kp ty ((zRn tx ty 2 (((zRn tx ty 2 pl).2) + 1)).2) od tx 61 hty htx hg_3 (by first | assumption | omega) (by first | assumption | omega) h4) dX6_readOrder_144 [0, 1] [.ref (a 0)] 0 rfl rfl nd_0_1 rfl rfl rfl (by decide) (by decide) (Nat.le_of_ble_eq_true rfl) rfl rfl ?_
  have hg_4 : ((zRn tx ty 2 (((zRn tx ty 2 pl).2) + 1)).2) + 1 ≤ ty := zHe_lt tx (by omega)
  refine z_put C fX6_readOrder_164 ftX6_7 0 dX6_readOrder_147 rfl (zb_nar _) (zb_fit _) (Nat.le_of_ble_eq_true rfl) ?_
  refine z_aload_n C 0 dX6_readOrder_150 rfl rfl ?_
  refine z_get C fX6_readOrder_23 0 dX6_readOrder_151 rfl rfl ?_
  refine z_iload_n C 1 dX6_readOrder_154 rfl rfl ?_
  refine z_iconst C (nI 3) dX6_readOrder_155 (by decide) ?_
  refine z_iadd C dX6_readOrder_156 ?_
  refine z_top (y := nI ((4 * od) + 3)) (nI_add _ _) ?_
  refine z_aload_n C 0 dX6_readOrder_157 rfl rfl ?_
  refine z_iconst C (nI 4) dX6_readOrder_158 (by decide) ?_
  refine z_callV (wn := [((a 0), .inr (6, [.ref (a 1), .ref (a 2), .ref (a 3), .int (nI kp), .int (nI ty), .ref (a 4), .int (nI ((zRn tx ty 4 (((zRn tx ty 2 (((zRn tx ty 2 pl).2) + 1)).2) + 1)).2)), .int (zb (zDg (zHe tx ty (((zRn tx ty 2 (((zRn tx ty 2 pl).2) + 1)).2) + 1)))), .int (nI od), .ref (a 5)])), ((a 4), .inl (X.2.1.2.2.2.1, 60, .inl (fun j9 => nI (tx j9)))), ((a 5), .inl (X.2.1.2.2.1, 120, .inl (upd (upd (upd oo (4 * od) (nI 4)) ((4 * od) + 1) (mNv tx ty 2 pl)) ((4 * od) + 2) (mNv tx ty 2 (((zRn tx ty 2 pl).2) + 1)))))]) C kX6_number gX6_readOrder_X6_number (mX6_number_u4 X.2.1 a kp ty (((zRn tx ty 2 (((zRn tx ty 2 pl).2) + 1)).2) + 1) od tx hty htx hg_4) dX6_readOrder_159 [0, 1] [.int (nI ((4 * od) + 3)), .ref (a 5)] 0 rfl rfl nd_0_1 rfl rfl rfl (by decide) (by decide) (Nat.le_of_ble_eq_true rfl) rfl rfl ?_
  have hg_5 : (zRn tx ty 4 (((zRn tx ty 2 (((zRn tx ty 2 pl).2) + 1)).2) + 1)).2 ≤ ty := zRn_le (by omega)
  refine z_iastN C 2 dX6_readOrder_162 rfl (by omega) (by decide) ?_
  refine z_aload_n C 0 dX6_readOrder_163 rfl rfl ?_
  refine z_dup C dX6_readOrder_164 rfl ?_
  refine z_get C fX6_readOrder_172 0 dX6_readOrder_165 rfl rfl ?_
  refine z_iconst C (nI 1) dX6_readOrder_168 (by decide) ?_
  refine z_iadd C dX6_readOrder_169 ?_
  refine z_top (y := nI (od + 1)) (nI_add _ _) ?_
  refine z_put C fX6_readOrder_172 ftX6_8 0 dX6_readOrder_170 rfl rfl rfl (Nat.le_of_ble_eq_true rfl) ?_
  exact z_vret C N dX6_readOrder_173 (rfl)
