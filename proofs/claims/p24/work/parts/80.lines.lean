set_option maxHeartbeats 4000000 in
set_option maxRecDepth 100000 in
theorem w_lines (E : zE) (x0 h0 h1 w0 w1 : Nat) (t : Nat → Nat) (S : zSt) (o kp ln : Nat) (ps : zPs) {B : Nat}  (hG : GG S B) : zM E yL_lines wsL_lines 6 [.ref x0] (WCd E x0 h0 h1 w0 w1 t S o kp ln ps) (WCd E x0 h0 h1 w0 w1 t S o kp ln ps) (some (.int (nI 1))) := by
  refine zM.of kL_lines (Nat.le_of_ble_eq_true rfl) rfl [some (.ref x0), none, none, none, none, none, none, none, none, none, none] rfl (Nat.le_of_ble_eq_true rfl) ?_
  intro X eX C N
  subst eX
  have hu0 := gg_u hG 0
  have hu1 := gg_u hG 1
  have hM := gg_M hG
  refine z_iconst C (nI 0) dL_lines_0 (by decide) ?_
  refine z_istore_n C 1 dL_lines_1 rfl (Nat.le_of_ble_eq_true rfl) ?_
  refine z_lv (lv' := [some (.ref x0), some (.int (nI 0)), none, none, none, none, none, none, none, none, none]) rfl ?_
  refine z_iconst C (nI 0) dL_lines_2 (by decide) ?_
  refine z_istore_n C 2 dL_lines_3 rfl (Nat.le_of_ble_eq_true rfl) ?_
  refine z_lv (lv' := [some (.ref x0), some (.int (nI 0)), some (.int (nI 0)), none, none, none, none, none, none, none, none]) rfl ?_
  refine z_iconst C (nI 0) dL_lines_4 (by decide) ?_
  refine z_istore_n C 3 dL_lines_5 rfl (Nat.le_of_ble_eq_true rfl) ?_
  refine z_lv (lv' := [some (.ref x0), some (.int (nI 0)), some (.int (nI 0)), some (.int (nI 0)), none, none, none, none, none, none, none]) rfl ?_
  refine z_iload_n C 3 dL_lines_6 rfl rfl ?_
  refine z_iconst C (nI 2) dL_lines_7 (by decide) ?_
  refine z_ncmp_ge_f C 382 dL_lines_8 (by decide) (by omega) (by omega) (by omega) ?_
  refine z_iconst C (nI 0) dL_lines_11 (by decide) ?_
  refine z_istore C dL_lines_12 (Nat.le_of_ble_eq_true rfl) ?_
  refine z_lv (lv' := [some (.ref x0), some (.int (nI 0)), some (.int (nI 0)), some (.int (nI 0)), some (.int (nI 0)), none, none, none, none, none, none]) rfl ?_
  refine z_iconst C (nI 0) dL_lines_14 (by decide) ?_
  refine z_istore C dL_lines_15 (Nat.le_of_ble_eq_true rfl) ?_
  refine z_lv (lv' := [some (.ref x0), some (.int (nI 0)), some (.int (nI 0)), some (.int (nI 0)), some (.int (nI 0)), some (.int (nI 0)), none, none, none, none, none]) rfl ?_
  refine z_iconst C (nI 0) dL_lines_17 (by decide) ?_
  refine z_istore C dL_lines_18 (Nat.le_of_ble_eq_true rfl) ?_
  refine z_lv (lv' := [some (.ref x0), some (.int (nI 0)), some (.int (nI 0)), some (.int (nI 0)), some (.int (nI 0)), some (.int (nI 0)), some (.int (nI 0)), none, none, none, none]) rfl ?_
  have hL20_0 : ∀ (dd20_0 : Nat) (p0 : Nat) (fr0 : Nat) (dm0 : Nat) (cl0 : Nat) (ol0 : Nat), uU S 0 - p0 = dd20_0 → (p0 ≤ uU S 0) → (fr0 = zc (Nw S 0) p0) → (dm0 = zc (Dm S 0) p0) → (cl0 = zc (nDm S 0) p0) → (ol0 = zc (nNw S 0) p0) → zG X 0 0 (WCd X.2.1 x0 h0 h1 w0 w1 t S o kp ln ps) [some (.ref x0), some (.int (nI fr0)), some (.int (nI dm0)), some (.int (nI 0)), some (.int (nI cl0)), some (.int (nI ol0)), some (.int (nI p0)), none, none, none, none] [] 20 := by
    intro dd20_0
    induction dd20_0 using Nat.strongRecOn with
    | _ dd20_0 ih20_0 =>
      intro p0 fr0 dm0 cl0 ol0 hdd20_0 hp0 hfr0 hdm0 hcl0 hol0
      have ha0 := zc_le (Nw S 0) p0
      have hb0 := zc_le (Dm S 0) p0
      have hc0 := zc_le (nDm S 0) p0
      have hd0 := zc_le (nNw S 0) p0
      refine z_iload C dL_lines_20 rfl ?_
      refine z_aload_n C 0 dL_lines_22 rfl rfl ?_
      refine z_iconst C (nI 0) dL_lines_23 (by decide) ?_
      refine z_iload_n C 3 dL_lines_24 rfl rfl ?_
      refine z_callVr C kX5_size gL_lines_X5_size (l_size0 X.2.1 x0 h0 w0 t S 0 hG (by decide)) dL_lines_25 [0, 1, 2, 3, 4, 5, 6, 7, 8] [.int (nI p0)] 0 rfl nd_0_1_2_3_4_5_6_7_8 rfl rfl rfl (by decide) (by decide) (Nat.le_of_ble_eq_true rfl) rfl ?_
      refine z_ncmp_ge C 325 dL_lines_28 (by decide) (by omega) (by omega) (fun h_1 => ?_) (fun h_1 => ?_)
      · obtain rfl : p0 = uU S 0 := (by omega)
        refine z_aload_n C 0 dL_lines_325 rfl rfl ?_
        refine z_iconst C (nI 1) dL_lines_326 (by decide) ?_
        refine z_iload_n C 3 dL_lines_327 rfl rfl ?_
        refine z_callVr C kX5_size gL_lines_X5_size (l_size1 X.2.1 x0 h0 w0 t S 0 hG (by decide)) dL_lines_328 [0, 1, 2, 3, 4, 5, 6, 7, 8] [] 0 rfl nd_0_1_2_3_4_5_6_7_8 rfl rfl rfl (by decide) (by decide) (Nat.le_of_ble_eq_true rfl) rfl ?_
        have hg_2 : zc (nDm S 0) (uU S 0) ≤ uU S 0 := zc_le _ _
        refine z_iload C dL_lines_331 rfl ?_
        refine z_ncmp_ne_f C 374 dL_lines_333 (by decide) (by omega) (by omega) (by omega) ?_
        refine z_aload_n C 0 dL_lines_336 rfl rfl ?_
        refine z_iconst C (nI 2) dL_lines_337 (by decide) ?_
        refine z_iload_n C 3 dL_lines_338 rfl rfl ?_
        refine z_callVr C kX5_size gL_lines_X5_size (l_size2 X.2.1 x0 h0 w0 t S 0 hG (by decide)) dL_lines_339 [0, 1, 2, 3, 4, 5, 6, 7, 8] [] 0 rfl nd_0_1_2_3_4_5_6_7_8 rfl rfl rfl (by decide) (by decide) (Nat.le_of_ble_eq_true rfl) rfl ?_
        have hg_3 : zc (nNw S 0) (uU S 0) ≤ uU S 0 := zc_le _ _
        refine z_iload C dL_lines_342 rfl ?_
        refine z_ncmp_ne_f C 374 dL_lines_344 (by decide) (by omega) (by omega) (by omega) ?_
        refine z_aload_n C 0 dL_lines_347 rfl rfl ?_
        refine z_iload_n C 3 dL_lines_348 rfl rfl ?_
        refine z_aload_n C 0 dL_lines_349 rfl rfl ?_
        refine z_iconst C (nI 0) dL_lines_350 (by decide) ?_
        refine z_iload_n C 3 dL_lines_351 rfl rfl ?_
        refine z_callVr C kX5_size gL_lines_X5_size (l_size0 X.2.1 x0 h0 w0 t S 0 hG (by decide)) dL_lines_352 [0, 1, 2, 3, 4, 5, 6, 7, 8] [.int (nI 0), .ref x0] 0 rfl nd_0_1_2_3_4_5_6_7_8 rfl rfl rfl (by decide) (by decide) (Nat.le_of_ble_eq_true rfl) rfl ?_
        refine z_iconst C (nI 0) dL_lines_355 (by decide) ?_
        refine z_callVr C kX5_line gL_lines_X5_line (l_lineU X.2.1 x0 h0 w0 t S 0 (uU S 0) hG (by decide) hp0 (by omega)) dL_lines_356 [0, 1, 2, 3, 4, 5, 6, 7, 8] [] 0 rfl nd_0_1_2_3_4_5_6_7_8 rfl rfl rfl (by decide) (by decide) (Nat.le_of_ble_eq_true rfl) rfl ?_
        refine z_iconst C (-1) dL_lines_359 (by decide) ?_
        refine z_icmp_ne_f C 374 dL_lines_360 (by decide) rfl ?_
        refine z_aload_n C 0 dL_lines_363 rfl rfl ?_
        refine z_iload_n C 3 dL_lines_364 rfl rfl ?_
        refine z_iconst C (-1) dL_lines_365 (by decide) ?_
        refine z_iconst C (nI 0) dL_lines_366 (by decide) ?_
        refine z_callVr C kX5_line gL_lines_X5_line (l_lineM X.2.1 x0 h0 w0 t S 0 hG (by decide)) dL_lines_367 [0, 1, 2, 3, 4, 5, 6, 7, 8] [] 0 rfl nd_0_1_2_3_4_5_6_7_8 rfl rfl rfl (by decide) (by decide) (Nat.le_of_ble_eq_true rfl) rfl ?_
        refine z_iconst C (-1) dL_lines_370 (by decide) ?_
        refine z_icmp_eq_t C 376 dL_lines_371 (by decide) rfl ?_
        refine z_iinc C (nI 1) dL_lines_376 rfl (zi_1 _) ?_
        refine z_lv (lv' := [some (.ref x0), some (.int (nI fr0)), some (.int (nI dm0)), some (.int (nI 1)), some (.int (nI cl0)), some (.int (nI ol0)), some (.int (nI (uU S 0))), none, none, none, none]) rfl ?_
        refine z_goto C 6 dL_lines_379 (by decide) ?_
        refine z_iload_n C 3 dL_lines_6 rfl rfl ?_
        refine z_iconst C (nI 2) dL_lines_7 (by decide) ?_
        refine z_ncmp_ge_f C 382 dL_lines_8 (by decide) (by omega) (by omega) (by omega) ?_
        refine z_iconst C (nI 0) dL_lines_11 (by decide) ?_
        refine z_istore C dL_lines_12 (Nat.le_of_ble_eq_true rfl) ?_
        refine z_lv (lv' := [some (.ref x0), some (.int (nI fr0)), some (.int (nI dm0)), some (.int (nI 1)), some (.int (nI 0)), some (.int (nI ol0)), some (.int (nI (uU S 0))), none, none, none, none]) rfl ?_
        refine z_iconst C (nI 0) dL_lines_14 (by decide) ?_
        refine z_istore C dL_lines_15 (Nat.le_of_ble_eq_true rfl) ?_
        refine z_lv (lv' := [some (.ref x0), some (.int (nI fr0)), some (.int (nI dm0)), some (.int (nI 1)), some (.int (nI 0)), some (.int (nI 0)), some (.int (nI (uU S 0))), none, none, none, none]) rfl ?_
        refine z_iconst C (nI 0) dL_lines_17 (by decide) ?_
        refine z_istore C dL_lines_18 (Nat.le_of_ble_eq_true rfl) ?_
        refine z_lv (lv' := [some (.ref x0), some (.int (nI fr0)), some (.int (nI dm0)), some (.int (nI 1)), some (.int (nI 0)), some (.int (nI 0)), some (.int (nI 0)), none, none, none, none]) rfl ?_
        have hL20_1 : ∀ (dd20_1 : Nat) (p1 : Nat) (fr1 : Nat) (dm1 : Nat) (cl1 : Nat) (ol1 : Nat), uU S 1 - p1 = dd20_1 → (p1 ≤ uU S 1) → (fr1 = zc (Nw S 0) (uU S 0) + zc (Nw S 1) p1) → (dm1 = zc (Dm S 0) (uU S 0) + zc (Dm S 1) p1) → (cl1 = zc (nDm S 1) p1) → (ol1 = zc (nNw S 1) p1) → zG X 0 0 (WCd X.2.1 x0 h0 h1 w0 w1 t S o kp ln ps) [some (.ref x0), some (.int (nI fr1)), some (.int (nI dm1)), some (.int (nI 1)), some (.int (nI cl1)), some (.int (nI ol1)), some (.int (nI p1)), none, none, none, none] [] 20 := by
          intro dd20_1
          induction dd20_1 using Nat.strongRecOn with
          | _ dd20_1 ih20_1 =>
            intro p1 fr1 dm1 cl1 ol1 hdd20_1 hp1 hfr1 hdm1 hcl1 hol1
            have ha1 := zc_le (Nw S 1) p1
            have hb1 := zc_le (Dm S 1) p1
            have hc1 := zc_le (nDm S 1) p1
            have hd1 := zc_le (nNw S 1) p1
            refine z_iload C dL_lines_20 rfl ?_
            refine z_aload_n C 0 dL_lines_22 rfl rfl ?_
            refine z_iconst C (nI 0) dL_lines_23 (by decide) ?_
            refine z_iload_n C 3 dL_lines_24 rfl rfl ?_
            refine z_callVr C kX5_size gL_lines_X5_size (l_size0 X.2.1 x0 h0 w0 t S 1 hG (by decide)) dL_lines_25 [0, 1, 2, 3, 4, 5, 6, 7, 8] [.int (nI p1)] 0 rfl nd_0_1_2_3_4_5_6_7_8 rfl rfl rfl (by decide) (by decide) (Nat.le_of_ble_eq_true rfl) rfl ?_
            refine z_ncmp_ge C 325 dL_lines_28 (by decide) (by omega) (by omega) (fun h_4 => ?_) (fun h_4 => ?_)
            · obtain rfl : p1 = uU S 1 := (by omega)
              refine z_aload_n C 0 dL_lines_325 rfl rfl ?_
              refine z_iconst C (nI 1) dL_lines_326 (by decide) ?_
              refine z_iload_n C 3 dL_lines_327 rfl rfl ?_
              refine z_callVr C kX5_size gL_lines_X5_size (l_size1 X.2.1 x0 h0 w0 t S 1 hG (by decide)) dL_lines_328 [0, 1, 2, 3, 4, 5, 6, 7, 8] [] 0 rfl nd_0_1_2_3_4_5_6_7_8 rfl rfl rfl (by decide) (by decide) (Nat.le_of_ble_eq_true rfl) rfl ?_
              have hg_5 : zc (nDm S 1) (uU S 1) ≤ uU S 1 := zc_le _ _
              refine z_iload C dL_lines_331 rfl ?_
              refine z_ncmp_ne_f C 374 dL_lines_333 (by decide) (by omega) (by omega) (by omega) ?_
              refine z_aload_n C 0 dL_lines_336 rfl rfl ?_
              refine z_iconst C (nI 2) dL_lines_337 (by decide) ?_
              refine z_iload_n C 3 dL_lines_338 rfl rfl ?_
              refine z_callVr C kX5_size gL_lines_X5_size (l_size2 X.2.1 x0 h0 w0 t S 1 hG (by decide)) dL_lines_339 [0, 1, 2, 3, 4, 5, 6, 7, 8] [] 0 rfl nd_0_1_2_3_4_5_6_7_8 rfl rfl rfl (by decide) (by decide) (Nat.le_of_ble_eq_true rfl) rfl ?_
              have hg_6 : zc (nNw S 1) (uU S 1) ≤ uU S 1 := zc_le _ _
              refine z_iload C dL_lines_342 rfl ?_
              refine z_ncmp_ne_f C 374 dL_lines_344 (by decide) (by omega) (by omega) (by omega) ?_
              refine z_aload_n C 0 dL_lines_347 rfl rfl ?_
              refine z_iload_n C 3 dL_lines_348 rfl rfl ?_
              refine z_aload_n C 0 dL_lines_349 rfl rfl ?_
              refine z_iconst C (nI 0) dL_lines_350 (by decide) ?_
              refine z_iload_n C 3 dL_lines_351 rfl rfl ?_
              refine z_callVr C kX5_size gL_lines_X5_size (l_size0 X.2.1 x0 h0 w0 t S 1 hG (by decide)) dL_lines_352 [0, 1, 2, 3, 4, 5, 6, 7, 8] [.int (nI 1), .ref x0] 0 rfl nd_0_1_2_3_4_5_6_7_8 rfl rfl rfl (by decide) (by decide) (Nat.le_of_ble_eq_true rfl) rfl ?_
              refine z_iconst C (nI 0) dL_lines_355 (by decide) ?_
              refine z_callVr C kX5_line gL_lines_X5_line (l_lineU X.2.1 x0 h0 w0 t S 1 (uU S 1) hG (by decide) hp1 (by omega)) dL_lines_356 [0, 1, 2, 3, 4, 5, 6, 7, 8] [] 0 rfl nd_0_1_2_3_4_5_6_7_8 rfl rfl rfl (by decide) (by decide) (Nat.le_of_ble_eq_true rfl) rfl ?_
              refine z_iconst C (-1) dL_lines_359 (by decide) ?_
              refine z_icmp_ne_f C 374 dL_lines_360 (by decide) rfl ?_
              refine z_aload_n C 0 dL_lines_363 rfl rfl ?_
              refine z_iload_n C 3 dL_lines_364 rfl rfl ?_
              refine z_iconst C (-1) dL_lines_365 (by decide) ?_
              refine z_iconst C (nI 0) dL_lines_366 (by decide) ?_
              refine z_callVr C kX5_line gL_lines_X5_line (l_lineM X.2.1 x0 h0 w0 t S 1 hG (by decide)) dL_lines_367 [0, 1, 2, 3, 4, 5, 6, 7, 8] [] 0 rfl nd_0_1_2_3_4_5_6_7_8 rfl rfl rfl (by decide) (by decide) (Nat.le_of_ble_eq_true rfl) rfl ?_
              refine z_iconst C (-1) dL_lines_370 (by decide) ?_
              refine z_icmp_eq_t C 376 dL_lines_371 (by decide) rfl ?_
              refine z_iinc C (nI 2) dL_lines_376 rfl (zi_1 _) ?_
              refine z_lv (lv' := [some (.ref x0), some (.int (nI fr1)), some (.int (nI dm1)), some (.int (nI 2)), some (.int (nI cl1)), some (.int (nI ol1)), some (.int (nI (uU S 1))), none, none, none, none]) rfl ?_
              refine z_goto C 6 dL_lines_379 (by decide) ?_
              refine z_iload_n C 3 dL_lines_6 rfl rfl ?_
              refine z_iconst C (nI 2) dL_lines_7 (by decide) ?_
              refine z_ncmp_ge_t C 382 dL_lines_8 (by decide) (by omega) (by omega) (by omega) ?_
              refine z_aload_n C 0 dL_lines_382 rfl rfl ?_
              refine z_bipush C (nI 6) dL_lines_383 (by decide) ?_
              refine z_callVr C kX5_count gL_lines_X5_count (l_cnt6 X.2.1 x0 h0 h1 w0 w1 t S o kp ln ps  hG ) dL_lines_385 [0, 1, 2, 3, 4, 5, 6, 7, 8, 9, 10] [] 0 rfl nd_0_1_2_3_4_5_6_7_8_9_10 rfl rfl rfl (by decide) (by decide) (Nat.le_of_ble_eq_true rfl) rfl ?_
              refine z_iload_n C 1 dL_lines_388 rfl rfl ?_
              refine z_ncmp_ne_f C 437 dL_lines_389 (by decide) (by omega) (by omega) (by omega) ?_
              refine z_aload_n C 0 dL_lines_392 rfl rfl ?_
              refine z_bipush C (nI 7) dL_lines_393 (by decide) ?_
              refine z_callVr C kX5_count gL_lines_X5_count (l_cnt7 X.2.1 x0 h0 h1 w0 w1 t S o kp ln ps  hG ) dL_lines_395 [0, 1, 2, 3, 4, 5, 6, 7, 8, 9, 10] [] 0 rfl nd_0_1_2_3_4_5_6_7_8_9_10 rfl rfl rfl (by decide) (by decide) (Nat.le_of_ble_eq_true rfl) rfl ?_
              refine z_iload_n C 2 dL_lines_398 rfl rfl ?_
              refine z_ncmp_ne_f C 437 dL_lines_399 (by decide) (by omega) (by omega) (by omega) ?_
              refine z_aload_n C 0 dL_lines_402 rfl rfl ?_
              refine z_iconst C (nI 3) dL_lines_403 (by decide) ?_
              refine z_iconst C (nI 0) dL_lines_404 (by decide) ?_
              refine z_callVr C kX5_size gL_lines_X5_size (l_size3 X.2.1 x0 h0 w0 t S  hG ) dL_lines_405 [0, 1, 2, 3, 4, 5, 6, 7, 8] [] 0 rfl nd_0_1_2_3_4_5_6_7_8 rfl rfl rfl (by decide) (by decide) (Nat.le_of_ble_eq_true rfl) rfl ?_
              refine z_iconst C (-1) dL_lines_408 (by decide) ?_
              refine z_icmp_ne_f C 437 dL_lines_409 (by decide) rfl ?_
              refine z_aload_n C 0 dL_lines_412 rfl rfl ?_
              refine z_iconst C (nI 0) dL_lines_413 (by decide) ?_
              refine z_iconst C (nI 2) dL_lines_414 (by decide) ?_
              refine z_callVr C kX5_size gL_lines_X5_size (l_sizeA X.2.1 x0 h0 w0 t S  hG ) dL_lines_415 [0, 1, 2, 3, 4, 5, 6, 7, 8] [] 0 rfl nd_0_1_2_3_4_5_6_7_8 rfl rfl rfl (by decide) (by decide) (Nat.le_of_ble_eq_true rfl) rfl ?_
              refine z_iconst C (-1) dL_lines_418 (by decide) ?_
              refine z_icmp_ne_f C 437 dL_lines_419 (by decide) rfl ?_
              refine z_aload_n C 0 dL_lines_422 rfl rfl ?_
              refine z_iconst C (nI 2) dL_lines_423 (by decide) ?_
              refine z_iconst C (nI 0) dL_lines_424 (by decide) ?_
              refine z_iconst C (nI 0) dL_lines_425 (by decide) ?_
              refine z_callVr C kX5_line gL_lines_X5_line (l_lineA X.2.1 x0 h0 w0 t S  hG ) dL_lines_426 [0, 1, 2, 3, 4, 5, 6, 7, 8] [] 0 rfl nd_0_1_2_3_4_5_6_7_8 rfl rfl rfl (by decide) (by decide) (Nat.le_of_ble_eq_true rfl) rfl ?_
              refine z_iconst C (-1) dL_lines_429 (by decide) ?_
              refine z_icmp_ne_f C 437 dL_lines_430 (by decide) rfl ?_
              refine z_iconst C (nI 1) dL_lines_433 (by decide) ?_
              refine z_goto C 438 dL_lines_434 (by decide) ?_
              exact z_zret C N dL_lines_438 rfl (rfl) (rfl)
            · refine z_aload_n C 0 dL_lines_31 rfl rfl ?_
              refine z_iload_n C 3 dL_lines_32 rfl rfl ?_
              refine z_iload C dL_lines_33 rfl ?_
              refine z_iconst C (nI 0) dL_lines_35 (by decide) ?_
              rcases Bool.eq_false_or_eq_true (Nw S 1 p1) with hq_7 | hq_7
              · have fk_8 : xI S 1 p1 < mK S := (lnI hG (by decide) h_4 hq_7).1
                have fk_9 : kN S (xI S 1 p1) = 2 := (lnI hG (by decide) h_4 hq_7).2.1
                have fk_10 : sN S (xI S 1 p1) = 0 := (lnI hG (by decide) h_4 hq_7).2.2.1
                have fk_11 : lP S 1 (xI S 1 p1) = p1 + 1 := (lnI hG (by decide) h_4 hq_7).2.2.2.1
                have fk_12 : lP S 0 (xI S 1 p1) = 0 := (lnI hG (by decide) h_4 hq_7).2.2.2.2
                refine z_callVr C kX5_line gL_lines_X5_line (l_line0y X.2.1 x0 h0 w0 t S 1 p1 hG (by decide) h_4 hq_7) dL_lines_36 [0, 1, 2, 3, 4, 5, 6, 7, 8] [] 0 rfl nd_0_1_2_3_4_5_6_7_8 rfl rfl rfl (by decide) (by decide) (Nat.le_of_ble_eq_true rfl) rfl ?_
                refine z_istore C dL_lines_39 (Nat.le_of_ble_eq_true rfl) ?_
                refine z_lv (lv' := [some (.ref x0), some (.int (nI fr1)), some (.int (nI dm1)), some (.int (nI 1)), some (.int (nI cl1)), some (.int (nI ol1)), some (.int (nI p1)), some (.int (nI (xI S 1 p1))), none, none, none]) rfl ?_
                refine z_aload_n C 0 dL_lines_41 rfl rfl ?_
                refine z_iload_n C 3 dL_lines_42 rfl rfl ?_
                refine z_iload C dL_lines_43 rfl ?_
                refine z_iconst C (nI 1) dL_lines_45 (by decide) ?_
                rcases Bool.eq_false_or_eq_true (Dm S 1 p1) with hq_13 | hq_13
                · have fk_14 : xR S 1 p1 < mK S := (lnR hG (by decide) h_4 hq_13).1
                  have fk_15 : kN S (xR S 1 p1) = 3 := (lnR hG (by decide) h_4 hq_13).2.1
                  have fk_16 : sN S (xR S 1 p1) = 0 := (lnR hG (by decide) h_4 hq_13).2.2.1
                  have fk_17 : lP S 1 (xR S 1 p1) = p1 + 1 := (lnR hG (by decide) h_4 hq_13).2.2.2
                  have fk_18 : zc (sup S (xR S 1 p1)) (mK S) = 1 := lnR7y hG (by decide) hq_13 hq_7
                  refine z_callVr C kX5_line gL_lines_X5_line (l_line1y X.2.1 x0 h0 w0 t S 1 p1 hG (by decide) h_4 hq_13) dL_lines_46 [0, 1, 2, 3, 4, 5, 6, 7, 8] [] 0 rfl nd_0_1_2_3_4_5_6_7_8 rfl rfl rfl (by decide) (by decide) (Nat.le_of_ble_eq_true rfl) rfl ?_
                  refine z_istore C dL_lines_49 (Nat.le_of_ble_eq_true rfl) ?_
                  refine z_lv (lv' := [some (.ref x0), some (.int (nI fr1)), some (.int (nI dm1)), some (.int (nI 1)), some (.int (nI cl1)), some (.int (nI ol1)), some (.int (nI p1)), some (.int (nI (xI S 1 p1))), some (.int (nI (xR S 1 p1))), none, none]) rfl ?_
                  refine z_iload_n C 1 dL_lines_51 rfl rfl ?_
                  refine z_iload C dL_lines_52 rfl ?_
                  refine z_nif_lt_f C 61 dL_lines_54 (by decide) (by omega) (by trivial) ?_
                  refine z_iconst C (nI 1) dL_lines_57 (by decide) ?_
                  refine z_goto C 62 dL_lines_58 (by decide) ?_
                  refine z_iadd C dL_lines_62 ?_
                  refine z_top (y := nI (fr1 + 1)) (nI_add _ _) ?_
                  refine z_istore_n C 1 dL_lines_63 rfl (Nat.le_of_ble_eq_true rfl) ?_
                  refine z_lv (lv' := [some (.ref x0), some (.int (nI (fr1 + 1))), some (.int (nI dm1)), some (.int (nI 1)), some (.int (nI cl1)), some (.int (nI ol1)), some (.int (nI p1)), some (.int (nI (xI S 1 p1))), some (.int (nI (xR S 1 p1))), none, none]) rfl ?_
                  refine z_iload_n C 2 dL_lines_64 rfl rfl ?_
                  refine z_iload C dL_lines_65 rfl ?_
                  refine z_nif_lt_f C 74 dL_lines_67 (by decide) (by omega) (by trivial) ?_
                  refine z_iconst C (nI 1) dL_lines_70 (by decide) ?_
                  refine z_goto C 75 dL_lines_71 (by decide) ?_
                  refine z_iadd C dL_lines_75 ?_
                  refine z_top (y := nI (dm1 + 1)) (nI_add _ _) ?_
                  refine z_istore_n C 2 dL_lines_76 rfl (Nat.le_of_ble_eq_true rfl) ?_
                  refine z_lv (lv' := [some (.ref x0), some (.int (nI (fr1 + 1))), some (.int (nI (dm1 + 1))), some (.int (nI 1)), some (.int (nI cl1)), some (.int (nI ol1)), some (.int (nI p1)), some (.int (nI (xI S 1 p1))), some (.int (nI (xR S 1 p1))), none, none]) rfl ?_
                  refine z_aload_n C 0 dL_lines_77 rfl rfl ?_
                  refine z_iload_n C 3 dL_lines_78 rfl rfl ?_
                  refine z_iload C dL_lines_79 rfl ?_
                  refine z_iconst C (nI 2) dL_lines_81 (by decide) ?_
                  refine z_callVr C kX5_line gL_lines_X5_line (l_line2y X.2.1 x0 h0 w0 t S 1 p1 hG (by decide) h_4 hq_13) dL_lines_82 [0, 1, 2, 3, 4, 5, 6, 7, 8] [] 0 rfl nd_0_1_2_3_4_5_6_7_8 rfl rfl rfl (by decide) (by decide) (Nat.le_of_ble_eq_true rfl) rfl ?_
                  refine z_iload C dL_lines_85 rfl ?_
                  refine z_nif_lt_f C 95 dL_lines_87 (by decide) (by omega) (by trivial) ?_
                  refine z_bipush C (-5) dL_lines_90 (by decide) ?_
                  refine z_goto C 97 dL_lines_92 (by decide) ?_
                  refine z_icmp_ne_f C 136 dL_lines_97 (by decide) rfl ?_
                  refine z_aload_n C 0 dL_lines_100 rfl rfl ?_
                  refine z_iload_n C 3 dL_lines_101 rfl rfl ?_
                  refine z_iload C dL_lines_102 rfl ?_
                  refine z_iconst C (nI 3) dL_lines_104 (by decide) ?_
                  refine z_callVr C kX5_line gL_lines_X5_line (l_line3y X.2.1 x0 h0 w0 t S 1 p1 hG (by decide) h_4 hq_7) dL_lines_105 [0, 1, 2, 3, 4, 5, 6, 7, 8] [] 0 rfl nd_0_1_2_3_4_5_6_7_8 rfl rfl rfl (by decide) (by decide) (Nat.le_of_ble_eq_true rfl) rfl ?_
                  refine z_iload C dL_lines_108 rfl ?_
                  refine z_nif_lt_f C 118 dL_lines_110 (by decide) (by omega) (by trivial) ?_
                  refine z_bipush C (-5) dL_lines_113 (by decide) ?_
                  refine z_goto C 120 dL_lines_115 (by decide) ?_
                  refine z_icmp_ne_f C 136 dL_lines_120 (by decide) rfl ?_
                  refine z_aload_n C 0 dL_lines_123 rfl rfl ?_
                  refine z_iload_n C 3 dL_lines_124 rfl rfl ?_
                  refine z_iload C dL_lines_125 rfl ?_
                  refine z_iconst C (nI 5) dL_lines_127 (by decide) ?_
                  refine z_callVr C kX5_line gL_lines_X5_line (l_line5 X.2.1 x0 h0 w0 t S 1 p1 hG (by decide) h_4) dL_lines_128 [0, 1, 2, 3, 4, 5, 6, 7, 8] [] 0 rfl nd_0_1_2_3_4_5_6_7_8 rfl rfl rfl (by decide) (by decide) (Nat.le_of_ble_eq_true rfl) rfl ?_
                  refine z_bipush C (-2) dL_lines_131 (by decide) ?_
                  refine z_icmp_eq_t C 138 dL_lines_133 (by decide) rfl ?_
                  refine z_iload C dL_lines_138 rfl ?_
                  refine z_iload C dL_lines_140 rfl ?_
                  refine z_nif_lt_f C 149 dL_lines_142 (by decide) (by omega) (by trivial) ?_
                  refine z_iconst C (nI 0) dL_lines_145 (by decide) ?_
                  refine z_goto C 150 dL_lines_146 (by decide) ?_
                  refine z_iadd C dL_lines_150 ?_
                  refine z_top (y := nI cl1) (nI_add _ _) ?_
                  refine z_istore C dL_lines_151 (Nat.le_of_ble_eq_true rfl) ?_
                  refine z_lv (lv' := [some (.ref x0), some (.int (nI (fr1 + 1))), some (.int (nI (dm1 + 1))), some (.int (nI 1)), some (.int (nI cl1)), some (.int (nI ol1)), some (.int (nI p1)), some (.int (nI (xI S 1 p1))), some (.int (nI (xR S 1 p1))), none, none]) rfl ?_
                  refine z_iload C dL_lines_153 rfl ?_
                  refine z_iload C dL_lines_155 rfl ?_
                  refine z_nif_lt_f C 164 dL_lines_157 (by decide) (by omega) (by trivial) ?_
                  refine z_iconst C (nI 0) dL_lines_160 (by decide) ?_
                  refine z_goto C 165 dL_lines_161 (by decide) ?_
                  refine z_iadd C dL_lines_165 ?_
                  refine z_top (y := nI ol1) (nI_add _ _) ?_
                  refine z_istore C dL_lines_166 (Nat.le_of_ble_eq_true rfl) ?_
                  refine z_lv (lv' := [some (.ref x0), some (.int (nI (fr1 + 1))), some (.int (nI (dm1 + 1))), some (.int (nI 1)), some (.int (nI cl1)), some (.int (nI ol1)), some (.int (nI p1)), some (.int (nI (xI S 1 p1))), some (.int (nI (xR S 1 p1))), none, none]) rfl ?_
                  refine z_iload C dL_lines_168 rfl ?_
                  refine z_bipush C (-5) dL_lines_170 (by decide) ?_
                  refine z_icmp_eq C 226 dL_lines_172 (by decide) (fun h_19 => ?_) (fun h_19 => ?_)
                  · refine z_iconst C (nI 1) dL_lines_226 (by decide) ?_
                    refine z_goto C 231 dL_lines_227 (by decide) ?_
                    refine z_istore C dL_lines_231 (Nat.le_of_ble_eq_true rfl) ?_
                    refine z_lv (lv' := [some (.ref x0), some (.int (nI (fr1 + 1))), some (.int (nI (dm1 + 1))), some (.int (nI 1)), some (.int (nI cl1)), some (.int (nI ol1)), some (.int (nI p1)), some (.int (nI (xI S 1 p1))), some (.int (nI (xR S 1 p1))), some (.int (nI 1)), none]) rfl ?_
                    refine z_iload C dL_lines_233 rfl ?_
                    refine z_bipush C (-5) dL_lines_235 (by decide) ?_
                    refine z_icmp_eq C 300 dL_lines_237 (by decide) (fun h_20 => ?_) (fun h_20 => ?_)
                    · refine z_iconst C (nI 1) dL_lines_300 (by decide) ?_
                      refine z_goto C 305 dL_lines_301 (by decide) ?_
                      refine z_istore C dL_lines_305 (Nat.le_of_ble_eq_true rfl) ?_
                      refine z_lv (lv' := [some (.ref x0), some (.int (nI (fr1 + 1))), some (.int (nI (dm1 + 1))), some (.int (nI 1)), some (.int (nI cl1)), some (.int (nI ol1)), some (.int (nI p1)), some (.int (nI (xI S 1 p1))), some (.int (nI (xR S 1 p1))), some (.int (nI 1)), some (.int (nI 1))]) rfl ?_
                      refine z_iload C dL_lines_307 rfl ?_
                      refine z_nif_eq_f C 317 dL_lines_309 (by decide) (by omega) (by omega) ?_
                      refine z_iload C dL_lines_312 rfl ?_
                      refine z_nif_ne_t C 319 dL_lines_314 (by decide) (by omega) (by omega) ?_
                      refine z_iinc C (nI (p1 + 1)) dL_lines_319 rfl (zi_1 _) ?_
                      refine z_lv (lv' := [some (.ref x0), some (.int (nI (fr1 + 1))), some (.int (nI (dm1 + 1))), some (.int (nI 1)), some (.int (nI cl1)), some (.int (nI ol1)), some (.int (nI (p1 + 1))), some (.int (nI (xI S 1 p1))), some (.int (nI (xR S 1 p1))), some (.int (nI 1)), some (.int (nI 1))]) rfl ?_
                      refine z_goto C 20 dL_lines_322 (by decide) ?_
                      refine z_kill 7 ?_
                      refine z_kill 8 ?_
                      refine z_kill 9 ?_
                      refine z_kill 10 ?_
                      exact ih20_1 (uU S 1 - (p1 + 1)) (by omega) (p1 + 1) (fr1 + 1) (dm1 + 1) cl1 ol1 rfl (by omega) (by first | exact inc_yc (by assumption) hfr1 | exact inc_nc (by assumption) hfr1) (by first | exact inc_yc (by assumption) hdm1 | exact inc_nc (by assumption) hdm1) (by first | exact inc_y (nDm_t (by assumption)) hcl1 | exact inc_n (nDm_f (by assumption)) hcl1) (by first | exact inc_y (nNw_t (by assumption)) hol1 | exact inc_n (nNw_f (by assumption)) hol1)
                    · refine z_aload_n C 0 dL_lines_240 rfl rfl ?_
                      refine z_iload C dL_lines_241 rfl ?_
                      refine z_iconst C (nI 0) dL_lines_243 (by decide) ?_
                      refine z_callVr C kX5_change gL_lines_X5_change (l_chg0 X.2.1 x0 h0 w0 t S (xR S 1 p1) hG fk_14) dL_lines_244 [0, 1, 2, 3, 4, 5, 6, 7, 8] [] 0 rfl nd_0_1_2_3_4_5_6_7_8 rfl rfl rfl (by decide) (by decide) (Nat.le_of_ble_eq_true rfl) rfl ?_
                      refine z_iconst C (nI 2) dL_lines_247 (by decide) ?_
                      refine z_iload_n C 3 dL_lines_248 rfl rfl ?_
                      refine z_imul C dL_lines_249 ?_
                      refine z_top (y := nI 2) (pk_mul _ _) ?_
                      refine z_iconst C (nI 1) dL_lines_250 (by decide) ?_
                      refine z_iadd C dL_lines_251 ?_
                      refine z_top (y := nI 3) (nI_add _ _) ?_
                      refine z_ncmp_ne_f C 304 dL_lines_252 (by decide) (by omega) (by omega) (by omega) ?_
                      refine z_aload_n C 0 dL_lines_255 rfl rfl ?_
                      refine z_iload C dL_lines_256 rfl ?_
                      refine z_iconst C (nI 2) dL_lines_258 (by decide) ?_
                      refine z_callVr C kX5_change gL_lines_X5_change (l_chg2 X.2.1 x0 h0 w0 t S (xR S 1 p1) hG fk_14) dL_lines_259 [0, 1, 2, 3, 4, 5, 6, 7, 8] [] 0 rfl nd_0_1_2_3_4_5_6_7_8 rfl rfl rfl (by decide) (by decide) (Nat.le_of_ble_eq_true rfl) rfl ?_
                      refine z_nif_ne_f C 304 dL_lines_262 (by decide) (by omega) (by omega) ?_
                      refine z_aload_n C 0 dL_lines_265 rfl rfl ?_
                      refine z_iload C dL_lines_266 rfl ?_
                      refine z_iconst C (nI 3) dL_lines_268 (by decide) ?_
                      refine z_iload_n C 3 dL_lines_269 rfl rfl ?_
                      refine z_iadd C dL_lines_270 ?_
                      refine z_top (y := nI 4) (nI_add _ _) ?_
                      refine z_callVr C kX5_change gL_lines_X5_change (l_chg4y X.2.1 x0 h0 w0 t S (xR S 1 p1) p1 hG fk_14 fk_17) dL_lines_271 [0, 1, 2, 3, 4, 5, 6, 7, 8] [] 0 rfl nd_0_1_2_3_4_5_6_7_8 rfl rfl rfl (by decide) (by decide) (Nat.le_of_ble_eq_true rfl) rfl ?_
                      refine z_iload C dL_lines_274 rfl ?_
                      refine z_ncmp_ne_f C 304 dL_lines_276 (by decide) (by omega) (by omega) (by omega) ?_
                      refine z_aload_n C 0 dL_lines_279 rfl rfl ?_
                      refine z_iload C dL_lines_280 rfl ?_
                      refine z_bipush C (nI 7) dL_lines_282 (by decide) ?_
                      refine z_callVr C kX5_change gL_lines_X5_change (l_chg7 X.2.1 x0 h0 w0 t S (xR S 1 p1) hG fk_14) dL_lines_284 [0, 1, 2, 3, 4, 5, 6, 7, 8] [] 0 rfl nd_0_1_2_3_4_5_6_7_8 rfl rfl rfl (by decide) (by decide) (Nat.le_of_ble_eq_true rfl) rfl ?_
                      have hg_21 : zc (sup S (xR S 1 p1)) (mK S) ≤ mK S := zc_le _ _
                      refine z_iload C dL_lines_287 rfl ?_
                      refine z_nif_lt_f C 296 dL_lines_289 (by decide) (by omega) (by trivial) ?_
                      refine z_iconst C (nI 1) dL_lines_292 (by decide) ?_
                      refine z_goto C 297 dL_lines_293 (by decide) ?_
                      refine z_ncmp_ne_f C 304 dL_lines_297 (by decide) (by omega) (by omega) (by omega) ?_
                      refine z_iconst C (nI 1) dL_lines_300 (by decide) ?_
                      refine z_goto C 305 dL_lines_301 (by decide) ?_
                      refine z_istore C dL_lines_305 (Nat.le_of_ble_eq_true rfl) ?_
                      refine z_lv (lv' := [some (.ref x0), some (.int (nI (fr1 + 1))), some (.int (nI (dm1 + 1))), some (.int (nI 1)), some (.int (nI cl1)), some (.int (nI ol1)), some (.int (nI p1)), some (.int (nI (xI S 1 p1))), some (.int (nI (xR S 1 p1))), some (.int (nI 1)), some (.int (nI 1))]) rfl ?_
                      refine z_iload C dL_lines_307 rfl ?_
                      refine z_nif_eq_f C 317 dL_lines_309 (by decide) (by omega) (by omega) ?_
                      refine z_iload C dL_lines_312 rfl ?_
                      refine z_nif_ne_t C 319 dL_lines_314 (by decide) (by omega) (by omega) ?_
                      refine z_iinc C (nI (p1 + 1)) dL_lines_319 rfl (zi_1 _) ?_
                      refine z_lv (lv' := [some (.ref x0), some (.int (nI (fr1 + 1))), some (.int (nI (dm1 + 1))), some (.int (nI 1)), some (.int (nI cl1)), some (.int (nI ol1)), some (.int (nI (p1 + 1))), some (.int (nI (xI S 1 p1))), some (.int (nI (xR S 1 p1))), some (.int (nI 1)), some (.int (nI 1))]) rfl ?_
                      refine z_goto C 20 dL_lines_322 (by decide) ?_
                      refine z_kill 7 ?_
                      refine z_kill 8 ?_
                      refine z_kill 9 ?_
                      refine z_kill 10 ?_
                      exact ih20_1 (uU S 1 - (p1 + 1)) (by omega) (p1 + 1) (fr1 + 1) (dm1 + 1) cl1 ol1 rfl (by omega) (by first | exact inc_yc (by assumption) hfr1 | exact inc_nc (by assumption) hfr1) (by first | exact inc_yc (by assumption) hdm1 | exact inc_nc (by assumption) hdm1) (by first | exact inc_y (nDm_t (by assumption)) hcl1 | exact inc_n (nDm_f (by assumption)) hcl1) (by first | exact inc_y (nNw_t (by assumption)) hol1 | exact inc_n (nNw_f (by assumption)) hol1)
                  · refine z_aload_n C 0 dL_lines_175 rfl rfl ?_
                    refine z_iload C dL_lines_176 rfl ?_
                    refine z_iconst C (nI 0) dL_lines_178 (by decide) ?_
                    refine z_callVr C kX5_change gL_lines_X5_change (l_chg0 X.2.1 x0 h0 w0 t S (xI S 1 p1) hG fk_8) dL_lines_179 [0, 1, 2, 3, 4, 5, 6, 7, 8] [] 0 rfl nd_0_1_2_3_4_5_6_7_8 rfl rfl rfl (by decide) (by decide) (Nat.le_of_ble_eq_true rfl) rfl ?_
                    refine z_iconst C (nI 2) dL_lines_182 (by decide) ?_
                    refine z_iload_n C 3 dL_lines_183 rfl rfl ?_
                    refine z_imul C dL_lines_184 ?_
                    refine z_top (y := nI 2) (pk_mul _ _) ?_
                    refine z_ncmp_ne_f C 230 dL_lines_185 (by decide) (by omega) (by omega) (by omega) ?_
                    refine z_aload_n C 0 dL_lines_188 rfl rfl ?_
                    refine z_iload C dL_lines_189 rfl ?_
                    refine z_iconst C (nI 2) dL_lines_191 (by decide) ?_
                    refine z_callVr C kX5_change gL_lines_X5_change (l_chg2 X.2.1 x0 h0 w0 t S (xI S 1 p1) hG fk_8) dL_lines_192 [0, 1, 2, 3, 4, 5, 6, 7, 8] [] 0 rfl nd_0_1_2_3_4_5_6_7_8 rfl rfl rfl (by decide) (by decide) (Nat.le_of_ble_eq_true rfl) rfl ?_
                    refine z_nif_ne_f C 230 dL_lines_195 (by decide) (by omega) (by omega) ?_
                    refine z_aload_n C 0 dL_lines_198 rfl rfl ?_
                    refine z_iload C dL_lines_199 rfl ?_
                    refine z_iconst C (nI 3) dL_lines_201 (by decide) ?_
                    refine z_iload_n C 3 dL_lines_202 rfl rfl ?_
                    refine z_iadd C dL_lines_203 ?_
                    refine z_top (y := nI 4) (nI_add _ _) ?_
                    refine z_callVr C kX5_change gL_lines_X5_change (l_chg4y X.2.1 x0 h0 w0 t S (xI S 1 p1) p1 hG fk_8 fk_11) dL_lines_204 [0, 1, 2, 3, 4, 5, 6, 7, 8] [] 0 rfl nd_0_1_2_3_4_5_6_7_8 rfl rfl rfl (by decide) (by decide) (Nat.le_of_ble_eq_true rfl) rfl ?_
                    refine z_iload C dL_lines_207 rfl ?_
                    refine z_ncmp_ne_f C 230 dL_lines_209 (by decide) (by omega) (by omega) (by omega) ?_
                    refine z_aload_n C 0 dL_lines_212 rfl rfl ?_
                    refine z_iload C dL_lines_213 rfl ?_
                    refine z_iconst C (nI 4) dL_lines_215 (by decide) ?_
                    refine z_iload_n C 3 dL_lines_216 rfl rfl ?_
                    refine z_isub C dL_lines_217 ?_
                    refine z_top (y := nI 3) ((pk_sub (by omega)).trans (congrArg nI (by omega))) ?_
                    refine z_callVr C kX5_change gL_lines_X5_change (l_chg3n X.2.1 x0 h0 w0 t S (xI S 1 p1) hG fk_8 fk_12) dL_lines_218 [0, 1, 2, 3, 4, 5, 6, 7, 8] [] 0 rfl nd_0_1_2_3_4_5_6_7_8 rfl rfl rfl (by decide) (by decide) (Nat.le_of_ble_eq_true rfl) rfl ?_
                    refine z_bipush C (-5) dL_lines_221 (by decide) ?_
                    refine z_icmp_ne_f C 230 dL_lines_223 (by decide) rfl ?_
                    refine z_iconst C (nI 1) dL_lines_226 (by decide) ?_
                    refine z_goto C 231 dL_lines_227 (by decide) ?_
                    refine z_istore C dL_lines_231 (Nat.le_of_ble_eq_true rfl) ?_
                    refine z_lv (lv' := [some (.ref x0), some (.int (nI (fr1 + 1))), some (.int (nI (dm1 + 1))), some (.int (nI 1)), some (.int (nI cl1)), some (.int (nI ol1)), some (.int (nI p1)), some (.int (nI (xI S 1 p1))), some (.int (nI (xR S 1 p1))), some (.int (nI 1)), none]) rfl ?_
                    refine z_iload C dL_lines_233 rfl ?_
                    refine z_bipush C (-5) dL_lines_235 (by decide) ?_
                    refine z_icmp_eq C 300 dL_lines_237 (by decide) (fun h_22 => ?_) (fun h_22 => ?_)
                    · refine z_iconst C (nI 1) dL_lines_300 (by decide) ?_
                      refine z_goto C 305 dL_lines_301 (by decide) ?_
                      refine z_istore C dL_lines_305 (Nat.le_of_ble_eq_true rfl) ?_
                      refine z_lv (lv' := [some (.ref x0), some (.int (nI (fr1 + 1))), some (.int (nI (dm1 + 1))), some (.int (nI 1)), some (.int (nI cl1)), some (.int (nI ol1)), some (.int (nI p1)), some (.int (nI (xI S 1 p1))), some (.int (nI (xR S 1 p1))), some (.int (nI 1)), some (.int (nI 1))]) rfl ?_
                      refine z_iload C dL_lines_307 rfl ?_
                      refine z_nif_eq_f C 317 dL_lines_309 (by decide) (by omega) (by omega) ?_
                      refine z_iload C dL_lines_312 rfl ?_
                      refine z_nif_ne_t C 319 dL_lines_314 (by decide) (by omega) (by omega) ?_
                      refine z_iinc C (nI (p1 + 1)) dL_lines_319 rfl (zi_1 _) ?_
                      refine z_lv (lv' := [some (.ref x0), some (.int (nI (fr1 + 1))), some (.int (nI (dm1 + 1))), some (.int (nI 1)), some (.int (nI cl1)), some (.int (nI ol1)), some (.int (nI (p1 + 1))), some (.int (nI (xI S 1 p1))), some (.int (nI (xR S 1 p1))), some (.int (nI 1)), some (.int (nI 1))]) rfl ?_
                      refine z_goto C 20 dL_lines_322 (by decide) ?_
                      refine z_kill 7 ?_
                      refine z_kill 8 ?_
                      refine z_kill 9 ?_
                      refine z_kill 10 ?_
                      exact ih20_1 (uU S 1 - (p1 + 1)) (by omega) (p1 + 1) (fr1 + 1) (dm1 + 1) cl1 ol1 rfl (by omega) (by first | exact inc_yc (by assumption) hfr1 | exact inc_nc (by assumption) hfr1) (by first | exact inc_yc (by assumption) hdm1 | exact inc_nc (by assumption) hdm1) (by first | exact inc_y (nDm_t (by assumption)) hcl1 | exact inc_n (nDm_f (by assumption)) hcl1) (by first | exact inc_y (nNw_t (by assumption)) hol1 | exact inc_n (nNw_f (by assumption)) hol1)
                    · refine z_aload_n C 0 dL_lines_240 rfl rfl ?_
                      refine z_iload C dL_lines_241 rfl ?_
                      refine z_iconst C (nI 0) dL_lines_243 (by decide) ?_
                      refine z_callVr C kX5_change gL_lines_X5_change (l_chg0 X.2.1 x0 h0 w0 t S (xR S 1 p1) hG fk_14) dL_lines_244 [0, 1, 2, 3, 4, 5, 6, 7, 8] [] 0 rfl nd_0_1_2_3_4_5_6_7_8 rfl rfl rfl (by decide) (by decide) (Nat.le_of_ble_eq_true rfl) rfl ?_
                      refine z_iconst C (nI 2) dL_lines_247 (by decide) ?_
                      refine z_iload_n C 3 dL_lines_248 rfl rfl ?_
                      refine z_imul C dL_lines_249 ?_
                      refine z_top (y := nI 2) (pk_mul _ _) ?_
                      refine z_iconst C (nI 1) dL_lines_250 (by decide) ?_
                      refine z_iadd C dL_lines_251 ?_
                      refine z_top (y := nI 3) (nI_add _ _) ?_
                      refine z_ncmp_ne_f C 304 dL_lines_252 (by decide) (by omega) (by omega) (by omega) ?_
                      refine z_aload_n C 0 dL_lines_255 rfl rfl ?_
                      refine z_iload C dL_lines_256 rfl ?_
                      refine z_iconst C (nI 2) dL_lines_258 (by decide) ?_
                      refine z_callVr C kX5_change gL_lines_X5_change (l_chg2 X.2.1 x0 h0 w0 t S (xR S 1 p1) hG fk_14) dL_lines_259 [0, 1, 2, 3, 4, 5, 6, 7, 8] [] 0 rfl nd_0_1_2_3_4_5_6_7_8 rfl rfl rfl (by decide) (by decide) (Nat.le_of_ble_eq_true rfl) rfl ?_
                      refine z_nif_ne_f C 304 dL_lines_262 (by decide) (by omega) (by omega) ?_
                      refine z_aload_n C 0 dL_lines_265 rfl rfl ?_
                      refine z_iload C dL_lines_266 rfl ?_
                      refine z_iconst C (nI 3) dL_lines_268 (by decide) ?_
                      refine z_iload_n C 3 dL_lines_269 rfl rfl ?_
                      refine z_iadd C dL_lines_270 ?_
                      refine z_top (y := nI 4) (nI_add _ _) ?_
                      refine z_callVr C kX5_change gL_lines_X5_change (l_chg4y X.2.1 x0 h0 w0 t S (xR S 1 p1) p1 hG fk_14 fk_17) dL_lines_271 [0, 1, 2, 3, 4, 5, 6, 7, 8] [] 0 rfl nd_0_1_2_3_4_5_6_7_8 rfl rfl rfl (by decide) (by decide) (Nat.le_of_ble_eq_true rfl) rfl ?_
                      refine z_iload C dL_lines_274 rfl ?_
                      refine z_ncmp_ne_f C 304 dL_lines_276 (by decide) (by omega) (by omega) (by omega) ?_
                      refine z_aload_n C 0 dL_lines_279 rfl rfl ?_
                      refine z_iload C dL_lines_280 rfl ?_
                      refine z_bipush C (nI 7) dL_lines_282 (by decide) ?_
                      refine z_callVr C kX5_change gL_lines_X5_change (l_chg7 X.2.1 x0 h0 w0 t S (xR S 1 p1) hG fk_14) dL_lines_284 [0, 1, 2, 3, 4, 5, 6, 7, 8] [] 0 rfl nd_0_1_2_3_4_5_6_7_8 rfl rfl rfl (by decide) (by decide) (Nat.le_of_ble_eq_true rfl) rfl ?_
                      have hg_23 : zc (sup S (xR S 1 p1)) (mK S) ≤ mK S := zc_le _ _
                      refine z_iload C dL_lines_287 rfl ?_
                      refine z_nif_lt_f C 296 dL_lines_289 (by decide) (by omega) (by trivial) ?_
                      refine z_iconst C (nI 1) dL_lines_292 (by decide) ?_
                      refine z_goto C 297 dL_lines_293 (by decide) ?_
                      refine z_ncmp_ne_f C 304 dL_lines_297 (by decide) (by omega) (by omega) (by omega) ?_
                      refine z_iconst C (nI 1) dL_lines_300 (by decide) ?_
                      refine z_goto C 305 dL_lines_301 (by decide) ?_
                      refine z_istore C dL_lines_305 (Nat.le_of_ble_eq_true rfl) ?_
                      refine z_lv (lv' := [some (.ref x0), some (.int (nI (fr1 + 1))), some (.int (nI (dm1 + 1))), some (.int (nI 1)), some (.int (nI cl1)), some (.int (nI ol1)), some (.int (nI p1)), some (.int (nI (xI S 1 p1))), some (.int (nI (xR S 1 p1))), some (.int (nI 1)), some (.int (nI 1))]) rfl ?_
                      refine z_iload C dL_lines_307 rfl ?_
                      refine z_nif_eq_f C 317 dL_lines_309 (by decide) (by omega) (by omega) ?_
                      refine z_iload C dL_lines_312 rfl ?_
                      refine z_nif_ne_t C 319 dL_lines_314 (by decide) (by omega) (by omega) ?_
                      refine z_iinc C (nI (p1 + 1)) dL_lines_319 rfl (zi_1 _) ?_
                      refine z_lv (lv' := [some (.ref x0), some (.int (nI (fr1 + 1))), some (.int (nI (dm1 + 1))), some (.int (nI 1)), some (.int (nI cl1)), some (.int (nI ol1)), some (.int (nI (p1 + 1))), some (.int (nI (xI S 1 p1))), some (.int (nI (xR S 1 p1))), some (.int (nI 1)), some (.int (nI 1))]) rfl ?_
                      refine z_goto C 20 dL_lines_322 (by decide) ?_
                      refine z_kill 7 ?_
                      refine z_kill 8 ?_
                      refine z_kill 9 ?_
                      refine z_kill 10 ?_
                      exact ih20_1 (uU S 1 - (p1 + 1)) (by omega) (p1 + 1) (fr1 + 1) (dm1 + 1) cl1 ol1 rfl (by omega) (by first | exact inc_yc (by assumption) hfr1 | exact inc_nc (by assumption) hfr1) (by first | exact inc_yc (by assumption) hdm1 | exact inc_nc (by assumption) hdm1) (by first | exact inc_y (nDm_t (by assumption)) hcl1 | exact inc_n (nDm_f (by assumption)) hcl1) (by first | exact inc_y (nNw_t (by assumption)) hol1 | exact inc_n (nNw_f (by assumption)) hol1)
                · refine z_callVr C kX5_line gL_lines_X5_line (l_line1n X.2.1 x0 h0 w0 t S 1 p1 hG (by decide) h_4 hq_13) dL_lines_46 [0, 1, 2, 3, 4, 5, 6, 7, 8] [] 0 rfl nd_0_1_2_3_4_5_6_7_8 rfl rfl rfl (by decide) (by decide) (Nat.le_of_ble_eq_true rfl) rfl ?_
                  refine z_istore C dL_lines_49 (Nat.le_of_ble_eq_true rfl) ?_
                  refine z_lv (lv' := [some (.ref x0), some (.int (nI fr1)), some (.int (nI dm1)), some (.int (nI 1)), some (.int (nI cl1)), some (.int (nI ol1)), some (.int (nI p1)), some (.int (nI (xI S 1 p1))), some (.int (-5)), none, none]) rfl ?_
                  refine z_iload_n C 1 dL_lines_51 rfl rfl ?_
                  refine z_iload C dL_lines_52 rfl ?_
                  refine z_nif_lt_f C 61 dL_lines_54 (by decide) (by omega) (by trivial) ?_
                  refine z_iconst C (nI 1) dL_lines_57 (by decide) ?_
                  refine z_goto C 62 dL_lines_58 (by decide) ?_
                  refine z_iadd C dL_lines_62 ?_
                  refine z_top (y := nI (fr1 + 1)) (nI_add _ _) ?_
                  refine z_istore_n C 1 dL_lines_63 rfl (Nat.le_of_ble_eq_true rfl) ?_
                  refine z_lv (lv' := [some (.ref x0), some (.int (nI (fr1 + 1))), some (.int (nI dm1)), some (.int (nI 1)), some (.int (nI cl1)), some (.int (nI ol1)), some (.int (nI p1)), some (.int (nI (xI S 1 p1))), some (.int (-5)), none, none]) rfl ?_
                  refine z_iload_n C 2 dL_lines_64 rfl rfl ?_
                  refine z_iload C dL_lines_65 rfl ?_
                  refine z_if_lt_t C 74 dL_lines_67 (by decide) (by decide) ?_
                  refine z_iconst C (nI 0) dL_lines_74 (by decide) ?_
                  refine z_iadd C dL_lines_75 ?_
                  refine z_top (y := nI dm1) (nI_add _ _) ?_
                  refine z_istore_n C 2 dL_lines_76 rfl (Nat.le_of_ble_eq_true rfl) ?_
                  refine z_lv (lv' := [some (.ref x0), some (.int (nI (fr1 + 1))), some (.int (nI dm1)), some (.int (nI 1)), some (.int (nI cl1)), some (.int (nI ol1)), some (.int (nI p1)), some (.int (nI (xI S 1 p1))), some (.int (-5)), none, none]) rfl ?_
                  refine z_aload_n C 0 dL_lines_77 rfl rfl ?_
                  refine z_iload_n C 3 dL_lines_78 rfl rfl ?_
                  refine z_iload C dL_lines_79 rfl ?_
                  refine z_iconst C (nI 2) dL_lines_81 (by decide) ?_
                  refine z_callVr C kX5_line gL_lines_X5_line (l_line2n X.2.1 x0 h0 w0 t S 1 p1 hG (by decide) h_4 hq_13) dL_lines_82 [0, 1, 2, 3, 4, 5, 6, 7, 8] [] 0 rfl nd_0_1_2_3_4_5_6_7_8 rfl rfl rfl (by decide) (by decide) (Nat.le_of_ble_eq_true rfl) rfl ?_
                  have hg_24 : zc (nDm S 1) p1 ≤ p1 := zc_le _ _
                  refine z_iload C dL_lines_85 rfl ?_
                  refine z_if_lt_t C 95 dL_lines_87 (by decide) (by decide) ?_
                  refine z_iload C dL_lines_95 rfl ?_
                  refine z_ncmp_ne_f C 136 dL_lines_97 (by decide) (by omega) (by omega) (by omega) ?_
                  refine z_aload_n C 0 dL_lines_100 rfl rfl ?_
                  refine z_iload_n C 3 dL_lines_101 rfl rfl ?_
                  refine z_iload C dL_lines_102 rfl ?_
                  refine z_iconst C (nI 3) dL_lines_104 (by decide) ?_
                  refine z_callVr C kX5_line gL_lines_X5_line (l_line3y X.2.1 x0 h0 w0 t S 1 p1 hG (by decide) h_4 hq_7) dL_lines_105 [0, 1, 2, 3, 4, 5, 6, 7, 8] [] 0 rfl nd_0_1_2_3_4_5_6_7_8 rfl rfl rfl (by decide) (by decide) (Nat.le_of_ble_eq_true rfl) rfl ?_
                  refine z_iload C dL_lines_108 rfl ?_
                  refine z_nif_lt_f C 118 dL_lines_110 (by decide) (by omega) (by trivial) ?_
                  refine z_bipush C (-5) dL_lines_113 (by decide) ?_
                  refine z_goto C 120 dL_lines_115 (by decide) ?_
                  refine z_icmp_ne_f C 136 dL_lines_120 (by decide) rfl ?_
                  refine z_aload_n C 0 dL_lines_123 rfl rfl ?_
                  refine z_iload_n C 3 dL_lines_124 rfl rfl ?_
                  refine z_iload C dL_lines_125 rfl ?_
                  refine z_iconst C (nI 5) dL_lines_127 (by decide) ?_
                  refine z_callVr C kX5_line gL_lines_X5_line (l_line5 X.2.1 x0 h0 w0 t S 1 p1 hG (by decide) h_4) dL_lines_128 [0, 1, 2, 3, 4, 5, 6, 7, 8] [] 0 rfl nd_0_1_2_3_4_5_6_7_8 rfl rfl rfl (by decide) (by decide) (Nat.le_of_ble_eq_true rfl) rfl ?_
                  refine z_bipush C (-2) dL_lines_131 (by decide) ?_
                  refine z_icmp_eq_t C 138 dL_lines_133 (by decide) rfl ?_
                  refine z_iload C dL_lines_138 rfl ?_
                  refine z_iload C dL_lines_140 rfl ?_
                  refine z_if_lt_t C 149 dL_lines_142 (by decide) (by decide) ?_
                  refine z_iconst C (nI 1) dL_lines_149 (by decide) ?_
                  refine z_iadd C dL_lines_150 ?_
                  refine z_top (y := nI (cl1 + 1)) (nI_add _ _) ?_
                  refine z_istore C dL_lines_151 (Nat.le_of_ble_eq_true rfl) ?_
                  refine z_lv (lv' := [some (.ref x0), some (.int (nI (fr1 + 1))), some (.int (nI dm1)), some (.int (nI 1)), some (.int (nI (cl1 + 1))), some (.int (nI ol1)), some (.int (nI p1)), some (.int (nI (xI S 1 p1))), some (.int (-5)), none, none]) rfl ?_
                  refine z_iload C dL_lines_153 rfl ?_
                  refine z_iload C dL_lines_155 rfl ?_
                  refine z_nif_lt_f C 164 dL_lines_157 (by decide) (by omega) (by trivial) ?_
                  refine z_iconst C (nI 0) dL_lines_160 (by decide) ?_
                  refine z_goto C 165 dL_lines_161 (by decide) ?_
                  refine z_iadd C dL_lines_165 ?_
                  refine z_top (y := nI ol1) (nI_add _ _) ?_
                  refine z_istore C dL_lines_166 (Nat.le_of_ble_eq_true rfl) ?_
                  refine z_lv (lv' := [some (.ref x0), some (.int (nI (fr1 + 1))), some (.int (nI dm1)), some (.int (nI 1)), some (.int (nI (cl1 + 1))), some (.int (nI ol1)), some (.int (nI p1)), some (.int (nI (xI S 1 p1))), some (.int (-5)), none, none]) rfl ?_
                  refine z_iload C dL_lines_168 rfl ?_
                  refine z_bipush C (-5) dL_lines_170 (by decide) ?_
                  refine z_icmp_eq C 226 dL_lines_172 (by decide) (fun h_25 => ?_) (fun h_25 => ?_)
                  · refine z_iconst C (nI 1) dL_lines_226 (by decide) ?_
                    refine z_goto C 231 dL_lines_227 (by decide) ?_
                    refine z_istore C dL_lines_231 (Nat.le_of_ble_eq_true rfl) ?_
                    refine z_lv (lv' := [some (.ref x0), some (.int (nI (fr1 + 1))), some (.int (nI dm1)), some (.int (nI 1)), some (.int (nI (cl1 + 1))), some (.int (nI ol1)), some (.int (nI p1)), some (.int (nI (xI S 1 p1))), some (.int (-5)), some (.int (nI 1)), none]) rfl ?_
                    refine z_iload C dL_lines_233 rfl ?_
                    refine z_bipush C (-5) dL_lines_235 (by decide) ?_
                    refine z_icmp_eq_t C 300 dL_lines_237 (by decide) rfl ?_
                    refine z_iconst C (nI 1) dL_lines_300 (by decide) ?_
                    refine z_goto C 305 dL_lines_301 (by decide) ?_
                    refine z_istore C dL_lines_305 (Nat.le_of_ble_eq_true rfl) ?_
                    refine z_lv (lv' := [some (.ref x0), some (.int (nI (fr1 + 1))), some (.int (nI dm1)), some (.int (nI 1)), some (.int (nI (cl1 + 1))), some (.int (nI ol1)), some (.int (nI p1)), some (.int (nI (xI S 1 p1))), some (.int (-5)), some (.int (nI 1)), some (.int (nI 1))]) rfl ?_
                    refine z_iload C dL_lines_307 rfl ?_
                    refine z_nif_eq_f C 317 dL_lines_309 (by decide) (by omega) (by omega) ?_
                    refine z_iload C dL_lines_312 rfl ?_
                    refine z_nif_ne_t C 319 dL_lines_314 (by decide) (by omega) (by omega) ?_
                    refine z_iinc C (nI (p1 + 1)) dL_lines_319 rfl (zi_1 _) ?_
                    refine z_lv (lv' := [some (.ref x0), some (.int (nI (fr1 + 1))), some (.int (nI dm1)), some (.int (nI 1)), some (.int (nI (cl1 + 1))), some (.int (nI ol1)), some (.int (nI (p1 + 1))), some (.int (nI (xI S 1 p1))), some (.int (-5)), some (.int (nI 1)), some (.int (nI 1))]) rfl ?_
                    refine z_goto C 20 dL_lines_322 (by decide) ?_
                    refine z_kill 7 ?_
                    refine z_kill 8 ?_
                    refine z_kill 9 ?_
                    refine z_kill 10 ?_
                    exact ih20_1 (uU S 1 - (p1 + 1)) (by omega) (p1 + 1) (fr1 + 1) dm1 (cl1 + 1) ol1 rfl (by omega) (by first | exact inc_yc (by assumption) hfr1 | exact inc_nc (by assumption) hfr1) (by first | exact inc_yc (by assumption) hdm1 | exact inc_nc (by assumption) hdm1) (by first | exact inc_y (nDm_t (by assumption)) hcl1 | exact inc_n (nDm_f (by assumption)) hcl1) (by first | exact inc_y (nNw_t (by assumption)) hol1 | exact inc_n (nNw_f (by assumption)) hol1)
                  · refine z_aload_n C 0 dL_lines_175 rfl rfl ?_
                    refine z_iload C dL_lines_176 rfl ?_
                    refine z_iconst C (nI 0) dL_lines_178 (by decide) ?_
                    refine z_callVr C kX5_change gL_lines_X5_change (l_chg0 X.2.1 x0 h0 w0 t S (xI S 1 p1) hG fk_8) dL_lines_179 [0, 1, 2, 3, 4, 5, 6, 7, 8] [] 0 rfl nd_0_1_2_3_4_5_6_7_8 rfl rfl rfl (by decide) (by decide) (Nat.le_of_ble_eq_true rfl) rfl ?_
                    refine z_iconst C (nI 2) dL_lines_182 (by decide) ?_
                    refine z_iload_n C 3 dL_lines_183 rfl rfl ?_
                    refine z_imul C dL_lines_184 ?_
                    refine z_top (y := nI 2) (pk_mul _ _) ?_
                    refine z_ncmp_ne_f C 230 dL_lines_185 (by decide) (by omega) (by omega) (by omega) ?_
                    refine z_aload_n C 0 dL_lines_188 rfl rfl ?_
                    refine z_iload C dL_lines_189 rfl ?_
                    refine z_iconst C (nI 2) dL_lines_191 (by decide) ?_
                    refine z_callVr C kX5_change gL_lines_X5_change (l_chg2 X.2.1 x0 h0 w0 t S (xI S 1 p1) hG fk_8) dL_lines_192 [0, 1, 2, 3, 4, 5, 6, 7, 8] [] 0 rfl nd_0_1_2_3_4_5_6_7_8 rfl rfl rfl (by decide) (by decide) (Nat.le_of_ble_eq_true rfl) rfl ?_
                    refine z_nif_ne_f C 230 dL_lines_195 (by decide) (by omega) (by omega) ?_
                    refine z_aload_n C 0 dL_lines_198 rfl rfl ?_
                    refine z_iload C dL_lines_199 rfl ?_
                    refine z_iconst C (nI 3) dL_lines_201 (by decide) ?_
                    refine z_iload_n C 3 dL_lines_202 rfl rfl ?_
                    refine z_iadd C dL_lines_203 ?_
                    refine z_top (y := nI 4) (nI_add _ _) ?_
                    refine z_callVr C kX5_change gL_lines_X5_change (l_chg4y X.2.1 x0 h0 w0 t S (xI S 1 p1) p1 hG fk_8 fk_11) dL_lines_204 [0, 1, 2, 3, 4, 5, 6, 7, 8] [] 0 rfl nd_0_1_2_3_4_5_6_7_8 rfl rfl rfl (by decide) (by decide) (Nat.le_of_ble_eq_true rfl) rfl ?_
                    refine z_iload C dL_lines_207 rfl ?_
                    refine z_ncmp_ne_f C 230 dL_lines_209 (by decide) (by omega) (by omega) (by omega) ?_
                    refine z_aload_n C 0 dL_lines_212 rfl rfl ?_
                    refine z_iload C dL_lines_213 rfl ?_
                    refine z_iconst C (nI 4) dL_lines_215 (by decide) ?_
                    refine z_iload_n C 3 dL_lines_216 rfl rfl ?_
                    refine z_isub C dL_lines_217 ?_
                    refine z_top (y := nI 3) ((pk_sub (by omega)).trans (congrArg nI (by omega))) ?_
                    refine z_callVr C kX5_change gL_lines_X5_change (l_chg3n X.2.1 x0 h0 w0 t S (xI S 1 p1) hG fk_8 fk_12) dL_lines_218 [0, 1, 2, 3, 4, 5, 6, 7, 8] [] 0 rfl nd_0_1_2_3_4_5_6_7_8 rfl rfl rfl (by decide) (by decide) (Nat.le_of_ble_eq_true rfl) rfl ?_
                    refine z_bipush C (-5) dL_lines_221 (by decide) ?_
                    refine z_icmp_ne_f C 230 dL_lines_223 (by decide) rfl ?_
                    refine z_iconst C (nI 1) dL_lines_226 (by decide) ?_
                    refine z_goto C 231 dL_lines_227 (by decide) ?_
                    refine z_istore C dL_lines_231 (Nat.le_of_ble_eq_true rfl) ?_
                    refine z_lv (lv' := [some (.ref x0), some (.int (nI (fr1 + 1))), some (.int (nI dm1)), some (.int (nI 1)), some (.int (nI (cl1 + 1))), some (.int (nI ol1)), some (.int (nI p1)), some (.int (nI (xI S 1 p1))), some (.int (-5)), some (.int (nI 1)), none]) rfl ?_
                    refine z_iload C dL_lines_233 rfl ?_
                    refine z_bipush C (-5) dL_lines_235 (by decide) ?_
                    refine z_icmp_eq_t C 300 dL_lines_237 (by decide) rfl ?_
                    refine z_iconst C (nI 1) dL_lines_300 (by decide) ?_
                    refine z_goto C 305 dL_lines_301 (by decide) ?_
                    refine z_istore C dL_lines_305 (Nat.le_of_ble_eq_true rfl) ?_
                    refine z_lv (lv' := [some (.ref x0), some (.int (nI (fr1 + 1))), some (.int (nI dm1)), some (.int (nI 1)), some (.int (nI (cl1 + 1))), some (.int (nI ol1)), some (.int (nI p1)), some (.int (nI (xI S 1 p1))), some (.int (-5)), some (.int (nI 1)), some (.int (nI 1))]) rfl ?_
                    refine z_iload C dL_lines_307 rfl ?_
                    refine z_nif_eq_f C 317 dL_lines_309 (by decide) (by omega) (by omega) ?_
                    refine z_iload C dL_lines_312 rfl ?_
                    refine z_nif_ne_t C 319 dL_lines_314 (by decide) (by omega) (by omega) ?_
                    refine z_iinc C (nI (p1 + 1)) dL_lines_319 rfl (zi_1 _) ?_
                    refine z_lv (lv' := [some (.ref x0), some (.int (nI (fr1 + 1))), some (.int (nI dm1)), some (.int (nI 1)), some (.int (nI (cl1 + 1))), some (.int (nI ol1)), some (.int (nI (p1 + 1))), some (.int (nI (xI S 1 p1))), some (.int (-5)), some (.int (nI 1)), some (.int (nI 1))]) rfl ?_
                    refine z_goto C 20 dL_lines_322 (by decide) ?_
                    refine z_kill 7 ?_
                    refine z_kill 8 ?_
                    refine z_kill 9 ?_
                    refine z_kill 10 ?_
                    exact ih20_1 (uU S 1 - (p1 + 1)) (by omega) (p1 + 1) (fr1 + 1) dm1 (cl1 + 1) ol1 rfl (by omega) (by first | exact inc_yc (by assumption) hfr1 | exact inc_nc (by assumption) hfr1) (by first | exact inc_yc (by assumption) hdm1 | exact inc_nc (by assumption) hdm1) (by first | exact inc_y (nDm_t (by assumption)) hcl1 | exact inc_n (nDm_f (by assumption)) hcl1) (by first | exact inc_y (nNw_t (by assumption)) hol1 | exact inc_n (nNw_f (by assumption)) hol1)
              · refine z_callVr C kX5_line gL_lines_X5_line (l_line0n X.2.1 x0 h0 w0 t S 1 p1 hG (by decide) h_4 hq_7) dL_lines_36 [0, 1, 2, 3, 4, 5, 6, 7, 8] [] 0 rfl nd_0_1_2_3_4_5_6_7_8 rfl rfl rfl (by decide) (by decide) (Nat.le_of_ble_eq_true rfl) rfl ?_
                refine z_istore C dL_lines_39 (Nat.le_of_ble_eq_true rfl) ?_
                refine z_lv (lv' := [some (.ref x0), some (.int (nI fr1)), some (.int (nI dm1)), some (.int (nI 1)), some (.int (nI cl1)), some (.int (nI ol1)), some (.int (nI p1)), some (.int (-5)), none, none, none]) rfl ?_
                refine z_aload_n C 0 dL_lines_41 rfl rfl ?_
                refine z_iload_n C 3 dL_lines_42 rfl rfl ?_
                refine z_iload C dL_lines_43 rfl ?_
                refine z_iconst C (nI 1) dL_lines_45 (by decide) ?_
                rcases Bool.eq_false_or_eq_true (Dm S 1 p1) with hq_26 | hq_26
                · have fk_27 : xR S 1 p1 < mK S := (lnR hG (by decide) h_4 hq_26).1
                  have fk_28 : kN S (xR S 1 p1) = 3 := (lnR hG (by decide) h_4 hq_26).2.1
                  have fk_29 : sN S (xR S 1 p1) = 0 := (lnR hG (by decide) h_4 hq_26).2.2.1
                  have fk_30 : lP S 1 (xR S 1 p1) = p1 + 1 := (lnR hG (by decide) h_4 hq_26).2.2.2
                  have fk_31 : zc (sup S (xR S 1 p1)) (mK S) = 0 := lnR7n hG (by decide) hq_26 hq_7
                  refine z_callVr C kX5_line gL_lines_X5_line (l_line1y X.2.1 x0 h0 w0 t S 1 p1 hG (by decide) h_4 hq_26) dL_lines_46 [0, 1, 2, 3, 4, 5, 6, 7, 8] [] 0 rfl nd_0_1_2_3_4_5_6_7_8 rfl rfl rfl (by decide) (by decide) (Nat.le_of_ble_eq_true rfl) rfl ?_
                  refine z_istore C dL_lines_49 (Nat.le_of_ble_eq_true rfl) ?_
                  refine z_lv (lv' := [some (.ref x0), some (.int (nI fr1)), some (.int (nI dm1)), some (.int (nI 1)), some (.int (nI cl1)), some (.int (nI ol1)), some (.int (nI p1)), some (.int (-5)), some (.int (nI (xR S 1 p1))), none, none]) rfl ?_
                  refine z_iload_n C 1 dL_lines_51 rfl rfl ?_
                  refine z_iload C dL_lines_52 rfl ?_
                  refine z_if_lt_t C 61 dL_lines_54 (by decide) (by decide) ?_
                  refine z_iconst C (nI 0) dL_lines_61 (by decide) ?_
                  refine z_iadd C dL_lines_62 ?_
                  refine z_top (y := nI fr1) (nI_add _ _) ?_
                  refine z_istore_n C 1 dL_lines_63 rfl (Nat.le_of_ble_eq_true rfl) ?_
                  refine z_lv (lv' := [some (.ref x0), some (.int (nI fr1)), some (.int (nI dm1)), some (.int (nI 1)), some (.int (nI cl1)), some (.int (nI ol1)), some (.int (nI p1)), some (.int (-5)), some (.int (nI (xR S 1 p1))), none, none]) rfl ?_
                  refine z_iload_n C 2 dL_lines_64 rfl rfl ?_
                  refine z_iload C dL_lines_65 rfl ?_
                  refine z_nif_lt_f C 74 dL_lines_67 (by decide) (by omega) (by trivial) ?_
                  refine z_iconst C (nI 1) dL_lines_70 (by decide) ?_
                  refine z_goto C 75 dL_lines_71 (by decide) ?_
                  refine z_iadd C dL_lines_75 ?_
                  refine z_top (y := nI (dm1 + 1)) (nI_add _ _) ?_
                  refine z_istore_n C 2 dL_lines_76 rfl (Nat.le_of_ble_eq_true rfl) ?_
                  refine z_lv (lv' := [some (.ref x0), some (.int (nI fr1)), some (.int (nI (dm1 + 1))), some (.int (nI 1)), some (.int (nI cl1)), some (.int (nI ol1)), some (.int (nI p1)), some (.int (-5)), some (.int (nI (xR S 1 p1))), none, none]) rfl ?_
                  refine z_aload_n C 0 dL_lines_77 rfl rfl ?_
                  refine z_iload_n C 3 dL_lines_78 rfl rfl ?_
                  refine z_iload C dL_lines_79 rfl ?_
                  refine z_iconst C (nI 2) dL_lines_81 (by decide) ?_
                  refine z_callVr C kX5_line gL_lines_X5_line (l_line2y X.2.1 x0 h0 w0 t S 1 p1 hG (by decide) h_4 hq_26) dL_lines_82 [0, 1, 2, 3, 4, 5, 6, 7, 8] [] 0 rfl nd_0_1_2_3_4_5_6_7_8 rfl rfl rfl (by decide) (by decide) (Nat.le_of_ble_eq_true rfl) rfl ?_
                  refine z_iload C dL_lines_85 rfl ?_
                  refine z_nif_lt_f C 95 dL_lines_87 (by decide) (by omega) (by trivial) ?_
                  refine z_bipush C (-5) dL_lines_90 (by decide) ?_
                  refine z_goto C 97 dL_lines_92 (by decide) ?_
                  refine z_icmp_ne_f C 136 dL_lines_97 (by decide) rfl ?_
                  refine z_aload_n C 0 dL_lines_100 rfl rfl ?_
                  refine z_iload_n C 3 dL_lines_101 rfl rfl ?_
                  refine z_iload C dL_lines_102 rfl ?_
                  refine z_iconst C (nI 3) dL_lines_104 (by decide) ?_
                  refine z_callVr C kX5_line gL_lines_X5_line (l_line3n X.2.1 x0 h0 w0 t S 1 p1 hG (by decide) h_4 hq_7) dL_lines_105 [0, 1, 2, 3, 4, 5, 6, 7, 8] [] 0 rfl nd_0_1_2_3_4_5_6_7_8 rfl rfl rfl (by decide) (by decide) (Nat.le_of_ble_eq_true rfl) rfl ?_
                  have hg_32 : zc (nNw S 1) p1 ≤ p1 := zc_le _ _
                  refine z_iload C dL_lines_108 rfl ?_
                  refine z_if_lt_t C 118 dL_lines_110 (by decide) (by decide) ?_
                  refine z_iload C dL_lines_118 rfl ?_
                  refine z_ncmp_ne_f C 136 dL_lines_120 (by decide) (by omega) (by omega) (by omega) ?_
                  refine z_aload_n C 0 dL_lines_123 rfl rfl ?_
                  refine z_iload_n C 3 dL_lines_124 rfl rfl ?_
                  refine z_iload C dL_lines_125 rfl ?_
                  refine z_iconst C (nI 5) dL_lines_127 (by decide) ?_
                  refine z_callVr C kX5_line gL_lines_X5_line (l_line5 X.2.1 x0 h0 w0 t S 1 p1 hG (by decide) h_4) dL_lines_128 [0, 1, 2, 3, 4, 5, 6, 7, 8] [] 0 rfl nd_0_1_2_3_4_5_6_7_8 rfl rfl rfl (by decide) (by decide) (Nat.le_of_ble_eq_true rfl) rfl ?_
                  refine z_bipush C (-2) dL_lines_131 (by decide) ?_
                  refine z_icmp_eq_t C 138 dL_lines_133 (by decide) rfl ?_
                  refine z_iload C dL_lines_138 rfl ?_
                  refine z_iload C dL_lines_140 rfl ?_
                  refine z_nif_lt_f C 149 dL_lines_142 (by decide) (by omega) (by trivial) ?_
                  refine z_iconst C (nI 0) dL_lines_145 (by decide) ?_
                  refine z_goto C 150 dL_lines_146 (by decide) ?_
                  refine z_iadd C dL_lines_150 ?_
                  refine z_top (y := nI cl1) (nI_add _ _) ?_
                  refine z_istore C dL_lines_151 (Nat.le_of_ble_eq_true rfl) ?_
                  refine z_lv (lv' := [some (.ref x0), some (.int (nI fr1)), some (.int (nI (dm1 + 1))), some (.int (nI 1)), some (.int (nI cl1)), some (.int (nI ol1)), some (.int (nI p1)), some (.int (-5)), some (.int (nI (xR S 1 p1))), none, none]) rfl ?_
                  refine z_iload C dL_lines_153 rfl ?_
                  refine z_iload C dL_lines_155 rfl ?_
                  refine z_if_lt_t C 164 dL_lines_157 (by decide) (by decide) ?_
                  refine z_iconst C (nI 1) dL_lines_164 (by decide) ?_
                  refine z_iadd C dL_lines_165 ?_
                  refine z_top (y := nI (ol1 + 1)) (nI_add _ _) ?_
                  refine z_istore C dL_lines_166 (Nat.le_of_ble_eq_true rfl) ?_
                  refine z_lv (lv' := [some (.ref x0), some (.int (nI fr1)), some (.int (nI (dm1 + 1))), some (.int (nI 1)), some (.int (nI cl1)), some (.int (nI (ol1 + 1))), some (.int (nI p1)), some (.int (-5)), some (.int (nI (xR S 1 p1))), none, none]) rfl ?_
                  refine z_iload C dL_lines_168 rfl ?_
                  refine z_bipush C (-5) dL_lines_170 (by decide) ?_
                  refine z_icmp_eq_t C 226 dL_lines_172 (by decide) rfl ?_
                  refine z_iconst C (nI 1) dL_lines_226 (by decide) ?_
                  refine z_goto C 231 dL_lines_227 (by decide) ?_
                  refine z_istore C dL_lines_231 (Nat.le_of_ble_eq_true rfl) ?_
                  refine z_lv (lv' := [some (.ref x0), some (.int (nI fr1)), some (.int (nI (dm1 + 1))), some (.int (nI 1)), some (.int (nI cl1)), some (.int (nI (ol1 + 1))), some (.int (nI p1)), some (.int (-5)), some (.int (nI (xR S 1 p1))), some (.int (nI 1)), none]) rfl ?_
                  refine z_iload C dL_lines_233 rfl ?_
                  refine z_bipush C (-5) dL_lines_235 (by decide) ?_
                  refine z_icmp_eq C 300 dL_lines_237 (by decide) (fun h_33 => ?_) (fun h_33 => ?_)
                  · refine z_iconst C (nI 1) dL_lines_300 (by decide) ?_
                    refine z_goto C 305 dL_lines_301 (by decide) ?_
                    refine z_istore C dL_lines_305 (Nat.le_of_ble_eq_true rfl) ?_
                    refine z_lv (lv' := [some (.ref x0), some (.int (nI fr1)), some (.int (nI (dm1 + 1))), some (.int (nI 1)), some (.int (nI cl1)), some (.int (nI (ol1 + 1))), some (.int (nI p1)), some (.int (-5)), some (.int (nI (xR S 1 p1))), some (.int (nI 1)), some (.int (nI 1))]) rfl ?_
                    refine z_iload C dL_lines_307 rfl ?_
                    refine z_nif_eq_f C 317 dL_lines_309 (by decide) (by omega) (by omega) ?_
                    refine z_iload C dL_lines_312 rfl ?_
                    refine z_nif_ne_t C 319 dL_lines_314 (by decide) (by omega) (by omega) ?_
                    refine z_iinc C (nI (p1 + 1)) dL_lines_319 rfl (zi_1 _) ?_
                    refine z_lv (lv' := [some (.ref x0), some (.int (nI fr1)), some (.int (nI (dm1 + 1))), some (.int (nI 1)), some (.int (nI cl1)), some (.int (nI (ol1 + 1))), some (.int (nI (p1 + 1))), some (.int (-5)), some (.int (nI (xR S 1 p1))), some (.int (nI 1)), some (.int (nI 1))]) rfl ?_
                    refine z_goto C 20 dL_lines_322 (by decide) ?_
                    refine z_kill 7 ?_
                    refine z_kill 8 ?_
                    refine z_kill 9 ?_
                    refine z_kill 10 ?_
                    exact ih20_1 (uU S 1 - (p1 + 1)) (by omega) (p1 + 1) fr1 (dm1 + 1) cl1 (ol1 + 1) rfl (by omega) (by first | exact inc_yc (by assumption) hfr1 | exact inc_nc (by assumption) hfr1) (by first | exact inc_yc (by assumption) hdm1 | exact inc_nc (by assumption) hdm1) (by first | exact inc_y (nDm_t (by assumption)) hcl1 | exact inc_n (nDm_f (by assumption)) hcl1) (by first | exact inc_y (nNw_t (by assumption)) hol1 | exact inc_n (nNw_f (by assumption)) hol1)
                  · refine z_aload_n C 0 dL_lines_240 rfl rfl ?_
                    refine z_iload C dL_lines_241 rfl ?_
                    refine z_iconst C (nI 0) dL_lines_243 (by decide) ?_
                    refine z_callVr C kX5_change gL_lines_X5_change (l_chg0 X.2.1 x0 h0 w0 t S (xR S 1 p1) hG fk_27) dL_lines_244 [0, 1, 2, 3, 4, 5, 6, 7, 8] [] 0 rfl nd_0_1_2_3_4_5_6_7_8 rfl rfl rfl (by decide) (by decide) (Nat.le_of_ble_eq_true rfl) rfl ?_
                    refine z_iconst C (nI 2) dL_lines_247 (by decide) ?_
                    refine z_iload_n C 3 dL_lines_248 rfl rfl ?_
                    refine z_imul C dL_lines_249 ?_
                    refine z_top (y := nI 2) (pk_mul _ _) ?_
                    refine z_iconst C (nI 1) dL_lines_250 (by decide) ?_
                    refine z_iadd C dL_lines_251 ?_
                    refine z_top (y := nI 3) (nI_add _ _) ?_
                    refine z_ncmp_ne_f C 304 dL_lines_252 (by decide) (by omega) (by omega) (by omega) ?_
                    refine z_aload_n C 0 dL_lines_255 rfl rfl ?_
                    refine z_iload C dL_lines_256 rfl ?_
                    refine z_iconst C (nI 2) dL_lines_258 (by decide) ?_
                    refine z_callVr C kX5_change gL_lines_X5_change (l_chg2 X.2.1 x0 h0 w0 t S (xR S 1 p1) hG fk_27) dL_lines_259 [0, 1, 2, 3, 4, 5, 6, 7, 8] [] 0 rfl nd_0_1_2_3_4_5_6_7_8 rfl rfl rfl (by decide) (by decide) (Nat.le_of_ble_eq_true rfl) rfl ?_
                    refine z_nif_ne_f C 304 dL_lines_262 (by decide) (by omega) (by omega) ?_
                    refine z_aload_n C 0 dL_lines_265 rfl rfl ?_
                    refine z_iload C dL_lines_266 rfl ?_
                    refine z_iconst C (nI 3) dL_lines_268 (by decide) ?_
                    refine z_iload_n C 3 dL_lines_269 rfl rfl ?_
                    refine z_iadd C dL_lines_270 ?_
                    refine z_top (y := nI 4) (nI_add _ _) ?_
                    refine z_callVr C kX5_change gL_lines_X5_change (l_chg4y X.2.1 x0 h0 w0 t S (xR S 1 p1) p1 hG fk_27 fk_30) dL_lines_271 [0, 1, 2, 3, 4, 5, 6, 7, 8] [] 0 rfl nd_0_1_2_3_4_5_6_7_8 rfl rfl rfl (by decide) (by decide) (Nat.le_of_ble_eq_true rfl) rfl ?_
                    refine z_iload C dL_lines_274 rfl ?_
                    refine z_ncmp_ne_f C 304 dL_lines_276 (by decide) (by omega) (by omega) (by omega) ?_
                    refine z_aload_n C 0 dL_lines_279 rfl rfl ?_
                    refine z_iload C dL_lines_280 rfl ?_
                    refine z_bipush C (nI 7) dL_lines_282 (by decide) ?_
                    refine z_callVr C kX5_change gL_lines_X5_change (l_chg7 X.2.1 x0 h0 w0 t S (xR S 1 p1) hG fk_27) dL_lines_284 [0, 1, 2, 3, 4, 5, 6, 7, 8] [] 0 rfl nd_0_1_2_3_4_5_6_7_8 rfl rfl rfl (by decide) (by decide) (Nat.le_of_ble_eq_true rfl) rfl ?_
                    have hg_34 : zc (sup S (xR S 1 p1)) (mK S) ≤ mK S := zc_le _ _
                    refine z_iload C dL_lines_287 rfl ?_
                    refine z_if_lt_t C 296 dL_lines_289 (by decide) (by decide) ?_
                    refine z_iconst C (nI 0) dL_lines_296 (by decide) ?_
                    refine z_ncmp_ne_f C 304 dL_lines_297 (by decide) (by omega) (by omega) (by omega) ?_
                    refine z_iconst C (nI 1) dL_lines_300 (by decide) ?_
                    refine z_goto C 305 dL_lines_301 (by decide) ?_
                    refine z_istore C dL_lines_305 (Nat.le_of_ble_eq_true rfl) ?_
                    refine z_lv (lv' := [some (.ref x0), some (.int (nI fr1)), some (.int (nI (dm1 + 1))), some (.int (nI 1)), some (.int (nI cl1)), some (.int (nI (ol1 + 1))), some (.int (nI p1)), some (.int (-5)), some (.int (nI (xR S 1 p1))), some (.int (nI 1)), some (.int (nI 1))]) rfl ?_
                    refine z_iload C dL_lines_307 rfl ?_
                    refine z_nif_eq_f C 317 dL_lines_309 (by decide) (by omega) (by omega) ?_
                    refine z_iload C dL_lines_312 rfl ?_
                    refine z_nif_ne_t C 319 dL_lines_314 (by decide) (by omega) (by omega) ?_
                    refine z_iinc C (nI (p1 + 1)) dL_lines_319 rfl (zi_1 _) ?_
                    refine z_lv (lv' := [some (.ref x0), some (.int (nI fr1)), some (.int (nI (dm1 + 1))), some (.int (nI 1)), some (.int (nI cl1)), some (.int (nI (ol1 + 1))), some (.int (nI (p1 + 1))), some (.int (-5)), some (.int (nI (xR S 1 p1))), some (.int (nI 1)), some (.int (nI 1))]) rfl ?_
                    refine z_goto C 20 dL_lines_322 (by decide) ?_
                    refine z_kill 7 ?_
                    refine z_kill 8 ?_
                    refine z_kill 9 ?_
                    refine z_kill 10 ?_
                    exact ih20_1 (uU S 1 - (p1 + 1)) (by omega) (p1 + 1) fr1 (dm1 + 1) cl1 (ol1 + 1) rfl (by omega) (by first | exact inc_yc (by assumption) hfr1 | exact inc_nc (by assumption) hfr1) (by first | exact inc_yc (by assumption) hdm1 | exact inc_nc (by assumption) hdm1) (by first | exact inc_y (nDm_t (by assumption)) hcl1 | exact inc_n (nDm_f (by assumption)) hcl1) (by first | exact inc_y (nNw_t (by assumption)) hol1 | exact inc_n (nNw_f (by assumption)) hol1)
                · refine z_callVr C kX5_line gL_lines_X5_line (l_line1n X.2.1 x0 h0 w0 t S 1 p1 hG (by decide) h_4 hq_26) dL_lines_46 [0, 1, 2, 3, 4, 5, 6, 7, 8] [] 0 rfl nd_0_1_2_3_4_5_6_7_8 rfl rfl rfl (by decide) (by decide) (Nat.le_of_ble_eq_true rfl) rfl ?_
                  refine z_istore C dL_lines_49 (Nat.le_of_ble_eq_true rfl) ?_
                  refine z_lv (lv' := [some (.ref x0), some (.int (nI fr1)), some (.int (nI dm1)), some (.int (nI 1)), some (.int (nI cl1)), some (.int (nI ol1)), some (.int (nI p1)), some (.int (-5)), some (.int (-5)), none, none]) rfl ?_
                  refine z_iload_n C 1 dL_lines_51 rfl rfl ?_
                  refine z_iload C dL_lines_52 rfl ?_
                  refine z_if_lt_t C 61 dL_lines_54 (by decide) (by decide) ?_
                  refine z_iconst C (nI 0) dL_lines_61 (by decide) ?_
                  refine z_iadd C dL_lines_62 ?_
                  refine z_top (y := nI fr1) (nI_add _ _) ?_
                  refine z_istore_n C 1 dL_lines_63 rfl (Nat.le_of_ble_eq_true rfl) ?_
                  refine z_lv (lv' := [some (.ref x0), some (.int (nI fr1)), some (.int (nI dm1)), some (.int (nI 1)), some (.int (nI cl1)), some (.int (nI ol1)), some (.int (nI p1)), some (.int (-5)), some (.int (-5)), none, none]) rfl ?_
                  refine z_iload_n C 2 dL_lines_64 rfl rfl ?_
                  refine z_iload C dL_lines_65 rfl ?_
                  refine z_if_lt_t C 74 dL_lines_67 (by decide) (by decide) ?_
                  refine z_iconst C (nI 0) dL_lines_74 (by decide) ?_
                  refine z_iadd C dL_lines_75 ?_
                  refine z_top (y := nI dm1) (nI_add _ _) ?_
                  refine z_istore_n C 2 dL_lines_76 rfl (Nat.le_of_ble_eq_true rfl) ?_
                  refine z_lv (lv' := [some (.ref x0), some (.int (nI fr1)), some (.int (nI dm1)), some (.int (nI 1)), some (.int (nI cl1)), some (.int (nI ol1)), some (.int (nI p1)), some (.int (-5)), some (.int (-5)), none, none]) rfl ?_
                  refine z_aload_n C 0 dL_lines_77 rfl rfl ?_
                  refine z_iload_n C 3 dL_lines_78 rfl rfl ?_
                  refine z_iload C dL_lines_79 rfl ?_
                  refine z_iconst C (nI 2) dL_lines_81 (by decide) ?_
                  refine z_callVr C kX5_line gL_lines_X5_line (l_line2n X.2.1 x0 h0 w0 t S 1 p1 hG (by decide) h_4 hq_26) dL_lines_82 [0, 1, 2, 3, 4, 5, 6, 7, 8] [] 0 rfl nd_0_1_2_3_4_5_6_7_8 rfl rfl rfl (by decide) (by decide) (Nat.le_of_ble_eq_true rfl) rfl ?_
                  have hg_35 : zc (nDm S 1) p1 ≤ p1 := zc_le _ _
                  refine z_iload C dL_lines_85 rfl ?_
                  refine z_if_lt_t C 95 dL_lines_87 (by decide) (by decide) ?_
                  refine z_iload C dL_lines_95 rfl ?_
                  refine z_ncmp_ne_f C 136 dL_lines_97 (by decide) (by omega) (by omega) (by omega) ?_
                  refine z_aload_n C 0 dL_lines_100 rfl rfl ?_
                  refine z_iload_n C 3 dL_lines_101 rfl rfl ?_
                  refine z_iload C dL_lines_102 rfl ?_
                  refine z_iconst C (nI 3) dL_lines_104 (by decide) ?_
                  refine z_callVr C kX5_line gL_lines_X5_line (l_line3n X.2.1 x0 h0 w0 t S 1 p1 hG (by decide) h_4 hq_7) dL_lines_105 [0, 1, 2, 3, 4, 5, 6, 7, 8] [] 0 rfl nd_0_1_2_3_4_5_6_7_8 rfl rfl rfl (by decide) (by decide) (Nat.le_of_ble_eq_true rfl) rfl ?_
                  have hg_36 : zc (nNw S 1) p1 ≤ p1 := zc_le _ _
                  refine z_iload C dL_lines_108 rfl ?_
                  refine z_if_lt_t C 118 dL_lines_110 (by decide) (by decide) ?_
                  refine z_iload C dL_lines_118 rfl ?_
                  refine z_ncmp_ne_f C 136 dL_lines_120 (by decide) (by omega) (by omega) (by omega) ?_
                  refine z_aload_n C 0 dL_lines_123 rfl rfl ?_
                  refine z_iload_n C 3 dL_lines_124 rfl rfl ?_
                  refine z_iload C dL_lines_125 rfl ?_
                  refine z_iconst C (nI 5) dL_lines_127 (by decide) ?_
                  refine z_callVr C kX5_line gL_lines_X5_line (l_line5 X.2.1 x0 h0 w0 t S 1 p1 hG (by decide) h_4) dL_lines_128 [0, 1, 2, 3, 4, 5, 6, 7, 8] [] 0 rfl nd_0_1_2_3_4_5_6_7_8 rfl rfl rfl (by decide) (by decide) (Nat.le_of_ble_eq_true rfl) rfl ?_
                  refine z_bipush C (-2) dL_lines_131 (by decide) ?_
                  refine z_icmp_eq_t C 138 dL_lines_133 (by decide) rfl ?_
                  refine z_iload C dL_lines_138 rfl ?_
                  refine z_iload C dL_lines_140 rfl ?_
                  refine z_if_lt_t C 149 dL_lines_142 (by decide) (by decide) ?_
                  refine z_iconst C (nI 1) dL_lines_149 (by decide) ?_
                  refine z_iadd C dL_lines_150 ?_
                  refine z_top (y := nI (cl1 + 1)) (nI_add _ _) ?_
                  refine z_istore C dL_lines_151 (Nat.le_of_ble_eq_true rfl) ?_
                  refine z_lv (lv' := [some (.ref x0), some (.int (nI fr1)), some (.int (nI dm1)), some (.int (nI 1)), some (.int (nI (cl1 + 1))), some (.int (nI ol1)), some (.int (nI p1)), some (.int (-5)), some (.int (-5)), none, none]) rfl ?_
                  refine z_iload C dL_lines_153 rfl ?_
                  refine z_iload C dL_lines_155 rfl ?_
                  refine z_if_lt_t C 164 dL_lines_157 (by decide) (by decide) ?_
                  refine z_iconst C (nI 1) dL_lines_164 (by decide) ?_
                  refine z_iadd C dL_lines_165 ?_
                  refine z_top (y := nI (ol1 + 1)) (nI_add _ _) ?_
                  refine z_istore C dL_lines_166 (Nat.le_of_ble_eq_true rfl) ?_
                  refine z_lv (lv' := [some (.ref x0), some (.int (nI fr1)), some (.int (nI dm1)), some (.int (nI 1)), some (.int (nI (cl1 + 1))), some (.int (nI (ol1 + 1))), some (.int (nI p1)), some (.int (-5)), some (.int (-5)), none, none]) rfl ?_
                  refine z_iload C dL_lines_168 rfl ?_
                  refine z_bipush C (-5) dL_lines_170 (by decide) ?_
                  refine z_icmp_eq_t C 226 dL_lines_172 (by decide) rfl ?_
                  refine z_iconst C (nI 1) dL_lines_226 (by decide) ?_
                  refine z_goto C 231 dL_lines_227 (by decide) ?_
                  refine z_istore C dL_lines_231 (Nat.le_of_ble_eq_true rfl) ?_
                  refine z_lv (lv' := [some (.ref x0), some (.int (nI fr1)), some (.int (nI dm1)), some (.int (nI 1)), some (.int (nI (cl1 + 1))), some (.int (nI (ol1 + 1))), some (.int (nI p1)), some (.int (-5)), some (.int (-5)), some (.int (nI 1)), none]) rfl ?_
                  refine z_iload C dL_lines_233 rfl ?_
                  refine z_bipush C (-5) dL_lines_235 (by decide) ?_
                  refine z_icmp_eq_t C 300 dL_lines_237 (by decide) rfl ?_
                  refine z_iconst C (nI 1) dL_lines_300 (by decide) ?_
                  refine z_goto C 305 dL_lines_301 (by decide) ?_
                  refine z_istore C dL_lines_305 (Nat.le_of_ble_eq_true rfl) ?_
                  refine z_lv (lv' := [some (.ref x0), some (.int (nI fr1)), some (.int (nI dm1)), some (.int (nI 1)), some (.int (nI (cl1 + 1))), some (.int (nI (ol1 + 1))), some (.int (nI p1)), some (.int (-5)), some (.int (-5)), some (.int (nI 1)), some (.int (nI 1))]) rfl ?_
                  refine z_iload C dL_lines_307 rfl ?_
                  refine z_nif_eq_f C 317 dL_lines_309 (by decide) (by omega) (by omega) ?_
                  refine z_iload C dL_lines_312 rfl ?_
                  refine z_nif_ne_t C 319 dL_lines_314 (by decide) (by omega) (by omega) ?_
                  refine z_iinc C (nI (p1 + 1)) dL_lines_319 rfl (zi_1 _) ?_
                  refine z_lv (lv' := [some (.ref x0), some (.int (nI fr1)), some (.int (nI dm1)), some (.int (nI 1)), some (.int (nI (cl1 + 1))), some (.int (nI (ol1 + 1))), some (.int (nI (p1 + 1))), some (.int (-5)), some (.int (-5)), some (.int (nI 1)), some (.int (nI 1))]) rfl ?_
                  refine z_goto C 20 dL_lines_322 (by decide) ?_
                  refine z_kill 7 ?_
                  refine z_kill 8 ?_
                  refine z_kill 9 ?_
                  refine z_kill 10 ?_
                  exact ih20_1 (uU S 1 - (p1 + 1)) (by omega) (p1 + 1) fr1 dm1 (cl1 + 1) (ol1 + 1) rfl (by omega) (by first | exact inc_yc (by assumption) hfr1 | exact inc_nc (by assumption) hfr1) (by first | exact inc_yc (by assumption) hdm1 | exact inc_nc (by assumption) hdm1) (by first | exact inc_y (nDm_t (by assumption)) hcl1 | exact inc_n (nDm_f (by assumption)) hcl1) (by first | exact inc_y (nNw_t (by assumption)) hol1 | exact inc_n (nNw_f (by assumption)) hol1)
        exact hL20_1 _ 0 fr0 dm0 0 0 rfl (by omega) (hfr0) (hdm0) (rfl) (rfl)
      · refine z_aload_n C 0 dL_lines_31 rfl rfl ?_
        refine z_iload_n C 3 dL_lines_32 rfl rfl ?_
        refine z_iload C dL_lines_33 rfl ?_
        refine z_iconst C (nI 0) dL_lines_35 (by decide) ?_
        rcases Bool.eq_false_or_eq_true (Nw S 0 p0) with hq_37 | hq_37
        · have fk_38 : xI S 0 p0 < mK S := (lnI hG (by decide) h_1 hq_37).1
          have fk_39 : kN S (xI S 0 p0) = 0 := (lnI hG (by decide) h_1 hq_37).2.1
          have fk_40 : sN S (xI S 0 p0) = 0 := (lnI hG (by decide) h_1 hq_37).2.2.1
          have fk_41 : lP S 0 (xI S 0 p0) = p0 + 1 := (lnI hG (by decide) h_1 hq_37).2.2.2.1
          have fk_42 : lP S 1 (xI S 0 p0) = 0 := (lnI hG (by decide) h_1 hq_37).2.2.2.2
          refine z_callVr C kX5_line gL_lines_X5_line (l_line0y X.2.1 x0 h0 w0 t S 0 p0 hG (by decide) h_1 hq_37) dL_lines_36 [0, 1, 2, 3, 4, 5, 6, 7, 8] [] 0 rfl nd_0_1_2_3_4_5_6_7_8 rfl rfl rfl (by decide) (by decide) (Nat.le_of_ble_eq_true rfl) rfl ?_
          refine z_istore C dL_lines_39 (Nat.le_of_ble_eq_true rfl) ?_
          refine z_lv (lv' := [some (.ref x0), some (.int (nI fr0)), some (.int (nI dm0)), some (.int (nI 0)), some (.int (nI cl0)), some (.int (nI ol0)), some (.int (nI p0)), some (.int (nI (xI S 0 p0))), none, none, none]) rfl ?_
          refine z_aload_n C 0 dL_lines_41 rfl rfl ?_
          refine z_iload_n C 3 dL_lines_42 rfl rfl ?_
          refine z_iload C dL_lines_43 rfl ?_
          refine z_iconst C (nI 1) dL_lines_45 (by decide) ?_
          rcases Bool.eq_false_or_eq_true (Dm S 0 p0) with hq_43 | hq_43
          · have fk_44 : xR S 0 p0 < mK S := (lnR hG (by decide) h_1 hq_43).1
            have fk_45 : kN S (xR S 0 p0) = 1 := (lnR hG (by decide) h_1 hq_43).2.1
            have fk_46 : sN S (xR S 0 p0) = 0 := (lnR hG (by decide) h_1 hq_43).2.2.1
            have fk_47 : lP S 0 (xR S 0 p0) = p0 + 1 := (lnR hG (by decide) h_1 hq_43).2.2.2
            have fk_48 : zc (sup S (xR S 0 p0)) (mK S) = 1 := lnR7y hG (by decide) hq_43 hq_37
            refine z_callVr C kX5_line gL_lines_X5_line (l_line1y X.2.1 x0 h0 w0 t S 0 p0 hG (by decide) h_1 hq_43) dL_lines_46 [0, 1, 2, 3, 4, 5, 6, 7, 8] [] 0 rfl nd_0_1_2_3_4_5_6_7_8 rfl rfl rfl (by decide) (by decide) (Nat.le_of_ble_eq_true rfl) rfl ?_
            refine z_istore C dL_lines_49 (Nat.le_of_ble_eq_true rfl) ?_
            refine z_lv (lv' := [some (.ref x0), some (.int (nI fr0)), some (.int (nI dm0)), some (.int (nI 0)), some (.int (nI cl0)), some (.int (nI ol0)), some (.int (nI p0)), some (.int (nI (xI S 0 p0))), some (.int (nI (xR S 0 p0))), none, none]) rfl ?_
            refine z_iload_n C 1 dL_lines_51 rfl rfl ?_
            refine z_iload C dL_lines_52 rfl ?_
            refine z_nif_lt_f C 61 dL_lines_54 (by decide) (by omega) (by trivial) ?_
            refine z_iconst C (nI 1) dL_lines_57 (by decide) ?_
            refine z_goto C 62 dL_lines_58 (by decide) ?_
            refine z_iadd C dL_lines_62 ?_
            refine z_top (y := nI (fr0 + 1)) (nI_add _ _) ?_
            refine z_istore_n C 1 dL_lines_63 rfl (Nat.le_of_ble_eq_true rfl) ?_
            refine z_lv (lv' := [some (.ref x0), some (.int (nI (fr0 + 1))), some (.int (nI dm0)), some (.int (nI 0)), some (.int (nI cl0)), some (.int (nI ol0)), some (.int (nI p0)), some (.int (nI (xI S 0 p0))), some (.int (nI (xR S 0 p0))), none, none]) rfl ?_
            refine z_iload_n C 2 dL_lines_64 rfl rfl ?_
            refine z_iload C dL_lines_65 rfl ?_
            refine z_nif_lt_f C 74 dL_lines_67 (by decide) (by omega) (by trivial) ?_
            refine z_iconst C (nI 1) dL_lines_70 (by decide) ?_
            refine z_goto C 75 dL_lines_71 (by decide) ?_
            refine z_iadd C dL_lines_75 ?_
            refine z_top (y := nI (dm0 + 1)) (nI_add _ _) ?_
            refine z_istore_n C 2 dL_lines_76 rfl (Nat.le_of_ble_eq_true rfl) ?_
            refine z_lv (lv' := [some (.ref x0), some (.int (nI (fr0 + 1))), some (.int (nI (dm0 + 1))), some (.int (nI 0)), some (.int (nI cl0)), some (.int (nI ol0)), some (.int (nI p0)), some (.int (nI (xI S 0 p0))), some (.int (nI (xR S 0 p0))), none, none]) rfl ?_
            refine z_aload_n C 0 dL_lines_77 rfl rfl ?_
            refine z_iload_n C 3 dL_lines_78 rfl rfl ?_
            refine z_iload C dL_lines_79 rfl ?_
            refine z_iconst C (nI 2) dL_lines_81 (by decide) ?_
            refine z_callVr C kX5_line gL_lines_X5_line (l_line2y X.2.1 x0 h0 w0 t S 0 p0 hG (by decide) h_1 hq_43) dL_lines_82 [0, 1, 2, 3, 4, 5, 6, 7, 8] [] 0 rfl nd_0_1_2_3_4_5_6_7_8 rfl rfl rfl (by decide) (by decide) (Nat.le_of_ble_eq_true rfl) rfl ?_
            refine z_iload C dL_lines_85 rfl ?_
            refine z_nif_lt_f C 95 dL_lines_87 (by decide) (by omega) (by trivial) ?_
            refine z_bipush C (-5) dL_lines_90 (by decide) ?_
            refine z_goto C 97 dL_lines_92 (by decide) ?_
            refine z_icmp_ne_f C 136 dL_lines_97 (by decide) rfl ?_
            refine z_aload_n C 0 dL_lines_100 rfl rfl ?_
            refine z_iload_n C 3 dL_lines_101 rfl rfl ?_
            refine z_iload C dL_lines_102 rfl ?_
            refine z_iconst C (nI 3) dL_lines_104 (by decide) ?_
            refine z_callVr C kX5_line gL_lines_X5_line (l_line3y X.2.1 x0 h0 w0 t S 0 p0 hG (by decide) h_1 hq_37) dL_lines_105 [0, 1, 2, 3, 4, 5, 6, 7, 8] [] 0 rfl nd_0_1_2_3_4_5_6_7_8 rfl rfl rfl (by decide) (by decide) (Nat.le_of_ble_eq_true rfl) rfl ?_
            refine z_iload C dL_lines_108 rfl ?_
            refine z_nif_lt_f C 118 dL_lines_110 (by decide) (by omega) (by trivial) ?_
            refine z_bipush C (-5) dL_lines_113 (by decide) ?_
            refine z_goto C 120 dL_lines_115 (by decide) ?_
            refine z_icmp_ne_f C 136 dL_lines_120 (by decide) rfl ?_
            refine z_aload_n C 0 dL_lines_123 rfl rfl ?_
            refine z_iload_n C 3 dL_lines_124 rfl rfl ?_
            refine z_iload C dL_lines_125 rfl ?_
            refine z_iconst C (nI 5) dL_lines_127 (by decide) ?_
            refine z_callVr C kX5_line gL_lines_X5_line (l_line5 X.2.1 x0 h0 w0 t S 0 p0 hG (by decide) h_1) dL_lines_128 [0, 1, 2, 3, 4, 5, 6, 7, 8] [] 0 rfl nd_0_1_2_3_4_5_6_7_8 rfl rfl rfl (by decide) (by decide) (Nat.le_of_ble_eq_true rfl) rfl ?_
            refine z_bipush C (-2) dL_lines_131 (by decide) ?_
            refine z_icmp_eq_t C 138 dL_lines_133 (by decide) rfl ?_
            refine z_iload C dL_lines_138 rfl ?_
            refine z_iload C dL_lines_140 rfl ?_
            refine z_nif_lt_f C 149 dL_lines_142 (by decide) (by omega) (by trivial) ?_
            refine z_iconst C (nI 0) dL_lines_145 (by decide) ?_
            refine z_goto C 150 dL_lines_146 (by decide) ?_
            refine z_iadd C dL_lines_150 ?_
            refine z_top (y := nI cl0) (nI_add _ _) ?_
            refine z_istore C dL_lines_151 (Nat.le_of_ble_eq_true rfl) ?_
            refine z_lv (lv' := [some (.ref x0), some (.int (nI (fr0 + 1))), some (.int (nI (dm0 + 1))), some (.int (nI 0)), some (.int (nI cl0)), some (.int (nI ol0)), some (.int (nI p0)), some (.int (nI (xI S 0 p0))), some (.int (nI (xR S 0 p0))), none, none]) rfl ?_
            refine z_iload C dL_lines_153 rfl ?_
            refine z_iload C dL_lines_155 rfl ?_
            refine z_nif_lt_f C 164 dL_lines_157 (by decide) (by omega) (by trivial) ?_
            refine z_iconst C (nI 0) dL_lines_160 (by decide) ?_
            refine z_goto C 165 dL_lines_161 (by decide) ?_
            refine z_iadd C dL_lines_165 ?_
            refine z_top (y := nI ol0) (nI_add _ _) ?_
            refine z_istore C dL_lines_166 (Nat.le_of_ble_eq_true rfl) ?_
            refine z_lv (lv' := [some (.ref x0), some (.int (nI (fr0 + 1))), some (.int (nI (dm0 + 1))), some (.int (nI 0)), some (.int (nI cl0)), some (.int (nI ol0)), some (.int (nI p0)), some (.int (nI (xI S 0 p0))), some (.int (nI (xR S 0 p0))), none, none]) rfl ?_
            refine z_iload C dL_lines_168 rfl ?_
            refine z_bipush C (-5) dL_lines_170 (by decide) ?_
            refine z_icmp_eq C 226 dL_lines_172 (by decide) (fun h_49 => ?_) (fun h_49 => ?_)
            · refine z_iconst C (nI 1) dL_lines_226 (by decide) ?_
              refine z_goto C 231 dL_lines_227 (by decide) ?_
              refine z_istore C dL_lines_231 (Nat.le_of_ble_eq_true rfl) ?_
              refine z_lv (lv' := [some (.ref x0), some (.int (nI (fr0 + 1))), some (.int (nI (dm0 + 1))), some (.int (nI 0)), some (.int (nI cl0)), some (.int (nI ol0)), some (.int (nI p0)), some (.int (nI (xI S 0 p0))), some (.int (nI (xR S 0 p0))), some (.int (nI 1)), none]) rfl ?_
              refine z_iload C dL_lines_233 rfl ?_
              refine z_bipush C (-5) dL_lines_235 (by decide) ?_
              refine z_icmp_eq C 300 dL_lines_237 (by decide) (fun h_50 => ?_) (fun h_50 => ?_)
              · refine z_iconst C (nI 1) dL_lines_300 (by decide) ?_
                refine z_goto C 305 dL_lines_301 (by decide) ?_
                refine z_istore C dL_lines_305 (Nat.le_of_ble_eq_true rfl) ?_
                refine z_lv (lv' := [some (.ref x0), some (.int (nI (fr0 + 1))), some (.int (nI (dm0 + 1))), some (.int (nI 0)), some (.int (nI cl0)), some (.int (nI ol0)), some (.int (nI p0)), some (.int (nI (xI S 0 p0))), some (.int (nI (xR S 0 p0))), some (.int (nI 1)), some (.int (nI 1))]) rfl ?_
                refine z_iload C dL_lines_307 rfl ?_
                refine z_nif_eq_f C 317 dL_lines_309 (by decide) (by omega) (by omega) ?_
                refine z_iload C dL_lines_312 rfl ?_
                refine z_nif_ne_t C 319 dL_lines_314 (by decide) (by omega) (by omega) ?_
                refine z_iinc C (nI (p0 + 1)) dL_lines_319 rfl (zi_1 _) ?_
                refine z_lv (lv' := [some (.ref x0), some (.int (nI (fr0 + 1))), some (.int (nI (dm0 + 1))), some (.int (nI 0)), some (.int (nI cl0)), some (.int (nI ol0)), some (.int (nI (p0 + 1))), some (.int (nI (xI S 0 p0))), some (.int (nI (xR S 0 p0))), some (.int (nI 1)), some (.int (nI 1))]) rfl ?_
                refine z_goto C 20 dL_lines_322 (by decide) ?_
                refine z_kill 7 ?_
                refine z_kill 8 ?_
                refine z_kill 9 ?_
                refine z_kill 10 ?_
                exact ih20_0 (uU S 0 - (p0 + 1)) (by omega) (p0 + 1) (fr0 + 1) (dm0 + 1) cl0 ol0 rfl (by omega) (by first | exact inc_y (by assumption) hfr0 | exact inc_n (by assumption) hfr0) (by first | exact inc_y (by assumption) hdm0 | exact inc_n (by assumption) hdm0) (by first | exact inc_y (nDm_t (by assumption)) hcl0 | exact inc_n (nDm_f (by assumption)) hcl0) (by first | exact inc_y (nNw_t (by assumption)) hol0 | exact inc_n (nNw_f (by assumption)) hol0)
              · refine z_aload_n C 0 dL_lines_240 rfl rfl ?_
                refine z_iload C dL_lines_241 rfl ?_
                refine z_iconst C (nI 0) dL_lines_243 (by decide) ?_
                refine z_callVr C kX5_change gL_lines_X5_change (l_chg0 X.2.1 x0 h0 w0 t S (xR S 0 p0) hG fk_44) dL_lines_244 [0, 1, 2, 3, 4, 5, 6, 7, 8] [] 0 rfl nd_0_1_2_3_4_5_6_7_8 rfl rfl rfl (by decide) (by decide) (Nat.le_of_ble_eq_true rfl) rfl ?_
                refine z_iconst C (nI 2) dL_lines_247 (by decide) ?_
                refine z_iload_n C 3 dL_lines_248 rfl rfl ?_
                refine z_imul C dL_lines_249 ?_
                refine z_top (y := nI 0) (pk_mul _ _) ?_
                refine z_iconst C (nI 1) dL_lines_250 (by decide) ?_
                refine z_iadd C dL_lines_251 ?_
                refine z_top (y := nI 1) (nI_add _ _) ?_
                refine z_ncmp_ne_f C 304 dL_lines_252 (by decide) (by omega) (by omega) (by omega) ?_
                refine z_aload_n C 0 dL_lines_255 rfl rfl ?_
                refine z_iload C dL_lines_256 rfl ?_
                refine z_iconst C (nI 2) dL_lines_258 (by decide) ?_
                refine z_callVr C kX5_change gL_lines_X5_change (l_chg2 X.2.1 x0 h0 w0 t S (xR S 0 p0) hG fk_44) dL_lines_259 [0, 1, 2, 3, 4, 5, 6, 7, 8] [] 0 rfl nd_0_1_2_3_4_5_6_7_8 rfl rfl rfl (by decide) (by decide) (Nat.le_of_ble_eq_true rfl) rfl ?_
                refine z_nif_ne_f C 304 dL_lines_262 (by decide) (by omega) (by omega) ?_
                refine z_aload_n C 0 dL_lines_265 rfl rfl ?_
                refine z_iload C dL_lines_266 rfl ?_
                refine z_iconst C (nI 3) dL_lines_268 (by decide) ?_
                refine z_iload_n C 3 dL_lines_269 rfl rfl ?_
                refine z_iadd C dL_lines_270 ?_
                refine z_top (y := nI 3) (nI_add _ _) ?_
                refine z_callVr C kX5_change gL_lines_X5_change (l_chg3y X.2.1 x0 h0 w0 t S (xR S 0 p0) p0 hG fk_44 fk_47) dL_lines_271 [0, 1, 2, 3, 4, 5, 6, 7, 8] [] 0 rfl nd_0_1_2_3_4_5_6_7_8 rfl rfl rfl (by decide) (by decide) (Nat.le_of_ble_eq_true rfl) rfl ?_
                refine z_iload C dL_lines_274 rfl ?_
                refine z_ncmp_ne_f C 304 dL_lines_276 (by decide) (by omega) (by omega) (by omega) ?_
                refine z_aload_n C 0 dL_lines_279 rfl rfl ?_
                refine z_iload C dL_lines_280 rfl ?_
                refine z_bipush C (nI 7) dL_lines_282 (by decide) ?_
                refine z_callVr C kX5_change gL_lines_X5_change (l_chg7 X.2.1 x0 h0 w0 t S (xR S 0 p0) hG fk_44) dL_lines_284 [0, 1, 2, 3, 4, 5, 6, 7, 8] [] 0 rfl nd_0_1_2_3_4_5_6_7_8 rfl rfl rfl (by decide) (by decide) (Nat.le_of_ble_eq_true rfl) rfl ?_
                have hg_51 : zc (sup S (xR S 0 p0)) (mK S) ≤ mK S := zc_le _ _
                refine z_iload C dL_lines_287 rfl ?_
                refine z_nif_lt_f C 296 dL_lines_289 (by decide) (by omega) (by trivial) ?_
                refine z_iconst C (nI 1) dL_lines_292 (by decide) ?_
                refine z_goto C 297 dL_lines_293 (by decide) ?_
                refine z_ncmp_ne_f C 304 dL_lines_297 (by decide) (by omega) (by omega) (by omega) ?_
                refine z_iconst C (nI 1) dL_lines_300 (by decide) ?_
                refine z_goto C 305 dL_lines_301 (by decide) ?_
                refine z_istore C dL_lines_305 (Nat.le_of_ble_eq_true rfl) ?_
                refine z_lv (lv' := [some (.ref x0), some (.int (nI (fr0 + 1))), some (.int (nI (dm0 + 1))), some (.int (nI 0)), some (.int (nI cl0)), some (.int (nI ol0)), some (.int (nI p0)), some (.int (nI (xI S 0 p0))), some (.int (nI (xR S 0 p0))), some (.int (nI 1)), some (.int (nI 1))]) rfl ?_
                refine z_iload C dL_lines_307 rfl ?_
                refine z_nif_eq_f C 317 dL_lines_309 (by decide) (by omega) (by omega) ?_
                refine z_iload C dL_lines_312 rfl ?_
                refine z_nif_ne_t C 319 dL_lines_314 (by decide) (by omega) (by omega) ?_
                refine z_iinc C (nI (p0 + 1)) dL_lines_319 rfl (zi_1 _) ?_
                refine z_lv (lv' := [some (.ref x0), some (.int (nI (fr0 + 1))), some (.int (nI (dm0 + 1))), some (.int (nI 0)), some (.int (nI cl0)), some (.int (nI ol0)), some (.int (nI (p0 + 1))), some (.int (nI (xI S 0 p0))), some (.int (nI (xR S 0 p0))), some (.int (nI 1)), some (.int (nI 1))]) rfl ?_
                refine z_goto C 20 dL_lines_322 (by decide) ?_
                refine z_kill 7 ?_
                refine z_kill 8 ?_
                refine z_kill 9 ?_
                refine z_kill 10 ?_
                exact ih20_0 (uU S 0 - (p0 + 1)) (by omega) (p0 + 1) (fr0 + 1) (dm0 + 1) cl0 ol0 rfl (by omega) (by first | exact inc_y (by assumption) hfr0 | exact inc_n (by assumption) hfr0) (by first | exact inc_y (by assumption) hdm0 | exact inc_n (by assumption) hdm0) (by first | exact inc_y (nDm_t (by assumption)) hcl0 | exact inc_n (nDm_f (by assumption)) hcl0) (by first | exact inc_y (nNw_t (by assumption)) hol0 | exact inc_n (nNw_f (by assumption)) hol0)
            · refine z_aload_n C 0 dL_lines_175 rfl rfl ?_
              refine z_iload C dL_lines_176 rfl ?_
              refine z_iconst C (nI 0) dL_lines_178 (by decide) ?_
              refine z_callVr C kX5_change gL_lines_X5_change (l_chg0 X.2.1 x0 h0 w0 t S (xI S 0 p0) hG fk_38) dL_lines_179 [0, 1, 2, 3, 4, 5, 6, 7, 8] [] 0 rfl nd_0_1_2_3_4_5_6_7_8 rfl rfl rfl (by decide) (by decide) (Nat.le_of_ble_eq_true rfl) rfl ?_
              refine z_iconst C (nI 2) dL_lines_182 (by decide) ?_
              refine z_iload_n C 3 dL_lines_183 rfl rfl ?_
              refine z_imul C dL_lines_184 ?_
              refine z_top (y := nI 0) (pk_mul _ _) ?_
              refine z_ncmp_ne_f C 230 dL_lines_185 (by decide) (by omega) (by omega) (by omega) ?_
              refine z_aload_n C 0 dL_lines_188 rfl rfl ?_
              refine z_iload C dL_lines_189 rfl ?_
              refine z_iconst C (nI 2) dL_lines_191 (by decide) ?_
              refine z_callVr C kX5_change gL_lines_X5_change (l_chg2 X.2.1 x0 h0 w0 t S (xI S 0 p0) hG fk_38) dL_lines_192 [0, 1, 2, 3, 4, 5, 6, 7, 8] [] 0 rfl nd_0_1_2_3_4_5_6_7_8 rfl rfl rfl (by decide) (by decide) (Nat.le_of_ble_eq_true rfl) rfl ?_
              refine z_nif_ne_f C 230 dL_lines_195 (by decide) (by omega) (by omega) ?_
              refine z_aload_n C 0 dL_lines_198 rfl rfl ?_
              refine z_iload C dL_lines_199 rfl ?_
              refine z_iconst C (nI 3) dL_lines_201 (by decide) ?_
              refine z_iload_n C 3 dL_lines_202 rfl rfl ?_
              refine z_iadd C dL_lines_203 ?_
              refine z_top (y := nI 3) (nI_add _ _) ?_
              refine z_callVr C kX5_change gL_lines_X5_change (l_chg3y X.2.1 x0 h0 w0 t S (xI S 0 p0) p0 hG fk_38 fk_41) dL_lines_204 [0, 1, 2, 3, 4, 5, 6, 7, 8] [] 0 rfl nd_0_1_2_3_4_5_6_7_8 rfl rfl rfl (by decide) (by decide) (Nat.le_of_ble_eq_true rfl) rfl ?_
              refine z_iload C dL_lines_207 rfl ?_
              refine z_ncmp_ne_f C 230 dL_lines_209 (by decide) (by omega) (by omega) (by omega) ?_
              refine z_aload_n C 0 dL_lines_212 rfl rfl ?_
              refine z_iload C dL_lines_213 rfl ?_
              refine z_iconst C (nI 4) dL_lines_215 (by decide) ?_
              refine z_iload_n C 3 dL_lines_216 rfl rfl ?_
              refine z_isub C dL_lines_217 ?_
              refine z_top (y := nI 4) ((pk_sub (by omega)).trans (congrArg nI (by omega))) ?_
              refine z_callVr C kX5_change gL_lines_X5_change (l_chg4n X.2.1 x0 h0 w0 t S (xI S 0 p0) hG fk_38 fk_42) dL_lines_218 [0, 1, 2, 3, 4, 5, 6, 7, 8] [] 0 rfl nd_0_1_2_3_4_5_6_7_8 rfl rfl rfl (by decide) (by decide) (Nat.le_of_ble_eq_true rfl) rfl ?_
              refine z_bipush C (-5) dL_lines_221 (by decide) ?_
              refine z_icmp_ne_f C 230 dL_lines_223 (by decide) rfl ?_
              refine z_iconst C (nI 1) dL_lines_226 (by decide) ?_
              refine z_goto C 231 dL_lines_227 (by decide) ?_
              refine z_istore C dL_lines_231 (Nat.le_of_ble_eq_true rfl) ?_
              refine z_lv (lv' := [some (.ref x0), some (.int (nI (fr0 + 1))), some (.int (nI (dm0 + 1))), some (.int (nI 0)), some (.int (nI cl0)), some (.int (nI ol0)), some (.int (nI p0)), some (.int (nI (xI S 0 p0))), some (.int (nI (xR S 0 p0))), some (.int (nI 1)), none]) rfl ?_
              refine z_iload C dL_lines_233 rfl ?_
              refine z_bipush C (-5) dL_lines_235 (by decide) ?_
              refine z_icmp_eq C 300 dL_lines_237 (by decide) (fun h_52 => ?_) (fun h_52 => ?_)
              · refine z_iconst C (nI 1) dL_lines_300 (by decide) ?_
                refine z_goto C 305 dL_lines_301 (by decide) ?_
                refine z_istore C dL_lines_305 (Nat.le_of_ble_eq_true rfl) ?_
                refine z_lv (lv' := [some (.ref x0), some (.int (nI (fr0 + 1))), some (.int (nI (dm0 + 1))), some (.int (nI 0)), some (.int (nI cl0)), some (.int (nI ol0)), some (.int (nI p0)), some (.int (nI (xI S 0 p0))), some (.int (nI (xR S 0 p0))), some (.int (nI 1)), some (.int (nI 1))]) rfl ?_
                refine z_iload C dL_lines_307 rfl ?_
                refine z_nif_eq_f C 317 dL_lines_309 (by decide) (by omega) (by omega) ?_
                refine z_iload C dL_lines_312 rfl ?_
                refine z_nif_ne_t C 319 dL_lines_314 (by decide) (by omega) (by omega) ?_
                refine z_iinc C (nI (p0 + 1)) dL_lines_319 rfl (zi_1 _) ?_
                refine z_lv (lv' := [some (.ref x0), some (.int (nI (fr0 + 1))), some (.int (nI (dm0 + 1))), some (.int (nI 0)), some (.int (nI cl0)), some (.int (nI ol0)), some (.int (nI (p0 + 1))), some (.int (nI (xI S 0 p0))), some (.int (nI (xR S 0 p0))), some (.int (nI 1)), some (.int (nI 1))]) rfl ?_
                refine z_goto C 20 dL_lines_322 (by decide) ?_
                refine z_kill 7 ?_
                refine z_kill 8 ?_
                refine z_kill 9 ?_
                refine z_kill 10 ?_
                exact ih20_0 (uU S 0 - (p0 + 1)) (by omega) (p0 + 1) (fr0 + 1) (dm0 + 1) cl0 ol0 rfl (by omega) (by first | exact inc_y (by assumption) hfr0 | exact inc_n (by assumption) hfr0) (by first | exact inc_y (by assumption) hdm0 | exact inc_n (by assumption) hdm0) (by first | exact inc_y (nDm_t (by assumption)) hcl0 | exact inc_n (nDm_f (by assumption)) hcl0) (by first | exact inc_y (nNw_t (by assumption)) hol0 | exact inc_n (nNw_f (by assumption)) hol0)
              · refine z_aload_n C 0 dL_lines_240 rfl rfl ?_
                refine z_iload C dL_lines_241 rfl ?_
                refine z_iconst C (nI 0) dL_lines_243 (by decide) ?_
                refine z_callVr C kX5_change gL_lines_X5_change (l_chg0 X.2.1 x0 h0 w0 t S (xR S 0 p0) hG fk_44) dL_lines_244 [0, 1, 2, 3, 4, 5, 6, 7, 8] [] 0 rfl nd_0_1_2_3_4_5_6_7_8 rfl rfl rfl (by decide) (by decide) (Nat.le_of_ble_eq_true rfl) rfl ?_
                refine z_iconst C (nI 2) dL_lines_247 (by decide) ?_
                refine z_iload_n C 3 dL_lines_248 rfl rfl ?_
                refine z_imul C dL_lines_249 ?_
                refine z_top (y := nI 0) (pk_mul _ _) ?_
                refine z_iconst C (nI 1) dL_lines_250 (by decide) ?_
                refine z_iadd C dL_lines_251 ?_
                refine z_top (y := nI 1) (nI_add _ _) ?_
                refine z_ncmp_ne_f C 304 dL_lines_252 (by decide) (by omega) (by omega) (by omega) ?_
                refine z_aload_n C 0 dL_lines_255 rfl rfl ?_
                refine z_iload C dL_lines_256 rfl ?_
                refine z_iconst C (nI 2) dL_lines_258 (by decide) ?_
                refine z_callVr C kX5_change gL_lines_X5_change (l_chg2 X.2.1 x0 h0 w0 t S (xR S 0 p0) hG fk_44) dL_lines_259 [0, 1, 2, 3, 4, 5, 6, 7, 8] [] 0 rfl nd_0_1_2_3_4_5_6_7_8 rfl rfl rfl (by decide) (by decide) (Nat.le_of_ble_eq_true rfl) rfl ?_
                refine z_nif_ne_f C 304 dL_lines_262 (by decide) (by omega) (by omega) ?_
                refine z_aload_n C 0 dL_lines_265 rfl rfl ?_
                refine z_iload C dL_lines_266 rfl ?_
                refine z_iconst C (nI 3) dL_lines_268 (by decide) ?_
                refine z_iload_n C 3 dL_lines_269 rfl rfl ?_
                refine z_iadd C dL_lines_270 ?_
                refine z_top (y := nI 3) (nI_add _ _) ?_
                refine z_callVr C kX5_change gL_lines_X5_change (l_chg3y X.2.1 x0 h0 w0 t S (xR S 0 p0) p0 hG fk_44 fk_47) dL_lines_271 [0, 1, 2, 3, 4, 5, 6, 7, 8] [] 0 rfl nd_0_1_2_3_4_5_6_7_8 rfl rfl rfl (by decide) (by decide) (Nat.le_of_ble_eq_true rfl) rfl ?_
                refine z_iload C dL_lines_274 rfl ?_
                refine z_ncmp_ne_f C 304 dL_lines_276 (by decide) (by omega) (by omega) (by omega) ?_
                refine z_aload_n C 0 dL_lines_279 rfl rfl ?_
                refine z_iload C dL_lines_280 rfl ?_
                refine z_bipush C (nI 7) dL_lines_282 (by decide) ?_
                refine z_callVr C kX5_change gL_lines_X5_change (l_chg7 X.2.1 x0 h0 w0 t S (xR S 0 p0) hG fk_44) dL_lines_284 [0, 1, 2, 3, 4, 5, 6, 7, 8] [] 0 rfl nd_0_1_2_3_4_5_6_7_8 rfl rfl rfl (by decide) (by decide) (Nat.le_of_ble_eq_true rfl) rfl ?_
                have hg_53 : zc (sup S (xR S 0 p0)) (mK S) ≤ mK S := zc_le _ _
                refine z_iload C dL_lines_287 rfl ?_
                refine z_nif_lt_f C 296 dL_lines_289 (by decide) (by omega) (by trivial) ?_
                refine z_iconst C (nI 1) dL_lines_292 (by decide) ?_
                refine z_goto C 297 dL_lines_293 (by decide) ?_
                refine z_ncmp_ne_f C 304 dL_lines_297 (by decide) (by omega) (by omega) (by omega) ?_
                refine z_iconst C (nI 1) dL_lines_300 (by decide) ?_
                refine z_goto C 305 dL_lines_301 (by decide) ?_
                refine z_istore C dL_lines_305 (Nat.le_of_ble_eq_true rfl) ?_
                refine z_lv (lv' := [some (.ref x0), some (.int (nI (fr0 + 1))), some (.int (nI (dm0 + 1))), some (.int (nI 0)), some (.int (nI cl0)), some (.int (nI ol0)), some (.int (nI p0)), some (.int (nI (xI S 0 p0))), some (.int (nI (xR S 0 p0))), some (.int (nI 1)), some (.int (nI 1))]) rfl ?_
                refine z_iload C dL_lines_307 rfl ?_
                refine z_nif_eq_f C 317 dL_lines_309 (by decide) (by omega) (by omega) ?_
                refine z_iload C dL_lines_312 rfl ?_
                refine z_nif_ne_t C 319 dL_lines_314 (by decide) (by omega) (by omega) ?_
                refine z_iinc C (nI (p0 + 1)) dL_lines_319 rfl (zi_1 _) ?_
                refine z_lv (lv' := [some (.ref x0), some (.int (nI (fr0 + 1))), some (.int (nI (dm0 + 1))), some (.int (nI 0)), some (.int (nI cl0)), some (.int (nI ol0)), some (.int (nI (p0 + 1))), some (.int (nI (xI S 0 p0))), some (.int (nI (xR S 0 p0))), some (.int (nI 1)), some (.int (nI 1))]) rfl ?_
                refine z_goto C 20 dL_lines_322 (by decide) ?_
                refine z_kill 7 ?_
                refine z_kill 8 ?_
                refine z_kill 9 ?_
                refine z_kill 10 ?_
                exact ih20_0 (uU S 0 - (p0 + 1)) (by omega) (p0 + 1) (fr0 + 1) (dm0 + 1) cl0 ol0 rfl (by omega) (by first | exact inc_y (by assumption) hfr0 | exact inc_n (by assumption) hfr0) (by first | exact inc_y (by assumption) hdm0 | exact inc_n (by assumption) hdm0) (by first | exact inc_y (nDm_t (by assumption)) hcl0 | exact inc_n (nDm_f (by assumption)) hcl0) (by first | exact inc_y (nNw_t (by assumption)) hol0 | exact inc_n (nNw_f (by assumption)) hol0)
          · refine z_callVr C kX5_line gL_lines_X5_line (l_line1n X.2.1 x0 h0 w0 t S 0 p0 hG (by decide) h_1 hq_43) dL_lines_46 [0, 1, 2, 3, 4, 5, 6, 7, 8] [] 0 rfl nd_0_1_2_3_4_5_6_7_8 rfl rfl rfl (by decide) (by decide) (Nat.le_of_ble_eq_true rfl) rfl ?_
            refine z_istore C dL_lines_49 (Nat.le_of_ble_eq_true rfl) ?_
            refine z_lv (lv' := [some (.ref x0), some (.int (nI fr0)), some (.int (nI dm0)), some (.int (nI 0)), some (.int (nI cl0)), some (.int (nI ol0)), some (.int (nI p0)), some (.int (nI (xI S 0 p0))), some (.int (-5)), none, none]) rfl ?_
            refine z_iload_n C 1 dL_lines_51 rfl rfl ?_
            refine z_iload C dL_lines_52 rfl ?_
            refine z_nif_lt_f C 61 dL_lines_54 (by decide) (by omega) (by trivial) ?_
            refine z_iconst C (nI 1) dL_lines_57 (by decide) ?_
            refine z_goto C 62 dL_lines_58 (by decide) ?_
            refine z_iadd C dL_lines_62 ?_
            refine z_top (y := nI (fr0 + 1)) (nI_add _ _) ?_
            refine z_istore_n C 1 dL_lines_63 rfl (Nat.le_of_ble_eq_true rfl) ?_
            refine z_lv (lv' := [some (.ref x0), some (.int (nI (fr0 + 1))), some (.int (nI dm0)), some (.int (nI 0)), some (.int (nI cl0)), some (.int (nI ol0)), some (.int (nI p0)), some (.int (nI (xI S 0 p0))), some (.int (-5)), none, none]) rfl ?_
            refine z_iload_n C 2 dL_lines_64 rfl rfl ?_
            refine z_iload C dL_lines_65 rfl ?_
            refine z_if_lt_t C 74 dL_lines_67 (by decide) (by decide) ?_
            refine z_iconst C (nI 0) dL_lines_74 (by decide) ?_
            refine z_iadd C dL_lines_75 ?_
            refine z_top (y := nI dm0) (nI_add _ _) ?_
            refine z_istore_n C 2 dL_lines_76 rfl (Nat.le_of_ble_eq_true rfl) ?_
            refine z_lv (lv' := [some (.ref x0), some (.int (nI (fr0 + 1))), some (.int (nI dm0)), some (.int (nI 0)), some (.int (nI cl0)), some (.int (nI ol0)), some (.int (nI p0)), some (.int (nI (xI S 0 p0))), some (.int (-5)), none, none]) rfl ?_
            refine z_aload_n C 0 dL_lines_77 rfl rfl ?_
            refine z_iload_n C 3 dL_lines_78 rfl rfl ?_
            refine z_iload C dL_lines_79 rfl ?_
            refine z_iconst C (nI 2) dL_lines_81 (by decide) ?_
            refine z_callVr C kX5_line gL_lines_X5_line (l_line2n X.2.1 x0 h0 w0 t S 0 p0 hG (by decide) h_1 hq_43) dL_lines_82 [0, 1, 2, 3, 4, 5, 6, 7, 8] [] 0 rfl nd_0_1_2_3_4_5_6_7_8 rfl rfl rfl (by decide) (by decide) (Nat.le_of_ble_eq_true rfl) rfl ?_
            have hg_54 : zc (nDm S 0) p0 ≤ p0 := zc_le _ _
            refine z_iload C dL_lines_85 rfl ?_
            refine z_if_lt_t C 95 dL_lines_87 (by decide) (by decide) ?_
            refine z_iload C dL_lines_95 rfl ?_
            refine z_ncmp_ne_f C 136 dL_lines_97 (by decide) (by omega) (by omega) (by omega) ?_
            refine z_aload_n C 0 dL_lines_100 rfl rfl ?_
            refine z_iload_n C 3 dL_lines_101 rfl rfl ?_
            refine z_iload C dL_lines_102 rfl ?_
            refine z_iconst C (nI 3) dL_lines_104 (by decide) ?_
            refine z_callVr C kX5_line gL_lines_X5_line (l_line3y X.2.1 x0 h0 w0 t S 0 p0 hG (by decide) h_1 hq_37) dL_lines_105 [0, 1, 2, 3, 4, 5, 6, 7, 8] [] 0 rfl nd_0_1_2_3_4_5_6_7_8 rfl rfl rfl (by decide) (by decide) (Nat.le_of_ble_eq_true rfl) rfl ?_
            refine z_iload C dL_lines_108 rfl ?_
            refine z_nif_lt_f C 118 dL_lines_110 (by decide) (by omega) (by trivial) ?_
            refine z_bipush C (-5) dL_lines_113 (by decide) ?_
            refine z_goto C 120 dL_lines_115 (by decide) ?_
            refine z_icmp_ne_f C 136 dL_lines_120 (by decide) rfl ?_
            refine z_aload_n C 0 dL_lines_123 rfl rfl ?_
            refine z_iload_n C 3 dL_lines_124 rfl rfl ?_
            refine z_iload C dL_lines_125 rfl ?_
            refine z_iconst C (nI 5) dL_lines_127 (by decide) ?_
            refine z_callVr C kX5_line gL_lines_X5_line (l_line5 X.2.1 x0 h0 w0 t S 0 p0 hG (by decide) h_1) dL_lines_128 [0, 1, 2, 3, 4, 5, 6, 7, 8] [] 0 rfl nd_0_1_2_3_4_5_6_7_8 rfl rfl rfl (by decide) (by decide) (Nat.le_of_ble_eq_true rfl) rfl ?_
            refine z_bipush C (-2) dL_lines_131 (by decide) ?_
            refine z_icmp_eq_t C 138 dL_lines_133 (by decide) rfl ?_
            refine z_iload C dL_lines_138 rfl ?_
            refine z_iload C dL_lines_140 rfl ?_
            refine z_if_lt_t C 149 dL_lines_142 (by decide) (by decide) ?_
            refine z_iconst C (nI 1) dL_lines_149 (by decide) ?_
            refine z_iadd C dL_lines_150 ?_
            refine z_top (y := nI (cl0 + 1)) (nI_add _ _) ?_
            refine z_istore C dL_lines_151 (Nat.le_of_ble_eq_true rfl) ?_
            refine z_lv (lv' := [some (.ref x0), some (.int (nI (fr0 + 1))), some (.int (nI dm0)), some (.int (nI 0)), some (.int (nI (cl0 + 1))), some (.int (nI ol0)), some (.int (nI p0)), some (.int (nI (xI S 0 p0))), some (.int (-5)), none, none]) rfl ?_
            refine z_iload C dL_lines_153 rfl ?_
            refine z_iload C dL_lines_155 rfl ?_
            refine z_nif_lt_f C 164 dL_lines_157 (by decide) (by omega) (by trivial) ?_
            refine z_iconst C (nI 0) dL_lines_160 (by decide) ?_
            refine z_goto C 165 dL_lines_161 (by decide) ?_
            refine z_iadd C dL_lines_165 ?_
            refine z_top (y := nI ol0) (nI_add _ _) ?_
            refine z_istore C dL_lines_166 (Nat.le_of_ble_eq_true rfl) ?_
            refine z_lv (lv' := [some (.ref x0), some (.int (nI (fr0 + 1))), some (.int (nI dm0)), some (.int (nI 0)), some (.int (nI (cl0 + 1))), some (.int (nI ol0)), some (.int (nI p0)), some (.int (nI (xI S 0 p0))), some (.int (-5)), none, none]) rfl ?_
            refine z_iload C dL_lines_168 rfl ?_
            refine z_bipush C (-5) dL_lines_170 (by decide) ?_
            refine z_icmp_eq C 226 dL_lines_172 (by decide) (fun h_55 => ?_) (fun h_55 => ?_)
            · refine z_iconst C (nI 1) dL_lines_226 (by decide) ?_
              refine z_goto C 231 dL_lines_227 (by decide) ?_
              refine z_istore C dL_lines_231 (Nat.le_of_ble_eq_true rfl) ?_
              refine z_lv (lv' := [some (.ref x0), some (.int (nI (fr0 + 1))), some (.int (nI dm0)), some (.int (nI 0)), some (.int (nI (cl0 + 1))), some (.int (nI ol0)), some (.int (nI p0)), some (.int (nI (xI S 0 p0))), some (.int (-5)), some (.int (nI 1)), none]) rfl ?_
              refine z_iload C dL_lines_233 rfl ?_
              refine z_bipush C (-5) dL_lines_235 (by decide) ?_
              refine z_icmp_eq_t C 300 dL_lines_237 (by decide) rfl ?_
              refine z_iconst C (nI 1) dL_lines_300 (by decide) ?_
              refine z_goto C 305 dL_lines_301 (by decide) ?_
              refine z_istore C dL_lines_305 (Nat.le_of_ble_eq_true rfl) ?_
              refine z_lv (lv' := [some (.ref x0), some (.int (nI (fr0 + 1))), some (.int (nI dm0)), some (.int (nI 0)), some (.int (nI (cl0 + 1))), some (.int (nI ol0)), some (.int (nI p0)), some (.int (nI (xI S 0 p0))), some (.int (-5)), some (.int (nI 1)), some (.int (nI 1))]) rfl ?_
              refine z_iload C dL_lines_307 rfl ?_
              refine z_nif_eq_f C 317 dL_lines_309 (by decide) (by omega) (by omega) ?_
              refine z_iload C dL_lines_312 rfl ?_
              refine z_nif_ne_t C 319 dL_lines_314 (by decide) (by omega) (by omega) ?_
              refine z_iinc C (nI (p0 + 1)) dL_lines_319 rfl (zi_1 _) ?_
              refine z_lv (lv' := [some (.ref x0), some (.int (nI (fr0 + 1))), some (.int (nI dm0)), some (.int (nI 0)), some (.int (nI (cl0 + 1))), some (.int (nI ol0)), some (.int (nI (p0 + 1))), some (.int (nI (xI S 0 p0))), some (.int (-5)), some (.int (nI 1)), some (.int (nI 1))]) rfl ?_
              refine z_goto C 20 dL_lines_322 (by decide) ?_
              refine z_kill 7 ?_
              refine z_kill 8 ?_
              refine z_kill 9 ?_
              refine z_kill 10 ?_
              exact ih20_0 (uU S 0 - (p0 + 1)) (by omega) (p0 + 1) (fr0 + 1) dm0 (cl0 + 1) ol0 rfl (by omega) (by first | exact inc_y (by assumption) hfr0 | exact inc_n (by assumption) hfr0) (by first | exact inc_y (by assumption) hdm0 | exact inc_n (by assumption) hdm0) (by first | exact inc_y (nDm_t (by assumption)) hcl0 | exact inc_n (nDm_f (by assumption)) hcl0) (by first | exact inc_y (nNw_t (by assumption)) hol0 | exact inc_n (nNw_f (by assumption)) hol0)
            · refine z_aload_n C 0 dL_lines_175 rfl rfl ?_
              refine z_iload C dL_lines_176 rfl ?_
              refine z_iconst C (nI 0) dL_lines_178 (by decide) ?_
              refine z_callVr C kX5_change gL_lines_X5_change (l_chg0 X.2.1 x0 h0 w0 t S (xI S 0 p0) hG fk_38) dL_lines_179 [0, 1, 2, 3, 4, 5, 6, 7, 8] [] 0 rfl nd_0_1_2_3_4_5_6_7_8 rfl rfl rfl (by decide) (by decide) (Nat.le_of_ble_eq_true rfl) rfl ?_
              refine z_iconst C (nI 2) dL_lines_182 (by decide) ?_
              refine z_iload_n C 3 dL_lines_183 rfl rfl ?_
              refine z_imul C dL_lines_184 ?_
              refine z_top (y := nI 0) (pk_mul _ _) ?_
              refine z_ncmp_ne_f C 230 dL_lines_185 (by decide) (by omega) (by omega) (by omega) ?_
              refine z_aload_n C 0 dL_lines_188 rfl rfl ?_
              refine z_iload C dL_lines_189 rfl ?_
              refine z_iconst C (nI 2) dL_lines_191 (by decide) ?_
              refine z_callVr C kX5_change gL_lines_X5_change (l_chg2 X.2.1 x0 h0 w0 t S (xI S 0 p0) hG fk_38) dL_lines_192 [0, 1, 2, 3, 4, 5, 6, 7, 8] [] 0 rfl nd_0_1_2_3_4_5_6_7_8 rfl rfl rfl (by decide) (by decide) (Nat.le_of_ble_eq_true rfl) rfl ?_
              refine z_nif_ne_f C 230 dL_lines_195 (by decide) (by omega) (by omega) ?_
              refine z_aload_n C 0 dL_lines_198 rfl rfl ?_
              refine z_iload C dL_lines_199 rfl ?_
              refine z_iconst C (nI 3) dL_lines_201 (by decide) ?_
              refine z_iload_n C 3 dL_lines_202 rfl rfl ?_
              refine z_iadd C dL_lines_203 ?_
              refine z_top (y := nI 3) (nI_add _ _) ?_
              refine z_callVr C kX5_change gL_lines_X5_change (l_chg3y X.2.1 x0 h0 w0 t S (xI S 0 p0) p0 hG fk_38 fk_41) dL_lines_204 [0, 1, 2, 3, 4, 5, 6, 7, 8] [] 0 rfl nd_0_1_2_3_4_5_6_7_8 rfl rfl rfl (by decide) (by decide) (Nat.le_of_ble_eq_true rfl) rfl ?_
              refine z_iload C dL_lines_207 rfl ?_
              refine z_ncmp_ne_f C 230 dL_lines_209 (by decide) (by omega) (by omega) (by omega) ?_
              refine z_aload_n C 0 dL_lines_212 rfl rfl ?_
              refine z_iload C dL_lines_213 rfl ?_
              refine z_iconst C (nI 4) dL_lines_215 (by decide) ?_
              refine z_iload_n C 3 dL_lines_216 rfl rfl ?_
              refine z_isub C dL_lines_217 ?_
              refine z_top (y := nI 4) ((pk_sub (by omega)).trans (congrArg nI (by omega))) ?_
              refine z_callVr C kX5_change gL_lines_X5_change (l_chg4n X.2.1 x0 h0 w0 t S (xI S 0 p0) hG fk_38 fk_42) dL_lines_218 [0, 1, 2, 3, 4, 5, 6, 7, 8] [] 0 rfl nd_0_1_2_3_4_5_6_7_8 rfl rfl rfl (by decide) (by decide) (Nat.le_of_ble_eq_true rfl) rfl ?_
              refine z_bipush C (-5) dL_lines_221 (by decide) ?_
              refine z_icmp_ne_f C 230 dL_lines_223 (by decide) rfl ?_
              refine z_iconst C (nI 1) dL_lines_226 (by decide) ?_
              refine z_goto C 231 dL_lines_227 (by decide) ?_
              refine z_istore C dL_lines_231 (Nat.le_of_ble_eq_true rfl) ?_
              refine z_lv (lv' := [some (.ref x0), some (.int (nI (fr0 + 1))), some (.int (nI dm0)), some (.int (nI 0)), some (.int (nI (cl0 + 1))), some (.int (nI ol0)), some (.int (nI p0)), some (.int (nI (xI S 0 p0))), some (.int (-5)), some (.int (nI 1)), none]) rfl ?_
              refine z_iload C dL_lines_233 rfl ?_
              refine z_bipush C (-5) dL_lines_235 (by decide) ?_
              refine z_icmp_eq_t C 300 dL_lines_237 (by decide) rfl ?_
              refine z_iconst C (nI 1) dL_lines_300 (by decide) ?_
              refine z_goto C 305 dL_lines_301 (by decide) ?_
              refine z_istore C dL_lines_305 (Nat.le_of_ble_eq_true rfl) ?_
              refine z_lv (lv' := [some (.ref x0), some (.int (nI (fr0 + 1))), some (.int (nI dm0)), some (.int (nI 0)), some (.int (nI (cl0 + 1))), some (.int (nI ol0)), some (.int (nI p0)), some (.int (nI (xI S 0 p0))), some (.int (-5)), some (.int (nI 1)), some (.int (nI 1))]) rfl ?_
              refine z_iload C dL_lines_307 rfl ?_
              refine z_nif_eq_f C 317 dL_lines_309 (by decide) (by omega) (by omega) ?_
              refine z_iload C dL_lines_312 rfl ?_
              refine z_nif_ne_t C 319 dL_lines_314 (by decide) (by omega) (by omega) ?_
              refine z_iinc C (nI (p0 + 1)) dL_lines_319 rfl (zi_1 _) ?_
              refine z_lv (lv' := [some (.ref x0), some (.int (nI (fr0 + 1))), some (.int (nI dm0)), some (.int (nI 0)), some (.int (nI (cl0 + 1))), some (.int (nI ol0)), some (.int (nI (p0 + 1))), some (.int (nI (xI S 0 p0))), some (.int (-5)), some (.int (nI 1)), some (.int (nI 1))]) rfl ?_
              refine z_goto C 20 dL_lines_322 (by decide) ?_
              refine z_kill 7 ?_
              refine z_kill 8 ?_
              refine z_kill 9 ?_
              refine z_kill 10 ?_
              exact ih20_0 (uU S 0 - (p0 + 1)) (by omega) (p0 + 1) (fr0 + 1) dm0 (cl0 + 1) ol0 rfl (by omega) (by first | exact inc_y (by assumption) hfr0 | exact inc_n (by assumption) hfr0) (by first | exact inc_y (by assumption) hdm0 | exact inc_n (by assumption) hdm0) (by first | exact inc_y (nDm_t (by assumption)) hcl0 | exact inc_n (nDm_f (by assumption)) hcl0) (by first | exact inc_y (nNw_t (by assumption)) hol0 | exact inc_n (nNw_f (by assumption)) hol0)
        · refine z_callVr C kX5_line gL_lines_X5_line (l_line0n X.2.1 x0 h0 w0 t S 0 p0 hG (by decide) h_1 hq_37) dL_lines_36 [0, 1, 2, 3, 4, 5, 6, 7, 8] [] 0 rfl nd_0_1_2_3_4_5_6_7_8 rfl rfl rfl (by decide) (by decide) (Nat.le_of_ble_eq_true rfl) rfl ?_
          refine z_istore C dL_lines_39 (Nat.le_of_ble_eq_true rfl) ?_
          refine z_lv (lv' := [some (.ref x0), some (.int (nI fr0)), some (.int (nI dm0)), some (.int (nI 0)), some (.int (nI cl0)), some (.int (nI ol0)), some (.int (nI p0)), some (.int (-5)), none, none, none]) rfl ?_
          refine z_aload_n C 0 dL_lines_41 rfl rfl ?_
          refine z_iload_n C 3 dL_lines_42 rfl rfl ?_
          refine z_iload C dL_lines_43 rfl ?_
          refine z_iconst C (nI 1) dL_lines_45 (by decide) ?_
          rcases Bool.eq_false_or_eq_true (Dm S 0 p0) with hq_56 | hq_56
          · have fk_57 : xR S 0 p0 < mK S := (lnR hG (by decide) h_1 hq_56).1
            have fk_58 : kN S (xR S 0 p0) = 1 := (lnR hG (by decide) h_1 hq_56).2.1
            have fk_59 : sN S (xR S 0 p0) = 0 := (lnR hG (by decide) h_1 hq_56).2.2.1
            have fk_60 : lP S 0 (xR S 0 p0) = p0 + 1 := (lnR hG (by decide) h_1 hq_56).2.2.2
            have fk_61 : zc (sup S (xR S 0 p0)) (mK S) = 0 := lnR7n hG (by decide) hq_56 hq_37
            refine z_callVr C kX5_line gL_lines_X5_line (l_line1y X.2.1 x0 h0 w0 t S 0 p0 hG (by decide) h_1 hq_56) dL_lines_46 [0, 1, 2, 3, 4, 5, 6, 7, 8] [] 0 rfl nd_0_1_2_3_4_5_6_7_8 rfl rfl rfl (by decide) (by decide) (Nat.le_of_ble_eq_true rfl) rfl ?_
            refine z_istore C dL_lines_49 (Nat.le_of_ble_eq_true rfl) ?_
            refine z_lv (lv' := [some (.ref x0), some (.int (nI fr0)), some (.int (nI dm0)), some (.int (nI 0)), some (.int (nI cl0)), some (.int (nI ol0)), some (.int (nI p0)), some (.int (-5)), some (.int (nI (xR S 0 p0))), none, none]) rfl ?_
            refine z_iload_n C 1 dL_lines_51 rfl rfl ?_
            refine z_iload C dL_lines_52 rfl ?_
            refine z_if_lt_t C 61 dL_lines_54 (by decide) (by decide) ?_
            refine z_iconst C (nI 0) dL_lines_61 (by decide) ?_
            refine z_iadd C dL_lines_62 ?_
            refine z_top (y := nI fr0) (nI_add _ _) ?_
            refine z_istore_n C 1 dL_lines_63 rfl (Nat.le_of_ble_eq_true rfl) ?_
            refine z_lv (lv' := [some (.ref x0), some (.int (nI fr0)), some (.int (nI dm0)), some (.int (nI 0)), some (.int (nI cl0)), some (.int (nI ol0)), some (.int (nI p0)), some (.int (-5)), some (.int (nI (xR S 0 p0))), none, none]) rfl ?_
            refine z_iload_n C 2 dL_lines_64 rfl rfl ?_
            refine z_iload C dL_lines_65 rfl ?_
            refine z_nif_lt_f C 74 dL_lines_67 (by decide) (by omega) (by trivial) ?_
            refine z_iconst C (nI 1) dL_lines_70 (by decide) ?_
            refine z_goto C 75 dL_lines_71 (by decide) ?_
            refine z_iadd C dL_lines_75 ?_
            refine z_top (y := nI (dm0 + 1)) (nI_add _ _) ?_
            refine z_istore_n C 2 dL_lines_76 rfl (Nat.le_of_ble_eq_true rfl) ?_
            refine z_lv (lv' := [some (.ref x0), some (.int (nI fr0)), some (.int (nI (dm0 + 1))), some (.int (nI 0)), some (.int (nI cl0)), some (.int (nI ol0)), some (.int (nI p0)), some (.int (-5)), some (.int (nI (xR S 0 p0))), none, none]) rfl ?_
            refine z_aload_n C 0 dL_lines_77 rfl rfl ?_
            refine z_iload_n C 3 dL_lines_78 rfl rfl ?_
            refine z_iload C dL_lines_79 rfl ?_
            refine z_iconst C (nI 2) dL_lines_81 (by decide) ?_
            refine z_callVr C kX5_line gL_lines_X5_line (l_line2y X.2.1 x0 h0 w0 t S 0 p0 hG (by decide) h_1 hq_56) dL_lines_82 [0, 1, 2, 3, 4, 5, 6, 7, 8] [] 0 rfl nd_0_1_2_3_4_5_6_7_8 rfl rfl rfl (by decide) (by decide) (Nat.le_of_ble_eq_true rfl) rfl ?_
            refine z_iload C dL_lines_85 rfl ?_
            refine z_nif_lt_f C 95 dL_lines_87 (by decide) (by omega) (by trivial) ?_
            refine z_bipush C (-5) dL_lines_90 (by decide) ?_
            refine z_goto C 97 dL_lines_92 (by decide) ?_
            refine z_icmp_ne_f C 136 dL_lines_97 (by decide) rfl ?_
            refine z_aload_n C 0 dL_lines_100 rfl rfl ?_
            refine z_iload_n C 3 dL_lines_101 rfl rfl ?_
            refine z_iload C dL_lines_102 rfl ?_
            refine z_iconst C (nI 3) dL_lines_104 (by decide) ?_
            refine z_callVr C kX5_line gL_lines_X5_line (l_line3n X.2.1 x0 h0 w0 t S 0 p0 hG (by decide) h_1 hq_37) dL_lines_105 [0, 1, 2, 3, 4, 5, 6, 7, 8] [] 0 rfl nd_0_1_2_3_4_5_6_7_8 rfl rfl rfl (by decide) (by decide) (Nat.le_of_ble_eq_true rfl) rfl ?_
            have hg_62 : zc (nNw S 0) p0 ≤ p0 := zc_le _ _
            refine z_iload C dL_lines_108 rfl ?_
            refine z_if_lt_t C 118 dL_lines_110 (by decide) (by decide) ?_
            refine z_iload C dL_lines_118 rfl ?_
            refine z_ncmp_ne_f C 136 dL_lines_120 (by decide) (by omega) (by omega) (by omega) ?_
            refine z_aload_n C 0 dL_lines_123 rfl rfl ?_
            refine z_iload_n C 3 dL_lines_124 rfl rfl ?_
            refine z_iload C dL_lines_125 rfl ?_
            refine z_iconst C (nI 5) dL_lines_127 (by decide) ?_
            refine z_callVr C kX5_line gL_lines_X5_line (l_line5 X.2.1 x0 h0 w0 t S 0 p0 hG (by decide) h_1) dL_lines_128 [0, 1, 2, 3, 4, 5, 6, 7, 8] [] 0 rfl nd_0_1_2_3_4_5_6_7_8 rfl rfl rfl (by decide) (by decide) (Nat.le_of_ble_eq_true rfl) rfl ?_
            refine z_bipush C (-2) dL_lines_131 (by decide) ?_
            refine z_icmp_eq_t C 138 dL_lines_133 (by decide) rfl ?_
            refine z_iload C dL_lines_138 rfl ?_
            refine z_iload C dL_lines_140 rfl ?_
            refine z_nif_lt_f C 149 dL_lines_142 (by decide) (by omega) (by trivial) ?_
            refine z_iconst C (nI 0) dL_lines_145 (by decide) ?_
            refine z_goto C 150 dL_lines_146 (by decide) ?_
            refine z_iadd C dL_lines_150 ?_
            refine z_top (y := nI cl0) (nI_add _ _) ?_
            refine z_istore C dL_lines_151 (Nat.le_of_ble_eq_true rfl) ?_
            refine z_lv (lv' := [some (.ref x0), some (.int (nI fr0)), some (.int (nI (dm0 + 1))), some (.int (nI 0)), some (.int (nI cl0)), some (.int (nI ol0)), some (.int (nI p0)), some (.int (-5)), some (.int (nI (xR S 0 p0))), none, none]) rfl ?_
            refine z_iload C dL_lines_153 rfl ?_
            refine z_iload C dL_lines_155 rfl ?_
            refine z_if_lt_t C 164 dL_lines_157 (by decide) (by decide) ?_
            refine z_iconst C (nI 1) dL_lines_164 (by decide) ?_
            refine z_iadd C dL_lines_165 ?_
            refine z_top (y := nI (ol0 + 1)) (nI_add _ _) ?_
            refine z_istore C dL_lines_166 (Nat.le_of_ble_eq_true rfl) ?_
            refine z_lv (lv' := [some (.ref x0), some (.int (nI fr0)), some (.int (nI (dm0 + 1))), some (.int (nI 0)), some (.int (nI cl0)), some (.int (nI (ol0 + 1))), some (.int (nI p0)), some (.int (-5)), some (.int (nI (xR S 0 p0))), none, none]) rfl ?_
            refine z_iload C dL_lines_168 rfl ?_
            refine z_bipush C (-5) dL_lines_170 (by decide) ?_
            refine z_icmp_eq_t C 226 dL_lines_172 (by decide) rfl ?_
            refine z_iconst C (nI 1) dL_lines_226 (by decide) ?_
            refine z_goto C 231 dL_lines_227 (by decide) ?_
            refine z_istore C dL_lines_231 (Nat.le_of_ble_eq_true rfl) ?_
            refine z_lv (lv' := [some (.ref x0), some (.int (nI fr0)), some (.int (nI (dm0 + 1))), some (.int (nI 0)), some (.int (nI cl0)), some (.int (nI (ol0 + 1))), some (.int (nI p0)), some (.int (-5)), some (.int (nI (xR S 0 p0))), some (.int (nI 1)), none]) rfl ?_
            refine z_iload C dL_lines_233 rfl ?_
            refine z_bipush C (-5) dL_lines_235 (by decide) ?_
            refine z_icmp_eq C 300 dL_lines_237 (by decide) (fun h_63 => ?_) (fun h_63 => ?_)
            · refine z_iconst C (nI 1) dL_lines_300 (by decide) ?_
              refine z_goto C 305 dL_lines_301 (by decide) ?_
              refine z_istore C dL_lines_305 (Nat.le_of_ble_eq_true rfl) ?_
              refine z_lv (lv' := [some (.ref x0), some (.int (nI fr0)), some (.int (nI (dm0 + 1))), some (.int (nI 0)), some (.int (nI cl0)), some (.int (nI (ol0 + 1))), some (.int (nI p0)), some (.int (-5)), some (.int (nI (xR S 0 p0))), some (.int (nI 1)), some (.int (nI 1))]) rfl ?_
              refine z_iload C dL_lines_307 rfl ?_
              refine z_nif_eq_f C 317 dL_lines_309 (by decide) (by omega) (by omega) ?_
              refine z_iload C dL_lines_312 rfl ?_
              refine z_nif_ne_t C 319 dL_lines_314 (by decide) (by omega) (by omega) ?_
              refine z_iinc C (nI (p0 + 1)) dL_lines_319 rfl (zi_1 _) ?_
              refine z_lv (lv' := [some (.ref x0), some (.int (nI fr0)), some (.int (nI (dm0 + 1))), some (.int (nI 0)), some (.int (nI cl0)), some (.int (nI (ol0 + 1))), some (.int (nI (p0 + 1))), some (.int (-5)), some (.int (nI (xR S 0 p0))), some (.int (nI 1)), some (.int (nI 1))]) rfl ?_
              refine z_goto C 20 dL_lines_322 (by decide) ?_
              refine z_kill 7 ?_
              refine z_kill 8 ?_
              refine z_kill 9 ?_
              refine z_kill 10 ?_
              exact ih20_0 (uU S 0 - (p0 + 1)) (by omega) (p0 + 1) fr0 (dm0 + 1) cl0 (ol0 + 1) rfl (by omega) (by first | exact inc_y (by assumption) hfr0 | exact inc_n (by assumption) hfr0) (by first | exact inc_y (by assumption) hdm0 | exact inc_n (by assumption) hdm0) (by first | exact inc_y (nDm_t (by assumption)) hcl0 | exact inc_n (nDm_f (by assumption)) hcl0) (by first | exact inc_y (nNw_t (by assumption)) hol0 | exact inc_n (nNw_f (by assumption)) hol0)
            · refine z_aload_n C 0 dL_lines_240 rfl rfl ?_
              refine z_iload C dL_lines_241 rfl ?_
              refine z_iconst C (nI 0) dL_lines_243 (by decide) ?_
              refine z_callVr C kX5_change gL_lines_X5_change (l_chg0 X.2.1 x0 h0 w0 t S (xR S 0 p0) hG fk_57) dL_lines_244 [0, 1, 2, 3, 4, 5, 6, 7, 8] [] 0 rfl nd_0_1_2_3_4_5_6_7_8 rfl rfl rfl (by decide) (by decide) (Nat.le_of_ble_eq_true rfl) rfl ?_
              refine z_iconst C (nI 2) dL_lines_247 (by decide) ?_
              refine z_iload_n C 3 dL_lines_248 rfl rfl ?_
              refine z_imul C dL_lines_249 ?_
              refine z_top (y := nI 0) (pk_mul _ _) ?_
              refine z_iconst C (nI 1) dL_lines_250 (by decide) ?_
              refine z_iadd C dL_lines_251 ?_
              refine z_top (y := nI 1) (nI_add _ _) ?_
              refine z_ncmp_ne_f C 304 dL_lines_252 (by decide) (by omega) (by omega) (by omega) ?_
              refine z_aload_n C 0 dL_lines_255 rfl rfl ?_
              refine z_iload C dL_lines_256 rfl ?_
              refine z_iconst C (nI 2) dL_lines_258 (by decide) ?_
              refine z_callVr C kX5_change gL_lines_X5_change (l_chg2 X.2.1 x0 h0 w0 t S (xR S 0 p0) hG fk_57) dL_lines_259 [0, 1, 2, 3, 4, 5, 6, 7, 8] [] 0 rfl nd_0_1_2_3_4_5_6_7_8 rfl rfl rfl (by decide) (by decide) (Nat.le_of_ble_eq_true rfl) rfl ?_
              refine z_nif_ne_f C 304 dL_lines_262 (by decide) (by omega) (by omega) ?_
              refine z_aload_n C 0 dL_lines_265 rfl rfl ?_
              refine z_iload C dL_lines_266 rfl ?_
              refine z_iconst C (nI 3) dL_lines_268 (by decide) ?_
              refine z_iload_n C 3 dL_lines_269 rfl rfl ?_
              refine z_iadd C dL_lines_270 ?_
              refine z_top (y := nI 3) (nI_add _ _) ?_
              refine z_callVr C kX5_change gL_lines_X5_change (l_chg3y X.2.1 x0 h0 w0 t S (xR S 0 p0) p0 hG fk_57 fk_60) dL_lines_271 [0, 1, 2, 3, 4, 5, 6, 7, 8] [] 0 rfl nd_0_1_2_3_4_5_6_7_8 rfl rfl rfl (by decide) (by decide) (Nat.le_of_ble_eq_true rfl) rfl ?_
              refine z_iload C dL_lines_274 rfl ?_
              refine z_ncmp_ne_f C 304 dL_lines_276 (by decide) (by omega) (by omega) (by omega) ?_
              refine z_aload_n C 0 dL_lines_279 rfl rfl ?_
              refine z_iload C dL_lines_280 rfl ?_
              refine z_bipush C (nI 7) dL_lines_282 (by decide) ?_
              refine z_callVr C kX5_change gL_lines_X5_change (l_chg7 X.2.1 x0 h0 w0 t S (xR S 0 p0) hG fk_57) dL_lines_284 [0, 1, 2, 3, 4, 5, 6, 7, 8] [] 0 rfl nd_0_1_2_3_4_5_6_7_8 rfl rfl rfl (by decide) (by decide) (Nat.le_of_ble_eq_true rfl) rfl ?_
              have hg_64 : zc (sup S (xR S 0 p0)) (mK S) ≤ mK S := zc_le _ _
              refine z_iload C dL_lines_287 rfl ?_
              refine z_if_lt_t C 296 dL_lines_289 (by decide) (by decide) ?_
              refine z_iconst C (nI 0) dL_lines_296 (by decide) ?_
              refine z_ncmp_ne_f C 304 dL_lines_297 (by decide) (by omega) (by omega) (by omega) ?_
              refine z_iconst C (nI 1) dL_lines_300 (by decide) ?_
              refine z_goto C 305 dL_lines_301 (by decide) ?_
              refine z_istore C dL_lines_305 (Nat.le_of_ble_eq_true rfl) ?_
              refine z_lv (lv' := [some (.ref x0), some (.int (nI fr0)), some (.int (nI (dm0 + 1))), some (.int (nI 0)), some (.int (nI cl0)), some (.int (nI (ol0 + 1))), some (.int (nI p0)), some (.int (-5)), some (.int (nI (xR S 0 p0))), some (.int (nI 1)), some (.int (nI 1))]) rfl ?_
              refine z_iload C dL_lines_307 rfl ?_
              refine z_nif_eq_f C 317 dL_lines_309 (by decide) (by omega) (by omega) ?_
              refine z_iload C dL_lines_312 rfl ?_
              refine z_nif_ne_t C 319 dL_lines_314 (by decide) (by omega) (by omega) ?_
              refine z_iinc C (nI (p0 + 1)) dL_lines_319 rfl (zi_1 _) ?_
              refine z_lv (lv' := [some (.ref x0), some (.int (nI fr0)), some (.int (nI (dm0 + 1))), some (.int (nI 0)), some (.int (nI cl0)), some (.int (nI (ol0 + 1))), some (.int (nI (p0 + 1))), some (.int (-5)), some (.int (nI (xR S 0 p0))), some (.int (nI 1)), some (.int (nI 1))]) rfl ?_
              refine z_goto C 20 dL_lines_322 (by decide) ?_
              refine z_kill 7 ?_
              refine z_kill 8 ?_
              refine z_kill 9 ?_
              refine z_kill 10 ?_
              exact ih20_0 (uU S 0 - (p0 + 1)) (by omega) (p0 + 1) fr0 (dm0 + 1) cl0 (ol0 + 1) rfl (by omega) (by first | exact inc_y (by assumption) hfr0 | exact inc_n (by assumption) hfr0) (by first | exact inc_y (by assumption) hdm0 | exact inc_n (by assumption) hdm0) (by first | exact inc_y (nDm_t (by assumption)) hcl0 | exact inc_n (nDm_f (by assumption)) hcl0) (by first | exact inc_y (nNw_t (by assumption)) hol0 | exact inc_n (nNw_f (by assumption)) hol0)
          · refine z_callVr C kX5_line gL_lines_X5_line (l_line1n X.2.1 x0 h0 w0 t S 0 p0 hG (by decide) h_1 hq_56) dL_lines_46 [0, 1, 2, 3, 4, 5, 6, 7, 8] [] 0 rfl nd_0_1_2_3_4_5_6_7_8 rfl rfl rfl (by decide) (by decide) (Nat.le_of_ble_eq_true rfl) rfl ?_
            refine z_istore C dL_lines_49 (Nat.le_of_ble_eq_true rfl) ?_
            refine z_lv (lv' := [some (.ref x0), some (.int (nI fr0)), some (.int (nI dm0)), some (.int (nI 0)), some (.int (nI cl0)), some (.int (nI ol0)), some (.int (nI p0)), some (.int (-5)), some (.int (-5)), none, none]) rfl ?_
            refine z_iload_n C 1 dL_lines_51 rfl rfl ?_
            refine z_iload C dL_lines_52 rfl ?_
            refine z_if_lt_t C 61 dL_lines_54 (by decide) (by decide) ?_
            refine z_iconst C (nI 0) dL_lines_61 (by decide) ?_
            refine z_iadd C dL_lines_62 ?_
            refine z_top (y := nI fr0) (nI_add _ _) ?_
            refine z_istore_n C 1 dL_lines_63 rfl (Nat.le_of_ble_eq_true rfl) ?_
            refine z_lv (lv' := [some (.ref x0), some (.int (nI fr0)), some (.int (nI dm0)), some (.int (nI 0)), some (.int (nI cl0)), some (.int (nI ol0)), some (.int (nI p0)), some (.int (-5)), some (.int (-5)), none, none]) rfl ?_
            refine z_iload_n C 2 dL_lines_64 rfl rfl ?_
            refine z_iload C dL_lines_65 rfl ?_
            refine z_if_lt_t C 74 dL_lines_67 (by decide) (by decide) ?_
            refine z_iconst C (nI 0) dL_lines_74 (by decide) ?_
            refine z_iadd C dL_lines_75 ?_
            refine z_top (y := nI dm0) (nI_add _ _) ?_
            refine z_istore_n C 2 dL_lines_76 rfl (Nat.le_of_ble_eq_true rfl) ?_
            refine z_lv (lv' := [some (.ref x0), some (.int (nI fr0)), some (.int (nI dm0)), some (.int (nI 0)), some (.int (nI cl0)), some (.int (nI ol0)), some (.int (nI p0)), some (.int (-5)), some (.int (-5)), none, none]) rfl ?_
            refine z_aload_n C 0 dL_lines_77 rfl rfl ?_
            refine z_iload_n C 3 dL_lines_78 rfl rfl ?_
            refine z_iload C dL_lines_79 rfl ?_
            refine z_iconst C (nI 2) dL_lines_81 (by decide) ?_
            refine z_callVr C kX5_line gL_lines_X5_line (l_line2n X.2.1 x0 h0 w0 t S 0 p0 hG (by decide) h_1 hq_56) dL_lines_82 [0, 1, 2, 3, 4, 5, 6, 7, 8] [] 0 rfl nd_0_1_2_3_4_5_6_7_8 rfl rfl rfl (by decide) (by decide) (Nat.le_of_ble_eq_true rfl) rfl ?_
            have hg_65 : zc (nDm S 0) p0 ≤ p0 := zc_le _ _
            refine z_iload C dL_lines_85 rfl ?_
            refine z_if_lt_t C 95 dL_lines_87 (by decide) (by decide) ?_
            refine z_iload C dL_lines_95 rfl ?_
            refine z_ncmp_ne_f C 136 dL_lines_97 (by decide) (by omega) (by omega) (by omega) ?_
            refine z_aload_n C 0 dL_lines_100 rfl rfl ?_
            refine z_iload_n C 3 dL_lines_101 rfl rfl ?_
            refine z_iload C dL_lines_102 rfl ?_
            refine z_iconst C (nI 3) dL_lines_104 (by decide) ?_
            refine z_callVr C kX5_line gL_lines_X5_line (l_line3n X.2.1 x0 h0 w0 t S 0 p0 hG (by decide) h_1 hq_37) dL_lines_105 [0, 1, 2, 3, 4, 5, 6, 7, 8] [] 0 rfl nd_0_1_2_3_4_5_6_7_8 rfl rfl rfl (by decide) (by decide) (Nat.le_of_ble_eq_true rfl) rfl ?_
            have hg_66 : zc (nNw S 0) p0 ≤ p0 := zc_le _ _
            refine z_iload C dL_lines_108 rfl ?_
            refine z_if_lt_t C 118 dL_lines_110 (by decide) (by decide) ?_
            refine z_iload C dL_lines_118 rfl ?_
            refine z_ncmp_ne_f C 136 dL_lines_120 (by decide) (by omega) (by omega) (by omega) ?_
            refine z_aload_n C 0 dL_lines_123 rfl rfl ?_
            refine z_iload_n C 3 dL_lines_124 rfl rfl ?_
            refine z_iload C dL_lines_125 rfl ?_
            refine z_iconst C (nI 5) dL_lines_127 (by decide) ?_
            refine z_callVr C kX5_line gL_lines_X5_line (l_line5 X.2.1 x0 h0 w0 t S 0 p0 hG (by decide) h_1) dL_lines_128 [0, 1, 2, 3, 4, 5, 6, 7, 8] [] 0 rfl nd_0_1_2_3_4_5_6_7_8 rfl rfl rfl (by decide) (by decide) (Nat.le_of_ble_eq_true rfl) rfl ?_
            refine z_bipush C (-2) dL_lines_131 (by decide) ?_
            refine z_icmp_eq_t C 138 dL_lines_133 (by decide) rfl ?_
            refine z_iload C dL_lines_138 rfl ?_
            refine z_iload C dL_lines_140 rfl ?_
            refine z_if_lt_t C 149 dL_lines_142 (by decide) (by decide) ?_
            refine z_iconst C (nI 1) dL_lines_149 (by decide) ?_
            refine z_iadd C dL_lines_150 ?_
            refine z_top (y := nI (cl0 + 1)) (nI_add _ _) ?_
            refine z_istore C dL_lines_151 (Nat.le_of_ble_eq_true rfl) ?_
            refine z_lv (lv' := [some (.ref x0), some (.int (nI fr0)), some (.int (nI dm0)), some (.int (nI 0)), some (.int (nI (cl0 + 1))), some (.int (nI ol0)), some (.int (nI p0)), some (.int (-5)), some (.int (-5)), none, none]) rfl ?_
            refine z_iload C dL_lines_153 rfl ?_
            refine z_iload C dL_lines_155 rfl ?_
            refine z_if_lt_t C 164 dL_lines_157 (by decide) (by decide) ?_
            refine z_iconst C (nI 1) dL_lines_164 (by decide) ?_
            refine z_iadd C dL_lines_165 ?_
            refine z_top (y := nI (ol0 + 1)) (nI_add _ _) ?_
            refine z_istore C dL_lines_166 (Nat.le_of_ble_eq_true rfl) ?_
            refine z_lv (lv' := [some (.ref x0), some (.int (nI fr0)), some (.int (nI dm0)), some (.int (nI 0)), some (.int (nI (cl0 + 1))), some (.int (nI (ol0 + 1))), some (.int (nI p0)), some (.int (-5)), some (.int (-5)), none, none]) rfl ?_
            refine z_iload C dL_lines_168 rfl ?_
            refine z_bipush C (-5) dL_lines_170 (by decide) ?_
            refine z_icmp_eq_t C 226 dL_lines_172 (by decide) rfl ?_
            refine z_iconst C (nI 1) dL_lines_226 (by decide) ?_
            refine z_goto C 231 dL_lines_227 (by decide) ?_
            refine z_istore C dL_lines_231 (Nat.le_of_ble_eq_true rfl) ?_
            refine z_lv (lv' := [some (.ref x0), some (.int (nI fr0)), some (.int (nI dm0)), some (.int (nI 0)), some (.int (nI (cl0 + 1))), some (.int (nI (ol0 + 1))), some (.int (nI p0)), some (.int (-5)), some (.int (-5)), some (.int (nI 1)), none]) rfl ?_
            refine z_iload C dL_lines_233 rfl ?_
            refine z_bipush C (-5) dL_lines_235 (by decide) ?_
            refine z_icmp_eq_t C 300 dL_lines_237 (by decide) rfl ?_
            refine z_iconst C (nI 1) dL_lines_300 (by decide) ?_
            refine z_goto C 305 dL_lines_301 (by decide) ?_
            refine z_istore C dL_lines_305 (Nat.le_of_ble_eq_true rfl) ?_
            refine z_lv (lv' := [some (.ref x0), some (.int (nI fr0)), some (.int (nI dm0)), some (.int (nI 0)), some (.int (nI (cl0 + 1))), some (.int (nI (ol0 + 1))), some (.int (nI p0)), some (.int (-5)), some (.int (-5)), some (.int (nI 1)), some (.int (nI 1))]) rfl ?_
            refine z_iload C dL_lines_307 rfl ?_
            refine z_nif_eq_f C 317 dL_lines_309 (by decide) (by omega) (by omega) ?_
            refine z_iload C dL_lines_312 rfl ?_
            refine z_nif_ne_t C 319 dL_lines_314 (by decide) (by omega) (by omega) ?_
            refine z_iinc C (nI (p0 + 1)) dL_lines_319 rfl (zi_1 _) ?_
            refine z_lv (lv' := [some (.ref x0), some (.int (nI fr0)), some (.int (nI dm0)), some (.int (nI 0)), some (.int (nI (cl0 + 1))), some (.int (nI (ol0 + 1))), some (.int (nI (p0 + 1))), some (.int (-5)), some (.int (-5)), some (.int (nI 1)), some (.int (nI 1))]) rfl ?_
            refine z_goto C 20 dL_lines_322 (by decide) ?_
            refine z_kill 7 ?_
            refine z_kill 8 ?_
            refine z_kill 9 ?_
            refine z_kill 10 ?_
            exact ih20_0 (uU S 0 - (p0 + 1)) (by omega) (p0 + 1) fr0 dm0 (cl0 + 1) (ol0 + 1) rfl (by omega) (by first | exact inc_y (by assumption) hfr0 | exact inc_n (by assumption) hfr0) (by first | exact inc_y (by assumption) hdm0 | exact inc_n (by assumption) hdm0) (by first | exact inc_y (nDm_t (by assumption)) hcl0 | exact inc_n (nDm_f (by assumption)) hcl0) (by first | exact inc_y (nNw_t (by assumption)) hol0 | exact inc_n (nNw_f (by assumption)) hol0)
  exact hL20_0 _ 0 0 0 0 0 rfl (by omega) (rfl) (rfl) (rfl) (rfl)
