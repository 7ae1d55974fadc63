set_option maxHeartbeats 1000000 in
set_option maxRecDepth 100000 in
theorem w_cells (E : zE) (x0 h0 h1 w0 w1 : Nat) (t : Nat → Nat) (S : zSt) (o kp ln : Nat) (ps : zPs) {B : Nat}  (hG : GG S B) : zMA E yL_cells wsL_cells 7 1 3 [.ref x0] (WCd E x0 h0 h1 w0 w1 t S o kp ln ps) (WCd E x0 h0 h1 w0 w1 t S o kp ln ps) (some (.int (nI 1))) := by
  refine zMA.of kL_cells (Nat.le_of_ble_eq_true rfl) rfl [some (.ref x0), none, none, none, none, none, none, none, none, none, none] rfl (Nat.le_of_ble_eq_true rfl) ?_
  intro X eX C N
  subst eX
  have hu0 := gg_u hG 0
  have hu1 := gg_u hG 1
  have hM := gg_M hG
  have hn8 := nSS_e hG
  have hn9 : nSS S ≤ mK S := zc_le _ _
  refine z_iconst C (nI 0) dL_cells_0 (by decide) ?_
  refine z_istore_n C 1 dL_cells_1 rfl (Nat.le_of_ble_eq_true rfl) ?_
  refine z_lv (lv' := [some (.ref x0), some (.int (nI 0)), none, none, none, none, none, none, none, none, none]) rfl ?_
  refine z_iconst C (nI 3) dL_cells_2 (by decide) ?_
  refine z_newA C N (N' := 3) (by decide +kernel) (by decide) (by decide) (by decide) rfl rfl (k' := 1) (n' := 3) (by decide) (by decide) dL_cells_3 (fun q0 => ?_)
  have C := N.cells C (k' := 1) (n' := 3) (by decide) (by decide)
  refine z_cv (ws' := (WCd X.2.1 x0 h0 h1 w0 w1 t S o kp ln ps ++ [(q0, .inl (X.2.1.2.2.1, 3, .inl (sA 0 0 0)))])) (by rw [sA_0]) rfl rfl ?_
  refine z_astore_n C 2 dL_cells_5 rfl (Nat.le_of_ble_eq_true rfl) ?_
  refine z_lv (lv' := [some (.ref x0), some (.int (nI 0)), some (.ref q0), none, none, none, none, none, none, none, none]) rfl ?_
  refine z_iconst C (nI 0) dL_cells_6 (by decide) ?_
  refine z_istore_n C 3 dL_cells_7 rfl (Nat.le_of_ble_eq_true rfl) ?_
  refine z_lv (lv' := [some (.ref x0), some (.int (nI 0)), some (.ref q0), some (.int (nI 0)), none, none, none, none, none, none, none]) rfl ?_
  have hL8 : ∀ (dd8 : Nat) (i : Nat) (so : Nat) (p0 : Int32) (p1 : Int32) (p2 : Int32), uU S 0 - i = dd8 → (i ≤ uU S 0) → (so = kT S i) → (p0 = tS S 0 i) → (p1 = tS S 1 i) → (p2 = tS S 2 i) → zG X 1 3 (WCd X.2.1 x0 h0 h1 w0 w1 t S o kp ln ps ++ [(q0, .inl (X.2.1.2.2.1, 3, .inl (sA p0 p1 p2)))]) [some (.ref x0), some (.int (nI so)), some (.ref q0), some (.int (nI i)), none, none, none, none, none, none, none] [] 8 := by
    intro dd8
    induction dd8 using Nat.strongRecOn with
    | _ dd8 ih8 =>
      intro i so p0 p1 p2 hdd8 hi hso hs0 hs1 hs2
      refine z_iload_n C 3 dL_cells_8 rfl rfl ?_
      refine z_aload_n C 0 dL_cells_9 rfl rfl ?_
      refine z_iconst C (nI 0) dL_cells_10 (by decide) ?_
      refine z_iconst C (nI 0) dL_cells_11 (by decide) ?_
      refine z_callVr C kX5_size gL_cells_X5_size (l_size0 X.2.1 x0 h0 w0 t S 0 hG (by decide)) dL_cells_12 [0, 1, 2, 3, 4, 5, 6, 7, 8] [.int (nI i)] 0 rfl nd_0_1_2_3_4_5_6_7_8 rfl rfl rfl (by decide) (by decide) (Nat.le_of_ble_eq_true rfl) rfl ?_
      refine z_ncmp_ge C 391 dL_cells_15 (by decide) (by omega) (by omega) (fun h_1 => ?_) (fun h_1 => ?_)
      · obtain rfl : i = uU S 0 := (by omega)
        have hm0 := (smV_e hG (v := 0) (by decide)).trans hs0.symm
        have hm1 := (smV_e hG (v := 1) (by decide)).trans hs1.symm
        have hm2 := (smV_e hG (v := 2) (by decide)).trans hs2.symm
        refine z_aload_n C 0 dL_cells_391 rfl rfl ?_
        refine z_iconst C (nI 0) dL_cells_392 (by decide) ?_
        refine z_aload_n C 0 dL_cells_393 rfl rfl ?_
        refine z_iconst C (nI 0) dL_cells_394 (by decide) ?_
        refine z_iconst C (nI 0) dL_cells_395 (by decide) ?_
        refine z_callVr C kX5_size gL_cells_X5_size (l_size0 X.2.1 x0 h0 w0 t S 0 hG (by decide)) dL_cells_396 [0, 1, 2, 3, 4, 5, 6, 7, 8] [.int (nI 0), .ref x0] 0 rfl nd_0_1_2_3_4_5_6_7_8 rfl rfl rfl (by decide) (by decide) (Nat.le_of_ble_eq_true rfl) rfl ?_
        refine z_iconst C (nI 0) dL_cells_399 (by decide) ?_
        refine z_callVr C kX5_cell gL_cells_X5_cell (l_cellU X.2.1 x0 h0 w0 t S (uU S 0) hG (by omega)) dL_cells_400 [0, 1, 2, 3, 4, 5, 6, 7, 8] [] 0 rfl nd_0_1_2_3_4_5_6_7_8 rfl rfl rfl (by decide) (by decide) (Nat.le_of_ble_eq_true rfl) rfl ?_
        refine z_iconst C (-1) dL_cells_403 (by decide) ?_
        refine z_icmp_ne_f C 449 dL_cells_404 (by decide) rfl ?_
        refine z_aload_n C 0 dL_cells_407 rfl rfl ?_
        refine z_iconst C (nI 1) dL_cells_408 (by decide) ?_
        refine z_iconst C (nI 0) dL_cells_409 (by decide) ?_
        refine z_aload_n C 0 dL_cells_410 rfl rfl ?_
        refine z_iconst C (nI 1) dL_cells_411 (by decide) ?_
        refine z_iconst C (nI 1) dL_cells_412 (by decide) ?_
        refine z_callVr C kX5_size gL_cells_X5_size (l_size1 X.2.1 x0 h0 w0 t S 1 hG (by decide)) dL_cells_413 [0, 1, 2, 3, 4, 5, 6, 7, 8] [.int (nI 0), .int (nI 1), .ref x0] 0 rfl nd_0_1_2_3_4_5_6_7_8 rfl rfl rfl (by decide) (by decide) (Nat.le_of_ble_eq_true rfl) rfl ?_
        have hg_2 : zc (nDm S 1) (uU S 1) ≤ uU S 1 := zc_le _ _
        refine z_callVr C kX5_cell gL_cells_X5_cell (l_cellV X.2.1 x0 h0 w0 t S (zc (nDm S 1) (uU S 1)) hG (by omega)) dL_cells_416 [0, 1, 2, 3, 4, 5, 6, 7, 8] [] 0 rfl nd_0_1_2_3_4_5_6_7_8 rfl rfl rfl (by decide) (by decide) (Nat.le_of_ble_eq_true rfl) rfl ?_
        refine z_iconst C (-1) dL_cells_419 (by decide) ?_
        refine z_icmp_ne_f C 449 dL_cells_420 (by decide) rfl ?_
        refine z_aload_n C 0 dL_cells_423 rfl rfl ?_
        refine z_iconst C (nI 2) dL_cells_424 (by decide) ?_
        refine z_iconst C (-1) dL_cells_425 (by decide) ?_
        refine z_iconst C (nI 0) dL_cells_426 (by decide) ?_
        refine z_callVr C kX5_cell gL_cells_X5_cell (l_cellM X.2.1 x0 h0 w0 t S  hG ) dL_cells_427 [0, 1, 2, 3, 4, 5, 6, 7, 8] [] 0 rfl nd_0_1_2_3_4_5_6_7_8 rfl rfl rfl (by decide) (by decide) (Nat.le_of_ble_eq_true rfl) rfl ?_
        refine z_iconst C (-1) dL_cells_430 (by decide) ?_
        refine z_icmp_ne_f C 449 dL_cells_431 (by decide) rfl ?_
        refine z_aload_n C 0 dL_cells_434 rfl rfl ?_
        refine z_iconst C (nI 3) dL_cells_435 (by decide) ?_
        refine z_iconst C (nI 0) dL_cells_436 (by decide) ?_
        refine z_iconst C (nI 0) dL_cells_437 (by decide) ?_
        refine z_callVr C kX5_cell gL_cells_X5_cell (l_cellW X.2.1 x0 h0 w0 t S  hG ) dL_cells_438 [0, 1, 2, 3, 4, 5, 6, 7, 8] [] 0 rfl nd_0_1_2_3_4_5_6_7_8 rfl rfl rfl (by decide) (by decide) (Nat.le_of_ble_eq_true rfl) rfl ?_
        refine z_iconst C (-1) dL_cells_441 (by decide) ?_
        refine z_icmp_ne_f C 449 dL_cells_442 (by decide) rfl ?_
        refine z_iconst C (nI 1) dL_cells_445 (by decide) ?_
        refine z_goto C 450 dL_cells_446 (by decide) ?_
        refine z_istore_n C 3 dL_cells_450 rfl (Nat.le_of_ble_eq_true rfl) ?_
        refine z_lv (lv' := [some (.ref x0), some (.int (nI so)), some (.ref q0), some (.int (nI 1)), none, none, none, none, none, none, none]) rfl ?_
        refine z_iload_n C 3 dL_cells_451 rfl rfl ?_
        refine z_nif_eq_f C 511 dL_cells_452 (by decide) (by omega) (by omega) ?_
        refine z_aload_n C 0 dL_cells_455 rfl rfl ?_
        refine z_bipush C (nI 8) dL_cells_456 (by decide) ?_
        refine z_callVr C kX5_count gL_cells_X5_count (l_cnt8n X.2.1 x0 h0 h1 w0 w1 t S o kp ln ps  hG ) dL_cells_458 [0, 1, 2, 3, 4, 5, 6, 7, 8, 9, 10] [] 0 rfl nd_0_1_2_3_4_5_6_7_8_9_10 rfl rfl rfl (by decide) (by decide) (Nat.le_of_ble_eq_true rfl) rfl ?_
        refine z_iload_n C 1 dL_cells_461 rfl rfl ?_
        refine z_ncmp_ne_f C 511 dL_cells_462 (by decide) (by omega) (by omega) (by omega) ?_
        refine z_aload_n C 0 dL_cells_465 rfl rfl ?_
        refine z_iconst C (nI 0) dL_cells_466 (by decide) ?_
        refine z_callVr C kX5_sum gL_cells_X5_sum (l_smv X.2.1 x0 h0 w0 t S 0 hG (by decide)) dL_cells_467 [0, 1, 2, 3, 4, 5, 6, 7, 8] [] 0 rfl nd_0_1_2_3_4_5_6_7_8 rfl rfl rfl (by decide) (by decide) (Nat.le_of_ble_eq_true rfl) rfl ?_
        refine z_aload_n C 2 dL_cells_470 rfl rfl ?_
        refine z_iconst C (nI 0) dL_cells_471 (by decide) ?_
        refine z_ialdN C 11 dL_cells_472 rfl (by omega) (by decide) ?_
        refine z_top (y := p0) (rfl) ?_
        refine z_icmp_ne_f C 511 dL_cells_473 (by decide) hm0 ?_
        refine z_aload_n C 0 dL_cells_476 rfl rfl ?_
        refine z_iconst C (nI 1) dL_cells_477 (by decide) ?_
        refine z_callVr C kX5_sum gL_cells_X5_sum (l_smv X.2.1 x0 h0 w0 t S 1 hG (by decide)) dL_cells_478 [0, 1, 2, 3, 4, 5, 6, 7, 8] [] 0 rfl nd_0_1_2_3_4_5_6_7_8 rfl rfl rfl (by decide) (by decide) (Nat.le_of_ble_eq_true rfl) rfl ?_
        refine z_aload_n C 2 dL_cells_481 rfl rfl ?_
        refine z_iconst C (nI 1) dL_cells_482 (by decide) ?_
        refine z_ialdN C 11 dL_cells_483 rfl (by omega) (by decide) ?_
        refine z_top (y := p1) (rfl) ?_
        refine z_icmp_ne_f C 511 dL_cells_484 (by decide) hm1 ?_
        refine z_aload_n C 0 dL_cells_487 rfl rfl ?_
        refine z_iconst C (nI 2) dL_cells_488 (by decide) ?_
        refine z_callVr C kX5_sum gL_cells_X5_sum (l_smv X.2.1 x0 h0 w0 t S 2 hG (by decide)) dL_cells_489 [0, 1, 2, 3, 4, 5, 6, 7, 8] [] 0 rfl nd_0_1_2_3_4_5_6_7_8 rfl rfl rfl (by decide) (by decide) (Nat.le_of_ble_eq_true rfl) rfl ?_
        refine z_aload_n C 2 dL_cells_492 rfl rfl ?_
        refine z_iconst C (nI 2) dL_cells_493 (by decide) ?_
        refine z_ialdN C 11 dL_cells_494 rfl (by omega) (by decide) ?_
        refine z_top (y := p2) (rfl) ?_
        refine z_icmp_ne_f C 511 dL_cells_495 (by decide) hm2 ?_
        refine z_aload_n C 0 dL_cells_498 rfl rfl ?_
        refine z_iconst C (nI 3) dL_cells_499 (by decide) ?_
        refine z_callVr C kX5_sum gL_cells_X5_sum (l_sumB X.2.1 x0 h0 w0 t S  hG ) dL_cells_500 [0, 1, 2, 3, 4, 5, 6, 7, 8] [] 0 rfl nd_0_1_2_3_4_5_6_7_8 rfl rfl rfl (by decide) (by decide) (Nat.le_of_ble_eq_true rfl) rfl ?_
        refine z_iconst C (-1) dL_cells_503 (by decide) ?_
        refine z_icmp_ne_f C 511 dL_cells_504 (by decide) rfl ?_
        refine z_iconst C (nI 1) dL_cells_507 (by decide) ?_
        refine z_goto C 512 dL_cells_508 (by decide) ?_
        exact z_zretA C N (by decide) (by decide) [0, 1, 2, 3, 4, 5, 6, 7, 8, 9, 10] rfl nd_0_1_2_3_4_5_6_7_8_9_10 dL_cells_512 rfl (rfl)
      · refine z_iconst C (nI 0) dL_cells_18 (by decide) ?_
        refine z_istore C dL_cells_19 (Nat.le_of_ble_eq_true rfl) ?_
        refine z_lv (lv' := [some (.ref x0), some (.int (nI so)), some (.ref q0), some (.int (nI i)), some (.int (nI 0)), none, none, none, none, none, none]) rfl ?_
        have hL21 : ∀ (dd21 : Nat) (j : Nat) (su : Nat) (a0 : Int32) (a1 : Int32) (a2 : Int32), uU S 1 - j = dd21 → (j ≤ uU S 1) → (su = kT S i + kR S i j) → (a0 = tS S 0 i + rS S 0 i j) → (a1 = tS S 1 i + rS S 1 i j) → (a2 = tS S 2 i + rS S 2 i j) → zG X 1 3 (WCd X.2.1 x0 h0 h1 w0 w1 t S o kp ln ps ++ [(q0, .inl (X.2.1.2.2.1, 3, .inl (sA a0 a1 a2)))]) [some (.ref x0), some (.int (nI su)), some (.ref q0), some (.int (nI i)), some (.int (nI j)), none, none, none, none, none, none] [] 21 := by
          intro dd21
          induction dd21 using Nat.strongRecOn with
          | _ dd21 ih21 =>
            intro j su a0 a1 a2 hdd21 hj hsu ha0 ha1 ha2
            have hks : kS S i j ≤ mK S := zc_le _ _
            refine z_iload C dL_cells_21 rfl ?_
            refine z_aload_n C 0 dL_cells_23 rfl rfl ?_
            refine z_iconst C (nI 0) dL_cells_24 (by decide) ?_
            refine z_iconst C (nI 1) dL_cells_25 (by decide) ?_
            refine z_callVr C kX5_size gL_cells_X5_size (l_size0 X.2.1 x0 h0 w0 t S 1 hG (by decide)) dL_cells_26 [0, 1, 2, 3, 4, 5, 6, 7, 8] [.int (nI j)] 0 rfl nd_0_1_2_3_4_5_6_7_8 rfl rfl rfl (by decide) (by decide) (Nat.le_of_ble_eq_true rfl) rfl ?_
            refine z_ncmp_ge C 385 dL_cells_29 (by decide) (by omega) (by omega) (fun h_3 => ?_) (fun h_3 => ?_)
            · obtain rfl : j = uU S 1 := (by omega)
              refine z_iinc C (nI (i + 1)) dL_cells_385 rfl (zi_1 _) ?_
              refine z_lv (lv' := [some (.ref x0), some (.int (nI su)), some (.ref q0), some (.int (nI (i + 1))), some (.int (nI (uU S 1))), none, none, none, none, none, none]) rfl ?_
              refine z_goto C 8 dL_cells_388 (by decide) ?_
              refine z_kill 4 ?_
              exact ih8 (uU S 0 - (i + 1)) (by omega) (i + 1) su a0 a1 a2 rfl (by omega) (hsu.trans (kT_s _ _).symm) (ha0.trans (tS_s _ _ _).symm) (ha1.trans (tS_s _ _ _).symm) (ha2.trans (tS_s _ _ _).symm)
            · refine z_iconst C (nI 0) dL_cells_32 (by decide) ?_
              refine z_istore C dL_cells_33 (Nat.le_of_ble_eq_true rfl) ?_
              refine z_lv (lv' := [some (.ref x0), some (.int (nI su)), some (.ref q0), some (.int (nI i)), some (.int (nI j)), some (.int (nI 0)), none, none, none, none, none]) rfl ?_
              refine z_iconst C (-1) dL_cells_35 (by decide) ?_
              refine z_istore C dL_cells_36 (Nat.le_of_ble_eq_true rfl) ?_
              refine z_lv (lv' := [some (.ref x0), some (.int (nI su)), some (.ref q0), some (.int (nI i)), some (.int (nI j)), some (.int (nI 0)), some (.int (-1)), none, none, none, none]) rfl ?_
              refine z_iconst C (-1) dL_cells_38 (by decide) ?_
              refine z_istore C dL_cells_39 (Nat.le_of_ble_eq_true rfl) ?_
              refine z_lv (lv' := [some (.ref x0), some (.int (nI su)), some (.ref q0), some (.int (nI i)), some (.int (nI j)), some (.int (nI 0)), some (.int (-1)), some (.int (-1)), none, none, none]) rfl ?_
              have hL41 : ∀ (dd41 : Nat) (n : Nat), kS S i j - n = dd41 → (n ≤ kS S i j) → zG X 1 3 (WCd X.2.1 x0 h0 h1 w0 w1 t S o kp ln ps ++ [(q0, .inl (X.2.1.2.2.1, 3, .inl (sA a0 a1 a2)))]) [some (.ref x0), some (.int (nI su)), some (.ref q0), some (.int (nI i)), some (.int (nI j)), some (.int (nI n)), some (.int (lst S i j n)), some (.int (blw S i j n)), none, none, none] [] 41 := by
                intro dd41
                induction dd41 using Nat.strongRecOn with
                | _ dd41 ih41 =>
                  intro n hdd41 hn
                  refine z_aload_n C 0 dL_cells_41 rfl rfl ?_
                  refine z_iload_n C 3 dL_cells_42 rfl rfl ?_
                  refine z_iload C dL_cells_43 rfl ?_
                  refine z_iload C dL_cells_45 rfl ?_
                  rcases Nat.lt_or_ge (n) (kS S i j) with hq_4 | hq_4
                  · have fk_5 : sX S i j n < mK S := (sX_f hG (by omega) (by omega) hq_4).1
                    have fk_6 : kN S (sX S i j n) = 4 := (sX_f hG (by omega) (by omega) hq_4).2.1
                    have fk_7 : sN S (sX S i j n) = 0 := (sX_f hG (by omega) (by omega) hq_4).2.2.1
                    have fk_8 : lP S 0 (sX S i j n) = i + 1 := (sX_f hG (by omega) (by omega) hq_4).2.2.2.1
                    have fk_9 : lP S 1 (sX S i j n) = j + 1 := (sX_f hG (by omega) (by omega) hq_4).2.2.2.2
                    have fc_10 := lst_lt hG hq_4
                    refine z_callVr C kX5_setting gL_cells_X5_setting (l_setY X.2.1 x0 h0 w0 t S i j n hG h_1 h_3 hq_4) dL_cells_47 [0, 1, 2, 3, 4, 5, 6, 7, 8] [] 0 rfl nd_0_1_2_3_4_5_6_7_8 rfl rfl rfl (by decide) (by decide) (Nat.le_of_ble_eq_true rfl) rfl ?_
                    have hg_11 : sX S i j n < mK S := (sX_t hG (by omega)).1
                    refine z_nif_lt_f C 158 dL_cells_50 (by decide) (by omega) (by trivial) ?_
                    refine z_aload_n C 0 dL_cells_53 rfl rfl ?_
                    refine z_iload_n C 3 dL_cells_54 rfl rfl ?_
                    refine z_iload C dL_cells_55 rfl ?_
                    refine z_iload C dL_cells_57 rfl ?_
                    refine z_callVr C kX5_setting gL_cells_X5_setting (l_setY X.2.1 x0 h0 w0 t S i j n hG h_1 h_3 hq_4) dL_cells_59 [0, 1, 2, 3, 4, 5, 6, 7, 8] [] 0 rfl nd_0_1_2_3_4_5_6_7_8 rfl rfl rfl (by decide) (by decide) (Nat.le_of_ble_eq_true rfl) rfl ?_
                    have hg_12 : sX S i j n < mK S := (sX_t hG (by omega)).1
                    refine z_istore C dL_cells_62 (Nat.le_of_ble_eq_true rfl) ?_
                    refine z_lv (lv' := [some (.ref x0), some (.int (nI su)), some (.ref q0), some (.int (nI i)), some (.int (nI j)), some (.int (nI n)), some (.int (lst S i j n)), some (.int (blw S i j n)), some (.int (nI (sX S i j n))), none, none]) rfl ?_
                    refine z_aload_n C 0 dL_cells_64 rfl rfl ?_
                    refine z_iload C dL_cells_65 rfl ?_
                    refine z_iconst C (nI 5) dL_cells_67 (by decide) ?_
                    refine z_callVr C kX5_change gL_cells_X5_change (l_chg5y X.2.1 x0 h0 w0 t S (sX S i j n) hG fk_5 fk_6) dL_cells_68 [0, 1, 2, 3, 4, 5, 6, 7, 8] [] 0 rfl nd_0_1_2_3_4_5_6_7_8 rfl rfl rfl (by decide) (by decide) (Nat.le_of_ble_eq_true rfl) rfl ?_
                    refine z_istore C dL_cells_71 (Nat.le_of_ble_eq_true rfl) ?_
                    refine z_lv (lv' := [some (.ref x0), some (.int (nI su)), some (.ref q0), some (.int (nI i)), some (.int (nI j)), some (.int (nI n)), some (.int (lst S i j n)), some (.int (blw S i j n)), some (.int (nI (sX S i j n))), some (.int (nI (vN S (sX S i j n)))), none]) rfl ?_
                    refine z_iload C dL_cells_73 rfl ?_
                    refine z_iload C dL_cells_75 rfl ?_
                    refine z_icmp_le_f C 142 dL_cells_77 (by decide) fc_10 ?_
                    refine z_aload_n C 0 dL_cells_80 rfl rfl ?_
                    refine z_iload C dL_cells_81 rfl ?_
                    refine z_iconst C (nI 0) dL_cells_83 (by decide) ?_
                    refine z_callVr C kX5_change gL_cells_X5_change (l_chg0 X.2.1 x0 h0 w0 t S (sX S i j n) hG fk_5) dL_cells_84 [0, 1, 2, 3, 4, 5, 6, 7, 8] [] 0 rfl nd_0_1_2_3_4_5_6_7_8 rfl rfl rfl (by decide) (by decide) (Nat.le_of_ble_eq_true rfl) rfl ?_
                    refine z_iconst C (nI 4) dL_cells_87 (by decide) ?_
                    refine z_ncmp_ne_f C 142 dL_cells_88 (by decide) (by omega) (by omega) (by omega) ?_
                    refine z_aload_n C 0 dL_cells_91 rfl rfl ?_
                    refine z_iload C dL_cells_92 rfl ?_
                    refine z_iconst C (nI 2) dL_cells_94 (by decide) ?_
                    refine z_callVr C kX5_change gL_cells_X5_change (l_chg2 X.2.1 x0 h0 w0 t S (sX S i j n) hG fk_5) dL_cells_95 [0, 1, 2, 3, 4, 5, 6, 7, 8] [] 0 rfl nd_0_1_2_3_4_5_6_7_8 rfl rfl rfl (by decide) (by decide) (Nat.le_of_ble_eq_true rfl) rfl ?_
                    refine z_nif_ne_f C 142 dL_cells_98 (by decide) (by omega) (by omega) ?_
                    refine z_aload_n C 0 dL_cells_101 rfl rfl ?_
                    refine z_iload C dL_cells_102 rfl ?_
                    refine z_iconst C (nI 3) dL_cells_104 (by decide) ?_
                    refine z_callVr C kX5_change gL_cells_X5_change (l_chg3y X.2.1 x0 h0 w0 t S (sX S i j n) i hG fk_5 fk_8) dL_cells_105 [0, 1, 2, 3, 4, 5, 6, 7, 8] [] 0 rfl nd_0_1_2_3_4_5_6_7_8 rfl rfl rfl (by decide) (by decide) (Nat.le_of_ble_eq_true rfl) rfl ?_
                    refine z_iload_n C 3 dL_cells_108 rfl rfl ?_
                    refine z_ncmp_ne_f C 142 dL_cells_109 (by decide) (by omega) (by omega) (by omega) ?_
                    refine z_aload_n C 0 dL_cells_112 rfl rfl ?_
                    refine z_iload C dL_cells_113 rfl ?_
                    refine z_iconst C (nI 4) dL_cells_115 (by decide) ?_
                    refine z_callVr C kX5_change gL_cells_X5_change (l_chg4y X.2.1 x0 h0 w0 t S (sX S i j n) j hG fk_5 fk_9) dL_cells_116 [0, 1, 2, 3, 4, 5, 6, 7, 8] [] 0 rfl nd_0_1_2_3_4_5_6_7_8 rfl rfl rfl (by decide) (by decide) (Nat.le_of_ble_eq_true rfl) rfl ?_
                    refine z_iload C dL_cells_119 rfl ?_
                    refine z_ncmp_ne_f C 142 dL_cells_121 (by decide) (by omega) (by omega) (by omega) ?_
                    refine z_iload C dL_cells_124 rfl ?_
                    refine z_nif_le C 144 dL_cells_126 (by decide) (by omega) (fun h_13 => ?_) (fun h_13 => ?_)
                    · refine z_iload C dL_cells_144 rfl ?_
                      refine z_istore C dL_cells_146 (Nat.le_of_ble_eq_true rfl) ?_
                      refine z_lv (lv' := [some (.ref x0), some (.int (nI su)), some (.ref q0), some (.int (nI i)), some (.int (nI j)), some (.int (nI n)), some (.int (nI (sX S i j n))), some (.int (blw S i j n)), some (.int (nI (sX S i j n))), some (.int (nI (vN S (sX S i j n)))), none]) rfl ?_
                      refine z_iload C dL_cells_148 rfl ?_
                      refine z_istore C dL_cells_150 (Nat.le_of_ble_eq_true rfl) ?_
                      refine z_lv (lv' := [some (.ref x0), some (.int (nI su)), some (.ref q0), some (.int (nI i)), some (.int (nI j)), some (.int (nI n)), some (.int (nI (sX S i j n))), some (.int (nI (vN S (sX S i j n)))), some (.int (nI (sX S i j n))), some (.int (nI (vN S (sX S i j n)))), none]) rfl ?_
                      refine z_iinc C (nI (n + 1)) dL_cells_152 rfl (zi_1 _) ?_
                      refine z_lv (lv' := [some (.ref x0), some (.int (nI su)), some (.ref q0), some (.int (nI i)), some (.int (nI j)), some (.int (nI (n + 1))), some (.int (nI (sX S i j n))), some (.int (nI (vN S (sX S i j n)))), some (.int (nI (sX S i j n))), some (.int (nI (vN S (sX S i j n)))), none]) rfl ?_
                      refine z_goto C 41 dL_cells_155 (by decide) ?_
                      refine z_kill 8 ?_
                      refine z_kill 9 ?_
                      exact ih41 (kS S i j - (n + 1)) (by omega) (n + 1) rfl (by omega)
                    · refine z_aload_n C 0 dL_cells_129 rfl rfl ?_
                      refine z_iload C dL_cells_130 rfl ?_
                      refine z_bipush C (nI 6) dL_cells_132 (by decide) ?_
                      refine z_callVr C kX5_change gL_cells_X5_change (l_chg6y X.2.1 x0 h0 w0 t S (sX S i j n) hG fk_5 fk_6 fk_7) dL_cells_134 [0, 1, 2, 3, 4, 5, 6, 7, 8] [] 0 rfl nd_0_1_2_3_4_5_6_7_8 rfl rfl rfl (by decide) (by decide) (Nat.le_of_ble_eq_true rfl) rfl ?_
                      have fb_14 := bN_b hG (by omega) (by omega) hq_4 h_13
                      refine z_iload C dL_cells_137 rfl ?_
                      refine z_icmp_eq_t C 144 dL_cells_139 (by decide) fb_14 ?_
                      refine z_iload C dL_cells_144 rfl ?_
                      refine z_istore C dL_cells_146 (Nat.le_of_ble_eq_true rfl) ?_
                      refine z_lv (lv' := [some (.ref x0), some (.int (nI su)), some (.ref q0), some (.int (nI i)), some (.int (nI j)), some (.int (nI n)), some (.int (nI (sX S i j n))), some (.int (blw S i j n)), some (.int (nI (sX S i j n))), some (.int (nI (vN S (sX S i j n)))), none]) rfl ?_
                      refine z_iload C dL_cells_148 rfl ?_
                      refine z_istore C dL_cells_150 (Nat.le_of_ble_eq_true rfl) ?_
                      refine z_lv (lv' := [some (.ref x0), some (.int (nI su)), some (.ref q0), some (.int (nI i)), some (.int (nI j)), some (.int (nI n)), some (.int (nI (sX S i j n))), some (.int (nI (vN S (sX S i j n)))), some (.int (nI (sX S i j n))), some (.int (nI (vN S (sX S i j n)))), none]) rfl ?_
                      refine z_iinc C (nI (n + 1)) dL_cells_152 rfl (zi_1 _) ?_
                      refine z_lv (lv' := [some (.ref x0), some (.int (nI su)), some (.ref q0), some (.int (nI i)), some (.int (nI j)), some (.int (nI (n + 1))), some (.int (nI (sX S i j n))), some (.int (nI (vN S (sX S i j n)))), some (.int (nI (sX S i j n))), some (.int (nI (vN S (sX S i j n)))), none]) rfl ?_
                      refine z_goto C 41 dL_cells_155 (by decide) ?_
                      refine z_kill 8 ?_
                      refine z_kill 9 ?_
                      exact ih41 (kS S i j - (n + 1)) (by omega) (n + 1) rfl (by omega)
                  · refine z_callVr C kX5_setting gL_cells_X5_setting (l_setN X.2.1 x0 h0 w0 t S i j n hG h_1 h_3 hq_4 (by omega)) dL_cells_47 [0, 1, 2, 3, 4, 5, 6, 7, 8] [] 0 rfl nd_0_1_2_3_4_5_6_7_8 rfl rfl rfl (by decide) (by decide) (Nat.le_of_ble_eq_true rfl) rfl ?_
                    refine z_if_lt_t C 158 dL_cells_50 (by decide) (by decide) ?_
                    obtain rfl : n = kS S i j := (by omega)
                    have hJ190 : zG X 1 3 (WCd X.2.1 x0 h0 h1 w0 w1 t S o kp ln ps ++ [(q0, .inl (X.2.1.2.2.1, 3, .inl (sA a0 a1 a2)))]) [some (.ref x0), some (.int (nI su)), some (.ref q0), some (.int (nI i)), some (.int (nI j)), some (.int (nI (kS S i j))), some (.int (lst S i j (kS S i j))), some (.int (blw S i j (kS S i j))), some (.int (bse S i j)), none, none] [] 190 := by
                      refine z_iload_n C 1 dL_cells_190 rfl rfl ?_
                      refine z_iload C dL_cells_191 rfl ?_
                      refine z_iadd C dL_cells_193 ?_
                      refine z_top (y := nI (su + (kS S i j))) (nI_add _ _) ?_
                      refine z_istore_n C 1 dL_cells_194 rfl (Nat.le_of_ble_eq_true rfl) ?_
                      refine z_lv (lv' := [some (.ref x0), some (.int (nI (su + (kS S i j)))), some (.ref q0), some (.int (nI i)), some (.int (nI j)), some (.int (nI (kS S i j))), some (.int (lst S i j (kS S i j))), some (.int (blw S i j (kS S i j))), some (.int (bse S i j)), none, none]) rfl ?_
                      have hJ218 : zG X 1 3 (WCd X.2.1 x0 h0 h1 w0 w1 t S o kp ln ps ++ [(q0, .inl (X.2.1.2.2.1, 3, .inl (sA a0 a1 a2)))]) [some (.ref x0), some (.int (nI (su + (kS S i j)))), some (.ref q0), some (.int (nI i)), some (.int (nI j)), some (.int (nI (kS S i j))), some (.int (lst S i j (kS S i j))), some (.int (blw S i j (kS S i j))), some (.int (bse S i j)), none, none] [] 218 := by
                        refine z_aload_n C 0 dL_cells_218 rfl rfl ?_
                        refine z_iload_n C 3 dL_cells_219 rfl rfl ?_
                        refine z_iload C dL_cells_220 rfl ?_
                        refine z_iconst C (-1) dL_cells_222 (by decide) ?_
                        refine z_callVr C kX5_setting gL_cells_X5_setting (l_setM X.2.1 x0 h0 w0 t S i j hG h_1 h_3) dL_cells_223 [0, 1, 2, 3, 4, 5, 6, 7, 8] [] 0 rfl nd_0_1_2_3_4_5_6_7_8 rfl rfl rfl (by decide) (by decide) (Nat.le_of_ble_eq_true rfl) rfl ?_
                        refine z_bipush C (-2) dL_cells_226 (by decide) ?_
                        refine z_icmp_ne_f C 245 dL_cells_228 (by decide) rfl ?_
                        refine z_aload_n C 0 dL_cells_231 rfl rfl ?_
                        refine z_iload_n C 3 dL_cells_232 rfl rfl ?_
                        refine z_iload C dL_cells_233 rfl ?_
                        refine z_iload C dL_cells_235 rfl ?_
                        refine z_callVr C kX5_setting gL_cells_X5_setting (l_setN X.2.1 x0 h0 w0 t S i j (kS S i j) hG h_1 h_3 hn (by omega)) dL_cells_237 [0, 1, 2, 3, 4, 5, 6, 7, 8] [] 0 rfl nd_0_1_2_3_4_5_6_7_8 rfl rfl rfl (by decide) (by decide) (Nat.le_of_ble_eq_true rfl) rfl ?_
                        refine z_bipush C (-5) dL_cells_240 (by decide) ?_
                        refine z_icmp_eq_t C 247 dL_cells_242 (by decide) rfl ?_
                        have hJ326 : ∀ (b1 : Int32), (b1 = tS S 1 i + rS S 1 i (j + 1)) → zG X 1 3 (WCd X.2.1 x0 h0 h1 w0 w1 t S o kp ln ps ++ [(q0, .inl (X.2.1.2.2.1, 3, .inl (sA (a0 + (cV S i j)) b1 a2)))]) [some (.ref x0), some (.int (nI (su + (kS S i j)))), some (.ref q0), some (.int (nI i)), some (.int (nI j)), some (.int (nI (kS S i j))), some (.int (lst S i j (kS S i j))), some (.int (blw S i j (kS S i j))), some (.int (bse S i j)), none, none] [] 326 := by
                          intro b1 hb1
                          have hJ379 : ∀ (b2 : Int32), (b2 = tS S 2 i + rS S 2 i (j + 1)) → zG X 1 3 (WCd X.2.1 x0 h0 h1 w0 w1 t S o kp ln ps ++ [(q0, .inl (X.2.1.2.2.1, 3, .inl (sA (a0 + (cV S i j)) b1 b2)))]) [some (.ref x0), some (.int (nI (su + (kS S i j)))), some (.ref q0), some (.int (nI i)), some (.int (nI j)), some (.int (nI (kS S i j))), some (.int (lst S i j (kS S i j))), some (.int (blw S i j (kS S i j))), some (.int (bse S i j)), none, none] [] 379 := by
                            intro b2 hb2
                            refine z_iinc C (nI (j + 1)) dL_cells_379 rfl (zi_1 _) ?_
                            refine z_lv (lv' := [some (.ref x0), some (.int (nI (su + (kS S i j)))), some (.ref q0), some (.int (nI i)), some (.int (nI (j + 1))), some (.int (nI (kS S i j))), some (.int (lst S i j (kS S i j))), some (.int (blw S i j (kS S i j))), some (.int (bse S i j)), none, none]) rfl ?_
                            refine z_goto C 21 dL_cells_382 (by decide) ?_
                            refine z_kill 5 ?_
                            refine z_kill 6 ?_
                            refine z_kill 7 ?_
                            refine z_kill 8 ?_
                            exact ih21 (uU S 1 - (j + 1)) (by omega) (j + 1) (su + (kS S i j)) (a0 + (cV S i j)) b1 b2 rfl (by omega) (by rw [kR_s, ← Nat.add_assoc, ← hsu]) (s0_y ha0) (hb1) (hb2)
                          refine z_aload_n C 0 dL_cells_326 rfl rfl ?_
                          refine z_iconst C (nI 0) dL_cells_327 (by decide) ?_
                          refine z_iload_n C 3 dL_cells_328 rfl rfl ?_
                          refine z_iconst C (nI 3) dL_cells_329 (by decide) ?_
                          rcases Bool.eq_false_or_eq_true (Nw S 0 i) with hq_15 | hq_15
                          · refine z_callVr C kX5_line gL_cells_X5_line (l_line3y X.2.1 x0 h0 w0 t S 0 i hG (by decide) h_1 hq_15) dL_cells_330 [0, 1, 2, 3, 4, 5, 6, 7, 8] [] 0 rfl nd_0_1_2_3_4_5_6_7_8 rfl rfl rfl (by decide) (by decide) (Nat.le_of_ble_eq_true rfl) rfl ?_
                            refine z_istore C dL_cells_333 (Nat.le_of_ble_eq_true rfl) ?_
                            refine z_lv (lv' := [some (.ref x0), some (.int (nI (su + (kS S i j)))), some (.ref q0), some (.int (nI i)), some (.int (nI j)), some (.int (nI (kS S i j))), some (.int (lst S i j (kS S i j))), some (.int (blw S i j (kS S i j))), some (.int (bse S i j)), some (.int (-5)), none]) rfl ?_
                            refine z_aload_n C 0 dL_cells_335 rfl rfl ?_
                            refine z_iconst C (nI 1) dL_cells_336 (by decide) ?_
                            refine z_iload C dL_cells_337 rfl ?_
                            refine z_iconst C (nI 3) dL_cells_339 (by decide) ?_
                            rcases Bool.eq_false_or_eq_true (Nw S 1 j) with hq_16 | hq_16
                            · refine z_callVr C kX5_line gL_cells_X5_line (l_line3y X.2.1 x0 h0 w0 t S 1 j hG (by decide) h_3 hq_16) dL_cells_340 [0, 1, 2, 3, 4, 5, 6, 7, 8] [] 0 rfl nd_0_1_2_3_4_5_6_7_8 rfl rfl rfl (by decide) (by decide) (Nat.le_of_ble_eq_true rfl) rfl ?_
                              refine z_istore C dL_cells_343 (Nat.le_of_ble_eq_true rfl) ?_
                              refine z_lv (lv' := [some (.ref x0), some (.int (nI (su + (kS S i j)))), some (.ref q0), some (.int (nI i)), some (.int (nI j)), some (.int (nI (kS S i j))), some (.int (lst S i j (kS S i j))), some (.int (blw S i j (kS S i j))), some (.int (bse S i j)), some (.int (-5)), some (.int (-5))]) rfl ?_
                              refine z_iload C dL_cells_345 rfl ?_
                              refine z_if_lt_t C 379 dL_cells_347 (by decide) (by decide) ?_
                              refine z_kill 9 ?_
                              refine z_kill 10 ?_
                              exact hJ379 a2 (by first | exact s2_y (by assumption) (by assumption) ha2 | exact s2_n0 (by assumption) ha2 | exact s2_n1 (by assumption) ha2)
                            · refine z_callVr C kX5_line gL_cells_X5_line (l_line3n X.2.1 x0 h0 w0 t S 1 j hG (by decide) h_3 hq_16) dL_cells_340 [0, 1, 2, 3, 4, 5, 6, 7, 8] [] 0 rfl nd_0_1_2_3_4_5_6_7_8 rfl rfl rfl (by decide) (by decide) (Nat.le_of_ble_eq_true rfl) rfl ?_
                              have hg_17 : zc (nNw S 1) j ≤ j := zc_le _ _
                              refine z_istore C dL_cells_343 (Nat.le_of_ble_eq_true rfl) ?_
                              refine z_lv (lv' := [some (.ref x0), some (.int (nI (su + (kS S i j)))), some (.ref q0), some (.int (nI i)), some (.int (nI j)), some (.int (nI (kS S i j))), some (.int (lst S i j (kS S i j))), some (.int (blw S i j (kS S i j))), some (.int (bse S i j)), some (.int (-5)), some (.int (nI (zc (nNw S 1) j)))]) rfl ?_
                              refine z_iload C dL_cells_345 rfl ?_
                              refine z_if_lt_t C 379 dL_cells_347 (by decide) (by decide) ?_
                              refine z_kill 9 ?_
                              refine z_kill 10 ?_
                              exact hJ379 a2 (by first | exact s2_y (by assumption) (by assumption) ha2 | exact s2_n0 (by assumption) ha2 | exact s2_n1 (by assumption) ha2)
                          · refine z_callVr C kX5_line gL_cells_X5_line (l_line3n X.2.1 x0 h0 w0 t S 0 i hG (by decide) h_1 hq_15) dL_cells_330 [0, 1, 2, 3, 4, 5, 6, 7, 8] [] 0 rfl nd_0_1_2_3_4_5_6_7_8 rfl rfl rfl (by decide) (by decide) (Nat.le_of_ble_eq_true rfl) rfl ?_
                            have hg_18 : zc (nNw S 0) i ≤ i := zc_le _ _
                            refine z_istore C dL_cells_333 (Nat.le_of_ble_eq_true rfl) ?_
                            refine z_lv (lv' := [some (.ref x0), some (.int (nI (su + (kS S i j)))), some (.ref q0), some (.int (nI i)), some (.int (nI j)), some (.int (nI (kS S i j))), some (.int (lst S i j (kS S i j))), some (.int (blw S i j (kS S i j))), some (.int (bse S i j)), some (.int (nI (zc (nNw S 0) i))), none]) rfl ?_
                            refine z_aload_n C 0 dL_cells_335 rfl rfl ?_
                            refine z_iconst C (nI 1) dL_cells_336 (by decide) ?_
                            refine z_iload C dL_cells_337 rfl ?_
                            refine z_iconst C (nI 3) dL_cells_339 (by decide) ?_
                            rcases Bool.eq_false_or_eq_true (Nw S 1 j) with hq_19 | hq_19
                            · refine z_callVr C kX5_line gL_cells_X5_line (l_line3y X.2.1 x0 h0 w0 t S 1 j hG (by decide) h_3 hq_19) dL_cells_340 [0, 1, 2, 3, 4, 5, 6, 7, 8] [] 0 rfl nd_0_1_2_3_4_5_6_7_8 rfl rfl rfl (by decide) (by decide) (Nat.le_of_ble_eq_true rfl) rfl ?_
                              refine z_istore C dL_cells_343 (Nat.le_of_ble_eq_true rfl) ?_
                              refine z_lv (lv' := [some (.ref x0), some (.int (nI (su + (kS S i j)))), some (.ref q0), some (.int (nI i)), some (.int (nI j)), some (.int (nI (kS S i j))), some (.int (lst S i j (kS S i j))), some (.int (blw S i j (kS S i j))), some (.int (bse S i j)), some (.int (nI (zc (nNw S 0) i))), some (.int (-5))]) rfl ?_
                              refine z_iload C dL_cells_345 rfl ?_
                              refine z_nif_lt_f C 379 dL_cells_347 (by decide) (by omega) (by trivial) ?_
                              refine z_iload C dL_cells_350 rfl ?_
                              refine z_if_lt_t C 379 dL_cells_352 (by decide) (by decide) ?_
                              refine z_kill 9 ?_
                              refine z_kill 10 ?_
                              exact hJ379 a2 (by first | exact s2_y (by assumption) (by assumption) ha2 | exact s2_n0 (by assumption) ha2 | exact s2_n1 (by assumption) ha2)
                            · refine z_callVr C kX5_line gL_cells_X5_line (l_line3n X.2.1 x0 h0 w0 t S 1 j hG (by decide) h_3 hq_19) dL_cells_340 [0, 1, 2, 3, 4, 5, 6, 7, 8] [] 0 rfl nd_0_1_2_3_4_5_6_7_8 rfl rfl rfl (by decide) (by decide) (Nat.le_of_ble_eq_true rfl) rfl ?_
                              have hg_20 : zc (nNw S 1) j ≤ j := zc_le _ _
                              refine z_istore C dL_cells_343 (Nat.le_of_ble_eq_true rfl) ?_
                              refine z_lv (lv' := [some (.ref x0), some (.int (nI (su + (kS S i j)))), some (.ref q0), some (.int (nI i)), some (.int (nI j)), some (.int (nI (kS S i j))), some (.int (lst S i j (kS S i j))), some (.int (blw S i j (kS S i j))), some (.int (bse S i j)), some (.int (nI (zc (nNw S 0) i))), some (.int (nI (zc (nNw S 1) j)))]) rfl ?_
                              refine z_iload C dL_cells_345 rfl ?_
                              refine z_nif_lt_f C 379 dL_cells_347 (by decide) (by omega) (by trivial) ?_
                              refine z_iload C dL_cells_350 rfl ?_
                              refine z_nif_lt_f C 379 dL_cells_352 (by decide) (by omega) (by trivial) ?_
                              refine z_aload_n C 2 dL_cells_355 rfl rfl ?_
                              refine z_iconst C (nI 2) dL_cells_356 (by decide) ?_
                              refine z_dup2 C dL_cells_357 rfl rfl ?_
                              refine z_ialdN C 11 dL_cells_358 rfl (by omega) (by decide) ?_
                              refine z_top (y := a2) (rfl) ?_
                              refine z_iload C dL_cells_359 rfl ?_
                              refine z_iadd C dL_cells_361 ?_
                              refine z_iastX C 11 (f' := (sA (a0 + (cV S i j)) b1 (a2 + (bse S i j)))) (wn := (WCd X.2.1 x0 h0 h1 w0 w1 t S o kp ln ps ++ [(q0, .inl (X.2.1.2.2.1, 3, .inl (sA (a0 + (cV S i j)) b1 (a2 + (bse S i j)))))])) dL_cells_362 rfl (by omega) (by decide) (lt3 rfl rfl rfl) rfl ?_
                              refine z_aload_n C 0 dL_cells_363 rfl rfl ?_
                              refine z_iconst C (nI 2) dL_cells_364 (by decide) ?_
                              refine z_iload C dL_cells_365 rfl ?_
                              refine z_iload C dL_cells_367 rfl ?_
                              refine z_callVr C kX5_cell gL_cells_X5_cell (l_cell2 X.2.1 x0 h0 w0 t S i j (zc (nNw S 0) i) (zc (nNw S 1) j) hG h_1 h_3 hq_15 hq_19 (by omega) (by omega)) dL_cells_369 [0, 1, 2, 3, 4, 5, 6, 7, 8] [] 0 rfl nd_0_1_2_3_4_5_6_7_8 rfl rfl rfl (by decide) (by decide) (Nat.le_of_ble_eq_true rfl) rfl ?_
                              refine z_iload C dL_cells_372 rfl ?_
                              refine z_icmp_eq_t C 379 dL_cells_374 (by decide) rfl ?_
                              refine z_kill 9 ?_
                              refine z_kill 10 ?_
                              exact hJ379 (a2 + (bse S i j)) (by first | exact s2_y (by assumption) (by assumption) ha2 | exact s2_n0 (by assumption) ha2 | exact s2_n1 (by assumption) ha2)
                        refine z_aload_n C 0 dL_cells_247 rfl rfl ?_
                        refine z_iconst C (nI 0) dL_cells_248 (by decide) ?_
                        refine z_iload_n C 3 dL_cells_249 rfl rfl ?_
                        refine z_iconst C (nI 2) dL_cells_250 (by decide) ?_
                        rcases Bool.eq_false_or_eq_true (Dm S 0 i) with hq_21 | hq_21
                        · refine z_callVr C kX5_line gL_cells_X5_line (l_line2y X.2.1 x0 h0 w0 t S 0 i hG (by decide) h_1 hq_21) dL_cells_251 [0, 1, 2, 3, 4, 5, 6, 7, 8] [] 0 rfl nd_0_1_2_3_4_5_6_7_8 rfl rfl rfl (by decide) (by decide) (Nat.le_of_ble_eq_true rfl) rfl ?_
                          refine z_istore C dL_cells_254 (Nat.le_of_ble_eq_true rfl) ?_
                          refine z_lv (lv' := [some (.ref x0), some (.int (nI (su + (kS S i j)))), some (.ref q0), some (.int (nI i)), some (.int (nI j)), some (.int (nI (kS S i j))), some (.int (lst S i j (kS S i j))), some (.int (blw S i j (kS S i j))), some (.int (bse S i j)), some (.int (-5)), none]) rfl ?_
                          refine z_aload_n C 0 dL_cells_256 rfl rfl ?_
                          refine z_iconst C (nI 1) dL_cells_257 (by decide) ?_
                          refine z_iload C dL_cells_258 rfl ?_
                          refine z_iconst C (nI 2) dL_cells_260 (by decide) ?_
                          rcases Bool.eq_false_or_eq_true (Dm S 1 j) with hq_22 | hq_22
                          · refine z_callVr C kX5_line gL_cells_X5_line (l_line2y X.2.1 x0 h0 w0 t S 1 j hG (by decide) h_3 hq_22) dL_cells_261 [0, 1, 2, 3, 4, 5, 6, 7, 8] [] 0 rfl nd_0_1_2_3_4_5_6_7_8 rfl rfl rfl (by decide) (by decide) (Nat.le_of_ble_eq_true rfl) rfl ?_
                            refine z_istore C dL_cells_264 (Nat.le_of_ble_eq_true rfl) ?_
                            refine z_lv (lv' := [some (.ref x0), some (.int (nI (su + (kS S i j)))), some (.ref q0), some (.int (nI i)), some (.int (nI j)), some (.int (nI (kS S i j))), some (.int (lst S i j (kS S i j))), some (.int (blw S i j (kS S i j))), some (.int (bse S i j)), some (.int (-5)), some (.int (-5))]) rfl ?_
                            refine z_aload_n C 2 dL_cells_266 rfl rfl ?_
                            refine z_iconst C (nI 0) dL_cells_267 (by decide) ?_
                            refine z_dup2 C dL_cells_268 rfl rfl ?_
                            refine z_ialdN C 11 dL_cells_269 rfl (by omega) (by decide) ?_
                            refine z_top (y := a0) (rfl) ?_
                            refine z_aload_n C 0 dL_cells_270 rfl rfl ?_
                            refine z_iconst C (nI 0) dL_cells_271 (by decide) ?_
                            refine z_iload_n C 3 dL_cells_272 rfl rfl ?_
                            refine z_iload C dL_cells_273 rfl ?_
                            refine z_callVr C kX5_cell gL_cells_X5_cell (l_cell0 X.2.1 x0 h0 w0 t S i j hG h_1 h_3) dL_cells_275 [0, 1, 2, 3, 4, 5, 6, 7, 8] [.int a0, .int (nI 0), .ref q0] 0 rfl nd_0_1_2_3_4_5_6_7_8 rfl rfl rfl (by decide) (by decide) (Nat.le_of_ble_eq_true rfl) rfl ?_
                            refine z_iadd C dL_cells_278 ?_
                            refine z_iastX C 11 (f' := (sA (a0 + (cV S i j)) a1 a2)) (wn := (WCd X.2.1 x0 h0 h1 w0 w1 t S o kp ln ps ++ [(q0, .inl (X.2.1.2.2.1, 3, .inl (sA (a0 + (cV S i j)) a1 a2)))])) dL_cells_279 rfl (by omega) (by decide) (lt3 rfl rfl rfl) rfl ?_
                            refine z_iload C dL_cells_280 rfl ?_
                            refine z_if_lt_t C 326 dL_cells_282 (by decide) (by decide) ?_
                            refine z_kill 9 ?_
                            refine z_kill 10 ?_
                            exact hJ326 a1 (by first | exact s1_y (by assumption) (by assumption) ha1 | exact s1_n0 (by assumption) ha1 | exact s1_n1 (by assumption) ha1)
                          · refine z_callVr C kX5_line gL_cells_X5_line (l_line2n X.2.1 x0 h0 w0 t S 1 j hG (by decide) h_3 hq_22) dL_cells_261 [0, 1, 2, 3, 4, 5, 6, 7, 8] [] 0 rfl nd_0_1_2_3_4_5_6_7_8 rfl rfl rfl (by decide) (by decide) (Nat.le_of_ble_eq_true rfl) rfl ?_
                            have hg_23 : zc (nDm S 1) j ≤ j := zc_le _ _
                            refine z_istore C dL_cells_264 (Nat.le_of_ble_eq_true rfl) ?_
                            refine z_lv (lv' := [some (.ref x0), some (.int (nI (su + (kS S i j)))), some (.ref q0), some (.int (nI i)), some (.int (nI j)), some (.int (nI (kS S i j))), some (.int (lst S i j (kS S i j))), some (.int (blw S i j (kS S i j))), some (.int (bse S i j)), some (.int (-5)), some (.int (nI (zc (nDm S 1) j)))]) rfl ?_
                            refine z_aload_n C 2 dL_cells_266 rfl rfl ?_
                            refine z_iconst C (nI 0) dL_cells_267 (by decide) ?_
                            refine z_dup2 C dL_cells_268 rfl rfl ?_
                            refine z_ialdN C 11 dL_cells_269 rfl (by omega) (by decide) ?_
                            refine z_top (y := a0) (rfl) ?_
                            refine z_aload_n C 0 dL_cells_270 rfl rfl ?_
                            refine z_iconst C (nI 0) dL_cells_271 (by decide) ?_
                            refine z_iload_n C 3 dL_cells_272 rfl rfl ?_
                            refine z_iload C dL_cells_273 rfl ?_
                            refine z_callVr C kX5_cell gL_cells_X5_cell (l_cell0 X.2.1 x0 h0 w0 t S i j hG h_1 h_3) dL_cells_275 [0, 1, 2, 3, 4, 5, 6, 7, 8] [.int a0, .int (nI 0), .ref q0] 0 rfl nd_0_1_2_3_4_5_6_7_8 rfl rfl rfl (by decide) (by decide) (Nat.le_of_ble_eq_true rfl) rfl ?_
                            refine z_iadd C dL_cells_278 ?_
                            refine z_iastX C 11 (f' := (sA (a0 + (cV S i j)) a1 a2)) (wn := (WCd X.2.1 x0 h0 h1 w0 w1 t S o kp ln ps ++ [(q0, .inl (X.2.1.2.2.1, 3, .inl (sA (a0 + (cV S i j)) a1 a2)))])) dL_cells_279 rfl (by omega) (by decide) (lt3 rfl rfl rfl) rfl ?_
                            refine z_iload C dL_cells_280 rfl ?_
                            refine z_if_lt_t C 326 dL_cells_282 (by decide) (by decide) ?_
                            refine z_kill 9 ?_
                            refine z_kill 10 ?_
                            exact hJ326 a1 (by first | exact s1_y (by assumption) (by assumption) ha1 | exact s1_n0 (by assumption) ha1 | exact s1_n1 (by assumption) ha1)
                        · refine z_callVr C kX5_line gL_cells_X5_line (l_line2n X.2.1 x0 h0 w0 t S 0 i hG (by decide) h_1 hq_21) dL_cells_251 [0, 1, 2, 3, 4, 5, 6, 7, 8] [] 0 rfl nd_0_1_2_3_4_5_6_7_8 rfl rfl rfl (by decide) (by decide) (Nat.le_of_ble_eq_true rfl) rfl ?_
                          have hg_24 : zc (nDm S 0) i ≤ i := zc_le _ _
                          refine z_istore C dL_cells_254 (Nat.le_of_ble_eq_true rfl) ?_
                          refine z_lv (lv' := [some (.ref x0), some (.int (nI (su + (kS S i j)))), some (.ref q0), some (.int (nI i)), some (.int (nI j)), some (.int (nI (kS S i j))), some (.int (lst S i j (kS S i j))), some (.int (blw S i j (kS S i j))), some (.int (bse S i j)), some (.int (nI (zc (nDm S 0) i))), none]) rfl ?_
                          refine z_aload_n C 0 dL_cells_256 rfl rfl ?_
                          refine z_iconst C (nI 1) dL_cells_257 (by decide) ?_
                          refine z_iload C dL_cells_258 rfl ?_
                          refine z_iconst C (nI 2) dL_cells_260 (by decide) ?_
                          rcases Bool.eq_false_or_eq_true (Dm S 1 j) with hq_25 | hq_25
                          · refine z_callVr C kX5_line gL_cells_X5_line (l_line2y X.2.1 x0 h0 w0 t S 1 j hG (by decide) h_3 hq_25) dL_cells_261 [0, 1, 2, 3, 4, 5, 6, 7, 8] [] 0 rfl nd_0_1_2_3_4_5_6_7_8 rfl rfl rfl (by decide) (by decide) (Nat.le_of_ble_eq_true rfl) rfl ?_
                            refine z_istore C dL_cells_264 (Nat.le_of_ble_eq_true rfl) ?_
                            refine z_lv (lv' := [some (.ref x0), some (.int (nI (su + (kS S i j)))), some (.ref q0), some (.int (nI i)), some (.int (nI j)), some (.int (nI (kS S i j))), some (.int (lst S i j (kS S i j))), some (.int (blw S i j (kS S i j))), some (.int (bse S i j)), some (.int (nI (zc (nDm S 0) i))), some (.int (-5))]) rfl ?_
                            refine z_aload_n C 2 dL_cells_266 rfl rfl ?_
                            refine z_iconst C (nI 0) dL_cells_267 (by decide) ?_
                            refine z_dup2 C dL_cells_268 rfl rfl ?_
                            refine z_ialdN C 11 dL_cells_269 rfl (by omega) (by decide) ?_
                            refine z_top (y := a0) (rfl) ?_
                            refine z_aload_n C 0 dL_cells_270 rfl rfl ?_
                            refine z_iconst C (nI 0) dL_cells_271 (by decide) ?_
                            refine z_iload_n C 3 dL_cells_272 rfl rfl ?_
                            refine z_iload C dL_cells_273 rfl ?_
                            refine z_callVr C kX5_cell gL_cells_X5_cell (l_cell0 X.2.1 x0 h0 w0 t S i j hG h_1 h_3) dL_cells_275 [0, 1, 2, 3, 4, 5, 6, 7, 8] [.int a0, .int (nI 0), .ref q0] 0 rfl nd_0_1_2_3_4_5_6_7_8 rfl rfl rfl (by decide) (by decide) (Nat.le_of_ble_eq_true rfl) rfl ?_
                            refine z_iadd C dL_cells_278 ?_
                            refine z_iastX C 11 (f' := (sA (a0 + (cV S i j)) a1 a2)) (wn := (WCd X.2.1 x0 h0 h1 w0 w1 t S o kp ln ps ++ [(q0, .inl (X.2.1.2.2.1, 3, .inl (sA (a0 + (cV S i j)) a1 a2)))])) dL_cells_279 rfl (by omega) (by decide) (lt3 rfl rfl rfl) rfl ?_
                            refine z_iload C dL_cells_280 rfl ?_
                            refine z_nif_lt_f C 326 dL_cells_282 (by decide) (by omega) (by trivial) ?_
                            refine z_iload C dL_cells_285 rfl ?_
                            refine z_if_lt_t C 326 dL_cells_287 (by decide) (by decide) ?_
                            refine z_kill 9 ?_
                            refine z_kill 10 ?_
                            exact hJ326 a1 (by first | exact s1_y (by assumption) (by assumption) ha1 | exact s1_n0 (by assumption) ha1 | exact s1_n1 (by assumption) ha1)
                          · refine z_callVr C kX5_line gL_cells_X5_line (l_line2n X.2.1 x0 h0 w0 t S 1 j hG (by decide) h_3 hq_25) dL_cells_261 [0, 1, 2, 3, 4, 5, 6, 7, 8] [] 0 rfl nd_0_1_2_3_4_5_6_7_8 rfl rfl rfl (by decide) (by decide) (Nat.le_of_ble_eq_true rfl) rfl ?_
                            have hg_26 : zc (nDm S 1) j ≤ j := zc_le _ _
                            refine z_istore C dL_cells_264 (Nat.le_of_ble_eq_true rfl) ?_
                            refine z_lv (lv' := [some (.ref x0), some (.int (nI (su + (kS S i j)))), some (.ref q0), some (.int (nI i)), some (.int (nI j)), some (.int (nI (kS S i j))), some (.int (lst S i j (kS S i j))), some (.int (blw S i j (kS S i j))), some (.int (bse S i j)), some (.int (nI (zc (nDm S 0) i))), some (.int (nI (zc (nDm S 1) j)))]) rfl ?_
                            refine z_aload_n C 2 dL_cells_266 rfl rfl ?_
                            refine z_iconst C (nI 0) dL_cells_267 (by decide) ?_
                            refine z_dup2 C dL_cells_268 rfl rfl ?_
                            refine z_ialdN C 11 dL_cells_269 rfl (by omega) (by decide) ?_
                            refine z_top (y := a0) (rfl) ?_
                            refine z_aload_n C 0 dL_cells_270 rfl rfl ?_
                            refine z_iconst C (nI 0) dL_cells_271 (by decide) ?_
                            refine z_iload_n C 3 dL_cells_272 rfl rfl ?_
                            refine z_iload C dL_cells_273 rfl ?_
                            refine z_callVr C kX5_cell gL_cells_X5_cell (l_cell0 X.2.1 x0 h0 w0 t S i j hG h_1 h_3) dL_cells_275 [0, 1, 2, 3, 4, 5, 6, 7, 8] [.int a0, .int (nI 0), .ref q0] 0 rfl nd_0_1_2_3_4_5_6_7_8 rfl rfl rfl (by decide) (by decide) (Nat.le_of_ble_eq_true rfl) rfl ?_
                            refine z_iadd C dL_cells_278 ?_
                            refine z_iastX C 11 (f' := (sA (a0 + (cV S i j)) a1 a2)) (wn := (WCd X.2.1 x0 h0 h1 w0 w1 t S o kp ln ps ++ [(q0, .inl (X.2.1.2.2.1, 3, .inl (sA (a0 + (cV S i j)) a1 a2)))])) dL_cells_279 rfl (by omega) (by decide) (lt3 rfl rfl rfl) rfl ?_
                            refine z_iload C dL_cells_280 rfl ?_
                            refine z_nif_lt_f C 326 dL_cells_282 (by decide) (by omega) (by trivial) ?_
                            refine z_iload C dL_cells_285 rfl ?_
                            refine z_nif_lt_f C 326 dL_cells_287 (by decide) (by omega) (by trivial) ?_
                            refine z_aload_n C 2 dL_cells_290 rfl rfl ?_
                            refine z_iconst C (nI 1) dL_cells_291 (by decide) ?_
                            refine z_dup2 C dL_cells_292 rfl rfl ?_
                            refine z_ialdN C 11 dL_cells_293 rfl (by omega) (by decide) ?_
                            refine z_top (y := a1) (rfl) ?_
                            refine z_aload_n C 0 dL_cells_294 rfl rfl ?_
                            refine z_iconst C (nI 0) dL_cells_295 (by decide) ?_
                            refine z_iload_n C 3 dL_cells_296 rfl rfl ?_
                            refine z_iload C dL_cells_297 rfl ?_
                            refine z_callVr C kX5_cell gL_cells_X5_cell (l_cell0 X.2.1 x0 h0 w0 t S i j hG h_1 h_3) dL_cells_299 [0, 1, 2, 3, 4, 5, 6, 7, 8] [.int a1, .int (nI 1), .ref q0] 0 rfl nd_0_1_2_3_4_5_6_7_8 rfl rfl rfl (by decide) (by decide) (Nat.le_of_ble_eq_true rfl) rfl ?_
                            refine z_iadd C dL_cells_302 ?_
                            refine z_iastX C 11 (f' := (sA (a0 + (cV S i j)) (a1 + (cV S i j)) a2)) (wn := (WCd X.2.1 x0 h0 h1 w0 w1 t S o kp ln ps ++ [(q0, .inl (X.2.1.2.2.1, 3, .inl (sA (a0 + (cV S i j)) (a1 + (cV S i j)) a2)))])) dL_cells_303 rfl (by omega) (by decide) (lt3 rfl rfl rfl) rfl ?_
                            refine z_aload_n C 0 dL_cells_304 rfl rfl ?_
                            refine z_iconst C (nI 1) dL_cells_305 (by decide) ?_
                            refine z_iload C dL_cells_306 rfl ?_
                            refine z_iload C dL_cells_308 rfl ?_
                            refine z_callVr C kX5_cell gL_cells_X5_cell (l_cell1 X.2.1 x0 h0 w0 t S i j (zc (nDm S 0) i) (zc (nDm S 1) j) hG h_1 h_3 hq_21 hq_25 (by omega) (by omega)) dL_cells_310 [0, 1, 2, 3, 4, 5, 6, 7, 8] [] 0 rfl nd_0_1_2_3_4_5_6_7_8 rfl rfl rfl (by decide) (by decide) (Nat.le_of_ble_eq_true rfl) rfl ?_
                            refine z_aload_n C 0 dL_cells_313 rfl rfl ?_
                            refine z_iconst C (nI 0) dL_cells_314 (by decide) ?_
                            refine z_iload_n C 3 dL_cells_315 rfl rfl ?_
                            refine z_iload C dL_cells_316 rfl ?_
                            refine z_callVr C kX5_cell gL_cells_X5_cell (l_cell0 X.2.1 x0 h0 w0 t S i j hG h_1 h_3) dL_cells_318 [0, 1, 2, 3, 4, 5, 6, 7, 8] [.int (cV S i j)] 0 rfl nd_0_1_2_3_4_5_6_7_8 rfl rfl rfl (by decide) (by decide) (Nat.le_of_ble_eq_true rfl) rfl ?_
                            refine z_icmp_eq_t C 326 dL_cells_321 (by decide) rfl ?_
                            refine z_kill 9 ?_
                            refine z_kill 10 ?_
                            exact hJ326 (a1 + (cV S i j)) (by first | exact s1_y (by assumption) (by assumption) ha1 | exact s1_n0 (by assumption) ha1 | exact s1_n1 (by assumption) ha1)
                      refine z_aload_n C 0 dL_cells_195 rfl rfl ?_
                      refine z_iconst C (nI 0) dL_cells_196 (by decide) ?_
                      refine z_iload_n C 3 dL_cells_197 rfl rfl ?_
                      refine z_iload C dL_cells_198 rfl ?_
                      refine z_callVr C kX5_cell gL_cells_X5_cell (l_cell0 X.2.1 x0 h0 w0 t S i j hG h_1 h_3) dL_cells_200 [0, 1, 2, 3, 4, 5, 6, 7, 8] [] 0 rfl nd_0_1_2_3_4_5_6_7_8 rfl rfl rfl (by decide) (by decide) (Nat.le_of_ble_eq_true rfl) rfl ?_
                      refine z_iload C dL_cells_203 rfl ?_
                      refine z_nif_le C 213 dL_cells_205 (by decide) (by omega) (fun h_27 => ?_) (fun h_27 => ?_)
                      · refine z_iload C dL_cells_213 rfl ?_
                        have fv_28 := cV_0 hG (show kS S i j = 0 by omega)
                        refine z_icmp_ne_f C 245 dL_cells_215 (by decide) fv_28 ?_
                        exact hJ218  
                      · refine z_iload C dL_cells_208 rfl ?_
                        refine z_goto C 215 dL_cells_210 (by decide) ?_
                        have fv_29 := cV_k hG (show 0 < kS S i j by omega)
                        refine z_icmp_ne_f C 245 dL_cells_215 (by decide) fv_29 ?_
                        exact hJ218  
                    refine z_iload C dL_cells_158 rfl ?_
                    refine z_nif_le C 180 dL_cells_160 (by decide) (by omega) (fun h_30 => ?_) (fun h_30 => ?_)
                    · refine z_aload_n C 0 dL_cells_180 rfl rfl ?_
                      refine z_iconst C (nI 0) dL_cells_181 (by decide) ?_
                      refine z_iload_n C 3 dL_cells_182 rfl rfl ?_
                      refine z_iload C dL_cells_183 rfl ?_
                      refine z_callVr C kX5_cell gL_cells_X5_cell (l_cell0 X.2.1 x0 h0 w0 t S i j hG h_1 h_3) dL_cells_185 [0, 1, 2, 3, 4, 5, 6, 7, 8] [] 0 rfl nd_0_1_2_3_4_5_6_7_8 rfl rfl rfl (by decide) (by decide) (Nat.le_of_ble_eq_true rfl) rfl ?_
                      refine z_top (y := bse S i j) (cV_0 hG (by omega)) ?_
                      refine z_istore C dL_cells_188 (Nat.le_of_ble_eq_true rfl) ?_
                      refine z_lv (lv' := [some (.ref x0), some (.int (nI su)), some (.ref q0), some (.int (nI i)), some (.int (nI j)), some (.int (nI (kS S i j))), some (.int (lst S i j (kS S i j))), some (.int (blw S i j (kS S i j))), some (.int (bse S i j)), none, none]) rfl ?_
                      exact hJ190  
                    · have fk_31 : sX S i j 0 < mK S := (sX_f hG (by omega) (by omega) h_30).1
                      have fk_32 : kN S (sX S i j 0) = 4 := (sX_f hG (by omega) (by omega) h_30).2.1
                      have fk_33 : sN S (sX S i j 0) = 0 := (sX_f hG (by omega) (by omega) h_30).2.2.1
                      have fk_34 : lP S 0 (sX S i j 0) = i + 1 := (sX_f hG (by omega) (by omega) h_30).2.2.2.1
                      have fk_35 : lP S 1 (sX S i j 0) = j + 1 := (sX_f hG (by omega) (by omega) h_30).2.2.2.2
                      have fc_36 := lst_lt hG h_30
                      refine z_aload_n C 0 dL_cells_163 rfl rfl ?_
                      refine z_aload_n C 0 dL_cells_164 rfl rfl ?_
                      refine z_iload_n C 3 dL_cells_165 rfl rfl ?_
                      refine z_iload C dL_cells_166 rfl ?_
                      refine z_iconst C (nI 0) dL_cells_168 (by decide) ?_
                      refine z_callVr C kX5_setting gL_cells_X5_setting (l_setY X.2.1 x0 h0 w0 t S i j 0 hG h_1 h_3 h_30) dL_cells_169 [0, 1, 2, 3, 4, 5, 6, 7, 8] [.ref x0] 0 rfl nd_0_1_2_3_4_5_6_7_8 rfl rfl rfl (by decide) (by decide) (Nat.le_of_ble_eq_true rfl) rfl ?_
                      have hg_37 : sX S i j 0 < mK S := (sX_t hG (by omega)).1
                      refine z_bipush C (nI 6) dL_cells_172 (by decide) ?_
                      refine z_callVr C kX5_change gL_cells_X5_change (l_chg6y X.2.1 x0 h0 w0 t S (sX S i j 0) hG fk_31 fk_32 fk_33) dL_cells_174 [0, 1, 2, 3, 4, 5, 6, 7, 8] [] 0 rfl nd_0_1_2_3_4_5_6_7_8 rfl rfl rfl (by decide) (by decide) (Nat.le_of_ble_eq_true rfl) rfl ?_
                      refine z_goto C 188 dL_cells_177 (by decide) ?_
                      refine z_top (y := bse S i j) (bse_p hG (by omega) (by omega) (by omega)) ?_
                      refine z_istore C dL_cells_188 (Nat.le_of_ble_eq_true rfl) ?_
                      refine z_lv (lv' := [some (.ref x0), some (.int (nI su)), some (.ref q0), some (.int (nI i)), some (.int (nI j)), some (.int (nI (kS S i j))), some (.int (lst S i j (kS S i j))), some (.int (blw S i j (kS S i j))), some (.int (bse S i j)), none, none]) rfl ?_
                      exact hJ190  
              exact hL41 _ 0 rfl (by omega)
        exact hL21 _ 0 so p0 p1 p2 rfl (by omega) (by rw [hso, kR_0, Nat.add_zero]) (by rw [hs0, rS_0, Int32.add_zero]) (by rw [hs1, rS_0, Int32.add_zero]) (by rw [hs2, rS_0, Int32.add_zero])
  exact hL8 _ 0 0 0 0 0 rfl (by omega) ((kT_0 S).symm) ((tS_0 S 0).symm) ((tS_0 S 1).symm) ((tS_0 S 2).symm)
