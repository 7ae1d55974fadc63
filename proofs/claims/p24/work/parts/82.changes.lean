set_option maxHeartbeats 1000000 in
set_option maxRecDepth 100000 in
theorem w_changes (E : zE) (x0 h0 h1 w0 w1 : Nat) (t : Nat → Nat) (S : zSt) (o kp ln : Nat) (ps : zPs) {B : Nat}  (hG : GG S B) : zMA E yL_changes wsL_changes 7 2 20 [.ref x0] (WCd E x0 h0 h1 w0 w1 t S o kp ln ps) (WCd E x0 h0 h1 w0 w1 t S o kp ln ps) (some (.int (nI 1))) := by
  refine zMA.of kL_changes (Nat.le_of_ble_eq_true rfl) rfl [some (.ref x0), none, none, none, none, none, none, none, none, none, none] rfl (Nat.le_of_ble_eq_true rfl) ?_
  intro X eX C N
  subst eX
  have hM := gg_M hG
  have hc0 : cnS S 0 ≤ mK S := zc_le _ _
  refine z_iconst C (nI 4) dL_changes_0 (by decide) ?_
  refine z_newA C N (N' := 4) (by decide +kernel) (by decide) (by decide) (by decide) rfl rfl (k' := 1) (n' := 4) (by decide) (by decide) dL_changes_1 (fun q0 => ?_)
  have C := N.cells C (k' := 1) (n' := 4) (by decide) (by decide)
  refine z_cv (ws' := (WCd X.2.1 x0 h0 h1 w0 w1 t S o kp ln ps ++ [(q0, .inl (X.2.1.2.2.1, 4, .inl (stA S 0)))])) (by rw [stA_0]) rfl rfl ?_
  refine z_astore_n C 1 dL_changes_3 rfl (Nat.le_of_ble_eq_true rfl) ?_
  refine z_lv (lv' := [some (.ref x0), some (.ref q0), none, none, none, none, none, none, none, none, none]) rfl ?_
  refine z_bipush C (nI 16) dL_changes_4 (by decide) ?_
  refine z_newA C N (N' := 16) (by decide +kernel) (by decide) (by decide) (by decide) rfl rfl (k' := 2) (n' := 20) (by decide) (by decide) dL_changes_6 (fun q1 => ?_)
  have C := N.cells C (k' := 2) (n' := 20) (by decide) (by decide)
  refine z_cv (ws' := ((WCd X.2.1 x0 h0 h1 w0 w1 t S o kp ln ps ++ [(q0, .inl (X.2.1.2.2.1, 4, .inl (stA S 0)))]) ++ [(q1, .inl (X.2.1.2.2.1, 16, .inl (byA S 0)))])) (by rw [byA_0]) rfl rfl ?_
  refine z_astore_n C 2 dL_changes_8 rfl (Nat.le_of_ble_eq_true rfl) ?_
  refine z_lv (lv' := [some (.ref x0), some (.ref q0), some (.ref q1), none, none, none, none, none, none, none, none]) rfl ?_
  refine z_iconst C (nI 0) dL_changes_9 (by decide) ?_
  refine z_istore_n C 3 dL_changes_10 rfl (Nat.le_of_ble_eq_true rfl) ?_
  refine z_lv (lv' := [some (.ref x0), some (.ref q0), some (.ref q1), some (.int (nI 0)), none, none, none, none, none, none, none]) rfl ?_
  refine z_iconst C (nI 0) dL_changes_11 (by decide) ?_
  refine z_istore C dL_changes_12 (Nat.le_of_ble_eq_true rfl) ?_
  refine z_lv (lv' := [some (.ref x0), some (.ref q0), some (.ref q1), some (.int (nI 0)), some (.int (nI 0)), none, none, none, none, none, none]) rfl ?_
  have hL14 : ∀ (dd14 : Nat) (x : Nat), mK S - x = dd14 → (x ≤ mK S) → zG X 2 20 ((WCd X.2.1 x0 h0 h1 w0 w1 t S o kp ln ps ++ [(q0, .inl (X.2.1.2.2.1, 4, .inl (stA S x)))]) ++ [(q1, .inl (X.2.1.2.2.1, 16, .inl (byA S x)))]) [some (.ref x0), some (.ref q0), some (.ref q1), some (.int (nI 0)), some (.int (nI x)), none, none, none, none, none, none] [] 14 := by
    intro dd14
    induction dd14 using Nat.strongRecOn with
    | _ dd14 ih14 =>
      intro x hdd14 hxl
      refine z_iload C dL_changes_14 rfl ?_
      refine z_aload_n C 0 dL_changes_16 rfl rfl ?_
      refine z_iconst C (nI 0) dL_changes_17 (by decide) ?_
      refine z_callVr C kX5_count gL_changes_X5_count (l_cnt0 X.2.1 x0 h0 h1 w0 w1 t S o kp ln ps  hG ) dL_changes_18 [0, 1, 2, 3, 4, 5, 6, 7, 8, 9, 10] [.int (nI x)] 0 rfl nd_0_1_2_3_4_5_6_7_8_9_10 rfl rfl rfl (by decide) (by decide) (Nat.le_of_ble_eq_true rfl) rfl ?_
      refine z_ncmp_ge C 272 dL_changes_21 (by decide) (by omega) (by omega) (fun h_1 => ?_) (fun h_1 => ?_)
      · obtain rfl : x = mK S := (by omega)
        refine z_iconst C (-1) dL_changes_272 (by decide) ?_
        refine z_istore C dL_changes_273 (Nat.le_of_ble_eq_true rfl) ?_
        refine z_lv (lv' := [some (.ref x0), some (.ref q0), some (.ref q1), some (.int (nI 0)), some (.int (-1)), none, none, none, none, none, none]) rfl ?_
        refine z_iconst C (nI 0) dL_changes_275 (by decide) ?_
        refine z_istore C dL_changes_276 (Nat.le_of_ble_eq_true rfl) ?_
        refine z_lv (lv' := [some (.ref x0), some (.ref q0), some (.ref q1), some (.int (nI 0)), some (.int (-1)), some (.int (nI 0)), none, none, none, none, none]) rfl ?_
        have hL278 : ∀ (dd278 : Nat) (k : Nat), cnS S 0 - k = dd278 → (k ≤ cnS S 0) → zG X 2 20 ((WCd X.2.1 x0 h0 h1 w0 w1 t S o kp ln ps ++ [(q0, .inl (X.2.1.2.2.1, 4, .inl (stA S (mK S))))]) ++ [(q1, .inl (X.2.1.2.2.1, 16, .inl (byA S (mK S))))]) [some (.ref x0), some (.ref q0), some (.ref q1), some (.int (nI k)), some (.int (lsP S k)), some (.int (nI k)), none, none, none, none, none] [] 278 := by
          intro dd278
          induction dd278 using Nat.strongRecOn with
          | _ dd278 ih278 =>
            intro k hdd278 hkl
            refine z_iload C dL_changes_278 rfl ?_
            refine z_aload_n C 1 dL_changes_280 rfl rfl ?_
            refine z_iconst C (nI 0) dL_changes_281 (by decide) ?_
            refine z_ialdN C 11 dL_changes_282 rfl (by omega) (by decide) ?_
            refine z_top (y := nI (cnS S 0)) (stA_M hG (by omega)) ?_
            refine z_ncmp_ge C 340 dL_changes_283 (by decide) (by omega) (by omega) (fun h_2 => ?_) (fun h_2 => ?_)
            · obtain rfl : k = cnS S 0 := (by omega)
              refine z_iconst C (nI 0) dL_changes_340 (by decide) ?_
              refine z_istore C dL_changes_341 (Nat.le_of_ble_eq_true rfl) ?_
              refine z_lv (lv' := [some (.ref x0), some (.ref q0), some (.ref q1), some (.int (nI (cnS S 0))), some (.int (lsP S (cnS S 0))), some (.int (nI 0)), none, none, none, none, none]) rfl ?_
              refine z_kill 4 ?_
              refine z_lv (lv' := [some (.ref x0), some (.ref q0), some (.ref q1), some (.int (nI (cnS S 0))), none, some (.int (nI 0)), none, none, none, none, none]) rfl ?_
              have hL343 : ∀ (dd343 : Nat) (a : Nat), 4 - a = dd343 → (a ≤ 4) → zG X 2 20 ((WCd X.2.1 x0 h0 h1 w0 w1 t S o kp ln ps ++ [(q0, .inl (X.2.1.2.2.1, 4, .inl (stA S (mK S))))]) ++ [(q1, .inl (X.2.1.2.2.1, 16, .inl (byA S (mK S))))]) [some (.ref x0), some (.ref q0), some (.ref q1), some (.int (nI (cnS S 0))), none, some (.int (nI a)), none, none, none, none, none] [] 343 := by
                intro dd343
                induction dd343 using Nat.strongRecOn with
                | _ dd343 ih343 =>
                  intro a hdd343 hal
                  refine z_iload C dL_changes_343 rfl ?_
                  refine z_iconst C (nI 4) dL_changes_345 (by decide) ?_
                  refine z_ncmp_ge C 407 dL_changes_346 (by decide) (by omega) (by omega) (fun h_3 => ?_) (fun h_3 => ?_)
                  · refine z_aload_n C 0 dL_changes_407 rfl rfl ?_
                    refine z_iload_n C 3 dL_changes_408 rfl rfl ?_
                    refine z_callVr C kX5_pending gL_changes_X5_pending (l_pndN X.2.1 x0 h0 w0 t S (cnS S 0) hG (by omega)) dL_changes_409 [0, 1, 2, 3, 4, 5, 6, 7, 8] [] 0 rfl nd_0_1_2_3_4_5_6_7_8 rfl rfl rfl (by decide) (by decide) (Nat.le_of_ble_eq_true rfl) rfl ?_
                    refine z_bipush C (-5) dL_changes_412 (by decide) ?_
                    refine z_icmp_ne_f C 463 dL_changes_414 (by decide) rfl ?_
                    refine z_aload_n C 0 dL_changes_417 rfl rfl ?_
                    refine z_iconst C (-1) dL_changes_418 (by decide) ?_
                    refine z_callVr C kX5_pending gL_changes_X5_pending (l_pndM X.2.1 x0 h0 w0 t S  hG ) dL_changes_419 [0, 1, 2, 3, 4, 5, 6, 7, 8] [] 0 rfl nd_0_1_2_3_4_5_6_7_8 rfl rfl rfl (by decide) (by decide) (Nat.le_of_ble_eq_true rfl) rfl ?_
                    refine z_bipush C (-2) dL_changes_422 (by decide) ?_
                    refine z_icmp_ne_f C 463 dL_changes_424 (by decide) rfl ?_
                    refine z_aload_n C 0 dL_changes_427 rfl rfl ?_
                    refine z_iconst C (nI 4) dL_changes_428 (by decide) ?_
                    refine z_iconst C (nI 0) dL_changes_429 (by decide) ?_
                    refine z_callVr C kX5_author gL_changes_X5_author (l_autB X.2.1 x0 h0 w0 t S  hG ) dL_changes_430 [0, 1, 2, 3, 4, 5, 6, 7, 8] [] 0 rfl nd_0_1_2_3_4_5_6_7_8 rfl rfl rfl (by decide) (by decide) (Nat.le_of_ble_eq_true rfl) rfl ?_
                    refine z_iconst C (-1) dL_changes_433 (by decide) ?_
                    refine z_icmp_ne_f C 463 dL_changes_434 (by decide) rfl ?_
                    refine z_aload_n C 0 dL_changes_437 rfl rfl ?_
                    refine z_iconst C (nI 0) dL_changes_438 (by decide) ?_
                    refine z_iconst C (nI 4) dL_changes_439 (by decide) ?_
                    refine z_callVr C kX5_author gL_changes_X5_author (l_autK X.2.1 x0 h0 w0 t S  hG ) dL_changes_440 [0, 1, 2, 3, 4, 5, 6, 7, 8] [] 0 rfl nd_0_1_2_3_4_5_6_7_8 rfl rfl rfl (by decide) (by decide) (Nat.le_of_ble_eq_true rfl) rfl ?_
                    refine z_bipush C (-2) dL_changes_443 (by decide) ?_
                    refine z_icmp_ne_f C 463 dL_changes_445 (by decide) rfl ?_
                    refine z_aload_n C 0 dL_changes_448 rfl rfl ?_
                    refine z_bipush C (nI 11) dL_changes_449 (by decide) ?_
                    refine z_callVr C kX5_count gL_changes_X5_count (l_cntB X.2.1 x0 h0 h1 w0 w1 t S o kp ln ps  hG ) dL_changes_451 [0, 1, 2, 3, 4, 5, 6, 7, 8, 9, 10] [] 0 rfl nd_0_1_2_3_4_5_6_7_8_9_10 rfl rfl rfl (by decide) (by decide) (Nat.le_of_ble_eq_true rfl) rfl ?_
                    refine z_bipush C (-2) dL_changes_454 (by decide) ?_
                    refine z_icmp_ne_f C 463 dL_changes_456 (by decide) rfl ?_
                    refine z_iconst C (nI 1) dL_changes_459 (by decide) ?_
                    refine z_goto C 464 dL_changes_460 (by decide) ?_
                    exact z_zretA C N (by decide) (by decide) [0, 1, 2, 3, 4, 5, 6, 7, 8, 9, 10] rfl nd_0_1_2_3_4_5_6_7_8_9_10 dL_changes_464 rfl (rfl)
                  · refine z_iconst C (nI 0) dL_changes_349 (by decide) ?_
                    refine z_istore C dL_changes_350 (Nat.le_of_ble_eq_true rfl) ?_
                    refine z_lv (lv' := [some (.ref x0), some (.ref q0), some (.ref q1), some (.int (nI (cnS S 0))), none, some (.int (nI a)), some (.int (nI 0)), none, none, none, none]) rfl ?_
                    have hL352 : ∀ (dd352 : Nat) (k : Nat), 4 - k = dd352 → (k ≤ 4) → zG X 2 20 ((WCd X.2.1 x0 h0 h1 w0 w1 t S o kp ln ps ++ [(q0, .inl (X.2.1.2.2.1, 4, .inl (stA S (mK S))))]) ++ [(q1, .inl (X.2.1.2.2.1, 16, .inl (byA S (mK S))))]) [some (.ref x0), some (.ref q0), some (.ref q1), some (.int (nI (cnS S 0))), none, some (.int (nI a)), some (.int (nI k)), none, none, none, none] [] 352 := by
                      intro dd352
                      induction dd352 using Nat.strongRecOn with
                      | _ dd352 ih352 =>
                        intro k hdd352 hkq
                        refine z_iload C dL_changes_352 rfl ?_
                        refine z_iconst C (nI 4) dL_changes_354 (by decide) ?_
                        refine z_ncmp_ge C 401 dL_changes_355 (by decide) (by omega) (by omega) (fun h_4 => ?_) (fun h_4 => ?_)
                        · refine z_iinc C (nI (a + 1)) dL_changes_401 rfl (zi_1 _) ?_
                          refine z_lv (lv' := [some (.ref x0), some (.ref q0), some (.ref q1), some (.int (nI (cnS S 0))), none, some (.int (nI (a + 1))), some (.int (nI k)), none, none, none, none]) rfl ?_
                          refine z_goto C 343 dL_changes_404 (by decide) ?_
                          refine z_kill 6 ?_
                          exact ih343 (4 - (a + 1)) (by omega) (a + 1) rfl (by omega)
                        · refine z_aload_n C 0 dL_changes_358 rfl rfl ?_
                          refine z_iload C dL_changes_359 rfl ?_
                          refine z_iload C dL_changes_361 rfl ?_
                          refine z_callVr C kX5_author gL_changes_X5_author (l_aut X.2.1 x0 h0 w0 t S a k hG h_3 h_4) dL_changes_363 [0, 1, 2, 3, 4, 5, 6, 7, 8] [] 0 rfl nd_0_1_2_3_4_5_6_7_8 rfl rfl rfl (by decide) (by decide) (Nat.le_of_ble_eq_true rfl) rfl ?_
                          have hg_5 : cnA S a k ≤ mK S := zc_le _ _
                          refine z_aload_n C 2 dL_changes_366 rfl rfl ?_
                          refine z_iconst C (nI 4) dL_changes_367 (by decide) ?_
                          refine z_iload C dL_changes_368 rfl ?_
                          refine z_imul C dL_changes_370 ?_
                          refine z_top (y := nI (4 * a)) (pk_mul _ _) ?_
                          refine z_iload C dL_changes_371 rfl ?_
                          refine z_iadd C dL_changes_373 ?_
                          refine z_top (y := nI ((4 * a) + k)) (nI_add _ _) ?_
                          refine z_ialdN C 12 dL_changes_374 rfl (by omega) (by decide) ?_
                          refine z_top (y := nI (cnA S a k)) (byA_M hG (by omega) (by omega)) ?_
                          refine z_ncmp_ne_f C 393 dL_changes_375 (by decide) (by omega) (by omega) (by omega) ?_
                          refine z_aload_n C 0 dL_changes_378 rfl rfl ?_
                          refine z_iconst C (nI 1) dL_changes_379 (by decide) ?_
                          refine z_iload C dL_changes_380 rfl ?_
                          refine z_iadd C dL_changes_382 ?_
                          refine z_top (y := nI (1 + k)) (nI_add _ _) ?_
                          refine z_callVr C kX5_count gL_changes_X5_count (l_cntK' X.2.1 x0 h0 h1 w0 w1 t S o kp ln ps k hG h_4) dL_changes_383 [0, 1, 2, 3, 4, 5, 6, 7, 8, 9, 10] [] 0 rfl nd_0_1_2_3_4_5_6_7_8_9_10 rfl rfl rfl (by decide) (by decide) (Nat.le_of_ble_eq_true rfl) rfl ?_
                          have hg_6 : cnS S k ≤ mK S := zc_le _ _
                          refine z_aload_n C 1 dL_changes_386 rfl rfl ?_
                          refine z_iload C dL_changes_387 rfl ?_
                          refine z_ialdN C 11 dL_changes_389 rfl (by omega) (by decide) ?_
                          refine z_top (y := nI (cnS S k)) (stA_M hG (by omega)) ?_
                          refine z_ncmp_eq_t C 395 dL_changes_390 (by decide) (by omega) (by omega) (by omega) ?_
                          refine z_iinc C (nI (k + 1)) dL_changes_395 rfl (zi_1 _) ?_
                          refine z_lv (lv' := [some (.ref x0), some (.ref q0), some (.ref q1), some (.int (nI (cnS S 0))), none, some (.int (nI a)), some (.int (nI (k + 1))), none, none, none, none]) rfl ?_
                          refine z_goto C 352 dL_changes_398 (by decide) ?_
                          exact ih352 (4 - (k + 1)) (by omega) (k + 1) rfl (by omega)
                    exact hL352 _ 0 rfl (by omega)
              exact hL343 _ 0 rfl (by omega)
            · refine z_aload_n C 0 dL_changes_286 rfl rfl ?_
              refine z_iload C dL_changes_287 rfl ?_
              refine z_callVr C kX5_pending gL_changes_X5_pending (l_pndY X.2.1 x0 h0 w0 t S k hG h_2) dL_changes_289 [0, 1, 2, 3, 4, 5, 6, 7, 8] [] 0 rfl nd_0_1_2_3_4_5_6_7_8 rfl rfl rfl (by decide) (by decide) (Nat.le_of_ble_eq_true rfl) rfl ?_
              refine z_istore C dL_changes_292 (Nat.le_of_ble_eq_true rfl) ?_
              refine z_lv (lv' := [some (.ref x0), some (.ref q0), some (.ref q1), some (.int (nI k)), some (.int (lsP S k)), some (.int (nI k)), some (.int (nI (qX S k))), none, none, none, none]) rfl ?_
              have fq_7 : qX S k < mK S := qX_m hG (by omega)
              have fq_8 : sN S (qX S k) = 0 := qX_s hG (by omega)
              refine z_iload C dL_changes_294 rfl ?_
              refine z_nif_lt_f C 325 dL_changes_296 (by decide) (by omega) (by trivial) ?_
              refine z_aload_n C 0 dL_changes_299 rfl rfl ?_
              refine z_iload C dL_changes_300 rfl ?_
              refine z_iconst C (nI 2) dL_changes_302 (by decide) ?_
              refine z_callVr C kX5_change gL_changes_X5_change (l_chg2 X.2.1 x0 h0 w0 t S (qX S k) hG fq_7) dL_changes_303 [0, 1, 2, 3, 4, 5, 6, 7, 8] [] 0 rfl nd_0_1_2_3_4_5_6_7_8 rfl rfl rfl (by decide) (by decide) (Nat.le_of_ble_eq_true rfl) rfl ?_
              refine z_nif_ne_f C 325 dL_changes_306 (by decide) (by omega) (by omega) ?_
              rcases Nat.lt_or_ge (0) (k) with hq_9 | hq_9
              · have fl_10 : ¬ lsP S k < 0 := lsP_n hG (by omega) (by omega)
                have fq_11 : qX S (k - 1) < mK S := qX_m hG (by omega)
                have fq_12 : lx S (qX S (k - 1)) (qX S k) = true := qX_l hG (by omega) (by omega)
                refine z_iload C dL_changes_309 rfl ?_
                refine z_if_lt_f C 327 dL_changes_311 (by decide) fl_10 ?_
                refine z_aload_n C 0 dL_changes_314 rfl rfl ?_
                refine z_iload C dL_changes_315 rfl ?_
                refine z_top (y := nI (qX S (k - 1))) (lsP_e (by omega)) ?_
                refine z_iload C dL_changes_317 rfl ?_
                refine z_callSr C kL_ahead gL_changes_L_ahead (w_ahead X.2.1 x0 h0 w0 t S (qX S (k - 1)) (qX S k) hG fq_11 fq_7 fq_12) dL_changes_319 [0, 1, 2, 3, 4, 5, 6, 7, 8] [] rfl nd_0_1_2_3_4_5_6_7_8 rfl (by decide) (by decide) (Nat.le_of_ble_eq_true rfl) rfl ?_
                refine z_nif_ne_t C 327 dL_changes_322 (by decide) (by omega) (by omega) ?_
                refine z_iload C dL_changes_327 rfl ?_
                refine z_istore C dL_changes_329 (Nat.le_of_ble_eq_true rfl) ?_
                refine z_lv (lv' := [some (.ref x0), some (.ref q0), some (.ref q1), some (.int (nI k)), some (.int (nI (qX S k))), some (.int (nI k)), some (.int (nI (qX S k))), none, none, none, none]) rfl ?_
                refine z_iinc C (nI (k + 1)) dL_changes_331 rfl (zi_1 _) ?_
                refine z_lv (lv' := [some (.ref x0), some (.ref q0), some (.ref q1), some (.int (nI (k + 1))), some (.int (nI (qX S k))), some (.int (nI k)), some (.int (nI (qX S k))), none, none, none, none]) rfl ?_
                refine z_iinc C (nI (k + 1)) dL_changes_334 rfl (zi_1 _) ?_
                refine z_lv (lv' := [some (.ref x0), some (.ref q0), some (.ref q1), some (.int (nI (k + 1))), some (.int (nI (qX S k))), some (.int (nI (k + 1))), some (.int (nI (qX S k))), none, none, none, none]) rfl ?_
                refine z_goto C 278 dL_changes_337 (by decide) ?_
                refine z_kill 6 ?_
                exact ih278 (cnS S 0 - (k + 1)) (by omega) (k + 1) rfl (by omega)
              · have fl_13 : lsP S k < 0 := lsP_0 (by omega)
                refine z_iload C dL_changes_309 rfl ?_
                refine z_if_lt_t C 327 dL_changes_311 (by decide) fl_13 ?_
                refine z_iload C dL_changes_327 rfl ?_
                refine z_istore C dL_changes_329 (Nat.le_of_ble_eq_true rfl) ?_
                refine z_lv (lv' := [some (.ref x0), some (.ref q0), some (.ref q1), some (.int (nI k)), some (.int (nI (qX S k))), some (.int (nI k)), some (.int (nI (qX S k))), none, none, none, none]) rfl ?_
                refine z_iinc C (nI (k + 1)) dL_changes_331 rfl (zi_1 _) ?_
                refine z_lv (lv' := [some (.ref x0), some (.ref q0), some (.ref q1), some (.int (nI (k + 1))), some (.int (nI (qX S k))), some (.int (nI k)), some (.int (nI (qX S k))), none, none, none, none]) rfl ?_
                refine z_iinc C (nI (k + 1)) dL_changes_334 rfl (zi_1 _) ?_
                refine z_lv (lv' := [some (.ref x0), some (.ref q0), some (.ref q1), some (.int (nI (k + 1))), some (.int (nI (qX S k))), some (.int (nI (k + 1))), some (.int (nI (qX S k))), none, none, none, none]) rfl ?_
                refine z_goto C 278 dL_changes_337 (by decide) ?_
                refine z_kill 6 ?_
                exact ih278 (cnS S 0 - (k + 1)) (by omega) (k + 1) rfl (by omega)
        exact hL278 _ 0 rfl (by omega)
      · have hsx : sN S x < 4 := (sN_e hG (by omega)).2
        have hax : aN S x < 4 := (aN_e hG (by omega)).2
        have hkx : kN S x < 5 := (kN_e hG (by omega)).2
        refine z_aload_n C 0 dL_changes_24 rfl rfl ?_
        refine z_iload C dL_changes_25 rfl ?_
        refine z_iconst C (nI 2) dL_changes_27 (by decide) ?_
        refine z_callVr C kX5_change gL_changes_X5_change (l_chg2 X.2.1 x0 h0 w0 t S x hG h_1) dL_changes_28 [0, 1, 2, 3, 4, 5, 6, 7, 8] [] 0 rfl nd_0_1_2_3_4_5_6_7_8 rfl rfl rfl (by decide) (by decide) (Nat.le_of_ble_eq_true rfl) rfl ?_
        refine z_istore C dL_changes_31 (Nat.le_of_ble_eq_true rfl) ?_
        refine z_lv (lv' := [some (.ref x0), some (.ref q0), some (.ref q1), some (.int (nI 0)), some (.int (nI x)), some (.int (nI (sN S x))), none, none, none, none, none]) rfl ?_
        refine z_aload_n C 0 dL_changes_33 rfl rfl ?_
        refine z_iload C dL_changes_34 rfl ?_
        refine z_iconst C (nI 0) dL_changes_36 (by decide) ?_
        refine z_callVr C kX5_change gL_changes_X5_change (l_chg0 X.2.1 x0 h0 w0 t S x hG h_1) dL_changes_37 [0, 1, 2, 3, 4, 5, 6, 7, 8] [] 0 rfl nd_0_1_2_3_4_5_6_7_8 rfl rfl rfl (by decide) (by decide) (Nat.le_of_ble_eq_true rfl) rfl ?_
        refine z_istore C dL_changes_40 (Nat.le_of_ble_eq_true rfl) ?_
        refine z_lv (lv' := [some (.ref x0), some (.ref q0), some (.ref q1), some (.int (nI 0)), some (.int (nI x)), some (.int (nI (sN S x))), some (.int (nI (kN S x))), none, none, none, none]) rfl ?_
        refine z_iconst C (nI 0) dL_changes_42 (by decide) ?_
        refine z_istore C dL_changes_43 (Nat.le_of_ble_eq_true rfl) ?_
        refine z_lv (lv' := [some (.ref x0), some (.ref q0), some (.ref q1), some (.int (nI 0)), some (.int (nI x)), some (.int (nI (sN S x))), some (.int (nI (kN S x))), some (.int (nI 0)), none, none, none]) rfl ?_
        refine z_iconst C (nI 0) dL_changes_45 (by decide) ?_
        refine z_istore C dL_changes_46 (Nat.le_of_ble_eq_true rfl) ?_
        refine z_lv (lv' := [some (.ref x0), some (.ref q0), some (.ref q1), some (.int (nI 0)), some (.int (nI x)), some (.int (nI (sN S x))), some (.int (nI (kN S x))), some (.int (nI 0)), some (.int (nI 0)), none, none]) rfl ?_
        refine z_aload_n C 1 dL_changes_48 rfl rfl ?_
        refine z_iload C dL_changes_49 rfl ?_
        refine z_dup2 C dL_changes_51 rfl rfl ?_
        refine z_ialdN C 11 dL_changes_52 rfl (by omega) (by decide) ?_
        refine z_top (y := nI (zc (stP S (sN S x)) x)) (rfl) ?_
        refine z_iconst C (nI 1) dL_changes_53 (by decide) ?_
        refine z_iadd C dL_changes_54 ?_
        refine z_top (y := nI ((zc (stP S (sN S x)) x) + 1)) (nI_add _ _) ?_
        refine z_iastX C 11 (f' := stA S (x + 1)) (wn := ((WCd X.2.1 x0 h0 h1 w0 w1 t S o kp ln ps ++ [(q0, .inl (X.2.1.2.2.1, 4, .inl (stA S (x + 1))))]) ++ [(q1, .inl (X.2.1.2.2.1, 16, .inl (byA S x)))])) dL_changes_55 rfl (by omega) (by decide) (stA_up) rfl ?_
        refine z_aload_n C 2 dL_changes_56 rfl rfl ?_
        refine z_iconst C (nI 4) dL_changes_57 (by decide) ?_
        refine z_aload_n C 0 dL_changes_58 rfl rfl ?_
        refine z_iload C dL_changes_59 rfl ?_
        refine z_iconst C (nI 1) dL_changes_61 (by decide) ?_
        refine z_callVr C kX5_change gL_changes_X5_change (l_chg1 X.2.1 x0 h0 w0 t S x hG h_1) dL_changes_62 [0, 1, 2, 3, 4, 5, 6, 7, 8] [.int (nI 4), .ref q1] 0 rfl nd_0_1_2_3_4_5_6_7_8 rfl rfl rfl (by decide) (by decide) (Nat.le_of_ble_eq_true rfl) rfl ?_
        refine z_imul C dL_changes_65 ?_
        refine z_top (y := nI (4 * (aN S x))) (pk_mul _ _) ?_
        refine z_iload C dL_changes_66 rfl ?_
        refine z_iadd C dL_changes_68 ?_
        refine z_top (y := nI ((4 * (aN S x)) + (sN S x))) (nI_add _ _) ?_
        refine z_dup2 C dL_changes_69 rfl rfl ?_
        refine z_ialdN C 12 dL_changes_70 rfl (by omega) (by decide) ?_
        refine z_top (y := nI (zc (ayP S (4 * aN S x + sN S x)) x)) (rfl) ?_
        refine z_iconst C (nI 1) dL_changes_71 (by decide) ?_
        refine z_iadd C dL_changes_72 ?_
        refine z_top (y := nI (zc (ayP S (4 * aN S x + sN S x)) x + 1)) (nI_add _ _) ?_
        refine z_iastX C 12 (f' := byA S (x + 1)) (wn := ((WCd X.2.1 x0 h0 h1 w0 w1 t S o kp ln ps ++ [(q0, .inl (X.2.1.2.2.1, 4, .inl (stA S (x + 1))))]) ++ [(q1, .inl (X.2.1.2.2.1, 16, .inl (byA S (x + 1))))])) dL_changes_73 rfl (by omega) (by decide) (byA_up) rfl ?_
        refine z_iconst C (nI 0) dL_changes_74 (by decide) ?_
        refine z_istore C dL_changes_75 (Nat.le_of_ble_eq_true rfl) ?_
        refine z_lv (lv' := [some (.ref x0), some (.ref q0), some (.ref q1), some (.int (nI 0)), some (.int (nI x)), some (.int (nI (sN S x))), some (.int (nI (kN S x))), some (.int (nI 0)), some (.int (nI 0)), some (.int (nI 0)), none]) rfl ?_
        have hL77 : ∀ (dd77 : Nat) (y : Nat) (bl : Nat) (ab : Nat), mK S - y = dd77 → (y ≤ mK S) → (bl = zc (sup S x) y) → (ab = zc (dpt S x) y) → zG X 2 20 ((WCd X.2.1 x0 h0 h1 w0 w1 t S o kp ln ps ++ [(q0, .inl (X.2.1.2.2.1, 4, .inl (stA S (x + 1))))]) ++ [(q1, .inl (X.2.1.2.2.1, 16, .inl (byA S (x + 1))))]) [some (.ref x0), some (.ref q0), some (.ref q1), some (.int (nI 0)), some (.int (nI x)), some (.int (nI (sN S x))), some (.int (nI (kN S x))), some (.int (nI bl)), some (.int (nI ab)), some (.int (nI y)), none] [] 77 := by
          intro dd77
          induction dd77 using Nat.strongRecOn with
          | _ dd77 ih77 =>
            intro y bl ab hdd77 hyl hbl hab
            have hz1 := zc_le (sup S x) y
            have hz2 := zc_le (dpt S x) y
            refine z_iload C dL_changes_77 rfl ?_
            refine z_aload_n C 0 dL_changes_79 rfl rfl ?_
            refine z_iconst C (nI 0) dL_changes_80 (by decide) ?_
            refine z_callVr C kX5_count gL_changes_X5_count (l_cnt0 X.2.1 x0 h0 h1 w0 w1 t S o kp ln ps  hG ) dL_changes_81 [0, 1, 2, 3, 4, 5, 6, 7, 8, 9, 10] [.int (nI y)] 0 rfl nd_0_1_2_3_4_5_6_7_8_9_10 rfl rfl rfl (by decide) (by decide) (Nat.le_of_ble_eq_true rfl) rfl ?_
            refine z_ncmp_ge C 148 dL_changes_84 (by decide) (by omega) (by omega) (fun h_14 => ?_) (fun h_14 => ?_)
            · obtain rfl : y = mK S := (by omega)
              refine z_aload_n C 0 dL_changes_148 rfl rfl ?_
              refine z_iload C dL_changes_149 rfl ?_
              refine z_bipush C (nI 7) dL_changes_151 (by decide) ?_
              refine z_callVr C kX5_change gL_changes_X5_change (l_chg7 X.2.1 x0 h0 w0 t S x hG h_1) dL_changes_153 [0, 1, 2, 3, 4, 5, 6, 7, 8] [] 0 rfl nd_0_1_2_3_4_5_6_7_8 rfl rfl rfl (by decide) (by decide) (Nat.le_of_ble_eq_true rfl) rfl ?_
              have hg_15 : zc (sup S x) (mK S) ≤ mK S := zc_le _ _
              refine z_iload C dL_changes_156 rfl ?_
              refine z_ncmp_ne_f C 264 dL_changes_158 (by decide) (by omega) (by omega) (by omega) ?_
              refine z_aload_n C 0 dL_changes_161 rfl rfl ?_
              refine z_iload C dL_changes_162 rfl ?_
              refine z_bipush C (nI 8) dL_changes_164 (by decide) ?_
              refine z_callVr C kX5_change gL_changes_X5_change (l_chg8 X.2.1 x0 h0 w0 t S x hG h_1) dL_changes_166 [0, 1, 2, 3, 4, 5, 6, 7, 8] [] 0 rfl nd_0_1_2_3_4_5_6_7_8 rfl rfl rfl (by decide) (by decide) (Nat.le_of_ble_eq_true rfl) rfl ?_
              have hg_16 : zc (dpt S x) (mK S) ≤ mK S := zc_le _ _
              refine z_iload C dL_changes_169 rfl ?_
              refine z_ncmp_ne_f C 264 dL_changes_171 (by decide) (by omega) (by omega) (by omega) ?_
              refine z_iload C dL_changes_174 rfl ?_
              refine z_iconst C (nI 4) dL_changes_176 (by decide) ?_
              refine z_ncmp_ne C 184 dL_changes_177 (by decide) (by omega) (by omega) (fun h_17 => ?_) (fun h_17 => ?_)
              · refine z_iconst C (nI 0) dL_changes_184 (by decide) ?_
                refine z_aload_n C 0 dL_changes_185 rfl rfl ?_
                refine z_iload C dL_changes_186 rfl ?_
                refine z_iconst C (nI 5) dL_changes_188 (by decide) ?_
                refine z_callVr C kX5_change gL_changes_X5_change (l_chg5n X.2.1 x0 h0 w0 t S x hG h_1 h_17) dL_changes_189 [0, 1, 2, 3, 4, 5, 6, 7, 8] [.int (nI 0)] 0 rfl nd_0_1_2_3_4_5_6_7_8 rfl rfl rfl (by decide) (by decide) (Nat.le_of_ble_eq_true rfl) rfl ?_
                refine z_if_lt_t C 199 dL_changes_192 (by decide) (by decide) ?_
                refine z_iconst C (nI 0) dL_changes_199 (by decide) ?_
                refine z_ncmp_ne_f C 264 dL_changes_200 (by decide) (by omega) (by omega) (by omega) ?_
                refine z_iload C dL_changes_203 rfl ?_
                refine z_iconst C (nI 4) dL_changes_205 (by decide) ?_
                refine z_ncmp_ne_t C 218 dL_changes_206 (by decide) (by omega) (by omega) (by omega) ?_
                refine z_iconst C (nI 0) dL_changes_218 (by decide) ?_
                refine z_aload_n C 0 dL_changes_219 rfl rfl ?_
                refine z_iload C dL_changes_220 rfl ?_
                refine z_bipush C (nI 6) dL_changes_222 (by decide) ?_
                refine z_callVr C kX5_change gL_changes_X5_change (l_chg6n X.2.1 x0 h0 w0 t S x hG h_1 h_17) dL_changes_224 [0, 1, 2, 3, 4, 5, 6, 7, 8] [.int (nI 0)] 0 rfl nd_0_1_2_3_4_5_6_7_8 rfl rfl rfl (by decide) (by decide) (Nat.le_of_ble_eq_true rfl) rfl ?_
                refine z_if_lt_t C 234 dL_changes_227 (by decide) (by decide) ?_
                refine z_iconst C (nI 0) dL_changes_234 (by decide) ?_
                refine z_ncmp_ne_f C 264 dL_changes_235 (by decide) (by omega) (by omega) (by omega) ?_
                refine z_aload_n C 0 dL_changes_238 rfl rfl ?_
                refine z_iload C dL_changes_239 rfl ?_
                refine z_bipush C (nI 9) dL_changes_241 (by decide) ?_
                refine z_callVr C kX5_change gL_changes_X5_change (l_chg9 X.2.1 x0 h0 w0 t S x hG h_1) dL_changes_243 [0, 1, 2, 3, 4, 5, 6, 7, 8] [] 0 rfl nd_0_1_2_3_4_5_6_7_8 rfl rfl rfl (by decide) (by decide) (Nat.le_of_ble_eq_true rfl) rfl ?_
                refine z_bipush C (-2) dL_changes_246 (by decide) ?_
                refine z_icmp_ne_f C 264 dL_changes_248 (by decide) rfl ?_
                refine z_aload_n C 0 dL_changes_251 rfl rfl ?_
                refine z_iload C dL_changes_252 rfl ?_
                refine z_iload C dL_changes_254 rfl ?_
                refine z_callVr C kX5_restsOn gL_changes_X5_restsOn (l_restE X.2.1 x0 h0 w0 t S x hG h_1) dL_changes_256 [0, 1, 2, 3, 4, 5, 6, 7, 8] [] 0 rfl nd_0_1_2_3_4_5_6_7_8 rfl rfl rfl (by decide) (by decide) (Nat.le_of_ble_eq_true rfl) rfl ?_
                refine z_bipush C (-2) dL_changes_259 (by decide) ?_
                refine z_icmp_eq_t C 266 dL_changes_261 (by decide) rfl ?_
                refine z_iinc C (nI (x + 1)) dL_changes_266 rfl (zi_1 _) ?_
                refine z_lv (lv' := [some (.ref x0), some (.ref q0), some (.ref q1), some (.int (nI 0)), some (.int (nI (x + 1))), some (.int (nI (sN S x))), some (.int (nI (kN S x))), some (.int (nI bl)), some (.int (nI ab)), some (.int (nI (mK S))), none]) rfl ?_
                refine z_goto C 14 dL_changes_269 (by decide) ?_
                refine z_kill 5 ?_
                refine z_kill 6 ?_
                refine z_kill 7 ?_
                refine z_kill 8 ?_
                refine z_kill 9 ?_
                exact ih14 (mK S - (x + 1)) (by omega) (x + 1) rfl (by omega)
              · refine z_iconst C (nI 1) dL_changes_180 (by decide) ?_
                refine z_goto C 185 dL_changes_181 (by decide) ?_
                have fv_18 : vN S x < 10000 := vN_lt hG (by omega) (by omega)
                refine z_aload_n C 0 dL_changes_185 rfl rfl ?_
                refine z_iload C dL_changes_186 rfl ?_
                refine z_iconst C (nI 5) dL_changes_188 (by decide) ?_
                refine z_callVr C kX5_change gL_changes_X5_change (l_chg5y X.2.1 x0 h0 w0 t S x hG h_1 h_17) dL_changes_189 [0, 1, 2, 3, 4, 5, 6, 7, 8] [.int (nI 1)] 0 rfl nd_0_1_2_3_4_5_6_7_8 rfl rfl rfl (by decide) (by decide) (Nat.le_of_ble_eq_true rfl) rfl ?_
                refine z_nif_lt_f C 199 dL_changes_192 (by decide) (by omega) (by trivial) ?_
                refine z_iconst C (nI 1) dL_changes_195 (by decide) ?_
                refine z_goto C 200 dL_changes_196 (by decide) ?_
                refine z_ncmp_ne_f C 264 dL_changes_200 (by decide) (by omega) (by omega) (by omega) ?_
                refine z_iload C dL_changes_203 rfl ?_
                refine z_iconst C (nI 4) dL_changes_205 (by decide) ?_
                refine z_ncmp_ne_f C 218 dL_changes_206 (by decide) (by omega) (by omega) (by omega) ?_
                refine z_iload C dL_changes_209 rfl ?_
                refine z_nif_ne C 218 dL_changes_211 (by decide) (by omega) (fun h_19 => ?_) (fun h_19 => ?_)
                · refine z_iconst C (nI 0) dL_changes_218 (by decide) ?_
                  refine z_aload_n C 0 dL_changes_219 rfl rfl ?_
                  refine z_iload C dL_changes_220 rfl ?_
                  refine z_bipush C (nI 6) dL_changes_222 (by decide) ?_
                  refine z_callVr C kX5_change gL_changes_X5_change (l_chg6m X.2.1 x0 h0 w0 t S x hG h_1 h_19) dL_changes_224 [0, 1, 2, 3, 4, 5, 6, 7, 8] [.int (nI 0)] 0 rfl nd_0_1_2_3_4_5_6_7_8 rfl rfl rfl (by decide) (by decide) (Nat.le_of_ble_eq_true rfl) rfl ?_
                  refine z_if_lt_t C 234 dL_changes_227 (by decide) (by decide) ?_
                  refine z_iconst C (nI 0) dL_changes_234 (by decide) ?_
                  refine z_ncmp_ne_f C 264 dL_changes_235 (by decide) (by omega) (by omega) (by omega) ?_
                  refine z_aload_n C 0 dL_changes_238 rfl rfl ?_
                  refine z_iload C dL_changes_239 rfl ?_
                  refine z_bipush C (nI 9) dL_changes_241 (by decide) ?_
                  refine z_callVr C kX5_change gL_changes_X5_change (l_chg9 X.2.1 x0 h0 w0 t S x hG h_1) dL_changes_243 [0, 1, 2, 3, 4, 5, 6, 7, 8] [] 0 rfl nd_0_1_2_3_4_5_6_7_8 rfl rfl rfl (by decide) (by decide) (Nat.le_of_ble_eq_true rfl) rfl ?_
                  refine z_bipush C (-2) dL_changes_246 (by decide) ?_
                  refine z_icmp_ne_f C 264 dL_changes_248 (by decide) rfl ?_
                  refine z_aload_n C 0 dL_changes_251 rfl rfl ?_
                  refine z_iload C dL_changes_252 rfl ?_
                  refine z_iload C dL_changes_254 rfl ?_
                  refine z_callVr C kX5_restsOn gL_changes_X5_restsOn (l_restE X.2.1 x0 h0 w0 t S x hG h_1) dL_changes_256 [0, 1, 2, 3, 4, 5, 6, 7, 8] [] 0 rfl nd_0_1_2_3_4_5_6_7_8 rfl rfl rfl (by decide) (by decide) (Nat.le_of_ble_eq_true rfl) rfl ?_
                  refine z_bipush C (-2) dL_changes_259 (by decide) ?_
                  refine z_icmp_eq_t C 266 dL_changes_261 (by decide) rfl ?_
                  refine z_iinc C (nI (x + 1)) dL_changes_266 rfl (zi_1 _) ?_
                  refine z_lv (lv' := [some (.ref x0), some (.ref q0), some (.ref q1), some (.int (nI 0)), some (.int (nI (x + 1))), some (.int (nI (sN S x))), some (.int (nI (kN S x))), some (.int (nI bl)), some (.int (nI ab)), some (.int (nI (mK S))), none]) rfl ?_
                  refine z_goto C 14 dL_changes_269 (by decide) ?_
                  refine z_kill 5 ?_
                  refine z_kill 6 ?_
                  refine z_kill 7 ?_
                  refine z_kill 8 ?_
                  refine z_kill 9 ?_
                  exact ih14 (mK S - (x + 1)) (by omega) (x + 1) rfl (by omega)
                · refine z_iconst C (nI 1) dL_changes_214 (by decide) ?_
                  refine z_goto C 219 dL_changes_215 (by decide) ?_
                  have fv_20 : bN S x < 10000 := (bN_e hG (by omega) (by omega) (by omega)).2
                  refine z_aload_n C 0 dL_changes_219 rfl rfl ?_
                  refine z_iload C dL_changes_220 rfl ?_
                  refine z_bipush C (nI 6) dL_changes_222 (by decide) ?_
                  refine z_callVr C kX5_change gL_changes_X5_change (l_chg6y X.2.1 x0 h0 w0 t S x hG h_1 h_17 h_19) dL_changes_224 [0, 1, 2, 3, 4, 5, 6, 7, 8] [.int (nI 1)] 0 rfl nd_0_1_2_3_4_5_6_7_8 rfl rfl rfl (by decide) (by decide) (Nat.le_of_ble_eq_true rfl) rfl ?_
                  refine z_nif_lt_f C 234 dL_changes_227 (by decide) (by omega) (by trivial) ?_
                  refine z_iconst C (nI 1) dL_changes_230 (by decide) ?_
                  refine z_goto C 235 dL_changes_231 (by decide) ?_
                  refine z_ncmp_ne_f C 264 dL_changes_235 (by decide) (by omega) (by omega) (by omega) ?_
                  refine z_aload_n C 0 dL_changes_238 rfl rfl ?_
                  refine z_iload C dL_changes_239 rfl ?_
                  refine z_bipush C (nI 9) dL_changes_241 (by decide) ?_
                  refine z_callVr C kX5_change gL_changes_X5_change (l_chg9 X.2.1 x0 h0 w0 t S x hG h_1) dL_changes_243 [0, 1, 2, 3, 4, 5, 6, 7, 8] [] 0 rfl nd_0_1_2_3_4_5_6_7_8 rfl rfl rfl (by decide) (by decide) (Nat.le_of_ble_eq_true rfl) rfl ?_
                  refine z_bipush C (-2) dL_changes_246 (by decide) ?_
                  refine z_icmp_ne_f C 264 dL_changes_248 (by decide) rfl ?_
                  refine z_aload_n C 0 dL_changes_251 rfl rfl ?_
                  refine z_iload C dL_changes_252 rfl ?_
                  refine z_iload C dL_changes_254 rfl ?_
                  refine z_callVr C kX5_restsOn gL_changes_X5_restsOn (l_restE X.2.1 x0 h0 w0 t S x hG h_1) dL_changes_256 [0, 1, 2, 3, 4, 5, 6, 7, 8] [] 0 rfl nd_0_1_2_3_4_5_6_7_8 rfl rfl rfl (by decide) (by decide) (Nat.le_of_ble_eq_true rfl) rfl ?_
                  refine z_bipush C (-2) dL_changes_259 (by decide) ?_
                  refine z_icmp_eq_t C 266 dL_changes_261 (by decide) rfl ?_
                  refine z_iinc C (nI (x + 1)) dL_changes_266 rfl (zi_1 _) ?_
                  refine z_lv (lv' := [some (.ref x0), some (.ref q0), some (.ref q1), some (.int (nI 0)), some (.int (nI (x + 1))), some (.int (nI (sN S x))), some (.int (nI (kN S x))), some (.int (nI bl)), some (.int (nI ab)), some (.int (nI (mK S))), none]) rfl ?_
                  refine z_goto C 14 dL_changes_269 (by decide) ?_
                  refine z_kill 5 ?_
                  refine z_kill 6 ?_
                  refine z_kill 7 ?_
                  refine z_kill 8 ?_
                  refine z_kill 9 ?_
                  exact ih14 (mK S - (x + 1)) (by omega) (x + 1) rfl (by omega)
            · refine z_iload C dL_changes_87 rfl ?_
              refine z_iload C dL_changes_89 rfl ?_
              refine z_ncmp_ne C 97 dL_changes_91 (by decide) (by omega) (by omega) (fun h_21 => ?_) (fun h_21 => ?_)
              · refine z_aload_n C 0 dL_changes_97 rfl rfl ?_
                refine z_iload C dL_changes_98 rfl ?_
                refine z_iload C dL_changes_100 rfl ?_
                refine z_callSr C kL_rests gL_changes_L_rests (w_rests X.2.1 x0 h0 w0 t S x y hG h_1 h_14) dL_changes_102 [0, 1, 2, 3, 4, 5, 6, 7, 8] [] rfl nd_0_1_2_3_4_5_6_7_8 rfl (by decide) (by decide) (Nat.le_of_ble_eq_true rfl) rfl ?_
                refine z_istore C dL_changes_105 (Nat.le_of_ble_eq_true rfl) ?_
                refine z_lv (lv' := [some (.ref x0), some (.ref q0), some (.ref q1), some (.int (nI 0)), some (.int (nI x)), some (.int (nI (sN S x))), some (.int (nI (kN S x))), some (.int (nI bl)), some (.int (nI ab)), some (.int (nI y)), some (.int (zb (sup S x y)))]) rfl ?_
                refine z_aload_n C 0 dL_changes_107 rfl rfl ?_
                refine z_iload C dL_changes_108 rfl ?_
                refine z_iload C dL_changes_110 rfl ?_
                refine z_callVr C kX5_restsOn gL_changes_X5_restsOn (l_rest X.2.1 x0 h0 w0 t S x y hG h_1 h_14 (by omega)) dL_changes_112 [0, 1, 2, 3, 4, 5, 6, 7, 8] [] 0 rfl nd_0_1_2_3_4_5_6_7_8 rfl rfl rfl (by decide) (by decide) (Nat.le_of_ble_eq_true rfl) rfl ?_
                refine z_iload C dL_changes_115 rfl ?_
                refine z_icmp_eq_t C 122 dL_changes_117 (by decide) rfl ?_
                refine z_iload C dL_changes_122 rfl ?_
                refine z_iload C dL_changes_124 rfl ?_
                refine z_iadd C dL_changes_126 ?_
                refine z_top (y := nI (bl + (sup S x y).toNat)) (zb_add _ _) ?_
                refine z_istore C dL_changes_127 (Nat.le_of_ble_eq_true rfl) ?_
                refine z_lv (lv' := [some (.ref x0), some (.ref q0), some (.ref q1), some (.int (nI 0)), some (.int (nI x)), some (.int (nI (sN S x))), some (.int (nI (kN S x))), some (.int (nI (bl + (sup S x y).toNat))), some (.int (nI ab)), some (.int (nI y)), some (.int (zb (sup S x y)))]) rfl ?_
                refine z_iload C dL_changes_129 rfl ?_
                refine z_aload_n C 0 dL_changes_131 rfl rfl ?_
                refine z_iload C dL_changes_132 rfl ?_
                refine z_iload C dL_changes_134 rfl ?_
                refine z_callSr C kL_rests gL_changes_L_rests (w_rests X.2.1 x0 h0 w0 t S y x hG h_14 h_1) dL_changes_136 [0, 1, 2, 3, 4, 5, 6, 7, 8] [.int (nI ab)] rfl nd_0_1_2_3_4_5_6_7_8 rfl (by decide) (by decide) (Nat.le_of_ble_eq_true rfl) rfl ?_
                refine z_iadd C dL_changes_139 ?_
                refine z_top (y := nI (ab + (sup S y x).toNat)) (zb_add _ _) ?_
                refine z_istore C dL_changes_140 (Nat.le_of_ble_eq_true rfl) ?_
                refine z_lv (lv' := [some (.ref x0), some (.ref q0), some (.ref q1), some (.int (nI 0)), some (.int (nI x)), some (.int (nI (sN S x))), some (.int (nI (kN S x))), some (.int (nI (bl + (sup S x y).toNat))), some (.int (nI (ab + (sup S y x).toNat))), some (.int (nI y)), some (.int (zb (sup S x y)))]) rfl ?_
                refine z_iinc C (nI (y + 1)) dL_changes_142 rfl (zi_1 _) ?_
                refine z_lv (lv' := [some (.ref x0), some (.ref q0), some (.ref q1), some (.int (nI 0)), some (.int (nI x)), some (.int (nI (sN S x))), some (.int (nI (kN S x))), some (.int (nI (bl + (sup S x y).toNat))), some (.int (nI (ab + (sup S y x).toNat))), some (.int (nI (y + 1))), some (.int (zb (sup S x y)))]) rfl ?_
                refine z_goto C 77 dL_changes_145 (by decide) ?_
                refine z_kill 10 ?_
                exact ih77 (mK S - (y + 1)) (by omega) (y + 1) (bl + (sup S x y).toNat) (ab + (sup S y x).toNat) rfl (by omega) (by first | (rw [zc_b, ← hbl]; done) | exact inc_n (sup_self (by assumption)) hbl) (by first | (rw [zc_b, ← hab]; rfl) | exact inc_n (dpt_self (by assumption)) hab)
              · refine z_goto C 142 dL_changes_94 (by decide) ?_
                refine z_iinc C (nI (y + 1)) dL_changes_142 rfl (zi_1 _) ?_
                refine z_lv (lv' := [some (.ref x0), some (.ref q0), some (.ref q1), some (.int (nI 0)), some (.int (nI x)), some (.int (nI (sN S x))), some (.int (nI (kN S x))), some (.int (nI bl)), some (.int (nI ab)), some (.int (nI (y + 1))), none]) rfl ?_
                refine z_goto C 77 dL_changes_145 (by decide) ?_
                exact ih77 (mK S - (y + 1)) (by omega) (y + 1) bl ab rfl (by omega) (by first | (rw [zc_b, ← hbl]; done) | exact inc_n (sup_self (by assumption)) hbl) (by first | (rw [zc_b, ← hab]; rfl) | exact inc_n (dpt_self (by assumption)) hab)
        exact hL77 _ 0 0 0 rfl (by omega) (rfl) (rfl)
  exact hL14 _ 0 rfl (by omega)
