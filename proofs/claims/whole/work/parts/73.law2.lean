set_option maxHeartbeats 4000000 in
set_option maxRecDepth 100000 in
theorem law_type {X : zX} {kk nn : Nat} (C : zC X kk nn code RL wsL_law 10) {b L : Nat} {xs : Nat → Int32} (La : zLa X b L xs) (hL : L ≤ 2560) (x0 h0 h1 w0 w1 : Nat) (t : Nat → Nat) (r : Nat → Nat → Nat) (a : Nat → Nat) (S : zSt) (o kp : Nat) (Q : Nat → zSt) (tx : Nat → Nat) (ln : Nat) (ps : zPs) (pl : Nat) (gd : Bool) (od : Nat) (sm um : zMs) (Qm : Nat → zMs) (oo : Nat → Int32) (i B : Nat) (hR : RR S sm B) (hH : HH o kp Q Qm B) (hT : TX tx ln) (hB : B < 2147483500) (hi : i + 5 ≤ L) (IH : LI X kk nn b x0 h0 h1 w0 w1 t r a (i + 5) (B + 61)) : zG X kk nn (LWd X.2.1 x0 h0 h1 w0 w1 t r a S o kp Q tx ln ps pl gd od sm um Qm oo kp tx ln) [some (.ref b), some (.ref x0), some (.ref (a 0)), some (.int (nI i))] [] 405 := by
  obtain ⟨c9, hc9, ec9⟩ := law_ch (xs (i + 1))
  obtain ⟨v, tx', ln', m5, m6, hT'⟩ := pr_type X.2.1 x0 h0 w0 w1 a ln pl gd od tx (kp := kp) ps (t 0) c9 hT hc9
  refine z_aload_n C 1 dL_law_405 rfl rfl ?_
  refine z_aload_n C 0 dL_law_406 rfl rfl ?_
  refine z_iload_n C 3 dL_law_407 rfl rfl ?_
  refine z_iconst C (nI 1) dL_law_408 (by decide) ?_
  refine z_iadd C dL_law_409 ?_
  refine z_top (y := nI (i + 1)) (nI_add _ _) ?_
  refine z_sld C La (by omega) (by omega) dL_law_410 ?_
  refine z_i2c C (nI c9) dL_law_411 ec9 ?_
  refine z_callV (wn := LWd X.2.1 x0 h0 h1 w0 w1 t r a S o kp Q tx' ln' ps pl gd od sm um Qm oo kp tx ln) C kX5_type gL_law_X5_type m5 dL_law_412 [0, 51, 52] [] 0 rfl rfl ndL_X rfl rfl rfl (by decide) (by decide) (Nat.le_of_ble_eq_true rfl) rfl ((zput_par ndL_X rfl).trans rfl) ?_
  refine z_aload_n C 2 dL_law_415 rfl rfl ?_
  refine z_aload_n C 0 dL_law_416 rfl rfl ?_
  refine z_iload_n C 3 dL_law_417 rfl rfl ?_
  refine z_iconst C (nI 1) dL_law_418 (by decide) ?_
  refine z_iadd C dL_law_419 ?_
  refine z_top (y := nI (i + 1)) (nI_add _ _) ?_
  refine z_sld C La (by omega) (by omega) dL_law_420 ?_
  refine z_i2c C (nI c9) dL_law_421 ec9 ?_
  refine z_callV (wn := LWd X.2.1 x0 h0 h1 w0 w1 t r a S o kp Q tx' ln' ps pl gd od sm um Qm oo kp tx' ln') C kX6_type gL_law_X6_type m6 dL_law_422 [53, 57] [.int v] 53 rfl rfl ndL_Y rfl rfl rfl (by decide) (by decide) (Nat.le_of_ble_eq_true rfl) rfl ((zput_par ndL_Y rfl).trans rfl) ?_
  refine z_icmp_eq_t C 809 dL_law_425 (by decide) rfl ?_
  refine z_iinc C (nI (i + 5)) dL_law_809 rfl (zi_5 _) ?_
  refine z_goto C 18 dL_law_812 (by decide) ?_
  exact IH S o kp Q tx' ln' ps pl gd od sm um Qm oo (RR_mono hR (by omega)) (HH_mono hH (by omega)) hT'

set_option maxHeartbeats 4000000 in
set_option maxRecDepth 100000 in
theorem law_clearText {X : zX} {kk nn : Nat} (C : zC X kk nn code RL wsL_law 10) {b L : Nat} {xs : Nat → Int32} (La : zLa X b L xs) (hL : L ≤ 2560) (x0 h0 h1 w0 w1 : Nat) (t : Nat → Nat) (r : Nat → Nat → Nat) (a : Nat → Nat) (S : zSt) (o kp : Nat) (Q : Nat → zSt) (tx : Nat → Nat) (ln : Nat) (ps : zPs) (pl : Nat) (gd : Bool) (od : Nat) (sm um : zMs) (Qm : Nat → zMs) (oo : Nat → Int32) (i B : Nat) (hR : RR S sm B) (hH : HH o kp Q Qm B) (hT : TX tx ln) (hB : B < 2147483500) (hi : i + 5 ≤ L) (IH : LI X kk nn b x0 h0 h1 w0 w1 t r a (i + 5) (B + 61)) : zG X kk nn (LWd X.2.1 x0 h0 h1 w0 w1 t r a S o kp Q tx ln ps pl gd od sm um Qm oo kp tx ln) [some (.ref b), some (.ref x0), some (.ref (a 0)), some (.int (nI i))] [] 430 := by
  obtain ⟨m5, m6⟩ := pr_clear X.2.1 x0 h0 w0 w1 a ln pl gd od tx (kp := kp) ps (t 0) hT
  refine z_aload_n C 1 dL_law_430 rfl rfl ?_
  refine z_callV (wn := LWd X.2.1 x0 h0 h1 w0 w1 t r a S o kp Q tx 0 ps pl gd od sm um Qm oo kp tx ln) C kX5_clearText gL_law_X5_clearText m5 dL_law_431 [0, 51, 52] [] 0 rfl rfl ndL_X rfl rfl rfl (by decide) (by decide) (Nat.le_of_ble_eq_true rfl) rfl ((zput_par ndL_X rfl).trans rfl) ?_
  refine z_aload_n C 2 dL_law_434 rfl rfl ?_
  refine z_callV (wn := LWd X.2.1 x0 h0 h1 w0 w1 t r a S o kp Q tx 0 ps pl gd od sm um Qm oo kp tx 0) C kX6_clearText gL_law_X6_clearText m6 dL_law_435 [53, 57] [.int (nI ln)] 53 rfl rfl ndL_Y rfl rfl rfl (by decide) (by decide) (Nat.le_of_ble_eq_true rfl) rfl ((zput_par ndL_Y rfl).trans rfl) ?_
  refine z_icmp_eq_t C 809 dL_law_438 (by decide) rfl ?_
  refine z_iinc C (nI (i + 5)) dL_law_809 rfl (zi_5 _) ?_
  refine z_goto C 18 dL_law_812 (by decide) ?_
  exact IH S o kp Q tx 0 ps pl gd od sm um Qm oo (RR_mono hR (by omega)) (HH_mono hH (by omega)) ⟨Nat.zero_le _, hT.2⟩

set_option maxHeartbeats 4000000 in
set_option maxRecDepth 100000 in
theorem law_run {X : zX} {kk nn : Nat} (C : zC X kk nn code RL wsL_law 10) {b L : Nat} {xs : Nat → Int32} (La : zLa X b L xs) (hL : L ≤ 2560) (x0 h0 h1 w0 w1 : Nat) (t : Nat → Nat) (r : Nat → Nat → Nat) (a : Nat → Nat) (S : zSt) (o kp : Nat) (Q : Nat → zSt) (tx : Nat → Nat) (ln : Nat) (ps : zPs) (pl : Nat) (gd : Bool) (od : Nat) (sm um : zMs) (Qm : Nat → zMs) (oo : Nat → Int32) (i B : Nat) (hR : RR S sm B) (hH : HH o kp Q Qm B) (hT : TX tx ln) (hB : B < 2147483500) (hi : i + 5 ≤ L) (IH : LI X kk nn b x0 h0 h1 w0 w1 t r a (i + 5) (B + 61)) : zG X kk nn (LWd X.2.1 x0 h0 h1 w0 w1 t r a S o kp Q tx ln ps pl gd od sm um Qm oo kp tx ln) [some (.ref b), some (.ref x0), some (.ref (a 0)), some (.int (nI i))] [] 443 := by
  obtain ⟨v, S', o', kp', Q', ps', pl', gd', od', oo', s', u', Qm', m5, m6, hR', hH'⟩ := pr_run X.2.1 x0 h0 h1 w0 w1 t r a ln pl gd od tx oo (u := um) ps hR hH hT hB (xs (i + 1))
  refine z_aload_n C 1 dL_law_443 rfl rfl ?_
  refine z_aload_n C 0 dL_law_444 rfl rfl ?_
  refine z_iload_n C 3 dL_law_445 rfl rfl ?_
  refine z_iconst C (nI 1) dL_law_446 (by decide) ?_
  refine z_iadd C dL_law_447 ?_
  refine z_top (y := nI (i + 1)) (nI_add _ _) ?_
  refine z_sld C La (by omega) (by omega) dL_law_448 ?_
  refine z_callV (wn := LWd X.2.1 x0 h0 h1 w0 w1 t r a S' o' kp' Q' tx ln ps' pl gd od sm um Qm oo kp tx ln) C kX5_run gL_law_X5_run m5 dL_law_449 [0, 1, 2, 3, 4, 5, 6, 7, 8, 9, 10, 11, 12, 13, 14, 15, 16, 17, 18, 19, 20, 21, 22, 23, 24, 25, 26, 27, 28, 29, 30, 31, 32, 33, 34, 35, 36, 37, 38, 39, 40, 41, 42, 43, 44, 45, 46, 47, 48, 49, 50, 51, 52] [] 0 rfl rfl ndL_R rfl rfl rfl (by decide) (by decide) (Nat.le_of_ble_eq_true rfl) rfl ((zput_par ndL_R rfl).trans rfl) ?_
  refine z_aload_n C 2 dL_law_452 rfl rfl ?_
  refine z_aload_n C 0 dL_law_453 rfl rfl ?_
  refine z_iload_n C 3 dL_law_454 rfl rfl ?_
  refine z_iconst C (nI 1) dL_law_455 (by decide) ?_
  refine z_iadd C dL_law_456 ?_
  refine z_top (y := nI (i + 1)) (nI_add _ _) ?_
  refine z_sld C La (by omega) (by omega) dL_law_457 ?_
  refine z_callV (wn := LWd X.2.1 x0 h0 h1 w0 w1 t r a S' o' kp' Q' tx ln ps' pl' gd' od' s' u' Qm' oo' kp' tx ln) C kX6_run gL_law_X6_run m6 dL_law_458 [53, 54, 55, 56, 57, 58] [.int v] 53 rfl rfl ndL_N rfl rfl rfl (by decide) (by decide) (Nat.le_of_ble_eq_true rfl) rfl ((zput_par ndL_N rfl).trans rfl) ?_
  refine z_icmp_eq_t C 809 dL_law_461 (by decide) rfl ?_
  refine z_iinc C (nI (i + 5)) dL_law_809 rfl (zi_5 _) ?_
  refine z_goto C 18 dL_law_812 (by decide) ?_
  exact IH S' o' kp' Q' tx ln ps' pl' gd' od' s' u' Qm' oo' hR' hH' hT

set_option maxHeartbeats 4000000 in
set_option maxRecDepth 100000 in
theorem law_undo {X : zX} {kk nn : Nat} (C : zC X kk nn code RL wsL_law 10) {b L : Nat} {xs : Nat → Int32} (La : zLa X b L xs) (hL : L ≤ 2560) (x0 h0 h1 w0 w1 : Nat) (t : Nat → Nat) (r : Nat → Nat → Nat) (a : Nat → Nat) (S : zSt) (o kp : Nat) (Q : Nat → zSt) (tx : Nat → Nat) (ln : Nat) (ps : zPs) (pl : Nat) (gd : Bool) (od : Nat) (sm um : zMs) (Qm : Nat → zMs) (oo : Nat → Int32) (i B : Nat) (hR : RR S sm B) (hH : HH o kp Q Qm B) (hT : TX tx ln) (hB : B < 2147483500) (hi : i + 5 ≤ L) (IH : LI X kk nn b x0 h0 h1 w0 w1 t r a (i + 5) (B + 61)) : zG X kk nn (LWd X.2.1 x0 h0 h1 w0 w1 t r a S o kp Q tx ln ps pl gd od sm um Qm oo kp tx ln) [some (.ref b), some (.ref x0), some (.ref (a 0)), some (.int (nI i))] [] 466 := by
  obtain ⟨v, S', o', kp', Q', s', u', Qm', m5, m6, hR', hH'⟩ := pr_undo X.2.1 x0 h0 h1 w0 t r a ln pl gd od (u := um) hR hH 
  refine z_aload_n C 1 dL_law_466 rfl rfl ?_
  refine z_callV (wn := LWd X.2.1 x0 h0 h1 w0 w1 t r a S' o' kp' Q' tx ln ps pl gd od sm um Qm oo kp tx ln) C kX5_undo gL_law_X5_undo m5 dL_law_467 [0, 1, 2, 3, 4, 5, 6, 7, 8, 9, 10, 11, 12, 13, 14, 15, 16, 17, 18, 19, 20, 21, 22, 23, 24, 25, 26, 27, 28, 29, 30, 31, 32, 33, 34, 35, 36, 37, 38, 39, 40, 41, 42, 43, 44, 45, 46, 47, 48, 49, 50] [] 0 rfl rfl ndL_A rfl rfl rfl (by decide) (by decide) (Nat.le_of_ble_eq_true rfl) rfl ((zput_par ndL_A rfl).trans rfl) ?_
  refine z_aload_n C 2 dL_law_470 rfl rfl ?_
  refine z_callV (wn := LWd X.2.1 x0 h0 h1 w0 w1 t r a S' o' kp' Q' tx ln ps pl gd od s' u' Qm' oo kp' tx ln) C kX6_undo gL_law_X6_undo m6 dL_law_471 [53, 54, 55, 56] [.int v] 53 rfl rfl ndL_9 rfl rfl rfl (by decide) (by decide) (Nat.le_of_ble_eq_true rfl) rfl ((zput_par ndL_9 rfl).trans rfl) ?_
  refine z_icmp_eq_t C 809 dL_law_474 (by decide) rfl ?_
  refine z_iinc C (nI (i + 5)) dL_law_809 rfl (zi_5 _) ?_
  refine z_goto C 18 dL_law_812 (by decide) ?_
  exact IH S' o' kp' Q' tx ln ps pl gd od s' u' Qm' oo hR' hH' hT

set_option maxHeartbeats 4000000 in
set_option maxRecDepth 100000 in
theorem law_size {X : zX} {kk nn : Nat} (C : zC X kk nn code RL wsL_law 10) {b L : Nat} {xs : Nat → Int32} (La : zLa X b L xs) (hL : L ≤ 2560) (x0 h0 h1 w0 w1 : Nat) (t : Nat → Nat) (r : Nat → Nat → Nat) (a : Nat → Nat) (S : zSt) (o kp : Nat) (Q : Nat → zSt) (tx : Nat → Nat) (ln : Nat) (ps : zPs) (pl : Nat) (gd : Bool) (od : Nat) (sm um : zMs) (Qm : Nat → zMs) (oo : Nat → Int32) (i B : Nat) (hR : RR S sm B) (hH : HH o kp Q Qm B) (hT : TX tx ln) (hB : B < 2147483500) (hi : i + 5 ≤ L) (IH : LI X kk nn b x0 h0 h1 w0 w1 t r a (i + 5) (B + 61)) : zG X kk nn (LWd X.2.1 x0 h0 h1 w0 w1 t r a S o kp Q tx ln ps pl gd od sm um Qm oo kp tx ln) [some (.ref b), some (.ref x0), some (.ref (a 0)), some (.int (nI i))] [] 479 := by
  obtain ⟨v, m5, m6⟩ := pr_size X.2.1 x0 h0 w0 t a kp ln pl gd od hR (xs (i + 1)) (xs (i + 2))
  refine z_aload_n C 1 dL_law_479 rfl rfl ?_
  refine z_aload_n C 0 dL_law_480 rfl rfl ?_
  refine z_iload_n C 3 dL_law_481 rfl rfl ?_
  refine z_iconst C (nI 1) dL_law_482 (by decide) ?_
  refine z_iadd C dL_law_483 ?_
  refine z_top (y := nI (i + 1)) (nI_add _ _) ?_
  refine z_sld C La (by omega) (by omega) dL_law_484 ?_
  refine z_aload_n C 0 dL_law_485 rfl rfl ?_
  refine z_iload_n C 3 dL_law_486 rfl rfl ?_
  refine z_iconst C (nI 2) dL_law_487 (by decide) ?_
  refine z_iadd C dL_law_488 ?_
  refine z_top (y := nI (i + 2)) (nI_add _ _) ?_
  refine z_sld C La (by omega) (by omega) dL_law_489 ?_
  refine z_callVr C kX5_size gL_law_X5_size m5 dL_law_490 [0, 1, 2, 3, 4, 5, 6, 7, 8] [] 0 rfl ndL_T rfl rfl rfl (by decide) (by decide) (Nat.le_of_ble_eq_true rfl) rfl ?_
  refine z_aload_n C 2 dL_law_493 rfl rfl ?_
  refine z_aload_n C 0 dL_law_494 rfl rfl ?_
  refine z_iload_n C 3 dL_law_495 rfl rfl ?_
  refine z_iconst C (nI 1) dL_law_496 (by decide) ?_
  refine z_iadd C dL_law_497 ?_
  refine z_top (y := nI (i + 1)) (nI_add _ _) ?_
  refine z_sld C La (by omega) (by omega) dL_law_498 ?_
  refine z_aload_n C 0 dL_law_499 rfl rfl ?_
  refine z_iload_n C 3 dL_law_500 rfl rfl ?_
  refine z_iconst C (nI 2) dL_law_501 (by decide) ?_
  refine z_iadd C dL_law_502 ?_
  refine z_top (y := nI (i + 2)) (nI_add _ _) ?_
  refine z_sld C La (by omega) (by omega) dL_law_503 ?_
  refine z_callVr C kX6_size gL_law_X6_size m6 dL_law_504 [53, 54] [.int v] 53 rfl ndL_M rfl rfl rfl (by decide) (by decide) (Nat.le_of_ble_eq_true rfl) rfl ?_
  refine z_icmp_eq_t C 809 dL_law_507 (by decide) rfl ?_
  refine z_iinc C (nI (i + 5)) dL_law_809 rfl (zi_5 _) ?_
  refine z_goto C 18 dL_law_812 (by decide) ?_
  exact IH S o kp Q tx ln ps pl gd od sm um Qm oo (RR_mono hR (by omega)) (HH_mono hH (by omega)) hT

set_option maxHeartbeats 4000000 in
set_option maxRecDepth 100000 in
theorem law_cell {X : zX} {kk nn : Nat} (C : zC X kk nn code RL wsL_law 10) {b L : Nat} {xs : Nat → Int32} (La : zLa X b L xs) (hL : L ≤ 2560) (x0 h0 h1 w0 w1 : Nat) (t : Nat → Nat) (r : Nat → Nat → Nat) (a : Nat → Nat) (S : zSt) (o kp : Nat) (Q : Nat → zSt) (tx : Nat → Nat) (ln : Nat) (ps : zPs) (pl : Nat) (gd : Bool) (od : Nat) (sm um : zMs) (Qm : Nat → zMs) (oo : Nat → Int32) (i B : Nat) (hR : RR S sm B) (hH : HH o kp Q Qm B) (hT : TX tx ln) (hB : B < 2147483500) (hi : i + 5 ≤ L) (IH : LI X kk nn b x0 h0 h1 w0 w1 t r a (i + 5) (B + 61)) : zG X kk nn (LWd X.2.1 x0 h0 h1 w0 w1 t r a S o kp Q tx ln ps pl gd od sm um Qm oo kp tx ln) [some (.ref b), some (.ref x0), some (.ref (a 0)), some (.int (nI i))] [] 512 := by
  obtain ⟨v, m5, m6⟩ := pr_cell X.2.1 x0 h0 w0 t a kp ln pl gd od hR (xs (i + 1)) (xs (i + 2)) (xs (i + 3))
  refine z_aload_n C 1 dL_law_512 rfl rfl ?_
  refine z_aload_n C 0 dL_law_513 rfl rfl ?_
  refine z_iload_n C 3 dL_law_514 rfl rfl ?_
  refine z_iconst C (nI 1) dL_law_515 (by decide) ?_
  refine z_iadd C dL_law_516 ?_
  refine z_top (y := nI (i + 1)) (nI_add _ _) ?_
  refine z_sld C La (by omega) (by omega) dL_law_517 ?_
  refine z_aload_n C 0 dL_law_518 rfl rfl ?_
  refine z_iload_n C 3 dL_law_519 rfl rfl ?_
  refine z_iconst C (nI 2) dL_law_520 (by decide) ?_
  refine z_iadd C dL_law_521 ?_
  refine z_top (y := nI (i + 2)) (nI_add _ _) ?_
  refine z_sld C La (by omega) (by omega) dL_law_522 ?_
  refine z_aload_n C 0 dL_law_523 rfl rfl ?_
  refine z_iload_n C 3 dL_law_524 rfl rfl ?_
  refine z_iconst C (nI 3) dL_law_525 (by decide) ?_
  refine z_iadd C dL_law_526 ?_
  refine z_top (y := nI (i + 3)) (nI_add _ _) ?_
  refine z_sld C La (by omega) (by omega) dL_law_527 ?_
  refine z_callVr C kX5_cell gL_law_X5_cell m5 dL_law_528 [0, 1, 2, 3, 4, 5, 6, 7, 8] [] 0 rfl ndL_T rfl rfl rfl (by decide) (by decide) (Nat.le_of_ble_eq_true rfl) rfl ?_
  refine z_aload_n C 2 dL_law_531 rfl rfl ?_
  refine z_aload_n C 0 dL_law_532 rfl rfl ?_
  refine z_iload_n C 3 dL_law_533 rfl rfl ?_
  refine z_iconst C (nI 1) dL_law_534 (by decide) ?_
  refine z_iadd C dL_law_535 ?_
  refine z_top (y := nI (i + 1)) (nI_add _ _) ?_
  refine z_sld C La (by omega) (by omega) dL_law_536 ?_
  refine z_aload_n C 0 dL_law_537 rfl rfl ?_
  refine z_iload_n C 3 dL_law_538 rfl rfl ?_
  refine z_iconst C (nI 2) dL_law_539 (by decide) ?_
  refine z_iadd C dL_law_540 ?_
  refine z_top (y := nI (i + 2)) (nI_add _ _) ?_
  refine z_sld C La (by omega) (by omega) dL_law_541 ?_
  refine z_aload_n C 0 dL_law_542 rfl rfl ?_
  refine z_iload_n C 3 dL_law_543 rfl rfl ?_
  refine z_iconst C (nI 3) dL_law_544 (by decide) ?_
  refine z_iadd C dL_law_545 ?_
  refine z_top (y := nI (i + 3)) (nI_add _ _) ?_
  refine z_sld C La (by omega) (by omega) dL_law_546 ?_
  refine z_callVr C kX6_cell gL_law_X6_cell m6 dL_law_547 [53, 54] [.int v] 53 rfl ndL_M rfl rfl rfl (by decide) (by decide) (Nat.le_of_ble_eq_true rfl) rfl ?_
  refine z_icmp_eq_t C 809 dL_law_550 (by decide) rfl ?_
  refine z_iinc C (nI (i + 5)) dL_law_809 rfl (zi_5 _) ?_
  refine z_goto C 18 dL_law_812 (by decide) ?_
  exact IH S o kp Q tx ln ps pl gd od sm um Qm oo (RR_mono hR (by omega)) (HH_mono hH (by omega)) hT

set_option maxHeartbeats 4000000 in
set_option maxRecDepth 100000 in
theorem law_line {X : zX} {kk nn : Nat} (C : zC X kk nn code RL wsL_law 10) {b L : Nat} {xs : Nat → Int32} (La : zLa X b L xs) (hL : L ≤ 2560) (x0 h0 h1 w0 w1 : Nat) (t : Nat → Nat) (r : Nat → Nat → Nat) (a : Nat → Nat) (S : zSt) (o kp : Nat) (Q : Nat → zSt) (tx : Nat → Nat) (ln : Nat) (ps : zPs) (pl : Nat) (gd : Bool) (od : Nat) (sm um : zMs) (Qm : Nat → zMs) (oo : Nat → Int32) (i B : Nat) (hR : RR S sm B) (hH : HH o kp Q Qm B) (hT : TX tx ln) (hB : B < 2147483500) (hi : i + 5 ≤ L) (IH : LI X kk nn b x0 h0 h1 w0 w1 t r a (i + 5) (B + 61)) : zG X kk nn (LWd X.2.1 x0 h0 h1 w0 w1 t r a S o kp Q tx ln ps pl gd od sm um Qm oo kp tx ln) [some (.ref b), some (.ref x0), some (.ref (a 0)), some (.int (nI i))] [] 555 := by
  obtain ⟨v, m5, m6⟩ := pr_line X.2.1 x0 h0 w0 t a kp ln pl gd od hR (xs (i + 1)) (xs (i + 2)) (xs (i + 3))
  refine z_aload_n C 1 dL_law_555 rfl rfl ?_
  refine z_aload_n C 0 dL_law_556 rfl rfl ?_
  refine z_iload_n C 3 dL_law_557 rfl rfl ?_
  refine z_iconst C (nI 1) dL_law_558 (by decide) ?_
  refine z_iadd C dL_law_559 ?_
  refine z_top (y := nI (i + 1)) (nI_add _ _) ?_
  refine z_sld C La (by omega) (by omega) dL_law_560 ?_
  refine z_aload_n C 0 dL_law_561 rfl rfl ?_
  refine z_iload_n C 3 dL_law_562 rfl rfl ?_
  refine z_iconst C (nI 2) dL_law_563 (by decide) ?_
  refine z_iadd C dL_law_564 ?_
  refine z_top (y := nI (i + 2)) (nI_add _ _) ?_
  refine z_sld C La (by omega) (by omega) dL_law_565 ?_
  refine z_aload_n C 0 dL_law_566 rfl rfl ?_
  refine z_iload_n C 3 dL_law_567 rfl rfl ?_
  refine z_iconst C (nI 3) dL_law_568 (by decide) ?_
  refine z_iadd C dL_law_569 ?_
  refine z_top (y := nI (i + 3)) (nI_add _ _) ?_
  refine z_sld C La (by omega) (by omega) dL_law_570 ?_
  refine z_callVr C kX5_line gL_law_X5_line m5 dL_law_571 [0, 1, 2, 3, 4, 5, 6, 7, 8] [] 0 rfl ndL_T rfl rfl rfl (by decide) (by decide) (Nat.le_of_ble_eq_true rfl) rfl ?_
  refine z_aload_n C 2 dL_law_574 rfl rfl ?_
  refine z_aload_n C 0 dL_law_575 rfl rfl ?_
  refine z_iload_n C 3 dL_law_576 rfl rfl ?_
  refine z_iconst C (nI 1) dL_law_577 (by decide) ?_
  refine z_iadd C dL_law_578 ?_
  refine z_top (y := nI (i + 1)) (nI_add _ _) ?_
  refine z_sld C La (by omega) (by omega) dL_law_579 ?_
  refine z_aload_n C 0 dL_law_580 rfl rfl ?_
  refine z_iload_n C 3 dL_law_581 rfl rfl ?_
  refine z_iconst C (nI 2) dL_law_582 (by decide) ?_
  refine z_iadd C dL_law_583 ?_
  refine z_top (y := nI (i + 2)) (nI_add _ _) ?_
  refine z_sld C La (by omega) (by omega) dL_law_584 ?_
  refine z_aload_n C 0 dL_law_585 rfl rfl ?_
  refine z_iload_n C 3 dL_law_586 rfl rfl ?_
  refine z_iconst C (nI 3) dL_law_587 (by decide) ?_
  refine z_iadd C dL_law_588 ?_
  refine z_top (y := nI (i + 3)) (nI_add _ _) ?_
  refine z_sld C La (by omega) (by omega) dL_law_589 ?_
  refine z_callVr C kX6_line gL_law_X6_line m6 dL_law_590 [53, 54] [.int v] 53 rfl ndL_M rfl rfl rfl (by decide) (by decide) (Nat.le_of_ble_eq_true rfl) rfl ?_
  refine z_icmp_eq_t C 809 dL_law_593 (by decide) rfl ?_
  refine z_iinc C (nI (i + 5)) dL_law_809 rfl (zi_5 _) ?_
  refine z_goto C 18 dL_law_812 (by decide) ?_
  exact IH S o kp Q tx ln ps pl gd od sm um Qm oo (RR_mono hR (by omega)) (HH_mono hH (by omega)) hT
