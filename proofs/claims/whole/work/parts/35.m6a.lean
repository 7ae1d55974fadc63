theorem kX6_in : zY yX6_in wsX6_in cX6_in 3 (some .boolean) 3 := ⟨⟨_, rfl⟩, ⟨by decide +kernel, by decide +kernel, by decide +kernel⟩, by decide +kernel⟩
set_option maxHeartbeats 4000000 in
set_option maxRecDepth 100000 in
theorem mX6_in_y (E : zE) (x m : Nat) (hx : x ≤ m) (hm : m < 100000) : zM E yX6_in wsX6_in 0 [.int (nI x), .int (nI 0), .int (nI m)] [] [] (some (.int (zb true))) := by
  refine zM.of kX6_in (Nat.le_of_ble_eq_true rfl) rfl [some (.int (nI x)), some (.int (nI 0)), some (.int (nI m))] rfl (Nat.le_of_ble_eq_true rfl) ?_
  intro X eX C N
  subst eX
  refine z_iload_n C 0 dX6_in_0 rfl rfl ?_
  refine z_iload_n C 1 dX6_in_1 rfl rfl ?_
  refine z_ncmp_lt_f C 14 dX6_in_2 (by decide) (by omega) (by omega) (by omega) ?_
  refine z_iload_n C 0 dX6_in_5 rfl rfl ?_
  refine z_iload_n C 2 dX6_in_6 rfl rfl ?_
  refine z_ncmp_gt_f C 14 dX6_in_7 (by decide) (by omega) (by omega) (by omega) ?_
  refine z_iconst C (nI 1) dX6_in_10 (by decide) ?_
  refine z_goto C 15 dX6_in_11 (by decide) ?_
  exact z_zret C N dX6_in_15 rfl (rfl) (rfl)

set_option maxHeartbeats 4000000 in
set_option maxRecDepth 100000 in
theorem mX6_in_1 (E : zE) (x m : Nat) (hx1 : 1 ≤ x) (hx : x ≤ m) (hm : m < 100000) : zM E yX6_in wsX6_in 0 [.int (nI x), .int (nI 1), .int (nI m)] [] [] (some (.int (zb true))) := by
  refine zM.of kX6_in (Nat.le_of_ble_eq_true rfl) rfl [some (.int (nI x)), some (.int (nI 1)), some (.int (nI m))] rfl (Nat.le_of_ble_eq_true rfl) ?_
  intro X eX C N
  subst eX
  refine z_iload_n C 0 dX6_in_0 rfl rfl ?_
  refine z_iload_n C 1 dX6_in_1 rfl rfl ?_
  refine z_ncmp_lt_f C 14 dX6_in_2 (by decide) (by omega) (by omega) (by omega) ?_
  refine z_iload_n C 0 dX6_in_5 rfl rfl ?_
  refine z_iload_n C 2 dX6_in_6 rfl rfl ?_
  refine z_ncmp_gt_f C 14 dX6_in_7 (by decide) (by omega) (by omega) (by omega) ?_
  refine z_iconst C (nI 1) dX6_in_10 (by decide) ?_
  refine z_goto C 15 dX6_in_11 (by decide) ?_
  exact z_zret C N dX6_in_15 rfl (rfl) (rfl)

set_option maxHeartbeats 4000000 in
set_option maxRecDepth 100000 in
theorem mX6_in_n (E : zE) (x : Int32) (m : Nat) (hx : x < 0 ∨ (¬ x < 0 ∧ nI m < x)) : zM E yX6_in wsX6_in 0 [.int x, .int (nI 0), .int (nI m)] [] [] (some (.int (zb false))) := by
  refine zM.of kX6_in (Nat.le_of_ble_eq_true rfl) rfl [some (.int x), some (.int (nI 0)), some (.int (nI m))] rfl (Nat.le_of_ble_eq_true rfl) ?_
  intro X eX C N
  subst eX
  rcases hx with hx | ⟨hx0, hx1⟩
  · refine z_iload_n C 0 dX6_in_0 rfl rfl ?_
    refine z_iload_n C 1 dX6_in_1 rfl rfl ?_
    refine z_icmp_lt_t C 14 dX6_in_2 (by decide) hx ?_
    refine z_iconst C (nI 0) dX6_in_14 (by decide) ?_
    exact z_zret C N dX6_in_15 rfl (rfl) (rfl)
  · refine z_iload_n C 0 dX6_in_0 rfl rfl ?_
    refine z_iload_n C 1 dX6_in_1 rfl rfl ?_
    refine z_icmp_lt_f C 14 dX6_in_2 (by decide) hx0 ?_
    refine z_iload_n C 0 dX6_in_5 rfl rfl ?_
    refine z_iload_n C 2 dX6_in_6 rfl rfl ?_
    refine z_icmp_gt_t C 14 dX6_in_7 (by decide) hx1 ?_
    refine z_iconst C (nI 0) dX6_in_14 (by decide) ?_
    exact z_zret C N dX6_in_15 rfl (rfl) (rfl)

set_option maxHeartbeats 4000000 in
set_option maxRecDepth 100000 in
theorem mX6_in_n1 (E : zE) (x : Int32) (m : Nat) (hxo : x < nI 1 ∨ (¬ x < nI 1 ∧ nI m < x)) : zM E yX6_in wsX6_in 0 [.int x, .int (nI 1), .int (nI m)] [] [] (some (.int (zb false))) := by
  refine zM.of kX6_in (Nat.le_of_ble_eq_true rfl) rfl [some (.int x), some (.int (nI 1)), some (.int (nI m))] rfl (Nat.le_of_ble_eq_true rfl) ?_
  intro X eX C N
  subst eX
  rcases hxo with hxo | ⟨hxo0, hxo1⟩
  · refine z_iload_n C 0 dX6_in_0 rfl rfl ?_
    refine z_iload_n C 1 dX6_in_1 rfl rfl ?_
    refine z_icmp_lt_t C 14 dX6_in_2 (by decide) hxo ?_
    refine z_iconst C (nI 0) dX6_in_14 (by decide) ?_
    exact z_zret C N dX6_in_15 rfl (rfl) (rfl)
  · refine z_iload_n C 0 dX6_in_0 rfl rfl ?_
    refine z_iload_n C 1 dX6_in_1 rfl rfl ?_
    refine z_icmp_lt_f C 14 dX6_in_2 (by decide) hxo0 ?_
    refine z_iload_n C 0 dX6_in_5 rfl rfl ?_
    refine z_iload_n C 2 dX6_in_6 rfl rfl ?_
    refine z_icmp_gt_t C 14 dX6_in_7 (by decide) hxo1 ?_
    refine z_iconst C (nI 0) dX6_in_14 (by decide) ?_
    exact z_zret C N dX6_in_15 rfl (rfl) (rfl)

set_option maxHeartbeats 4000000 in
set_option maxRecDepth 100000 in
theorem mX6_in_m (E : zE) (x : Int32) (M : Nat) (hM : M < 100000) (hx : x < 0 ∨ (¬ x < 0 ∧ nI M ≤ x)) : zM E yX6_in wsX6_in 0 [.int x, .int (nI 0), .int (nI M + (-1))] [] [] (some (.int (zb false))) := by
  refine zM.of kX6_in (Nat.le_of_ble_eq_true rfl) rfl [some (.int x), some (.int (nI 0)), some (.int (nI M + (-1)))] rfl (Nat.le_of_ble_eq_true rfl) ?_
  intro X eX C N
  subst eX
  rcases hx with hx | ⟨hx0, hx1⟩
  · refine z_iload_n C 0 dX6_in_0 rfl rfl ?_
    refine z_iload_n C 1 dX6_in_1 rfl rfl ?_
    refine z_icmp_lt_t C 14 dX6_in_2 (by decide) hx ?_
    refine z_iconst C (nI 0) dX6_in_14 (by decide) ?_
    exact z_zret C N dX6_in_15 rfl (rfl) (rfl)
  · refine z_iload_n C 0 dX6_in_0 rfl rfl ?_
    refine z_iload_n C 1 dX6_in_1 rfl rfl ?_
    refine z_icmp_lt_f C 14 dX6_in_2 (by decide) hx0 ?_
    refine z_iload_n C 0 dX6_in_5 rfl rfl ?_
    refine z_iload_n C 2 dX6_in_6 rfl rfl ?_
    refine z_icmp_gt_t C 14 dX6_in_7 (by decide) (z_m1lt hM hx1) ?_
    refine z_iconst C (nI 0) dX6_in_14 (by decide) ?_
    exact z_zret C N dX6_in_15 rfl (rfl) (rfl)

theorem kX6_noAuthor : zY yX6_noAuthor wsX6_noAuthor cX6_noAuthor 1 (some .boolean) 1 := ⟨⟨_, rfl⟩, ⟨by decide +kernel, by decide +kernel, by decide +kernel⟩, by decide +kernel⟩
set_option maxHeartbeats 4000000 in
set_option maxRecDepth 100000 in
theorem mX6_noAuthor_y (E : zE) (x : Nat) (hx : x < 4) : zM E yX6_noAuthor wsX6_noAuthor 1 [.int (nI x)] [] [] (some (.int (zb false))) := by
  refine zM.of kX6_noAuthor (Nat.le_of_ble_eq_true rfl) rfl [some (.int (nI x))] rfl (Nat.le_of_ble_eq_true rfl) ?_
  intro X eX C N
  subst eX
  refine z_iload_n C 0 dX6_noAuthor_0 rfl rfl ?_
  refine z_iconst C (nI 0) dX6_noAuthor_1 (by decide) ?_
  refine z_iconst C (nI 3) dX6_noAuthor_2 (by decide) ?_
  refine z_callS C kX6_in gX6_noAuthor_X6_in (mX6_in_y X.2.1 x 3 (by first | assumption | omega) (by first | assumption | omega)) dX6_noAuthor_3 [] rfl (by decide) (by decide) (Nat.le_of_ble_eq_true rfl) rfl ?_
  refine z_bif_ne_t C 13 dX6_noAuthor_6 (by decide) rfl ?_
  refine z_iconst C (nI 0) dX6_noAuthor_13 (by decide) ?_
  exact z_zret C N dX6_noAuthor_14 rfl (rfl) (rfl)

set_option maxHeartbeats 4000000 in
set_option maxRecDepth 100000 in
theorem mX6_noAuthor_n (E : zE) (x : Int32) (hx : x < 0 ∨ (¬ x < 0 ∧ nI 4 ≤ x)) : zM E yX6_noAuthor wsX6_noAuthor 1 [.int x] [] [] (some (.int (zb true))) := by
  refine zM.of kX6_noAuthor (Nat.le_of_ble_eq_true rfl) rfl [some (.int x)] rfl (Nat.le_of_ble_eq_true rfl) ?_
  intro X eX C N
  subst eX
  refine z_iload_n C 0 dX6_noAuthor_0 rfl rfl ?_
  refine z_iconst C (nI 0) dX6_noAuthor_1 (by decide) ?_
  refine z_iconst C (nI 3) dX6_noAuthor_2 (by decide) ?_
  refine z_callS C kX6_in gX6_noAuthor_X6_in (mX6_in_n X.2.1 x 3 (z_lt1 (n := 3) (by decide) hx)) dX6_noAuthor_3 [] rfl (by decide) (by decide) (Nat.le_of_ble_eq_true rfl) rfl ?_
  refine z_bif_ne_f C 13 dX6_noAuthor_6 (by decide) rfl ?_
  refine z_iconst C (nI 1) dX6_noAuthor_9 (by decide) ?_
  refine z_goto C 14 dX6_noAuthor_10 (by decide) ?_
  exact z_zret C N dX6_noAuthor_14 rfl (rfl) (rfl)

theorem kX6_many : zY yX6_many wsX6_many cX6_many 2 (some .int) 1 := ⟨⟨_, rfl⟩, ⟨by decide +kernel, by decide +kernel, by decide +kernel⟩, by decide +kernel⟩
theorem fX6_many_7 : zF wsX6_many RX6 7 6 0 RX6 TX6 10 := ⟨by decide +kernel, rfl, by decide, by decide +kernel, rfl⟩
set_option maxHeartbeats 4000000 in
set_option maxRecDepth 100000 in
theorem mX6_many_0 (E : zE) (a : Nat → Nat) (kp ty pl : Nat) (gd : Bool) (od : Nat) (vU vS : Nat → Nat) (vN : Nat → Int32) (vX vM : Nat) (vT : Bool) (vB vK vY vZ vR vC vV : Nat → Int32)   : zM E yX6_many wsX6_many 0 [.ref (a 0), .int (nI 0)] [((a 0), .inr (6, [.ref (a 1), .ref (a 2), .ref (a 3), .int (nI kp), .int (nI ty), .ref (a 4), .int (nI pl), .int (zb gd), .int (nI od), .ref (a 5)])), ((a 1), .inl (E.2.2.1, 512, .inl (mRow vU vS vN vX vM vT vB vK vY vZ vR vC vV)))] [((a 0), .inr (6, [.ref (a 1), .ref (a 2), .ref (a 3), .int (nI kp), .int (nI ty), .ref (a 4), .int (nI pl), .int (zb gd), .int (nI od), .ref (a 5)])), ((a 1), .inl (E.2.2.1, 512, .inl (mRow vU vS vN vX vM vT vB vK vY vZ vR vC vV)))] (some (.int (nI (vU 0)))) := by
  refine zM.of kX6_many (Nat.le_of_ble_eq_true rfl) rfl [some (.ref (a 0)), some (.int (nI 0))] rfl (Nat.le_of_ble_eq_true rfl) ?_
  intro X eX C N
  subst eX
  refine z_aload_n C 0 dX6_many_0 rfl rfl ?_
  refine z_get C fX6_many_7 0 dX6_many_1 rfl rfl ?_
  refine z_iconst C (nI 0) dX6_many_4 (by decide) ?_
  refine z_iload_n C 1 dX6_many_5 rfl rfl ?_
  refine z_iadd C dX6_many_6 ?_
  refine z_top (y := nI 0) (nI_add _ _) ?_
  refine z_ialdN C 1 dX6_many_7 rfl (by omega) (by decide) ?_
  refine z_top (y := nI (vU 0)) ((congrArg (mRow vU vS vN vX vM vT vB vK vY vZ vR vC vV) (show 0 = 0 + (0) by omega)).trans (zMr_U (by omega))) ?_
  exact z_iret C N dX6_many_8 (rfl) (rfl)

theorem kX6_slot : zY yX6_slot wsX6_slot cX6_slot 3 (some .int) 2 := ⟨⟨_, rfl⟩, ⟨by decide +kernel, by decide +kernel, by decide +kernel⟩, by decide +kernel⟩
theorem fX6_slot_7 : zF wsX6_slot RX6 7 6 0 RX6 TX6 10 := ⟨by decide +kernel, rfl, by decide, by decide +kernel, rfl⟩
set_option maxHeartbeats 4000000 in
set_option maxRecDepth 100000 in
theorem mX6_slot_0 (E : zE) (a : Nat → Nat) (kp ty pl : Nat) (gd : Bool) (od : Nat) (vU vS : Nat → Nat) (vN : Nat → Int32) (vX vM : Nat) (vT : Bool) (vB vK vY vZ vR vC vV : Nat → Int32) (p : Nat) (hO : okM vU vS vM vK) (hp : p < 12) : zM E yX6_slot wsX6_slot 0 [.ref (a 0), .int (nI 0), .int (nI p)] [((a 0), .inr (6, [.ref (a 1), .ref (a 2), .ref (a 3), .int (nI kp), .int (nI ty), .ref (a 4), .int (nI pl), .int (zb gd), .int (nI od), .ref (a 5)])), ((a 1), .inl (E.2.2.1, 512, .inl (mRow vU vS vN vX vM vT vB vK vY vZ vR vC vV)))] [((a 0), .inr (6, [.ref (a 1), .ref (a 2), .ref (a 3), .int (nI kp), .int (nI ty), .ref (a 4), .int (nI pl), .int (zb gd), .int (nI od), .ref (a 5)])), ((a 1), .inl (E.2.2.1, 512, .inl (mRow vU vS vN vX vM vT vB vK vY vZ vR vC vV)))] (some (.int (nI (mS vS 0 p)))) := by
  refine zM.of kX6_slot (Nat.le_of_ble_eq_true rfl) rfl [some (.ref (a 0)), some (.int (nI 0)), some (.int (nI p))] rfl (Nat.le_of_ble_eq_true rfl) ?_
  intro X eX C N
  subst eX
  obtain ⟨hu0, hu1, hM, hk1, hk2, hk3⟩ := id hO
  refine z_aload_n C 0 dX6_slot_0 rfl rfl ?_
  refine z_get C fX6_slot_7 0 dX6_slot_1 rfl rfl ?_
  refine z_iconst C (nI 2) dX6_slot_4 (by decide) ?_
  refine z_bipush C (nI 12) dX6_slot_5 (by decide) ?_
  refine z_iload_n C 1 dX6_slot_7 rfl rfl ?_
  refine z_imul C dX6_slot_8 ?_
  refine z_top (y := nI 0) (pk_mul _ _) ?_
  refine z_iadd C dX6_slot_9 ?_
  refine z_top (y := nI 2) (nI_add _ _) ?_
  refine z_iload_n C 2 dX6_slot_10 rfl rfl ?_
  refine z_iadd C dX6_slot_11 ?_
  refine z_top (y := nI (2 + p)) (nI_add _ _) ?_
  refine z_ialdN C 1 dX6_slot_12 rfl (by omega) (by decide) ?_
  refine z_top (y := nI (mS vS 0 p)) ((congrArg (mRow vU vS vN vX vM vT vB vK vY vZ vR vC vV) (show 2 + p = 2 + (12 * 0 + p) by omega)).trans (zMr_S (by omega))) ?_
  exact z_iret C N dX6_slot_13 (rfl) (rfl)

set_option maxHeartbeats 4000000 in
set_option maxRecDepth 100000 in
theorem mX6_many_1 (E : zE) (a : Nat → Nat) (kp ty pl : Nat) (gd : Bool) (od : Nat) (vU vS : Nat → Nat) (vN : Nat → Int32) (vX vM : Nat) (vT : Bool) (vB vK vY vZ vR vC vV : Nat → Int32)   : zM E yX6_many wsX6_many 0 [.ref (a 0), .int (nI 1)] [((a 0), .inr (6, [.ref (a 1), .ref (a 2), .ref (a 3), .int (nI kp), .int (nI ty), .ref (a 4), .int (nI pl), .int (zb gd), .int (nI od), .ref (a 5)])), ((a 1), .inl (E.2.2.1, 512, .inl (mRow vU vS vN vX vM vT vB vK vY vZ vR vC vV)))] [((a 0), .inr (6, [.ref (a 1), .ref (a 2), .ref (a 3), .int (nI kp), .int (nI ty), .ref (a 4), .int (nI pl), .int (zb gd), .int (nI od), .ref (a 5)])), ((a 1), .inl (E.2.2.1, 512, .inl (mRow vU vS vN vX vM vT vB vK vY vZ vR vC vV)))] (some (.int (nI (vU 1)))) := by
  refine zM.of kX6_many (Nat.le_of_ble_eq_true rfl) rfl [some (.ref (a 0)), some (.int (nI 1))] rfl (Nat.le_of_ble_eq_true rfl) ?_
  intro X eX C N
  subst eX
  refine z_aload_n C 0 dX6_many_0 rfl rfl ?_
  refine z_get C fX6_many_7 0 dX6_many_1 rfl rfl ?_
  refine z_iconst C (nI 0) dX6_many_4 (by decide) ?_
  refine z_iload_n C 1 dX6_many_5 rfl rfl ?_
  refine z_iadd C dX6_many_6 ?_
  refine z_top (y := nI 1) (nI_add _ _) ?_
  refine z_ialdN C 1 dX6_many_7 rfl (by omega) (by decide) ?_
  refine z_top (y := nI (vU 1)) ((congrArg (mRow vU vS vN vX vM vT vB vK vY vZ vR vC vV) (show 1 = 0 + (1) by omega)).trans (zMr_U (by omega))) ?_
  exact z_iret C N dX6_many_8 (rfl) (rfl)

set_option maxHeartbeats 4000000 in
set_option maxRecDepth 100000 in
theorem mX6_slot_1 (E : zE) (a : Nat → Nat) (kp ty pl : Nat) (gd : Bool) (od : Nat) (vU vS : Nat → Nat) (vN : Nat → Int32) (vX vM : Nat) (vT : Bool) (vB vK vY vZ vR vC vV : Nat → Int32) (p : Nat) (hO : okM vU vS vM vK) (hp : p < 12) : zM E yX6_slot wsX6_slot 0 [.ref (a 0), .int (nI 1), .int (nI p)] [((a 0), .inr (6, [.ref (a 1), .ref (a 2), .ref (a 3), .int (nI kp), .int (nI ty), .ref (a 4), .int (nI pl), .int (zb gd), .int (nI od), .ref (a 5)])), ((a 1), .inl (E.2.2.1, 512, .inl (mRow vU vS vN vX vM vT vB vK vY vZ vR vC vV)))] [((a 0), .inr (6, [.ref (a 1), .ref (a 2), .ref (a 3), .int (nI kp), .int (nI ty), .ref (a 4), .int (nI pl), .int (zb gd), .int (nI od), .ref (a 5)])), ((a 1), .inl (E.2.2.1, 512, .inl (mRow vU vS vN vX vM vT vB vK vY vZ vR vC vV)))] (some (.int (nI (mS vS 1 p)))) := by
  refine zM.of kX6_slot (Nat.le_of_ble_eq_true rfl) rfl [some (.ref (a 0)), some (.int (nI 1)), some (.int (nI p))] rfl (Nat.le_of_ble_eq_true rfl) ?_
  intro X eX C N
  subst eX
  obtain ⟨hu0, hu1, hM, hk1, hk2, hk3⟩ := id hO
  refine z_aload_n C 0 dX6_slot_0 rfl rfl ?_
  refine z_get C fX6_slot_7 0 dX6_slot_1 rfl rfl ?_
  refine z_iconst C (nI 2) dX6_slot_4 (by decide) ?_
  refine z_bipush C (nI 12) dX6_slot_5 (by decide) ?_
  refine z_iload_n C 1 dX6_slot_7 rfl rfl ?_
  refine z_imul C dX6_slot_8 ?_
  refine z_top (y := nI 12) (pk_mul _ _) ?_
  refine z_iadd C dX6_slot_9 ?_
  refine z_top (y := nI 14) (nI_add _ _) ?_
  refine z_iload_n C 2 dX6_slot_10 rfl rfl ?_
  refine z_iadd C dX6_slot_11 ?_
  refine z_top (y := nI (14 + p)) (nI_add _ _) ?_
  refine z_ialdN C 1 dX6_slot_12 rfl (by omega) (by decide) ?_
  refine z_top (y := nI (mS vS 1 p)) ((congrArg (mRow vU vS vN vX vM vT vB vK vY vZ vR vC vV) (show 14 + p = 2 + (12 * 1 + p) by omega)).trans (zMr_S (by omega))) ?_
  exact z_iret C N dX6_slot_13 (rfl) (rfl)

theorem kX6_nameAt : zY yX6_nameAt wsX6_nameAt cX6_nameAt 3 (some .int) 2 := ⟨⟨_, rfl⟩, ⟨by decide +kernel, by decide +kernel, by decide +kernel⟩, by decide +kernel⟩
theorem fX6_nameAt_7 : zF wsX6_nameAt RX6 7 6 0 RX6 TX6 10 := ⟨by decide +kernel, rfl, by decide, by decide +kernel, rfl⟩
set_option maxHeartbeats 4000000 in
set_option maxRecDepth 100000 in
theorem mX6_nameAt_0 (E : zE) (a : Nat → Nat) (kp ty pl : Nat) (gd : Bool) (od : Nat) (vU vS : Nat → Nat) (vN : Nat → Int32) (vX vM : Nat) (vT : Bool) (vB vK vY vZ vR vC vV : Nat → Int32) (p : Nat) (hO : okM vU vS vM vK) (hp : p < 12) : zM E yX6_nameAt wsX6_nameAt 1 [.ref (a 0), .int (nI 0), .int (nI p)] [((a 0), .inr (6, [.ref (a 1), .ref (a 2), .ref (a 3), .int (nI kp), .int (nI ty), .ref (a 4), .int (nI pl), .int (zb gd), .int (nI od), .ref (a 5)])), ((a 1), .inl (E.2.2.1, 512, .inl (mRow vU vS vN vX vM vT vB vK vY vZ vR vC vV)))] [((a 0), .inr (6, [.ref (a 1), .ref (a 2), .ref (a 3), .int (nI kp), .int (nI ty), .ref (a 4), .int (nI pl), .int (zb gd), .int (nI od), .ref (a 5)])), ((a 1), .inl (E.2.2.1, 512, .inl (mRow vU vS vN vX vM vT vB vK vY vZ vR vC vV)))] (some (.int (mN vS vN 0 p))) := by
  refine zM.of kX6_nameAt (Nat.le_of_ble_eq_true rfl) rfl [some (.ref (a 0)), some (.int (nI 0)), some (.int (nI p))] rfl (Nat.le_of_ble_eq_true rfl) ?_
  intro X eX C N
  subst eX
  obtain ⟨hu0, hu1, hM, hk1, hk2, hk3⟩ := id hO
  refine z_aload_n C 0 dX6_nameAt_0 rfl rfl ?_
  refine z_get C fX6_nameAt_7 0 dX6_nameAt_1 rfl rfl ?_
  refine z_bipush C (nI 26) dX6_nameAt_4 (by decide) ?_
  refine z_bipush C (nI 12) dX6_nameAt_6 (by decide) ?_
  refine z_iload_n C 1 dX6_nameAt_8 rfl rfl ?_
  refine z_imul C dX6_nameAt_9 ?_
  refine z_top (y := nI 0) (pk_mul _ _) ?_
  refine z_iadd C dX6_nameAt_10 ?_
  refine z_top (y := nI 26) (nI_add _ _) ?_
  refine z_aload_n C 0 dX6_nameAt_11 rfl rfl ?_
  refine z_iload_n C 1 dX6_nameAt_12 rfl rfl ?_
  refine z_iload_n C 2 dX6_nameAt_13 rfl rfl ?_
  refine z_callVr C kX6_slot gX6_nameAt_X6_slot (mX6_slot_0 X.2.1 a kp ty pl gd od vU vS vN vX vM vT vB vK vY vZ vR vC vV p hO hp) dX6_nameAt_14 [0, 1] [.int (nI 26), .ref (a 1)] 0 rfl nd_0_1 rfl rfl rfl (by decide) (by decide) (Nat.le_of_ble_eq_true rfl) rfl ?_
  have hg_1 : mS vS 0 p < 12 := okM_r (by assumption) _
  refine z_iadd C dX6_nameAt_17 ?_
  refine z_top (y := nI (26 + (mS vS 0 p))) (nI_add _ _) ?_
  refine z_ialdN C 1 dX6_nameAt_18 rfl (by omega) (by decide) ?_
  refine z_top (y := mN vS vN 0 p) ((congrArg (mRow vU vS vN vX vM vT vB vK vY vZ vR vC vV) (show 26 + (mS vS 0 p) = 26 + (12 * 0 + (mS vS 0 p)) by omega)).trans (zMr_N (by omega))) ?_
  exact z_iret C N dX6_nameAt_19 (rfl) (rfl)

set_option maxHeartbeats 4000000 in
set_option maxRecDepth 100000 in
theorem mX6_nameAt_1 (E : zE) (a : Nat → Nat) (kp ty pl : Nat) (gd : Bool) (od : Nat) (vU vS : Nat → Nat) (vN : Nat → Int32) (vX vM : Nat) (vT : Bool) (vB vK vY vZ vR vC vV : Nat → Int32) (p : Nat) (hO : okM vU vS vM vK) (hp : p < 12) : zM E yX6_nameAt wsX6_nameAt 1 [.ref (a 0), .int (nI 1), .int (nI p)] [((a 0), .inr (6, [.ref (a 1), .ref (a 2), .ref (a 3), .int (nI kp), .int (nI ty), .ref (a 4), .int (nI pl), .int (zb gd), .int (nI od), .ref (a 5)])), ((a 1), .inl (E.2.2.1, 512, .inl (mRow vU vS vN vX vM vT vB vK vY vZ vR vC vV)))] [((a 0), .inr (6, [.ref (a 1), .ref (a 2), .ref (a 3), .int (nI kp), .int (nI ty), .ref (a 4), .int (nI pl), .int (zb gd), .int (nI od), .ref (a 5)])), ((a 1), .inl (E.2.2.1, 512, .inl (mRow vU vS vN vX vM vT vB vK vY vZ vR vC vV)))] (some (.int (mN vS vN 1 p))) := by
  refine zM.of kX6_nameAt (Nat.le_of_ble_eq_true rfl) rfl [some (.ref (a 0)), some (.int (nI 1)), some (.int (nI p))] rfl (Nat.le_of_ble_eq_true rfl) ?_
  intro X eX C N
  subst eX
  obtain ⟨hu0, hu1, hM, hk1, hk2, hk3⟩ := id hO
  refine z_aload_n C 0 dX6_nameAt_0 rfl rfl ?_
  refine z_get C fX6_nameAt_7 0 dX6_nameAt_1 rfl rfl ?_
  refine z_bipush C (nI 26) dX6_nameAt_4 (by decide) ?_
  refine z_bipush C (nI 12) dX6_nameAt_6 (by decide) ?_
  refine z_iload_n C 1 dX6_nameAt_8 rfl rfl ?_
  refine z_imul C dX6_nameAt_9 ?_
  refine z_top (y := nI 12) (pk_mul _ _) ?_
  refine z_iadd C dX6_nameAt_10 ?_
  refine z_top (y := nI 38) (nI_add _ _) ?_
  refine z_aload_n C 0 dX6_nameAt_11 rfl rfl ?_
  refine z_iload_n C 1 dX6_nameAt_12 rfl rfl ?_
  refine z_iload_n C 2 dX6_nameAt_13 rfl rfl ?_
  refine z_callVr C kX6_slot gX6_nameAt_X6_slot (mX6_slot_1 X.2.1 a kp ty pl gd od vU vS vN vX vM vT vB vK vY vZ vR vC vV p hO hp) dX6_nameAt_14 [0, 1] [.int (nI 38), .ref (a 1)] 0 rfl nd_0_1 rfl rfl rfl (by decide) (by decide) (Nat.le_of_ble_eq_true rfl) rfl ?_
  have hg_1 : mS vS 1 p < 8 := okM_c (by assumption) _
  refine z_iadd C dX6_nameAt_17 ?_
  refine z_top (y := nI (38 + (mS vS 1 p))) (nI_add _ _) ?_
  refine z_ialdN C 1 dX6_nameAt_18 rfl (by omega) (by decide) ?_
  refine z_top (y := mN vS vN 1 p) ((congrArg (mRow vU vS vN vX vM vT vB vK vY vZ vR vC vV) (show 38 + (mS vS 1 p) = 26 + (12 * 1 + (mS vS 1 p)) by omega)).trans (zMr_N (by omega))) ?_
  exact z_iret C N dX6_nameAt_19 (rfl) (rfl)

theorem kX6_placeOf : zY yX6_placeOf wsX6_placeOf cX6_placeOf 4 (some .int) 2 := ⟨⟨_, rfl⟩, ⟨by decide +kernel, by decide +kernel, by decide +kernel⟩, by decide +kernel⟩
set_option maxHeartbeats 4000000 in
set_option maxRecDepth 100000 in
theorem mX6_placeOf_0 (E : zE) (a : Nat → Nat) (kp ty pl : Nat) (gd : Bool) (od : Nat) (vU vS : Nat → Nat) (vN : Nat → Int32) (vX vM : Nat) (vT : Bool) (vB vK vY vZ vR vC vV : Nat → Int32) (nm : Int32) (hO : okM vU vS vM vK) : zM E yX6_placeOf wsX6_placeOf 2 [.ref (a 0), .int (nI 0), .int nm] [((a 0), .inr (6, [.ref (a 1), .ref (a 2), .ref (a 3), .int (nI kp), .int (nI ty), .ref (a 4), .int (nI pl), .int (zb gd), .int (nI od), .ref (a 5)])), ((a 1), .inl (E.2.2.1, 512, .inl (mRow vU vS vN vX vM vT vB vK vY vZ vR vC vV)))] [((a 0), .inr (6, [.ref (a 1), .ref (a 2), .ref (a 3), .int (nI kp), .int (nI ty), .ref (a 4), .int (nI pl), .int (zb gd), .int (nI od), .ref (a 5)])), ((a 1), .inl (E.2.2.1, 512, .inl (mRow vU vS vN vX vM vT vB vK vY vZ vR vC vV)))] (some (.int (mPl vS vN vU 0 nm))) := by
  refine zM.of kX6_placeOf (Nat.le_of_ble_eq_true rfl) rfl [some (.ref (a 0)), some (.int (nI 0)), some (.int nm), none] rfl (Nat.le_of_ble_eq_true rfl) ?_
  intro X eX C N
  subst eX
  obtain ⟨hu0, hu1, hM, hk1, hk2, hk3⟩ := id hO
  refine z_iconst C (nI 0) dX6_placeOf_0 (by decide) ?_
  refine z_istore_n C 3 dX6_placeOf_1 rfl (Nat.le_of_ble_eq_true rfl) ?_
  have hL2 : ∀ (dd : Nat) (k : Nat), vU 0 - k = dd → (k ≤ vU 0) → (∀ j, j < k → (mPE vS vN 0 nm) j = false) → zG X 0 0 [((a 0), .inr (6, [.ref (a 1), .ref (a 2), .ref (a 3), .int (nI kp), .int (nI ty), .ref (a 4), .int (nI pl), .int (zb gd), .int (nI od), .ref (a 5)])), ((a 1), .inl (X.2.1.2.2.1, 512, .inl (mRow vU vS vN vX vM vT vB vK vY vZ vR vC vV)))] [some (.ref (a 0)), some (.int (nI 0)), some (.int nm), some (.int (nI k))] [] 2 := by
    intro dd
    induction dd using Nat.strongRecOn with
    | _ dd ih2 =>
    intro k hdd hk hf
    refine z_iload_n C 3 dX6_placeOf_2 rfl rfl ?_
    refine z_aload_n C 0 dX6_placeOf_3 rfl rfl ?_
    refine z_iload_n C 1 dX6_placeOf_4 rfl rfl ?_
    refine z_callVr C kX6_many gX6_placeOf_X6_many (mX6_many_0 X.2.1 a kp ty pl gd od vU vS vN vX vM vT vB vK vY vZ vR vC vV ) dX6_placeOf_5 [0, 1] [.int (nI k)] 0 rfl nd_0_1 rfl rfl rfl (by decide) (by decide) (Nat.le_of_ble_eq_true rfl) rfl ?_
    refine z_ncmp_ge C 29 dX6_placeOf_8 (by decide) (by omega) (by omega) (fun h_1 => ?_) (fun h_1 => ?_)
    · refine z_bipush C (-5) dX6_placeOf_29 (by decide) ?_
      exact z_iret C N dX6_placeOf_31 (rfl) (by rw [mPl]; rw [zf_no (fun j hj => hf j (by omega))])
    · refine z_aload_n C 0 dX6_placeOf_11 rfl rfl ?_
      refine z_iload_n C 1 dX6_placeOf_12 rfl rfl ?_
      refine z_iload_n C 3 dX6_placeOf_13 rfl rfl ?_
      refine z_callVr C kX6_nameAt gX6_placeOf_X6_nameAt (mX6_nameAt_0 X.2.1 a kp ty pl gd od vU vS vN vX vM vT vB vK vY vZ vR vC vV k hO (by first | assumption | omega)) dX6_placeOf_14 [0, 1] [] 0 rfl nd_0_1 rfl rfl rfl (by decide) (by decide) (Nat.le_of_ble_eq_true rfl) rfl ?_
      refine z_iload_n C 2 dX6_placeOf_17 rfl rfl ?_
      refine z_icmp_ne C 23 dX6_placeOf_18 (by decide) (fun h_2 => ?_) (fun h_2 => ?_)
      · refine z_iinc C (nI (k + 1)) dX6_placeOf_23 rfl (zi_1 _) ?_
        refine z_goto C 2 dX6_placeOf_26 (by decide) ?_
        exact ih2 (vU 0 - (k + 1)) (by omega) (k + 1) rfl (by omega) (lt_s hf (by simp [mPE, h_1, h_2]))
      · refine z_iload_n C 3 dX6_placeOf_21 rfl rfl ?_
        exact z_iret C N dX6_placeOf_22 (rfl) (by rw [mPl]; rw [zf_at (k := k) (by omega) (by simp [mPE, h_1, h_2]) hf (by omega)])
  exact hL2 _ 0 rfl (by omega) (fun j h => absurd h (Nat.not_lt_zero j))

set_option maxHeartbeats 4000000 in
set_option maxRecDepth 100000 in
theorem mX6_placeOf_1 (E : zE) (a : Nat → Nat) (kp ty pl : Nat) (gd : Bool) (od : Nat) (vU vS : Nat → Nat) (vN : Nat → Int32) (vX vM : Nat) (vT : Bool) (vB vK vY vZ vR vC vV : Nat → Int32) (nm : Int32) (hO : okM vU vS vM vK) : zM E yX6_placeOf wsX6_placeOf 2 [.ref (a 0), .int (nI 1), .int nm] [((a 0), .inr (6, [.ref (a 1), .ref (a 2), .ref (a 3), .int (nI kp), .int (nI ty), .ref (a 4), .int (nI pl), .int (zb gd), .int (nI od), .ref (a 5)])), ((a 1), .inl (E.2.2.1, 512, .inl (mRow vU vS vN vX vM vT vB vK vY vZ vR vC vV)))] [((a 0), .inr (6, [.ref (a 1), .ref (a 2), .ref (a 3), .int (nI kp), .int (nI ty), .ref (a 4), .int (nI pl), .int (zb gd), .int (nI od), .ref (a 5)])), ((a 1), .inl (E.2.2.1, 512, .inl (mRow vU vS vN vX vM vT vB vK vY vZ vR vC vV)))] (some (.int (mPl vS vN vU 1 nm))) := by
  refine zM.of kX6_placeOf (Nat.le_of_ble_eq_true rfl) rfl [some (.ref (a 0)), some (.int (nI 1)), some (.int nm), none] rfl (Nat.le_of_ble_eq_true rfl) ?_
  intro X eX C N
  subst eX
  obtain ⟨hu0, hu1, hM, hk1, hk2, hk3⟩ := id hO
  refine z_iconst C (nI 0) dX6_placeOf_0 (by decide) ?_
  refine z_istore_n C 3 dX6_placeOf_1 rfl (Nat.le_of_ble_eq_true rfl) ?_
  have hL2 : ∀ (dd : Nat) (k : Nat), vU 1 - k = dd → (k ≤ vU 1) → (∀ j, j < k → (mPE vS vN 1 nm) j = false) → zG X 0 0 [((a 0), .inr (6, [.ref (a 1), .ref (a 2), .ref (a 3), .int (nI kp), .int (nI ty), .ref (a 4), .int (nI pl), .int (zb gd), .int (nI od), .ref (a 5)])), ((a 1), .inl (X.2.1.2.2.1, 512, .inl (mRow vU vS vN vX vM vT vB vK vY vZ vR vC vV)))] [some (.ref (a 0)), some (.int (nI 1)), some (.int nm), some (.int (nI k))] [] 2 := by
    intro dd
    induction dd using Nat.strongRecOn with
    | _ dd ih2 =>
    intro k hdd hk hf
    refine z_iload_n C 3 dX6_placeOf_2 rfl rfl ?_
    refine z_aload_n C 0 dX6_placeOf_3 rfl rfl ?_
    refine z_iload_n C 1 dX6_placeOf_4 rfl rfl ?_
    refine z_callVr C kX6_many gX6_placeOf_X6_many (mX6_many_1 X.2.1 a kp ty pl gd od vU vS vN vX vM vT vB vK vY vZ vR vC vV ) dX6_placeOf_5 [0, 1] [.int (nI k)] 0 rfl nd_0_1 rfl rfl rfl (by decide) (by decide) (Nat.le_of_ble_eq_true rfl) rfl ?_
    refine z_ncmp_ge C 29 dX6_placeOf_8 (by decide) (by omega) (by omega) (fun h_1 => ?_) (fun h_1 => ?_)
    · refine z_bipush C (-5) dX6_placeOf_29 (by decide) ?_
      exact z_iret C N dX6_placeOf_31 (rfl) (by rw [mPl]; rw [zf_no (fun j hj => hf j (by omega))])
    · refine z_aload_n C 0 dX6_placeOf_11 rfl rfl ?_
      refine z_iload_n C 1 dX6_placeOf_12 rfl rfl ?_
      refine z_iload_n C 3 dX6_placeOf_13 rfl rfl ?_
      refine z_callVr C kX6_nameAt gX6_placeOf_X6_nameAt (mX6_nameAt_1 X.2.1 a kp ty pl gd od vU vS vN vX vM vT vB vK vY vZ vR vC vV k hO (by first | assumption | omega)) dX6_placeOf_14 [0, 1] [] 0 rfl nd_0_1 rfl rfl rfl (by decide) (by decide) (Nat.le_of_ble_eq_true rfl) rfl ?_
      refine z_iload_n C 2 dX6_placeOf_17 rfl rfl ?_
      refine z_icmp_ne C 23 dX6_placeOf_18 (by decide) (fun h_2 => ?_) (fun h_2 => ?_)
      · refine z_iinc C (nI (k + 1)) dX6_placeOf_23 rfl (zi_1 _) ?_
        refine z_goto C 2 dX6_placeOf_26 (by decide) ?_
        exact ih2 (vU 1 - (k + 1)) (by omega) (k + 1) rfl (by omega) (lt_s hf (by simp [mPE, h_1, h_2]))
      · refine z_iload_n C 3 dX6_placeOf_21 rfl rfl ?_
        exact z_iret C N dX6_placeOf_22 (rfl) (by rw [mPl]; rw [zf_at (k := k) (by omega) (by simp [mPE, h_1, h_2]) hf (by omega)])
  exact hL2 _ 0 rfl (by omega) (fun j h => absurd h (Nat.not_lt_zero j))

theorem kX6_noLine : zY yX6_noLine wsX6_noLine cX6_noLine 3 (some .boolean) 2 := ⟨⟨_, rfl⟩, ⟨by decide +kernel, by decide +kernel, by decide +kernel⟩, by decide +kernel⟩
set_option maxHeartbeats 4000000 in
set_option maxRecDepth 100000 in
theorem mX6_noLine_0_y (E : zE) (a : Nat → Nat) (kp ty pl : Nat) (gd : Bool) (od : Nat) (vU vS : Nat → Nat) (vN : Nat → Int32) (vX vM : Nat) (vT : Bool) (vB vK vY vZ vR vC vV : Nat → Int32) (j : Nat) (hO : okM vU vS vM vK) (hj : j < vU 0) : zM E yX6_noLine wsX6_noLine 1 [.ref (a 0), .int (nI 0), .int (nI j)] [((a 0), .inr (6, [.ref (a 1), .ref (a 2), .ref (a 3), .int (nI kp), .int (nI ty), .ref (a 4), .int (nI pl), .int (zb gd), .int (nI od), .ref (a 5)])), ((a 1), .inl (E.2.2.1, 512, .inl (mRow vU vS vN vX vM vT vB vK vY vZ vR vC vV)))] [((a 0), .inr (6, [.ref (a 1), .ref (a 2), .ref (a 3), .int (nI kp), .int (nI ty), .ref (a 4), .int (nI pl), .int (zb gd), .int (nI od), .ref (a 5)])), ((a 1), .inl (E.2.2.1, 512, .inl (mRow vU vS vN vX vM vT vB vK vY vZ vR vC vV)))] (some (.int (zb false))) := by
  refine zM.of kX6_noLine (Nat.le_of_ble_eq_true rfl) rfl [some (.ref (a 0)), some (.int (nI 0)), some (.int (nI j))] rfl (Nat.le_of_ble_eq_true rfl) ?_
  intro X eX C N
  subst eX
  obtain ⟨hu0, hu1, hM, hk1, hk2, hk3⟩ := id hO
  refine z_iload_n C 1 dX6_noLine_0 rfl rfl ?_
  refine z_iconst C (nI 0) dX6_noLine_1 (by decide) ?_
  refine z_iconst C (nI 1) dX6_noLine_2 (by decide) ?_
  refine z_callS C kX6_in gX6_noLine_X6_in (mX6_in_y X.2.1 0 1 (by first | assumption | omega) (by first | assumption | omega)) dX6_noLine_3 [] rfl (by decide) (by decide) (Nat.le_of_ble_eq_true rfl) rfl ?_
  refine z_bif_eq_f C 24 dX6_noLine_6 (by decide) rfl ?_
  refine z_iload_n C 2 dX6_noLine_9 rfl rfl ?_
  refine z_iconst C (nI 0) dX6_noLine_10 (by decide) ?_
  refine z_aload_n C 0 dX6_noLine_11 rfl rfl ?_
  refine z_iload_n C 1 dX6_noLine_12 rfl rfl ?_
  refine z_callVr C kX6_many gX6_noLine_X6_many (mX6_many_0 X.2.1 a kp ty pl gd od vU vS vN vX vM vT vB vK vY vZ vR vC vV ) dX6_noLine_13 [0, 1] [.int (nI 0), .int (nI j)] 0 rfl nd_0_1 rfl rfl rfl (by decide) (by decide) (Nat.le_of_ble_eq_true rfl) rfl ?_
  refine z_iconst C (nI 1) dX6_noLine_16 (by decide) ?_
  refine z_isub C dX6_noLine_17 ?_
  refine z_top (y := nI ((vU 0) - 1)) ((pk_sub (by omega)).trans (congrArg nI (by omega))) ?_
  refine z_callS C kX6_in gX6_noLine_X6_in (mX6_in_y X.2.1 j ((vU 0) - 1) (by first | assumption | omega) (by first | assumption | omega)) dX6_noLine_18 [] rfl (by decide) (by decide) (Nat.le_of_ble_eq_true rfl) rfl ?_
  refine z_bif_ne_t C 28 dX6_noLine_21 (by decide) rfl ?_
  refine z_iconst C (nI 0) dX6_noLine_28 (by decide) ?_
  exact z_zret C N dX6_noLine_29 rfl (rfl) (rfl)

set_option maxHeartbeats 4000000 in
set_option maxRecDepth 100000 in
theorem mX6_noLine_0_n (E : zE) (a : Nat → Nat) (kp ty pl : Nat) (gd : Bool) (od : Nat) (vU vS : Nat → Nat) (vN : Nat → Int32) (vX vM : Nat) (vT : Bool) (vB vK vY vZ vR vC vV : Nat → Int32) (x : Int32) (hO : okM vU vS vM vK) (hx : x < 0 ∨ (¬ x < 0 ∧ nI (vU 0) ≤ x)) : zM E yX6_noLine wsX6_noLine 1 [.ref (a 0), .int (nI 0), .int x] [((a 0), .inr (6, [.ref (a 1), .ref (a 2), .ref (a 3), .int (nI kp), .int (nI ty), .ref (a 4), .int (nI pl), .int (zb gd), .int (nI od), .ref (a 5)])), ((a 1), .inl (E.2.2.1, 512, .inl (mRow vU vS vN vX vM vT vB vK vY vZ vR vC vV)))] [((a 0), .inr (6, [.ref (a 1), .ref (a 2), .ref (a 3), .int (nI kp), .int (nI ty), .ref (a 4), .int (nI pl), .int (zb gd), .int (nI od), .ref (a 5)])), ((a 1), .inl (E.2.2.1, 512, .inl (mRow vU vS vN vX vM vT vB vK vY vZ vR vC vV)))] (some (.int (zb true))) := by
  refine zM.of kX6_noLine (Nat.le_of_ble_eq_true rfl) rfl [some (.ref (a 0)), some (.int (nI 0)), some (.int x)] rfl (Nat.le_of_ble_eq_true rfl) ?_
  intro X eX C N
  subst eX
  obtain ⟨hu0, hu1, hM, hk1, hk2, hk3⟩ := id hO
  refine z_iload_n C 1 dX6_noLine_0 rfl rfl ?_
  refine z_iconst C (nI 0) dX6_noLine_1 (by decide) ?_
  refine z_iconst C (nI 1) dX6_noLine_2 (by decide) ?_
  refine z_callS C kX6_in gX6_noLine_X6_in (mX6_in_y X.2.1 0 1 (by first | assumption | omega) (by first | assumption | omega)) dX6_noLine_3 [] rfl (by decide) (by decide) (Nat.le_of_ble_eq_true rfl) rfl ?_
  refine z_bif_eq_f C 24 dX6_noLine_6 (by decide) rfl ?_
  refine z_iload_n C 2 dX6_noLine_9 rfl rfl ?_
  refine z_iconst C (nI 0) dX6_noLine_10 (by decide) ?_
  refine z_aload_n C 0 dX6_noLine_11 rfl rfl ?_
  refine z_iload_n C 1 dX6_noLine_12 rfl rfl ?_
  refine z_callVr C kX6_many gX6_noLine_X6_many (mX6_many_0 X.2.1 a kp ty pl gd od vU vS vN vX vM vT vB vK vY vZ vR vC vV ) dX6_noLine_13 [0, 1] [.int (nI 0), .int x] 0 rfl nd_0_1 rfl rfl rfl (by decide) (by decide) (Nat.le_of_ble_eq_true rfl) rfl ?_
  refine z_iconst C (nI 1) dX6_noLine_16 (by decide) ?_
  refine z_isub C dX6_noLine_17 ?_
  refine z_top (y := nI (vU 0) + (-1)) (zi_s _) ?_
  refine z_callS C kX6_in gX6_noLine_X6_in (mX6_in_m X.2.1 x (vU 0) (by first | assumption | omega) hx) dX6_noLine_18 [] rfl (by decide) (by decide) (Nat.le_of_ble_eq_true rfl) rfl ?_
  refine z_bif_ne_f C 28 dX6_noLine_21 (by decide) rfl ?_
  refine z_iconst C (nI 1) dX6_noLine_24 (by decide) ?_
  refine z_goto C 29 dX6_noLine_25 (by decide) ?_
  exact z_zret C N dX6_noLine_29 rfl (rfl) (rfl)

set_option maxHeartbeats 4000000 in
set_option maxRecDepth 100000 in
theorem mX6_noLine_1_y (E : zE) (a : Nat → Nat) (kp ty pl : Nat) (gd : Bool) (od : Nat) (vU vS : Nat → Nat) (vN : Nat → Int32) (vX vM : Nat) (vT : Bool) (vB vK vY vZ vR vC vV : Nat → Int32) (j : Nat) (hO : okM vU vS vM vK) (hj : j < vU 1) : zM E yX6_noLine wsX6_noLine 1 [.ref (a 0), .int (nI 1), .int (nI j)] [((a 0), .inr (6, [.ref (a 1), .ref (a 2), .ref (a 3), .int (nI kp), .int (nI ty), .ref (a 4), .int (nI pl), .int (zb gd), .int (nI od), .ref (a 5)])), ((a 1), .inl (E.2.2.1, 512, .inl (mRow vU vS vN vX vM vT vB vK vY vZ vR vC vV)))] [((a 0), .inr (6, [.ref (a 1), .ref (a 2), .ref (a 3), .int (nI kp), .int (nI ty), .ref (a 4), .int (nI pl), .int (zb gd), .int (nI od), .ref (a 5)])), ((a 1), .inl (E.2.2.1, 512, .inl (mRow vU vS vN vX vM vT vB vK vY vZ vR vC vV)))] (some (.int (zb false))) := by
  refine zM.of kX6_noLine (Nat.le_of_ble_eq_true rfl) rfl [some (.ref (a 0)), some (.int (nI 1)), some (.int (nI j))] rfl (Nat.le_of_ble_eq_true rfl) ?_
  intro X eX C N
  subst eX
  obtain ⟨hu0, hu1, hM, hk1, hk2, hk3⟩ := id hO
  refine z_iload_n C 1 dX6_noLine_0 rfl rfl ?_
  refine z_iconst C (nI 0) dX6_noLine_1 (by decide) ?_
  refine z_iconst C (nI 1) dX6_noLine_2 (by decide) ?_
  refine z_callS C kX6_in gX6_noLine_X6_in (mX6_in_y X.2.1 1 1 (by first | assumption | omega) (by first | assumption | omega)) dX6_noLine_3 [] rfl (by decide) (by decide) (Nat.le_of_ble_eq_true rfl) rfl ?_
  refine z_bif_eq_f C 24 dX6_noLine_6 (by decide) rfl ?_
  refine z_iload_n C 2 dX6_noLine_9 rfl rfl ?_
  refine z_iconst C (nI 0) dX6_noLine_10 (by decide) ?_
  refine z_aload_n C 0 dX6_noLine_11 rfl rfl ?_
  refine z_iload_n C 1 dX6_noLine_12 rfl rfl ?_
  refine z_callVr C kX6_many gX6_noLine_X6_many (mX6_many_1 X.2.1 a kp ty pl gd od vU vS vN vX vM vT vB vK vY vZ vR vC vV ) dX6_noLine_13 [0, 1] [.int (nI 0), .int (nI j)] 0 rfl nd_0_1 rfl rfl rfl (by decide) (by decide) (Nat.le_of_ble_eq_true rfl) rfl ?_
  refine z_iconst C (nI 1) dX6_noLine_16 (by decide) ?_
  refine z_isub C dX6_noLine_17 ?_
  refine z_top (y := nI ((vU 1) - 1)) ((pk_sub (by omega)).trans (congrArg nI (by omega))) ?_
  refine z_callS C kX6_in gX6_noLine_X6_in (mX6_in_y X.2.1 j ((vU 1) - 1) (by first | assumption | omega) (by first | assumption | omega)) dX6_noLine_18 [] rfl (by decide) (by decide) (Nat.le_of_ble_eq_true rfl) rfl ?_
  refine z_bif_ne_t C 28 dX6_noLine_21 (by decide) rfl ?_
  refine z_iconst C (nI 0) dX6_noLine_28 (by decide) ?_
  exact z_zret C N dX6_noLine_29 rfl (rfl) (rfl)

set_option maxHeartbeats 4000000 in
set_option maxRecDepth 100000 in
theorem mX6_noLine_1_n (E : zE) (a : Nat → Nat) (kp ty pl : Nat) (gd : Bool) (od : Nat) (vU vS : Nat → Nat) (vN : Nat → Int32) (vX vM : Nat) (vT : Bool) (vB vK vY vZ vR vC vV : Nat → Int32) (x : Int32) (hO : okM vU vS vM vK) (hx : x < 0 ∨ (¬ x < 0 ∧ nI (vU 1) ≤ x)) : zM E yX6_noLine wsX6_noLine 1 [.ref (a 0), .int (nI 1), .int x] [((a 0), .inr (6, [.ref (a 1), .ref (a 2), .ref (a 3), .int (nI kp), .int (nI ty), .ref (a 4), .int (nI pl), .int (zb gd), .int (nI od), .ref (a 5)])), ((a 1), .inl (E.2.2.1, 512, .inl (mRow vU vS vN vX vM vT vB vK vY vZ vR vC vV)))] [((a 0), .inr (6, [.ref (a 1), .ref (a 2), .ref (a 3), .int (nI kp), .int (nI ty), .ref (a 4), .int (nI pl), .int (zb gd), .int (nI od), .ref (a 5)])), ((a 1), .inl (E.2.2.1, 512, .inl (mRow vU vS vN vX vM vT vB vK vY vZ vR vC vV)))] (some (.int (zb true))) := by
  refine zM.of kX6_noLine (Nat.le_of_ble_eq_true rfl) rfl [some (.ref (a 0)), some (.int (nI 1)), some (.int x)] rfl (Nat.le_of_ble_eq_true rfl) ?_
  intro X eX C N
  subst eX
  obtain ⟨hu0, hu1, hM, hk1, hk2, hk3⟩ := id hO
  refine z_iload_n C 1 dX6_noLine_0 rfl rfl ?_
  refine z_iconst C (nI 0) dX6_noLine_1 (by decide) ?_
  refine z_iconst C (nI 1) dX6_noLine_2 (by decide) ?_
  refine z_callS C kX6_in gX6_noLine_X6_in (mX6_in_y X.2.1 1 1 (by first | assumption | omega) (by first | assumption | omega)) dX6_noLine_3 [] rfl (by decide) (by decide) (Nat.le_of_ble_eq_true rfl) rfl ?_
  refine z_bif_eq_f C 24 dX6_noLine_6 (by decide) rfl ?_
  refine z_iload_n C 2 dX6_noLine_9 rfl rfl ?_
  refine z_iconst C (nI 0) dX6_noLine_10 (by decide) ?_
  refine z_aload_n C 0 dX6_noLine_11 rfl rfl ?_
  refine z_iload_n C 1 dX6_noLine_12 rfl rfl ?_
  refine z_callVr C kX6_many gX6_noLine_X6_many (mX6_many_1 X.2.1 a kp ty pl gd od vU vS vN vX vM vT vB vK vY vZ vR vC vV ) dX6_noLine_13 [0, 1] [.int (nI 0), .int x] 0 rfl nd_0_1 rfl rfl rfl (by decide) (by decide) (Nat.le_of_ble_eq_true rfl) rfl ?_
  refine z_iconst C (nI 1) dX6_noLine_16 (by decide) ?_
  refine z_isub C dX6_noLine_17 ?_
  refine z_top (y := nI (vU 1) + (-1)) (zi_s _) ?_
  refine z_callS C kX6_in gX6_noLine_X6_in (mX6_in_m X.2.1 x (vU 1) (by first | assumption | omega) hx) dX6_noLine_18 [] rfl (by decide) (by decide) (Nat.le_of_ble_eq_true rfl) rfl ?_
  refine z_bif_ne_f C 28 dX6_noLine_21 (by decide) rfl ?_
  refine z_iconst C (nI 1) dX6_noLine_24 (by decide) ?_
  refine z_goto C 29 dX6_noLine_25 (by decide) ?_
  exact z_zret C N dX6_noLine_29 rfl (rfl) (rfl)

theorem kX6_of : zY yX6_of wsX6_of cX6_of 3 (some .int) 2 := ⟨⟨_, rfl⟩, ⟨by decide +kernel, by decide +kernel, by decide +kernel⟩, by decide +kernel⟩
theorem fX6_of_7 : zF wsX6_of RX6 7 6 0 RX6 TX6 10 := ⟨by decide +kernel, rfl, by decide, by decide +kernel, rfl⟩
set_option maxHeartbeats 4000000 in
set_option maxRecDepth 100000 in
theorem mX6_of_K (E : zE) (a : Nat → Nat) (kp ty pl : Nat) (gd : Bool) (od : Nat) (vU vS : Nat → Nat) (vN : Nat → Int32) (vX vM : Nat) (vT : Bool) (vB vK vY vZ vR vC vV : Nat → Int32) (x : Nat) (hx : x < 60) : zM E yX6_of wsX6_of 0 [.ref (a 0), .int (nI x), .int (nI 149)] [((a 0), .inr (6, [.ref (a 1), .ref (a 2), .ref (a 3), .int (nI kp), .int (nI ty), .ref (a 4), .int (nI pl), .int (zb gd), .int (nI od), .ref (a 5)])), ((a 1), .inl (E.2.2.1, 512, .inl (mRow vU vS vN vX vM vT vB vK vY vZ vR vC vV)))] [((a 0), .inr (6, [.ref (a 1), .ref (a 2), .ref (a 3), .int (nI kp), .int (nI ty), .ref (a 4), .int (nI pl), .int (zb gd), .int (nI od), .ref (a 5)])), ((a 1), .inl (E.2.2.1, 512, .inl (mRow vU vS vN vX vM vT vB vK vY vZ vR vC vV)))] (some (.int (vK x))) := by
  refine zM.of kX6_of (Nat.le_of_ble_eq_true rfl) rfl [some (.ref (a 0)), some (.int (nI x)), some (.int (nI 149))] rfl (Nat.le_of_ble_eq_true rfl) ?_
  intro X eX C N
  subst eX
  refine z_aload_n C 0 dX6_of_0 rfl rfl ?_
  refine z_get C fX6_of_7 0 dX6_of_1 rfl rfl ?_
  refine z_iload_n C 2 dX6_of_4 rfl rfl ?_
  refine z_iload_n C 1 dX6_of_5 rfl rfl ?_
  refine z_iadd C dX6_of_6 ?_
  refine z_top (y := nI (149 + x)) (nI_add _ _) ?_
  refine z_ialdN C 1 dX6_of_7 rfl (by omega) (by decide) ?_
  refine z_top (y := vK x) ((congrArg (mRow vU vS vN vX vM vT vB vK vY vZ vR vC vV) (show 149 + x = 149 + (x) by omega)).trans (zMr_K (by omega))) ?_
  exact z_iret C N dX6_of_8 (rfl) (rfl)

set_option maxHeartbeats 4000000 in
set_option maxRecDepth 100000 in
theorem mX6_of_Y (E : zE) (a : Nat → Nat) (kp ty pl : Nat) (gd : Bool) (od : Nat) (vU vS : Nat → Nat) (vN : Nat → Int32) (vX vM : Nat) (vT : Bool) (vB vK vY vZ vR vC vV : Nat → Int32) (x : Nat) (hx : x < 60) : zM E yX6_of wsX6_of 0 [.ref (a 0), .int (nI x), .int (nI 209)] [((a 0), .inr (6, [.ref (a 1), .ref (a 2), .ref (a 3), .int (nI kp), .int (nI ty), .ref (a 4), .int (nI pl), .int (zb gd), .int (nI od), .ref (a 5)])), ((a 1), .inl (E.2.2.1, 512, .inl (mRow vU vS vN vX vM vT vB vK vY vZ vR vC vV)))] [((a 0), .inr (6, [.ref (a 1), .ref (a 2), .ref (a 3), .int (nI kp), .int (nI ty), .ref (a 4), .int (nI pl), .int (zb gd), .int (nI od), .ref (a 5)])), ((a 1), .inl (E.2.2.1, 512, .inl (mRow vU vS vN vX vM vT vB vK vY vZ vR vC vV)))] (some (.int (vY x))) := by
  refine zM.of kX6_of (Nat.le_of_ble_eq_true rfl) rfl [some (.ref (a 0)), some (.int (nI x)), some (.int (nI 209))] rfl (Nat.le_of_ble_eq_true rfl) ?_
  intro X eX C N
  subst eX
  refine z_aload_n C 0 dX6_of_0 rfl rfl ?_
  refine z_get C fX6_of_7 0 dX6_of_1 rfl rfl ?_
  refine z_iload_n C 2 dX6_of_4 rfl rfl ?_
  refine z_iload_n C 1 dX6_of_5 rfl rfl ?_
  refine z_iadd C dX6_of_6 ?_
  refine z_top (y := nI (209 + x)) (nI_add _ _) ?_
  refine z_ialdN C 1 dX6_of_7 rfl (by omega) (by decide) ?_
  refine z_top (y := vY x) ((congrArg (mRow vU vS vN vX vM vT vB vK vY vZ vR vC vV) (show 209 + x = 209 + (x) by omega)).trans (zMr_Y (by omega))) ?_
  exact z_iret C N dX6_of_8 (rfl) (rfl)

set_option maxHeartbeats 4000000 in
set_option maxRecDepth 100000 in
theorem mX6_of_Z (E : zE) (a : Nat → Nat) (kp ty pl : Nat) (gd : Bool) (od : Nat) (vU vS : Nat → Nat) (vN : Nat → Int32) (vX vM : Nat) (vT : Bool) (vB vK vY vZ vR vC vV : Nat → Int32) (x : Nat) (hx : x < 60) : zM E yX6_of wsX6_of 0 [.ref (a 0), .int (nI x), .int (nI 269)] [((a 0), .inr (6, [.ref (a 1), .ref (a 2), .ref (a 3), .int (nI kp), .int (nI ty), .ref (a 4), .int (nI pl), .int (zb gd), .int (nI od), .ref (a 5)])), ((a 1), .inl (E.2.2.1, 512, .inl (mRow vU vS vN vX vM vT vB vK vY vZ vR vC vV)))] [((a 0), .inr (6, [.ref (a 1), .ref (a 2), .ref (a 3), .int (nI kp), .int (nI ty), .ref (a 4), .int (nI pl), .int (zb gd), .int (nI od), .ref (a 5)])), ((a 1), .inl (E.2.2.1, 512, .inl (mRow vU vS vN vX vM vT vB vK vY vZ vR vC vV)))] (some (.int (vZ x))) := by
  refine zM.of kX6_of (Nat.le_of_ble_eq_true rfl) rfl [some (.ref (a 0)), some (.int (nI x)), some (.int (nI 269))] rfl (Nat.le_of_ble_eq_true rfl) ?_
  intro X eX C N
  subst eX
  refine z_aload_n C 0 dX6_of_0 rfl rfl ?_
  refine z_get C fX6_of_7 0 dX6_of_1 rfl rfl ?_
  refine z_iload_n C 2 dX6_of_4 rfl rfl ?_
  refine z_iload_n C 1 dX6_of_5 rfl rfl ?_
  refine z_iadd C dX6_of_6 ?_
  refine z_top (y := nI (269 + x)) (nI_add _ _) ?_
  refine z_ialdN C 1 dX6_of_7 rfl (by omega) (by decide) ?_
  refine z_top (y := vZ x) ((congrArg (mRow vU vS vN vX vM vT vB vK vY vZ vR vC vV) (show 269 + x = 269 + (x) by omega)).trans (zMr_Z (by omega))) ?_
  exact z_iret C N dX6_of_8 (rfl) (rfl)

set_option maxHeartbeats 4000000 in
set_option maxRecDepth 100000 in
theorem mX6_of_R (E : zE) (a : Nat → Nat) (kp ty pl : Nat) (gd : Bool) (od : Nat) (vU vS : Nat → Nat) (vN : Nat → Int32) (vX vM : Nat) (vT : Bool) (vB vK vY vZ vR vC vV : Nat → Int32) (x : Nat) (hx : x < 60) : zM E yX6_of wsX6_of 0 [.ref (a 0), .int (nI x), .int (nI 329)] [((a 0), .inr (6, [.ref (a 1), .ref (a 2), .ref (a 3), .int (nI kp), .int (nI ty), .ref (a 4), .int (nI pl), .int (zb gd), .int (nI od), .ref (a 5)])), ((a 1), .inl (E.2.2.1, 512, .inl (mRow vU vS vN vX vM vT vB vK vY vZ vR vC vV)))] [((a 0), .inr (6, [.ref (a 1), .ref (a 2), .ref (a 3), .int (nI kp), .int (nI ty), .ref (a 4), .int (nI pl), .int (zb gd), .int (nI od), .ref (a 5)])), ((a 1), .inl (E.2.2.1, 512, .inl (mRow vU vS vN vX vM vT vB vK vY vZ vR vC vV)))] (some (.int (vR x))) := by
  refine zM.of kX6_of (Nat.le_of_ble_eq_true rfl) rfl [some (.ref (a 0)), some (.int (nI x)), some (.int (nI 329))] rfl (Nat.le_of_ble_eq_true rfl) ?_
  intro X eX C N
  subst eX
  refine z_aload_n C 0 dX6_of_0 rfl rfl ?_
  refine z_get C fX6_of_7 0 dX6_of_1 rfl rfl ?_
  refine z_iload_n C 2 dX6_of_4 rfl rfl ?_
  refine z_iload_n C 1 dX6_of_5 rfl rfl ?_
  refine z_iadd C dX6_of_6 ?_
  refine z_top (y := nI (329 + x)) (nI_add _ _) ?_
  refine z_ialdN C 1 dX6_of_7 rfl (by omega) (by decide) ?_
  refine z_top (y := vR x) ((congrArg (mRow vU vS vN vX vM vT vB vK vY vZ vR vC vV) (show 329 + x = 329 + (x) by omega)).trans (zMr_R (by omega))) ?_
  exact z_iret C N dX6_of_8 (rfl) (rfl)

set_option maxHeartbeats 4000000 in
set_option maxRecDepth 100000 in
theorem mX6_of_C (E : zE) (a : Nat → Nat) (kp ty pl : Nat) (gd : Bool) (od : Nat) (vU vS : Nat → Nat) (vN : Nat → Int32) (vX vM : Nat) (vT : Bool) (vB vK vY vZ vR vC vV : Nat → Int32) (x : Nat) (hx : x < 60) : zM E yX6_of wsX6_of 0 [.ref (a 0), .int (nI x), .int (nI 389)] [((a 0), .inr (6, [.ref (a 1), .ref (a 2), .ref (a 3), .int (nI kp), .int (nI ty), .ref (a 4), .int (nI pl), .int (zb gd), .int (nI od), .ref (a 5)])), ((a 1), .inl (E.2.2.1, 512, .inl (mRow vU vS vN vX vM vT vB vK vY vZ vR vC vV)))] [((a 0), .inr (6, [.ref (a 1), .ref (a 2), .ref (a 3), .int (nI kp), .int (nI ty), .ref (a 4), .int (nI pl), .int (zb gd), .int (nI od), .ref (a 5)])), ((a 1), .inl (E.2.2.1, 512, .inl (mRow vU vS vN vX vM vT vB vK vY vZ vR vC vV)))] (some (.int (vC x))) := by
  refine zM.of kX6_of (Nat.le_of_ble_eq_true rfl) rfl [some (.ref (a 0)), some (.int (nI x)), some (.int (nI 389))] rfl (Nat.le_of_ble_eq_true rfl) ?_
  intro X eX C N
  subst eX
  refine z_aload_n C 0 dX6_of_0 rfl rfl ?_
  refine z_get C fX6_of_7 0 dX6_of_1 rfl rfl ?_
  refine z_iload_n C 2 dX6_of_4 rfl rfl ?_
  refine z_iload_n C 1 dX6_of_5 rfl rfl ?_
  refine z_iadd C dX6_of_6 ?_
  refine z_top (y := nI (389 + x)) (nI_add _ _) ?_
  refine z_ialdN C 1 dX6_of_7 rfl (by omega) (by decide) ?_
  refine z_top (y := vC x) ((congrArg (mRow vU vS vN vX vM vT vB vK vY vZ vR vC vV) (show 389 + x = 389 + (x) by omega)).trans (zMr_C (by omega))) ?_
  exact z_iret C N dX6_of_8 (rfl) (rfl)

set_option maxHeartbeats 4000000 in
set_option maxRecDepth 100000 in
theorem mX6_of_V (E : zE) (a : Nat → Nat) (kp ty pl : Nat) (gd : Bool) (od : Nat) (vU vS : Nat → Nat) (vN : Nat → Int32) (vX vM : Nat) (vT : Bool) (vB vK vY vZ vR vC vV : Nat → Int32) (x : Nat) (hx : x < 60) : zM E yX6_of wsX6_of 0 [.ref (a 0), .int (nI x), .int (nI 449)] [((a 0), .inr (6, [.ref (a 1), .ref (a 2), .ref (a 3), .int (nI kp), .int (nI ty), .ref (a 4), .int (nI pl), .int (zb gd), .int (nI od), .ref (a 5)])), ((a 1), .inl (E.2.2.1, 512, .inl (mRow vU vS vN vX vM vT vB vK vY vZ vR vC vV)))] [((a 0), .inr (6, [.ref (a 1), .ref (a 2), .ref (a 3), .int (nI kp), .int (nI ty), .ref (a 4), .int (nI pl), .int (zb gd), .int (nI od), .ref (a 5)])), ((a 1), .inl (E.2.2.1, 512, .inl (mRow vU vS vN vX vM vT vB vK vY vZ vR vC vV)))] (some (.int (vV x))) := by
  refine zM.of kX6_of (Nat.le_of_ble_eq_true rfl) rfl [some (.ref (a 0)), some (.int (nI x)), some (.int (nI 449))] rfl (Nat.le_of_ble_eq_true rfl) ?_
  intro X eX C N
  subst eX
  refine z_aload_n C 0 dX6_of_0 rfl rfl ?_
  refine z_get C fX6_of_7 0 dX6_of_1 rfl rfl ?_
  refine z_iload_n C 2 dX6_of_4 rfl rfl ?_
  refine z_iload_n C 1 dX6_of_5 rfl rfl ?_
  refine z_iadd C dX6_of_6 ?_
  refine z_top (y := nI (449 + x)) (nI_add _ _) ?_
  refine z_ialdN C 1 dX6_of_7 rfl (by omega) (by decide) ?_
  refine z_top (y := vV x) ((congrArg (mRow vU vS vN vX vM vT vB vK vY vZ vR vC vV) (show 449 + x = 449 + (x) by omega)).trans (zMr_V (by omega))) ?_
  exact z_iret C N dX6_of_8 (rfl) (rfl)

theorem kX6_isPending : zY yX6_isPending wsX6_isPending cX6_isPending 2 (some .boolean) 1 := ⟨⟨_, rfl⟩, ⟨by decide +kernel, by decide +kernel, by decide +kernel⟩, by decide +kernel⟩
set_option maxHeartbeats 4000000 in
set_option maxRecDepth 100000 in
theorem mX6_isPending (E : zE) (a : Nat → Nat) (kp ty pl : Nat) (gd : Bool) (od : Nat) (vU vS : Nat → Nat) (vN : Nat → Int32) (vX vM : Nat) (vT : Bool) (vB vK vY vZ vR vC vV : Nat → Int32) (x : Nat) (hx : x < 60) : zM E yX6_isPending wsX6_isPending 1 [.ref (a 0), .int (nI x)] [((a 0), .inr (6, [.ref (a 1), .ref (a 2), .ref (a 3), .int (nI kp), .int (nI ty), .ref (a 4), .int (nI pl), .int (zb gd), .int (nI od), .ref (a 5)])), ((a 1), .inl (E.2.2.1, 512, .inl (mRow vU vS vN vX vM vT vB vK vY vZ vR vC vV)))] [((a 0), .inr (6, [.ref (a 1), .ref (a 2), .ref (a 3), .int (nI kp), .int (nI ty), .ref (a 4), .int (nI pl), .int (zb gd), .int (nI od), .ref (a 5)])), ((a 1), .inl (E.2.2.1, 512, .inl (mRow vU vS vN vX vM vT vB vK vY vZ vR vC vV)))] (some (.int (zb (decide (vZ x = 0))))) := by
  refine zM.of kX6_isPending (Nat.le_of_ble_eq_true rfl) rfl [some (.ref (a 0)), some (.int (nI x))] rfl (Nat.le_of_ble_eq_true rfl) ?_
  intro X eX C N
  subst eX
  refine z_aload_n C 0 dX6_isPending_0 rfl rfl ?_
  refine z_iload_n C 1 dX6_isPending_1 rfl rfl ?_
  refine z_sipush C (nI 269) dX6_isPending_2 (by decide) ?_
  refine z_callVr C kX6_of gX6_isPending_X6_of (mX6_of_Z X.2.1 a kp ty pl gd od vU vS vN vX vM vT vB vK vY vZ vR vC vV x hx) dX6_isPending_5 [0, 1] [] 0 rfl nd_0_1 rfl rfl rfl (by decide) (by decide) (Nat.le_of_ble_eq_true rfl) rfl ?_
  refine z_if_ne C 15 dX6_isPending_8 (by decide) (fun h_1 => ?_) (fun h_1 => ?_)
  · refine z_iconst C (nI 0) dX6_isPending_15 (by decide) ?_
    exact z_zret C N dX6_isPending_16 rfl (rfl) (congrArg (fun x => some (Value.int x)) (zb_f (by simp [h_1])).symm)
  · refine z_iconst C (nI 1) dX6_isPending_11 (by decide) ?_
    refine z_goto C 16 dX6_isPending_12 (by decide) ?_
    exact z_zret C N dX6_isPending_16 rfl (rfl) (congrArg (fun x => some (Value.int x)) (zb_t (by simp [h_1])).symm)

theorem kX6_noChange : zY yX6_noChange wsX6_noChange cX6_noChange 2 (some .boolean) 1 := ⟨⟨_, rfl⟩, ⟨by decide +kernel, by decide +kernel, by decide +kernel⟩, by decide +kernel⟩
theorem fX6_noChange_7 : zF wsX6_noChange RX6 7 6 0 RX6 TX6 10 := ⟨by decide +kernel, rfl, by decide, by decide +kernel, rfl⟩
set_option maxHeartbeats 4000000 in
set_option maxRecDepth 100000 in
theorem mX6_noChange_y (E : zE) (a : Nat → Nat) (kp ty pl : Nat) (gd : Bool) (od : Nat) (vU vS : Nat → Nat) (vN : Nat → Int32) (vX vM : Nat) (vT : Bool) (vB vK vY vZ vR vC vV : Nat → Int32) (x : Nat) (hO : okM vU vS vM vK) (hx : x < vM) : zM E yX6_noChange wsX6_noChange 1 [.ref (a 0), .int (nI x)] [((a 0), .inr (6, [.ref (a 1), .ref (a 2), .ref (a 3), .int (nI kp), .int (nI ty), .ref (a 4), .int (nI pl), .int (zb gd), .int (nI od), .ref (a 5)])), ((a 1), .inl (E.2.2.1, 512, .inl (mRow vU vS vN vX vM vT vB vK vY vZ vR vC vV)))] [((a 0), .inr (6, [.ref (a 1), .ref (a 2), .ref (a 3), .int (nI kp), .int (nI ty), .ref (a 4), .int (nI pl), .int (zb gd), .int (nI od), .ref (a 5)])), ((a 1), .inl (E.2.2.1, 512, .inl (mRow vU vS vN vX vM vT vB vK vY vZ vR vC vV)))] (some (.int (zb false))) := by
  refine zM.of kX6_noChange (Nat.le_of_ble_eq_true rfl) rfl [some (.ref (a 0)), some (.int (nI x))] rfl (Nat.le_of_ble_eq_true rfl) ?_
  intro X eX C N
  subst eX
  obtain ⟨hu0, hu1, hM, hk1, hk2, hk3⟩ := id hO
  refine z_iload_n C 1 dX6_noChange_0 rfl rfl ?_
  refine z_iconst C (nI 0) dX6_noChange_1 (by decide) ?_
  refine z_aload_n C 0 dX6_noChange_2 rfl rfl ?_
  refine z_get C fX6_noChange_7 0 dX6_noChange_3 rfl rfl ?_
  refine z_bipush C (nI 51) dX6_noChange_6 (by decide) ?_
  refine z_ialdN C 1 dX6_noChange_8 rfl (by omega) (by decide) ?_
  refine z_top (y := nI (vM)) (zMr_M) ?_
  refine z_iconst C (nI 1) dX6_noChange_9 (by decide) ?_
  refine z_isub C dX6_noChange_10 ?_
  refine z_top (y := nI ((vM) - 1)) ((pk_sub (by omega)).trans (congrArg nI (by omega))) ?_
  refine z_callS C kX6_in gX6_noChange_X6_in (mX6_in_y X.2.1 x ((vM) - 1) (by first | assumption | omega) (by first | assumption | omega)) dX6_noChange_11 [] rfl (by decide) (by decide) (Nat.le_of_ble_eq_true rfl) rfl ?_
  refine z_bif_ne_t C 21 dX6_noChange_14 (by decide) rfl ?_
  refine z_iconst C (nI 0) dX6_noChange_21 (by decide) ?_
  exact z_zret C N dX6_noChange_22 rfl (rfl) (rfl)

set_option maxHeartbeats 4000000 in
set_option maxRecDepth 100000 in
theorem mX6_noChange_n (E : zE) (a : Nat → Nat) (kp ty pl : Nat) (gd : Bool) (od : Nat) (vU vS : Nat → Nat) (vN : Nat → Int32) (vX vM : Nat) (vT : Bool) (vB vK vY vZ vR vC vV : Nat → Int32) (x : Int32) (hO : okM vU vS vM vK) (hx : x < 0 ∨ (¬ x < 0 ∧ nI (vM) ≤ x)) : zM E yX6_noChange wsX6_noChange 1 [.ref (a 0), .int x] [((a 0), .inr (6, [.ref (a 1), .ref (a 2), .ref (a 3), .int (nI kp), .int (nI ty), .ref (a 4), .int (nI pl), .int (zb gd), .int (nI od), .ref (a 5)])), ((a 1), .inl (E.2.2.1, 512, .inl (mRow vU vS vN vX vM vT vB vK vY vZ vR vC vV)))] [((a 0), .inr (6, [.ref (a 1), .ref (a 2), .ref (a 3), .int (nI kp), .int (nI ty), .ref (a 4), .int (nI pl), .int (zb gd), .int (nI od), .ref (a 5)])), ((a 1), .inl (E.2.2.1, 512, .inl (mRow vU vS vN vX vM vT vB vK vY vZ vR vC vV)))] (some (.int (zb true))) := by
  refine zM.of kX6_noChange (Nat.le_of_ble_eq_true rfl) rfl [some (.ref (a 0)), some (.int x)] rfl (Nat.le_of_ble_eq_true rfl) ?_
  intro X eX C N
  subst eX
  obtain ⟨hu0, hu1, hM, hk1, hk2, hk3⟩ := id hO
  refine z_iload_n C 1 dX6_noChange_0 rfl rfl ?_
  refine z_iconst C (nI 0) dX6_noChange_1 (by decide) ?_
  refine z_aload_n C 0 dX6_noChange_2 rfl rfl ?_
  refine z_get C fX6_noChange_7 0 dX6_noChange_3 rfl rfl ?_
  refine z_bipush C (nI 51) dX6_noChange_6 (by decide) ?_
  refine z_ialdN C 1 dX6_noChange_8 rfl (by omega) (by decide) ?_
  refine z_top (y := nI (vM)) (zMr_M) ?_
  refine z_iconst C (nI 1) dX6_noChange_9 (by decide) ?_
  refine z_isub C dX6_noChange_10 ?_
  refine z_top (y := nI (vM) + (-1)) (zi_s _) ?_
  refine z_callS C kX6_in gX6_noChange_X6_in (mX6_in_m X.2.1 x (vM) (by first | assumption | omega) hx) dX6_noChange_11 [] rfl (by decide) (by decide) (Nat.le_of_ble_eq_true rfl) rfl ?_
  refine z_bif_ne_f C 21 dX6_noChange_14 (by decide) rfl ?_
  refine z_iconst C (nI 1) dX6_noChange_17 (by decide) ?_
  refine z_goto C 22 dX6_noChange_18 (by decide) ?_
  exact z_zret C N dX6_noChange_22 rfl (rfl) (rfl)

theorem kX6_baseAt : zY yX6_baseAt wsX6_baseAt cX6_baseAt 3 (some .int) 2 := ⟨⟨_, rfl⟩, ⟨by decide +kernel, by decide +kernel, by decide +kernel⟩, by decide +kernel⟩
set_option maxHeartbeats 4000000 in
set_option maxRecDepth 100000 in
theorem mX6_baseAt_0 (E : zE) (a : Nat → Nat) (kp ty pl : Nat) (gd : Bool) (od : Nat) (vU vS : Nat → Nat) (vN : Nat → Int32) (vX vM : Nat) (vT : Bool) (vB vK vY vZ vR vC vV : Nat → Int32) (i j : Nat) (hO : okM vU vS vM vK) (hi : i < 12) (hj : j < 12) : zM E yX6_baseAt wsX6_baseAt 1 [.ref (a 0), .int (nI i), .int (nI j)] [((a 0), .inr (6, [.ref (a 1), .ref (a 2), .ref (a 3), .int (nI kp), .int (nI ty), .ref (a 4), .int (nI pl), .int (zb gd), .int (nI od), .ref (a 5)])), ((a 1), .inl (E.2.2.1, 512, .inl (mRow vU vS vN vX vM vT vB vK vY vZ vR vC vV)))] [((a 0), .inr (6, [.ref (a 1), .ref (a 2), .ref (a 3), .int (nI kp), .int (nI ty), .ref (a 4), .int (nI pl), .int (zb gd), .int (nI od), .ref (a 5)])), ((a 1), .inl (E.2.2.1, 512, .inl (mRow vU vS vN vX vM vT vB vK vY vZ vR vC vV)))] (some (.int (nI (53 + 8 * mS vS 0 i + mS vS 1 j)))) := by
  refine zM.of kX6_baseAt (Nat.le_of_ble_eq_true rfl) rfl [some (.ref (a 0)), some (.int (nI i)), some (.int (nI j))] rfl (Nat.le_of_ble_eq_true rfl) ?_
  intro X eX C N
  subst eX
  obtain ⟨hu0, hu1, hM, hk1, hk2, hk3⟩ := id hO
  refine z_bipush C (nI 53) dX6_baseAt_0 (by decide) ?_
  refine z_bipush C (nI 8) dX6_baseAt_2 (by decide) ?_
  refine z_aload_n C 0 dX6_baseAt_4 rfl rfl ?_
  refine z_iconst C (nI 0) dX6_baseAt_5 (by decide) ?_
  refine z_iload_n C 1 dX6_baseAt_6 rfl rfl ?_
  refine z_callVr C kX6_slot gX6_baseAt_X6_slot (mX6_slot_0 X.2.1 a kp ty pl gd od vU vS vN vX vM vT vB vK vY vZ vR vC vV i hO hi) dX6_baseAt_7 [0, 1] [.int (nI 8), .int (nI 53)] 0 rfl nd_0_1 rfl rfl rfl (by decide) (by decide) (Nat.le_of_ble_eq_true rfl) rfl ?_
  have hg_1 : mS vS 0 i < 12 := okM_r (by assumption) _
  refine z_imul C dX6_baseAt_10 ?_
  refine z_top (y := nI (8 * (mS vS 0 i))) (pk_mul _ _) ?_
  refine z_iadd C dX6_baseAt_11 ?_
  refine z_top (y := nI (53 + (8 * (mS vS 0 i)))) (nI_add _ _) ?_
  refine z_aload_n C 0 dX6_baseAt_12 rfl rfl ?_
  refine z_iconst C (nI 1) dX6_baseAt_13 (by decide) ?_
  refine z_iload_n C 2 dX6_baseAt_14 rfl rfl ?_
  refine z_callVr C kX6_slot gX6_baseAt_X6_slot (mX6_slot_1 X.2.1 a kp ty pl gd od vU vS vN vX vM vT vB vK vY vZ vR vC vV j hO hj) dX6_baseAt_15 [0, 1] [.int (nI (53 + (8 * (mS vS 0 i))))] 0 rfl nd_0_1 rfl rfl rfl (by decide) (by decide) (Nat.le_of_ble_eq_true rfl) rfl ?_
  have hg_2 : mS vS 1 j < 8 := okM_c (by assumption) _
  refine z_iadd C dX6_baseAt_18 ?_
  refine z_top (y := nI (53 + (8 * (mS vS 0 i)) + (mS vS 1 j))) (nI_add _ _) ?_
  exact z_iret C N dX6_baseAt_19 (rfl) (rfl)

theorem kX6_ofLine : zY yX6_ofLine wsX6_ofLine cX6_ofLine 4 (some .int) 2 := ⟨⟨_, rfl⟩, ⟨by decide +kernel, by decide +kernel, by decide +kernel⟩, by decide +kernel⟩
theorem fX6_ofLine_7 : zF wsX6_ofLine RX6 7 6 0 RX6 TX6 10 := ⟨by decide +kernel, rfl, by decide, by decide +kernel, rfl⟩
set_option maxHeartbeats 4000000 in
set_option maxRecDepth 100000 in
theorem mX6_ofLine_0 (E : zE) (a : Nat → Nat) (kp ty pl : Nat) (gd : Bool) (od : Nat) (vU vS : Nat → Nat) (vN : Nat → Int32) (vX vM : Nat) (vT : Bool) (vB vK vY vZ vR vC vV : Nat → Int32) (nm : Int32) (hO : okM vU vS vM vK) : zM E yX6_ofLine wsX6_ofLine 2 [.ref (a 0), .int (nI 0), .int nm] [((a 0), .inr (6, [.ref (a 1), .ref (a 2), .ref (a 3), .int (nI kp), .int (nI ty), .ref (a 4), .int (nI pl), .int (zb gd), .int (nI od), .ref (a 5)])), ((a 1), .inl (E.2.2.1, 512, .inl (mRow vU vS vN vX vM vT vB vK vY vZ vR vC vV)))] [((a 0), .inr (6, [.ref (a 1), .ref (a 2), .ref (a 3), .int (nI kp), .int (nI ty), .ref (a 4), .int (nI pl), .int (zb gd), .int (nI od), .ref (a 5)])), ((a 1), .inl (E.2.2.1, 512, .inl (mRow vU vS vN vX vM vT vB vK vY vZ vR vC vV)))] (some (.int (zf (mLn vZ vK vR vC 0 nm) (vM)))) := by
  refine zM.of kX6_ofLine (Nat.le_of_ble_eq_true rfl) rfl [some (.ref (a 0)), some (.int (nI 0)), some (.int nm), none] rfl (Nat.le_of_ble_eq_true rfl) ?_
  intro X eX C N
  subst eX
  obtain ⟨hu0, hu1, hM, hk1, hk2, hk3⟩ := id hO
  refine z_iconst C (nI 0) dX6_ofLine_0 (by decide) ?_
  refine z_istore_n C 3 dX6_ofLine_1 rfl (Nat.le_of_ble_eq_true rfl) ?_
  have hL2 : ∀ (dd : Nat) (k : Nat), vM - k = dd → (k ≤ vM) → (∀ j, j < k → (mLn vZ vK vR vC 0 nm) j = false) → zG X 0 0 [((a 0), .inr (6, [.ref (a 1), .ref (a 2), .ref (a 3), .int (nI kp), .int (nI ty), .ref (a 4), .int (nI pl), .int (zb gd), .int (nI od), .ref (a 5)])), ((a 1), .inl (X.2.1.2.2.1, 512, .inl (mRow vU vS vN vX vM vT vB vK vY vZ vR vC vV)))] [some (.ref (a 0)), some (.int (nI 0)), some (.int nm), some (.int (nI k))] [] 2 := by
    intro dd
    induction dd using Nat.strongRecOn with
    | _ dd ih2 =>
    intro k hdd hk hf
    refine z_iload_n C 3 dX6_ofLine_2 rfl rfl ?_
    refine z_aload_n C 0 dX6_ofLine_3 rfl rfl ?_
    refine z_get C fX6_ofLine_7 0 dX6_ofLine_4 rfl rfl ?_
    refine z_bipush C (nI 51) dX6_ofLine_7 (by decide) ?_
    refine z_ialdN C 1 dX6_ofLine_9 rfl (by omega) (by decide) ?_
    refine z_top (y := nI (vM)) (zMr_M) ?_
    refine z_ncmp_ge C 64 dX6_ofLine_10 (by decide) (by omega) (by omega) (fun h_1 => ?_) (fun h_1 => ?_)
    · refine z_bipush C (-5) dX6_ofLine_64 (by decide) ?_
      exact z_iret C N dX6_ofLine_66 (rfl) (by rw [zf_no (fun j hj => hf j (by omega))])
    · refine z_aload_n C 0 dX6_ofLine_13 rfl rfl ?_
      refine z_iload_n C 3 dX6_ofLine_14 rfl rfl ?_
      refine z_callVr C kX6_isPending gX6_ofLine_X6_isPending (mX6_isPending X.2.1 a kp ty pl gd od vU vS vN vX vM vT vB vK vY vZ vR vC vV k (by first | assumption | omega)) dX6_ofLine_15 [0, 1] [] 0 rfl nd_0_1 rfl rfl rfl (by decide) (by decide) (Nat.le_of_ble_eq_true rfl) rfl ?_
      refine z_bif_eq C 58 dX6_ofLine_18 (by decide) (fun h_2 => ?_) (fun h_2 => ?_)
      · refine z_iinc C (nI (k + 1)) dX6_ofLine_58 rfl (zi_1 _) ?_
        refine z_goto C 2 dX6_ofLine_61 (by decide) ?_
        exact ih2 (vM - (k + 1)) (by omega) (k + 1) rfl (by omega) (lt_s hf (by simp [mLn, nI_eq, zz_0, zz_0s, h_1, of_decide_eq_false h_2, h_2]))
      · refine z_aload_n C 0 dX6_ofLine_21 rfl rfl ?_
        refine z_iload_n C 3 dX6_ofLine_22 rfl rfl ?_
        refine z_sipush C (nI 149) dX6_ofLine_23 (by decide) ?_
        refine z_callVr C kX6_of gX6_ofLine_X6_of (mX6_of_K X.2.1 a kp ty pl gd od vU vS vN vX vM vT vB vK vY vZ vR vC vV k (by first | assumption | omega)) dX6_ofLine_26 [0, 1] [] 0 rfl nd_0_1 rfl rfl rfl (by decide) (by decide) (Nat.le_of_ble_eq_true rfl) rfl ?_
        refine z_iload_n C 1 dX6_ofLine_29 rfl rfl ?_
        refine z_icmp_ne C 58 dX6_ofLine_30 (by decide) (fun h_3 => ?_) (fun h_3 => ?_)
        · refine z_iinc C (nI (k + 1)) dX6_ofLine_58 rfl (zi_1 _) ?_
          refine z_goto C 2 dX6_ofLine_61 (by decide) ?_
          exact ih2 (vM - (k + 1)) (by omega) (k + 1) rfl (by omega) (lt_s hf (by simp [mLn, nI_eq, zz_0, zz_0s, h_1, of_decide_eq_true h_2, h_2, h_3]))
        · refine z_aload_n C 0 dX6_ofLine_33 rfl rfl ?_
          refine z_iload_n C 3 dX6_ofLine_34 rfl rfl ?_
          refine z_iload_n C 1 dX6_ofLine_35 rfl rfl ?_
          refine z_iconst C (nI 2) dX6_ofLine_36 (by decide) ?_
          refine z_ncmp_ge_f C 46 dX6_ofLine_37 (by decide) (by omega) (by omega) (by omega) ?_
          refine z_sipush C (nI 329) dX6_ofLine_40 (by decide) ?_
          refine z_goto C 49 dX6_ofLine_43 (by decide) ?_
          refine z_callVr C kX6_of gX6_ofLine_X6_of (mX6_of_R X.2.1 a kp ty pl gd od vU vS vN vX vM vT vB vK vY vZ vR vC vV k (by first | assumption | omega)) dX6_ofLine_49 [0, 1] [] 0 rfl nd_0_1 rfl rfl rfl (by decide) (by decide) (Nat.le_of_ble_eq_true rfl) rfl ?_
          refine z_iload_n C 2 dX6_ofLine_52 rfl rfl ?_
          refine z_icmp_ne C 58 dX6_ofLine_53 (by decide) (fun h_4 => ?_) (fun h_4 => ?_)
          · refine z_iinc C (nI (k + 1)) dX6_ofLine_58 rfl (zi_1 _) ?_
            refine z_goto C 2 dX6_ofLine_61 (by decide) ?_
            exact ih2 (vM - (k + 1)) (by omega) (k + 1) rfl (by omega) (lt_s hf (by simp [mLn, nI_eq, zz_0, zz_0s, h_1, of_decide_eq_true h_2, h_2, h_3, h_4]))
          · refine z_iload_n C 3 dX6_ofLine_56 rfl rfl ?_
            exact z_iret C N dX6_ofLine_57 (rfl) (by rw [zf_at (k := k) (by omega) (by simp [mLn, nI_eq, zz_0, zz_0s, h_1, of_decide_eq_true h_2, h_2, h_3, h_4]) hf (by omega)])
  exact hL2 _ 0 rfl (by omega) (fun j h => absurd h (Nat.not_lt_zero j))

set_option maxHeartbeats 4000000 in
set_option maxRecDepth 100000 in
theorem mX6_ofLine_1 (E : zE) (a : Nat → Nat) (kp ty pl : Nat) (gd : Bool) (od : Nat) (vU vS : Nat → Nat) (vN : Nat → Int32) (vX vM : Nat) (vT : Bool) (vB vK vY vZ vR vC vV : Nat → Int32) (nm : Int32) (hO : okM vU vS vM vK) : zM E yX6_ofLine wsX6_ofLine 2 [.ref (a 0), .int (nI 1), .int nm] [((a 0), .inr (6, [.ref (a 1), .ref (a 2), .ref (a 3), .int (nI kp), .int (nI ty), .ref (a 4), .int (nI pl), .int (zb gd), .int (nI od), .ref (a 5)])), ((a 1), .inl (E.2.2.1, 512, .inl (mRow vU vS vN vX vM vT vB vK vY vZ vR vC vV)))] [((a 0), .inr (6, [.ref (a 1), .ref (a 2), .ref (a 3), .int (nI kp), .int (nI ty), .ref (a 4), .int (nI pl), .int (zb gd), .int (nI od), .ref (a 5)])), ((a 1), .inl (E.2.2.1, 512, .inl (mRow vU vS vN vX vM vT vB vK vY vZ vR vC vV)))] (some (.int (zf (mLn vZ vK vR vC 1 nm) (vM)))) := by
  refine zM.of kX6_ofLine (Nat.le_of_ble_eq_true rfl) rfl [some (.ref (a 0)), some (.int (nI 1)), some (.int nm), none] rfl (Nat.le_of_ble_eq_true rfl) ?_
  intro X eX C N
  subst eX
  obtain ⟨hu0, hu1, hM, hk1, hk2, hk3⟩ := id hO
  refine z_iconst C (nI 0) dX6_ofLine_0 (by decide) ?_
  refine z_istore_n C 3 dX6_ofLine_1 rfl (Nat.le_of_ble_eq_true rfl) ?_
  have hL2 : ∀ (dd : Nat) (k : Nat), vM - k = dd → (k ≤ vM) → (∀ j, j < k → (mLn vZ vK vR vC 1 nm) j = false) → zG X 0 0 [((a 0), .inr (6, [.ref (a 1), .ref (a 2), .ref (a 3), .int (nI kp), .int (nI ty), .ref (a 4), .int (nI pl), .int (zb gd), .int (nI od), .ref (a 5)])), ((a 1), .inl (X.2.1.2.2.1, 512, .inl (mRow vU vS vN vX vM vT vB vK vY vZ vR vC vV)))] [some (.ref (a 0)), some (.int (nI 1)), some (.int nm), some (.int (nI k))] [] 2 := by
    intro dd
    induction dd using Nat.strongRecOn with
    | _ dd ih2 =>
    intro k hdd hk hf
    refine z_iload_n C 3 dX6_ofLine_2 rfl rfl ?_
    refine z_aload_n C 0 dX6_ofLine_3 rfl rfl ?_
    refine z_get C fX6_ofLine_7 0 dX6_ofLine_4 rfl rfl ?_
    refine z_bipush C (nI 51) dX6_ofLine_7 (by decide) ?_
    refine z_ialdN C 1 dX6_ofLine_9 rfl (by omega) (by decide) ?_
    refine z_top (y := nI (vM)) (zMr_M) ?_
    refine z_ncmp_ge C 64 dX6_ofLine_10 (by decide) (by omega) (by omega) (fun h_1 => ?_) (fun h_1 => ?_)
    · refine z_bipush C (-5) dX6_ofLine_64 (by decide) ?_
      exact z_iret C N dX6_ofLine_66 (rfl) (by rw [zf_no (fun j hj => hf j (by omega))])
    · refine z_aload_n C 0 dX6_ofLine_13 rfl rfl ?_
      refine z_iload_n C 3 dX6_ofLine_14 rfl rfl ?_
      refine z_callVr C kX6_isPending gX6_ofLine_X6_isPending (mX6_isPending X.2.1 a kp ty pl gd od vU vS vN vX vM vT vB vK vY vZ vR vC vV k (by first | assumption | omega)) dX6_ofLine_15 [0, 1] [] 0 rfl nd_0_1 rfl rfl rfl (by decide) (by decide) (Nat.le_of_ble_eq_true rfl) rfl ?_
      refine z_bif_eq C 58 dX6_ofLine_18 (by decide) (fun h_2 => ?_) (fun h_2 => ?_)
      · refine z_iinc C (nI (k + 1)) dX6_ofLine_58 rfl (zi_1 _) ?_
        refine z_goto C 2 dX6_ofLine_61 (by decide) ?_
        exact ih2 (vM - (k + 1)) (by omega) (k + 1) rfl (by omega) (lt_s hf (by simp [mLn, nI_eq, zz_0, zz_0s, h_1, of_decide_eq_false h_2, h_2]))
      · refine z_aload_n C 0 dX6_ofLine_21 rfl rfl ?_
        refine z_iload_n C 3 dX6_ofLine_22 rfl rfl ?_
        refine z_sipush C (nI 149) dX6_ofLine_23 (by decide) ?_
        refine z_callVr C kX6_of gX6_ofLine_X6_of (mX6_of_K X.2.1 a kp ty pl gd od vU vS vN vX vM vT vB vK vY vZ vR vC vV k (by first | assumption | omega)) dX6_ofLine_26 [0, 1] [] 0 rfl nd_0_1 rfl rfl rfl (by decide) (by decide) (Nat.le_of_ble_eq_true rfl) rfl ?_
        refine z_iload_n C 1 dX6_ofLine_29 rfl rfl ?_
        refine z_icmp_ne C 58 dX6_ofLine_30 (by decide) (fun h_3 => ?_) (fun h_3 => ?_)
        · refine z_iinc C (nI (k + 1)) dX6_ofLine_58 rfl (zi_1 _) ?_
          refine z_goto C 2 dX6_ofLine_61 (by decide) ?_
          exact ih2 (vM - (k + 1)) (by omega) (k + 1) rfl (by omega) (lt_s hf (by simp [mLn, nI_eq, zz_0, zz_0s, h_1, of_decide_eq_true h_2, h_2, h_3]))
        · refine z_aload_n C 0 dX6_ofLine_33 rfl rfl ?_
          refine z_iload_n C 3 dX6_ofLine_34 rfl rfl ?_
          refine z_iload_n C 1 dX6_ofLine_35 rfl rfl ?_
          refine z_iconst C (nI 2) dX6_ofLine_36 (by decide) ?_
          refine z_ncmp_ge_f C 46 dX6_ofLine_37 (by decide) (by omega) (by omega) (by omega) ?_
          refine z_sipush C (nI 329) dX6_ofLine_40 (by decide) ?_
          refine z_goto C 49 dX6_ofLine_43 (by decide) ?_
          refine z_callVr C kX6_of gX6_ofLine_X6_of (mX6_of_R X.2.1 a kp ty pl gd od vU vS vN vX vM vT vB vK vY vZ vR vC vV k (by first | assumption | omega)) dX6_ofLine_49 [0, 1] [] 0 rfl nd_0_1 rfl rfl rfl (by decide) (by decide) (Nat.le_of_ble_eq_true rfl) rfl ?_
          refine z_iload_n C 2 dX6_ofLine_52 rfl rfl ?_
          refine z_icmp_ne C 58 dX6_ofLine_53 (by decide) (fun h_4 => ?_) (fun h_4 => ?_)
          · refine z_iinc C (nI (k + 1)) dX6_ofLine_58 rfl (zi_1 _) ?_
            refine z_goto C 2 dX6_ofLine_61 (by decide) ?_
            exact ih2 (vM - (k + 1)) (by omega) (k + 1) rfl (by omega) (lt_s hf (by simp [mLn, nI_eq, zz_0, zz_0s, h_1, of_decide_eq_true h_2, h_2, h_3, h_4]))
          · refine z_iload_n C 3 dX6_ofLine_56 rfl rfl ?_
            exact z_iret C N dX6_ofLine_57 (rfl) (by rw [zf_at (k := k) (by omega) (by simp [mLn, nI_eq, zz_0, zz_0s, h_1, of_decide_eq_true h_2, h_2, h_3, h_4]) hf (by omega)])
  exact hL2 _ 0 rfl (by omega) (fun j h => absurd h (Nat.not_lt_zero j))

set_option maxHeartbeats 4000000 in
set_option maxRecDepth 100000 in
theorem mX6_ofLine_2 (E : zE) (a : Nat → Nat) (kp ty pl : Nat) (gd : Bool) (od : Nat) (vU vS : Nat → Nat) (vN : Nat → Int32) (vX vM : Nat) (vT : Bool) (vB vK vY vZ vR vC vV : Nat → Int32) (nm : Int32) (hO : okM vU vS vM vK) : zM E yX6_ofLine wsX6_ofLine 2 [.ref (a 0), .int (nI 2), .int nm] [((a 0), .inr (6, [.ref (a 1), .ref (a 2), .ref (a 3), .int (nI kp), .int (nI ty), .ref (a 4), .int (nI pl), .int (zb gd), .int (nI od), .ref (a 5)])), ((a 1), .inl (E.2.2.1, 512, .inl (mRow vU vS vN vX vM vT vB vK vY vZ vR vC vV)))] [((a 0), .inr (6, [.ref (a 1), .ref (a 2), .ref (a 3), .int (nI kp), .int (nI ty), .ref (a 4), .int (nI pl), .int (zb gd), .int (nI od), .ref (a 5)])), ((a 1), .inl (E.2.2.1, 512, .inl (mRow vU vS vN vX vM vT vB vK vY vZ vR vC vV)))] (some (.int (zf (mLn vZ vK vR vC 2 nm) (vM)))) := by
  refine zM.of kX6_ofLine (Nat.le_of_ble_eq_true rfl) rfl [some (.ref (a 0)), some (.int (nI 2)), some (.int nm), none] rfl (Nat.le_of_ble_eq_true rfl) ?_
  intro X eX C N
  subst eX
  obtain ⟨hu0, hu1, hM, hk1, hk2, hk3⟩ := id hO
  refine z_iconst C (nI 0) dX6_ofLine_0 (by decide) ?_
  refine z_istore_n C 3 dX6_ofLine_1 rfl (Nat.le_of_ble_eq_true rfl) ?_
  have hL2 : ∀ (dd : Nat) (k : Nat), vM - k = dd → (k ≤ vM) → (∀ j, j < k → (mLn vZ vK vR vC 2 nm) j = false) → zG X 0 0 [((a 0), .inr (6, [.ref (a 1), .ref (a 2), .ref (a 3), .int (nI kp), .int (nI ty), .ref (a 4), .int (nI pl), .int (zb gd), .int (nI od), .ref (a 5)])), ((a 1), .inl (X.2.1.2.2.1, 512, .inl (mRow vU vS vN vX vM vT vB vK vY vZ vR vC vV)))] [some (.ref (a 0)), some (.int (nI 2)), some (.int nm), some (.int (nI k))] [] 2 := by
    intro dd
    induction dd using Nat.strongRecOn with
    | _ dd ih2 =>
    intro k hdd hk hf
    refine z_iload_n C 3 dX6_ofLine_2 rfl rfl ?_
    refine z_aload_n C 0 dX6_ofLine_3 rfl rfl ?_
    refine z_get C fX6_ofLine_7 0 dX6_ofLine_4 rfl rfl ?_
    refine z_bipush C (nI 51) dX6_ofLine_7 (by decide) ?_
    refine z_ialdN C 1 dX6_ofLine_9 rfl (by omega) (by decide) ?_
    refine z_top (y := nI (vM)) (zMr_M) ?_
    refine z_ncmp_ge C 64 dX6_ofLine_10 (by decide) (by omega) (by omega) (fun h_1 => ?_) (fun h_1 => ?_)
    · refine z_bipush C (-5) dX6_ofLine_64 (by decide) ?_
      exact z_iret C N dX6_ofLine_66 (rfl) (by rw [zf_no (fun j hj => hf j (by omega))])
    · refine z_aload_n C 0 dX6_ofLine_13 rfl rfl ?_
      refine z_iload_n C 3 dX6_ofLine_14 rfl rfl ?_
      refine z_callVr C kX6_isPending gX6_ofLine_X6_isPending (mX6_isPending X.2.1 a kp ty pl gd od vU vS vN vX vM vT vB vK vY vZ vR vC vV k (by first | assumption | omega)) dX6_ofLine_15 [0, 1] [] 0 rfl nd_0_1 rfl rfl rfl (by decide) (by decide) (Nat.le_of_ble_eq_true rfl) rfl ?_
      refine z_bif_eq C 58 dX6_ofLine_18 (by decide) (fun h_2 => ?_) (fun h_2 => ?_)
      · refine z_iinc C (nI (k + 1)) dX6_ofLine_58 rfl (zi_1 _) ?_
        refine z_goto C 2 dX6_ofLine_61 (by decide) ?_
        exact ih2 (vM - (k + 1)) (by omega) (k + 1) rfl (by omega) (lt_s hf (by simp [mLn, nI_eq, zz_0, zz_0s, h_1, of_decide_eq_false h_2, h_2]))
      · refine z_aload_n C 0 dX6_ofLine_21 rfl rfl ?_
        refine z_iload_n C 3 dX6_ofLine_22 rfl rfl ?_
        refine z_sipush C (nI 149) dX6_ofLine_23 (by decide) ?_
        refine z_callVr C kX6_of gX6_ofLine_X6_of (mX6_of_K X.2.1 a kp ty pl gd od vU vS vN vX vM vT vB vK vY vZ vR vC vV k (by first | assumption | omega)) dX6_ofLine_26 [0, 1] [] 0 rfl nd_0_1 rfl rfl rfl (by decide) (by decide) (Nat.le_of_ble_eq_true rfl) rfl ?_
        refine z_iload_n C 1 dX6_ofLine_29 rfl rfl ?_
        refine z_icmp_ne C 58 dX6_ofLine_30 (by decide) (fun h_3 => ?_) (fun h_3 => ?_)
        · refine z_iinc C (nI (k + 1)) dX6_ofLine_58 rfl (zi_1 _) ?_
          refine z_goto C 2 dX6_ofLine_61 (by decide) ?_
          exact ih2 (vM - (k + 1)) (by omega) (k + 1) rfl (by omega) (lt_s hf (by simp [mLn, nI_eq, zz_0, zz_0s, h_1, of_decide_eq_true h_2, h_2, h_3]))
        · refine z_aload_n C 0 dX6_ofLine_33 rfl rfl ?_
          refine z_iload_n C 3 dX6_ofLine_34 rfl rfl ?_
          refine z_iload_n C 1 dX6_ofLine_35 rfl rfl ?_
          refine z_iconst C (nI 2) dX6_ofLine_36 (by decide) ?_
          refine z_ncmp_ge_t C 46 dX6_ofLine_37 (by decide) (by omega) (by omega) (by omega) ?_
          refine z_sipush C (nI 389) dX6_ofLine_46 (by decide) ?_
          refine z_callVr C kX6_of gX6_ofLine_X6_of (mX6_of_C X.2.1 a kp ty pl gd od vU vS vN vX vM vT vB vK vY vZ vR vC vV k (by first | assumption | omega)) dX6_ofLine_49 [0, 1] [] 0 rfl nd_0_1 rfl rfl rfl (by decide) (by decide) (Nat.le_of_ble_eq_true rfl) rfl ?_
          refine z_iload_n C 2 dX6_ofLine_52 rfl rfl ?_
          refine z_icmp_ne C 58 dX6_ofLine_53 (by decide) (fun h_4 => ?_) (fun h_4 => ?_)
          · refine z_iinc C (nI (k + 1)) dX6_ofLine_58 rfl (zi_1 _) ?_
            refine z_goto C 2 dX6_ofLine_61 (by decide) ?_
            exact ih2 (vM - (k + 1)) (by omega) (k + 1) rfl (by omega) (lt_s hf (by simp [mLn, nI_eq, zz_0, zz_0s, h_1, of_decide_eq_true h_2, h_2, h_3, h_4]))
          · refine z_iload_n C 3 dX6_ofLine_56 rfl rfl ?_
            exact z_iret C N dX6_ofLine_57 (rfl) (by rw [zf_at (k := k) (by omega) (by simp [mLn, nI_eq, zz_0, zz_0s, h_1, of_decide_eq_true h_2, h_2, h_3, h_4]) hf (by omega)])
  exact hL2 _ 0 rfl (by omega) (fun j h => absurd h (Nat.not_lt_zero j))

set_option maxHeartbeats 4000000 in
set_option maxRecDepth 100000 in
theorem mX6_ofLine_3 (E : zE) (a : Nat → Nat) (kp ty pl : Nat) (gd : Bool) (od : Nat) (vU vS : Nat → Nat) (vN : Nat → Int32) (vX vM : Nat) (vT : Bool) (vB vK vY vZ vR vC vV : Nat → Int32) (nm : Int32) (hO : okM vU vS vM vK) : zM E yX6_ofLine wsX6_ofLine 2 [.ref (a 0), .int (nI 3), .int nm] [((a 0), .inr (6, [.ref (a 1), .ref (a 2), .ref (a 3), .int (nI kp), .int (nI ty), .ref (a 4), .int (nI pl), .int (zb gd), .int (nI od), .ref (a 5)])), ((a 1), .inl (E.2.2.1, 512, .inl (mRow vU vS vN vX vM vT vB vK vY vZ vR vC vV)))] [((a 0), .inr (6, [.ref (a 1), .ref (a 2), .ref (a 3), .int (nI kp), .int (nI ty), .ref (a 4), .int (nI pl), .int (zb gd), .int (nI od), .ref (a 5)])), ((a 1), .inl (E.2.2.1, 512, .inl (mRow vU vS vN vX vM vT vB vK vY vZ vR vC vV)))] (some (.int (zf (mLn vZ vK vR vC 3 nm) (vM)))) := by
  refine zM.of kX6_ofLine (Nat.le_of_ble_eq_true rfl) rfl [some (.ref (a 0)), some (.int (nI 3)), some (.int nm), none] rfl (Nat.le_of_ble_eq_true rfl) ?_
  intro X eX C N
  subst eX
  obtain ⟨hu0, hu1, hM, hk1, hk2, hk3⟩ := id hO
  refine z_iconst C (nI 0) dX6_ofLine_0 (by decide) ?_
  refine z_istore_n C 3 dX6_ofLine_1 rfl (Nat.le_of_ble_eq_true rfl) ?_
  have hL2 : ∀ (dd : Nat) (k : Nat), vM - k = dd → (k ≤ vM) → (∀ j, j < k → (mLn vZ vK vR vC 3 nm) j = false) → zG X 0 0 [((a 0), .inr (6, [.ref (a 1), .ref (a 2), .ref (a 3), .int (nI kp), .int (nI ty), .ref (a 4), .int (nI pl), .int (zb gd), .int (nI od), .ref (a 5)])), ((a 1), .inl (X.2.1.2.2.1, 512, .inl (mRow vU vS vN vX vM vT vB vK vY vZ vR vC vV)))] [some (.ref (a 0)), some (.int (nI 3)), some (.int nm), some (.int (nI k))] [] 2 := by
    intro dd
    induction dd using Nat.strongRecOn with
    | _ dd ih2 =>
    intro k hdd hk hf
    refine z_iload_n C 3 dX6_ofLine_2 rfl rfl ?_
    refine z_aload_n C 0 dX6_ofLine_3 rfl rfl ?_
    refine z_get C fX6_ofLine_7 0 dX6_ofLine_4 rfl rfl ?_
    refine z_bipush C (nI 51) dX6_ofLine_7 (by decide) ?_
    refine z_ialdN C 1 dX6_ofLine_9 rfl (by omega) (by decide) ?_
    refine z_top (y := nI (vM)) (zMr_M) ?_
    refine z_ncmp_ge C 64 dX6_ofLine_10 (by decide) (by omega) (by omega) (fun h_1 => ?_) (fun h_1 => ?_)
    · refine z_bipush C (-5) dX6_ofLine_64 (by decide) ?_
      exact z_iret C N dX6_ofLine_66 (rfl) (by rw [zf_no (fun j hj => hf j (by omega))])
    · refine z_aload_n C 0 dX6_ofLine_13 rfl rfl ?_
      refine z_iload_n C 3 dX6_ofLine_14 rfl rfl ?_
      refine z_callVr C kX6_isPending gX6_ofLine_X6_isPending (mX6_isPending X.2.1 a kp ty pl gd od vU vS vN vX vM vT vB vK vY vZ vR vC vV k (by first | assumption | omega)) dX6_ofLine_15 [0, 1] [] 0 rfl nd_0_1 rfl rfl rfl (by decide) (by decide) (Nat.le_of_ble_eq_true rfl) rfl ?_
      refine z_bif_eq C 58 dX6_ofLine_18 (by decide) (fun h_2 => ?_) (fun h_2 => ?_)
      · refine z_iinc C (nI (k + 1)) dX6_ofLine_58 rfl (zi_1 _) ?_
        refine z_goto C 2 dX6_ofLine_61 (by decide) ?_
        exact ih2 (vM - (k + 1)) (by omega) (k + 1) rfl (by omega) (lt_s hf (by simp [mLn, nI_eq, zz_0, zz_0s, h_1, of_decide_eq_false h_2, h_2]))
      · refine z_aload_n C 0 dX6_ofLine_21 rfl rfl ?_
        refine z_iload_n C 3 dX6_ofLine_22 rfl rfl ?_
        refine z_sipush C (nI 149) dX6_ofLine_23 (by decide) ?_
        refine z_callVr C kX6_of gX6_ofLine_X6_of (mX6_of_K X.2.1 a kp ty pl gd od vU vS vN vX vM vT vB vK vY vZ vR vC vV k (by first | assumption | omega)) dX6_ofLine_26 [0, 1] [] 0 rfl nd_0_1 rfl rfl rfl (by decide) (by decide) (Nat.le_of_ble_eq_true rfl) rfl ?_
        refine z_iload_n C 1 dX6_ofLine_29 rfl rfl ?_
        refine z_icmp_ne C 58 dX6_ofLine_30 (by decide) (fun h_3 => ?_) (fun h_3 => ?_)
        · refine z_iinc C (nI (k + 1)) dX6_ofLine_58 rfl (zi_1 _) ?_
          refine z_goto C 2 dX6_ofLine_61 (by decide) ?_
          exact ih2 (vM - (k + 1)) (by omega) (k + 1) rfl (by omega) (lt_s hf (by simp [mLn, nI_eq, zz_0, zz_0s, h_1, of_decide_eq_true h_2, h_2, h_3]))
        · refine z_aload_n C 0 dX6_ofLine_33 rfl rfl ?_
          refine z_iload_n C 3 dX6_ofLine_34 rfl rfl ?_
          refine z_iload_n C 1 dX6_ofLine_35 rfl rfl ?_
          refine z_iconst C (nI 2) dX6_ofLine_36 (by decide) ?_
          refine z_ncmp_ge_t C 46 dX6_ofLine_37 (by decide) (by omega) (by omega) (by omega) ?_
          refine z_sipush C (nI 389) dX6_ofLine_46 (by decide) ?_
          refine z_callVr C kX6_of gX6_ofLine_X6_of (mX6_of_C X.2.1 a kp ty pl gd od vU vS vN vX vM vT vB vK vY vZ vR vC vV k (by first | assumption | omega)) dX6_ofLine_49 [0, 1] [] 0 rfl nd_0_1 rfl rfl rfl (by decide) (by decide) (Nat.le_of_ble_eq_true rfl) rfl ?_
          refine z_iload_n C 2 dX6_ofLine_52 rfl rfl ?_
          refine z_icmp_ne C 58 dX6_ofLine_53 (by decide) (fun h_4 => ?_) (fun h_4 => ?_)
          · refine z_iinc C (nI (k + 1)) dX6_ofLine_58 rfl (zi_1 _) ?_
            refine z_goto C 2 dX6_ofLine_61 (by decide) ?_
            exact ih2 (vM - (k + 1)) (by omega) (k + 1) rfl (by omega) (lt_s hf (by simp [mLn, nI_eq, zz_0, zz_0s, h_1, of_decide_eq_true h_2, h_2, h_3, h_4]))
          · refine z_iload_n C 3 dX6_ofLine_56 rfl rfl ?_
            exact z_iret C N dX6_ofLine_57 (rfl) (by rw [zf_at (k := k) (by omega) (by simp [mLn, nI_eq, zz_0, zz_0s, h_1, of_decide_eq_true h_2, h_2, h_3, h_4]) hf (by omega)])
  exact hL2 _ 0 rfl (by omega) (fun j h => absurd h (Nat.not_lt_zero j))

theorem kX6_insertionOf : zY yX6_insertionOf wsX6_insertionOf cX6_insertionOf 3 (some .int) 2 := ⟨⟨_, rfl⟩, ⟨by decide +kernel, by decide +kernel, by decide +kernel⟩, by decide +kernel⟩
set_option maxHeartbeats 4000000 in
set_option maxRecDepth 100000 in
theorem mX6_insertionOf_0 (E : zE) (a : Nat → Nat) (kp ty pl : Nat) (gd : Bool) (od : Nat) (vU vS : Nat → Nat) (vN : Nat → Int32) (vX vM : Nat) (vT : Bool) (vB vK vY vZ vR vC vV : Nat → Int32) (p : Nat) (hO : okM vU vS vM vK) (hp : p < 12) : zM E yX6_insertionOf wsX6_insertionOf 3 [.ref (a 0), .int (nI 0), .int (nI p)] [((a 0), .inr (6, [.ref (a 1), .ref (a 2), .ref (a 3), .int (nI kp), .int (nI ty), .ref (a 4), .int (nI pl), .int (zb gd), .int (nI od), .ref (a 5)])), ((a 1), .inl (E.2.2.1, 512, .inl (mRow vU vS vN vX vM vT vB vK vY vZ vR vC vV)))] [((a 0), .inr (6, [.ref (a 1), .ref (a 2), .ref (a 3), .int (nI kp), .int (nI ty), .ref (a 4), .int (nI pl), .int (zb gd), .int (nI od), .ref (a 5)])), ((a 1), .inl (E.2.2.1, 512, .inl (mRow vU vS vN vX vM vT vB vK vY vZ vR vC vV)))] (some (.int (mIn vZ vK vR vC vS vN vM 0 p))) := by
  refine zM.of kX6_insertionOf (Nat.le_of_ble_eq_true rfl) rfl [some (.ref (a 0)), some (.int (nI 0)), some (.int (nI p))] rfl (Nat.le_of_ble_eq_true rfl) ?_
  intro X eX C N
  subst eX
  obtain ⟨hu0, hu1, hM, hk1, hk2, hk3⟩ := id hO
  refine z_aload_n C 0 dX6_insertionOf_0 rfl rfl ?_
  refine z_iconst C (nI 2) dX6_insertionOf_1 (by decide) ?_
  refine z_iload_n C 1 dX6_insertionOf_2 rfl rfl ?_
  refine z_imul C dX6_insertionOf_3 ?_
  refine z_top (y := nI 0) (pk_mul _ _) ?_
  refine z_aload_n C 0 dX6_insertionOf_4 rfl rfl ?_
  refine z_iload_n C 1 dX6_insertionOf_5 rfl rfl ?_
  refine z_iload_n C 2 dX6_insertionOf_6 rfl rfl ?_
  refine z_callVr C kX6_nameAt gX6_insertionOf_X6_nameAt (mX6_nameAt_0 X.2.1 a kp ty pl gd od vU vS vN vX vM vT vB vK vY vZ vR vC vV p hO hp) dX6_insertionOf_7 [0, 1] [.int (nI 0), .ref (a 0)] 0 rfl nd_0_1 rfl rfl rfl (by decide) (by decide) (Nat.le_of_ble_eq_true rfl) rfl ?_
  refine z_callVr C kX6_ofLine gX6_insertionOf_X6_ofLine (mX6_ofLine_0 X.2.1 a kp ty pl gd od vU vS vN vX vM vT vB vK vY vZ vR vC vV (mN vS vN 0 p) hO) dX6_insertionOf_10 [0, 1] [] 0 rfl nd_0_1 rfl rfl rfl (by decide) (by decide) (Nat.le_of_ble_eq_true rfl) rfl ?_
  exact z_iret C N dX6_insertionOf_13 (rfl) (rfl)

theorem kX6_removalOf : zY yX6_removalOf wsX6_removalOf cX6_removalOf 3 (some .int) 2 := ⟨⟨_, rfl⟩, ⟨by decide +kernel, by decide +kernel, by decide +kernel⟩, by decide +kernel⟩
set_option maxHeartbeats 4000000 in
set_option maxRecDepth 100000 in
theorem mX6_removalOf_0 (E : zE) (a : Nat → Nat) (kp ty pl : Nat) (gd : Bool) (od : Nat) (vU vS : Nat → Nat) (vN : Nat → Int32) (vX vM : Nat) (vT : Bool) (vB vK vY vZ vR vC vV : Nat → Int32) (p : Nat) (hO : okM vU vS vM vK) (hp : p < 12) : zM E yX6_removalOf wsX6_removalOf 3 [.ref (a 0), .int (nI 0), .int (nI p)] [((a 0), .inr (6, [.ref (a 1), .ref (a 2), .ref (a 3), .int (nI kp), .int (nI ty), .ref (a 4), .int (nI pl), .int (zb gd), .int (nI od), .ref (a 5)])), ((a 1), .inl (E.2.2.1, 512, .inl (mRow vU vS vN vX vM vT vB vK vY vZ vR vC vV)))] [((a 0), .inr (6, [.ref (a 1), .ref (a 2), .ref (a 3), .int (nI kp), .int (nI ty), .ref (a 4), .int (nI pl), .int (zb gd), .int (nI od), .ref (a 5)])), ((a 1), .inl (E.2.2.1, 512, .inl (mRow vU vS vN vX vM vT vB vK vY vZ vR vC vV)))] (some (.int (mRm vZ vK vR vC vS vN vM 0 p))) := by
  refine zM.of kX6_removalOf (Nat.le_of_ble_eq_true rfl) rfl [some (.ref (a 0)), some (.int (nI 0)), some (.int (nI p))] rfl (Nat.le_of_ble_eq_true rfl) ?_
  intro X eX C N
  subst eX
  obtain ⟨hu0, hu1, hM, hk1, hk2, hk3⟩ := id hO
  refine z_aload_n C 0 dX6_removalOf_0 rfl rfl ?_
  refine z_iconst C (nI 2) dX6_removalOf_1 (by decide) ?_
  refine z_iload_n C 1 dX6_removalOf_2 rfl rfl ?_
  refine z_imul C dX6_removalOf_3 ?_
  refine z_top (y := nI 0) (pk_mul _ _) ?_
  refine z_iconst C (nI 1) dX6_removalOf_4 (by decide) ?_
  refine z_iadd C dX6_removalOf_5 ?_
  refine z_top (y := nI 1) (nI_add _ _) ?_
  refine z_aload_n C 0 dX6_removalOf_6 rfl rfl ?_
  refine z_iload_n C 1 dX6_removalOf_7 rfl rfl ?_
  refine z_iload_n C 2 dX6_removalOf_8 rfl rfl ?_
  refine z_callVr C kX6_nameAt gX6_removalOf_X6_nameAt (mX6_nameAt_0 X.2.1 a kp ty pl gd od vU vS vN vX vM vT vB vK vY vZ vR vC vV p hO hp) dX6_removalOf_9 [0, 1] [.int (nI 1), .ref (a 0)] 0 rfl nd_0_1 rfl rfl rfl (by decide) (by decide) (Nat.le_of_ble_eq_true rfl) rfl ?_
  refine z_callVr C kX6_ofLine gX6_removalOf_X6_ofLine (mX6_ofLine_1 X.2.1 a kp ty pl gd od vU vS vN vX vM vT vB vK vY vZ vR vC vV (mN vS vN 0 p) hO) dX6_removalOf_12 [0, 1] [] 0 rfl nd_0_1 rfl rfl rfl (by decide) (by decide) (Nat.le_of_ble_eq_true rfl) rfl ?_
  exact z_iret C N dX6_removalOf_15 (rfl) (rfl)

theorem kX6_isNew : zY yX6_isNew wsX6_isNew cX6_isNew 3 (some .boolean) 2 := ⟨⟨_, rfl⟩, ⟨by decide +kernel, by decide +kernel, by decide +kernel⟩, by decide +kernel⟩
set_option maxHeartbeats 4000000 in
set_option maxRecDepth 100000 in
theorem mX6_isNew_0 (E : zE) (a : Nat → Nat) (kp ty pl : Nat) (gd : Bool) (od : Nat) (vU vS : Nat → Nat) (vN : Nat → Int32) (vX vM : Nat) (vT : Bool) (vB vK vY vZ vR vC vV : Nat → Int32) (p : Nat) (hO : okM vU vS vM vK) (hp : p < 12) : zM E yX6_isNew wsX6_isNew 4 [.ref (a 0), .int (nI 0), .int (nI p)] [((a 0), .inr (6, [.ref (a 1), .ref (a 2), .ref (a 3), .int (nI kp), .int (nI ty), .ref (a 4), .int (nI pl), .int (zb gd), .int (nI od), .ref (a 5)])), ((a 1), .inl (E.2.2.1, 512, .inl (mRow vU vS vN vX vM vT vB vK vY vZ vR vC vV)))] [((a 0), .inr (6, [.ref (a 1), .ref (a 2), .ref (a 3), .int (nI kp), .int (nI ty), .ref (a 4), .int (nI pl), .int (zb gd), .int (nI od), .ref (a 5)])), ((a 1), .inl (E.2.2.1, 512, .inl (mRow vU vS vN vX vM vT vB vK vY vZ vR vC vV)))] (some (.int (zb (mNw vZ vK vR vC vS vN vM 0 p)))) := by
  refine zM.of kX6_isNew (Nat.le_of_ble_eq_true rfl) rfl [some (.ref (a 0)), some (.int (nI 0)), some (.int (nI p))] rfl (Nat.le_of_ble_eq_true rfl) ?_
  intro X eX C N
  subst eX
  obtain ⟨hu0, hu1, hM, hk1, hk2, hk3⟩ := id hO
  refine z_aload_n C 0 dX6_isNew_0 rfl rfl ?_
  refine z_iload_n C 1 dX6_isNew_1 rfl rfl ?_
  refine z_iload_n C 2 dX6_isNew_2 rfl rfl ?_
  refine z_callVr C kX6_insertionOf gX6_isNew_X6_insertionOf (mX6_insertionOf_0 X.2.1 a kp ty pl gd od vU vS vN vX vM vT vB vK vY vZ vR vC vV p hO hp) dX6_isNew_3 [0, 1] [] 0 rfl nd_0_1 rfl rfl rfl (by decide) (by decide) (Nat.le_of_ble_eq_true rfl) rfl ?_
  refine z_if_lt C 13 dX6_isNew_6 (by decide) (fun h_1 => ?_) (fun h_1 => ?_)
  · refine z_iconst C (nI 0) dX6_isNew_13 (by decide) ?_
    exact z_zret C N dX6_isNew_14 rfl (rfl) (congrArg (fun x => some (Value.int x)) (zb_f (by simp [mNw, h_1])).symm)
  · refine z_iconst C (nI 1) dX6_isNew_9 (by decide) ?_
    refine z_goto C 14 dX6_isNew_10 (by decide) ?_
    exact z_zret C N dX6_isNew_14 rfl (rfl) (congrArg (fun x => some (Value.int x)) (zb_t (by simp [mNw, Int32.not_lt.mp h_1, h_1])).symm)

theorem kX6_isDoomed : zY yX6_isDoomed wsX6_isDoomed cX6_isDoomed 3 (some .boolean) 2 := ⟨⟨_, rfl⟩, ⟨by decide +kernel, by decide +kernel, by decide +kernel⟩, by decide +kernel⟩
set_option maxHeartbeats 4000000 in
set_option maxRecDepth 100000 in
theorem mX6_isDoomed_0 (E : zE) (a : Nat → Nat) (kp ty pl : Nat) (gd : Bool) (od : Nat) (vU vS : Nat → Nat) (vN : Nat → Int32) (vX vM : Nat) (vT : Bool) (vB vK vY vZ vR vC vV : Nat → Int32) (p : Nat) (hO : okM vU vS vM vK) (hp : p < 12) : zM E yX6_isDoomed wsX6_isDoomed 4 [.ref (a 0), .int (nI 0), .int (nI p)] [((a 0), .inr (6, [.ref (a 1), .ref (a 2), .ref (a 3), .int (nI kp), .int (nI ty), .ref (a 4), .int (nI pl), .int (zb gd), .int (nI od), .ref (a 5)])), ((a 1), .inl (E.2.2.1, 512, .inl (mRow vU vS vN vX vM vT vB vK vY vZ vR vC vV)))] [((a 0), .inr (6, [.ref (a 1), .ref (a 2), .ref (a 3), .int (nI kp), .int (nI ty), .ref (a 4), .int (nI pl), .int (zb gd), .int (nI od), .ref (a 5)])), ((a 1), .inl (E.2.2.1, 512, .inl (mRow vU vS vN vX vM vT vB vK vY vZ vR vC vV)))] (some (.int (zb (mDm vZ vK vR vC vS vN vM 0 p)))) := by
  refine zM.of kX6_isDoomed (Nat.le_of_ble_eq_true rfl) rfl [some (.ref (a 0)), some (.int (nI 0)), some (.int (nI p))] rfl (Nat.le_of_ble_eq_true rfl) ?_
  intro X eX C N
  subst eX
  obtain ⟨hu0, hu1, hM, hk1, hk2, hk3⟩ := id hO
  refine z_aload_n C 0 dX6_isDoomed_0 rfl rfl ?_
  refine z_iload_n C 1 dX6_isDoomed_1 rfl rfl ?_
  refine z_iload_n C 2 dX6_isDoomed_2 rfl rfl ?_
  refine z_callVr C kX6_removalOf gX6_isDoomed_X6_removalOf (mX6_removalOf_0 X.2.1 a kp ty pl gd od vU vS vN vX vM vT vB vK vY vZ vR vC vV p hO hp) dX6_isDoomed_3 [0, 1] [] 0 rfl nd_0_1 rfl rfl rfl (by decide) (by decide) (Nat.le_of_ble_eq_true rfl) rfl ?_
  refine z_if_lt C 13 dX6_isDoomed_6 (by decide) (fun h_1 => ?_) (fun h_1 => ?_)
  · refine z_iconst C (nI 0) dX6_isDoomed_13 (by decide) ?_
    exact z_zret C N dX6_isDoomed_14 rfl (rfl) (congrArg (fun x => some (Value.int x)) (zb_f (by simp [mDm, h_1])).symm)
  · refine z_iconst C (nI 1) dX6_isDoomed_9 (by decide) ?_
    refine z_goto C 14 dX6_isDoomed_10 (by decide) ?_
    exact z_zret C N dX6_isDoomed_14 rfl (rfl) (congrArg (fun x => some (Value.int x)) (zb_t (by simp [mDm, Int32.not_lt.mp h_1, h_1])).symm)

set_option maxHeartbeats 4000000 in
set_option maxRecDepth 100000 in
theorem mX6_insertionOf_1 (E : zE) (a : Nat → Nat) (kp ty pl : Nat) (gd : Bool) (od : Nat) (vU vS : Nat → Nat) (vN : Nat → Int32) (vX vM : Nat) (vT : Bool) (vB vK vY vZ vR vC vV : Nat → Int32) (p : Nat) (hO : okM vU vS vM vK) (hp : p < 12) : zM E yX6_insertionOf wsX6_insertionOf 3 [.ref (a 0), .int (nI 1), .int (nI p)] [((a 0), .inr (6, [.ref (a 1), .ref (a 2), .ref (a 3), .int (nI kp), .int (nI ty), .ref (a 4), .int (nI pl), .int (zb gd), .int (nI od), .ref (a 5)])), ((a 1), .inl (E.2.2.1, 512, .inl (mRow vU vS vN vX vM vT vB vK vY vZ vR vC vV)))] [((a 0), .inr (6, [.ref (a 1), .ref (a 2), .ref (a 3), .int (nI kp), .int (nI ty), .ref (a 4), .int (nI pl), .int (zb gd), .int (nI od), .ref (a 5)])), ((a 1), .inl (E.2.2.1, 512, .inl (mRow vU vS vN vX vM vT vB vK vY vZ vR vC vV)))] (some (.int (mIn vZ vK vR vC vS vN vM 1 p))) := by
  refine zM.of kX6_insertionOf (Nat.le_of_ble_eq_true rfl) rfl [some (.ref (a 0)), some (.int (nI 1)), some (.int (nI p))] rfl (Nat.le_of_ble_eq_true rfl) ?_
  intro X eX C N
  subst eX
  obtain ⟨hu0, hu1, hM, hk1, hk2, hk3⟩ := id hO
  refine z_aload_n C 0 dX6_insertionOf_0 rfl rfl ?_
  refine z_iconst C (nI 2) dX6_insertionOf_1 (by decide) ?_
  refine z_iload_n C 1 dX6_insertionOf_2 rfl rfl ?_
  refine z_imul C dX6_insertionOf_3 ?_
  refine z_top (y := nI 2) (pk_mul _ _) ?_
  refine z_aload_n C 0 dX6_insertionOf_4 rfl rfl ?_
  refine z_iload_n C 1 dX6_insertionOf_5 rfl rfl ?_
  refine z_iload_n C 2 dX6_insertionOf_6 rfl rfl ?_
  refine z_callVr C kX6_nameAt gX6_insertionOf_X6_nameAt (mX6_nameAt_1 X.2.1 a kp ty pl gd od vU vS vN vX vM vT vB vK vY vZ vR vC vV p hO hp) dX6_insertionOf_7 [0, 1] [.int (nI 2), .ref (a 0)] 0 rfl nd_0_1 rfl rfl rfl (by decide) (by decide) (Nat.le_of_ble_eq_true rfl) rfl ?_
  refine z_callVr C kX6_ofLine gX6_insertionOf_X6_ofLine (mX6_ofLine_2 X.2.1 a kp ty pl gd od vU vS vN vX vM vT vB vK vY vZ vR vC vV (mN vS vN 1 p) hO) dX6_insertionOf_10 [0, 1] [] 0 rfl nd_0_1 rfl rfl rfl (by decide) (by decide) (Nat.le_of_ble_eq_true rfl) rfl ?_
  exact z_iret C N dX6_insertionOf_13 (rfl) (rfl)

set_option maxHeartbeats 4000000 in
set_option maxRecDepth 100000 in
theorem mX6_removalOf_1 (E : zE) (a : Nat → Nat) (kp ty pl : Nat) (gd : Bool) (od : Nat) (vU vS : Nat → Nat) (vN : Nat → Int32) (vX vM : Nat) (vT : Bool) (vB vK vY vZ vR vC vV : Nat → Int32) (p : Nat) (hO : okM vU vS vM vK) (hp : p < 12) : zM E yX6_removalOf wsX6_removalOf 3 [.ref (a 0), .int (nI 1), .int (nI p)] [((a 0), .inr (6, [.ref (a 1), .ref (a 2), .ref (a 3), .int (nI kp), .int (nI ty), .ref (a 4), .int (nI pl), .int (zb gd), .int (nI od), .ref (a 5)])), ((a 1), .inl (E.2.2.1, 512, .inl (mRow vU vS vN vX vM vT vB vK vY vZ vR vC vV)))] [((a 0), .inr (6, [.ref (a 1), .ref (a 2), .ref (a 3), .int (nI kp), .int (nI ty), .ref (a 4), .int (nI pl), .int (zb gd), .int (nI od), .ref (a 5)])), ((a 1), .inl (E.2.2.1, 512, .inl (mRow vU vS vN vX vM vT vB vK vY vZ vR vC vV)))] (some (.int (mRm vZ vK vR vC vS vN vM 1 p))) := by
  refine zM.of kX6_removalOf (Nat.le_of_ble_eq_true rfl) rfl [some (.ref (a 0)), some (.int (nI 1)), some (.int (nI p))] rfl (Nat.le_of_ble_eq_true rfl) ?_
  intro X eX C N
  subst eX
  obtain ⟨hu0, hu1, hM, hk1, hk2, hk3⟩ := id hO
  refine z_aload_n C 0 dX6_removalOf_0 rfl rfl ?_
  refine z_iconst C (nI 2) dX6_removalOf_1 (by decide) ?_
  refine z_iload_n C 1 dX6_removalOf_2 rfl rfl ?_
  refine z_imul C dX6_removalOf_3 ?_
  refine z_top (y := nI 2) (pk_mul _ _) ?_
  refine z_iconst C (nI 1) dX6_removalOf_4 (by decide) ?_
  refine z_iadd C dX6_removalOf_5 ?_
  refine z_top (y := nI 3) (nI_add _ _) ?_
  refine z_aload_n C 0 dX6_removalOf_6 rfl rfl ?_
  refine z_iload_n C 1 dX6_removalOf_7 rfl rfl ?_
  refine z_iload_n C 2 dX6_removalOf_8 rfl rfl ?_
  refine z_callVr C kX6_nameAt gX6_removalOf_X6_nameAt (mX6_nameAt_1 X.2.1 a kp ty pl gd od vU vS vN vX vM vT vB vK vY vZ vR vC vV p hO hp) dX6_removalOf_9 [0, 1] [.int (nI 3), .ref (a 0)] 0 rfl nd_0_1 rfl rfl rfl (by decide) (by decide) (Nat.le_of_ble_eq_true rfl) rfl ?_
  refine z_callVr C kX6_ofLine gX6_removalOf_X6_ofLine (mX6_ofLine_3 X.2.1 a kp ty pl gd od vU vS vN vX vM vT vB vK vY vZ vR vC vV (mN vS vN 1 p) hO) dX6_removalOf_12 [0, 1] [] 0 rfl nd_0_1 rfl rfl rfl (by decide) (by decide) (Nat.le_of_ble_eq_true rfl) rfl ?_
  exact z_iret C N dX6_removalOf_15 (rfl) (rfl)

set_option maxHeartbeats 4000000 in
set_option maxRecDepth 100000 in
theorem mX6_isNew_1 (E : zE) (a : Nat → Nat) (kp ty pl : Nat) (gd : Bool) (od : Nat) (vU vS : Nat → Nat) (vN : Nat → Int32) (vX vM : Nat) (vT : Bool) (vB vK vY vZ vR vC vV : Nat → Int32) (p : Nat) (hO : okM vU vS vM vK) (hp : p < 12) : zM E yX6_isNew wsX6_isNew 4 [.ref (a 0), .int (nI 1), .int (nI p)] [((a 0), .inr (6, [.ref (a 1), .ref (a 2), .ref (a 3), .int (nI kp), .int (nI ty), .ref (a 4), .int (nI pl), .int (zb gd), .int (nI od), .ref (a 5)])), ((a 1), .inl (E.2.2.1, 512, .inl (mRow vU vS vN vX vM vT vB vK vY vZ vR vC vV)))] [((a 0), .inr (6, [.ref (a 1), .ref (a 2), .ref (a 3), .int (nI kp), .int (nI ty), .ref (a 4), .int (nI pl), .int (zb gd), .int (nI od), .ref (a 5)])), ((a 1), .inl (E.2.2.1, 512, .inl (mRow vU vS vN vX vM vT vB vK vY vZ vR vC vV)))] (some (.int (zb (mNw vZ vK vR vC vS vN vM 1 p)))) := by
  refine zM.of kX6_isNew (Nat.le_of_ble_eq_true rfl) rfl [some (.ref (a 0)), some (.int (nI 1)), some (.int (nI p))] rfl (Nat.le_of_ble_eq_true rfl) ?_
  intro X eX C N
  subst eX
  obtain ⟨hu0, hu1, hM, hk1, hk2, hk3⟩ := id hO
  refine z_aload_n C 0 dX6_isNew_0 rfl rfl ?_
  refine z_iload_n C 1 dX6_isNew_1 rfl rfl ?_
  refine z_iload_n C 2 dX6_isNew_2 rfl rfl ?_
  refine z_callVr C kX6_insertionOf gX6_isNew_X6_insertionOf (mX6_insertionOf_1 X.2.1 a kp ty pl gd od vU vS vN vX vM vT vB vK vY vZ vR vC vV p hO hp) dX6_isNew_3 [0, 1] [] 0 rfl nd_0_1 rfl rfl rfl (by decide) (by decide) (Nat.le_of_ble_eq_true rfl) rfl ?_
  refine z_if_lt C 13 dX6_isNew_6 (by decide) (fun h_1 => ?_) (fun h_1 => ?_)
  · refine z_iconst C (nI 0) dX6_isNew_13 (by decide) ?_
    exact z_zret C N dX6_isNew_14 rfl (rfl) (congrArg (fun x => some (Value.int x)) (zb_f (by simp [mNw, h_1])).symm)
  · refine z_iconst C (nI 1) dX6_isNew_9 (by decide) ?_
    refine z_goto C 14 dX6_isNew_10 (by decide) ?_
    exact z_zret C N dX6_isNew_14 rfl (rfl) (congrArg (fun x => some (Value.int x)) (zb_t (by simp [mNw, Int32.not_lt.mp h_1, h_1])).symm)

set_option maxHeartbeats 4000000 in
set_option maxRecDepth 100000 in
theorem mX6_isDoomed_1 (E : zE) (a : Nat → Nat) (kp ty pl : Nat) (gd : Bool) (od : Nat) (vU vS : Nat → Nat) (vN : Nat → Int32) (vX vM : Nat) (vT : Bool) (vB vK vY vZ vR vC vV : Nat → Int32) (p : Nat) (hO : okM vU vS vM vK) (hp : p < 12) : zM E yX6_isDoomed wsX6_isDoomed 4 [.ref (a 0), .int (nI 1), .int (nI p)] [((a 0), .inr (6, [.ref (a 1), .ref (a 2), .ref (a 3), .int (nI kp), .int (nI ty), .ref (a 4), .int (nI pl), .int (zb gd), .int (nI od), .ref (a 5)])), ((a 1), .inl (E.2.2.1, 512, .inl (mRow vU vS vN vX vM vT vB vK vY vZ vR vC vV)))] [((a 0), .inr (6, [.ref (a 1), .ref (a 2), .ref (a 3), .int (nI kp), .int (nI ty), .ref (a 4), .int (nI pl), .int (zb gd), .int (nI od), .ref (a 5)])), ((a 1), .inl (E.2.2.1, 512, .inl (mRow vU vS vN vX vM vT vB vK vY vZ vR vC vV)))] (some (.int (zb (mDm vZ vK vR vC vS vN vM 1 p)))) := by
  refine zM.of kX6_isDoomed (Nat.le_of_ble_eq_true rfl) rfl [some (.ref (a 0)), some (.int (nI 1)), some (.int (nI p))] rfl (Nat.le_of_ble_eq_true rfl) ?_
  intro X eX C N
  subst eX
  obtain ⟨hu0, hu1, hM, hk1, hk2, hk3⟩ := id hO
  refine z_aload_n C 0 dX6_isDoomed_0 rfl rfl ?_
  refine z_iload_n C 1 dX6_isDoomed_1 rfl rfl ?_
  refine z_iload_n C 2 dX6_isDoomed_2 rfl rfl ?_
  refine z_callVr C kX6_removalOf gX6_isDoomed_X6_removalOf (mX6_removalOf_1 X.2.1 a kp ty pl gd od vU vS vN vX vM vT vB vK vY vZ vR vC vV p hO hp) dX6_isDoomed_3 [0, 1] [] 0 rfl nd_0_1 rfl rfl rfl (by decide) (by decide) (Nat.le_of_ble_eq_true rfl) rfl ?_
  refine z_if_lt C 13 dX6_isDoomed_6 (by decide) (fun h_1 => ?_) (fun h_1 => ?_)
  · refine z_iconst C (nI 0) dX6_isDoomed_13 (by decide) ?_
    exact z_zret C N dX6_isDoomed_14 rfl (rfl) (congrArg (fun x => some (Value.int x)) (zb_f (by simp [mDm, h_1])).symm)
  · refine z_iconst C (nI 1) dX6_isDoomed_9 (by decide) ?_
    refine z_goto C 14 dX6_isDoomed_10 (by decide) ?_
    exact z_zret C N dX6_isDoomed_14 rfl (rfl) (congrArg (fun x => some (Value.int x)) (zb_t (by simp [mDm, Int32.not_lt.mp h_1, h_1])).symm)

theorem kX6_isSettingOf : zY yX6_isSettingOf wsX6_isSettingOf cX6_isSettingOf 4 (some .boolean) 3 := ⟨⟨_, rfl⟩, ⟨by decide +kernel, by decide +kernel, by decide +kernel⟩, by decide +kernel⟩
set_option maxHeartbeats 4000000 in
set_option maxRecDepth 100000 in
theorem mX6_isSettingOf (E : zE) (a : Nat → Nat) (kp ty pl : Nat) (gd : Bool) (od : Nat) (vU vS : Nat → Nat) (vN : Nat → Int32) (vX vM : Nat) (vT : Bool) (vB vK vY vZ vR vC vV : Nat → Int32) (x : Nat) (r c : Int32) (hx : x < 60) : zM E yX6_isSettingOf wsX6_isSettingOf 2 [.ref (a 0), .int (nI x), .int r, .int c] [((a 0), .inr (6, [.ref (a 1), .ref (a 2), .ref (a 3), .int (nI kp), .int (nI ty), .ref (a 4), .int (nI pl), .int (zb gd), .int (nI od), .ref (a 5)])), ((a 1), .inl (E.2.2.1, 512, .inl (mRow vU vS vN vX vM vT vB vK vY vZ vR vC vV)))] [((a 0), .inr (6, [.ref (a 1), .ref (a 2), .ref (a 3), .int (nI kp), .int (nI ty), .ref (a 4), .int (nI pl), .int (zb gd), .int (nI od), .ref (a 5)])), ((a 1), .inl (E.2.2.1, 512, .inl (mRow vU vS vN vX vM vT vB vK vY vZ vR vC vV)))] (some (.int (zb (mSt vZ vK vR vC r c x)))) := by
  refine zM.of kX6_isSettingOf (Nat.le_of_ble_eq_true rfl) rfl [some (.ref (a 0)), some (.int (nI x)), some (.int r), some (.int c)] rfl (Nat.le_of_ble_eq_true rfl) ?_
  intro X eX C N
  subst eX
  refine z_aload_n C 0 dX6_isSettingOf_0 rfl rfl ?_
  refine z_iload_n C 1 dX6_isSettingOf_1 rfl rfl ?_
  refine z_callVr C kX6_isPending gX6_isSettingOf_X6_isPending (mX6_isPending X.2.1 a kp ty pl gd od vU vS vN vX vM vT vB vK vY vZ vR vC vV x hx) dX6_isSettingOf_2 [0, 1] [] 0 rfl nd_0_1 rfl rfl rfl (by decide) (by decide) (Nat.le_of_ble_eq_true rfl) rfl ?_
  refine z_bif_eq C 48 dX6_isSettingOf_5 (by decide) (fun h_1 => ?_) (fun h_1 => ?_)
  · refine z_iconst C (nI 0) dX6_isSettingOf_48 (by decide) ?_
    exact z_zret C N dX6_isSettingOf_49 rfl (rfl) (congrArg (fun x => some (Value.int x)) (zb_f (by simp [mSt, nI_eq, zz_0, zz_0s, of_decide_eq_false h_1, h_1])).symm)
  · refine z_aload_n C 0 dX6_isSettingOf_8 rfl rfl ?_
    refine z_iload_n C 1 dX6_isSettingOf_9 rfl rfl ?_
    refine z_sipush C (nI 149) dX6_isSettingOf_10 (by decide) ?_
    refine z_callVr C kX6_of gX6_isSettingOf_X6_of (mX6_of_K X.2.1 a kp ty pl gd od vU vS vN vX vM vT vB vK vY vZ vR vC vV x hx) dX6_isSettingOf_13 [0, 1] [] 0 rfl nd_0_1 rfl rfl rfl (by decide) (by decide) (Nat.le_of_ble_eq_true rfl) rfl ?_
    refine z_iconst C (nI 4) dX6_isSettingOf_16 (by decide) ?_
    refine z_icmp_ne C 48 dX6_isSettingOf_17 (by decide) (fun h_2 => ?_) (fun h_2 => ?_)
    · refine z_iconst C (nI 0) dX6_isSettingOf_48 (by decide) ?_
      exact z_zret C N dX6_isSettingOf_49 rfl (rfl) (congrArg (fun x => some (Value.int x)) (zb_f (by simp [mSt, nI_eq, zz_0, zz_0s, of_decide_eq_true h_1, h_1, h_2])).symm)
    · refine z_aload_n C 0 dX6_isSettingOf_20 rfl rfl ?_
      refine z_iload_n C 1 dX6_isSettingOf_21 rfl rfl ?_
      refine z_sipush C (nI 329) dX6_isSettingOf_22 (by decide) ?_
      refine z_callVr C kX6_of gX6_isSettingOf_X6_of (mX6_of_R X.2.1 a kp ty pl gd od vU vS vN vX vM vT vB vK vY vZ vR vC vV x hx) dX6_isSettingOf_25 [0, 1] [] 0 rfl nd_0_1 rfl rfl rfl (by decide) (by decide) (Nat.le_of_ble_eq_true rfl) rfl ?_
      refine z_iload_n C 2 dX6_isSettingOf_28 rfl rfl ?_
      refine z_icmp_ne C 48 dX6_isSettingOf_29 (by decide) (fun h_3 => ?_) (fun h_3 => ?_)
      · refine z_iconst C (nI 0) dX6_isSettingOf_48 (by decide) ?_
        exact z_zret C N dX6_isSettingOf_49 rfl (rfl) (congrArg (fun x => some (Value.int x)) (zb_f (by simp [mSt, nI_eq, zz_0, zz_0s, of_decide_eq_true h_1, h_1, h_2, h_3])).symm)
      · refine z_aload_n C 0 dX6_isSettingOf_32 rfl rfl ?_
        refine z_iload_n C 1 dX6_isSettingOf_33 rfl rfl ?_
        refine z_sipush C (nI 389) dX6_isSettingOf_34 (by decide) ?_
        refine z_callVr C kX6_of gX6_isSettingOf_X6_of (mX6_of_C X.2.1 a kp ty pl gd od vU vS vN vX vM vT vB vK vY vZ vR vC vV x hx) dX6_isSettingOf_37 [0, 1] [] 0 rfl nd_0_1 rfl rfl rfl (by decide) (by decide) (Nat.le_of_ble_eq_true rfl) rfl ?_
        refine z_iload_n C 3 dX6_isSettingOf_40 rfl rfl ?_
        refine z_icmp_ne C 48 dX6_isSettingOf_41 (by decide) (fun h_4 => ?_) (fun h_4 => ?_)
        · refine z_iconst C (nI 0) dX6_isSettingOf_48 (by decide) ?_
          exact z_zret C N dX6_isSettingOf_49 rfl (rfl) (congrArg (fun x => some (Value.int x)) (zb_f (by simp [mSt, nI_eq, zz_0, zz_0s, of_decide_eq_true h_1, h_1, h_2, h_3, h_4])).symm)
        · refine z_iconst C (nI 1) dX6_isSettingOf_44 (by decide) ?_
          refine z_goto C 49 dX6_isSettingOf_45 (by decide) ?_
          exact z_zret C N dX6_isSettingOf_49 rfl (rfl) (congrArg (fun x => some (Value.int x)) (zb_t (by simp [mSt, nI_eq, zz_0, zz_0s, of_decide_eq_true h_1, h_1, h_2, h_3, h_4])).symm)

theorem kX6_settingBelow : zY yX6_settingBelow wsX6_settingBelow cX6_settingBelow 5 (some .int) 3 := ⟨⟨_, rfl⟩, ⟨by decide +kernel, by decide +kernel, by decide +kernel⟩, by decide +kernel⟩
set_option maxHeartbeats 4000000 in
set_option maxRecDepth 100000 in
theorem mX6_settingBelow (E : zE) (a : Nat → Nat) (kp ty pl : Nat) (gd : Bool) (od : Nat) (vU vS : Nat → Nat) (vN : Nat → Int32) (vX vM : Nat) (vT : Bool) (vB vK vY vZ vR vC vV : Nat → Int32) (q : Nat) (r c : Int32) (hq : q ≤ 60) : zM E yX6_settingBelow wsX6_settingBelow 3 [.ref (a 0), .int (nI q), .int r, .int c] [((a 0), .inr (6, [.ref (a 1), .ref (a 2), .ref (a 3), .int (nI kp), .int (nI ty), .ref (a 4), .int (nI pl), .int (zb gd), .int (nI od), .ref (a 5)])), ((a 1), .inl (E.2.2.1, 512, .inl (mRow vU vS vN vX vM vT vB vK vY vZ vR vC vV)))] [((a 0), .inr (6, [.ref (a 1), .ref (a 2), .ref (a 3), .int (nI kp), .int (nI ty), .ref (a 4), .int (nI pl), .int (zb gd), .int (nI od), .ref (a 5)])), ((a 1), .inl (E.2.2.1, 512, .inl (mRow vU vS vN vX vM vT vB vK vY vZ vR vC vV)))] (some (.int (zg (mSt vZ vK vR vC r c) q))) := by
  refine zM.of kX6_settingBelow (Nat.le_of_ble_eq_true rfl) rfl [some (.ref (a 0)), some (.int (nI q)), some (.int r), some (.int c), none] rfl (Nat.le_of_ble_eq_true rfl) ?_
  intro X eX C N
  subst eX
  refine z_iload_n C 1 dX6_settingBelow_0 rfl rfl ?_
  refine z_iconst C (nI 1) dX6_settingBelow_1 (by decide) ?_
  refine z_isub C dX6_settingBelow_2 ?_
  refine z_top (y := nI q + (-1)) (zi_s _) ?_
  refine z_istore C dX6_settingBelow_3 (Nat.le_of_ble_eq_true rfl) ?_
  have hL5 : ∀ (dd : Nat) (k : Nat), k = dd → (k ≤ q) → (∀ j, k ≤ j → j < q → (mSt vZ vK vR vC r c) j = false) → zG X 0 0 [((a 0), .inr (6, [.ref (a 1), .ref (a 2), .ref (a 3), .int (nI kp), .int (nI ty), .ref (a 4), .int (nI pl), .int (zb gd), .int (nI od), .ref (a 5)])), ((a 1), .inl (X.2.1.2.2.1, 512, .inl (mRow vU vS vN vX vM vT vB vK vY vZ vR vC vV)))] [some (.ref (a 0)), some (.int (nI q)), some (.int r), some (.int c), some (.int (nI k + (-1)))] [] 5 := by
    intro dd
    induction dd using Nat.strongRecOn with
    | _ dd ih5 =>
    intro k hdd hk hf
    cases k with
    | zero =>
      refine z_cv (lv' := [some (.ref (a 0)), some (.int (nI q)), some (.int r), some (.int c), some (.int (-1))]) rfl (rfl) rfl ?_
      refine z_iload C dX6_settingBelow_5 rfl ?_
      refine z_if_lt_t C 30 dX6_settingBelow_7 (by decide) (by decide) ?_
      refine z_bipush C (-5) dX6_settingBelow_30 (by decide) ?_
      exact z_iret C N dX6_settingBelow_32 (rfl) (by rw [zg_no (fun j hj => hf j (Nat.zero_le _) hj)])
    | succ k =>
      refine z_cv (lv' := [some (.ref (a 0)), some (.int (nI q)), some (.int r), some (.int c), some (.int (nI k))]) rfl (by rw [show nI (k + 1) + (-1) = nI k from pk_m1 k]) rfl ?_
      refine z_iload C dX6_settingBelow_5 rfl ?_
      refine z_nif_lt_f C 30 dX6_settingBelow_7 (by decide) (by omega) (by trivial) ?_
      refine z_aload_n C 0 dX6_settingBelow_10 rfl rfl ?_
      refine z_iload C dX6_settingBelow_11 rfl ?_
      refine z_iload_n C 2 dX6_settingBelow_13 rfl rfl ?_
      refine z_iload_n C 3 dX6_settingBelow_14 rfl rfl ?_
      refine z_callVr C kX6_isSettingOf gX6_settingBelow_X6_isSettingOf (mX6_isSettingOf X.2.1 a kp ty pl gd od vU vS vN vX vM vT vB vK vY vZ vR vC vV k r c (by first | assumption | omega)) dX6_settingBelow_15 [0, 1] [] 0 rfl nd_0_1 rfl rfl rfl (by decide) (by decide) (Nat.le_of_ble_eq_true rfl) rfl ?_
      refine z_bif_eq C 24 dX6_settingBelow_18 (by decide) (fun h_1 => ?_) (fun h_1 => ?_)
      · refine z_iinc C (nI k + (-1)) dX6_settingBelow_24 rfl (zi_m _) ?_
        refine z_goto C 5 dX6_settingBelow_27 (by decide) ?_
        exact ih5 (k) (by omega) k rfl (by omega) (fun j a b => (Nat.eq_or_lt_of_le a).elim (fun e => by subst e; simp [h_1]) (fun e => hf j e b))
      · refine z_iload C dX6_settingBelow_21 rfl ?_
        exact z_iret C N dX6_settingBelow_23 (rfl) (by rw [zg_at (k := k) (by simp [h_1]) (fun j a b => hf j a b) (by omega)])
  exact hL5 _ q rfl (Nat.le_refl _) (fun j a b => absurd b (by omega))
