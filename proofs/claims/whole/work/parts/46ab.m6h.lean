set_option maxHeartbeats 400000 in
set_option maxRecDepth 100000 in
theorem mX6_restsOn_b2 (E : zE) (a : Nat → Nat) (kp ty pl : Nat) (gd : Bool) (od : Nat) (vU vS : Nat → Nat) (vN : Nat → Int32) (vX vM : Nat) (vT : Bool) (vB vK vY vZ vR vC vV : Nat → Int32) (x : Nat) (y : Int32) (hO : okM vU vS vM vK) (hx : x < vM) (hy : y < 0 ∨ (¬ y < 0 ∧ nI (vM) ≤ y)) : zM E yX6_restsOn wsX6_restsOn 4 [.ref (a 0), .int (nI x), .int y] [((a 0), .inr (6, [.ref (a 1), .ref (a 2), .ref (a 3), .int (nI kp), .int (nI ty), .ref (a 4), .int (nI pl), .int (zb gd), .int (nI od), .ref (a 5)])), ((a 1), .inl (E.2.2.1, 512, .inl (mRow vU vS vN vX vM vT vB vK vY vZ vR vC vV)))] [((a 0), .inr (6, [.ref (a 1), .ref (a 2), .ref (a 3), .int (nI kp), .int (nI ty), .ref (a 4), .int (nI pl), .int (zb gd), .int (nI od), .ref (a 5)])), ((a 1), .inl (E.2.2.1, 512, .inl (mRow vU vS vN vX vM vT vB vK vY vZ vR vC vV)))] (some (.int (-1))) := by
  refine zM.of kX6_restsOn (Nat.le_of_ble_eq_true rfl) rfl [some (.ref (a 0)), some (.int (nI x)), some (.int y)] rfl (Nat.le_of_ble_eq_true rfl) ?_
  intro X eX C N
  subst eX
  obtain ⟨hu0, hu1, hM, hk1, hk2, hk3⟩ := id hO
  refine z_aload_n C 0 dX6_restsOn_0 rfl rfl ?_
  refine z_iload_n C 1 dX6_restsOn_1 rfl rfl ?_
  refine z_callVr C kX6_noChange gX6_restsOn_X6_noChange (mX6_noChange_y X.2.1 a kp ty pl gd od vU vS vN vX vM vT vB vK vY vZ vR vC vV x hO hx) dX6_restsOn_2 [0, 1] [] 0 rfl nd_0_1 rfl rfl rfl (by decide) (by decide) (Nat.le_of_ble_eq_true rfl) rfl ?_
  refine z_bif_ne_f C 16 dX6_restsOn_5 (by decide) rfl ?_
  refine z_aload_n C 0 dX6_restsOn_8 rfl rfl ?_
  refine z_iload_n C 2 dX6_restsOn_9 rfl rfl ?_
  refine z_callVr C kX6_noChange gX6_restsOn_X6_noChange (mX6_noChange_n X.2.1 a kp ty pl gd od vU vS vN vX vM vT vB vK vY vZ vR vC vV y hO hy) dX6_restsOn_10 [0, 1] [] 0 rfl nd_0_1 rfl rfl rfl (by decide) (by decide) (Nat.le_of_ble_eq_true rfl) rfl ?_
  refine z_bif_eq_f C 18 dX6_restsOn_13 (by decide) rfl ?_
  refine z_iconst C (-1) dX6_restsOn_16 (by decide) ?_
  exact z_iret C N dX6_restsOn_17 (rfl) (rfl)

set_option maxHeartbeats 400000 in
set_option maxRecDepth 100000 in
theorem mX6_restsOn_e (E : zE) (a : Nat → Nat) (kp ty pl : Nat) (gd : Bool) (od : Nat) (vU vS : Nat → Nat) (vN : Nat → Int32) (vX vM : Nat) (vT : Bool) (vB vK vY vZ vR vC vV : Nat → Int32) (x : Nat) (hO : okM vU vS vM vK) (hx : x < vM) : zM E yX6_restsOn wsX6_restsOn 4 [.ref (a 0), .int (nI x), .int (nI x)] [((a 0), .inr (6, [.ref (a 1), .ref (a 2), .ref (a 3), .int (nI kp), .int (nI ty), .ref (a 4), .int (nI pl), .int (zb gd), .int (nI od), .ref (a 5)])), ((a 1), .inl (E.2.2.1, 512, .inl (mRow vU vS vN vX vM vT vB vK vY vZ vR vC vV)))] [((a 0), .inr (6, [.ref (a 1), .ref (a 2), .ref (a 3), .int (nI kp), .int (nI ty), .ref (a 4), .int (nI pl), .int (zb gd), .int (nI od), .ref (a 5)])), ((a 1), .inl (E.2.2.1, 512, .inl (mRow vU vS vN vX vM vT vB vK vY vZ vR vC vV)))] (some (.int (-2))) := by
  refine zM.of kX6_restsOn (Nat.le_of_ble_eq_true rfl) rfl [some (.ref (a 0)), some (.int (nI x)), some (.int (nI x))] rfl (Nat.le_of_ble_eq_true rfl) ?_
  intro X eX C N
  subst eX
  obtain ⟨hu0, hu1, hM, hk1, hk2, hk3⟩ := id hO
  refine z_aload_n C 0 dX6_restsOn_0 rfl rfl ?_
  refine z_iload_n C 1 dX6_restsOn_1 rfl rfl ?_
  refine z_callVr C kX6_noChange gX6_restsOn_X6_noChange (mX6_noChange_y X.2.1 a kp ty pl gd od vU vS vN vX vM vT vB vK vY vZ vR vC vV x hO hx) dX6_restsOn_2 [0, 1] [] 0 rfl nd_0_1 rfl rfl rfl (by decide) (by decide) (Nat.le_of_ble_eq_true rfl) rfl ?_
  refine z_bif_ne_f C 16 dX6_restsOn_5 (by decide) rfl ?_
  refine z_aload_n C 0 dX6_restsOn_8 rfl rfl ?_
  refine z_iload_n C 2 dX6_restsOn_9 rfl rfl ?_
  refine z_callVr C kX6_noChange gX6_restsOn_X6_noChange (mX6_noChange_y X.2.1 a kp ty pl gd od vU vS vN vX vM vT vB vK vY vZ vR vC vV x hO hx) dX6_restsOn_10 [0, 1] [] 0 rfl nd_0_1 rfl rfl rfl (by decide) (by decide) (Nat.le_of_ble_eq_true rfl) rfl ?_
  refine z_bif_eq_t C 18 dX6_restsOn_13 (by decide) rfl ?_
  refine z_iload_n C 1 dX6_restsOn_18 rfl rfl ?_
  refine z_iload_n C 2 dX6_restsOn_19 rfl rfl ?_
  refine z_ncmp_ne_f C 28 dX6_restsOn_20 (by decide) (by omega) (by omega) (by omega) ?_
  refine z_bipush C (-2) dX6_restsOn_23 (by decide) ?_
  refine z_goto C 42 dX6_restsOn_25 (by decide) ?_
  exact z_iret C N dX6_restsOn_42 (rfl) (rfl)

set_option maxHeartbeats 400000 in
set_option maxRecDepth 100000 in
theorem mX6_restsOn (E : zE) (a : Nat → Nat) (kp ty pl : Nat) (gd : Bool) (od : Nat) (vU vS : Nat → Nat) (vN : Nat → Int32) (vX vM : Nat) (vT : Bool) (vB vK vY vZ vR vC vV : Nat → Int32) (x y : Nat) (hO : okM vU vS vM vK) (hx : x < vM) (hy : y < vM) (hne : x ≠ y) : zM E yX6_restsOn wsX6_restsOn 4 [.ref (a 0), .int (nI x), .int (nI y)] [((a 0), .inr (6, [.ref (a 1), .ref (a 2), .ref (a 3), .int (nI kp), .int (nI ty), .ref (a 4), .int (nI pl), .int (zb gd), .int (nI od), .ref (a 5)])), ((a 1), .inl (E.2.2.1, 512, .inl (mRow vU vS vN vX vM vT vB vK vY vZ vR vC vV)))] [((a 0), .inr (6, [.ref (a 1), .ref (a 2), .ref (a 3), .int (nI kp), .int (nI ty), .ref (a 4), .int (nI pl), .int (zb gd), .int (nI od), .ref (a 5)])), ((a 1), .inl (E.2.2.1, 512, .inl (mRow vU vS vN vX vM vT vB vK vY vZ vR vC vV)))] (some (.int (zb (mrs vZ vK vR vC x y)))) := by
  refine zM.of kX6_restsOn (Nat.le_of_ble_eq_true rfl) rfl [some (.ref (a 0)), some (.int (nI x)), some (.int (nI y))] rfl (Nat.le_of_ble_eq_true rfl) ?_
  intro X eX C N
  subst eX
  obtain ⟨hu0, hu1, hM, hk1, hk2, hk3⟩ := id hO
  refine z_aload_n C 0 dX6_restsOn_0 rfl rfl ?_
  refine z_iload_n C 1 dX6_restsOn_1 rfl rfl ?_
  refine z_callVr C kX6_noChange gX6_restsOn_X6_noChange (mX6_noChange_y X.2.1 a kp ty pl gd od vU vS vN vX vM vT vB vK vY vZ vR vC vV x hO hx) dX6_restsOn_2 [0, 1] [] 0 rfl nd_0_1 rfl rfl rfl (by decide) (by decide) (Nat.le_of_ble_eq_true rfl) rfl ?_
  refine z_bif_ne_f C 16 dX6_restsOn_5 (by decide) rfl ?_
  refine z_aload_n C 0 dX6_restsOn_8 rfl rfl ?_
  refine z_iload_n C 2 dX6_restsOn_9 rfl rfl ?_
  refine z_callVr C kX6_noChange gX6_restsOn_X6_noChange (mX6_noChange_y X.2.1 a kp ty pl gd od vU vS vN vX vM vT vB vK vY vZ vR vC vV y hO hy) dX6_restsOn_10 [0, 1] [] 0 rfl nd_0_1 rfl rfl rfl (by decide) (by decide) (Nat.le_of_ble_eq_true rfl) rfl ?_
  refine z_bif_eq_t C 18 dX6_restsOn_13 (by decide) rfl ?_
  refine z_iload_n C 1 dX6_restsOn_18 rfl rfl ?_
  refine z_iload_n C 2 dX6_restsOn_19 rfl rfl ?_
  refine z_ncmp_ne_t C 28 dX6_restsOn_20 (by decide) (by omega) (by omega) (by omega) ?_
  refine z_aload_n C 0 dX6_restsOn_28 rfl rfl ?_
  refine z_iload_n C 1 dX6_restsOn_29 rfl rfl ?_
  refine z_iload_n C 2 dX6_restsOn_30 rfl rfl ?_
  refine z_callVr C kX6_rests gX6_restsOn_X6_rests (mX6_rests X.2.1 a kp ty pl gd od vU vS vN vX vM vT vB vK vY vZ vR vC vV x y (by first | assumption | omega) (by first | assumption | omega)) dX6_restsOn_31 [0, 1] [] 0 rfl nd_0_1 rfl rfl rfl (by decide) (by decide) (Nat.le_of_ble_eq_true rfl) rfl ?_
  refine z_bif_eq C 41 dX6_restsOn_34 (by decide) (fun h_1 => ?_) (fun h_1 => ?_)
  · refine z_iconst C (nI 0) dX6_restsOn_41 (by decide) ?_
    exact z_iret C N dX6_restsOn_42 (rfl) (congrArg (fun x => some (Value.int x)) (zb_f h_1).symm)
  · refine z_iconst C (nI 1) dX6_restsOn_37 (by decide) ?_
    refine z_goto C 42 dX6_restsOn_38 (by decide) ?_
    exact z_iret C N dX6_restsOn_42 (rfl) (congrArg (fun x => some (Value.int x)) (zb_t h_1).symm)

theorem kX6_author : zY yX6_author wsX6_author cX6_author 5 (some .int) 2 := ⟨⟨_, rfl⟩, ⟨by decide +kernel, by decide +kernel, by decide +kernel⟩, by decide +kernel⟩
set_option maxHeartbeats 400000 in
set_option maxRecDepth 100000 in
theorem mX6_author_b (E : zE) (a : Nat → Nat) (kp ty pl : Nat) (gd : Bool) (od : Nat) (vU vS : Nat → Nat) (vN : Nat → Int32) (vX vM : Nat) (vT : Bool) (vB vK vY vZ vR vC vV : Nat → Int32) (au st : Int32) (hO : okM vU vS vM vK) (hx : au < 0 ∨ (¬ au < 0 ∧ nI 4 ≤ au)) : zM E yX6_author wsX6_author 2 [.ref (a 0), .int au, .int st] [((a 0), .inr (6, [.ref (a 1), .ref (a 2), .ref (a 3), .int (nI kp), .int (nI ty), .ref (a 4), .int (nI pl), .int (zb gd), .int (nI od), .ref (a 5)])), ((a 1), .inl (E.2.2.1, 512, .inl (mRow vU vS vN vX vM vT vB vK vY vZ vR vC vV)))] [((a 0), .inr (6, [.ref (a 1), .ref (a 2), .ref (a 3), .int (nI kp), .int (nI ty), .ref (a 4), .int (nI pl), .int (zb gd), .int (nI od), .ref (a 5)])), ((a 1), .inl (E.2.2.1, 512, .inl (mRow vU vS vN vX vM vT vB vK vY vZ vR vC vV)))] (some (.int (-1))) := by
  refine zM.of kX6_author (Nat.le_of_ble_eq_true rfl) rfl [some (.ref (a 0)), some (.int au), some (.int st), none, none] rfl (Nat.le_of_ble_eq_true rfl) ?_
  intro X eX C N
  subst eX
  obtain ⟨hu0, hu1, hM, hk1, hk2, hk3⟩ := id hO
  refine z_iload_n C 1 dX6_author_0 rfl rfl ?_
  refine z_callS C kX6_noAuthor gX6_author_X6_noAuthor (mX6_noAuthor_n X.2.1 au hx) dX6_author_1 [] rfl (by decide) (by decide) (Nat.le_of_ble_eq_true rfl) rfl ?_
  refine z_bif_eq_f C 9 dX6_author_4 (by decide) rfl ?_
  refine z_iconst C (-1) dX6_author_7 (by decide) ?_
  exact z_iret C N dX6_author_8 (rfl) (rfl)

set_option maxHeartbeats 400000 in
set_option maxRecDepth 100000 in
theorem mX6_author_b2 (E : zE) (a : Nat → Nat) (kp ty pl : Nat) (gd : Bool) (od : Nat) (vU vS : Nat → Nat) (vN : Nat → Int32) (vX vM : Nat) (vT : Bool) (vB vK vY vZ vR vC vV : Nat → Int32) (au : Nat) (st : Int32) (hO : okM vU vS vM vK) (hau : au < 4) (hx : st < 0 ∨ (¬ st < 0 ∧ nI 3 < st)) : zM E yX6_author wsX6_author 2 [.ref (a 0), .int (nI au), .int st] [((a 0), .inr (6, [.ref (a 1), .ref (a 2), .ref (a 3), .int (nI kp), .int (nI ty), .ref (a 4), .int (nI pl), .int (zb gd), .int (nI od), .ref (a 5)])), ((a 1), .inl (E.2.2.1, 512, .inl (mRow vU vS vN vX vM vT vB vK vY vZ vR vC vV)))] [((a 0), .inr (6, [.ref (a 1), .ref (a 2), .ref (a 3), .int (nI kp), .int (nI ty), .ref (a 4), .int (nI pl), .int (zb gd), .int (nI od), .ref (a 5)])), ((a 1), .inl (E.2.2.1, 512, .inl (mRow vU vS vN vX vM vT vB vK vY vZ vR vC vV)))] (some (.int (-2))) := by
  refine zM.of kX6_author (Nat.le_of_ble_eq_true rfl) rfl [some (.ref (a 0)), some (.int (nI au)), some (.int st), none, none] rfl (Nat.le_of_ble_eq_true rfl) ?_
  intro X eX C N
  subst eX
  obtain ⟨hu0, hu1, hM, hk1, hk2, hk3⟩ := id hO
  refine z_iload_n C 1 dX6_author_0 rfl rfl ?_
  refine z_callS C kX6_noAuthor gX6_author_X6_noAuthor (mX6_noAuthor_y X.2.1 au hau) dX6_author_1 [] rfl (by decide) (by decide) (Nat.le_of_ble_eq_true rfl) rfl ?_
  refine z_bif_eq_t C 9 dX6_author_4 (by decide) rfl ?_
  refine z_iload_n C 2 dX6_author_9 rfl rfl ?_
  refine z_iconst C (nI 0) dX6_author_10 (by decide) ?_
  refine z_iconst C (nI 3) dX6_author_11 (by decide) ?_
  refine z_callS C kX6_in gX6_author_X6_in (mX6_in_n X.2.1 st 3 hx) dX6_author_12 [] rfl (by decide) (by decide) (Nat.le_of_ble_eq_true rfl) rfl ?_
  refine z_bif_ne_f C 21 dX6_author_15 (by decide) rfl ?_
  refine z_bipush C (-2) dX6_author_18 (by decide) ?_
  exact z_iret C N dX6_author_20 (rfl) (rfl)

theorem fX6_author_7 : zF wsX6_author RX6 7 6 0 RX6 TX6 10 := ⟨by decide +kernel, rfl, by decide, by decide +kernel, rfl⟩
set_option maxHeartbeats 400000 in
set_option maxRecDepth 100000 in
theorem mX6_author (E : zE) (a : Nat → Nat) (kp ty pl : Nat) (gd : Bool) (od : Nat) (vU vS : Nat → Nat) (vN : Nat → Int32) (vX vM : Nat) (vT : Bool) (vB vK vY vZ vR vC vV : Nat → Int32) (au st : Nat) (hO : okM vU vS vM vK) (hau : au < 4) (hst : st < 4) : zM E yX6_author wsX6_author 2 [.ref (a 0), .int (nI au), .int (nI st)] [((a 0), .inr (6, [.ref (a 1), .ref (a 2), .ref (a 3), .int (nI kp), .int (nI ty), .ref (a 4), .int (nI pl), .int (zb gd), .int (nI od), .ref (a 5)])), ((a 1), .inl (E.2.2.1, 512, .inl (mRow vU vS vN vX vM vT vB vK vY vZ vR vC vV)))] [((a 0), .inr (6, [.ref (a 1), .ref (a 2), .ref (a 3), .int (nI kp), .int (nI ty), .ref (a 4), .int (nI pl), .int (zb gd), .int (nI od), .ref (a 5)])), ((a 1), .inl (E.2.2.1, 512, .inl (mRow vU vS vN vX vM vT vB vK vY vZ vR vC vV)))] (some (.int (nI (zc (fun x => decide (vY x = nI au) && decide (vZ x = nI st)) (vM))))) := by
  refine zM.of kX6_author (Nat.le_of_ble_eq_true rfl) rfl [some (.ref (a 0)), some (.int (nI au)), some (.int (nI st)), none, none] rfl (Nat.le_of_ble_eq_true rfl) ?_
  intro X eX C N
  subst eX
  obtain ⟨hu0, hu1, hM, hk1, hk2, hk3⟩ := id hO
  refine z_iload_n C 1 dX6_author_0 rfl rfl ?_
  refine z_callS C kX6_noAuthor gX6_author_X6_noAuthor (mX6_noAuthor_y X.2.1 au hau) dX6_author_1 [] rfl (by decide) (by decide) (Nat.le_of_ble_eq_true rfl) rfl ?_
  refine z_bif_eq_t C 9 dX6_author_4 (by decide) rfl ?_
  refine z_iload_n C 2 dX6_author_9 rfl rfl ?_
  refine z_iconst C (nI 0) dX6_author_10 (by decide) ?_
  refine z_iconst C (nI 3) dX6_author_11 (by decide) ?_
  refine z_callS C kX6_in gX6_author_X6_in (mX6_in_y X.2.1 st 3 (by first | assumption | omega) (by first | assumption | omega)) dX6_author_12 [] rfl (by decide) (by decide) (Nat.le_of_ble_eq_true rfl) rfl ?_
  refine z_bif_ne_t C 21 dX6_author_15 (by decide) rfl ?_
  refine z_iconst C (nI 0) dX6_author_21 (by decide) ?_
  refine z_istore_n C 3 dX6_author_22 rfl (Nat.le_of_ble_eq_true rfl) ?_
  refine z_iconst C (nI 0) dX6_author_23 (by decide) ?_
  refine z_istore C dX6_author_24 (Nat.le_of_ble_eq_true rfl) ?_
  have hL26 : ∀ (dd : Nat) (k : Nat) (cn : Nat), vM - k = dd → (k ≤ vM) → (cn = zc (fun x => decide (vY x = nI au) && decide (vZ x = nI st)) k) → (cn ≤ k) → zG X 0 0 [((a 0), .inr (6, [.ref (a 1), .ref (a 2), .ref (a 3), .int (nI kp), .int (nI ty), .ref (a 4), .int (nI pl), .int (zb gd), .int (nI od), .ref (a 5)])), ((a 1), .inl (X.2.1.2.2.1, 512, .inl (mRow vU vS vN vX vM vT vB vK vY vZ vR vC vV)))] [some (.ref (a 0)), some (.int (nI au)), some (.int (nI st)), some (.int (nI cn)), some (.int (nI k))] [] 26 := by
    intro dd
    induction dd using Nat.strongRecOn with
    | _ dd ih26 =>
    intro k cn hdd hk hc hcb
    refine z_iload C dX6_author_26 rfl ?_
    refine z_aload_n C 0 dX6_author_28 rfl rfl ?_
    refine z_get C fX6_author_7 0 dX6_author_29 rfl rfl ?_
    refine z_bipush C (nI 51) dX6_author_32 (by decide) ?_
    refine z_ialdN C 1 dX6_author_34 rfl (by omega) (by decide) ?_
    refine z_top (y := nI (vM)) (zMr_M) ?_
    refine z_ncmp_ge C 78 dX6_author_35 (by decide) (by omega) (by omega) (fun h_1 => ?_) (fun h_1 => ?_)
    · refine z_iload_n C 3 dX6_author_78 rfl rfl ?_
      exact z_iret C N dX6_author_79 (rfl) (by rw [hc, show k = vM by omega])
    · refine z_iload_n C 3 dX6_author_38 rfl rfl ?_
      refine z_aload_n C 0 dX6_author_39 rfl rfl ?_
      refine z_iload C dX6_author_40 rfl ?_
      refine z_sipush C (nI 209) dX6_author_42 (by decide) ?_
      refine z_callVr C kX6_of gX6_author_X6_of (mX6_of_Y X.2.1 a kp ty pl gd od vU vS vN vX vM vT vB vK vY vZ vR vC vV k (by first | assumption | omega)) dX6_author_45 [0, 1] [.int (nI cn)] 0 rfl nd_0_1 rfl rfl rfl (by decide) (by decide) (Nat.le_of_ble_eq_true rfl) rfl ?_
      refine z_iload_n C 1 dX6_author_48 rfl rfl ?_
      refine z_icmp_ne C 69 dX6_author_49 (by decide) (fun h_2 => ?_) (fun h_2 => ?_)
      · refine z_iconst C (nI 0) dX6_author_69 (by decide) ?_
        refine z_iadd C dX6_author_70 ?_
        refine z_top (y := nI cn) (nI_add _ _) ?_
        refine z_istore_n C 3 dX6_author_71 rfl (Nat.le_of_ble_eq_true rfl) ?_
        refine z_iinc C (nI (k + 1)) dX6_author_72 rfl (zi_1 _) ?_
        refine z_goto C 26 dX6_author_75 (by decide) ?_
        exact ih26 (vM - (k + 1)) (by omega) (k + 1) cn rfl (by omega) (by subst hc; first | exact (zc_y (by simp [nI_eq, zz_0, zz_0s, h_1, h_2])).symm | exact (zc_n (by simp [nI_eq, zz_0, zz_0s, h_1, h_2])).symm) (by omega)
      · refine z_aload_n C 0 dX6_author_52 rfl rfl ?_
        refine z_iload C dX6_author_53 rfl ?_
        refine z_sipush C (nI 269) dX6_author_55 (by decide) ?_
        refine z_callVr C kX6_of gX6_author_X6_of (mX6_of_Z X.2.1 a kp ty pl gd od vU vS vN vX vM vT vB vK vY vZ vR vC vV k (by first | assumption | omega)) dX6_author_58 [0, 1] [.int (nI cn)] 0 rfl nd_0_1 rfl rfl rfl (by decide) (by decide) (Nat.le_of_ble_eq_true rfl) rfl ?_
        refine z_iload_n C 2 dX6_author_61 rfl rfl ?_
        refine z_icmp_ne C 69 dX6_author_62 (by decide) (fun h_3 => ?_) (fun h_3 => ?_)
        · refine z_iconst C (nI 0) dX6_author_69 (by decide) ?_
          refine z_iadd C dX6_author_70 ?_
          refine z_top (y := nI cn) (nI_add _ _) ?_
          refine z_istore_n C 3 dX6_author_71 rfl (Nat.le_of_ble_eq_true rfl) ?_
          refine z_iinc C (nI (k + 1)) dX6_author_72 rfl (zi_1 _) ?_
          refine z_goto C 26 dX6_author_75 (by decide) ?_
          exact ih26 (vM - (k + 1)) (by omega) (k + 1) cn rfl (by omega) (by subst hc; first | exact (zc_y (by simp [nI_eq, zz_0, zz_0s, h_1, h_2, h_3])).symm | exact (zc_n (by simp [nI_eq, zz_0, zz_0s, h_1, h_2, h_3])).symm) (by omega)
        · refine z_iconst C (nI 1) dX6_author_65 (by decide) ?_
          refine z_goto C 70 dX6_author_66 (by decide) ?_
          refine z_iadd C dX6_author_70 ?_
          refine z_top (y := nI (cn + 1)) (nI_add _ _) ?_
          refine z_istore_n C 3 dX6_author_71 rfl (Nat.le_of_ble_eq_true rfl) ?_
          refine z_iinc C (nI (k + 1)) dX6_author_72 rfl (zi_1 _) ?_
          refine z_goto C 26 dX6_author_75 (by decide) ?_
          exact ih26 (vM - (k + 1)) (by omega) (k + 1) (cn + 1) rfl (by omega) (by subst hc; first | exact (zc_y (by simp [nI_eq, zz_0, zz_0s, h_1, h_2, h_3])).symm | exact (zc_n (by simp [nI_eq, zz_0, zz_0s, h_1, h_2, h_3])).symm) (by omega)
  exact hL26 _ 0 0 rfl (by omega) (rfl) (by omega)
