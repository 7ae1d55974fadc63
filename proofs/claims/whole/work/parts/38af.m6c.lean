theorem kX6_doSet : zY yX6_doSet wsX6_doSet cX6_doSet 8 (some .int) 4 := ⟨⟨_, rfl⟩, ⟨by decide +kernel, by decide +kernel, by decide +kernel⟩, by decide +kernel⟩
set_option maxHeartbeats 4000000 in
set_option maxRecDepth 100000 in
theorem mX6_doSet_b1 (E : zE) (a : Nat → Nat) (kp ty pl : Nat) (gd : Bool) (od : Nat) (vU vS : Nat → Nat) (vN : Nat → Int32) (vX vM : Nat) (vT : Bool) (vB vK vY vZ vR vC vV : Nat → Int32) (au r c v : Int32) (hO : okM vU vS vM vK) (hx : au < 0 ∨ (¬ au < 0 ∧ nI 4 ≤ au)) : zM E yX6_doSet wsX6_doSet 5 [.ref (a 0), .int au, .int r, .int c, .int v] [((a 0), .inr (6, [.ref (a 1), .ref (a 2), .ref (a 3), .int (nI kp), .int (nI ty), .ref (a 4), .int (nI pl), .int (zb gd), .int (nI od), .ref (a 5)])), ((a 1), .inl (E.2.2.1, 512, .inl (mRow vU vS vN vX vM vT vB vK vY vZ vR vC vV)))] [((a 0), .inr (6, [.ref (a 1), .ref (a 2), .ref (a 3), .int (nI kp), .int (nI ty), .ref (a 4), .int (nI pl), .int (zb gd), .int (nI od), .ref (a 5)])), ((a 1), .inl (E.2.2.1, 512, .inl (mRow vU vS vN vX vM vT vB vK vY vZ vR vC vV)))] (some (.int (-1))) := by
  refine zM.of kX6_doSet (Nat.le_of_ble_eq_true rfl) rfl [some (.ref (a 0)), some (.int au), some (.int r), some (.int c), some (.int v), none, none, none] rfl (Nat.le_of_ble_eq_true rfl) ?_
  intro X eX C N
  subst eX
  obtain ⟨hu0, hu1, hM, hk1, hk2, hk3⟩ := id hO
  refine z_iload_n C 1 dX6_doSet_0 rfl rfl ?_
  refine z_callS C kX6_noAuthor gX6_doSet_X6_noAuthor (mX6_noAuthor_n X.2.1 au hx) dX6_doSet_1 [] rfl (by decide) (by decide) (Nat.le_of_ble_eq_true rfl) rfl ?_
  refine z_bif_ne_t C 25 dX6_doSet_4 (by decide) rfl ?_
  refine z_iconst C (-1) dX6_doSet_25 (by decide) ?_
  exact z_iret C N dX6_doSet_26 (rfl) (rfl)

set_option maxHeartbeats 4000000 in
set_option maxRecDepth 100000 in
theorem mX6_doSet_b2 (E : zE) (a : Nat → Nat) (kp ty pl : Nat) (gd : Bool) (od : Nat) (vU vS : Nat → Nat) (vN : Nat → Int32) (vX vM : Nat) (vT : Bool) (vB vK vY vZ vR vC vV : Nat → Int32) (au : Nat) (r c v : Int32) (hO : okM vU vS vM vK) (hau : au < 4) (hx : r < 0 ∨ (¬ r < 0 ∧ nI (vU 0) ≤ r)) : zM E yX6_doSet wsX6_doSet 5 [.ref (a 0), .int (nI au), .int r, .int c, .int v] [((a 0), .inr (6, [.ref (a 1), .ref (a 2), .ref (a 3), .int (nI kp), .int (nI ty), .ref (a 4), .int (nI pl), .int (zb gd), .int (nI od), .ref (a 5)])), ((a 1), .inl (E.2.2.1, 512, .inl (mRow vU vS vN vX vM vT vB vK vY vZ vR vC vV)))] [((a 0), .inr (6, [.ref (a 1), .ref (a 2), .ref (a 3), .int (nI kp), .int (nI ty), .ref (a 4), .int (nI pl), .int (zb gd), .int (nI od), .ref (a 5)])), ((a 1), .inl (E.2.2.1, 512, .inl (mRow vU vS vN vX vM vT vB vK vY vZ vR vC vV)))] (some (.int (-1))) := by
  refine zM.of kX6_doSet (Nat.le_of_ble_eq_true rfl) rfl [some (.ref (a 0)), some (.int (nI au)), some (.int r), some (.int c), some (.int v), none, none, none] rfl (Nat.le_of_ble_eq_true rfl) ?_
  intro X eX C N
  subst eX
  obtain ⟨hu0, hu1, hM, hk1, hk2, hk3⟩ := id hO
  refine z_iload_n C 1 dX6_doSet_0 rfl rfl ?_
  refine z_callS C kX6_noAuthor gX6_doSet_X6_noAuthor (mX6_noAuthor_y X.2.1 au hau) dX6_doSet_1 [] rfl (by decide) (by decide) (Nat.le_of_ble_eq_true rfl) rfl ?_
  refine z_bif_ne_f C 25 dX6_doSet_4 (by decide) rfl ?_
  refine z_aload_n C 0 dX6_doSet_7 rfl rfl ?_
  refine z_iconst C (nI 0) dX6_doSet_8 (by decide) ?_
  refine z_iload_n C 2 dX6_doSet_9 rfl rfl ?_
  refine z_callVr C kX6_noLine gX6_doSet_X6_noLine (mX6_noLine_0_n X.2.1 a kp ty pl gd od vU vS vN vX vM vT vB vK vY vZ vR vC vV r hO hx) dX6_doSet_10 [0, 1] [] 0 rfl nd_0_1 rfl rfl rfl (by decide) (by decide) (Nat.le_of_ble_eq_true rfl) rfl ?_
  refine z_bif_ne_t C 25 dX6_doSet_13 (by decide) rfl ?_
  refine z_iconst C (-1) dX6_doSet_25 (by decide) ?_
  exact z_iret C N dX6_doSet_26 (rfl) (rfl)

set_option maxHeartbeats 4000000 in
set_option maxRecDepth 100000 in
theorem mX6_doSet_b3 (E : zE) (a : Nat → Nat) (kp ty pl : Nat) (gd : Bool) (od : Nat) (vU vS : Nat → Nat) (vN : Nat → Int32) (vX vM : Nat) (vT : Bool) (vB vK vY vZ vR vC vV : Nat → Int32) (au i : Nat) (c v : Int32) (hO : okM vU vS vM vK) (hau : au < 4) (hi : i < vU 0) (hx : c < 0 ∨ (¬ c < 0 ∧ nI (vU 1) ≤ c)) : zM E yX6_doSet wsX6_doSet 5 [.ref (a 0), .int (nI au), .int (nI i), .int c, .int v] [((a 0), .inr (6, [.ref (a 1), .ref (a 2), .ref (a 3), .int (nI kp), .int (nI ty), .ref (a 4), .int (nI pl), .int (zb gd), .int (nI od), .ref (a 5)])), ((a 1), .inl (E.2.2.1, 512, .inl (mRow vU vS vN vX vM vT vB vK vY vZ vR vC vV)))] [((a 0), .inr (6, [.ref (a 1), .ref (a 2), .ref (a 3), .int (nI kp), .int (nI ty), .ref (a 4), .int (nI pl), .int (zb gd), .int (nI od), .ref (a 5)])), ((a 1), .inl (E.2.2.1, 512, .inl (mRow vU vS vN vX vM vT vB vK vY vZ vR vC vV)))] (some (.int (-1))) := by
  refine zM.of kX6_doSet (Nat.le_of_ble_eq_true rfl) rfl [some (.ref (a 0)), some (.int (nI au)), some (.int (nI i)), some (.int c), some (.int v), none, none, none] rfl (Nat.le_of_ble_eq_true rfl) ?_
  intro X eX C N
  subst eX
  obtain ⟨hu0, hu1, hM, hk1, hk2, hk3⟩ := id hO
  refine z_iload_n C 1 dX6_doSet_0 rfl rfl ?_
  refine z_callS C kX6_noAuthor gX6_doSet_X6_noAuthor (mX6_noAuthor_y X.2.1 au hau) dX6_doSet_1 [] rfl (by decide) (by decide) (Nat.le_of_ble_eq_true rfl) rfl ?_
  refine z_bif_ne_f C 25 dX6_doSet_4 (by decide) rfl ?_
  refine z_aload_n C 0 dX6_doSet_7 rfl rfl ?_
  refine z_iconst C (nI 0) dX6_doSet_8 (by decide) ?_
  refine z_iload_n C 2 dX6_doSet_9 rfl rfl ?_
  refine z_callVr C kX6_noLine gX6_doSet_X6_noLine (mX6_noLine_0_y X.2.1 a kp ty pl gd od vU vS vN vX vM vT vB vK vY vZ vR vC vV i hO hi) dX6_doSet_10 [0, 1] [] 0 rfl nd_0_1 rfl rfl rfl (by decide) (by decide) (Nat.le_of_ble_eq_true rfl) rfl ?_
  refine z_bif_ne_f C 25 dX6_doSet_13 (by decide) rfl ?_
  refine z_aload_n C 0 dX6_doSet_16 rfl rfl ?_
  refine z_iconst C (nI 1) dX6_doSet_17 (by decide) ?_
  refine z_iload_n C 3 dX6_doSet_18 rfl rfl ?_
  refine z_callVr C kX6_noLine gX6_doSet_X6_noLine (mX6_noLine_1_n X.2.1 a kp ty pl gd od vU vS vN vX vM vT vB vK vY vZ vR vC vV c hO hx) dX6_doSet_19 [0, 1] [] 0 rfl nd_0_1 rfl rfl rfl (by decide) (by decide) (Nat.le_of_ble_eq_true rfl) rfl ?_
  refine z_bif_eq_f C 27 dX6_doSet_22 (by decide) rfl ?_
  refine z_iconst C (-1) dX6_doSet_25 (by decide) ?_
  exact z_iret C N dX6_doSet_26 (rfl) (rfl)

set_option maxHeartbeats 4000000 in
set_option maxRecDepth 100000 in
theorem mX6_doSet_b4 (E : zE) (a : Nat → Nat) (kp ty pl : Nat) (gd : Bool) (od : Nat) (vU vS : Nat → Nat) (vN : Nat → Int32) (vX vM : Nat) (vT : Bool) (vB vK vY vZ vR vC vV : Nat → Int32) (au i j : Nat) (v : Int32) (hO : okM vU vS vM vK) (hW : nmM vU vS vN) (hau : au < 4) (hi : i < vU 0) (hj : j < vU 1) (hx : v < 0 ∨ (¬ v < 0 ∧ nI 9999 < v)) : zM E yX6_doSet wsX6_doSet 5 [.ref (a 0), .int (nI au), .int (nI i), .int (nI j), .int v] [((a 0), .inr (6, [.ref (a 1), .ref (a 2), .ref (a 3), .int (nI kp), .int (nI ty), .ref (a 4), .int (nI pl), .int (zb gd), .int (nI od), .ref (a 5)])), ((a 1), .inl (E.2.2.1, 512, .inl (mRow vU vS vN vX vM vT vB vK vY vZ vR vC vV)))] [((a 0), .inr (6, [.ref (a 1), .ref (a 2), .ref (a 3), .int (nI kp), .int (nI ty), .ref (a 4), .int (nI pl), .int (zb gd), .int (nI od), .ref (a 5)])), ((a 1), .inl (E.2.2.1, 512, .inl (mRow vU vS vN vX vM vT vB vK vY vZ vR vC vV)))] (some (.int (-2))) := by
  refine zM.of kX6_doSet (Nat.le_of_ble_eq_true rfl) rfl [some (.ref (a 0)), some (.int (nI au)), some (.int (nI i)), some (.int (nI j)), some (.int v), none, none, none] rfl (Nat.le_of_ble_eq_true rfl) ?_
  intro X eX C N
  subst eX
  obtain ⟨hu0, hu1, hM, hk1, hk2, hk3⟩ := id hO
  refine z_iload_n C 1 dX6_doSet_0 rfl rfl ?_
  refine z_callS C kX6_noAuthor gX6_doSet_X6_noAuthor (mX6_noAuthor_y X.2.1 au hau) dX6_doSet_1 [] rfl (by decide) (by decide) (Nat.le_of_ble_eq_true rfl) rfl ?_
  refine z_bif_ne_f C 25 dX6_doSet_4 (by decide) rfl ?_
  refine z_aload_n C 0 dX6_doSet_7 rfl rfl ?_
  refine z_iconst C (nI 0) dX6_doSet_8 (by decide) ?_
  refine z_iload_n C 2 dX6_doSet_9 rfl rfl ?_
  refine z_callVr C kX6_noLine gX6_doSet_X6_noLine (mX6_noLine_0_y X.2.1 a kp ty pl gd od vU vS vN vX vM vT vB vK vY vZ vR vC vV i hO hi) dX6_doSet_10 [0, 1] [] 0 rfl nd_0_1 rfl rfl rfl (by decide) (by decide) (Nat.le_of_ble_eq_true rfl) rfl ?_
  refine z_bif_ne_f C 25 dX6_doSet_13 (by decide) rfl ?_
  refine z_aload_n C 0 dX6_doSet_16 rfl rfl ?_
  refine z_iconst C (nI 1) dX6_doSet_17 (by decide) ?_
  refine z_iload_n C 3 dX6_doSet_18 rfl rfl ?_
  refine z_callVr C kX6_noLine gX6_doSet_X6_noLine (mX6_noLine_1_y X.2.1 a kp ty pl gd od vU vS vN vX vM vT vB vK vY vZ vR vC vV j hO hj) dX6_doSet_19 [0, 1] [] 0 rfl nd_0_1 rfl rfl rfl (by decide) (by decide) (Nat.le_of_ble_eq_true rfl) rfl ?_
  refine z_bif_eq_t C 27 dX6_doSet_22 (by decide) rfl ?_
  refine z_iload C dX6_doSet_27 rfl ?_
  refine z_iconst C (nI 0) dX6_doSet_29 (by decide) ?_
  refine z_sipush C (nI 9999) dX6_doSet_30 (by decide) ?_
  refine z_callS C kX6_in gX6_doSet_X6_in (mX6_in_n X.2.1 v 9999 hx) dX6_doSet_33 [] rfl (by decide) (by decide) (Nat.le_of_ble_eq_true rfl) rfl ?_
  refine z_bif_ne_f C 42 dX6_doSet_36 (by decide) rfl ?_
  refine z_bipush C (-2) dX6_doSet_39 (by decide) ?_
  exact z_iret C N dX6_doSet_41 (rfl) (rfl)

set_option maxHeartbeats 4000000 in
set_option maxRecDepth 100000 in
theorem mX6_doSet_n1 (E : zE) (a : Nat → Nat) (kp ty pl : Nat) (gd : Bool) (od : Nat) (vU vS : Nat → Nat) (vN : Nat → Int32) (vX vM : Nat) (vT : Bool) (vB vK vY vZ vR vC vV : Nat → Int32) (au i j v : Nat) (hO : okM vU vS vM vK) (hW : nmM vU vS vN) (hau : au < 4) (hi : i < vU 0) (hj : j < vU 1) (hv : v ≤ 9999) (hr : mDm vZ vK vR vC vS vN vM 0 i = true) : zM E yX6_doSet wsX6_doSet 5 [.ref (a 0), .int (nI au), .int (nI i), .int (nI j), .int (nI v)] [((a 0), .inr (6, [.ref (a 1), .ref (a 2), .ref (a 3), .int (nI kp), .int (nI ty), .ref (a 4), .int (nI pl), .int (zb gd), .int (nI od), .ref (a 5)])), ((a 1), .inl (E.2.2.1, 512, .inl (mRow vU vS vN vX vM vT vB vK vY vZ vR vC vV)))] [((a 0), .inr (6, [.ref (a 1), .ref (a 2), .ref (a 3), .int (nI kp), .int (nI ty), .ref (a 4), .int (nI pl), .int (zb gd), .int (nI od), .ref (a 5)])), ((a 1), .inl (E.2.2.1, 512, .inl (mRow vU vS vN vX vM vT vB vK vY vZ vR vC vV)))] (some (.int (-4))) := by
  refine zM.of kX6_doSet (Nat.le_of_ble_eq_true rfl) rfl [some (.ref (a 0)), some (.int (nI au)), some (.int (nI i)), some (.int (nI j)), some (.int (nI v)), none, none, none] rfl (Nat.le_of_ble_eq_true rfl) ?_
  intro X eX C N
  subst eX
  obtain ⟨hu0, hu1, hM, hk1, hk2, hk3⟩ := id hO
  refine z_iload_n C 1 dX6_doSet_0 rfl rfl ?_
  refine z_callS C kX6_noAuthor gX6_doSet_X6_noAuthor (mX6_noAuthor_y X.2.1 au hau) dX6_doSet_1 [] rfl (by decide) (by decide) (Nat.le_of_ble_eq_true rfl) rfl ?_
  refine z_bif_ne_f C 25 dX6_doSet_4 (by decide) rfl ?_
  refine z_aload_n C 0 dX6_doSet_7 rfl rfl ?_
  refine z_iconst C (nI 0) dX6_doSet_8 (by decide) ?_
  refine z_iload_n C 2 dX6_doSet_9 rfl rfl ?_
  refine z_callVr C kX6_noLine gX6_doSet_X6_noLine (mX6_noLine_0_y X.2.1 a kp ty pl gd od vU vS vN vX vM vT vB vK vY vZ vR vC vV i hO hi) dX6_doSet_10 [0, 1] [] 0 rfl nd_0_1 rfl rfl rfl (by decide) (by decide) (Nat.le_of_ble_eq_true rfl) rfl ?_
  refine z_bif_ne_f C 25 dX6_doSet_13 (by decide) rfl ?_
  refine z_aload_n C 0 dX6_doSet_16 rfl rfl ?_
  refine z_iconst C (nI 1) dX6_doSet_17 (by decide) ?_
  refine z_iload_n C 3 dX6_doSet_18 rfl rfl ?_
  refine z_callVr C kX6_noLine gX6_doSet_X6_noLine (mX6_noLine_1_y X.2.1 a kp ty pl gd od vU vS vN vX vM vT vB vK vY vZ vR vC vV j hO hj) dX6_doSet_19 [0, 1] [] 0 rfl nd_0_1 rfl rfl rfl (by decide) (by decide) (Nat.le_of_ble_eq_true rfl) rfl ?_
  refine z_bif_eq_t C 27 dX6_doSet_22 (by decide) rfl ?_
  refine z_iload C dX6_doSet_27 rfl ?_
  refine z_iconst C (nI 0) dX6_doSet_29 (by decide) ?_
  refine z_sipush C (nI 9999) dX6_doSet_30 (by decide) ?_
  refine z_callS C kX6_in gX6_doSet_X6_in (mX6_in_y X.2.1 v 9999 hv (by first | assumption | omega)) dX6_doSet_33 [] rfl (by decide) (by decide) (Nat.le_of_ble_eq_true rfl) rfl ?_
  refine z_bif_ne_t C 42 dX6_doSet_36 (by decide) rfl ?_
  refine z_aload_n C 0 dX6_doSet_42 rfl rfl ?_
  refine z_iconst C (nI 0) dX6_doSet_43 (by decide) ?_
  refine z_iload_n C 2 dX6_doSet_44 rfl rfl ?_
  refine z_callVr C kX6_nameAt gX6_doSet_X6_nameAt (mX6_nameAt_0 X.2.1 a kp ty pl gd od vU vS vN vX vM vT vB vK vY vZ vR vC vV i hO (by first | assumption | omega)) dX6_doSet_45 [0, 1] [] 0 rfl nd_0_1 rfl rfl rfl (by decide) (by decide) (Nat.le_of_ble_eq_true rfl) rfl ?_
  refine z_istore C dX6_doSet_48 (Nat.le_of_ble_eq_true rfl) ?_
  refine z_aload_n C 0 dX6_doSet_50 rfl rfl ?_
  refine z_iconst C (nI 1) dX6_doSet_51 (by decide) ?_
  refine z_iload_n C 3 dX6_doSet_52 rfl rfl ?_
  refine z_callVr C kX6_nameAt gX6_doSet_X6_nameAt (mX6_nameAt_1 X.2.1 a kp ty pl gd od vU vS vN vX vM vT vB vK vY vZ vR vC vV j hO (by first | assumption | omega)) dX6_doSet_53 [0, 1] [] 0 rfl nd_0_1 rfl rfl rfl (by decide) (by decide) (Nat.le_of_ble_eq_true rfl) rfl ?_
  refine z_istore C dX6_doSet_56 (Nat.le_of_ble_eq_true rfl) ?_
  refine z_aload_n C 0 dX6_doSet_58 rfl rfl ?_
  refine z_iconst C (nI 0) dX6_doSet_59 (by decide) ?_
  refine z_iload_n C 2 dX6_doSet_60 rfl rfl ?_
  refine z_callVr C kX6_isDoomed gX6_doSet_X6_isDoomed (mX6_isDoomed_0 X.2.1 a kp ty pl gd od vU vS vN vX vM vT vB vK vY vZ vR vC vV i hO (by first | assumption | omega)) dX6_doSet_61 [0, 1] [] 0 rfl nd_0_1 rfl rfl rfl (by decide) (by decide) (Nat.le_of_ble_eq_true rfl) rfl ?_
  refine z_bif_ne_t C 96 dX6_doSet_64 (by decide) hr ?_
  refine z_bipush C (-4) dX6_doSet_96 (by decide) ?_
  exact z_iret C N dX6_doSet_98 (rfl) (rfl)

set_option maxHeartbeats 4000000 in
set_option maxRecDepth 100000 in
theorem mX6_doSet_n2 (E : zE) (a : Nat → Nat) (kp ty pl : Nat) (gd : Bool) (od : Nat) (vU vS : Nat → Nat) (vN : Nat → Int32) (vX vM : Nat) (vT : Bool) (vB vK vY vZ vR vC vV : Nat → Int32) (au i j v : Nat) (hO : okM vU vS vM vK) (hW : nmM vU vS vN) (hau : au < 4) (hi : i < vU 0) (hj : j < vU 1) (hv : v ≤ 9999) (hr : mDm vZ vK vR vC vS vN vM 0 i = false) (hc : mDm vZ vK vR vC vS vN vM 1 j = true) : zM E yX6_doSet wsX6_doSet 5 [.ref (a 0), .int (nI au), .int (nI i), .int (nI j), .int (nI v)] [((a 0), .inr (6, [.ref (a 1), .ref (a 2), .ref (a 3), .int (nI kp), .int (nI ty), .ref (a 4), .int (nI pl), .int (zb gd), .int (nI od), .ref (a 5)])), ((a 1), .inl (E.2.2.1, 512, .inl (mRow vU vS vN vX vM vT vB vK vY vZ vR vC vV)))] [((a 0), .inr (6, [.ref (a 1), .ref (a 2), .ref (a 3), .int (nI kp), .int (nI ty), .ref (a 4), .int (nI pl), .int (zb gd), .int (nI od), .ref (a 5)])), ((a 1), .inl (E.2.2.1, 512, .inl (mRow vU vS vN vX vM vT vB vK vY vZ vR vC vV)))] (some (.int (-4))) := by
  refine zM.of kX6_doSet (Nat.le_of_ble_eq_true rfl) rfl [some (.ref (a 0)), some (.int (nI au)), some (.int (nI i)), some (.int (nI j)), some (.int (nI v)), none, none, none] rfl (Nat.le_of_ble_eq_true rfl) ?_
  intro X eX C N
  subst eX
  obtain ⟨hu0, hu1, hM, hk1, hk2, hk3⟩ := id hO
  refine z_iload_n C 1 dX6_doSet_0 rfl rfl ?_
  refine z_callS C kX6_noAuthor gX6_doSet_X6_noAuthor (mX6_noAuthor_y X.2.1 au hau) dX6_doSet_1 [] rfl (by decide) (by decide) (Nat.le_of_ble_eq_true rfl) rfl ?_
  refine z_bif_ne_f C 25 dX6_doSet_4 (by decide) rfl ?_
  refine z_aload_n C 0 dX6_doSet_7 rfl rfl ?_
  refine z_iconst C (nI 0) dX6_doSet_8 (by decide) ?_
  refine z_iload_n C 2 dX6_doSet_9 rfl rfl ?_
  refine z_callVr C kX6_noLine gX6_doSet_X6_noLine (mX6_noLine_0_y X.2.1 a kp ty pl gd od vU vS vN vX vM vT vB vK vY vZ vR vC vV i hO hi) dX6_doSet_10 [0, 1] [] 0 rfl nd_0_1 rfl rfl rfl (by decide) (by decide) (Nat.le_of_ble_eq_true rfl) rfl ?_
  refine z_bif_ne_f C 25 dX6_doSet_13 (by decide) rfl ?_
  refine z_aload_n C 0 dX6_doSet_16 rfl rfl ?_
  refine z_iconst C (nI 1) dX6_doSet_17 (by decide) ?_
  refine z_iload_n C 3 dX6_doSet_18 rfl rfl ?_
  refine z_callVr C kX6_noLine gX6_doSet_X6_noLine (mX6_noLine_1_y X.2.1 a kp ty pl gd od vU vS vN vX vM vT vB vK vY vZ vR vC vV j hO hj) dX6_doSet_19 [0, 1] [] 0 rfl nd_0_1 rfl rfl rfl (by decide) (by decide) (Nat.le_of_ble_eq_true rfl) rfl ?_
  refine z_bif_eq_t C 27 dX6_doSet_22 (by decide) rfl ?_
  refine z_iload C dX6_doSet_27 rfl ?_
  refine z_iconst C (nI 0) dX6_doSet_29 (by decide) ?_
  refine z_sipush C (nI 9999) dX6_doSet_30 (by decide) ?_
  refine z_callS C kX6_in gX6_doSet_X6_in (mX6_in_y X.2.1 v 9999 hv (by first | assumption | omega)) dX6_doSet_33 [] rfl (by decide) (by decide) (Nat.le_of_ble_eq_true rfl) rfl ?_
  refine z_bif_ne_t C 42 dX6_doSet_36 (by decide) rfl ?_
  refine z_aload_n C 0 dX6_doSet_42 rfl rfl ?_
  refine z_iconst C (nI 0) dX6_doSet_43 (by decide) ?_
  refine z_iload_n C 2 dX6_doSet_44 rfl rfl ?_
  refine z_callVr C kX6_nameAt gX6_doSet_X6_nameAt (mX6_nameAt_0 X.2.1 a kp ty pl gd od vU vS vN vX vM vT vB vK vY vZ vR vC vV i hO (by first | assumption | omega)) dX6_doSet_45 [0, 1] [] 0 rfl nd_0_1 rfl rfl rfl (by decide) (by decide) (Nat.le_of_ble_eq_true rfl) rfl ?_
  refine z_istore C dX6_doSet_48 (Nat.le_of_ble_eq_true rfl) ?_
  refine z_aload_n C 0 dX6_doSet_50 rfl rfl ?_
  refine z_iconst C (nI 1) dX6_doSet_51 (by decide) ?_
  refine z_iload_n C 3 dX6_doSet_52 rfl rfl ?_
  refine z_callVr C kX6_nameAt gX6_doSet_X6_nameAt (mX6_nameAt_1 X.2.1 a kp ty pl gd od vU vS vN vX vM vT vB vK vY vZ vR vC vV j hO (by first | assumption | omega)) dX6_doSet_53 [0, 1] [] 0 rfl nd_0_1 rfl rfl rfl (by decide) (by decide) (Nat.le_of_ble_eq_true rfl) rfl ?_
  refine z_istore C dX6_doSet_56 (Nat.le_of_ble_eq_true rfl) ?_
  refine z_aload_n C 0 dX6_doSet_58 rfl rfl ?_
  refine z_iconst C (nI 0) dX6_doSet_59 (by decide) ?_
  refine z_iload_n C 2 dX6_doSet_60 rfl rfl ?_
  refine z_callVr C kX6_isDoomed gX6_doSet_X6_isDoomed (mX6_isDoomed_0 X.2.1 a kp ty pl gd od vU vS vN vX vM vT vB vK vY vZ vR vC vV i hO (by first | assumption | omega)) dX6_doSet_61 [0, 1] [] 0 rfl nd_0_1 rfl rfl rfl (by decide) (by decide) (Nat.le_of_ble_eq_true rfl) rfl ?_
  refine z_bif_ne_f C 96 dX6_doSet_64 (by decide) hr ?_
  refine z_aload_n C 0 dX6_doSet_67 rfl rfl ?_
  refine z_iconst C (nI 1) dX6_doSet_68 (by decide) ?_
  refine z_iload_n C 3 dX6_doSet_69 rfl rfl ?_
  refine z_callVr C kX6_isDoomed gX6_doSet_X6_isDoomed (mX6_isDoomed_1 X.2.1 a kp ty pl gd od vU vS vN vX vM vT vB vK vY vZ vR vC vV j hO (by first | assumption | omega)) dX6_doSet_70 [0, 1] [] 0 rfl nd_0_1 rfl rfl rfl (by decide) (by decide) (Nat.le_of_ble_eq_true rfl) rfl ?_
  refine z_bif_ne_t C 96 dX6_doSet_73 (by decide) hc ?_
  refine z_bipush C (-4) dX6_doSet_96 (by decide) ?_
  exact z_iret C N dX6_doSet_98 (rfl) (rfl)

theorem fX6_doSet_7 : zF wsX6_doSet RX6 7 6 0 RX6 TX6 10 := ⟨by decide +kernel, rfl, by decide, by decide +kernel, rfl⟩
set_option maxHeartbeats 4000000 in
set_option maxRecDepth 100000 in
theorem mX6_doSet_n3 (E : zE) (a : Nat → Nat) (kp ty pl : Nat) (gd : Bool) (od : Nat) (vU vS : Nat → Nat) (vN : Nat → Int32) (vX vM : Nat) (vT : Bool) (vB vK vY vZ vR vC vV : Nat → Int32) (au i j v : Nat) (hO : okM vU vS vM vK) (hW : nmM vU vS vN) (hau : au < 4) (hi : i < vU 0) (hj : j < vU 1) (hv : v ≤ 9999) (hr : mDm vZ vK vR vC vS vN vM 0 i = false) (hc : mDm vZ vK vR vC vS vN vM 1 j = false) (he : mVB vZ vK vR vC vB vS vV (vM) (mN vS vN 0 i) (mN vS vN 1 j) i j = nI v) : zM E yX6_doSet wsX6_doSet 5 [.ref (a 0), .int (nI au), .int (nI i), .int (nI j), .int (nI v)] [((a 0), .inr (6, [.ref (a 1), .ref (a 2), .ref (a 3), .int (nI kp), .int (nI ty), .ref (a 4), .int (nI pl), .int (zb gd), .int (nI od), .ref (a 5)])), ((a 1), .inl (E.2.2.1, 512, .inl (mRow vU vS vN vX vM vT vB vK vY vZ vR vC vV)))] [((a 0), .inr (6, [.ref (a 1), .ref (a 2), .ref (a 3), .int (nI kp), .int (nI ty), .ref (a 4), .int (nI pl), .int (zb gd), .int (nI od), .ref (a 5)])), ((a 1), .inl (E.2.2.1, 512, .inl (mRow vU vS vN vX vM vT vB vK vY vZ vR vC vV)))] (some (.int (-4))) := by
  refine zM.of kX6_doSet (Nat.le_of_ble_eq_true rfl) rfl [some (.ref (a 0)), some (.int (nI au)), some (.int (nI i)), some (.int (nI j)), some (.int (nI v)), none, none, none] rfl (Nat.le_of_ble_eq_true rfl) ?_
  intro X eX C N
  subst eX
  obtain ⟨hu0, hu1, hM, hk1, hk2, hk3⟩ := id hO
  refine z_iload_n C 1 dX6_doSet_0 rfl rfl ?_
  refine z_callS C kX6_noAuthor gX6_doSet_X6_noAuthor (mX6_noAuthor_y X.2.1 au hau) dX6_doSet_1 [] rfl (by decide) (by decide) (Nat.le_of_ble_eq_true rfl) rfl ?_
  refine z_bif_ne_f C 25 dX6_doSet_4 (by decide) rfl ?_
  refine z_aload_n C 0 dX6_doSet_7 rfl rfl ?_
  refine z_iconst C (nI 0) dX6_doSet_8 (by decide) ?_
  refine z_iload_n C 2 dX6_doSet_9 rfl rfl ?_
  refine z_callVr C kX6_noLine gX6_doSet_X6_noLine (mX6_noLine_0_y X.2.1 a kp ty pl gd od vU vS vN vX vM vT vB vK vY vZ vR vC vV i hO hi) dX6_doSet_10 [0, 1] [] 0 rfl nd_0_1 rfl rfl rfl (by decide) (by decide) (Nat.le_of_ble_eq_true rfl) rfl ?_
  refine z_bif_ne_f C 25 dX6_doSet_13 (by decide) rfl ?_
  refine z_aload_n C 0 dX6_doSet_16 rfl rfl ?_
  refine z_iconst C (nI 1) dX6_doSet_17 (by decide) ?_
  refine z_iload_n C 3 dX6_doSet_18 rfl rfl ?_
  refine z_callVr C kX6_noLine gX6_doSet_X6_noLine (mX6_noLine_1_y X.2.1 a kp ty pl gd od vU vS vN vX vM vT vB vK vY vZ vR vC vV j hO hj) dX6_doSet_19 [0, 1] [] 0 rfl nd_0_1 rfl rfl rfl (by decide) (by decide) (Nat.le_of_ble_eq_true rfl) rfl ?_
  refine z_bif_eq_t C 27 dX6_doSet_22 (by decide) rfl ?_
  refine z_iload C dX6_doSet_27 rfl ?_
  refine z_iconst C (nI 0) dX6_doSet_29 (by decide) ?_
  refine z_sipush C (nI 9999) dX6_doSet_30 (by decide) ?_
  refine z_callS C kX6_in gX6_doSet_X6_in (mX6_in_y X.2.1 v 9999 hv (by first | assumption | omega)) dX6_doSet_33 [] rfl (by decide) (by decide) (Nat.le_of_ble_eq_true rfl) rfl ?_
  refine z_bif_ne_t C 42 dX6_doSet_36 (by decide) rfl ?_
  refine z_aload_n C 0 dX6_doSet_42 rfl rfl ?_
  refine z_iconst C (nI 0) dX6_doSet_43 (by decide) ?_
  refine z_iload_n C 2 dX6_doSet_44 rfl rfl ?_
  refine z_callVr C kX6_nameAt gX6_doSet_X6_nameAt (mX6_nameAt_0 X.2.1 a kp ty pl gd od vU vS vN vX vM vT vB vK vY vZ vR vC vV i hO (by first | assumption | omega)) dX6_doSet_45 [0, 1] [] 0 rfl nd_0_1 rfl rfl rfl (by decide) (by decide) (Nat.le_of_ble_eq_true rfl) rfl ?_
  refine z_istore C dX6_doSet_48 (Nat.le_of_ble_eq_true rfl) ?_
  refine z_aload_n C 0 dX6_doSet_50 rfl rfl ?_
  refine z_iconst C (nI 1) dX6_doSet_51 (by decide) ?_
  refine z_iload_n C 3 dX6_doSet_52 rfl rfl ?_
  refine z_callVr C kX6_nameAt gX6_doSet_X6_nameAt (mX6_nameAt_1 X.2.1 a kp ty pl gd od vU vS vN vX vM vT vB vK vY vZ vR vC vV j hO (by first | assumption | omega)) dX6_doSet_53 [0, 1] [] 0 rfl nd_0_1 rfl rfl rfl (by decide) (by decide) (Nat.le_of_ble_eq_true rfl) rfl ?_
  refine z_istore C dX6_doSet_56 (Nat.le_of_ble_eq_true rfl) ?_
  refine z_aload_n C 0 dX6_doSet_58 rfl rfl ?_
  refine z_iconst C (nI 0) dX6_doSet_59 (by decide) ?_
  refine z_iload_n C 2 dX6_doSet_60 rfl rfl ?_
  refine z_callVr C kX6_isDoomed gX6_doSet_X6_isDoomed (mX6_isDoomed_0 X.2.1 a kp ty pl gd od vU vS vN vX vM vT vB vK vY vZ vR vC vV i hO (by first | assumption | omega)) dX6_doSet_61 [0, 1] [] 0 rfl nd_0_1 rfl rfl rfl (by decide) (by decide) (Nat.le_of_ble_eq_true rfl) rfl ?_
  refine z_bif_ne_f C 96 dX6_doSet_64 (by decide) hr ?_
  refine z_aload_n C 0 dX6_doSet_67 rfl rfl ?_
  refine z_iconst C (nI 1) dX6_doSet_68 (by decide) ?_
  refine z_iload_n C 3 dX6_doSet_69 rfl rfl ?_
  refine z_callVr C kX6_isDoomed gX6_doSet_X6_isDoomed (mX6_isDoomed_1 X.2.1 a kp ty pl gd od vU vS vN vX vM vT vB vK vY vZ vR vC vV j hO (by first | assumption | omega)) dX6_doSet_70 [0, 1] [] 0 rfl nd_0_1 rfl rfl rfl (by decide) (by decide) (Nat.le_of_ble_eq_true rfl) rfl ?_
  refine z_bif_ne_f C 96 dX6_doSet_73 (by decide) hc ?_
  refine z_aload_n C 0 dX6_doSet_76 rfl rfl ?_
  refine z_aload_n C 0 dX6_doSet_77 rfl rfl ?_
  refine z_get C fX6_doSet_7 0 dX6_doSet_78 rfl rfl ?_
  refine z_bipush C (nI 51) dX6_doSet_81 (by decide) ?_
  refine z_ialdN C 1 dX6_doSet_83 rfl (by omega) (by decide) ?_
  refine z_top (y := nI (vM)) (zMr_M) ?_
  refine z_iload C dX6_doSet_84 rfl ?_
  refine z_iload C dX6_doSet_86 rfl ?_
  refine z_callVr C kX6_valueBelow gX6_doSet_X6_valueBelow (mX6_valueBelow X.2.1 a kp ty pl gd od vU vS vN vX vM vT vB vK vY vZ vR vC vV (vM) (mN vS vN 0 i) (mN vS vN 1 j) i j hO hM (mPl_0 hW hO hi) (hi) (mPl_1 hW hO hj) (hj)) dX6_doSet_88 [0, 1] [] 0 rfl nd_0_1 rfl rfl rfl (by decide) (by decide) (Nat.le_of_ble_eq_true rfl) rfl ?_
  refine z_iload C dX6_doSet_91 rfl ?_
  refine z_icmp_ne_f C 99 dX6_doSet_93 (by decide) he ?_
  refine z_bipush C (-4) dX6_doSet_96 (by decide) ?_
  exact z_iret C N dX6_doSet_98 (rfl) (rfl)

