set_option maxHeartbeats 4000000 in
set_option maxRecDepth 100000 in
theorem mX6_doRemove_0u (E : zE) (a : Nat → Nat) (kp ty pl : Nat) (gd : Bool) (od : Nat) (vU vS : Nat → Nat) (vN : Nat → Int32) (vX vM : Nat) (vT : Bool) (vB vK vY vZ vR vC vV : Nat → Int32) (au j : Nat) (hO : okM vU vS vM vK) (hau : au < 4) (hj : j < vU 0) (ht : vT = false) : zM E yX6_doRemove wsX6_doRemove 5 [.ref (a 0), .int (nI au), .int (nI 0), .int (nI j)] [((a 0), .inr (6, [.ref (a 1), .ref (a 2), .ref (a 3), .int (nI kp), .int (nI ty), .ref (a 4), .int (nI pl), .int (zb gd), .int (nI od), .ref (a 5)])), ((a 1), .inl (E.2.2.1, 512, .inl (mRow vU vS vN vX vM vT vB vK vY vZ vR vC vV)))] [((a 0), .inr (6, [.ref (a 1), .ref (a 2), .ref (a 3), .int (nI kp), .int (nI ty), .ref (a 4), .int (nI pl), .int (zb gd), .int (nI od), .ref (a 5)])), ((a 1), .inl (E.2.2.1, 512, .inl (mRow (zUpN vU 0 (vU 0 - 1)) (mClL vS (12 * 0) j (vU 0 - 1)) vN vX vM vT vB vK vY (mMk vZ (mDp vZ vK vR vC (nI 0) (mN vS vN 0 j) false) (nI 3) vM) vR vC vV)))] (some (.int (nI 1000))) := by
  refine zM.of kX6_doRemove (Nat.le_of_ble_eq_true rfl) rfl [some (.ref (a 0)), some (.int (nI au)), some (.int (nI 0)), some (.int (nI j)), none, none] rfl (Nat.le_of_ble_eq_true rfl) ?_
  intro X eX C N
  subst eX
  obtain ⟨hu0, hu1, hM, hk1, hk2, hk3⟩ := id hO
  refine z_iload_n C 1 dX6_doRemove_0 rfl rfl ?_
  refine z_callS C kX6_noAuthor gX6_doRemove_X6_noAuthor (mX6_noAuthor_y X.2.1 au hau) dX6_doRemove_1 [] rfl (by decide) (by decide) (Nat.le_of_ble_eq_true rfl) rfl ?_
  refine z_bif_ne_f C 16 dX6_doRemove_4 (by decide) rfl ?_
  refine z_aload_n C 0 dX6_doRemove_7 rfl rfl ?_
  refine z_iload_n C 2 dX6_doRemove_8 rfl rfl ?_
  refine z_iload_n C 3 dX6_doRemove_9 rfl rfl ?_
  refine z_callVr C kX6_noLine gX6_doRemove_X6_noLine (mX6_noLine_0_y X.2.1 a kp ty pl gd od vU vS vN vX vM vT vB vK vY vZ vR vC vV j hO hj) dX6_doRemove_10 [0, 1] [] 0 rfl nd_0_1 rfl rfl rfl (by decide) (by decide) (Nat.le_of_ble_eq_true rfl) rfl ?_
  refine z_bif_eq_t C 18 dX6_doRemove_13 (by decide) rfl ?_
  refine z_aload_n C 0 dX6_doRemove_18 rfl rfl ?_
  refine z_iload_n C 2 dX6_doRemove_19 rfl rfl ?_
  refine z_iload_n C 3 dX6_doRemove_20 rfl rfl ?_
  refine z_callVr C kX6_nameAt gX6_doRemove_X6_nameAt (mX6_nameAt_0 X.2.1 a kp ty pl gd od vU vS vN vX vM vT vB vK vY vZ vR vC vV j hO (by first | assumption | omega)) dX6_doRemove_21 [0, 1] [] 0 rfl nd_0_1 rfl rfl rfl (by decide) (by decide) (Nat.le_of_ble_eq_true rfl) rfl ?_
  refine z_istore C dX6_doRemove_24 (Nat.le_of_ble_eq_true rfl) ?_
  refine z_aload_n C 0 dX6_doRemove_26 rfl rfl ?_
  refine z_callVr C kX6_isTracked gX6_doRemove_X6_isTracked (mX6_isTracked X.2.1 a kp ty pl gd od vU vS vN vX vM vT vB vK vY vZ vR vC vV ) dX6_doRemove_27 [0, 1] [] 0 rfl nd_0_1 rfl rfl rfl (by decide) (by decide) (Nat.le_of_ble_eq_true rfl) rfl ?_
  refine z_bif_ne_f C 51 dX6_doRemove_30 (by decide) ht ?_
  refine z_aload_n C 0 dX6_doRemove_33 rfl rfl ?_
  refine z_iload_n C 2 dX6_doRemove_34 rfl rfl ?_
  refine z_iload C dX6_doRemove_35 rfl ?_
  refine z_iconst C (nI 0) dX6_doRemove_37 (by decide) ?_
  refine z_callVv (wn := [((a 0), .inr (6, [.ref (a 1), .ref (a 2), .ref (a 3), .int (nI kp), .int (nI ty), .ref (a 4), .int (nI pl), .int (zb gd), .int (nI od), .ref (a 5)])), ((a 1), .inl (X.2.1.2.2.1, 512, .inl (mRow vU vS vN vX vM vT vB vK vY (mMk vZ (mDp vZ vK vR vC (nI 0) (mN vS vN 0 j) false) (nI 3) vM) vR vC vV)))]) C kX6_dissolveAt gX6_doRemove_X6_dissolveAt (mX6_dissolveAt_0f X.2.1 a kp ty pl gd od vU vS vN vX vM vT vB vK vY vZ vR vC vV (mN vS vN 0 j) hO) dX6_doRemove_38 [0, 1] [] 0 rfl rfl nd_0_1 rfl rfl rfl (by decide) (by decide) (Nat.le_of_ble_eq_true rfl) rfl rfl ?_
  refine z_aload_n C 0 dX6_doRemove_41 rfl rfl ?_
  refine z_iload_n C 2 dX6_doRemove_42 rfl rfl ?_
  refine z_iload_n C 3 dX6_doRemove_43 rfl rfl ?_
  refine z_callVv (wn := [((a 0), .inr (6, [.ref (a 1), .ref (a 2), .ref (a 3), .int (nI kp), .int (nI ty), .ref (a 4), .int (nI pl), .int (zb gd), .int (nI od), .ref (a 5)])), ((a 1), .inl (X.2.1.2.2.1, 512, .inl (mRow (zUpN vU 0 (vU 0 - 1)) (mClL vS (12 * 0) j (vU 0 - 1)) vN vX vM vT vB vK vY (mMk vZ (mDp vZ vK vR vC (nI 0) (mN vS vN 0 j) false) (nI 3) vM) vR vC vV)))]) C kX6_takeLine gX6_doRemove_X6_takeLine (mX6_takeLine_0 X.2.1 a kp ty pl gd od vU vS vN vX vM vT vB vK vY (mMk vZ (mDp vZ vK vR vC (nI 0) (mN vS vN 0 j) false) (nI 3) vM) vR vC vV j hO hj) dX6_doRemove_44 [0, 1] [] 0 rfl rfl nd_0_1 rfl rfl rfl (by decide) (by decide) (Nat.le_of_ble_eq_true rfl) rfl rfl ?_
  have hg_1 : okM (zUpN vU 0 (vU 0 - 1)) (mClL vS (12 * 0) j (vU 0 - 1)) vM vK := okM_Tk_0 (by assumption) (by omega)
  refine z_sipush C (nI 1000) dX6_doRemove_47 (by decide) ?_
  exact z_iret C N dX6_doRemove_50 (rfl) (rfl)

set_option maxHeartbeats 4000000 in
set_option maxRecDepth 100000 in
theorem mX6_doRemove_0d (E : zE) (a : Nat → Nat) (kp ty pl : Nat) (gd : Bool) (od : Nat) (vU vS : Nat → Nat) (vN : Nat → Int32) (vX vM : Nat) (vT : Bool) (vB vK vY vZ vR vC vV : Nat → Int32) (au j : Nat) (hO : okM vU vS vM vK) (hau : au < 4) (hj : j < vU 0) (ht : vT = true) (hr : mDm vZ vK vR vC vS vN vM 0 j = true) : zM E yX6_doRemove wsX6_doRemove 5 [.ref (a 0), .int (nI au), .int (nI 0), .int (nI j)] [((a 0), .inr (6, [.ref (a 1), .ref (a 2), .ref (a 3), .int (nI kp), .int (nI ty), .ref (a 4), .int (nI pl), .int (zb gd), .int (nI od), .ref (a 5)])), ((a 1), .inl (E.2.2.1, 512, .inl (mRow vU vS vN vX vM vT vB vK vY vZ vR vC vV)))] [((a 0), .inr (6, [.ref (a 1), .ref (a 2), .ref (a 3), .int (nI kp), .int (nI ty), .ref (a 4), .int (nI pl), .int (zb gd), .int (nI od), .ref (a 5)])), ((a 1), .inl (E.2.2.1, 512, .inl (mRow vU vS vN vX vM vT vB vK vY vZ vR vC vV)))] (some (.int (-4))) := by
  refine zM.of kX6_doRemove (Nat.le_of_ble_eq_true rfl) rfl [some (.ref (a 0)), some (.int (nI au)), some (.int (nI 0)), some (.int (nI j)), none, none] rfl (Nat.le_of_ble_eq_true rfl) ?_
  intro X eX C N
  subst eX
  obtain ⟨hu0, hu1, hM, hk1, hk2, hk3⟩ := id hO
  refine z_iload_n C 1 dX6_doRemove_0 rfl rfl ?_
  refine z_callS C kX6_noAuthor gX6_doRemove_X6_noAuthor (mX6_noAuthor_y X.2.1 au hau) dX6_doRemove_1 [] rfl (by decide) (by decide) (Nat.le_of_ble_eq_true rfl) rfl ?_
  refine z_bif_ne_f C 16 dX6_doRemove_4 (by decide) rfl ?_
  refine z_aload_n C 0 dX6_doRemove_7 rfl rfl ?_
  refine z_iload_n C 2 dX6_doRemove_8 rfl rfl ?_
  refine z_iload_n C 3 dX6_doRemove_9 rfl rfl ?_
  refine z_callVr C kX6_noLine gX6_doRemove_X6_noLine (mX6_noLine_0_y X.2.1 a kp ty pl gd od vU vS vN vX vM vT vB vK vY vZ vR vC vV j hO hj) dX6_doRemove_10 [0, 1] [] 0 rfl nd_0_1 rfl rfl rfl (by decide) (by decide) (Nat.le_of_ble_eq_true rfl) rfl ?_
  refine z_bif_eq_t C 18 dX6_doRemove_13 (by decide) rfl ?_
  refine z_aload_n C 0 dX6_doRemove_18 rfl rfl ?_
  refine z_iload_n C 2 dX6_doRemove_19 rfl rfl ?_
  refine z_iload_n C 3 dX6_doRemove_20 rfl rfl ?_
  refine z_callVr C kX6_nameAt gX6_doRemove_X6_nameAt (mX6_nameAt_0 X.2.1 a kp ty pl gd od vU vS vN vX vM vT vB vK vY vZ vR vC vV j hO (by first | assumption | omega)) dX6_doRemove_21 [0, 1] [] 0 rfl nd_0_1 rfl rfl rfl (by decide) (by decide) (Nat.le_of_ble_eq_true rfl) rfl ?_
  refine z_istore C dX6_doRemove_24 (Nat.le_of_ble_eq_true rfl) ?_
  refine z_aload_n C 0 dX6_doRemove_26 rfl rfl ?_
  refine z_callVr C kX6_isTracked gX6_doRemove_X6_isTracked (mX6_isTracked X.2.1 a kp ty pl gd od vU vS vN vX vM vT vB vK vY vZ vR vC vV ) dX6_doRemove_27 [0, 1] [] 0 rfl nd_0_1 rfl rfl rfl (by decide) (by decide) (Nat.le_of_ble_eq_true rfl) rfl ?_
  refine z_bif_ne_t C 51 dX6_doRemove_30 (by decide) ht ?_
  refine z_aload_n C 0 dX6_doRemove_51 rfl rfl ?_
  refine z_iload_n C 2 dX6_doRemove_52 rfl rfl ?_
  refine z_iload_n C 3 dX6_doRemove_53 rfl rfl ?_
  refine z_callVr C kX6_isDoomed gX6_doRemove_X6_isDoomed (mX6_isDoomed_0 X.2.1 a kp ty pl gd od vU vS vN vX vM vT vB vK vY vZ vR vC vV j hO (by first | assumption | omega)) dX6_doRemove_54 [0, 1] [] 0 rfl nd_0_1 rfl rfl rfl (by decide) (by decide) (Nat.le_of_ble_eq_true rfl) rfl ?_
  refine z_bif_eq_f C 63 dX6_doRemove_57 (by decide) hr ?_
  refine z_bipush C (-4) dX6_doRemove_60 (by decide) ?_
  exact z_iret C N dX6_doRemove_62 (rfl) (rfl)

set_option maxHeartbeats 4000000 in
set_option maxRecDepth 100000 in
theorem mX6_doRemove_0o (E : zE) (a : Nat → Nat) (kp ty pl : Nat) (gd : Bool) (od : Nat) (vU vS : Nat → Nat) (vN : Nat → Int32) (vX vM : Nat) (vT : Bool) (vB vK vY vZ vR vC vV : Nat → Int32) (au j : Nat) (k : Nat) (hO : okM vU vS vM vK) (hau : au < 4) (hj : j < vU 0) (ht : vT = true) (hr : mDm vZ vK vR vC vS vN vM 0 j = false) (hik : mIn vZ vK vR vC vS vN vM 0 j = nI k) (hk : k < vM) (hby : vY k = nI au) : zM E yX6_doRemove wsX6_doRemove 5 [.ref (a 0), .int (nI au), .int (nI 0), .int (nI j)] [((a 0), .inr (6, [.ref (a 1), .ref (a 2), .ref (a 3), .int (nI kp), .int (nI ty), .ref (a 4), .int (nI pl), .int (zb gd), .int (nI od), .ref (a 5)])), ((a 1), .inl (E.2.2.1, 512, .inl (mRow vU vS vN vX vM vT vB vK vY vZ vR vC vV)))] [((a 0), .inr (6, [.ref (a 1), .ref (a 2), .ref (a 3), .int (nI kp), .int (nI ty), .ref (a 4), .int (nI pl), .int (zb gd), .int (nI od), .ref (a 5)])), ((a 1), .inl (E.2.2.1, 512, .inl (mRow (zUpN vU 0 (vU 0 - 1)) (mClL vS (12 * 0) j (vU 0 - 1)) vN vX vM vT vB vK vY (mMk vZ (mDp vZ vK vR vC (nI 0) (mN vS vN 0 j) false) (nI 3) vM) vR vC vV)))] (some (.int (nI k))) := by
  refine zM.of kX6_doRemove (Nat.le_of_ble_eq_true rfl) rfl [some (.ref (a 0)), some (.int (nI au)), some (.int (nI 0)), some (.int (nI j)), none, none] rfl (Nat.le_of_ble_eq_true rfl) ?_
  intro X eX C N
  subst eX
  obtain ⟨hu0, hu1, hM, hk1, hk2, hk3⟩ := id hO
  refine z_iload_n C 1 dX6_doRemove_0 rfl rfl ?_
  refine z_callS C kX6_noAuthor gX6_doRemove_X6_noAuthor (mX6_noAuthor_y X.2.1 au hau) dX6_doRemove_1 [] rfl (by decide) (by decide) (Nat.le_of_ble_eq_true rfl) rfl ?_
  refine z_bif_ne_f C 16 dX6_doRemove_4 (by decide) rfl ?_
  refine z_aload_n C 0 dX6_doRemove_7 rfl rfl ?_
  refine z_iload_n C 2 dX6_doRemove_8 rfl rfl ?_
  refine z_iload_n C 3 dX6_doRemove_9 rfl rfl ?_
  refine z_callVr C kX6_noLine gX6_doRemove_X6_noLine (mX6_noLine_0_y X.2.1 a kp ty pl gd od vU vS vN vX vM vT vB vK vY vZ vR vC vV j hO hj) dX6_doRemove_10 [0, 1] [] 0 rfl nd_0_1 rfl rfl rfl (by decide) (by decide) (Nat.le_of_ble_eq_true rfl) rfl ?_
  refine z_bif_eq_t C 18 dX6_doRemove_13 (by decide) rfl ?_
  refine z_aload_n C 0 dX6_doRemove_18 rfl rfl ?_
  refine z_iload_n C 2 dX6_doRemove_19 rfl rfl ?_
  refine z_iload_n C 3 dX6_doRemove_20 rfl rfl ?_
  refine z_callVr C kX6_nameAt gX6_doRemove_X6_nameAt (mX6_nameAt_0 X.2.1 a kp ty pl gd od vU vS vN vX vM vT vB vK vY vZ vR vC vV j hO (by first | assumption | omega)) dX6_doRemove_21 [0, 1] [] 0 rfl nd_0_1 rfl rfl rfl (by decide) (by decide) (Nat.le_of_ble_eq_true rfl) rfl ?_
  refine z_istore C dX6_doRemove_24 (Nat.le_of_ble_eq_true rfl) ?_
  refine z_aload_n C 0 dX6_doRemove_26 rfl rfl ?_
  refine z_callVr C kX6_isTracked gX6_doRemove_X6_isTracked (mX6_isTracked X.2.1 a kp ty pl gd od vU vS vN vX vM vT vB vK vY vZ vR vC vV ) dX6_doRemove_27 [0, 1] [] 0 rfl nd_0_1 rfl rfl rfl (by decide) (by decide) (Nat.le_of_ble_eq_true rfl) rfl ?_
  refine z_bif_ne_t C 51 dX6_doRemove_30 (by decide) ht ?_
  refine z_aload_n C 0 dX6_doRemove_51 rfl rfl ?_
  refine z_iload_n C 2 dX6_doRemove_52 rfl rfl ?_
  refine z_iload_n C 3 dX6_doRemove_53 rfl rfl ?_
  refine z_callVr C kX6_isDoomed gX6_doRemove_X6_isDoomed (mX6_isDoomed_0 X.2.1 a kp ty pl gd od vU vS vN vX vM vT vB vK vY vZ vR vC vV j hO (by first | assumption | omega)) dX6_doRemove_54 [0, 1] [] 0 rfl nd_0_1 rfl rfl rfl (by decide) (by decide) (Nat.le_of_ble_eq_true rfl) rfl ?_
  refine z_bif_eq_t C 63 dX6_doRemove_57 (by decide) hr ?_
  refine z_aload_n C 0 dX6_doRemove_63 rfl rfl ?_
  refine z_iload_n C 2 dX6_doRemove_64 rfl rfl ?_
  refine z_iload_n C 3 dX6_doRemove_65 rfl rfl ?_
  refine z_callVr C kX6_insertionOf gX6_doRemove_X6_insertionOf (mX6_insertionOf_0 X.2.1 a kp ty pl gd od vU vS vN vX vM vT vB vK vY vZ vR vC vV j hO (by first | assumption | omega)) dX6_doRemove_66 [0, 1] [] 0 rfl nd_0_1 rfl rfl rfl (by decide) (by decide) (Nat.le_of_ble_eq_true rfl) rfl ?_
  refine z_top (y := nI k) (hik) ?_
  refine z_istore C dX6_doRemove_69 (Nat.le_of_ble_eq_true rfl) ?_
  refine z_iload C dX6_doRemove_71 rfl ?_
  refine z_nif_lt_f C 106 dX6_doRemove_73 (by decide) (by omega) (by trivial) ?_
  refine z_aload_n C 0 dX6_doRemove_76 rfl rfl ?_
  refine z_iload C dX6_doRemove_77 rfl ?_
  refine z_sipush C (nI 209) dX6_doRemove_79 (by decide) ?_
  refine z_callVr C kX6_of gX6_doRemove_X6_of (mX6_of_Y X.2.1 a kp ty pl gd od vU vS vN vX vM vT vB vK vY vZ vR vC vV k (by first | assumption | omega)) dX6_doRemove_82 [0, 1] [] 0 rfl nd_0_1 rfl rfl rfl (by decide) (by decide) (Nat.le_of_ble_eq_true rfl) rfl ?_
  refine z_iload_n C 1 dX6_doRemove_85 rfl rfl ?_
  refine z_icmp_ne_f C 106 dX6_doRemove_86 (by decide) hby ?_
  refine z_aload_n C 0 dX6_doRemove_89 rfl rfl ?_
  refine z_iload_n C 2 dX6_doRemove_90 rfl rfl ?_
  refine z_iload C dX6_doRemove_91 rfl ?_
  refine z_iconst C (nI 0) dX6_doRemove_93 (by decide) ?_
  refine z_callVv (wn := [((a 0), .inr (6, [.ref (a 1), .ref (a 2), .ref (a 3), .int (nI kp), .int (nI ty), .ref (a 4), .int (nI pl), .int (zb gd), .int (nI od), .ref (a 5)])), ((a 1), .inl (X.2.1.2.2.1, 512, .inl (mRow vU vS vN vX vM vT vB vK vY (mMk vZ (mDp vZ vK vR vC (nI 0) (mN vS vN 0 j) false) (nI 3) vM) vR vC vV)))]) C kX6_dissolveAt gX6_doRemove_X6_dissolveAt (mX6_dissolveAt_0f X.2.1 a kp ty pl gd od vU vS vN vX vM vT vB vK vY vZ vR vC vV (mN vS vN 0 j) hO) dX6_doRemove_94 [0, 1] [] 0 rfl rfl nd_0_1 rfl rfl rfl (by decide) (by decide) (Nat.le_of_ble_eq_true rfl) rfl rfl ?_
  refine z_aload_n C 0 dX6_doRemove_97 rfl rfl ?_
  refine z_iload_n C 2 dX6_doRemove_98 rfl rfl ?_
  refine z_iload_n C 3 dX6_doRemove_99 rfl rfl ?_
  refine z_callVv (wn := [((a 0), .inr (6, [.ref (a 1), .ref (a 2), .ref (a 3), .int (nI kp), .int (nI ty), .ref (a 4), .int (nI pl), .int (zb gd), .int (nI od), .ref (a 5)])), ((a 1), .inl (X.2.1.2.2.1, 512, .inl (mRow (zUpN vU 0 (vU 0 - 1)) (mClL vS (12 * 0) j (vU 0 - 1)) vN vX vM vT vB vK vY (mMk vZ (mDp vZ vK vR vC (nI 0) (mN vS vN 0 j) false) (nI 3) vM) vR vC vV)))]) C kX6_takeLine gX6_doRemove_X6_takeLine (mX6_takeLine_0 X.2.1 a kp ty pl gd od vU vS vN vX vM vT vB vK vY (mMk vZ (mDp vZ vK vR vC (nI 0) (mN vS vN 0 j) false) (nI 3) vM) vR vC vV j hO hj) dX6_doRemove_100 [0, 1] [] 0 rfl rfl nd_0_1 rfl rfl rfl (by decide) (by decide) (Nat.le_of_ble_eq_true rfl) rfl rfl ?_
  have hg_1 : okM (zUpN vU 0 (vU 0 - 1)) (mClL vS (12 * 0) j (vU 0 - 1)) vM vK := okM_Tk_0 (by assumption) (by omega)
  refine z_iload C dX6_doRemove_103 rfl ?_
  exact z_iret C N dX6_doRemove_105 (rfl) (rfl)

theorem fX6_doRemove_7 : zF wsX6_doRemove RX6 7 6 0 RX6 TX6 10 := ⟨by decide +kernel, rfl, by decide, by decide +kernel, rfl⟩
set_option maxHeartbeats 4000000 in
set_option maxRecDepth 100000 in
theorem mX6_doRemove_0nf (E : zE) (a : Nat → Nat) (kp ty pl : Nat) (gd : Bool) (od : Nat) (vU vS : Nat → Nat) (vN : Nat → Int32) (vX vM : Nat) (vT : Bool) (vB vK vY vZ vR vC vV : Nat → Int32) (au j : Nat) (hO : okM vU vS vM vK) (hau : au < 4) (hj : j < vU 0) (ht : vT = true) (hr : mDm vZ vK vR vC vS vN vM 0 j = false) (hi : mIn vZ vK vR vC vS vN vM 0 j < 0) (hf : vM = 60) : zM E yX6_doRemove wsX6_doRemove 5 [.ref (a 0), .int (nI au), .int (nI 0), .int (nI j)] [((a 0), .inr (6, [.ref (a 1), .ref (a 2), .ref (a 3), .int (nI kp), .int (nI ty), .ref (a 4), .int (nI pl), .int (zb gd), .int (nI od), .ref (a 5)])), ((a 1), .inl (E.2.2.1, 512, .inl (mRow vU vS vN vX vM vT vB vK vY vZ vR vC vV)))] [((a 0), .inr (6, [.ref (a 1), .ref (a 2), .ref (a 3), .int (nI kp), .int (nI ty), .ref (a 4), .int (nI pl), .int (zb gd), .int (nI od), .ref (a 5)])), ((a 1), .inl (E.2.2.1, 512, .inl (mRow vU vS vN vX vM vT vB vK vY vZ vR vC vV)))] (some (.int (-3))) := by
  refine zM.of kX6_doRemove (Nat.le_of_ble_eq_true rfl) rfl [some (.ref (a 0)), some (.int (nI au)), some (.int (nI 0)), some (.int (nI j)), none, none] rfl (Nat.le_of_ble_eq_true rfl) ?_
  intro X eX C N
  subst eX
  obtain ⟨hu0, hu1, hM, hk1, hk2, hk3⟩ := id hO
  refine z_iload_n C 1 dX6_doRemove_0 rfl rfl ?_
  refine z_callS C kX6_noAuthor gX6_doRemove_X6_noAuthor (mX6_noAuthor_y X.2.1 au hau) dX6_doRemove_1 [] rfl (by decide) (by decide) (Nat.le_of_ble_eq_true rfl) rfl ?_
  refine z_bif_ne_f C 16 dX6_doRemove_4 (by decide) rfl ?_
  refine z_aload_n C 0 dX6_doRemove_7 rfl rfl ?_
  refine z_iload_n C 2 dX6_doRemove_8 rfl rfl ?_
  refine z_iload_n C 3 dX6_doRemove_9 rfl rfl ?_
  refine z_callVr C kX6_noLine gX6_doRemove_X6_noLine (mX6_noLine_0_y X.2.1 a kp ty pl gd od vU vS vN vX vM vT vB vK vY vZ vR vC vV j hO hj) dX6_doRemove_10 [0, 1] [] 0 rfl nd_0_1 rfl rfl rfl (by decide) (by decide) (Nat.le_of_ble_eq_true rfl) rfl ?_
  refine z_bif_eq_t C 18 dX6_doRemove_13 (by decide) rfl ?_
  refine z_aload_n C 0 dX6_doRemove_18 rfl rfl ?_
  refine z_iload_n C 2 dX6_doRemove_19 rfl rfl ?_
  refine z_iload_n C 3 dX6_doRemove_20 rfl rfl ?_
  refine z_callVr C kX6_nameAt gX6_doRemove_X6_nameAt (mX6_nameAt_0 X.2.1 a kp ty pl gd od vU vS vN vX vM vT vB vK vY vZ vR vC vV j hO (by first | assumption | omega)) dX6_doRemove_21 [0, 1] [] 0 rfl nd_0_1 rfl rfl rfl (by decide) (by decide) (Nat.le_of_ble_eq_true rfl) rfl ?_
  refine z_istore C dX6_doRemove_24 (Nat.le_of_ble_eq_true rfl) ?_
  refine z_aload_n C 0 dX6_doRemove_26 rfl rfl ?_
  refine z_callVr C kX6_isTracked gX6_doRemove_X6_isTracked (mX6_isTracked X.2.1 a kp ty pl gd od vU vS vN vX vM vT vB vK vY vZ vR vC vV ) dX6_doRemove_27 [0, 1] [] 0 rfl nd_0_1 rfl rfl rfl (by decide) (by decide) (Nat.le_of_ble_eq_true rfl) rfl ?_
  refine z_bif_ne_t C 51 dX6_doRemove_30 (by decide) ht ?_
  refine z_aload_n C 0 dX6_doRemove_51 rfl rfl ?_
  refine z_iload_n C 2 dX6_doRemove_52 rfl rfl ?_
  refine z_iload_n C 3 dX6_doRemove_53 rfl rfl ?_
  refine z_callVr C kX6_isDoomed gX6_doRemove_X6_isDoomed (mX6_isDoomed_0 X.2.1 a kp ty pl gd od vU vS vN vX vM vT vB vK vY vZ vR vC vV j hO (by first | assumption | omega)) dX6_doRemove_54 [0, 1] [] 0 rfl nd_0_1 rfl rfl rfl (by decide) (by decide) (Nat.le_of_ble_eq_true rfl) rfl ?_
  refine z_bif_eq_t C 63 dX6_doRemove_57 (by decide) hr ?_
  refine z_aload_n C 0 dX6_doRemove_63 rfl rfl ?_
  refine z_iload_n C 2 dX6_doRemove_64 rfl rfl ?_
  refine z_iload_n C 3 dX6_doRemove_65 rfl rfl ?_
  refine z_callVr C kX6_insertionOf gX6_doRemove_X6_insertionOf (mX6_insertionOf_0 X.2.1 a kp ty pl gd od vU vS vN vX vM vT vB vK vY vZ vR vC vV j hO (by first | assumption | omega)) dX6_doRemove_66 [0, 1] [] 0 rfl nd_0_1 rfl rfl rfl (by decide) (by decide) (Nat.le_of_ble_eq_true rfl) rfl ?_
  refine z_istore C dX6_doRemove_69 (Nat.le_of_ble_eq_true rfl) ?_
  refine z_iload C dX6_doRemove_71 rfl ?_
  refine z_if_lt_t C 106 dX6_doRemove_73 (by decide) hi ?_
  refine z_aload_n C 0 dX6_doRemove_106 rfl rfl ?_
  refine z_get C fX6_doRemove_7 0 dX6_doRemove_107 rfl rfl ?_
  refine z_bipush C (nI 51) dX6_doRemove_110 (by decide) ?_
  refine z_ialdN C 1 dX6_doRemove_112 rfl (by omega) (by decide) ?_
  refine z_top (y := nI (vM)) (zMr_M) ?_
  refine z_bipush C (nI 60) dX6_doRemove_113 (by decide) ?_
  refine z_ncmp_ne_f C 123 dX6_doRemove_115 (by decide) (by omega) (by omega) (by omega) ?_
  refine z_bipush C (-3) dX6_doRemove_118 (by decide) ?_
  refine z_goto C 157 dX6_doRemove_120 (by decide) ?_
  exact z_iret C N dX6_doRemove_157 (rfl) (rfl)

set_option maxHeartbeats 4000000 in
set_option maxRecDepth 100000 in
theorem mX6_doRemove_0mf (E : zE) (a : Nat → Nat) (kp ty pl : Nat) (gd : Bool) (od : Nat) (vU vS : Nat → Nat) (vN : Nat → Int32) (vX vM : Nat) (vT : Bool) (vB vK vY vZ vR vC vV : Nat → Int32) (au j : Nat) (k : Nat) (hO : okM vU vS vM vK) (hau : au < 4) (hj : j < vU 0) (ht : vT = true) (hr : mDm vZ vK vR vC vS vN vM 0 j = false) (hik : mIn vZ vK vR vC vS vN vM 0 j = nI k) (hk : k < vM) (hby : ¬ vY k = nI au) (hf : vM = 60) : zM E yX6_doRemove wsX6_doRemove 5 [.ref (a 0), .int (nI au), .int (nI 0), .int (nI j)] [((a 0), .inr (6, [.ref (a 1), .ref (a 2), .ref (a 3), .int (nI kp), .int (nI ty), .ref (a 4), .int (nI pl), .int (zb gd), .int (nI od), .ref (a 5)])), ((a 1), .inl (E.2.2.1, 512, .inl (mRow vU vS vN vX vM vT vB vK vY vZ vR vC vV)))] [((a 0), .inr (6, [.ref (a 1), .ref (a 2), .ref (a 3), .int (nI kp), .int (nI ty), .ref (a 4), .int (nI pl), .int (zb gd), .int (nI od), .ref (a 5)])), ((a 1), .inl (E.2.2.1, 512, .inl (mRow vU vS vN vX vM vT vB vK vY vZ vR vC vV)))] (some (.int (-3))) := by
  refine zM.of kX6_doRemove (Nat.le_of_ble_eq_true rfl) rfl [some (.ref (a 0)), some (.int (nI au)), some (.int (nI 0)), some (.int (nI j)), none, none] rfl (Nat.le_of_ble_eq_true rfl) ?_
  intro X eX C N
  subst eX
  obtain ⟨hu0, hu1, hM, hk1, hk2, hk3⟩ := id hO
  refine z_iload_n C 1 dX6_doRemove_0 rfl rfl ?_
  refine z_callS C kX6_noAuthor gX6_doRemove_X6_noAuthor (mX6_noAuthor_y X.2.1 au hau) dX6_doRemove_1 [] rfl (by decide) (by decide) (Nat.le_of_ble_eq_true rfl) rfl ?_
  refine z_bif_ne_f C 16 dX6_doRemove_4 (by decide) rfl ?_
  refine z_aload_n C 0 dX6_doRemove_7 rfl rfl ?_
  refine z_iload_n C 2 dX6_doRemove_8 rfl rfl ?_
  refine z_iload_n C 3 dX6_doRemove_9 rfl rfl ?_
  refine z_callVr C kX6_noLine gX6_doRemove_X6_noLine (mX6_noLine_0_y X.2.1 a kp ty pl gd od vU vS vN vX vM vT vB vK vY vZ vR vC vV j hO hj) dX6_doRemove_10 [0, 1] [] 0 rfl nd_0_1 rfl rfl rfl (by decide) (by decide) (Nat.le_of_ble_eq_true rfl) rfl ?_
  refine z_bif_eq_t C 18 dX6_doRemove_13 (by decide) rfl ?_
  refine z_aload_n C 0 dX6_doRemove_18 rfl rfl ?_
  refine z_iload_n C 2 dX6_doRemove_19 rfl rfl ?_
  refine z_iload_n C 3 dX6_doRemove_20 rfl rfl ?_
  refine z_callVr C kX6_nameAt gX6_doRemove_X6_nameAt (mX6_nameAt_0 X.2.1 a kp ty pl gd od vU vS vN vX vM vT vB vK vY vZ vR vC vV j hO (by first | assumption | omega)) dX6_doRemove_21 [0, 1] [] 0 rfl nd_0_1 rfl rfl rfl (by decide) (by decide) (Nat.le_of_ble_eq_true rfl) rfl ?_
  refine z_istore C dX6_doRemove_24 (Nat.le_of_ble_eq_true rfl) ?_
  refine z_aload_n C 0 dX6_doRemove_26 rfl rfl ?_
  refine z_callVr C kX6_isTracked gX6_doRemove_X6_isTracked (mX6_isTracked X.2.1 a kp ty pl gd od vU vS vN vX vM vT vB vK vY vZ vR vC vV ) dX6_doRemove_27 [0, 1] [] 0 rfl nd_0_1 rfl rfl rfl (by decide) (by decide) (Nat.le_of_ble_eq_true rfl) rfl ?_
  refine z_bif_ne_t C 51 dX6_doRemove_30 (by decide) ht ?_
  refine z_aload_n C 0 dX6_doRemove_51 rfl rfl ?_
  refine z_iload_n C 2 dX6_doRemove_52 rfl rfl ?_
  refine z_iload_n C 3 dX6_doRemove_53 rfl rfl ?_
  refine z_callVr C kX6_isDoomed gX6_doRemove_X6_isDoomed (mX6_isDoomed_0 X.2.1 a kp ty pl gd od vU vS vN vX vM vT vB vK vY vZ vR vC vV j hO (by first | assumption | omega)) dX6_doRemove_54 [0, 1] [] 0 rfl nd_0_1 rfl rfl rfl (by decide) (by decide) (Nat.le_of_ble_eq_true rfl) rfl ?_
  refine z_bif_eq_t C 63 dX6_doRemove_57 (by decide) hr ?_
  refine z_aload_n C 0 dX6_doRemove_63 rfl rfl ?_
  refine z_iload_n C 2 dX6_doRemove_64 rfl rfl ?_
  refine z_iload_n C 3 dX6_doRemove_65 rfl rfl ?_
  refine z_callVr C kX6_insertionOf gX6_doRemove_X6_insertionOf (mX6_insertionOf_0 X.2.1 a kp ty pl gd od vU vS vN vX vM vT vB vK vY vZ vR vC vV j hO (by first | assumption | omega)) dX6_doRemove_66 [0, 1] [] 0 rfl nd_0_1 rfl rfl rfl (by decide) (by decide) (Nat.le_of_ble_eq_true rfl) rfl ?_
  refine z_top (y := nI k) (hik) ?_
  refine z_istore C dX6_doRemove_69 (Nat.le_of_ble_eq_true rfl) ?_
  refine z_iload C dX6_doRemove_71 rfl ?_
  refine z_nif_lt_f C 106 dX6_doRemove_73 (by decide) (by omega) (by trivial) ?_
  refine z_aload_n C 0 dX6_doRemove_76 rfl rfl ?_
  refine z_iload C dX6_doRemove_77 rfl ?_
  refine z_sipush C (nI 209) dX6_doRemove_79 (by decide) ?_
  refine z_callVr C kX6_of gX6_doRemove_X6_of (mX6_of_Y X.2.1 a kp ty pl gd od vU vS vN vX vM vT vB vK vY vZ vR vC vV k (by first | assumption | omega)) dX6_doRemove_82 [0, 1] [] 0 rfl nd_0_1 rfl rfl rfl (by decide) (by decide) (Nat.le_of_ble_eq_true rfl) rfl ?_
  refine z_iload_n C 1 dX6_doRemove_85 rfl rfl ?_
  refine z_icmp_ne_t C 106 dX6_doRemove_86 (by decide) hby ?_
  refine z_aload_n C 0 dX6_doRemove_106 rfl rfl ?_
  refine z_get C fX6_doRemove_7 0 dX6_doRemove_107 rfl rfl ?_
  refine z_bipush C (nI 51) dX6_doRemove_110 (by decide) ?_
  refine z_ialdN C 1 dX6_doRemove_112 rfl (by omega) (by decide) ?_
  refine z_top (y := nI (vM)) (zMr_M) ?_
  refine z_bipush C (nI 60) dX6_doRemove_113 (by decide) ?_
  refine z_ncmp_ne_f C 123 dX6_doRemove_115 (by decide) (by omega) (by omega) (by omega) ?_
  refine z_bipush C (-3) dX6_doRemove_118 (by decide) ?_
  refine z_goto C 157 dX6_doRemove_120 (by decide) ?_
  exact z_iret C N dX6_doRemove_157 (rfl) (rfl)

