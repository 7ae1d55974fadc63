theorem kX6_acceptAlone : zY yX6_acceptAlone wsX6_acceptAlone cX6_acceptAlone 4 none 1 := ⟨⟨_, rfl⟩, ⟨by decide +kernel, by decide +kernel, by decide +kernel⟩, by decide +kernel⟩
theorem fX6_acceptAlone_7 : zF wsX6_acceptAlone RX6 7 6 0 RX6 TX6 10 := ⟨by decide +kernel, rfl, by decide, by decide +kernel, rfl⟩
set_option maxHeartbeats 400000 in
set_option maxRecDepth 100000 in
theorem mX6_acceptAlone_0 (E : zE) (a : Nat → Nat) (kp ty pl : Nat) (gd : Bool) (od : Nat) (vU vS : Nat → Nat) (vN : Nat → Int32) (vX vM : Nat) (vT : Bool) (vB vK vY vZ vR vC vV : Nat → Int32) (x : Nat) (hO : okM vU vS vM vK) (hx : x < vM) (hkx : vK x = nI 0) : zM E yX6_acceptAlone wsX6_acceptAlone 3 [.ref (a 0), .int (nI x)] [((a 0), .inr (6, [.ref (a 1), .ref (a 2), .ref (a 3), .int (nI kp), .int (nI ty), .ref (a 4), .int (nI pl), .int (zb gd), .int (nI od), .ref (a 5)])), ((a 1), .inl (E.2.2.1, 512, .inl (mRow vU vS vN vX vM vT vB vK vY vZ vR vC vV)))] [((a 0), .inr (6, [.ref (a 1), .ref (a 2), .ref (a 3), .int (nI kp), .int (nI ty), .ref (a 4), .int (nI pl), .int (zb gd), .int (nI od), .ref (a 5)])), ((a 1), .inl (E.2.2.1, 512, .inl (mRow vU vS vN vX vM vT vB vK vY (upd vZ x (nI 1)) vR vC vV)))] none := by
  refine zM.of kX6_acceptAlone (Nat.le_of_ble_eq_true rfl) rfl [some (.ref (a 0)), some (.int (nI x)), none, none] rfl (Nat.le_of_ble_eq_true rfl) ?_
  intro X eX C N
  subst eX
  obtain ⟨hu0, hu1, hM, hk1, hk2, hk3⟩ := id hO
  refine z_aload_n C 0 dX6_acceptAlone_0 rfl rfl ?_
  refine z_iload_n C 1 dX6_acceptAlone_1 rfl rfl ?_
  refine z_sipush C (nI 149) dX6_acceptAlone_2 (by decide) ?_
  refine z_callVr C kX6_of gX6_acceptAlone_X6_of (mX6_of_K X.2.1 a kp ty pl gd od vU vS vN vX vM vT vB vK vY vZ vR vC vV x (by first | assumption | omega)) dX6_acceptAlone_5 [0, 1] [] 0 rfl nd_0_1 rfl rfl rfl (by decide) (by decide) (Nat.le_of_ble_eq_true rfl) rfl ?_
  refine z_top (y := nI 0) (hkx) ?_
  refine z_istore_n C 2 dX6_acceptAlone_8 rfl (Nat.le_of_ble_eq_true rfl) ?_
  refine z_aload_n C 0 dX6_acceptAlone_9 rfl rfl ?_
  refine z_get C fX6_acceptAlone_7 0 dX6_acceptAlone_10 rfl rfl ?_
  refine z_sipush C (nI 269) dX6_acceptAlone_13 (by decide) ?_
  refine z_iload_n C 1 dX6_acceptAlone_16 rfl rfl ?_
  refine z_iadd C dX6_acceptAlone_17 ?_
  refine z_top (y := nI (269 + x)) (nI_add _ _) ?_
  refine z_iconst C (nI 1) dX6_acceptAlone_18 (by decide) ?_
  refine z_iastR C 1 dX6_acceptAlone_19 rfl (by omega) (by decide) (f' := mRow vU vS vN vX vM vT vB vK vY (upd (vZ) x (nI 1)) vR vC vV) ((congrArg (fun i9 => upd (mRow vU vS vN vX vM vT vB vK vY vZ vR vC vV) i9 (nI 1)) (show 269 + x = 269 + (x) by omega)).trans (zMw_Z (by omega))) ?_
  refine z_iload_n C 2 dX6_acceptAlone_20 rfl rfl ?_
  refine z_iconst C (nI 4) dX6_acceptAlone_21 (by decide) ?_
  refine z_ncmp_ne_t C 71 dX6_acceptAlone_22 (by decide) (by omega) (by omega) (by omega) ?_
  refine z_iload_n C 2 dX6_acceptAlone_71 rfl rfl ?_
  refine z_iconst C (nI 2) dX6_acceptAlone_72 (by decide) ?_
  refine z_irem C dX6_acceptAlone_73 (by decide) ?_
  refine z_top (y := nI 0) (by decide) ?_
  refine z_iconst C (nI 1) dX6_acceptAlone_74 (by decide) ?_
  refine z_ncmp_ne_t C 122 dX6_acceptAlone_75 (by decide) (by omega) (by omega) (by omega) ?_
  exact z_vret C N dX6_acceptAlone_122 (rfl)

set_option maxHeartbeats 400000 in
set_option maxRecDepth 100000 in
theorem mX6_acceptAlone_1 (E : zE) (a : Nat → Nat) (kp ty pl : Nat) (gd : Bool) (od : Nat) (vU vS : Nat → Nat) (vN : Nat → Int32) (vX vM : Nat) (vT : Bool) (vB vK vY vZ vR vC vV : Nat → Int32) (x : Nat) (hO : okM vU vS vM vK) (hx : x < vM) (hkx : vK x = nI 1) (hi : mpx vS vN vU 0 (vR x) < vU 0) : zM E yX6_acceptAlone wsX6_acceptAlone 3 [.ref (a 0), .int (nI x)] [((a 0), .inr (6, [.ref (a 1), .ref (a 2), .ref (a 3), .int (nI kp), .int (nI ty), .ref (a 4), .int (nI pl), .int (zb gd), .int (nI od), .ref (a 5)])), ((a 1), .inl (E.2.2.1, 512, .inl (mRow vU vS vN vX vM vT vB vK vY vZ vR vC vV)))] [((a 0), .inr (6, [.ref (a 1), .ref (a 2), .ref (a 3), .int (nI kp), .int (nI ty), .ref (a 4), .int (nI pl), .int (zb gd), .int (nI od), .ref (a 5)])), ((a 1), .inl (E.2.2.1, 512, .inl (mRow (zUpN vU 0 (vU 0 - 1)) (mClL vS (12 * 0) (mpx vS vN vU 0 (vR x)) (vU 0 - 1)) vN vX vM vT vB vK vY (mMk (upd vZ x (nI 1)) (mDp (upd vZ x (nI 1)) vK vR vC (nI 0) (vR x) true) (nI 3) vM) vR vC vV)))] none := by
  refine zM.of kX6_acceptAlone (Nat.le_of_ble_eq_true rfl) rfl [some (.ref (a 0)), some (.int (nI x)), none, none] rfl (Nat.le_of_ble_eq_true rfl) ?_
  intro X eX C N
  subst eX
  obtain ⟨hu0, hu1, hM, hk1, hk2, hk3⟩ := id hO
  refine z_aload_n C 0 dX6_acceptAlone_0 rfl rfl ?_
  refine z_iload_n C 1 dX6_acceptAlone_1 rfl rfl ?_
  refine z_sipush C (nI 149) dX6_acceptAlone_2 (by decide) ?_
  refine z_callVr C kX6_of gX6_acceptAlone_X6_of (mX6_of_K X.2.1 a kp ty pl gd od vU vS vN vX vM vT vB vK vY vZ vR vC vV x (by first | assumption | omega)) dX6_acceptAlone_5 [0, 1] [] 0 rfl nd_0_1 rfl rfl rfl (by decide) (by decide) (Nat.le_of_ble_eq_true rfl) rfl ?_
  refine z_top (y := nI 1) (hkx) ?_
  refine z_istore_n C 2 dX6_acceptAlone_8 rfl (Nat.le_of_ble_eq_true rfl) ?_
  refine z_aload_n C 0 dX6_acceptAlone_9 rfl rfl ?_
  refine z_get C fX6_acceptAlone_7 0 dX6_acceptAlone_10 rfl rfl ?_
  refine z_sipush C (nI 269) dX6_acceptAlone_13 (by decide) ?_
  refine z_iload_n C 1 dX6_acceptAlone_16 rfl rfl ?_
  refine z_iadd C dX6_acceptAlone_17 ?_
  refine z_top (y := nI (269 + x)) (nI_add _ _) ?_
  refine z_iconst C (nI 1) dX6_acceptAlone_18 (by decide) ?_
  refine z_iastR C 1 dX6_acceptAlone_19 rfl (by omega) (by decide) (f' := mRow vU vS vN vX vM vT vB vK vY (upd (vZ) x (nI 1)) vR vC vV) ((congrArg (fun i9 => upd (mRow vU vS vN vX vM vT vB vK vY vZ vR vC vV) i9 (nI 1)) (show 269 + x = 269 + (x) by omega)).trans (zMw_Z (by omega))) ?_
  refine z_iload_n C 2 dX6_acceptAlone_20 rfl rfl ?_
  refine z_iconst C (nI 4) dX6_acceptAlone_21 (by decide) ?_
  refine z_ncmp_ne_t C 71 dX6_acceptAlone_22 (by decide) (by omega) (by omega) (by omega) ?_
  refine z_iload_n C 2 dX6_acceptAlone_71 rfl rfl ?_
  refine z_iconst C (nI 2) dX6_acceptAlone_72 (by decide) ?_
  refine z_irem C dX6_acceptAlone_73 (by decide) ?_
  refine z_top (y := nI 1) (by decide) ?_
  refine z_iconst C (nI 1) dX6_acceptAlone_74 (by decide) ?_
  refine z_ncmp_ne_f C 122 dX6_acceptAlone_75 (by decide) (by omega) (by omega) (by omega) ?_
  refine z_aload_n C 0 dX6_acceptAlone_78 rfl rfl ?_
  refine z_iload_n C 1 dX6_acceptAlone_79 rfl rfl ?_
  refine z_iload_n C 2 dX6_acceptAlone_80 rfl rfl ?_
  refine z_iconst C (nI 1) dX6_acceptAlone_81 (by decide) ?_
  refine z_ncmp_ne_f C 91 dX6_acceptAlone_82 (by decide) (by omega) (by omega) (by omega) ?_
  refine z_sipush C (nI 329) dX6_acceptAlone_85 (by decide) ?_
  refine z_goto C 94 dX6_acceptAlone_88 (by decide) ?_
  refine z_callVr C kX6_of gX6_acceptAlone_X6_of (mX6_of_R X.2.1 a kp ty pl gd od vU vS vN vX vM vT vB vK vY (upd (vZ) x (nI 1)) vR vC vV x (by first | assumption | omega)) dX6_acceptAlone_94 [0, 1] [] 0 rfl nd_0_1 rfl rfl rfl (by decide) (by decide) (Nat.le_of_ble_eq_true rfl) rfl ?_
  refine z_top (y := vR x) rfl ?_
  refine z_istore_n C 3 dX6_acceptAlone_97 rfl (Nat.le_of_ble_eq_true rfl) ?_
  refine z_aload_n C 0 dX6_acceptAlone_98 rfl rfl ?_
  refine z_iload_n C 2 dX6_acceptAlone_99 rfl rfl ?_
  refine z_iconst C (nI 2) dX6_acceptAlone_100 (by decide) ?_
  refine z_idiv C dX6_acceptAlone_101 (by decide) ?_
  refine z_top (y := nI 0) (by decide) ?_
  refine z_iload_n C 3 dX6_acceptAlone_102 rfl rfl ?_
  refine z_iconst C (nI 1) dX6_acceptAlone_103 (by decide) ?_
  refine z_callVv (wn := [((a 0), .inr (6, [.ref (a 1), .ref (a 2), .ref (a 3), .int (nI kp), .int (nI ty), .ref (a 4), .int (nI pl), .int (zb gd), .int (nI od), .ref (a 5)])), ((a 1), .inl (X.2.1.2.2.1, 512, .inl (mRow vU vS vN vX vM vT vB vK vY (mMk (upd (vZ) x (nI 1)) (mDp (upd (vZ) x (nI 1)) vK vR vC (nI 0) (vR x) true) (nI 3) vM) vR vC vV)))]) C kX6_dissolveAt gX6_acceptAlone_X6_dissolveAt (mX6_dissolveAt_0t X.2.1 a kp ty pl gd od vU vS vN vX vM vT vB vK vY (upd (vZ) x (nI 1)) vR vC vV (vR x) hO) dX6_acceptAlone_104 [0, 1] [] 0 rfl rfl nd_0_1 rfl rfl rfl (by decide) (by decide) (Nat.le_of_ble_eq_true rfl) rfl rfl ?_
  refine z_aload_n C 0 dX6_acceptAlone_107 rfl rfl ?_
  refine z_iload_n C 2 dX6_acceptAlone_108 rfl rfl ?_
  refine z_iconst C (nI 2) dX6_acceptAlone_109 (by decide) ?_
  refine z_idiv C dX6_acceptAlone_110 (by decide) ?_
  refine z_top (y := nI 0) (by decide) ?_
  refine z_aload_n C 0 dX6_acceptAlone_111 rfl rfl ?_
  refine z_iload_n C 2 dX6_acceptAlone_112 rfl rfl ?_
  refine z_iconst C (nI 2) dX6_acceptAlone_113 (by decide) ?_
  refine z_idiv C dX6_acceptAlone_114 (by decide) ?_
  refine z_top (y := nI 0) (by decide) ?_
  refine z_iload_n C 3 dX6_acceptAlone_115 rfl rfl ?_
  refine z_callVr C kX6_placeOf gX6_acceptAlone_X6_placeOf (mX6_placeOf_0 X.2.1 a kp ty pl gd od vU vS vN vX vM vT vB vK vY (mMk (upd (vZ) x (nI 1)) (mDp (upd (vZ) x (nI 1)) vK vR vC (nI 0) (vR x) true) (nI 3) vM) vR vC vV (vR x) hO) dX6_acceptAlone_116 [0, 1] [.int (nI 0), .ref (a 0)] 0 rfl nd_0_1 rfl rfl rfl (by decide) (by decide) (Nat.le_of_ble_eq_true rfl) rfl ?_
  refine z_top (y := mPl vS vN vU 0 (vR x)) rfl ?_
  refine z_top (y := nI (mpx vS vN vU 0 (vR x))) (mPl_x hu0 hi) ?_
  refine z_callVv (wn := [((a 0), .inr (6, [.ref (a 1), .ref (a 2), .ref (a 3), .int (nI kp), .int (nI ty), .ref (a 4), .int (nI pl), .int (zb gd), .int (nI od), .ref (a 5)])), ((a 1), .inl (X.2.1.2.2.1, 512, .inl (mRow (zUpN vU 0 (vU 0 - 1)) (mClL vS (12 * 0) (mpx vS vN vU 0 (vR x)) (vU 0 - 1)) vN vX vM vT vB vK vY (mMk (upd (vZ) x (nI 1)) (mDp (upd (vZ) x (nI 1)) vK vR vC (nI 0) (vR x) true) (nI 3) vM) vR vC vV)))]) C kX6_takeLine gX6_acceptAlone_X6_takeLine (mX6_takeLine_0 X.2.1 a kp ty pl gd od vU vS vN vX vM vT vB vK vY (mMk (upd (vZ) x (nI 1)) (mDp (upd (vZ) x (nI 1)) vK vR vC (nI 0) (vR x) true) (nI 3) vM) vR vC vV (mpx vS vN vU 0 (vR x)) hO hi) dX6_acceptAlone_119 [0, 1] [] 0 rfl rfl nd_0_1 rfl rfl rfl (by decide) (by decide) (Nat.le_of_ble_eq_true rfl) rfl rfl ?_
  have hg_1 : okM (zUpN vU 0 (vU 0 - 1)) (mClL vS (12 * 0) (mpx vS vN vU 0 (vR x)) (vU 0 - 1)) vM vK := okM_Tk_0 (by assumption) (by omega)
  exact z_vret C N dX6_acceptAlone_122 (rfl)

set_option maxHeartbeats 400000 in
set_option maxRecDepth 100000 in
theorem mX6_acceptAlone_2 (E : zE) (a : Nat → Nat) (kp ty pl : Nat) (gd : Bool) (od : Nat) (vU vS : Nat → Nat) (vN : Nat → Int32) (vX vM : Nat) (vT : Bool) (vB vK vY vZ vR vC vV : Nat → Int32) (x : Nat) (hO : okM vU vS vM vK) (hx : x < vM) (hkx : vK x = nI 2) : zM E yX6_acceptAlone wsX6_acceptAlone 3 [.ref (a 0), .int (nI x)] [((a 0), .inr (6, [.ref (a 1), .ref (a 2), .ref (a 3), .int (nI kp), .int (nI ty), .ref (a 4), .int (nI pl), .int (zb gd), .int (nI od), .ref (a 5)])), ((a 1), .inl (E.2.2.1, 512, .inl (mRow vU vS vN vX vM vT vB vK vY vZ vR vC vV)))] [((a 0), .inr (6, [.ref (a 1), .ref (a 2), .ref (a 3), .int (nI kp), .int (nI ty), .ref (a 4), .int (nI pl), .int (zb gd), .int (nI od), .ref (a 5)])), ((a 1), .inl (E.2.2.1, 512, .inl (mRow vU vS vN vX vM vT vB vK vY (upd vZ x (nI 1)) vR vC vV)))] none := by
  refine zM.of kX6_acceptAlone (Nat.le_of_ble_eq_true rfl) rfl [some (.ref (a 0)), some (.int (nI x)), none, none] rfl (Nat.le_of_ble_eq_true rfl) ?_
  intro X eX C N
  subst eX
  obtain ⟨hu0, hu1, hM, hk1, hk2, hk3⟩ := id hO
  refine z_aload_n C 0 dX6_acceptAlone_0 rfl rfl ?_
  refine z_iload_n C 1 dX6_acceptAlone_1 rfl rfl ?_
  refine z_sipush C (nI 149) dX6_acceptAlone_2 (by decide) ?_
  refine z_callVr C kX6_of gX6_acceptAlone_X6_of (mX6_of_K X.2.1 a kp ty pl gd od vU vS vN vX vM vT vB vK vY vZ vR vC vV x (by first | assumption | omega)) dX6_acceptAlone_5 [0, 1] [] 0 rfl nd_0_1 rfl rfl rfl (by decide) (by decide) (Nat.le_of_ble_eq_true rfl) rfl ?_
  refine z_top (y := nI 2) (hkx) ?_
  refine z_istore_n C 2 dX6_acceptAlone_8 rfl (Nat.le_of_ble_eq_true rfl) ?_
  refine z_aload_n C 0 dX6_acceptAlone_9 rfl rfl ?_
  refine z_get C fX6_acceptAlone_7 0 dX6_acceptAlone_10 rfl rfl ?_
  refine z_sipush C (nI 269) dX6_acceptAlone_13 (by decide) ?_
  refine z_iload_n C 1 dX6_acceptAlone_16 rfl rfl ?_
  refine z_iadd C dX6_acceptAlone_17 ?_
  refine z_top (y := nI (269 + x)) (nI_add _ _) ?_
  refine z_iconst C (nI 1) dX6_acceptAlone_18 (by decide) ?_
  refine z_iastR C 1 dX6_acceptAlone_19 rfl (by omega) (by decide) (f' := mRow vU vS vN vX vM vT vB vK vY (upd (vZ) x (nI 1)) vR vC vV) ((congrArg (fun i9 => upd (mRow vU vS vN vX vM vT vB vK vY vZ vR vC vV) i9 (nI 1)) (show 269 + x = 269 + (x) by omega)).trans (zMw_Z (by omega))) ?_
  refine z_iload_n C 2 dX6_acceptAlone_20 rfl rfl ?_
  refine z_iconst C (nI 4) dX6_acceptAlone_21 (by decide) ?_
  refine z_ncmp_ne_t C 71 dX6_acceptAlone_22 (by decide) (by omega) (by omega) (by omega) ?_
  refine z_iload_n C 2 dX6_acceptAlone_71 rfl rfl ?_
  refine z_iconst C (nI 2) dX6_acceptAlone_72 (by decide) ?_
  refine z_irem C dX6_acceptAlone_73 (by decide) ?_
  refine z_top (y := nI 0) (by decide) ?_
  refine z_iconst C (nI 1) dX6_acceptAlone_74 (by decide) ?_
  refine z_ncmp_ne_t C 122 dX6_acceptAlone_75 (by decide) (by omega) (by omega) (by omega) ?_
  exact z_vret C N dX6_acceptAlone_122 (rfl)

set_option maxHeartbeats 400000 in
set_option maxRecDepth 100000 in
theorem mX6_acceptAlone_3 (E : zE) (a : Nat → Nat) (kp ty pl : Nat) (gd : Bool) (od : Nat) (vU vS : Nat → Nat) (vN : Nat → Int32) (vX vM : Nat) (vT : Bool) (vB vK vY vZ vR vC vV : Nat → Int32) (x : Nat) (hO : okM vU vS vM vK) (hx : x < vM) (hkx : vK x = nI 3) (hj : mpx vS vN vU 1 (vC x) < vU 1) : zM E yX6_acceptAlone wsX6_acceptAlone 3 [.ref (a 0), .int (nI x)] [((a 0), .inr (6, [.ref (a 1), .ref (a 2), .ref (a 3), .int (nI kp), .int (nI ty), .ref (a 4), .int (nI pl), .int (zb gd), .int (nI od), .ref (a 5)])), ((a 1), .inl (E.2.2.1, 512, .inl (mRow vU vS vN vX vM vT vB vK vY vZ vR vC vV)))] [((a 0), .inr (6, [.ref (a 1), .ref (a 2), .ref (a 3), .int (nI kp), .int (nI ty), .ref (a 4), .int (nI pl), .int (zb gd), .int (nI od), .ref (a 5)])), ((a 1), .inl (E.2.2.1, 512, .inl (mRow (zUpN vU 1 (vU 1 - 1)) (mClL vS (12 * 1) (mpx vS vN vU 1 (vC x)) (vU 1 - 1)) vN vX vM vT vB vK vY (mMk (upd vZ x (nI 1)) (mDp (upd vZ x (nI 1)) vK vR vC (nI 1) (vC x) true) (nI 3) vM) vR vC vV)))] none := by
  refine zM.of kX6_acceptAlone (Nat.le_of_ble_eq_true rfl) rfl [some (.ref (a 0)), some (.int (nI x)), none, none] rfl (Nat.le_of_ble_eq_true rfl) ?_
  intro X eX C N
  subst eX
  obtain ⟨hu0, hu1, hM, hk1, hk2, hk3⟩ := id hO
  refine z_aload_n C 0 dX6_acceptAlone_0 rfl rfl ?_
  refine z_iload_n C 1 dX6_acceptAlone_1 rfl rfl ?_
  refine z_sipush C (nI 149) dX6_acceptAlone_2 (by decide) ?_
  refine z_callVr C kX6_of gX6_acceptAlone_X6_of (mX6_of_K X.2.1 a kp ty pl gd od vU vS vN vX vM vT vB vK vY vZ vR vC vV x (by first | assumption | omega)) dX6_acceptAlone_5 [0, 1] [] 0 rfl nd_0_1 rfl rfl rfl (by decide) (by decide) (Nat.le_of_ble_eq_true rfl) rfl ?_
  refine z_top (y := nI 3) (hkx) ?_
  refine z_istore_n C 2 dX6_acceptAlone_8 rfl (Nat.le_of_ble_eq_true rfl) ?_
  refine z_aload_n C 0 dX6_acceptAlone_9 rfl rfl ?_
  refine z_get C fX6_acceptAlone_7 0 dX6_acceptAlone_10 rfl rfl ?_
  refine z_sipush C (nI 269) dX6_acceptAlone_13 (by decide) ?_
  refine z_iload_n C 1 dX6_acceptAlone_16 rfl rfl ?_
  refine z_iadd C dX6_acceptAlone_17 ?_
  refine z_top (y := nI (269 + x)) (nI_add _ _) ?_
  refine z_iconst C (nI 1) dX6_acceptAlone_18 (by decide) ?_
  refine z_iastR C 1 dX6_acceptAlone_19 rfl (by omega) (by decide) (f' := mRow vU vS vN vX vM vT vB vK vY (upd (vZ) x (nI 1)) vR vC vV) ((congrArg (fun i9 => upd (mRow vU vS vN vX vM vT vB vK vY vZ vR vC vV) i9 (nI 1)) (show 269 + x = 269 + (x) by omega)).trans (zMw_Z (by omega))) ?_
  refine z_iload_n C 2 dX6_acceptAlone_20 rfl rfl ?_
  refine z_iconst C (nI 4) dX6_acceptAlone_21 (by decide) ?_
  refine z_ncmp_ne_t C 71 dX6_acceptAlone_22 (by decide) (by omega) (by omega) (by omega) ?_
  refine z_iload_n C 2 dX6_acceptAlone_71 rfl rfl ?_
  refine z_iconst C (nI 2) dX6_acceptAlone_72 (by decide) ?_
  refine z_irem C dX6_acceptAlone_73 (by decide) ?_
  refine z_top (y := nI 1) (by decide) ?_
  refine z_iconst C (nI 1) dX6_acceptAlone_74 (by decide) ?_
  refine z_ncmp_ne_f C 122 dX6_acceptAlone_75 (by decide) (by omega) (by omega) (by omega) ?_
  refine z_aload_n C 0 dX6_acceptAlone_78 rfl rfl ?_
  refine z_iload_n C 1 dX6_acceptAlone_79 rfl rfl ?_
  refine z_iload_n C 2 dX6_acceptAlone_80 rfl rfl ?_
  refine z_iconst C (nI 1) dX6_acceptAlone_81 (by decide) ?_
  refine z_ncmp_ne_t C 91 dX6_acceptAlone_82 (by decide) (by omega) (by omega) (by omega) ?_
  refine z_sipush C (nI 389) dX6_acceptAlone_91 (by decide) ?_
  refine z_callVr C kX6_of gX6_acceptAlone_X6_of (mX6_of_C X.2.1 a kp ty pl gd od vU vS vN vX vM vT vB vK vY (upd (vZ) x (nI 1)) vR vC vV x (by first | assumption | omega)) dX6_acceptAlone_94 [0, 1] [] 0 rfl nd_0_1 rfl rfl rfl (by decide) (by decide) (Nat.le_of_ble_eq_true rfl) rfl ?_
  refine z_top (y := vC x) rfl ?_
  refine z_istore_n C 3 dX6_acceptAlone_97 rfl (Nat.le_of_ble_eq_true rfl) ?_
  refine z_aload_n C 0 dX6_acceptAlone_98 rfl rfl ?_
  refine z_iload_n C 2 dX6_acceptAlone_99 rfl rfl ?_
  refine z_iconst C (nI 2) dX6_acceptAlone_100 (by decide) ?_
  refine z_idiv C dX6_acceptAlone_101 (by decide) ?_
  refine z_top (y := nI 1) (by decide) ?_
  refine z_iload_n C 3 dX6_acceptAlone_102 rfl rfl ?_
  refine z_iconst C (nI 1) dX6_acceptAlone_103 (by decide) ?_
  refine z_callVv (wn := [((a 0), .inr (6, [.ref (a 1), .ref (a 2), .ref (a 3), .int (nI kp), .int (nI ty), .ref (a 4), .int (nI pl), .int (zb gd), .int (nI od), .ref (a 5)])), ((a 1), .inl (X.2.1.2.2.1, 512, .inl (mRow vU vS vN vX vM vT vB vK vY (mMk (upd (vZ) x (nI 1)) (mDp (upd (vZ) x (nI 1)) vK vR vC (nI 1) (vC x) true) (nI 3) vM) vR vC vV)))]) C kX6_dissolveAt gX6_acceptAlone_X6_dissolveAt (mX6_dissolveAt_1t X.2.1 a kp ty pl gd od vU vS vN vX vM vT vB vK vY (upd (vZ) x (nI 1)) vR vC vV (vC x) hO) dX6_acceptAlone_104 [0, 1] [] 0 rfl rfl nd_0_1 rfl rfl rfl (by decide) (by decide) (Nat.le_of_ble_eq_true rfl) rfl rfl ?_
  refine z_aload_n C 0 dX6_acceptAlone_107 rfl rfl ?_
  refine z_iload_n C 2 dX6_acceptAlone_108 rfl rfl ?_
  refine z_iconst C (nI 2) dX6_acceptAlone_109 (by decide) ?_
  refine z_idiv C dX6_acceptAlone_110 (by decide) ?_
  refine z_top (y := nI 1) (by decide) ?_
  refine z_aload_n C 0 dX6_acceptAlone_111 rfl rfl ?_
  refine z_iload_n C 2 dX6_acceptAlone_112 rfl rfl ?_
  refine z_iconst C (nI 2) dX6_acceptAlone_113 (by decide) ?_
  refine z_idiv C dX6_acceptAlone_114 (by decide) ?_
  refine z_top (y := nI 1) (by decide) ?_
  refine z_iload_n C 3 dX6_acceptAlone_115 rfl rfl ?_
  refine z_callVr C kX6_placeOf gX6_acceptAlone_X6_placeOf (mX6_placeOf_1 X.2.1 a kp ty pl gd od vU vS vN vX vM vT vB vK vY (mMk (upd (vZ) x (nI 1)) (mDp (upd (vZ) x (nI 1)) vK vR vC (nI 1) (vC x) true) (nI 3) vM) vR vC vV (vC x) hO) dX6_acceptAlone_116 [0, 1] [.int (nI 1), .ref (a 0)] 0 rfl nd_0_1 rfl rfl rfl (by decide) (by decide) (Nat.le_of_ble_eq_true rfl) rfl ?_
  refine z_top (y := mPl vS vN vU 1 (vC x)) rfl ?_
  refine z_top (y := nI (mpx vS vN vU 1 (vC x))) (mPl_x (by omega) hj) ?_
  refine z_callVv (wn := [((a 0), .inr (6, [.ref (a 1), .ref (a 2), .ref (a 3), .int (nI kp), .int (nI ty), .ref (a 4), .int (nI pl), .int (zb gd), .int (nI od), .ref (a 5)])), ((a 1), .inl (X.2.1.2.2.1, 512, .inl (mRow (zUpN vU 1 (vU 1 - 1)) (mClL vS (12 * 1) (mpx vS vN vU 1 (vC x)) (vU 1 - 1)) vN vX vM vT vB vK vY (mMk (upd (vZ) x (nI 1)) (mDp (upd (vZ) x (nI 1)) vK vR vC (nI 1) (vC x) true) (nI 3) vM) vR vC vV)))]) C kX6_takeLine gX6_acceptAlone_X6_takeLine (mX6_takeLine_1 X.2.1 a kp ty pl gd od vU vS vN vX vM vT vB vK vY (mMk (upd (vZ) x (nI 1)) (mDp (upd (vZ) x (nI 1)) vK vR vC (nI 1) (vC x) true) (nI 3) vM) vR vC vV (mpx vS vN vU 1 (vC x)) hO hj) dX6_acceptAlone_119 [0, 1] [] 0 rfl rfl nd_0_1 rfl rfl rfl (by decide) (by decide) (Nat.le_of_ble_eq_true rfl) rfl rfl ?_
  have hg_1 : okM (zUpN vU 1 (vU 1 - 1)) (mClL vS (12 * 1) (mpx vS vN vU 1 (vC x)) (vU 1 - 1)) vM vK := okM_Tk_1 (by assumption) (by omega)
  exact z_vret C N dX6_acceptAlone_122 (rfl)

set_option maxHeartbeats 400000 in
set_option maxRecDepth 100000 in
theorem mX6_acceptAlone_4 (E : zE) (a : Nat → Nat) (kp ty pl : Nat) (gd : Bool) (od : Nat) (vU vS : Nat → Nat) (vN : Nat → Int32) (vX vM : Nat) (vT : Bool) (vB vK vY vZ vR vC vV : Nat → Int32) (x : Nat) (hO : okM vU vS vM vK) (hx : x < vM) (hkx : vK x = nI 4) (hi : mpx vS vN vU 0 (vR x) < vU 0) (hj : mpx vS vN vU 1 (vC x) < vU 1) : zM E yX6_acceptAlone wsX6_acceptAlone 3 [.ref (a 0), .int (nI x)] [((a 0), .inr (6, [.ref (a 1), .ref (a 2), .ref (a 3), .int (nI kp), .int (nI ty), .ref (a 4), .int (nI pl), .int (zb gd), .int (nI od), .ref (a 5)])), ((a 1), .inl (E.2.2.1, 512, .inl (mRow vU vS vN vX vM vT vB vK vY vZ vR vC vV)))] [((a 0), .inr (6, [.ref (a 1), .ref (a 2), .ref (a 3), .int (nI kp), .int (nI ty), .ref (a 4), .int (nI pl), .int (zb gd), .int (nI od), .ref (a 5)])), ((a 1), .inl (E.2.2.1, 512, .inl (mRow vU vS vN vX vM vT (upd vB (8 * mS vS 0 (mpx vS vN vU 0 (vR x)) + mS vS 1 (mpx vS vN vU 1 (vC x))) (vV x)) vK vY (upd vZ x (nI 1)) vR vC vV)))] none := by
  refine zM.of kX6_acceptAlone (Nat.le_of_ble_eq_true rfl) rfl [some (.ref (a 0)), some (.int (nI x)), none, none] rfl (Nat.le_of_ble_eq_true rfl) ?_
  intro X eX C N
  subst eX
  obtain ⟨hu0, hu1, hM, hk1, hk2, hk3⟩ := id hO
  refine z_aload_n C 0 dX6_acceptAlone_0 rfl rfl ?_
  refine z_iload_n C 1 dX6_acceptAlone_1 rfl rfl ?_
  refine z_sipush C (nI 149) dX6_acceptAlone_2 (by decide) ?_
  refine z_callVr C kX6_of gX6_acceptAlone_X6_of (mX6_of_K X.2.1 a kp ty pl gd od vU vS vN vX vM vT vB vK vY vZ vR vC vV x (by first | assumption | omega)) dX6_acceptAlone_5 [0, 1] [] 0 rfl nd_0_1 rfl rfl rfl (by decide) (by decide) (Nat.le_of_ble_eq_true rfl) rfl ?_
  refine z_top (y := nI 4) (hkx) ?_
  refine z_istore_n C 2 dX6_acceptAlone_8 rfl (Nat.le_of_ble_eq_true rfl) ?_
  refine z_aload_n C 0 dX6_acceptAlone_9 rfl rfl ?_
  refine z_get C fX6_acceptAlone_7 0 dX6_acceptAlone_10 rfl rfl ?_
  refine z_sipush C (nI 269) dX6_acceptAlone_13 (by decide) ?_
  refine z_iload_n C 1 dX6_acceptAlone_16 rfl rfl ?_
  refine z_iadd C dX6_acceptAlone_17 ?_
  refine z_top (y := nI (269 + x)) (nI_add _ _) ?_
  refine z_iconst C (nI 1) dX6_acceptAlone_18 (by decide) ?_
  refine z_iastR C 1 dX6_acceptAlone_19 rfl (by omega) (by decide) (f' := mRow vU vS vN vX vM vT vB vK vY (upd (vZ) x (nI 1)) vR vC vV) ((congrArg (fun i9 => upd (mRow vU vS vN vX vM vT vB vK vY vZ vR vC vV) i9 (nI 1)) (show 269 + x = 269 + (x) by omega)).trans (zMw_Z (by omega))) ?_
  refine z_iload_n C 2 dX6_acceptAlone_20 rfl rfl ?_
  refine z_iconst C (nI 4) dX6_acceptAlone_21 (by decide) ?_
  refine z_ncmp_ne_f C 71 dX6_acceptAlone_22 (by decide) (by omega) (by omega) (by omega) ?_
  refine z_aload_n C 0 dX6_acceptAlone_25 rfl rfl ?_
  refine z_get C fX6_acceptAlone_7 0 dX6_acceptAlone_26 rfl rfl ?_
  refine z_aload_n C 0 dX6_acceptAlone_29 rfl rfl ?_
  refine z_aload_n C 0 dX6_acceptAlone_30 rfl rfl ?_
  refine z_iconst C (nI 0) dX6_acceptAlone_31 (by decide) ?_
  refine z_aload_n C 0 dX6_acceptAlone_32 rfl rfl ?_
  refine z_iload_n C 1 dX6_acceptAlone_33 rfl rfl ?_
  refine z_sipush C (nI 329) dX6_acceptAlone_34 (by decide) ?_
  refine z_callVr C kX6_of gX6_acceptAlone_X6_of (mX6_of_R X.2.1 a kp ty pl gd od vU vS vN vX vM vT vB vK vY (upd (vZ) x (nI 1)) vR vC vV x (by first | assumption | omega)) dX6_acceptAlone_37 [0, 1] [.int (nI 0), .ref (a 0), .ref (a 0), .ref (a 1)] 0 rfl nd_0_1 rfl rfl rfl (by decide) (by decide) (Nat.le_of_ble_eq_true rfl) rfl ?_
  refine z_top (y := vR x) rfl ?_
  refine z_callVr C kX6_placeOf gX6_acceptAlone_X6_placeOf (mX6_placeOf_0 X.2.1 a kp ty pl gd od vU vS vN vX vM vT vB vK vY (upd (vZ) x (nI 1)) vR vC vV (vR x) hO) dX6_acceptAlone_40 [0, 1] [.ref (a 0), .ref (a 1)] 0 rfl nd_0_1 rfl rfl rfl (by decide) (by decide) (Nat.le_of_ble_eq_true rfl) rfl ?_
  refine z_top (y := mPl vS vN vU 0 (vR x)) rfl ?_
  refine z_top (y := nI (mpx vS vN vU 0 (vR x))) (mPl_x hu0 hi) ?_
  refine z_aload_n C 0 dX6_acceptAlone_43 rfl rfl ?_
  refine z_iconst C (nI 1) dX6_acceptAlone_44 (by decide) ?_
  refine z_aload_n C 0 dX6_acceptAlone_45 rfl rfl ?_
  refine z_iload_n C 1 dX6_acceptAlone_46 rfl rfl ?_
  refine z_sipush C (nI 389) dX6_acceptAlone_47 (by decide) ?_
  refine z_callVr C kX6_of gX6_acceptAlone_X6_of (mX6_of_C X.2.1 a kp ty pl gd od vU vS vN vX vM vT vB vK vY (upd (vZ) x (nI 1)) vR vC vV x (by first | assumption | omega)) dX6_acceptAlone_50 [0, 1] [.int (nI 1), .ref (a 0), .int (nI (mpx vS vN vU 0 (vR x))), .ref (a 0), .ref (a 1)] 0 rfl nd_0_1 rfl rfl rfl (by decide) (by decide) (Nat.le_of_ble_eq_true rfl) rfl ?_
  refine z_top (y := vC x) rfl ?_
  refine z_callVr C kX6_placeOf gX6_acceptAlone_X6_placeOf (mX6_placeOf_1 X.2.1 a kp ty pl gd od vU vS vN vX vM vT vB vK vY (upd (vZ) x (nI 1)) vR vC vV (vC x) hO) dX6_acceptAlone_53 [0, 1] [.int (nI (mpx vS vN vU 0 (vR x))), .ref (a 0), .ref (a 1)] 0 rfl nd_0_1 rfl rfl rfl (by decide) (by decide) (Nat.le_of_ble_eq_true rfl) rfl ?_
  refine z_top (y := mPl vS vN vU 1 (vC x)) rfl ?_
  refine z_top (y := nI (mpx vS vN vU 1 (vC x))) (mPl_x (by omega) hj) ?_
  refine z_callVr C kX6_baseAt gX6_acceptAlone_X6_baseAt (mX6_baseAt_0 X.2.1 a kp ty pl gd od vU vS vN vX vM vT vB vK vY (upd (vZ) x (nI 1)) vR vC vV (mpx vS vN vU 0 (vR x)) (mpx vS vN vU 1 (vC x)) hO (by first | assumption | omega) (by first | assumption | omega)) dX6_acceptAlone_56 [0, 1] [.ref (a 1)] 0 rfl nd_0_1 rfl rfl rfl (by decide) (by decide) (Nat.le_of_ble_eq_true rfl) rfl ?_
  refine z_top (y := nI (53 + 8 * mS vS 0 (mpx vS vN vU 0 (vR x)) + mS vS 1 (mpx vS vN vU 1 (vC x)))) rfl ?_
  have hg_1 : mS vS 0 (mpx vS vN vU 0 (vR x)) < 12 := okM_r (by assumption) _
  have hg_2 : mS vS 1 (mpx vS vN vU 1 (vC x)) < 8 := okM_c (by assumption) _
  refine z_aload_n C 0 dX6_acceptAlone_59 rfl rfl ?_
  refine z_iload_n C 1 dX6_acceptAlone_60 rfl rfl ?_
  refine z_sipush C (nI 449) dX6_acceptAlone_61 (by decide) ?_
  refine z_callVr C kX6_of gX6_acceptAlone_X6_of (mX6_of_V X.2.1 a kp ty pl gd od vU vS vN vX vM vT vB vK vY (upd (vZ) x (nI 1)) vR vC vV x (by first | assumption | omega)) dX6_acceptAlone_64 [0, 1] [.int (nI (53 + 8 * mS vS 0 (mpx vS vN vU 0 (vR x)) + mS vS 1 (mpx vS vN vU 1 (vC x)))), .ref (a 1)] 0 rfl nd_0_1 rfl rfl rfl (by decide) (by decide) (Nat.le_of_ble_eq_true rfl) rfl ?_
  refine z_top (y := vV x) rfl ?_
  refine z_iastR C 1 dX6_acceptAlone_67 rfl (by omega) (by decide) (f' := mRow vU vS vN vX vM vT (upd (vB) (8 * mS vS 0 (mpx vS vN vU 0 (vR x)) + mS vS 1 (mpx vS vN vU 1 (vC x))) (vV x)) vK vY (upd (vZ) x (nI 1)) vR vC vV) ((congrArg (fun i9 => upd (mRow vU vS vN vX vM vT vB vK vY (upd (vZ) x (nI 1)) vR vC vV) i9 (vV x)) (show 53 + 8 * mS vS 0 (mpx vS vN vU 0 (vR x)) + mS vS 1 (mpx vS vN vU 1 (vC x)) = 53 + (8 * mS vS 0 (mpx vS vN vU 0 (vR x)) + mS vS 1 (mpx vS vN vU 1 (vC x))) by omega)).trans (zMw_B (by omega))) ?_
  refine z_goto C 122 dX6_acceptAlone_68 (by decide) ?_
  exact z_vret C N dX6_acceptAlone_122 (rfl)

set_option maxHeartbeats 400000 in
set_option maxRecDepth 100000 in
theorem mX6_acceptAlone (E : zE) (a : Nat → Nat) (kp ty pl : Nat) (gd : Bool) (od : Nat) (s : zMs) (x : Nat) (hO : okM (nU s) (nS s) (nM s) (nK s)) (hx : x < nM s) (hL : lnX (nK s) (nR s) (nC s) (nS s) (nN s) (nU s) x) : zM E yX6_acceptAlone wsX6_acceptAlone 3 [.ref (a 0), .int (nI x)] [((a 0), .inr (6, [.ref (a 1), .ref (a 2), .ref (a 3), .int (nI kp), .int (nI ty), .ref (a 4), .int (nI pl), .int (zb gd), .int (nI od), .ref (a 5)])), ((a 1), .inl (E.2.2.1, 512, .inl (zMr s)))] [((a 0), .inr (6, [.ref (a 1), .ref (a 2), .ref (a 3), .int (nI kp), .int (nI ty), .ref (a 4), .int (nI pl), .int (zb gd), .int (nI od), .ref (a 5)])), ((a 1), .inl (E.2.2.1, 512, .inl (zMr (mAA s x))))] none := by
  rcases hO.2.2.2.2.2 x hx with h | h | h | h | h
  · rw [show mAA s x = mA1 s x by simp [mAA, h, nI_eq]]
    exact mX6_acceptAlone_0 E a kp ty pl gd od (nU s) (nS s) (nN s) (nX s) (nM s) (nT s) (nB s) (nK s) (nY s) (nZ s) (nR s) (nC s) (nV s) x hO hx h
  · rw [show mAA s x = mTk (mDs (mA1 s x) (nI 0) (nR s x) true) 0 (mpx (nS s) (nN s) (nU s) 0 (nR s x)) by simp [mAA, h, nI_eq]]
    exact mX6_acceptAlone_1 E a kp ty pl gd od (nU s) (nS s) (nN s) (nX s) (nM s) (nT s) (nB s) (nK s) (nY s) (nZ s) (nR s) (nC s) (nV s) x hO hx h (hL.1 (by simp [h]))
  · rw [show mAA s x = mA1 s x by simp [mAA, h, nI_eq]]
    exact mX6_acceptAlone_2 E a kp ty pl gd od (nU s) (nS s) (nN s) (nX s) (nM s) (nT s) (nB s) (nK s) (nY s) (nZ s) (nR s) (nC s) (nV s) x hO hx h
  · rw [show mAA s x = mTk (mDs (mA1 s x) (nI 1) (nC s x) true) 1 (mpx (nS s) (nN s) (nU s) 1 (nC s x)) by simp [mAA, h, nI_eq]]
    exact mX6_acceptAlone_3 E a kp ty pl gd od (nU s) (nS s) (nN s) (nX s) (nM s) (nT s) (nB s) (nK s) (nY s) (nZ s) (nR s) (nC s) (nV s) x hO hx h (hL.2 (by simp [h]))
  · rw [show mAA s x = mBs (mA1 s x) (mpx (nS s) (nN s) (nU s) 0 (nR s x)) (mpx (nS s) (nN s) (nU s) 1 (nC s x)) (nV s x) by simp [mAA, h]]
    exact mX6_acceptAlone_4 E a kp ty pl gd od (nU s) (nS s) (nN s) (nX s) (nM s) (nT s) (nB s) (nK s) (nY s) (nZ s) (nR s) (nC s) (nV s) x hO hx h (hL.1 (by simp [h])) (hL.2 (by simp [h]))

theorem kX6_acceptWith : zY yX6_acceptWith wsX6_acceptWith cX6_acceptWith 4 (some .int) 1 := ⟨⟨_, rfl⟩, ⟨by decide +kernel, by decide +kernel, by decide +kernel⟩, by decide +kernel⟩
theorem fX6_acceptWith_7 : zF wsX6_acceptWith RX6 7 6 0 RX6 TX6 10 := ⟨by decide +kernel, rfl, by decide, by decide +kernel, rfl⟩
set_option maxHeartbeats 400000 in
set_option maxRecDepth 100000 in
theorem mX6_acceptWith (E : zE) (a : Nat → Nat) (kp ty pl : Nat) (gd : Bool) (od : Nat) (s : zMs) (x : Nat) (hO : okM (nU s) (nS s) (nM s) (nK s)) (hx : x < nM s) (hG : ∀ k, k ≤ nM s → okM (nU (mAL s x k).1) (nS (mAL s x k).1) (nM (mAL s x k).1) (nK (mAL s x k).1) ∧ (k < nM s → mrs (nZ (mAL s x k).1) (nK (mAL s x k).1) (nR (mAL s x k).1) (nC (mAL s x k).1) x k = true → lnX (nK (mAL s x k).1) (nR (mAL s x k).1) (nC (mAL s x k).1) (nS (mAL s x k).1) (nN (mAL s x k).1) (nU (mAL s x k).1) k)) (hG2 : lnX (nK (mAL s x (nM s)).1) (nR (mAL s x (nM s)).1) (nC (mAL s x (nM s)).1) (nS (mAL s x (nM s)).1) (nN (mAL s x (nM s)).1) (nU (mAL s x (nM s)).1) x) : zM E yX6_acceptWith wsX6_acceptWith 4 [.ref (a 0), .int (nI x)] [((a 0), .inr (6, [.ref (a 1), .ref (a 2), .ref (a 3), .int (nI kp), .int (nI ty), .ref (a 4), .int (nI pl), .int (zb gd), .int (nI od), .ref (a 5)])), ((a 1), .inl (E.2.2.1, 512, .inl (zMr s)))] [((a 0), .inr (6, [.ref (a 1), .ref (a 2), .ref (a 3), .int (nI kp), .int (nI ty), .ref (a 4), .int (nI pl), .int (zb gd), .int (nI od), .ref (a 5)])), ((a 1), .inl (E.2.2.1, 512, .inl (zMr (mAW s x))))] (some (.int (nI (mAWn s x)))) := by
  refine zM.of kX6_acceptWith (Nat.le_of_ble_eq_true rfl) rfl [some (.ref (a 0)), some (.int (nI x)), none, none] rfl (Nat.le_of_ble_eq_true rfl) ?_
  intro X eX C N
  subst eX
  obtain ⟨hu0, hu1, hM, hk1, hk2, hk3⟩ := id hO
  refine z_iconst C (nI 1) dX6_acceptWith_0 (by decide) ?_
  refine z_istore_n C 2 dX6_acceptWith_1 rfl (Nat.le_of_ble_eq_true rfl) ?_
  refine z_iconst C (nI 0) dX6_acceptWith_2 (by decide) ?_
  refine z_istore_n C 3 dX6_acceptWith_3 rfl (Nat.le_of_ble_eq_true rfl) ?_
  have hL4 : ∀ (dd : Nat) (k : Nat) (s' : zMs) (n9 : Nat), nM s - k = dd → (k ≤ nM s) → (s' = (mAL s x k).1) → (n9 = (mAL s x k).2) → zG X 0 0 [((a 0), .inr (6, [.ref (a 1), .ref (a 2), .ref (a 3), .int (nI kp), .int (nI ty), .ref (a 4), .int (nI pl), .int (zb gd), .int (nI od), .ref (a 5)])), ((a 1), .inl (X.2.1.2.2.1, 512, .inl (zMr s')))] [some (.ref (a 0)), some (.int (nI x)), some (.int (nI n9)), some (.int (nI k))] [] 4 := by
    intro dd
    induction dd using Nat.strongRecOn with
    | _ dd ih4 =>
    intro k s' n9 hdd hk hs' hn
    have hO9 : okM (nU s') (nS s') (nM s') (nK s') := by rw [hs']; exact (hG k hk).1
    have hM9 : nM s' = nM s := by rw [hs']; exact nM_AL s x k
    have hN9 : n9 ≤ k + 1 := by rw [hn]; exact mAL_le s x k
    refine z_iload_n C 3 dX6_acceptWith_4 rfl rfl ?_
    refine z_aload_n C 0 dX6_acceptWith_5 rfl rfl ?_
    refine z_get C fX6_acceptWith_7 0 dX6_acceptWith_6 rfl rfl ?_
    refine z_bipush C (nI 51) dX6_acceptWith_9 (by decide) ?_
    refine z_ialdN C 1 dX6_acceptWith_11 rfl (by omega) (by decide) ?_
    refine z_top (y := nI (nM s')) (zMr_M) ?_
    refine z_ncmp_ge C 38 dX6_acceptWith_12 (by decide) (by omega) (by omega) (fun h_1 => ?_) (fun h_1 => ?_)
    · refine z_aload_n C 0 dX6_acceptWith_38 rfl rfl ?_
      refine z_iload_n C 1 dX6_acceptWith_39 rfl rfl ?_
      refine z_callVv (wn := [((a 0), .inr (6, [.ref (a 1), .ref (a 2), .ref (a 3), .int (nI kp), .int (nI ty), .ref (a 4), .int (nI pl), .int (zb gd), .int (nI od), .ref (a 5)])), ((a 1), .inl (X.2.1.2.2.1, 512, .inl (zMr (mAA s' x))))]) C kX6_acceptAlone gX6_acceptWith_X6_acceptAlone (mX6_acceptAlone X.2.1 a kp ty pl gd od s' x hO9 (by first | assumption | omega) (by rw [hs', show k = nM s by omega]; exact hG2)) dX6_acceptWith_40 [0, 1] [] 0 rfl rfl nd_0_1 rfl rfl rfl (by decide) (by decide) (Nat.le_of_ble_eq_true rfl) rfl rfl ?_
      refine z_iload_n C 2 dX6_acceptWith_43 rfl rfl ?_
      exact z_iret C N dX6_acceptWith_44 (by rw [show s' = (mAL s x (nM s)).1 by rw [hs', show k = nM s by omega]] <;> rfl) (by rw [hn, show k = nM s by omega]; rfl)
    · refine z_aload_n C 0 dX6_acceptWith_15 rfl rfl ?_
      refine z_iload_n C 1 dX6_acceptWith_16 rfl rfl ?_
      refine z_iload_n C 3 dX6_acceptWith_17 rfl rfl ?_
      refine z_callVr C kX6_rests gX6_acceptWith_X6_rests (mX6_rests X.2.1 a kp ty pl gd od (nU s') (nS s') (nN s') (nX s') (nM s') (nT s') (nB s') (nK s') (nY s') (nZ s') (nR s') (nC s') (nV s') x k (by first | assumption | omega) (by first | assumption | omega)) dX6_acceptWith_18 [0, 1] [] 0 rfl nd_0_1 rfl rfl rfl (by decide) (by decide) (Nat.le_of_ble_eq_true rfl) rfl ?_
      refine z_bif_eq C 32 dX6_acceptWith_21 (by decide) (fun h_2 => ?_) (fun h_2 => ?_)
      · refine z_iinc C (nI (k + 1)) dX6_acceptWith_32 rfl (zi_1 _) ?_
        refine z_goto C 4 dX6_acceptWith_35 (by decide) ?_
        exact ih4 (nM s - (k + 1)) (by omega) (k + 1) s' n9 rfl (by omega) (by subst hs' hn; first | exact congrArg Prod.fst (mAL_y h_2).symm | exact congrArg Prod.fst (mAL_n h_2).symm) (by subst hs' hn; first | exact congrArg Prod.snd (mAL_y h_2).symm | exact congrArg Prod.snd (mAL_n h_2).symm)
      · refine z_aload_n C 0 dX6_acceptWith_24 rfl rfl ?_
        refine z_iload_n C 3 dX6_acceptWith_25 rfl rfl ?_
        refine z_callVv (wn := [((a 0), .inr (6, [.ref (a 1), .ref (a 2), .ref (a 3), .int (nI kp), .int (nI ty), .ref (a 4), .int (nI pl), .int (zb gd), .int (nI od), .ref (a 5)])), ((a 1), .inl (X.2.1.2.2.1, 512, .inl (zMr (mAA s' k))))]) C kX6_acceptAlone gX6_acceptWith_X6_acceptAlone (mX6_acceptAlone X.2.1 a kp ty pl gd od s' k hO9 h_1 (by rw [hs']; exact (hG k hk).2 (by omega) (by rw [← hs']; exact h_2))) dX6_acceptWith_26 [0, 1] [] 0 rfl rfl nd_0_1 rfl rfl rfl (by decide) (by decide) (Nat.le_of_ble_eq_true rfl) rfl rfl ?_
        refine z_iinc C (nI (n9 + 1)) dX6_acceptWith_29 rfl (zi_1 _) ?_
        refine z_iinc C (nI (k + 1)) dX6_acceptWith_32 rfl (zi_1 _) ?_
        refine z_goto C 4 dX6_acceptWith_35 (by decide) ?_
        exact ih4 (nM s - (k + 1)) (by omega) (k + 1) (mAA s' k) (n9 + 1) rfl (by omega) (by subst hs' hn; first | exact congrArg Prod.fst (mAL_y h_2).symm | exact congrArg Prod.fst (mAL_n h_2).symm) (by subst hs' hn; first | exact congrArg Prod.snd (mAL_y h_2).symm | exact congrArg Prod.snd (mAL_n h_2).symm)
  exact hL4 _ 0 s 1 rfl (by omega) (rfl) (rfl)

theorem kX6_rejectWith : zY yX6_rejectWith wsX6_rejectWith cX6_rejectWith 4 (some .int) 1 := ⟨⟨_, rfl⟩, ⟨by decide +kernel, by decide +kernel, by decide +kernel⟩, by decide +kernel⟩
theorem fX6_rejectWith_7 : zF wsX6_rejectWith RX6 7 6 0 RX6 TX6 10 := ⟨by decide +kernel, rfl, by decide, by decide +kernel, rfl⟩
set_option maxHeartbeats 400000 in
set_option maxRecDepth 100000 in
theorem mX6_rejectWith_0 (E : zE) (a : Nat → Nat) (kp ty pl : Nat) (gd : Bool) (od : Nat) (vU vS : Nat → Nat) (vN : Nat → Int32) (vX vM : Nat) (vT : Bool) (vB vK vY vZ vR vC vV : Nat → Int32) (x : Nat) (hO : okM vU vS vM vK) (hx : x < vM) (hkx : vK x = nI 0) (hi : mpx vS vN vU 0 (vR x) < vU 0) : zM E yX6_rejectWith wsX6_rejectWith 4 [.ref (a 0), .int (nI x)] [((a 0), .inr (6, [.ref (a 1), .ref (a 2), .ref (a 3), .int (nI kp), .int (nI ty), .ref (a 4), .int (nI pl), .int (zb gd), .int (nI od), .ref (a 5)])), ((a 1), .inl (E.2.2.1, 512, .inl (mRow vU vS vN vX vM vT vB vK vY vZ vR vC vV)))] [((a 0), .inr (6, [.ref (a 1), .ref (a 2), .ref (a 3), .int (nI kp), .int (nI ty), .ref (a 4), .int (nI pl), .int (zb gd), .int (nI od), .ref (a 5)])), ((a 1), .inl (E.2.2.1, 512, .inl (mRow (zUpN vU 0 (vU 0 - 1)) (mClL vS (12 * 0) (mpx vS vN vU 0 (vR x)) (vU 0 - 1)) vN vX vM vT vB vK vY (upd (mMk vZ (fun y => mrs vZ vK vR vC y x) (nI 2) vM) x (nI 2)) vR vC vV)))] (some (.int (nI (zc (fun y => mrs vZ vK vR vC y x) (vM) + 1)))) := by
  refine zM.of kX6_rejectWith (Nat.le_of_ble_eq_true rfl) rfl [some (.ref (a 0)), some (.int (nI x)), none, none] rfl (Nat.le_of_ble_eq_true rfl) ?_
  intro X eX C N
  subst eX
  obtain ⟨hu0, hu1, hM, hk1, hk2, hk3⟩ := id hO
  refine z_iconst C (nI 1) dX6_rejectWith_0 (by decide) ?_
  refine z_istore_n C 2 dX6_rejectWith_1 rfl (Nat.le_of_ble_eq_true rfl) ?_
  refine z_aload_n C 0 dX6_rejectWith_2 rfl rfl ?_
  refine z_get C fX6_rejectWith_7 0 dX6_rejectWith_3 rfl rfl ?_
  refine z_bipush C (nI 51) dX6_rejectWith_6 (by decide) ?_
  refine z_ialdN C 1 dX6_rejectWith_8 rfl (by omega) (by decide) ?_
  refine z_top (y := nI (vM)) (zMr_M) ?_
  refine z_iconst C (nI 1) dX6_rejectWith_9 (by decide) ?_
  refine z_isub C dX6_rejectWith_10 ?_
  refine z_top (y := nI (vM) + (-1)) (zi_s _) ?_
  refine z_istore_n C 3 dX6_rejectWith_11 rfl (Nat.le_of_ble_eq_true rfl) ?_
  have hL12 : ∀ (dd : Nat) (k : Nat) (z' : Nat → Int32) (n9 : Nat), k = dd → (k ≤ vM) → (z' = mMd (vZ) (fun y => mrs vZ vK vR vC y x) (nI 2) (vM) k) → (n9 + zc (fun y => mrs vZ vK vR vC y x) k = zc (fun y => mrs vZ vK vR vC y x) (vM) + 1) → zG X 0 0 [((a 0), .inr (6, [.ref (a 1), .ref (a 2), .ref (a 3), .int (nI kp), .int (nI ty), .ref (a 4), .int (nI pl), .int (zb gd), .int (nI od), .ref (a 5)])), ((a 1), .inl (X.2.1.2.2.1, 512, .inl (mRow vU vS vN vX vM vT vB vK vY z' vR vC vV)))] [some (.ref (a 0)), some (.int (nI x)), some (.int (nI n9)), some (.int (nI k + (-1)))] [] 12 := by
    intro dd
    induction dd using Nat.strongRecOn with
    | _ dd ih12 =>
    intro k z' n9 hdd hk hz hn
    have hN9 := zc_le (fun y => mrs vZ vK vR vC y x) (vM)
    have hn2 : n9 ≤ vM + 1 := by omega
    cases k with
    | zero =>
      refine z_cv (lv' := [some (.ref (a 0)), some (.int (nI x)), some (.int (nI n9)), some (.int (-1))]) rfl (rfl) rfl ?_
      refine z_iload_n C 3 dX6_rejectWith_12 rfl rfl ?_
      refine z_if_lt_t C 45 dX6_rejectWith_13 (by decide) (by decide) ?_
      refine z_aload_n C 0 dX6_rejectWith_45 rfl rfl ?_
      refine z_get C fX6_rejectWith_7 0 dX6_rejectWith_46 rfl rfl ?_
      refine z_sipush C (nI 269) dX6_rejectWith_49 (by decide) ?_
      refine z_iload_n C 1 dX6_rejectWith_52 rfl rfl ?_
      refine z_iadd C dX6_rejectWith_53 ?_
      refine z_top (y := nI (269 + x)) (nI_add _ _) ?_
      refine z_iconst C (nI 2) dX6_rejectWith_54 (by decide) ?_
      refine z_iastR C 1 dX6_rejectWith_55 rfl (by omega) (by decide) (f' := mRow vU vS vN vX vM vT vB vK vY (upd z' x (nI 2)) vR vC vV) ((congrArg (fun i9 => upd (mRow vU vS vN vX vM vT vB vK vY z' vR vC vV) i9 (nI 2)) (show 269 + x = 269 + (x) by omega)).trans (zMw_Z (by omega))) ?_
      refine z_cv (ws' := [((a 0), .inr (6, [.ref (a 1), .ref (a 2), .ref (a 3), .int (nI kp), .int (nI ty), .ref (a 4), .int (nI pl), .int (zb gd), .int (nI od), .ref (a 5)])), ((a 1), .inl (X.2.1.2.2.1, 512, .inl (mRow vU vS vN vX vM vT vB vK vY (upd (mMk vZ (fun y => mrs vZ vK vR vC y x) (nI 2) vM) x (nI 2)) vR vC vV)))]) (by rw [hz, mMd_0] <;> rfl) rfl rfl ?_
      refine z_aload_n C 0 dX6_rejectWith_56 rfl rfl ?_
      refine z_iload_n C 1 dX6_rejectWith_57 rfl rfl ?_
      refine z_sipush C (nI 149) dX6_rejectWith_58 (by decide) ?_
      refine z_callVr C kX6_of gX6_rejectWith_X6_of (mX6_of_K X.2.1 a kp ty pl gd od vU vS vN vX vM vT vB vK vY (upd (mMk vZ (fun y => mrs vZ vK vR vC y x) (nI 2) vM) x (nI 2)) vR vC vV x (by first | assumption | omega)) dX6_rejectWith_61 [0, 1] [] 0 rfl nd_0_1 rfl rfl rfl (by decide) (by decide) (Nat.le_of_ble_eq_true rfl) rfl ?_
      refine z_top (y := vK x) rfl ?_
      refine z_top (y := nI 0) (hkx) ?_
      refine z_istore_n C 3 dX6_rejectWith_64 rfl (Nat.le_of_ble_eq_true rfl) ?_
      refine z_iload_n C 3 dX6_rejectWith_65 rfl rfl ?_
      refine z_nif_eq_t C 74 dX6_rejectWith_66 (by decide) (by omega) (by omega) ?_
      refine z_aload_n C 0 dX6_rejectWith_74 rfl rfl ?_
      refine z_iload_n C 3 dX6_rejectWith_75 rfl rfl ?_
      refine z_iconst C (nI 2) dX6_rejectWith_76 (by decide) ?_
      refine z_idiv C dX6_rejectWith_77 (by decide) ?_
      refine z_top (y := nI 0) (by decide) ?_
      refine z_aload_n C 0 dX6_rejectWith_78 rfl rfl ?_
      refine z_iload_n C 3 dX6_rejectWith_79 rfl rfl ?_
      refine z_iconst C (nI 2) dX6_rejectWith_80 (by decide) ?_
      refine z_idiv C dX6_rejectWith_81 (by decide) ?_
      refine z_top (y := nI 0) (by decide) ?_
      refine z_aload_n C 0 dX6_rejectWith_82 rfl rfl ?_
      refine z_iload_n C 1 dX6_rejectWith_83 rfl rfl ?_
      refine z_iload_n C 3 dX6_rejectWith_84 rfl rfl ?_
      refine z_nif_ne_f C 94 dX6_rejectWith_85 (by decide) (by omega) (by omega) ?_
      refine z_sipush C (nI 329) dX6_rejectWith_88 (by decide) ?_
      refine z_goto C 97 dX6_rejectWith_91 (by decide) ?_
      refine z_callVr C kX6_of gX6_rejectWith_X6_of (mX6_of_R X.2.1 a kp ty pl gd od vU vS vN vX vM vT vB vK vY (upd (mMk vZ (fun y => mrs vZ vK vR vC y x) (nI 2) vM) x (nI 2)) vR vC vV x (by first | assumption | omega)) dX6_rejectWith_97 [0, 1] [.int (nI 0), .ref (a 0), .int (nI 0), .ref (a 0)] 0 rfl nd_0_1 rfl rfl rfl (by decide) (by decide) (Nat.le_of_ble_eq_true rfl) rfl ?_
      refine z_top (y := vR x) rfl ?_
      refine z_callVr C kX6_placeOf gX6_rejectWith_X6_placeOf (mX6_placeOf_0 X.2.1 a kp ty pl gd od vU vS vN vX vM vT vB vK vY (upd (mMk vZ (fun y => mrs vZ vK vR vC y x) (nI 2) vM) x (nI 2)) vR vC vV (vR x) hO) dX6_rejectWith_100 [0, 1] [.int (nI 0), .ref (a 0)] 0 rfl nd_0_1 rfl rfl rfl (by decide) (by decide) (Nat.le_of_ble_eq_true rfl) rfl ?_
      refine z_top (y := mPl vS vN vU 0 (vR x)) rfl ?_
      refine z_top (y := nI (mpx vS vN vU 0 (vR x))) (mPl_x hu0 hi) ?_
      refine z_callVv (wn := [((a 0), .inr (6, [.ref (a 1), .ref (a 2), .ref (a 3), .int (nI kp), .int (nI ty), .ref (a 4), .int (nI pl), .int (zb gd), .int (nI od), .ref (a 5)])), ((a 1), .inl (X.2.1.2.2.1, 512, .inl (mRow (zUpN vU 0 (vU 0 - 1)) (mClL vS (12 * 0) (mpx vS vN vU 0 (vR x)) (vU 0 - 1)) vN vX vM vT vB vK vY (upd (mMk vZ (fun y => mrs vZ vK vR vC y x) (nI 2) vM) x (nI 2)) vR vC vV)))]) C kX6_takeLine gX6_rejectWith_X6_takeLine (mX6_takeLine_0 X.2.1 a kp ty pl gd od vU vS vN vX vM vT vB vK vY (upd (mMk vZ (fun y => mrs vZ vK vR vC y x) (nI 2) vM) x (nI 2)) vR vC vV (mpx vS vN vU 0 (vR x)) hO hi) dX6_rejectWith_103 [0, 1] [] 0 rfl rfl nd_0_1 rfl rfl rfl (by decide) (by decide) (Nat.le_of_ble_eq_true rfl) rfl rfl ?_
      have hg_1 : okM (zUpN vU 0 (vU 0 - 1)) (mClL vS (12 * 0) (mpx vS vN vU 0 (vR x)) (vU 0 - 1)) vM vK := okM_Tk_0 (by assumption) (by omega)
      refine z_iload_n C 2 dX6_rejectWith_106 rfl rfl ?_
      exact z_iret C N dX6_rejectWith_107 (rfl) (congrArg (fun x => some (Value.int (nI x))) (show n9 = zc (fun y => mrs vZ vK vR vC y x) (vM) + 1 from by simpa [zc] using hn))
    | succ k =>
      refine z_cv (lv' := [some (.ref (a 0)), some (.int (nI x)), some (.int (nI n9)), some (.int (nI k))]) rfl (by rw [show nI (k + 1) + (-1) = nI k from pk_m1 k]) rfl ?_
      refine z_iload_n C 3 dX6_rejectWith_12 rfl rfl ?_
      refine z_nif_lt_f C 45 dX6_rejectWith_13 (by decide) (by omega) (by trivial) ?_
      refine z_aload_n C 0 dX6_rejectWith_16 rfl rfl ?_
      refine z_iload_n C 3 dX6_rejectWith_17 rfl rfl ?_
      refine z_iload_n C 1 dX6_rejectWith_18 rfl rfl ?_
      refine z_callVr C kX6_rests gX6_rejectWith_X6_rests (mX6_rests X.2.1 a kp ty pl gd od vU vS vN vX vM vT vB vK vY z' vR vC vV k x (by first | assumption | omega) (by first | assumption | omega)) dX6_rejectWith_19 [0, 1] [] 0 rfl nd_0_1 rfl rfl rfl (by decide) (by decide) (Nat.le_of_ble_eq_true rfl) rfl ?_
      refine z_bif_eq C 39 dX6_rejectWith_22 (by decide) (fun h_2 => ?_) (fun h_2 => ?_)
      · refine z_iinc C (nI k + (-1)) dX6_rejectWith_39 rfl (zi_m _) ?_
        refine z_goto C 12 dX6_rejectWith_42 (by decide) ?_
        exact ih12 (k) (by omega) k z' n9 rfl (by omega) (by subst hz; first | exact mMd_y (p := (fun y => mrs vZ vK vR vC y x)) (by omega) (mrs_Md.symm.trans h_2) | exact mMd_n (p := (fun y => mrs vZ vK vR vC y x)) (mrs_Md.symm.trans h_2)) (by subst hz; have h7 := mrs_Md.symm.trans h_2; have h8 := zc_s (p := (fun y => mrs vZ vK vR vC y x)) (k := k); simp only [h7, if_true, Bool.false_eq_true, if_false] at h8; omega)
      · refine z_aload_n C 0 dX6_rejectWith_25 rfl rfl ?_
        refine z_get C fX6_rejectWith_7 0 dX6_rejectWith_26 rfl rfl ?_
        refine z_sipush C (nI 269) dX6_rejectWith_29 (by decide) ?_
        refine z_iload_n C 3 dX6_rejectWith_32 rfl rfl ?_
        refine z_iadd C dX6_rejectWith_33 ?_
        refine z_top (y := nI (269 + k)) (nI_add _ _) ?_
        refine z_iconst C (nI 2) dX6_rejectWith_34 (by decide) ?_
        refine z_iastR C 1 dX6_rejectWith_35 rfl (by omega) (by decide) (f' := mRow vU vS vN vX vM vT vB vK vY (upd z' k (nI 2)) vR vC vV) ((congrArg (fun i9 => upd (mRow vU vS vN vX vM vT vB vK vY z' vR vC vV) i9 (nI 2)) (show 269 + k = 269 + (k) by omega)).trans (zMw_Z (by omega))) ?_
        refine z_iinc C (nI (n9 + 1)) dX6_rejectWith_36 rfl (zi_1 _) ?_
        refine z_iinc C (nI k + (-1)) dX6_rejectWith_39 rfl (zi_m _) ?_
        refine z_goto C 12 dX6_rejectWith_42 (by decide) ?_
        exact ih12 (k) (by omega) k (upd z' k (nI 2)) (n9 + 1) rfl (by omega) (by subst hz; first | exact mMd_y (p := (fun y => mrs vZ vK vR vC y x)) (by omega) (mrs_Md.symm.trans h_2) | exact mMd_n (p := (fun y => mrs vZ vK vR vC y x)) (mrs_Md.symm.trans h_2)) (by subst hz; have h7 := mrs_Md.symm.trans h_2; have h8 := zc_s (p := (fun y => mrs vZ vK vR vC y x)) (k := k); simp only [h7, if_true, Bool.false_eq_true, if_false] at h8; omega)
  exact hL12 _ (vM) (vZ) 1 rfl (Nat.le_refl _) ((mMd_m _ _ _ _).symm) (by omega)

set_option maxHeartbeats 400000 in
set_option maxRecDepth 100000 in
theorem mX6_rejectWith_1 (E : zE) (a : Nat → Nat) (kp ty pl : Nat) (gd : Bool) (od : Nat) (vU vS : Nat → Nat) (vN : Nat → Int32) (vX vM : Nat) (vT : Bool) (vB vK vY vZ vR vC vV : Nat → Int32) (x : Nat) (hO : okM vU vS vM vK) (hx : x < vM) (hq0 : ¬ vK x = 0) (hq2 : ¬ vK x = nI 2) : zM E yX6_rejectWith wsX6_rejectWith 4 [.ref (a 0), .int (nI x)] [((a 0), .inr (6, [.ref (a 1), .ref (a 2), .ref (a 3), .int (nI kp), .int (nI ty), .ref (a 4), .int (nI pl), .int (zb gd), .int (nI od), .ref (a 5)])), ((a 1), .inl (E.2.2.1, 512, .inl (mRow vU vS vN vX vM vT vB vK vY vZ vR vC vV)))] [((a 0), .inr (6, [.ref (a 1), .ref (a 2), .ref (a 3), .int (nI kp), .int (nI ty), .ref (a 4), .int (nI pl), .int (zb gd), .int (nI od), .ref (a 5)])), ((a 1), .inl (E.2.2.1, 512, .inl (mRow vU vS vN vX vM vT vB vK vY (upd (mMk vZ (fun y => mrs vZ vK vR vC y x) (nI 2) vM) x (nI 2)) vR vC vV)))] (some (.int (nI (zc (fun y => mrs vZ vK vR vC y x) (vM) + 1)))) := by
  refine zM.of kX6_rejectWith (Nat.le_of_ble_eq_true rfl) rfl [some (.ref (a 0)), some (.int (nI x)), none, none] rfl (Nat.le_of_ble_eq_true rfl) ?_
  intro X eX C N
  subst eX
  obtain ⟨hu0, hu1, hM, hk1, hk2, hk3⟩ := id hO
  refine z_iconst C (nI 1) dX6_rejectWith_0 (by decide) ?_
  refine z_istore_n C 2 dX6_rejectWith_1 rfl (Nat.le_of_ble_eq_true rfl) ?_
  refine z_aload_n C 0 dX6_rejectWith_2 rfl rfl ?_
  refine z_get C fX6_rejectWith_7 0 dX6_rejectWith_3 rfl rfl ?_
  refine z_bipush C (nI 51) dX6_rejectWith_6 (by decide) ?_
  refine z_ialdN C 1 dX6_rejectWith_8 rfl (by omega) (by decide) ?_
  refine z_top (y := nI (vM)) (zMr_M) ?_
  refine z_iconst C (nI 1) dX6_rejectWith_9 (by decide) ?_
  refine z_isub C dX6_rejectWith_10 ?_
  refine z_top (y := nI (vM) + (-1)) (zi_s _) ?_
  refine z_istore_n C 3 dX6_rejectWith_11 rfl (Nat.le_of_ble_eq_true rfl) ?_
  have hL12 : ∀ (dd : Nat) (k : Nat) (z' : Nat → Int32) (n9 : Nat), k = dd → (k ≤ vM) → (z' = mMd (vZ) (fun y => mrs vZ vK vR vC y x) (nI 2) (vM) k) → (n9 + zc (fun y => mrs vZ vK vR vC y x) k = zc (fun y => mrs vZ vK vR vC y x) (vM) + 1) → zG X 0 0 [((a 0), .inr (6, [.ref (a 1), .ref (a 2), .ref (a 3), .int (nI kp), .int (nI ty), .ref (a 4), .int (nI pl), .int (zb gd), .int (nI od), .ref (a 5)])), ((a 1), .inl (X.2.1.2.2.1, 512, .inl (mRow vU vS vN vX vM vT vB vK vY z' vR vC vV)))] [some (.ref (a 0)), some (.int (nI x)), some (.int (nI n9)), some (.int (nI k + (-1)))] [] 12 := by
    intro dd
    induction dd using Nat.strongRecOn with
    | _ dd ih12 =>
    intro k z' n9 hdd hk hz hn
    have hN9 := zc_le (fun y => mrs vZ vK vR vC y x) (vM)
    have hn2 : n9 ≤ vM + 1 := by omega
    cases k with
    | zero =>
      refine z_cv (lv' := [some (.ref (a 0)), some (.int (nI x)), some (.int (nI n9)), some (.int (-1))]) rfl (rfl) rfl ?_
      refine z_iload_n C 3 dX6_rejectWith_12 rfl rfl ?_
      refine z_if_lt_t C 45 dX6_rejectWith_13 (by decide) (by decide) ?_
      refine z_aload_n C 0 dX6_rejectWith_45 rfl rfl ?_
      refine z_get C fX6_rejectWith_7 0 dX6_rejectWith_46 rfl rfl ?_
      refine z_sipush C (nI 269) dX6_rejectWith_49 (by decide) ?_
      refine z_iload_n C 1 dX6_rejectWith_52 rfl rfl ?_
      refine z_iadd C dX6_rejectWith_53 ?_
      refine z_top (y := nI (269 + x)) (nI_add _ _) ?_
      refine z_iconst C (nI 2) dX6_rejectWith_54 (by decide) ?_
      refine z_iastR C 1 dX6_rejectWith_55 rfl (by omega) (by decide) (f' := mRow vU vS vN vX vM vT vB vK vY (upd z' x (nI 2)) vR vC vV) ((congrArg (fun i9 => upd (mRow vU vS vN vX vM vT vB vK vY z' vR vC vV) i9 (nI 2)) (show 269 + x = 269 + (x) by omega)).trans (zMw_Z (by omega))) ?_
      refine z_cv (ws' := [((a 0), .inr (6, [.ref (a 1), .ref (a 2), .ref (a 3), .int (nI kp), .int (nI ty), .ref (a 4), .int (nI pl), .int (zb gd), .int (nI od), .ref (a 5)])), ((a 1), .inl (X.2.1.2.2.1, 512, .inl (mRow vU vS vN vX vM vT vB vK vY (upd (mMk vZ (fun y => mrs vZ vK vR vC y x) (nI 2) vM) x (nI 2)) vR vC vV)))]) (by rw [hz, mMd_0] <;> rfl) rfl rfl ?_
      refine z_aload_n C 0 dX6_rejectWith_56 rfl rfl ?_
      refine z_iload_n C 1 dX6_rejectWith_57 rfl rfl ?_
      refine z_sipush C (nI 149) dX6_rejectWith_58 (by decide) ?_
      refine z_callVr C kX6_of gX6_rejectWith_X6_of (mX6_of_K X.2.1 a kp ty pl gd od vU vS vN vX vM vT vB vK vY (upd (mMk vZ (fun y => mrs vZ vK vR vC y x) (nI 2) vM) x (nI 2)) vR vC vV x (by first | assumption | omega)) dX6_rejectWith_61 [0, 1] [] 0 rfl nd_0_1 rfl rfl rfl (by decide) (by decide) (Nat.le_of_ble_eq_true rfl) rfl ?_
      refine z_top (y := vK x) rfl ?_
      refine z_istore_n C 3 dX6_rejectWith_64 rfl (Nat.le_of_ble_eq_true rfl) ?_
      refine z_iload_n C 3 dX6_rejectWith_65 rfl rfl ?_
      refine z_if_eq_f C 74 dX6_rejectWith_66 (by decide) hq0 ?_
      refine z_iload_n C 3 dX6_rejectWith_69 rfl rfl ?_
      refine z_iconst C (nI 2) dX6_rejectWith_70 (by decide) ?_
      refine z_icmp_ne_t C 106 dX6_rejectWith_71 (by decide) hq2 ?_
      refine z_iload_n C 2 dX6_rejectWith_106 rfl rfl ?_
      exact z_iret C N dX6_rejectWith_107 (rfl) (congrArg (fun x => some (Value.int (nI x))) (show n9 = zc (fun y => mrs vZ vK vR vC y x) (vM) + 1 from by simpa [zc] using hn))
    | succ k =>
      refine z_cv (lv' := [some (.ref (a 0)), some (.int (nI x)), some (.int (nI n9)), some (.int (nI k))]) rfl (by rw [show nI (k + 1) + (-1) = nI k from pk_m1 k]) rfl ?_
      refine z_iload_n C 3 dX6_rejectWith_12 rfl rfl ?_
      refine z_nif_lt_f C 45 dX6_rejectWith_13 (by decide) (by omega) (by trivial) ?_
      refine z_aload_n C 0 dX6_rejectWith_16 rfl rfl ?_
      refine z_iload_n C 3 dX6_rejectWith_17 rfl rfl ?_
      refine z_iload_n C 1 dX6_rejectWith_18 rfl rfl ?_
      refine z_callVr C kX6_rests gX6_rejectWith_X6_rests (mX6_rests X.2.1 a kp ty pl gd od vU vS vN vX vM vT vB vK vY z' vR vC vV k x (by first | assumption | omega) (by first | assumption | omega)) dX6_rejectWith_19 [0, 1] [] 0 rfl nd_0_1 rfl rfl rfl (by decide) (by decide) (Nat.le_of_ble_eq_true rfl) rfl ?_
      refine z_bif_eq C 39 dX6_rejectWith_22 (by decide) (fun h_1 => ?_) (fun h_1 => ?_)
      · refine z_iinc C (nI k + (-1)) dX6_rejectWith_39 rfl (zi_m _) ?_
        refine z_goto C 12 dX6_rejectWith_42 (by decide) ?_
        exact ih12 (k) (by omega) k z' n9 rfl (by omega) (by subst hz; first | exact mMd_y (p := (fun y => mrs vZ vK vR vC y x)) (by omega) (mrs_Md.symm.trans h_1) | exact mMd_n (p := (fun y => mrs vZ vK vR vC y x)) (mrs_Md.symm.trans h_1)) (by subst hz; have h7 := mrs_Md.symm.trans h_1; have h8 := zc_s (p := (fun y => mrs vZ vK vR vC y x)) (k := k); simp only [h7, if_true, Bool.false_eq_true, if_false] at h8; omega)
      · refine z_aload_n C 0 dX6_rejectWith_25 rfl rfl ?_
        refine z_get C fX6_rejectWith_7 0 dX6_rejectWith_26 rfl rfl ?_
        refine z_sipush C (nI 269) dX6_rejectWith_29 (by decide) ?_
        refine z_iload_n C 3 dX6_rejectWith_32 rfl rfl ?_
        refine z_iadd C dX6_rejectWith_33 ?_
        refine z_top (y := nI (269 + k)) (nI_add _ _) ?_
        refine z_iconst C (nI 2) dX6_rejectWith_34 (by decide) ?_
        refine z_iastR C 1 dX6_rejectWith_35 rfl (by omega) (by decide) (f' := mRow vU vS vN vX vM vT vB vK vY (upd z' k (nI 2)) vR vC vV) ((congrArg (fun i9 => upd (mRow vU vS vN vX vM vT vB vK vY z' vR vC vV) i9 (nI 2)) (show 269 + k = 269 + (k) by omega)).trans (zMw_Z (by omega))) ?_
        refine z_iinc C (nI (n9 + 1)) dX6_rejectWith_36 rfl (zi_1 _) ?_
        refine z_iinc C (nI k + (-1)) dX6_rejectWith_39 rfl (zi_m _) ?_
        refine z_goto C 12 dX6_rejectWith_42 (by decide) ?_
        exact ih12 (k) (by omega) k (upd z' k (nI 2)) (n9 + 1) rfl (by omega) (by subst hz; first | exact mMd_y (p := (fun y => mrs vZ vK vR vC y x)) (by omega) (mrs_Md.symm.trans h_1) | exact mMd_n (p := (fun y => mrs vZ vK vR vC y x)) (mrs_Md.symm.trans h_1)) (by subst hz; have h7 := mrs_Md.symm.trans h_1; have h8 := zc_s (p := (fun y => mrs vZ vK vR vC y x)) (k := k); simp only [h7, if_true, Bool.false_eq_true, if_false] at h8; omega)
  exact hL12 _ (vM) (vZ) 1 rfl (Nat.le_refl _) ((mMd_m _ _ _ _).symm) (by omega)

