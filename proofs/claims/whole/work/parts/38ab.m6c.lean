set_option maxHeartbeats 4000000 in
set_option maxRecDepth 100000 in
theorem mX6_doRemove_0mt (E : zE) (a : Nat → Nat) (kp ty pl : Nat) (gd : Bool) (od : Nat) (vU vS : Nat → Nat) (vN : Nat → Int32) (vX vM : Nat) (vT : Bool) (vB vK vY vZ vR vC vV : Nat → Int32) (au j : Nat) (k : Nat) (hO : okM vU vS vM vK) (hau : au < 4) (hj : j < vU 0) (ht : vT = true) (hr : mDm vZ vK vR vC vS vN vM 0 j = false) (hik : mIn vZ vK vR vC vS vN vM 0 j = nI k) (hk : k < vM) (hby : ¬ vY k = nI au) (hf : vM < 60) : zM E yX6_doRemove wsX6_doRemove 5 [.ref (a 0), .int (nI au), .int (nI 0), .int (nI j)] [((a 0), .inr (6, [.ref (a 1), .ref (a 2), .ref (a 3), .int (nI kp), .int (nI ty), .ref (a 4), .int (nI pl), .int (zb gd), .int (nI od), .ref (a 5)])), ((a 1), .inl (E.2.2.1, 512, .inl (mRow vU vS vN vX vM vT vB vK vY vZ vR vC vV)))] [((a 0), .inr (6, [.ref (a 1), .ref (a 2), .ref (a 3), .int (nI kp), .int (nI ty), .ref (a 4), .int (nI pl), .int (zb gd), .int (nI od), .ref (a 5)])), ((a 1), .inl (E.2.2.1, 512, .inl (mRow vU vS vN vX (vM + 1) vT vB (upd vK vM (nI 1)) (upd vY vM (nI au)) (upd vZ vM (nI 0)) (upd vR vM (mN vS vN 0 j)) (upd vC vM (-5)) (upd vV vM (nI 0)))))] (some (.int (nI (vM)))) := by
  refine zM.of kX6_doRemove (Nat.le_of_ble_eq_true rfl) rfl [some (.ref (a 0)), some (.int (nI au)), some (.int (nI 0)), some (.int (nI j)), none, none] rfl (Nat.le_of_ble_eq_true rfl) ?_
  intro X eX C N
  subst eX
  obtain ⟨hu0, hu1, hM, hk1, hk2, hk3⟩ := id hO
  refine z_iload_n C 1 dX6_doRemove_0 rfl rfl ?_
  refine z_callS C kX6_noAuthor gX6_doRemove_X6_noAuthor (mX6_noAuthor_y X.2.1 au hau) dX6_doRemove_1 [] rfl (by decide) (by decide) (Nat.le_of_ble_eq_true rfl) rfl ?_
  refine z_bif_ne_f C 16 dX6_doRemove_4 (by decide) rfl ?_
  refine z_aload_n C 0 dX6_doRemove_7 rfl rfl ?_
  refine z_iload_n C 2 dX6_doRemove_8 rfl rfl ?_
  refine z_iload_n C 3 dX6_doRemove_9 rfl rfl ?_
  refine z_callVr C kX6_noLine gX6_doRemove_X6_noLine (mX6_noLine_0_y X.2.1 a kp ty pl gd od vU vS vN vX vM vT vB vK vY vZ vR vC vV j hO hj) dX6_doRemove_10 [0, 1] [] 0 rfl nd_0_1 rfl rfl rfl (by decide) (by decide) (Nat.le_of_ble_eq_true rfl) rfl ?_
  refine z_bif_eq_t C 18 dX6_doRemove_13 (by decide) rfl ?_
  refine z_aload_n C 0 dX6_doRemove_18 rfl rfl ?_
  refine z_iload_n C 2 dX6_doRemove_19 rfl rfl ?_
  refine z_iload_n C 3 dX6_doRemove_20 rfl rfl ?_
  refine z_callVr C kX6_nameAt gX6_doRemove_X6_nameAt (mX6_nameAt_0 X.2.1 a kp ty pl gd od vU vS vN vX vM vT vB vK vY vZ vR vC vV j hO (by first | assumption | omega)) dX6_doRemove_21 [0, 1] [] 0 rfl nd_0_1 rfl rfl rfl (by decide) (by decide) (Nat.le_of_ble_eq_true rfl) rfl ?_
  refine z_istore C dX6_doRemove_24 (Nat.le_of_ble_eq_true rfl) ?_
  refine z_aload_n C 0 dX6_doRemove_26 rfl rfl ?_
  refine z_callVr C kX6_isTracked gX6_doRemove_X6_isTracked (mX6_isTracked X.2.1 a kp ty pl gd od vU vS vN vX vM vT vB vK vY vZ vR vC vV ) dX6_doRemove_27 [0, 1] [] 0 rfl nd_0_1 rfl rfl rfl (by decide) (by decide) (Nat.le_of_ble_eq_true rfl) rfl ?_
  refine z_bif_ne_t C 51 dX6_doRemove_30 (by decide) ht ?_
  refine z_aload_n C 0 dX6_doRemove_51 rfl rfl ?_
  refine z_iload_n C 2 dX6_doRemove_52 rfl rfl ?_
  refine z_iload_n C 3 dX6_doRemove_53 rfl rfl ?_
  refine z_callVr C kX6_isDoomed gX6_doRemove_X6_isDoomed (mX6_isDoomed_0 X.2.1 a kp ty pl gd od vU vS vN vX vM vT vB vK vY vZ vR vC vV j hO (by first | assumption | omega)) dX6_doRemove_54 [0, 1] [] 0 rfl nd_0_1 rfl rfl rfl (by decide) (by decide) (Nat.le_of_ble_eq_true rfl) rfl ?_
  refine z_bif_eq_t C 63 dX6_doRemove_57 (by decide) hr ?_
  refine z_aload_n C 0 dX6_doRemove_63 rfl rfl ?_
  refine z_iload_n C 2 dX6_doRemove_64 rfl rfl ?_
  refine z_iload_n C 3 dX6_doRemove_65 rfl rfl ?_
  refine z_callVr C kX6_insertionOf gX6_doRemove_X6_insertionOf (mX6_insertionOf_0 X.2.1 a kp ty pl gd od vU vS vN vX vM vT vB vK vY vZ vR vC vV j hO (by first | assumption | omega)) dX6_doRemove_66 [0, 1] [] 0 rfl nd_0_1 rfl rfl rfl (by decide) (by decide) (Nat.le_of_ble_eq_true rfl) rfl ?_
  refine z_top (y := nI k) (hik) ?_
  refine z_istore C dX6_doRemove_69 (Nat.le_of_ble_eq_true rfl) ?_
  refine z_iload C dX6_doRemove_71 rfl ?_
  refine z_nif_lt_f C 106 dX6_doRemove_73 (by decide) (by omega) (by trivial) ?_
  refine z_aload_n C 0 dX6_doRemove_76 rfl rfl ?_
  refine z_iload C dX6_doRemove_77 rfl ?_
  refine z_sipush C (nI 209) dX6_doRemove_79 (by decide) ?_
  refine z_callVr C kX6_of gX6_doRemove_X6_of (mX6_of_Y X.2.1 a kp ty pl gd od vU vS vN vX vM vT vB vK vY vZ vR vC vV k (by first | assumption | omega)) dX6_doRemove_82 [0, 1] [] 0 rfl nd_0_1 rfl rfl rfl (by decide) (by decide) (Nat.le_of_ble_eq_true rfl) rfl ?_
  refine z_iload_n C 1 dX6_doRemove_85 rfl rfl ?_
  refine z_icmp_ne_t C 106 dX6_doRemove_86 (by decide) hby ?_
  refine z_aload_n C 0 dX6_doRemove_106 rfl rfl ?_
  refine z_get C fX6_doRemove_7 0 dX6_doRemove_107 rfl rfl ?_
  refine z_bipush C (nI 51) dX6_doRemove_110 (by decide) ?_
  refine z_ialdN C 1 dX6_doRemove_112 rfl (by omega) (by decide) ?_
  refine z_top (y := nI (vM)) (zMr_M) ?_
  refine z_bipush C (nI 60) dX6_doRemove_113 (by decide) ?_
  refine z_ncmp_ne_t C 123 dX6_doRemove_115 (by decide) (by omega) (by omega) (by omega) ?_
  refine z_aload_n C 0 dX6_doRemove_123 rfl rfl ?_
  refine z_iconst C (nI 2) dX6_doRemove_124 (by decide) ?_
  refine z_iload_n C 2 dX6_doRemove_125 rfl rfl ?_
  refine z_imul C dX6_doRemove_126 ?_
  refine z_top (y := nI 0) (pk_mul _ _) ?_
  refine z_iconst C (nI 1) dX6_doRemove_127 (by decide) ?_
  refine z_iadd C dX6_doRemove_128 ?_
  refine z_top (y := nI 1) (nI_add _ _) ?_
  refine z_iload_n C 1 dX6_doRemove_129 rfl rfl ?_
  refine z_iload_n C 2 dX6_doRemove_130 rfl rfl ?_
  refine z_nif_ne_f C 139 dX6_doRemove_131 (by decide) (by omega) (by omega) ?_
  refine z_iload C dX6_doRemove_134 rfl ?_
  refine z_goto C 141 dX6_doRemove_136 (by decide) ?_
  refine z_iload_n C 2 dX6_doRemove_141 rfl rfl ?_
  refine z_iconst C (nI 1) dX6_doRemove_142 (by decide) ?_
  refine z_ncmp_ne_t C 151 dX6_doRemove_143 (by decide) (by omega) (by omega) (by omega) ?_
  refine z_bipush C (-5) dX6_doRemove_151 (by decide) ?_
  refine z_iconst C (nI 0) dX6_doRemove_153 (by decide) ?_
  refine z_callV (wn := [((a 0), .inr (6, [.ref (a 1), .ref (a 2), .ref (a 3), .int (nI kp), .int (nI ty), .ref (a 4), .int (nI pl), .int (zb gd), .int (nI od), .ref (a 5)])), ((a 1), .inl (X.2.1.2.2.1, 512, .inl (mRow vU vS vN vX (vM + 1) vT vB (upd vK vM (nI 1)) (upd vY vM (nI au)) (upd vZ vM (nI 0)) (upd vR vM (mN vS vN 0 j)) (upd vC vM (-5)) (upd vV vM (nI 0)))))]) C kX6_make gX6_doRemove_X6_make (mX6_make X.2.1 a kp ty pl gd od vU vS vN vX vM vT vB vK vY vZ vR vC vV (nI 1) (nI au) (mN vS vN 0 j) (-5) (nI 0) hO hf) dX6_doRemove_154 [0, 1] [] 0 rfl rfl nd_0_1 rfl rfl rfl (by decide) (by decide) (Nat.le_of_ble_eq_true rfl) rfl rfl ?_
  exact z_iret C N dX6_doRemove_157 (rfl) (rfl)

set_option maxHeartbeats 4000000 in
set_option maxRecDepth 100000 in
theorem mX6_doRemove_1b (E : zE) (a : Nat → Nat) (kp ty pl : Nat) (gd : Bool) (od : Nat) (vU vS : Nat → Nat) (vN : Nat → Int32) (vX vM : Nat) (vT : Bool) (vB vK vY vZ vR vC vV : Nat → Int32) (au : Nat) (p : Int32) (hO : okM vU vS vM vK) (hau : au < 4) (hx : p < 0 ∨ (¬ p < 0 ∧ nI (vU 1) ≤ p)) : zM E yX6_doRemove wsX6_doRemove 5 [.ref (a 0), .int (nI au), .int (nI 1), .int p] [((a 0), .inr (6, [.ref (a 1), .ref (a 2), .ref (a 3), .int (nI kp), .int (nI ty), .ref (a 4), .int (nI pl), .int (zb gd), .int (nI od), .ref (a 5)])), ((a 1), .inl (E.2.2.1, 512, .inl (mRow vU vS vN vX vM vT vB vK vY vZ vR vC vV)))] [((a 0), .inr (6, [.ref (a 1), .ref (a 2), .ref (a 3), .int (nI kp), .int (nI ty), .ref (a 4), .int (nI pl), .int (zb gd), .int (nI od), .ref (a 5)])), ((a 1), .inl (E.2.2.1, 512, .inl (mRow vU vS vN vX vM vT vB vK vY vZ vR vC vV)))] (some (.int (-1))) := by
  refine zM.of kX6_doRemove (Nat.le_of_ble_eq_true rfl) rfl [some (.ref (a 0)), some (.int (nI au)), some (.int (nI 1)), some (.int p), none, none] rfl (Nat.le_of_ble_eq_true rfl) ?_
  intro X eX C N
  subst eX
  obtain ⟨hu0, hu1, hM, hk1, hk2, hk3⟩ := id hO
  refine z_iload_n C 1 dX6_doRemove_0 rfl rfl ?_
  refine z_callS C kX6_noAuthor gX6_doRemove_X6_noAuthor (mX6_noAuthor_y X.2.1 au hau) dX6_doRemove_1 [] rfl (by decide) (by decide) (Nat.le_of_ble_eq_true rfl) rfl ?_
  refine z_bif_ne_f C 16 dX6_doRemove_4 (by decide) rfl ?_
  refine z_aload_n C 0 dX6_doRemove_7 rfl rfl ?_
  refine z_iload_n C 2 dX6_doRemove_8 rfl rfl ?_
  refine z_iload_n C 3 dX6_doRemove_9 rfl rfl ?_
  refine z_callVr C kX6_noLine gX6_doRemove_X6_noLine (mX6_noLine_1_n X.2.1 a kp ty pl gd od vU vS vN vX vM vT vB vK vY vZ vR vC vV p hO hx) dX6_doRemove_10 [0, 1] [] 0 rfl nd_0_1 rfl rfl rfl (by decide) (by decide) (Nat.le_of_ble_eq_true rfl) rfl ?_
  refine z_bif_eq_f C 18 dX6_doRemove_13 (by decide) rfl ?_
  refine z_iconst C (-1) dX6_doRemove_16 (by decide) ?_
  exact z_iret C N dX6_doRemove_17 (rfl) (rfl)

set_option maxHeartbeats 4000000 in
set_option maxRecDepth 100000 in
theorem mX6_doRemove_1u (E : zE) (a : Nat → Nat) (kp ty pl : Nat) (gd : Bool) (od : Nat) (vU vS : Nat → Nat) (vN : Nat → Int32) (vX vM : Nat) (vT : Bool) (vB vK vY vZ vR vC vV : Nat → Int32) (au j : Nat) (hO : okM vU vS vM vK) (hau : au < 4) (hj : j < vU 1) (ht : vT = false) : zM E yX6_doRemove wsX6_doRemove 5 [.ref (a 0), .int (nI au), .int (nI 1), .int (nI j)] [((a 0), .inr (6, [.ref (a 1), .ref (a 2), .ref (a 3), .int (nI kp), .int (nI ty), .ref (a 4), .int (nI pl), .int (zb gd), .int (nI od), .ref (a 5)])), ((a 1), .inl (E.2.2.1, 512, .inl (mRow vU vS vN vX vM vT vB vK vY vZ vR vC vV)))] [((a 0), .inr (6, [.ref (a 1), .ref (a 2), .ref (a 3), .int (nI kp), .int (nI ty), .ref (a 4), .int (nI pl), .int (zb gd), .int (nI od), .ref (a 5)])), ((a 1), .inl (E.2.2.1, 512, .inl (mRow (zUpN vU 1 (vU 1 - 1)) (mClL vS (12 * 1) j (vU 1 - 1)) vN vX vM vT vB vK vY (mMk vZ (mDp vZ vK vR vC (nI 1) (mN vS vN 1 j) false) (nI 3) vM) vR vC vV)))] (some (.int (nI 1000))) := by
  refine zM.of kX6_doRemove (Nat.le_of_ble_eq_true rfl) rfl [some (.ref (a 0)), some (.int (nI au)), some (.int (nI 1)), some (.int (nI j)), none, none] rfl (Nat.le_of_ble_eq_true rfl) ?_
  intro X eX C N
  subst eX
  obtain ⟨hu0, hu1, hM, hk1, hk2, hk3⟩ := id hO
  refine z_iload_n C 1 dX6_doRemove_0 rfl rfl ?_
  refine z_callS C kX6_noAuthor gX6_doRemove_X6_noAuthor (mX6_noAuthor_y X.2.1 au hau) dX6_doRemove_1 [] rfl (by decide) (by decide) (Nat.le_of_ble_eq_true rfl) rfl ?_
  refine z_bif_ne_f C 16 dX6_doRemove_4 (by decide) rfl ?_
  refine z_aload_n C 0 dX6_doRemove_7 rfl rfl ?_
  refine z_iload_n C 2 dX6_doRemove_8 rfl rfl ?_
  refine z_iload_n C 3 dX6_doRemove_9 rfl rfl ?_
  refine z_callVr C kX6_noLine gX6_doRemove_X6_noLine (mX6_noLine_1_y X.2.1 a kp ty pl gd od vU vS vN vX vM vT vB vK vY vZ vR vC vV j hO hj) dX6_doRemove_10 [0, 1] [] 0 rfl nd_0_1 rfl rfl rfl (by decide) (by decide) (Nat.le_of_ble_eq_true rfl) rfl ?_
  refine z_bif_eq_t C 18 dX6_doRemove_13 (by decide) rfl ?_
  refine z_aload_n C 0 dX6_doRemove_18 rfl rfl ?_
  refine z_iload_n C 2 dX6_doRemove_19 rfl rfl ?_
  refine z_iload_n C 3 dX6_doRemove_20 rfl rfl ?_
  refine z_callVr C kX6_nameAt gX6_doRemove_X6_nameAt (mX6_nameAt_1 X.2.1 a kp ty pl gd od vU vS vN vX vM vT vB vK vY vZ vR vC vV j hO (by first | assumption | omega)) dX6_doRemove_21 [0, 1] [] 0 rfl nd_0_1 rfl rfl rfl (by decide) (by decide) (Nat.le_of_ble_eq_true rfl) rfl ?_
  refine z_istore C dX6_doRemove_24 (Nat.le_of_ble_eq_true rfl) ?_
  refine z_aload_n C 0 dX6_doRemove_26 rfl rfl ?_
  refine z_callVr C kX6_isTracked gX6_doRemove_X6_isTracked (mX6_isTracked X.2.1 a kp ty pl gd od vU vS vN vX vM vT vB vK vY vZ vR vC vV ) dX6_doRemove_27 [0, 1] [] 0 rfl nd_0_1 rfl rfl rfl (by decide) (by decide) (Nat.le_of_ble_eq_true rfl) rfl ?_
  refine z_bif_ne_f C 51 dX6_doRemove_30 (by decide) ht ?_
  refine z_aload_n C 0 dX6_doRemove_33 rfl rfl ?_
  refine z_iload_n C 2 dX6_doRemove_34 rfl rfl ?_
  refine z_iload C dX6_doRemove_35 rfl ?_
  refine z_iconst C (nI 0) dX6_doRemove_37 (by decide) ?_
  refine z_callVv (wn := [((a 0), .inr (6, [.ref (a 1), .ref (a 2), .ref (a 3), .int (nI kp), .int (nI ty), .ref (a 4), .int (nI pl), .int (zb gd), .int (nI od), .ref (a 5)])), ((a 1), .inl (X.2.1.2.2.1, 512, .inl (mRow vU vS vN vX vM vT vB vK vY (mMk vZ (mDp vZ vK vR vC (nI 1) (mN vS vN 1 j) false) (nI 3) vM) vR vC vV)))]) C kX6_dissolveAt gX6_doRemove_X6_dissolveAt (mX6_dissolveAt_1f X.2.1 a kp ty pl gd od vU vS vN vX vM vT vB vK vY vZ vR vC vV (mN vS vN 1 j) hO) dX6_doRemove_38 [0, 1] [] 0 rfl rfl nd_0_1 rfl rfl rfl (by decide) (by decide) (Nat.le_of_ble_eq_true rfl) rfl rfl ?_
  refine z_aload_n C 0 dX6_doRemove_41 rfl rfl ?_
  refine z_iload_n C 2 dX6_doRemove_42 rfl rfl ?_
  refine z_iload_n C 3 dX6_doRemove_43 rfl rfl ?_
  refine z_callVv (wn := [((a 0), .inr (6, [.ref (a 1), .ref (a 2), .ref (a 3), .int (nI kp), .int (nI ty), .ref (a 4), .int (nI pl), .int (zb gd), .int (nI od), .ref (a 5)])), ((a 1), .inl (X.2.1.2.2.1, 512, .inl (mRow (zUpN vU 1 (vU 1 - 1)) (mClL vS (12 * 1) j (vU 1 - 1)) vN vX vM vT vB vK vY (mMk vZ (mDp vZ vK vR vC (nI 1) (mN vS vN 1 j) false) (nI 3) vM) vR vC vV)))]) C kX6_takeLine gX6_doRemove_X6_takeLine (mX6_takeLine_1 X.2.1 a kp ty pl gd od vU vS vN vX vM vT vB vK vY (mMk vZ (mDp vZ vK vR vC (nI 1) (mN vS vN 1 j) false) (nI 3) vM) vR vC vV j hO hj) dX6_doRemove_44 [0, 1] [] 0 rfl rfl nd_0_1 rfl rfl rfl (by decide) (by decide) (Nat.le_of_ble_eq_true rfl) rfl rfl ?_
  have hg_1 : okM (zUpN vU 1 (vU 1 - 1)) (mClL vS (12 * 1) j (vU 1 - 1)) vM vK := okM_Tk_1 (by assumption) (by omega)
  refine z_sipush C (nI 1000) dX6_doRemove_47 (by decide) ?_
  exact z_iret C N dX6_doRemove_50 (rfl) (rfl)

set_option maxHeartbeats 4000000 in
set_option maxRecDepth 100000 in
theorem mX6_doRemove_1d (E : zE) (a : Nat → Nat) (kp ty pl : Nat) (gd : Bool) (od : Nat) (vU vS : Nat → Nat) (vN : Nat → Int32) (vX vM : Nat) (vT : Bool) (vB vK vY vZ vR vC vV : Nat → Int32) (au j : Nat) (hO : okM vU vS vM vK) (hau : au < 4) (hj : j < vU 1) (ht : vT = true) (hr : mDm vZ vK vR vC vS vN vM 1 j = true) : zM E yX6_doRemove wsX6_doRemove 5 [.ref (a 0), .int (nI au), .int (nI 1), .int (nI j)] [((a 0), .inr (6, [.ref (a 1), .ref (a 2), .ref (a 3), .int (nI kp), .int (nI ty), .ref (a 4), .int (nI pl), .int (zb gd), .int (nI od), .ref (a 5)])), ((a 1), .inl (E.2.2.1, 512, .inl (mRow vU vS vN vX vM vT vB vK vY vZ vR vC vV)))] [((a 0), .inr (6, [.ref (a 1), .ref (a 2), .ref (a 3), .int (nI kp), .int (nI ty), .ref (a 4), .int (nI pl), .int (zb gd), .int (nI od), .ref (a 5)])), ((a 1), .inl (E.2.2.1, 512, .inl (mRow vU vS vN vX vM vT vB vK vY vZ vR vC vV)))] (some (.int (-4))) := by
  refine zM.of kX6_doRemove (Nat.le_of_ble_eq_true rfl) rfl [some (.ref (a 0)), some (.int (nI au)), some (.int (nI 1)), some (.int (nI j)), none, none] rfl (Nat.le_of_ble_eq_true rfl) ?_
  intro X eX C N
  subst eX
  obtain ⟨hu0, hu1, hM, hk1, hk2, hk3⟩ := id hO
  refine z_iload_n C 1 dX6_doRemove_0 rfl rfl ?_
  refine z_callS C kX6_noAuthor gX6_doRemove_X6_noAuthor (mX6_noAuthor_y X.2.1 au hau) dX6_doRemove_1 [] rfl (by decide) (by decide) (Nat.le_of_ble_eq_true rfl) rfl ?_
  refine z_bif_ne_f C 16 dX6_doRemove_4 (by decide) rfl ?_
  refine z_aload_n C 0 dX6_doRemove_7 rfl rfl ?_
  refine z_iload_n C 2 dX6_doRemove_8 rfl rfl ?_
  refine z_iload_n C 3 dX6_doRemove_9 rfl rfl ?_
  refine z_callVr C kX6_noLine gX6_doRemove_X6_noLine (mX6_noLine_1_y X.2.1 a kp ty pl gd od vU vS vN vX vM vT vB vK vY vZ vR vC vV j hO hj) dX6_doRemove_10 [0, 1] [] 0 rfl nd_0_1 rfl rfl rfl (by decide) (by decide) (Nat.le_of_ble_eq_true rfl) rfl ?_
  refine z_bif_eq_t C 18 dX6_doRemove_13 (by decide) rfl ?_
  refine z_aload_n C 0 dX6_doRemove_18 rfl rfl ?_
  refine z_iload_n C 2 dX6_doRemove_19 rfl rfl ?_
  refine z_iload_n C 3 dX6_doRemove_20 rfl rfl ?_
  refine z_callVr C kX6_nameAt gX6_doRemove_X6_nameAt (mX6_nameAt_1 X.2.1 a kp ty pl gd od vU vS vN vX vM vT vB vK vY vZ vR vC vV j hO (by first | assumption | omega)) dX6_doRemove_21 [0, 1] [] 0 rfl nd_0_1 rfl rfl rfl (by decide) (by decide) (Nat.le_of_ble_eq_true rfl) rfl ?_
  refine z_istore C dX6_doRemove_24 (Nat.le_of_ble_eq_true rfl) ?_
  refine z_aload_n C 0 dX6_doRemove_26 rfl rfl ?_
  refine z_callVr C kX6_isTracked gX6_doRemove_X6_isTracked (mX6_isTracked X.2.1 a kp ty pl gd od vU vS vN vX vM vT vB vK vY vZ vR vC vV ) dX6_doRemove_27 [0, 1] [] 0 rfl nd_0_1 rfl rfl rfl (by decide) (by decide) (Nat.le_of_ble_eq_true rfl) rfl ?_
  refine z_bif_ne_t C 51 dX6_doRemove_30 (by decide) ht ?_
  refine z_aload_n C 0 dX6_doRemove_51 rfl rfl ?_
  refine z_iload_n C 2 dX6_doRemove_52 rfl rfl ?_
  refine z_iload_n C 3 dX6_doRemove_53 rfl rfl ?_
  refine z_callVr C kX6_isDoomed gX6_doRemove_X6_isDoomed (mX6_isDoomed_1 X.2.1 a kp ty pl gd od vU vS vN vX vM vT vB vK vY vZ vR vC vV j hO (by first | assumption | omega)) dX6_doRemove_54 [0, 1] [] 0 rfl nd_0_1 rfl rfl rfl (by decide) (by decide) (Nat.le_of_ble_eq_true rfl) rfl ?_
  refine z_bif_eq_f C 63 dX6_doRemove_57 (by decide) hr ?_
  refine z_bipush C (-4) dX6_doRemove_60 (by decide) ?_
  exact z_iret C N dX6_doRemove_62 (rfl) (rfl)

set_option maxHeartbeats 4000000 in
set_option maxRecDepth 100000 in
theorem mX6_doRemove_1o (E : zE) (a : Nat → Nat) (kp ty pl : Nat) (gd : Bool) (od : Nat) (vU vS : Nat → Nat) (vN : Nat → Int32) (vX vM : Nat) (vT : Bool) (vB vK vY vZ vR vC vV : Nat → Int32) (au j : Nat) (k : Nat) (hO : okM vU vS vM vK) (hau : au < 4) (hj : j < vU 1) (ht : vT = true) (hr : mDm vZ vK vR vC vS vN vM 1 j = false) (hik : mIn vZ vK vR vC vS vN vM 1 j = nI k) (hk : k < vM) (hby : vY k = nI au) : zM E yX6_doRemove wsX6_doRemove 5 [.ref (a 0), .int (nI au), .int (nI 1), .int (nI j)] [((a 0), .inr (6, [.ref (a 1), .ref (a 2), .ref (a 3), .int (nI kp), .int (nI ty), .ref (a 4), .int (nI pl), .int (zb gd), .int (nI od), .ref (a 5)])), ((a 1), .inl (E.2.2.1, 512, .inl (mRow vU vS vN vX vM vT vB vK vY vZ vR vC vV)))] [((a 0), .inr (6, [.ref (a 1), .ref (a 2), .ref (a 3), .int (nI kp), .int (nI ty), .ref (a 4), .int (nI pl), .int (zb gd), .int (nI od), .ref (a 5)])), ((a 1), .inl (E.2.2.1, 512, .inl (mRow (zUpN vU 1 (vU 1 - 1)) (mClL vS (12 * 1) j (vU 1 - 1)) vN vX vM vT vB vK vY (mMk vZ (mDp vZ vK vR vC (nI 1) (mN vS vN 1 j) false) (nI 3) vM) vR vC vV)))] (some (.int (nI k))) := by
  refine zM.of kX6_doRemove (Nat.le_of_ble_eq_true rfl) rfl [some (.ref (a 0)), some (.int (nI au)), some (.int (nI 1)), some (.int (nI j)), none, none] rfl (Nat.le_of_ble_eq_true rfl) ?_
  intro X eX C N
  subst eX
  obtain ⟨hu0, hu1, hM, hk1, hk2, hk3⟩ := id hO
  refine z_iload_n C 1 dX6_doRemove_0 rfl rfl ?_
  refine z_callS C kX6_noAuthor gX6_doRemove_X6_noAuthor (mX6_noAuthor_y X.2.1 au hau) dX6_doRemove_1 [] rfl (by decide) (by decide) (Nat.le_of_ble_eq_true rfl) rfl ?_
  refine z_bif_ne_f C 16 dX6_doRemove_4 (by decide) rfl ?_
  refine z_aload_n C 0 dX6_doRemove_7 rfl rfl ?_
  refine z_iload_n C 2 dX6_doRemove_8 rfl rfl ?_
  refine z_iload_n C 3 dX6_doRemove_9 rfl rfl ?_
  refine z_callVr C kX6_noLine gX6_doRemove_X6_noLine (mX6_noLine_1_y X.2.1 a kp ty pl gd od vU vS vN vX vM vT vB vK vY vZ vR vC vV j hO hj) dX6_doRemove_10 [0, 1] [] 0 rfl nd_0_1 rfl rfl rfl (by decide) (by decide) (Nat.le_of_ble_eq_true rfl) rfl ?_
  refine z_bif_eq_t C 18 dX6_doRemove_13 (by decide) rfl ?_
  refine z_aload_n C 0 dX6_doRemove_18 rfl rfl ?_
  refine z_iload_n C 2 dX6_doRemove_19 rfl rfl ?_
  refine z_iload_n C 3 dX6_doRemove_20 rfl rfl ?_
  refine z_callVr C kX6_nameAt gX6_doRemove_X6_nameAt (mX6_nameAt_1 X.2.1 a kp ty pl gd od vU vS vN vX vM vT vB vK vY vZ vR vC vV j hO (by first | assumption | omega)) dX6_doRemove_21 [0, 1] [] 0 rfl nd_0_1 rfl rfl rfl (by decide) (by decide) (Nat.le_of_ble_eq_true rfl) rfl ?_
  refine z_istore C dX6_doRemove_24 (Nat.le_of_ble_eq_true rfl) ?_
  refine z_aload_n C 0 dX6_doRemove_26 rfl rfl ?_
  refine z_callVr C kX6_isTracked gX6_doRemove_X6_isTracked (mX6_isTracked X.2.1 a kp ty pl gd od vU vS vN vX vM vT vB vK vY vZ vR vC vV ) dX6_doRemove_27 [0, 1] [] 0 rfl nd_0_1 rfl rfl rfl (by decide) (by decide) (Nat.le_of_ble_eq_true rfl) rfl ?_
  refine z_bif_ne_t C 51 dX6_doRemove_30 (by decide) ht ?_
  refine z_aload_n C 0 dX6_doRemove_51 rfl rfl ?_
  refine z_iload_n C 2 dX6_doRemove_52 rfl rfl ?_
  refine z_iload_n C 3 dX6_doRemove_53 rfl rfl ?_
  refine z_callVr C kX6_isDoomed gX6_doRemove_X6_isDoomed (mX6_isDoomed_1 X.2.1 a kp ty pl gd od vU vS vN vX vM vT vB vK vY vZ vR vC vV j hO (by first | assumption | omega)) dX6_doRemove_54 [0, 1] [] 0 rfl nd_0_1 rfl rfl rfl (by decide) (by decide) (Nat.le_of_ble_eq_true rfl) rfl ?_
  refine z_bif_eq_t C 63 dX6_doRemove_57 (by decide) hr ?_
  refine z_aload_n C 0 dX6_doRemove_63 rfl rfl ?_
  refine z_iload_n C 2 dX6_doRemove_64 rfl rfl ?_
  refine z_iload_n C 3 dX6_doRemove_65 rfl rfl ?_
  refine z_callVr C kX6_insertionOf gX6_doRemove_X6_insertionOf (mX6_insertionOf_1 X.2.1 a kp ty pl gd od vU vS vN vX vM vT vB vK vY vZ vR vC vV j hO (by first | assumption | omega)) dX6_doRemove_66 [0, 1] [] 0 rfl nd_0_1 rfl rfl rfl (by decide) (by decide) (Nat.le_of_ble_eq_true rfl) rfl ?_
  refine z_top (y := nI k) (hik) ?_
  refine z_istore C dX6_doRemove_69 (Nat.le_of_ble_eq_true rfl) ?_
  refine z_iload C dX6_doRemove_71 rfl ?_
  refine z_nif_lt_f C 106 dX6_doRemove_73 (by decide) (by omega) (by trivial) ?_
  refine z_aload_n C 0 dX6_doRemove_76 rfl rfl ?_
  refine z_iload C dX6_doRemove_77 rfl ?_
  refine z_sipush C (nI 209) dX6_doRemove_79 (by decide) ?_
  refine z_callVr C kX6_of gX6_doRemove_X6_of (mX6_of_Y X.2.1 a kp ty pl gd od vU vS vN vX vM vT vB vK vY vZ vR vC vV k (by first | assumption | omega)) dX6_doRemove_82 [0, 1] [] 0 rfl nd_0_1 rfl rfl rfl (by decide) (by decide) (Nat.le_of_ble_eq_true rfl) rfl ?_
  refine z_iload_n C 1 dX6_doRemove_85 rfl rfl ?_
  refine z_icmp_ne_f C 106 dX6_doRemove_86 (by decide) hby ?_
  refine z_aload_n C 0 dX6_doRemove_89 rfl rfl ?_
  refine z_iload_n C 2 dX6_doRemove_90 rfl rfl ?_
  refine z_iload C dX6_doRemove_91 rfl ?_
  refine z_iconst C (nI 0) dX6_doRemove_93 (by decide) ?_
  refine z_callVv (wn := [((a 0), .inr (6, [.ref (a 1), .ref (a 2), .ref (a 3), .int (nI kp), .int (nI ty), .ref (a 4), .int (nI pl), .int (zb gd), .int (nI od), .ref (a 5)])), ((a 1), .inl (X.2.1.2.2.1, 512, .inl (mRow vU vS vN vX vM vT vB vK vY (mMk vZ (mDp vZ vK vR vC (nI 1) (mN vS vN 1 j) false) (nI 3) vM) vR vC vV)))]) C kX6_dissolveAt gX6_doRemove_X6_dissolveAt (mX6_dissolveAt_1f X.2.1 a kp ty pl gd od vU vS vN vX vM vT vB vK vY vZ vR vC vV (mN vS vN 1 j) hO) dX6_doRemove_94 [0, 1] [] 0 rfl rfl nd_0_1 rfl rfl rfl (by decide) (by decide) (Nat.le_of_ble_eq_true rfl) rfl rfl ?_
  refine z_aload_n C 0 dX6_doRemove_97 rfl rfl ?_
  refine z_iload_n C 2 dX6_doRemove_98 rfl rfl ?_
  refine z_iload_n C 3 dX6_doRemove_99 rfl rfl ?_
  refine z_callVv (wn := [((a 0), .inr (6, [.ref (a 1), .ref (a 2), .ref (a 3), .int (nI kp), .int (nI ty), .ref (a 4), .int (nI pl), .int (zb gd), .int (nI od), .ref (a 5)])), ((a 1), .inl (X.2.1.2.2.1, 512, .inl (mRow (zUpN vU 1 (vU 1 - 1)) (mClL vS (12 * 1) j (vU 1 - 1)) vN vX vM vT vB vK vY (mMk vZ (mDp vZ vK vR vC (nI 1) (mN vS vN 1 j) false) (nI 3) vM) vR vC vV)))]) C kX6_takeLine gX6_doRemove_X6_takeLine (mX6_takeLine_1 X.2.1 a kp ty pl gd od vU vS vN vX vM vT vB vK vY (mMk vZ (mDp vZ vK vR vC (nI 1) (mN vS vN 1 j) false) (nI 3) vM) vR vC vV j hO hj) dX6_doRemove_100 [0, 1] [] 0 rfl rfl nd_0_1 rfl rfl rfl (by decide) (by decide) (Nat.le_of_ble_eq_true rfl) rfl rfl ?_
  have hg_1 : okM (zUpN vU 1 (vU 1 - 1)) (mClL vS (12 * 1) j (vU 1 - 1)) vM vK := okM_Tk_1 (by assumption) (by omega)
  refine z_iload C dX6_doRemove_103 rfl ?_
  exact z_iret C N dX6_doRemove_105 (rfl) (rfl)

set_option maxHeartbeats 4000000 in
set_option maxRecDepth 100000 in
theorem mX6_doRemove_1nf (E : zE) (a : Nat → Nat) (kp ty pl : Nat) (gd : Bool) (od : Nat) (vU vS : Nat → Nat) (vN : Nat → Int32) (vX vM : Nat) (vT : Bool) (vB vK vY vZ vR vC vV : Nat → Int32) (au j : Nat) (hO : okM vU vS vM vK) (hau : au < 4) (hj : j < vU 1) (ht : vT = true) (hr : mDm vZ vK vR vC vS vN vM 1 j = false) (hi : mIn vZ vK vR vC vS vN vM 1 j < 0) (hf : vM = 60) : zM E yX6_doRemove wsX6_doRemove 5 [.ref (a 0), .int (nI au), .int (nI 1), .int (nI j)] [((a 0), .inr (6, [.ref (a 1), .ref (a 2), .ref (a 3), .int (nI kp), .int (nI ty), .ref (a 4), .int (nI pl), .int (zb gd), .int (nI od), .ref (a 5)])), ((a 1), .inl (E.2.2.1, 512, .inl (mRow vU vS vN vX vM vT vB vK vY vZ vR vC vV)))] [((a 0), .inr (6, [.ref (a 1), .ref (a 2), .ref (a 3), .int (nI kp), .int (nI ty), .ref (a 4), .int (nI pl), .int (zb gd), .int (nI od), .ref (a 5)])), ((a 1), .inl (E.2.2.1, 512, .inl (mRow vU vS vN vX vM vT vB vK vY vZ vR vC vV)))] (some (.int (-3))) := by
  refine zM.of kX6_doRemove (Nat.le_of_ble_eq_true rfl) rfl [some (.ref (a 0)), some (.int (nI au)), some (.int (nI 1)), some (.int (nI j)), none, none] rfl (Nat.le_of_ble_eq_true rfl) ?_
  intro X eX C N
  subst eX
  obtain ⟨hu0, hu1, hM, hk1, hk2, hk3⟩ := id hO
  refine z_iload_n C 1 dX6_doRemove_0 rfl rfl ?_
  refine z_callS C kX6_noAuthor gX6_doRemove_X6_noAuthor (mX6_noAuthor_y X.2.1 au hau) dX6_doRemove_1 [] rfl (by decide) (by decide) (Nat.le_of_ble_eq_true rfl) rfl ?_
  refine z_bif_ne_f C 16 dX6_doRemove_4 (by decide) rfl ?_
  refine z_aload_n C 0 dX6_doRemove_7 rfl rfl ?_
  refine z_iload_n C 2 dX6_doRemove_8 rfl rfl ?_
  refine z_iload_n C 3 dX6_doRemove_9 rfl rfl ?_
  refine z_callVr C kX6_noLine gX6_doRemove_X6_noLine (mX6_noLine_1_y X.2.1 a kp ty pl gd od vU vS vN vX vM vT vB vK vY vZ vR vC vV j hO hj) dX6_doRemove_10 [0, 1] [] 0 rfl nd_0_1 rfl rfl rfl (by decide) (by decide) (Nat.le_of_ble_eq_true rfl) rfl ?_
  refine z_bif_eq_t C 18 dX6_doRemove_13 (by decide) rfl ?_
  refine z_aload_n C 0 dX6_doRemove_18 rfl rfl ?_
  refine z_iload_n C 2 dX6_doRemove_19 rfl rfl ?_
  refine z_iload_n C 3 dX6_doRemove_20 rfl rfl ?_
  refine z_callVr C kX6_nameAt gX6_doRemove_X6_nameAt (mX6_nameAt_1 X.2.1 a kp ty pl gd od vU vS vN vX vM vT vB vK vY vZ vR vC vV j hO (by first | assumption | omega)) dX6_doRemove_21 [0, 1] [] 0 rfl nd_0_1 rfl rfl rfl (by decide) (by decide) (Nat.le_of_ble_eq_true rfl) rfl ?_
  refine z_istore C dX6_doRemove_24 (Nat.le_of_ble_eq_true rfl) ?_
  refine z_aload_n C 0 dX6_doRemove_26 rfl rfl ?_
  refine z_callVr C kX6_isTracked gX6_doRemove_X6_isTracked (mX6_isTracked X.2.1 a kp ty pl gd od vU vS vN vX vM vT vB vK vY vZ vR vC vV ) dX6_doRemove_27 [0, 1] [] 0 rfl nd_0_1 rfl rfl rfl (by decide) (by decide) (Nat.le_of_ble_eq_true rfl) rfl ?_
  refine z_bif_ne_t C 51 dX6_doRemove_30 (by decide) ht ?_
  refine z_aload_n C 0 dX6_doRemove_51 rfl rfl ?_
  refine z_iload_n C 2 dX6_doRemove_52 rfl rfl ?_
  refine z_iload_n C 3 dX6_doRemove_53 rfl rfl ?_
  refine z_callVr C kX6_isDoomed gX6_doRemove_X6_isDoomed (mX6_isDoomed_1 X.2.1 a kp ty pl gd od vU vS vN vX vM vT vB vK vY vZ vR vC vV j hO (by first | assumption | omega)) dX6_doRemove_54 [0, 1] [] 0 rfl nd_0_1 rfl rfl rfl (by decide) (by decide) (Nat.le_of_ble_eq_true rfl) rfl ?_
  refine z_bif_eq_t C 63 dX6_doRemove_57 (by decide) hr ?_
  refine z_aload_n C 0 dX6_doRemove_63 rfl rfl ?_
  refine z_iload_n C 2 dX6_doRemove_64 rfl rfl ?_
  refine z_iload_n C 3 dX6_doRemove_65 rfl rfl ?_
  refine z_callVr C kX6_insertionOf gX6_doRemove_X6_insertionOf (mX6_insertionOf_1 X.2.1 a kp ty pl gd od vU vS vN vX vM vT vB vK vY vZ vR vC vV j hO (by first | assumption | omega)) dX6_doRemove_66 [0, 1] [] 0 rfl nd_0_1 rfl rfl rfl (by decide) (by decide) (Nat.le_of_ble_eq_true rfl) rfl ?_
  refine z_istore C dX6_doRemove_69 (Nat.le_of_ble_eq_true rfl) ?_
  refine z_iload C dX6_doRemove_71 rfl ?_
  refine z_if_lt_t C 106 dX6_doRemove_73 (by decide) hi ?_
  refine z_aload_n C 0 dX6_doRemove_106 rfl rfl ?_
  refine z_get C fX6_doRemove_7 0 dX6_doRemove_107 rfl rfl ?_
  refine z_bipush C (nI 51) dX6_doRemove_110 (by decide) ?_
  refine z_ialdN C 1 dX6_doRemove_112 rfl (by omega) (by decide) ?_
  refine z_top (y := nI (vM)) (zMr_M) ?_
  refine z_bipush C (nI 60) dX6_doRemove_113 (by decide) ?_
  refine z_ncmp_ne_f C 123 dX6_doRemove_115 (by decide) (by omega) (by omega) (by omega) ?_
  refine z_bipush C (-3) dX6_doRemove_118 (by decide) ?_
  refine z_goto C 157 dX6_doRemove_120 (by decide) ?_
  exact z_iret C N dX6_doRemove_157 (rfl) (rfl)

set_option maxHeartbeats 4000000 in
set_option maxRecDepth 100000 in
theorem mX6_doRemove_1mf (E : zE) (a : Nat → Nat) (kp ty pl : Nat) (gd : Bool) (od : Nat) (vU vS : Nat → Nat) (vN : Nat → Int32) (vX vM : Nat) (vT : Bool) (vB vK vY vZ vR vC vV : Nat → Int32) (au j : Nat) (k : Nat) (hO : okM vU vS vM vK) (hau : au < 4) (hj : j < vU 1) (ht : vT = true) (hr : mDm vZ vK vR vC vS vN vM 1 j = false) (hik : mIn vZ vK vR vC vS vN vM 1 j = nI k) (hk : k < vM) (hby : ¬ vY k = nI au) (hf : vM = 60) : zM E yX6_doRemove wsX6_doRemove 5 [.ref (a 0), .int (nI au), .int (nI 1), .int (nI j)] [((a 0), .inr (6, [.ref (a 1), .ref (a 2), .ref (a 3), .int (nI kp), .int (nI ty), .ref (a 4), .int (nI pl), .int (zb gd), .int (nI od), .ref (a 5)])), ((a 1), .inl (E.2.2.1, 512, .inl (mRow vU vS vN vX vM vT vB vK vY vZ vR vC vV)))] [((a 0), .inr (6, [.ref (a 1), .ref (a 2), .ref (a 3), .int (nI kp), .int (nI ty), .ref (a 4), .int (nI pl), .int (zb gd), .int (nI od), .ref (a 5)])), ((a 1), .inl (E.2.2.1, 512, .inl (mRow vU vS vN vX vM vT vB vK vY vZ vR vC vV)))] (some (.int (-3))) := by
  refine zM.of kX6_doRemove (Nat.le_of_ble_eq_true rfl) rfl [some (.ref (a 0)), some (.int (nI au)), some (.int (nI 1)), some (.int (nI j)), none, none] rfl (Nat.le_of_ble_eq_true rfl) ?_
  intro X eX C N
  subst eX
  obtain ⟨hu0, hu1, hM, hk1, hk2, hk3⟩ := id hO
  refine z_iload_n C 1 dX6_doRemove_0 rfl rfl ?_
  refine z_callS C kX6_noAuthor gX6_doRemove_X6_noAuthor (mX6_noAuthor_y X.2.1 au hau) dX6_doRemove_1 [] rfl (by decide) (by decide) (Nat.le_of_ble_eq_true rfl) rfl ?_
  refine z_bif_ne_f C 16 dX6_doRemove_4 (by decide) rfl ?_
  refine z_aload_n C 0 dX6_doRemove_7 rfl rfl ?_
  refine z_iload_n C 2 dX6_doRemove_8 rfl rfl ?_
  refine z_iload_n C 3 dX6_doRemove_9 rfl rfl ?_
  refine z_callVr C kX6_noLine gX6_doRemove_X6_noLine (mX6_noLine_1_y X.2.1 a kp ty pl gd od vU vS vN vX vM vT vB vK vY vZ vR vC vV j hO hj) dX6_doRemove_10 [0, 1] [] 0 rfl nd_0_1 rfl rfl rfl (by decide) (by decide) (Nat.le_of_ble_eq_true rfl) rfl ?_
  refine z_bif_eq_t C 18 dX6_doRemove_13 (by decide) rfl ?_
  refine z_aload_n C 0 dX6_doRemove_18 rfl rfl ?_
  refine z_iload_n C 2 dX6_doRemove_19 rfl rfl ?_
  refine z_iload_n C 3 dX6_doRemove_20 rfl rfl ?_
  refine z_callVr C kX6_nameAt gX6_doRemove_X6_nameAt (mX6_nameAt_1 X.2.1 a kp ty pl gd od vU vS vN vX vM vT vB vK vY vZ vR vC vV j hO (by first | assumption | omega)) dX6_doRemove_21 [0, 1] [] 0 rfl nd_0_1 rfl rfl rfl (by decide) (by decide) (Nat.le_of_ble_eq_true rfl) rfl ?_
  refine z_istore C dX6_doRemove_24 (Nat.le_of_ble_eq_true rfl) ?_
  refine z_aload_n C 0 dX6_doRemove_26 rfl rfl ?_
  refine z_callVr C kX6_isTracked gX6_doRemove_X6_isTracked (mX6_isTracked X.2.1 a kp ty pl gd od vU vS vN vX vM vT vB vK vY vZ vR vC vV ) dX6_doRemove_27 [0, 1] [] 0 rfl nd_0_1 rfl rfl rfl (by decide) (by decide) (Nat.le_of_ble_eq_true rfl) rfl ?_
  refine z_bif_ne_t C 51 dX6_doRemove_30 (by decide) ht ?_
  refine z_aload_n C 0 dX6_doRemove_51 rfl rfl ?_
  refine z_iload_n C 2 dX6_doRemove_52 rfl rfl ?_
  refine z_iload_n C 3 dX6_doRemove_53 rfl rfl ?_
  refine z_callVr C kX6_isDoomed gX6_doRemove_X6_isDoomed (mX6_isDoomed_1 X.2.1 a kp ty pl gd od vU vS vN vX vM vT vB vK vY vZ vR vC vV j hO (by first | assumption | omega)) dX6_doRemove_54 [0, 1] [] 0 rfl nd_0_1 rfl rfl rfl (by decide) (by decide) (Nat.le_of_ble_eq_true rfl) rfl ?_
  refine z_bif_eq_t C 63 dX6_doRemove_57 (by decide) hr ?_
  refine z_aload_n C 0 dX6_doRemove_63 rfl rfl ?_
  refine z_iload_n C 2 dX6_doRemove_64 rfl rfl ?_
  refine z_iload_n C 3 dX6_doRemove_65 rfl rfl ?_
  refine z_callVr C kX6_insertionOf gX6_doRemove_X6_insertionOf (mX6_insertionOf_1 X.2.1 a kp ty pl gd od vU vS vN vX vM vT vB vK vY vZ vR vC vV j hO (by first | assumption | omega)) dX6_doRemove_66 [0, 1] [] 0 rfl nd_0_1 rfl rfl rfl (by decide) (by decide) (Nat.le_of_ble_eq_true rfl) rfl ?_
  refine z_top (y := nI k) (hik) ?_
  refine z_istore C dX6_doRemove_69 (Nat.le_of_ble_eq_true rfl) ?_
  refine z_iload C dX6_doRemove_71 rfl ?_
  refine z_nif_lt_f C 106 dX6_doRemove_73 (by decide) (by omega) (by trivial) ?_
  refine z_aload_n C 0 dX6_doRemove_76 rfl rfl ?_
  refine z_iload C dX6_doRemove_77 rfl ?_
  refine z_sipush C (nI 209) dX6_doRemove_79 (by decide) ?_
  refine z_callVr C kX6_of gX6_doRemove_X6_of (mX6_of_Y X.2.1 a kp ty pl gd od vU vS vN vX vM vT vB vK vY vZ vR vC vV k (by first | assumption | omega)) dX6_doRemove_82 [0, 1] [] 0 rfl nd_0_1 rfl rfl rfl (by decide) (by decide) (Nat.le_of_ble_eq_true rfl) rfl ?_
  refine z_iload_n C 1 dX6_doRemove_85 rfl rfl ?_
  refine z_icmp_ne_t C 106 dX6_doRemove_86 (by decide) hby ?_
  refine z_aload_n C 0 dX6_doRemove_106 rfl rfl ?_
  refine z_get C fX6_doRemove_7 0 dX6_doRemove_107 rfl rfl ?_
  refine z_bipush C (nI 51) dX6_doRemove_110 (by decide) ?_
  refine z_ialdN C 1 dX6_doRemove_112 rfl (by omega) (by decide) ?_
  refine z_top (y := nI (vM)) (zMr_M) ?_
  refine z_bipush C (nI 60) dX6_doRemove_113 (by decide) ?_
  refine z_ncmp_ne_f C 123 dX6_doRemove_115 (by decide) (by omega) (by omega) (by omega) ?_
  refine z_bipush C (-3) dX6_doRemove_118 (by decide) ?_
  refine z_goto C 157 dX6_doRemove_120 (by decide) ?_
  exact z_iret C N dX6_doRemove_157 (rfl) (rfl)

set_option maxHeartbeats 4000000 in
set_option maxRecDepth 100000 in
theorem mX6_doRemove_1nt (E : zE) (a : Nat → Nat) (kp ty pl : Nat) (gd : Bool) (od : Nat) (vU vS : Nat → Nat) (vN : Nat → Int32) (vX vM : Nat) (vT : Bool) (vB vK vY vZ vR vC vV : Nat → Int32) (au j : Nat) (hO : okM vU vS vM vK) (hau : au < 4) (hj : j < vU 1) (ht : vT = true) (hr : mDm vZ vK vR vC vS vN vM 1 j = false) (hi : mIn vZ vK vR vC vS vN vM 1 j < 0) (hf : vM < 60) : zM E yX6_doRemove wsX6_doRemove 5 [.ref (a 0), .int (nI au), .int (nI 1), .int (nI j)] [((a 0), .inr (6, [.ref (a 1), .ref (a 2), .ref (a 3), .int (nI kp), .int (nI ty), .ref (a 4), .int (nI pl), .int (zb gd), .int (nI od), .ref (a 5)])), ((a 1), .inl (E.2.2.1, 512, .inl (mRow vU vS vN vX vM vT vB vK vY vZ vR vC vV)))] [((a 0), .inr (6, [.ref (a 1), .ref (a 2), .ref (a 3), .int (nI kp), .int (nI ty), .ref (a 4), .int (nI pl), .int (zb gd), .int (nI od), .ref (a 5)])), ((a 1), .inl (E.2.2.1, 512, .inl (mRow vU vS vN vX (vM + 1) vT vB (upd vK vM (nI 3)) (upd vY vM (nI au)) (upd vZ vM (nI 0)) (upd vR vM (-5)) (upd vC vM (mN vS vN 1 j)) (upd vV vM (nI 0)))))] (some (.int (nI (vM)))) := by
  refine zM.of kX6_doRemove (Nat.le_of_ble_eq_true rfl) rfl [some (.ref (a 0)), some (.int (nI au)), some (.int (nI 1)), some (.int (nI j)), none, none] rfl (Nat.le_of_ble_eq_true rfl) ?_
  intro X eX C N
  subst eX
  obtain ⟨hu0, hu1, hM, hk1, hk2, hk3⟩ := id hO
  refine z_iload_n C 1 dX6_doRemove_0 rfl rfl ?_
  refine z_callS C kX6_noAuthor gX6_doRemove_X6_noAuthor (mX6_noAuthor_y X.2.1 au hau) dX6_doRemove_1 [] rfl (by decide) (by decide) (Nat.le_of_ble_eq_true rfl) rfl ?_
  refine z_bif_ne_f C 16 dX6_doRemove_4 (by decide) rfl ?_
  refine z_aload_n C 0 dX6_doRemove_7 rfl rfl ?_
  refine z_iload_n C 2 dX6_doRemove_8 rfl rfl ?_
  refine z_iload_n C 3 dX6_doRemove_9 rfl rfl ?_
  refine z_callVr C kX6_noLine gX6_doRemove_X6_noLine (mX6_noLine_1_y X.2.1 a kp ty pl gd od vU vS vN vX vM vT vB vK vY vZ vR vC vV j hO hj) dX6_doRemove_10 [0, 1] [] 0 rfl nd_0_1 rfl rfl rfl (by decide) (by decide) (Nat.le_of_ble_eq_true rfl) rfl ?_
  refine z_bif_eq_t C 18 dX6_doRemove_13 (by decide) rfl ?_
  refine z_aload_n C 0 dX6_doRemove_18 rfl rfl ?_
  refine z_iload_n C 2 dX6_doRemove_19 rfl rfl ?_
  refine z_iload_n C 3 dX6_doRemove_20 rfl rfl ?_
  refine z_callVr C kX6_nameAt gX6_doRemove_X6_nameAt (mX6_nameAt_1 X.2.1 a kp ty pl gd od vU vS vN vX vM vT vB vK vY vZ vR vC vV j hO (by first | assumption | omega)) dX6_doRemove_21 [0, 1] [] 0 rfl nd_0_1 rfl rfl rfl (by decide) (by decide) (Nat.le_of_ble_eq_true rfl) rfl ?_
  refine z_istore C dX6_doRemove_24 (Nat.le_of_ble_eq_true rfl) ?_
  refine z_aload_n C 0 dX6_doRemove_26 rfl rfl ?_
  refine z_callVr C kX6_isTracked gX6_doRemove_X6_isTracked (mX6_isTracked X.2.1 a kp ty pl gd od vU vS vN vX vM vT vB vK vY vZ vR vC vV ) dX6_doRemove_27 [0, 1] [] 0 rfl nd_0_1 rfl rfl rfl (by decide) (by decide) (Nat.le_of_ble_eq_true rfl) rfl ?_
  refine z_bif_ne_t C 51 dX6_doRemove_30 (by decide) ht ?_
  refine z_aload_n C 0 dX6_doRemove_51 rfl rfl ?_
  refine z_iload_n C 2 dX6_doRemove_52 rfl rfl ?_
  refine z_iload_n C 3 dX6_doRemove_53 rfl rfl ?_
  refine z_callVr C kX6_isDoomed gX6_doRemove_X6_isDoomed (mX6_isDoomed_1 X.2.1 a kp ty pl gd od vU vS vN vX vM vT vB vK vY vZ vR vC vV j hO (by first | assumption | omega)) dX6_doRemove_54 [0, 1] [] 0 rfl nd_0_1 rfl rfl rfl (by decide) (by decide) (Nat.le_of_ble_eq_true rfl) rfl ?_
  refine z_bif_eq_t C 63 dX6_doRemove_57 (by decide) hr ?_
  refine z_aload_n C 0 dX6_doRemove_63 rfl rfl ?_
  refine z_iload_n C 2 dX6_doRemove_64 rfl rfl ?_
  refine z_iload_n C 3 dX6_doRemove_65 rfl rfl ?_
  refine z_callVr C kX6_insertionOf gX6_doRemove_X6_insertionOf (mX6_insertionOf_1 X.2.1 a kp ty pl gd od vU vS vN vX vM vT vB vK vY vZ vR vC vV j hO (by first | assumption | omega)) dX6_doRemove_66 [0, 1] [] 0 rfl nd_0_1 rfl rfl rfl (by decide) (by decide) (Nat.le_of_ble_eq_true rfl) rfl ?_
  refine z_istore C dX6_doRemove_69 (Nat.le_of_ble_eq_true rfl) ?_
  refine z_iload C dX6_doRemove_71 rfl ?_
  refine z_if_lt_t C 106 dX6_doRemove_73 (by decide) hi ?_
  refine z_aload_n C 0 dX6_doRemove_106 rfl rfl ?_
  refine z_get C fX6_doRemove_7 0 dX6_doRemove_107 rfl rfl ?_
  refine z_bipush C (nI 51) dX6_doRemove_110 (by decide) ?_
  refine z_ialdN C 1 dX6_doRemove_112 rfl (by omega) (by decide) ?_
  refine z_top (y := nI (vM)) (zMr_M) ?_
  refine z_bipush C (nI 60) dX6_doRemove_113 (by decide) ?_
  refine z_ncmp_ne_t C 123 dX6_doRemove_115 (by decide) (by omega) (by omega) (by omega) ?_
  refine z_aload_n C 0 dX6_doRemove_123 rfl rfl ?_
  refine z_iconst C (nI 2) dX6_doRemove_124 (by decide) ?_
  refine z_iload_n C 2 dX6_doRemove_125 rfl rfl ?_
  refine z_imul C dX6_doRemove_126 ?_
  refine z_top (y := nI 2) (pk_mul _ _) ?_
  refine z_iconst C (nI 1) dX6_doRemove_127 (by decide) ?_
  refine z_iadd C dX6_doRemove_128 ?_
  refine z_top (y := nI 3) (nI_add _ _) ?_
  refine z_iload_n C 1 dX6_doRemove_129 rfl rfl ?_
  refine z_iload_n C 2 dX6_doRemove_130 rfl rfl ?_
  refine z_nif_ne_t C 139 dX6_doRemove_131 (by decide) (by omega) (by omega) ?_
  refine z_bipush C (-5) dX6_doRemove_139 (by decide) ?_
  refine z_iload_n C 2 dX6_doRemove_141 rfl rfl ?_
  refine z_iconst C (nI 1) dX6_doRemove_142 (by decide) ?_
  refine z_ncmp_ne_f C 151 dX6_doRemove_143 (by decide) (by omega) (by omega) (by omega) ?_
  refine z_iload C dX6_doRemove_146 rfl ?_
  refine z_goto C 153 dX6_doRemove_148 (by decide) ?_
  refine z_iconst C (nI 0) dX6_doRemove_153 (by decide) ?_
  refine z_callV (wn := [((a 0), .inr (6, [.ref (a 1), .ref (a 2), .ref (a 3), .int (nI kp), .int (nI ty), .ref (a 4), .int (nI pl), .int (zb gd), .int (nI od), .ref (a 5)])), ((a 1), .inl (X.2.1.2.2.1, 512, .inl (mRow vU vS vN vX (vM + 1) vT vB (upd vK vM (nI 3)) (upd vY vM (nI au)) (upd vZ vM (nI 0)) (upd vR vM (-5)) (upd vC vM (mN vS vN 1 j)) (upd vV vM (nI 0)))))]) C kX6_make gX6_doRemove_X6_make (mX6_make X.2.1 a kp ty pl gd od vU vS vN vX vM vT vB vK vY vZ vR vC vV (nI 3) (nI au) (-5) (mN vS vN 1 j) (nI 0) hO hf) dX6_doRemove_154 [0, 1] [] 0 rfl rfl nd_0_1 rfl rfl rfl (by decide) (by decide) (Nat.le_of_ble_eq_true rfl) rfl rfl ?_
  exact z_iret C N dX6_doRemove_157 (rfl) (rfl)

set_option maxHeartbeats 4000000 in
set_option maxRecDepth 100000 in
theorem mX6_doRemove_1mt (E : zE) (a : Nat → Nat) (kp ty pl : Nat) (gd : Bool) (od : Nat) (vU vS : Nat → Nat) (vN : Nat → Int32) (vX vM : Nat) (vT : Bool) (vB vK vY vZ vR vC vV : Nat → Int32) (au j : Nat) (k : Nat) (hO : okM vU vS vM vK) (hau : au < 4) (hj : j < vU 1) (ht : vT = true) (hr : mDm vZ vK vR vC vS vN vM 1 j = false) (hik : mIn vZ vK vR vC vS vN vM 1 j = nI k) (hk : k < vM) (hby : ¬ vY k = nI au) (hf : vM < 60) : zM E yX6_doRemove wsX6_doRemove 5 [.ref (a 0), .int (nI au), .int (nI 1), .int (nI j)] [((a 0), .inr (6, [.ref (a 1), .ref (a 2), .ref (a 3), .int (nI kp), .int (nI ty), .ref (a 4), .int (nI pl), .int (zb gd), .int (nI od), .ref (a 5)])), ((a 1), .inl (E.2.2.1, 512, .inl (mRow vU vS vN vX vM vT vB vK vY vZ vR vC vV)))] [((a 0), .inr (6, [.ref (a 1), .ref (a 2), .ref (a 3), .int (nI kp), .int (nI ty), .ref (a 4), .int (nI pl), .int (zb gd), .int (nI od), .ref (a 5)])), ((a 1), .inl (E.2.2.1, 512, .inl (mRow vU vS vN vX (vM + 1) vT vB (upd vK vM (nI 3)) (upd vY vM (nI au)) (upd vZ vM (nI 0)) (upd vR vM (-5)) (upd vC vM (mN vS vN 1 j)) (upd vV vM (nI 0)))))] (some (.int (nI (vM)))) := by
  refine zM.of kX6_doRemove (Nat.le_of_ble_eq_true rfl) rfl [some (.ref (a 0)), some (.int (nI au)), some (.int (nI 1)), some (.int (nI j)), none, none] rfl (Nat.le_of_ble_eq_true rfl) ?_
  intro X eX C N
  subst eX
  obtain ⟨hu0, hu1, hM, hk1, hk2, hk3⟩ := id hO
  refine z_iload_n C 1 dX6_doRemove_0 rfl rfl ?_
  refine z_callS C kX6_noAuthor gX6_doRemove_X6_noAuthor (mX6_noAuthor_y X.2.1 au hau) dX6_doRemove_1 [] rfl (by decide) (by decide) (Nat.le_of_ble_eq_true rfl) rfl ?_
  refine z_bif_ne_f C 16 dX6_doRemove_4 (by decide) rfl ?_
  refine z_aload_n C 0 dX6_doRemove_7 rfl rfl ?_
  refine z_iload_n C 2 dX6_doRemove_8 rfl rfl ?_
  refine z_iload_n C 3 dX6_doRemove_9 rfl rfl ?_
  refine z_callVr C kX6_noLine gX6_doRemove_X6_noLine (mX6_noLine_1_y X.2.1 a kp ty pl gd od vU vS vN vX vM vT vB vK vY vZ vR vC vV j hO hj) dX6_doRemove_10 [0, 1] [] 0 rfl nd_0_1 rfl rfl rfl (by decide) (by decide) (Nat.le_of_ble_eq_true rfl) rfl ?_
  refine z_bif_eq_t C 18 dX6_doRemove_13 (by decide) rfl ?_
  refine z_aload_n C 0 dX6_doRemove_18 rfl rfl ?_
  refine z_iload_n C 2 dX6_doRemove_19 rfl rfl ?_
  refine z_iload_n C 3 dX6_doRemove_20 rfl rfl ?_
  refine z_callVr C kX6_nameAt gX6_doRemove_X6_nameAt (mX6_nameAt_1 X.2.1 a kp ty pl gd od vU vS vN vX vM vT vB vK vY vZ vR vC vV j hO (by first | assumption | omega)) dX6_doRemove_21 [0, 1] [] 0 rfl nd_0_1 rfl rfl rfl (by decide) (by decide) (Nat.le_of_ble_eq_true rfl) rfl ?_
  refine z_istore C dX6_doRemove_24 (Nat.le_of_ble_eq_true rfl) ?_
  refine z_aload_n C 0 dX6_doRemove_26 rfl rfl ?_
  refine z_callVr C kX6_isTracked gX6_doRemove_X6_isTracked (mX6_isTracked X.2.1 a kp ty pl gd od vU vS vN vX vM vT vB vK vY vZ vR vC vV ) dX6_doRemove_27 [0, 1] [] 0 rfl nd_0_1 rfl rfl rfl (by decide) (by decide) (Nat.le_of_ble_eq_true rfl) rfl ?_
  refine z_bif_ne_t C 51 dX6_doRemove_30 (by decide) ht ?_
  refine z_aload_n C 0 dX6_doRemove_51 rfl rfl ?_
  refine z_iload_n C 2 dX6_doRemove_52 rfl rfl ?_
  refine z_iload_n C 3 dX6_doRemove_53 rfl rfl ?_
  refine z_callVr C kX6_isDoomed gX6_doRemove_X6_isDoomed (mX6_isDoomed_1 X.2.1 a kp ty pl gd od vU vS vN vX vM vT vB vK vY vZ vR vC vV j hO (by first | assumption | omega)) dX6_doRemove_54 [0, 1] [] 0 rfl nd_0_1 rfl rfl rfl (by decide) (by decide) (Nat.le_of_ble_eq_true rfl) rfl ?_
  refine z_bif_eq_t C 63 dX6_doRemove_57 (by decide) hr ?_
  refine z_aload_n C 0 dX6_doRemove_63 rfl rfl ?_
  refine z_iload_n C 2 dX6_doRemove_64 rfl rfl ?_
  refine z_iload_n C 3 dX6_doRemove_65 rfl rfl ?_
  refine z_callVr C kX6_insertionOf gX6_doRemove_X6_insertionOf (mX6_insertionOf_1 X.2.1 a kp ty pl gd od vU vS vN vX vM vT vB vK vY vZ vR vC vV j hO (by first | assumption | omega)) dX6_doRemove_66 [0, 1] [] 0 rfl nd_0_1 rfl rfl rfl (by decide) (by decide) (Nat.le_of_ble_eq_true rfl) rfl ?_
  refine z_top (y := nI k) (hik) ?_
  refine z_istore C dX6_doRemove_69 (Nat.le_of_ble_eq_true rfl) ?_
  refine z_iload C dX6_doRemove_71 rfl ?_
  refine z_nif_lt_f C 106 dX6_doRemove_73 (by decide) (by omega) (by trivial) ?_
  refine z_aload_n C 0 dX6_doRemove_76 rfl rfl ?_
  refine z_iload C dX6_doRemove_77 rfl ?_
  refine z_sipush C (nI 209) dX6_doRemove_79 (by decide) ?_
  refine z_callVr C kX6_of gX6_doRemove_X6_of (mX6_of_Y X.2.1 a kp ty pl gd od vU vS vN vX vM vT vB vK vY vZ vR vC vV k (by first | assumption | omega)) dX6_doRemove_82 [0, 1] [] 0 rfl nd_0_1 rfl rfl rfl (by decide) (by decide) (Nat.le_of_ble_eq_true rfl) rfl ?_
  refine z_iload_n C 1 dX6_doRemove_85 rfl rfl ?_
  refine z_icmp_ne_t C 106 dX6_doRemove_86 (by decide) hby ?_
  refine z_aload_n C 0 dX6_doRemove_106 rfl rfl ?_
  refine z_get C fX6_doRemove_7 0 dX6_doRemove_107 rfl rfl ?_
  refine z_bipush C (nI 51) dX6_doRemove_110 (by decide) ?_
  refine z_ialdN C 1 dX6_doRemove_112 rfl (by omega) (by decide) ?_
  refine z_top (y := nI (vM)) (zMr_M) ?_
  refine z_bipush C (nI 60) dX6_doRemove_113 (by decide) ?_
  refine z_ncmp_ne_t C 123 dX6_doRemove_115 (by decide) (by omega) (by omega) (by omega) ?_
  refine z_aload_n C 0 dX6_doRemove_123 rfl rfl ?_
  refine z_iconst C (nI 2) dX6_doRemove_124 (by decide) ?_
  refine z_iload_n C 2 dX6_doRemove_125 rfl rfl ?_
  refine z_imul C dX6_doRemove_126 ?_
  refine z_top (y := nI 2) (pk_mul _ _) ?_
  refine z_iconst C (nI 1) dX6_doRemove_127 (by decide) ?_
  refine z_iadd C dX6_doRemove_128 ?_
  refine z_top (y := nI 3) (nI_add _ _) ?_
  refine z_iload_n C 1 dX6_doRemove_129 rfl rfl ?_
  refine z_iload_n C 2 dX6_doRemove_130 rfl rfl ?_
  refine z_nif_ne_t C 139 dX6_doRemove_131 (by decide) (by omega) (by omega) ?_
  refine z_bipush C (-5) dX6_doRemove_139 (by decide) ?_
  refine z_iload_n C 2 dX6_doRemove_141 rfl rfl ?_
  refine z_iconst C (nI 1) dX6_doRemove_142 (by decide) ?_
  refine z_ncmp_ne_f C 151 dX6_doRemove_143 (by decide) (by omega) (by omega) (by omega) ?_
  refine z_iload C dX6_doRemove_146 rfl ?_
  refine z_goto C 153 dX6_doRemove_148 (by decide) ?_
  refine z_iconst C (nI 0) dX6_doRemove_153 (by decide) ?_
  refine z_callV (wn := [((a 0), .inr (6, [.ref (a 1), .ref (a 2), .ref (a 3), .int (nI kp), .int (nI ty), .ref (a 4), .int (nI pl), .int (zb gd), .int (nI od), .ref (a 5)])), ((a 1), .inl (X.2.1.2.2.1, 512, .inl (mRow vU vS vN vX (vM + 1) vT vB (upd vK vM (nI 3)) (upd vY vM (nI au)) (upd vZ vM (nI 0)) (upd vR vM (-5)) (upd vC vM (mN vS vN 1 j)) (upd vV vM (nI 0)))))]) C kX6_make gX6_doRemove_X6_make (mX6_make X.2.1 a kp ty pl gd od vU vS vN vX vM vT vB vK vY vZ vR vC vV (nI 3) (nI au) (-5) (mN vS vN 1 j) (nI 0) hO hf) dX6_doRemove_154 [0, 1] [] 0 rfl rfl nd_0_1 rfl rfl rfl (by decide) (by decide) (Nat.le_of_ble_eq_true rfl) rfl rfl ?_
  exact z_iret C N dX6_doRemove_157 (rfl) (rfl)

theorem kX6_baseOf : zY yX6_baseOf wsX6_baseOf cX6_baseOf 3 (some .int) 2 := ⟨⟨_, rfl⟩, ⟨by decide +kernel, by decide +kernel, by decide +kernel⟩, by decide +kernel⟩
theorem fX6_baseOf_7 : zF wsX6_baseOf RX6 7 6 0 RX6 TX6 10 := ⟨by decide +kernel, rfl, by decide, by decide +kernel, rfl⟩
set_option maxHeartbeats 4000000 in
set_option maxRecDepth 100000 in
theorem mX6_baseOf (E : zE) (a : Nat → Nat) (kp ty pl : Nat) (gd : Bool) (od : Nat) (vU vS : Nat → Nat) (vN : Nat → Int32) (vX vM : Nat) (vT : Bool) (vB vK vY vZ vR vC vV : Nat → Int32) (r c : Int32) (i j : Nat) (hO : okM vU vS vM vK) (hi : mPl vS vN vU 0 r = nI i) (hib : i < vU 0) (hj : mPl vS vN vU 1 c = nI j) (hjb : j < vU 1) : zM E yX6_baseOf wsX6_baseOf 3 [.ref (a 0), .int r, .int c] [((a 0), .inr (6, [.ref (a 1), .ref (a 2), .ref (a 3), .int (nI kp), .int (nI ty), .ref (a 4), .int (nI pl), .int (zb gd), .int (nI od), .ref (a 5)])), ((a 1), .inl (E.2.2.1, 512, .inl (mRow vU vS vN vX vM vT vB vK vY vZ vR vC vV)))] [((a 0), .inr (6, [.ref (a 1), .ref (a 2), .ref (a 3), .int (nI kp), .int (nI ty), .ref (a 4), .int (nI pl), .int (zb gd), .int (nI od), .ref (a 5)])), ((a 1), .inl (E.2.2.1, 512, .inl (mRow vU vS vN vX vM vT vB vK vY vZ vR vC vV)))] (some (.int (mB vB vS i j))) := by
  refine zM.of kX6_baseOf (Nat.le_of_ble_eq_true rfl) rfl [some (.ref (a 0)), some (.int r), some (.int c)] rfl (Nat.le_of_ble_eq_true rfl) ?_
  intro X eX C N
  subst eX
  obtain ⟨hu0, hu1, hM, hk1, hk2, hk3⟩ := id hO
  refine z_aload_n C 0 dX6_baseOf_0 rfl rfl ?_
  refine z_get C fX6_baseOf_7 0 dX6_baseOf_1 rfl rfl ?_
  refine z_aload_n C 0 dX6_baseOf_4 rfl rfl ?_
  refine z_aload_n C 0 dX6_baseOf_5 rfl rfl ?_
  refine z_iconst C (nI 0) dX6_baseOf_6 (by decide) ?_
  refine z_iload_n C 1 dX6_baseOf_7 rfl rfl ?_
  refine z_callVr C kX6_placeOf gX6_baseOf_X6_placeOf (mX6_placeOf_0 X.2.1 a kp ty pl gd od vU vS vN vX vM vT vB vK vY vZ vR vC vV r hO) dX6_baseOf_8 [0, 1] [.ref (a 0), .ref (a 1)] 0 rfl nd_0_1 rfl rfl rfl (by decide) (by decide) (Nat.le_of_ble_eq_true rfl) rfl ?_
  refine z_top (y := nI i) (hi) ?_
  refine z_aload_n C 0 dX6_baseOf_11 rfl rfl ?_
  refine z_iconst C (nI 1) dX6_baseOf_12 (by decide) ?_
  refine z_iload_n C 2 dX6_baseOf_13 rfl rfl ?_
  refine z_callVr C kX6_placeOf gX6_baseOf_X6_placeOf (mX6_placeOf_1 X.2.1 a kp ty pl gd od vU vS vN vX vM vT vB vK vY vZ vR vC vV c hO) dX6_baseOf_14 [0, 1] [.int (nI i), .ref (a 0), .ref (a 1)] 0 rfl nd_0_1 rfl rfl rfl (by decide) (by decide) (Nat.le_of_ble_eq_true rfl) rfl ?_
  refine z_top (y := nI j) (hj) ?_
  refine z_callVr C kX6_baseAt gX6_baseOf_X6_baseAt (mX6_baseAt_0 X.2.1 a kp ty pl gd od vU vS vN vX vM vT vB vK vY vZ vR vC vV i j hO (by first | assumption | omega) (by first | assumption | omega)) dX6_baseOf_17 [0, 1] [.ref (a 1)] 0 rfl nd_0_1 rfl rfl rfl (by decide) (by decide) (Nat.le_of_ble_eq_true rfl) rfl ?_
  have hg_1 : mS vS 0 i < 12 := okM_r (by assumption) _
  have hg_2 : mS vS 1 j < 8 := okM_c (by assumption) _
  refine z_ialdN C 1 dX6_baseOf_20 rfl (by omega) (by decide) ?_
  refine z_top (y := mB vB vS i j) ((congrArg (mRow vU vS vN vX vM vT vB vK vY vZ vR vC vV) (show 53 + 8 * mS vS 0 i + mS vS 1 j = 53 + (8 * mS vS 0 i + mS vS 1 j) by omega)).trans (zMr_B (by omega))) ?_
  exact z_iret C N dX6_baseOf_21 (rfl) (rfl)

theorem kX6_valueBelow : zY yX6_valueBelow wsX6_valueBelow cX6_valueBelow 5 (some .int) 3 := ⟨⟨_, rfl⟩, ⟨by decide +kernel, by decide +kernel, by decide +kernel⟩, by decide +kernel⟩
set_option maxHeartbeats 4000000 in
set_option maxRecDepth 100000 in
theorem mX6_valueBelow (E : zE) (a : Nat → Nat) (kp ty pl : Nat) (gd : Bool) (od : Nat) (vU vS : Nat → Nat) (vN : Nat → Int32) (vX vM : Nat) (vT : Bool) (vB vK vY vZ vR vC vV : Nat → Int32) (q : Nat) (r c : Int32) (i j : Nat) (hO : okM vU vS vM vK) (hq : q ≤ 60) (hi : mPl vS vN vU 0 r = nI i) (hib : i < vU 0) (hj : mPl vS vN vU 1 c = nI j) (hjb : j < vU 1) : zM E yX6_valueBelow wsX6_valueBelow 4 [.ref (a 0), .int (nI q), .int r, .int c] [((a 0), .inr (6, [.ref (a 1), .ref (a 2), .ref (a 3), .int (nI kp), .int (nI ty), .ref (a 4), .int (nI pl), .int (zb gd), .int (nI od), .ref (a 5)])), ((a 1), .inl (E.2.2.1, 512, .inl (mRow vU vS vN vX vM vT vB vK vY vZ vR vC vV)))] [((a 0), .inr (6, [.ref (a 1), .ref (a 2), .ref (a 3), .int (nI kp), .int (nI ty), .ref (a 4), .int (nI pl), .int (zb gd), .int (nI od), .ref (a 5)])), ((a 1), .inl (E.2.2.1, 512, .inl (mRow vU vS vN vX vM vT vB vK vY vZ vR vC vV)))] (some (.int (mVB vZ vK vR vC vB vS vV q r c i j))) := by
  refine zM.of kX6_valueBelow (Nat.le_of_ble_eq_true rfl) rfl [some (.ref (a 0)), some (.int (nI q)), some (.int r), some (.int c), none] rfl (Nat.le_of_ble_eq_true rfl) ?_
  intro X eX C N
  subst eX
  obtain ⟨hu0, hu1, hM, hk1, hk2, hk3⟩ := id hO
  refine z_aload_n C 0 dX6_valueBelow_0 rfl rfl ?_
  refine z_iload_n C 1 dX6_valueBelow_1 rfl rfl ?_
  refine z_iload_n C 2 dX6_valueBelow_2 rfl rfl ?_
  refine z_iload_n C 3 dX6_valueBelow_3 rfl rfl ?_
  refine z_callVr C kX6_settingBelow gX6_valueBelow_X6_settingBelow (mX6_settingBelow X.2.1 a kp ty pl gd od vU vS vN vX vM vT vB vK vY vZ vR vC vV q r c hq) dX6_valueBelow_4 [0, 1] [] 0 rfl nd_0_1 rfl rfl rfl (by decide) (by decide) (Nat.le_of_ble_eq_true rfl) rfl ?_
  rcases hz : zgo (mSt vZ vK vR vC r c) (q) with _ | k
  · refine z_top (y := (-5)) (zg_none hz) ?_
    refine z_istore C dX6_valueBelow_7 (Nat.le_of_ble_eq_true rfl) ?_
    refine z_iload C dX6_valueBelow_9 rfl ?_
    refine z_if_ge_f C 23 dX6_valueBelow_11 (by decide) (by decide) ?_
    refine z_aload_n C 0 dX6_valueBelow_14 rfl rfl ?_
    refine z_iload_n C 2 dX6_valueBelow_15 rfl rfl ?_
    refine z_iload_n C 3 dX6_valueBelow_16 rfl rfl ?_
    refine z_callVr C kX6_baseOf gX6_valueBelow_X6_baseOf (mX6_baseOf X.2.1 a kp ty pl gd od vU vS vN vX vM vT vB vK vY vZ vR vC vV r c i j hO hi hib hj hjb) dX6_valueBelow_17 [0, 1] [] 0 rfl nd_0_1 rfl rfl rfl (by decide) (by decide) (Nat.le_of_ble_eq_true rfl) rfl ?_
    refine z_goto C 32 dX6_valueBelow_20 (by decide) ?_
    exact z_iret C N dX6_valueBelow_32 (rfl) (by simp [mVB, hz])
  · have hz2 : k < q := zgo_lt hz
    refine z_top (y := nI k) (zg_some hz) ?_
    refine z_istore C dX6_valueBelow_7 (Nat.le_of_ble_eq_true rfl) ?_
    refine z_iload C dX6_valueBelow_9 rfl ?_
    refine z_nif_ge_t C 23 dX6_valueBelow_11 (by decide) (by omega) (by trivial) ?_
    refine z_aload_n C 0 dX6_valueBelow_23 rfl rfl ?_
    refine z_iload C dX6_valueBelow_24 rfl ?_
    refine z_sipush C (nI 449) dX6_valueBelow_26 (by decide) ?_
    refine z_callVr C kX6_of gX6_valueBelow_X6_of (mX6_of_V X.2.1 a kp ty pl gd od vU vS vN vX vM vT vB vK vY vZ vR vC vV k (by first | assumption | omega)) dX6_valueBelow_29 [0, 1] [] 0 rfl nd_0_1 rfl rfl rfl (by decide) (by decide) (Nat.le_of_ble_eq_true rfl) rfl ?_
    exact z_iret C N dX6_valueBelow_32 (rfl) (by simp [mVB, hz])

theorem kX6_doSet : zY yX6_doSet wsX6_doSet cX6_doSet 8 (some .int) 4 := ⟨⟨_, rfl⟩, ⟨by decide +kernel, by decide +kernel, by decide +kernel⟩, by decide +kernel⟩
set_option maxHeartbeats 4000000 in
set_option maxRecDepth 100000 in
theorem mX6_doSet_b1 (E : zE) (a : Nat → Nat) (kp ty pl : Nat) (gd : Bool) (od : Nat) (vU vS : Nat → Nat) (vN : Nat → Int32) (vX vM : Nat) (vT : Bool) (vB vK vY vZ vR vC vV : Nat → Int32) (au r c v : Int32) (hO : okM vU vS vM vK) (hx : au < 0 ∨ (¬ au < 0 ∧ nI 4 ≤ au)) : zM E yX6_doSet wsX6_doSet 5 [.ref (a 0), .int au, .int r, .int c, .int v] [((a 0), .inr (6, [.ref (a 1), .ref (a 2), .ref (a 3), .int (nI kp), .int (nI ty), .ref (a 4), .int (nI pl), .int (zb gd), .int (nI od), .ref (a 5)])), ((a 1), .inl (E.2.2.1, 512, .inl (mRow vU vS vN vX vM vT vB vK vY vZ vR vC vV)))] [((a 0), .inr (6, [.ref (a 1), .ref (a 2), .ref (a 3), .int (nI kp), .int (nI ty), .ref (a 4), .int (nI pl), .int (zb gd), .int (nI od), .ref (a 5)])), ((a 1), .inl (E.2.2.1, 512, .inl (mRow vU vS vN vX vM vT vB vK vY vZ vR vC vV)))] (some (.int (-1))) := by
  refine zM.of kX6_doSet (Nat.le_of_ble_eq_true rfl) rfl [some (.ref (a 0)), some (.int au), some (.int r), some (.int c), some (.int v), none, none, none] rfl (Nat.le_of_ble_eq_true rfl) ?_
  intro X eX C N
  subst eX
  obtain ⟨hu0, hu1, hM, hk1, hk2, hk3⟩ := id hO
  refine z_iload_n C 1 dX6_doSet_0 rfl rfl ?_
  refine z_callS C kX6_noAuthor gX6_doSet_X6_noAuthor (mX6_noAuthor_n X.2.1 au hx) dX6_doSet_1 [] rfl (by decide) (by decide) (Nat.le_of_ble_eq_true rfl) rfl ?_
  refine z_bif_ne_t C 25 dX6_doSet_4 (by decide) rfl ?_
  refine z_iconst C (-1) dX6_doSet_25 (by decide) ?_
  exact z_iret C N dX6_doSet_26 (rfl) (rfl)

set_option maxHeartbeats 4000000 in
set_option maxRecDepth 100000 in
theorem mX6_doSet_b2 (E : zE) (a : Nat → Nat) (kp ty pl : Nat) (gd : Bool) (od : Nat) (vU vS : Nat → Nat) (vN : Nat → Int32) (vX vM : Nat) (vT : Bool) (vB vK vY vZ vR vC vV : Nat → Int32) (au : Nat) (r c v : Int32) (hO : okM vU vS vM vK) (hau : au < 4) (hx : r < 0 ∨ (¬ r < 0 ∧ nI (vU 0) ≤ r)) : zM E yX6_doSet wsX6_doSet 5 [.ref (a 0), .int (nI au), .int r, .int c, .int v] [((a 0), .inr (6, [.ref (a 1), .ref (a 2), .ref (a 3), .int (nI kp), .int (nI ty), .ref (a 4), .int (nI pl), .int (zb gd), .int (nI od), .ref (a 5)])), ((a 1), .inl (E.2.2.1, 512, .inl (mRow vU vS vN vX vM vT vB vK vY vZ vR vC vV)))] [((a 0), .inr (6, [.ref (a 1), .ref (a 2), .ref (a 3), .int (nI kp), .int (nI ty), .ref (a 4), .int (nI pl), .int (zb gd), .int (nI od), .ref (a 5)])), ((a 1), .inl (E.2.2.1, 512, .inl (mRow vU vS vN vX vM vT vB vK vY vZ vR vC vV)))] (some (.int (-1))) := by
  refine zM.of kX6_doSet (Nat.le_of_ble_eq_true rfl) rfl [some (.ref (a 0)), some (.int (nI au)), some (.int r), some (.int c), some (.int v), none, none, none] rfl (Nat.le_of_ble_eq_true rfl) ?_
  intro X eX C N
  subst eX
  obtain ⟨hu0, hu1, hM, hk1, hk2, hk3⟩ := id hO
  refine z_iload_n C 1 dX6_doSet_0 rfl rfl ?_
  refine z_callS C kX6_noAuthor gX6_doSet_X6_noAuthor (mX6_noAuthor_y X.2.1 au hau) dX6_doSet_1 [] rfl (by decide) (by decide) (Nat.le_of_ble_eq_true rfl) rfl ?_
  refine z_bif_ne_f C 25 dX6_doSet_4 (by decide) rfl ?_
  refine z_aload_n C 0 dX6_doSet_7 rfl rfl ?_
  refine z_iconst C (nI 0) dX6_doSet_8 (by decide) ?_
  refine z_iload_n C 2 dX6_doSet_9 rfl rfl ?_
  refine z_callVr C kX6_noLine gX6_doSet_X6_noLine (mX6_noLine_0_n X.2.1 a kp ty pl gd od vU vS vN vX vM vT vB vK vY vZ vR vC vV r hO hx) dX6_doSet_10 [0, 1] [] 0 rfl nd_0_1 rfl rfl rfl (by decide) (by decide) (Nat.le_of_ble_eq_true rfl) rfl ?_
  refine z_bif_ne_t C 25 dX6_doSet_13 (by decide) rfl ?_
  refine z_iconst C (-1) dX6_doSet_25 (by decide) ?_
  exact z_iret C N dX6_doSet_26 (rfl) (rfl)

set_option maxHeartbeats 4000000 in
set_option maxRecDepth 100000 in
theorem mX6_doSet_b3 (E : zE) (a : Nat → Nat) (kp ty pl : Nat) (gd : Bool) (od : Nat) (vU vS : Nat → Nat) (vN : Nat → Int32) (vX vM : Nat) (vT : Bool) (vB vK vY vZ vR vC vV : Nat → Int32) (au i : Nat) (c v : Int32) (hO : okM vU vS vM vK) (hau : au < 4) (hi : i < vU 0) (hx : c < 0 ∨ (¬ c < 0 ∧ nI (vU 1) ≤ c)) : zM E yX6_doSet wsX6_doSet 5 [.ref (a 0), .int (nI au), .int (nI i), .int c, .int v] [((a 0), .inr (6, [.ref (a 1), .ref (a 2), .ref (a 3), .int (nI kp), .int (nI ty), .ref (a 4), .int (nI pl), .int (zb gd), .int (nI od), .ref (a 5)])), ((a 1), .inl (E.2.2.1, 512, .inl (mRow vU vS vN vX vM vT vB vK vY vZ vR vC vV)))] [((a 0), .inr (6, [.ref (a 1), .ref (a 2), .ref (a 3), .int (nI kp), .int (nI ty), .ref (a 4), .int (nI pl), .int (zb gd), .int (nI od), .ref (a 5)])), ((a 1), .inl (E.2.2.1, 512, .inl (mRow vU vS vN vX vM vT vB vK vY vZ vR vC vV)))] (some (.int (-1))) := by
  refine zM.of kX6_doSet (Nat.le_of_ble_eq_true rfl) rfl [some (.ref (a 0)), some (.int (nI au)), some (.int (nI i)), some (.int c), some (.int v), none, none, none] rfl (Nat.le_of_ble_eq_true rfl) ?_
  intro X eX C N
  subst eX
  obtain ⟨hu0, hu1, hM, hk1, hk2, hk3⟩ := id hO
  refine z_iload_n C 1 dX6_doSet_0 rfl rfl ?_
  refine z_callS C kX6_noAuthor gX6_doSet_X6_noAuthor (mX6_noAuthor_y X.2.1 au hau) dX6_doSet_1 [] rfl (by decide) (by decide) (Nat.le_of_ble_eq_true rfl) rfl ?_
  refine z_bif_ne_f C 25 dX6_doSet_4 (by decide) rfl ?_
  refine z_aload_n C 0 dX6_doSet_7 rfl rfl ?_
  refine z_iconst C (nI 0) dX6_doSet_8 (by decide) ?_
  refine z_iload_n C 2 dX6_doSet_9 rfl rfl ?_
  refine z_callVr C kX6_noLine gX6_doSet_X6_noLine (mX6_noLine_0_y X.2.1 a kp ty pl gd od vU vS vN vX vM vT vB vK vY vZ vR vC vV i hO hi) dX6_doSet_10 [0, 1] [] 0 rfl nd_0_1 rfl rfl rfl (by decide) (by decide) (Nat.le_of_ble_eq_true rfl) rfl ?_
  refine z_bif_ne_f C 25 dX6_doSet_13 (by decide) rfl ?_
  refine z_aload_n C 0 dX6_doSet_16 rfl rfl ?_
  refine z_iconst C (nI 1) dX6_doSet_17 (by decide) ?_
  refine z_iload_n C 3 dX6_doSet_18 rfl rfl ?_
  refine z_callVr C kX6_noLine gX6_doSet_X6_noLine (mX6_noLine_1_n X.2.1 a kp ty pl gd od vU vS vN vX vM vT vB vK vY vZ vR vC vV c hO hx) dX6_doSet_19 [0, 1] [] 0 rfl nd_0_1 rfl rfl rfl (by decide) (by decide) (Nat.le_of_ble_eq_true rfl) rfl ?_
  refine z_bif_eq_f C 27 dX6_doSet_22 (by decide) rfl ?_
  refine z_iconst C (-1) dX6_doSet_25 (by decide) ?_
  exact z_iret C N dX6_doSet_26 (rfl) (rfl)

set_option maxHeartbeats 4000000 in
set_option maxRecDepth 100000 in
theorem mX6_doSet_b4 (E : zE) (a : Nat → Nat) (kp ty pl : Nat) (gd : Bool) (od : Nat) (vU vS : Nat → Nat) (vN : Nat → Int32) (vX vM : Nat) (vT : Bool) (vB vK vY vZ vR vC vV : Nat → Int32) (au i j : Nat) (v : Int32) (hO : okM vU vS vM vK) (hW : nmM vU vS vN) (hau : au < 4) (hi : i < vU 0) (hj : j < vU 1) (hx : v < 0 ∨ (¬ v < 0 ∧ nI 9999 < v)) : zM E yX6_doSet wsX6_doSet 5 [.ref (a 0), .int (nI au), .int (nI i), .int (nI j), .int v] [((a 0), .inr (6, [.ref (a 1), .ref (a 2), .ref (a 3), .int (nI kp), .int (nI ty), .ref (a 4), .int (nI pl), .int (zb gd), .int (nI od), .ref (a 5)])), ((a 1), .inl (E.2.2.1, 512, .inl (mRow vU vS vN vX vM vT vB vK vY vZ vR vC vV)))] [((a 0), .inr (6, [.ref (a 1), .ref (a 2), .ref (a 3), .int (nI kp), .int (nI ty), .ref (a 4), .int (nI pl), .int (zb gd), .int (nI od), .ref (a 5)])), ((a 1), .inl (E.2.2.1, 512, .inl (mRow vU vS vN vX vM vT vB vK vY vZ vR vC vV)))] (some (.int (-2))) := by
  refine zM.of kX6_doSet (Nat.le_of_ble_eq_true rfl) rfl [some (.ref (a 0)), some (.int (nI au)), some (.int (nI i)), some (.int (nI j)), some (.int v), none, none, none] rfl (Nat.le_of_ble_eq_true rfl) ?_
  intro X eX C N
  subst eX
  obtain ⟨hu0, hu1, hM, hk1, hk2, hk3⟩ := id hO
  refine z_iload_n C 1 dX6_doSet_0 rfl rfl ?_
  refine z_callS C kX6_noAuthor gX6_doSet_X6_noAuthor (mX6_noAuthor_y X.2.1 au hau) dX6_doSet_1 [] rfl (by decide) (by decide) (Nat.le_of_ble_eq_true rfl) rfl ?_
  refine z_bif_ne_f C 25 dX6_doSet_4 (by decide) rfl ?_
  refine z_aload_n C 0 dX6_doSet_7 rfl rfl ?_
  refine z_iconst C (nI 0) dX6_doSet_8 (by decide) ?_
  refine z_iload_n C 2 dX6_doSet_9 rfl rfl ?_
  refine z_callVr C kX6_noLine gX6_doSet_X6_noLine (mX6_noLine_0_y X.2.1 a kp ty pl gd od vU vS vN vX vM vT vB vK vY vZ vR vC vV i hO hi) dX6_doSet_10 [0, 1] [] 0 rfl nd_0_1 rfl rfl rfl (by decide) (by decide) (Nat.le_of_ble_eq_true rfl) rfl ?_
  refine z_bif_ne_f C 25 dX6_doSet_13 (by decide) rfl ?_
  refine z_aload_n C 0 dX6_doSet_16 rfl rfl ?_
  refine z_iconst C (nI 1) dX6_doSet_17 (by decide) ?_
  refine z_iload_n C 3 dX6_doSet_18 rfl rfl ?_
  refine z_callVr C kX6_noLine gX6_doSet_X6_noLine (mX6_noLine_1_y X.2.1 a kp ty pl gd od vU vS vN vX vM vT vB vK vY vZ vR vC vV j hO hj) dX6_doSet_19 [0, 1] [] 0 rfl nd_0_1 rfl rfl rfl (by decide) (by decide) (Nat.le_of_ble_eq_true rfl) rfl ?_
  refine z_bif_eq_t C 27 dX6_doSet_22 (by decide) rfl ?_
  refine z_iload C dX6_doSet_27 rfl ?_
  refine z_iconst C (nI 0) dX6_doSet_29 (by decide) ?_
  refine z_sipush C (nI 9999) dX6_doSet_30 (by decide) ?_
  refine z_callS C kX6_in gX6_doSet_X6_in (mX6_in_n X.2.1 v 9999 hx) dX6_doSet_33 [] rfl (by decide) (by decide) (Nat.le_of_ble_eq_true rfl) rfl ?_
  refine z_bif_ne_f C 42 dX6_doSet_36 (by decide) rfl ?_
  refine z_bipush C (-2) dX6_doSet_39 (by decide) ?_
  exact z_iret C N dX6_doSet_41 (rfl) (rfl)

set_option maxHeartbeats 4000000 in
set_option maxRecDepth 100000 in
theorem mX6_doSet_n1 (E : zE) (a : Nat → Nat) (kp ty pl : Nat) (gd : Bool) (od : Nat) (vU vS : Nat → Nat) (vN : Nat → Int32) (vX vM : Nat) (vT : Bool) (vB vK vY vZ vR vC vV : Nat → Int32) (au i j v : Nat) (hO : okM vU vS vM vK) (hW : nmM vU vS vN) (hau : au < 4) (hi : i < vU 0) (hj : j < vU 1) (hv : v ≤ 9999) (hr : mDm vZ vK vR vC vS vN vM 0 i = true) : zM E yX6_doSet wsX6_doSet 5 [.ref (a 0), .int (nI au), .int (nI i), .int (nI j), .int (nI v)] [((a 0), .inr (6, [.ref (a 1), .ref (a 2), .ref (a 3), .int (nI kp), .int (nI ty), .ref (a 4), .int (nI pl), .int (zb gd), .int (nI od), .ref (a 5)])), ((a 1), .inl (E.2.2.1, 512, .inl (mRow vU vS vN vX vM vT vB vK vY vZ vR vC vV)))] [((a 0), .inr (6, [.ref (a 1), .ref (a 2), .ref (a 3), .int (nI kp), .int (nI ty), .ref (a 4), .int (nI pl), .int (zb gd), .int (nI od), .ref (a 5)])), ((a 1), .inl (E.2.2.1, 512, .inl (mRow vU vS vN vX vM vT vB vK vY vZ vR vC vV)))] (some (.int (-4))) := by
  refine zM.of kX6_doSet (Nat.le_of_ble_eq_true rfl) rfl [some (.ref (a 0)), some (.int (nI au)), some (.int (nI i)), some (.int (nI j)), some (.int (nI v)), none, none, none] rfl (Nat.le_of_ble_eq_true rfl) ?_
  intro X eX C N
  subst eX
  obtain ⟨hu0, hu1, hM, hk1, hk2, hk3⟩ := id hO
  refine z_iload_n C 1 dX6_doSet_0 rfl rfl ?_
  refine z_callS C kX6_noAuthor gX6_doSet_X6_noAuthor (mX6_noAuthor_y X.2.1 au hau) dX6_doSet_1 [] rfl (by decide) (by decide) (Nat.le_of_ble_eq_true rfl) rfl ?_
  refine z_bif_ne_f C 25 dX6_doSet_4 (by decide) rfl ?_
  refine z_aload_n C 0 dX6_doSet_7 rfl rfl ?_
  refine z_iconst C (nI 0) dX6_doSet_8 (by decide) ?_
  refine z_iload_n C 2 dX6_doSet_9 rfl rfl ?_
  refine z_callVr C kX6_noLine gX6_doSet_X6_noLine (mX6_noLine_0_y X.2.1 a kp ty pl gd od vU vS vN vX vM vT vB vK vY vZ vR vC vV i hO hi) dX6_doSet_10 [0, 1] [] 0 rfl nd_0_1 rfl rfl rfl (by decide) (by decide) (Nat.le_of_ble_eq_true rfl) rfl ?_
  refine z_bif_ne_f C 25 dX6_doSet_13 (by decide) rfl ?_
  refine z_aload_n C 0 dX6_doSet_16 rfl rfl ?_
  refine z_iconst C (nI 1) dX6_doSet_17 (by decide) ?_
  refine z_iload_n C 3 dX6_doSet_18 rfl rfl ?_
  refine z_callVr C kX6_noLine gX6_doSet_X6_noLine (mX6_noLine_1_y X.2.1 a kp ty pl gd od vU vS vN vX vM vT vB vK vY vZ vR vC vV j hO hj) dX6_doSet_19 [0, 1] [] 0 rfl nd_0_1 rfl rfl rfl (by decide) (by decide) (Nat.le_of_ble_eq_true rfl) rfl ?_
  refine z_bif_eq_t C 27 dX6_doSet_22 (by decide) rfl ?_
  refine z_iload C dX6_doSet_27 rfl ?_
  refine z_iconst C (nI 0) dX6_doSet_29 (by decide) ?_
  refine z_sipush C (nI 9999) dX6_doSet_30 (by decide) ?_
  refine z_callS C kX6_in gX6_doSet_X6_in (mX6_in_y X.2.1 v 9999 hv (by first | assumption | omega)) dX6_doSet_33 [] rfl (by decide) (by decide) (Nat.le_of_ble_eq_true rfl) rfl ?_
  refine z_bif_ne_t C 42 dX6_doSet_36 (by decide) rfl ?_
  refine z_aload_n C 0 dX6_doSet_42 rfl rfl ?_
  refine z_iconst C (nI 0) dX6_doSet_43 (by decide) ?_
  refine z_iload_n C 2 dX6_doSet_44 rfl rfl ?_
  refine z_callVr C kX6_nameAt gX6_doSet_X6_nameAt (mX6_nameAt_0 X.2.1 a kp ty pl gd od vU vS vN vX vM vT vB vK vY vZ vR vC vV i hO (by first | assumption | omega)) dX6_doSet_45 [0, 1] [] 0 rfl nd_0_1 rfl rfl rfl (by decide) (by decide) (Nat.le_of_ble_eq_true rfl) rfl ?_
  refine z_istore C dX6_doSet_48 (Nat.le_of_ble_eq_true rfl) ?_
  refine z_aload_n C 0 dX6_doSet_50 rfl rfl ?_
  refine z_iconst C (nI 1) dX6_doSet_51 (by decide) ?_
  refine z_iload_n C 3 dX6_doSet_52 rfl rfl ?_
  refine z_callVr C kX6_nameAt gX6_doSet_X6_nameAt (mX6_nameAt_1 X.2.1 a kp ty pl gd od vU vS vN vX vM vT vB vK vY vZ vR vC vV j hO (by first | assumption | omega)) dX6_doSet_53 [0, 1] [] 0 rfl nd_0_1 rfl rfl rfl (by decide) (by decide) (Nat.le_of_ble_eq_true rfl) rfl ?_
  refine z_istore C dX6_doSet_56 (Nat.le_of_ble_eq_true rfl) ?_
  refine z_aload_n C 0 dX6_doSet_58 rfl rfl ?_
  refine z_iconst C (nI 0) dX6_doSet_59 (by decide) ?_
  refine z_iload_n C 2 dX6_doSet_60 rfl rfl ?_
  refine z_callVr C kX6_isDoomed gX6_doSet_X6_isDoomed (mX6_isDoomed_0 X.2.1 a kp ty pl gd od vU vS vN vX vM vT vB vK vY vZ vR vC vV i hO (by first | assumption | omega)) dX6_doSet_61 [0, 1] [] 0 rfl nd_0_1 rfl rfl rfl (by decide) (by decide) (Nat.le_of_ble_eq_true rfl) rfl ?_
  refine z_bif_ne_t C 96 dX6_doSet_64 (by decide) hr ?_
  refine z_bipush C (-4) dX6_doSet_96 (by decide) ?_
  exact z_iret C N dX6_doSet_98 (rfl) (rfl)

set_option maxHeartbeats 4000000 in
set_option maxRecDepth 100000 in
theorem mX6_doSet_n2 (E : zE) (a : Nat → Nat) (kp ty pl : Nat) (gd : Bool) (od : Nat) (vU vS : Nat → Nat) (vN : Nat → Int32) (vX vM : Nat) (vT : Bool) (vB vK vY vZ vR vC vV : Nat → Int32) (au i j v : Nat) (hO : okM vU vS vM vK) (hW : nmM vU vS vN) (hau : au < 4) (hi : i < vU 0) (hj : j < vU 1) (hv : v ≤ 9999) (hr : mDm vZ vK vR vC vS vN vM 0 i = false) (hc : mDm vZ vK vR vC vS vN vM 1 j = true) : zM E yX6_doSet wsX6_doSet 5 [.ref (a 0), .int (nI au), .int (nI i), .int (nI j), .int (nI v)] [((a 0), .inr (6, [.ref (a 1), .ref (a 2), .ref (a 3), .int (nI kp), .int (nI ty), .ref (a 4), .int (nI pl), .int (zb gd), .int (nI od), .ref (a 5)])), ((a 1), .inl (E.2.2.1, 512, .inl (mRow vU vS vN vX vM vT vB vK vY vZ vR vC vV)))] [((a 0), .inr (6, [.ref (a 1), .ref (a 2), .ref (a 3), .int (nI kp), .int (nI ty), .ref (a 4), .int (nI pl), .int (zb gd), .int (nI od), .ref (a 5)])), ((a 1), .inl (E.2.2.1, 512, .inl (mRow vU vS vN vX vM vT vB vK vY vZ vR vC vV)))] (some (.int (-4))) := by
  refine zM.of kX6_doSet (Nat.le_of_ble_eq_true rfl) rfl [some (.ref (a 0)), some (.int (nI au)), some (.int (nI i)), some (.int (nI j)), some (.int (nI v)), none, none, none] rfl (Nat.le_of_ble_eq_true rfl) ?_
  intro X eX C N
  subst eX
  obtain ⟨hu0, hu1, hM, hk1, hk2, hk3⟩ := id hO
  refine z_iload_n C 1 dX6_doSet_0 rfl rfl ?_
  refine z_callS C kX6_noAuthor gX6_doSet_X6_noAuthor (mX6_noAuthor_y X.2.1 au hau) dX6_doSet_1 [] rfl (by decide) (by decide) (Nat.le_of_ble_eq_true rfl) rfl ?_
  refine z_bif_ne_f C 25 dX6_doSet_4 (by decide) rfl ?_
  refine z_aload_n C 0 dX6_doSet_7 rfl rfl ?_
  refine z_iconst C (nI 0) dX6_doSet_8 (by decide) ?_
  refine z_iload_n C 2 dX6_doSet_9 rfl rfl ?_
  refine z_callVr C kX6_noLine gX6_doSet_X6_noLine (mX6_noLine_0_y X.2.1 a kp ty pl gd od vU vS vN vX vM vT vB vK vY vZ vR vC vV i hO hi) dX6_doSet_10 [0, 1] [] 0 rfl nd_0_1 rfl rfl rfl (by decide) (by decide) (Nat.le_of_ble_eq_true rfl) rfl ?_
  refine z_bif_ne_f C 25 dX6_doSet_13 (by decide) rfl ?_
  refine z_aload_n C 0 dX6_doSet_16 rfl rfl ?_
  refine z_iconst C (nI 1) dX6_doSet_17 (by decide) ?_
  refine z_iload_n C 3 dX6_doSet_18 rfl rfl ?_
  refine z_callVr C kX6_noLine gX6_doSet_X6_noLine (mX6_noLine_1_y X.2.1 a kp ty pl gd od vU vS vN vX vM vT vB vK vY vZ vR vC vV j hO hj) dX6_doSet_19 [0, 1] [] 0 rfl nd_0_1 rfl rfl rfl (by decide) (by decide) (Nat.le_of_ble_eq_true rfl) rfl ?_
  refine z_bif_eq_t C 27 dX6_doSet_22 (by decide) rfl ?_
  refine z_iload C dX6_doSet_27 rfl ?_
  refine z_iconst C (nI 0) dX6_doSet_29 (by decide) ?_
  refine z_sipush C (nI 9999) dX6_doSet_30 (by decide) ?_
  refine z_callS C kX6_in gX6_doSet_X6_in (mX6_in_y X.2.1 v 9999 hv (by first | assumption | omega)) dX6_doSet_33 [] rfl (by decide) (by decide) (Nat.le_of_ble_eq_true rfl) rfl ?_
  refine z_bif_ne_t C 42 dX6_doSet_36 (by decide) rfl ?_
  refine z_aload_n C 0 dX6_doSet_42 rfl rfl ?_
  refine z_iconst C (nI 0) dX6_doSet_43 (by decide) ?_
  refine z_iload_n C 2 dX6_doSet_44 rfl rfl ?_
  refine z_callVr C kX6_nameAt gX6_doSet_X6_nameAt (mX6_nameAt_0 X.2.1 a kp ty pl gd od vU vS vN vX vM vT vB vK vY vZ vR vC vV i hO (by first | assumption | omega)) dX6_doSet_45 [0, 1] [] 0 rfl nd_0_1 rfl rfl rfl (by decide) (by decide) (Nat.le_of_ble_eq_true rfl) rfl ?_
  refine z_istore C dX6_doSet_48 (Nat.le_of_ble_eq_true rfl) ?_
  refine z_aload_n C 0 dX6_doSet_50 rfl rfl ?_
  refine z_iconst C (nI 1) dX6_doSet_51 (by decide) ?_
  refine z_iload_n C 3 dX6_doSet_52 rfl rfl ?_
  refine z_callVr C kX6_nameAt gX6_doSet_X6_nameAt (mX6_nameAt_1 X.2.1 a kp ty pl gd od vU vS vN vX vM vT vB vK vY vZ vR vC vV j hO (by first | assumption | omega)) dX6_doSet_53 [0, 1] [] 0 rfl nd_0_1 rfl rfl rfl (by decide) (by decide) (Nat.le_of_ble_eq_true rfl) rfl ?_
  refine z_istore C dX6_doSet_56 (Nat.le_of_ble_eq_true rfl) ?_
  refine z_aload_n C 0 dX6_doSet_58 rfl rfl ?_
  refine z_iconst C (nI 0) dX6_doSet_59 (by decide) ?_
  refine z_iload_n C 2 dX6_doSet_60 rfl rfl ?_
  refine z_callVr C kX6_isDoomed gX6_doSet_X6_isDoomed (mX6_isDoomed_0 X.2.1 a kp ty pl gd od vU vS vN vX vM vT vB vK vY vZ vR vC vV i hO (by first | assumption | omega)) dX6_doSet_61 [0, 1] [] 0 rfl nd_0_1 rfl rfl rfl (by decide) (by decide) (Nat.le_of_ble_eq_true rfl) rfl ?_
  refine z_bif_ne_f C 96 dX6_doSet_64 (by decide) hr ?_
  refine z_aload_n C 0 dX6_doSet_67 rfl rfl ?_
  refine z_iconst C (nI 1) dX6_doSet_68 (by decide) ?_
  refine z_iload_n C 3 dX6_doSet_69 rfl rfl ?_
  refine z_callVr C kX6_isDoomed gX6_doSet_X6_isDoomed (mX6_isDoomed_1 X.2.1 a kp ty pl gd od vU vS vN vX vM vT vB vK vY vZ vR vC vV j hO (by first | assumption | omega)) dX6_doSet_70 [0, 1] [] 0 rfl nd_0_1 rfl rfl rfl (by decide) (by decide) (Nat.le_of_ble_eq_true rfl) rfl ?_
  refine z_bif_ne_t C 96 dX6_doSet_73 (by decide) hc ?_
  refine z_bipush C (-4) dX6_doSet_96 (by decide) ?_
  exact z_iret C N dX6_doSet_98 (rfl) (rfl)

theorem fX6_doSet_7 : zF wsX6_doSet RX6 7 6 0 RX6 TX6 10 := ⟨by decide +kernel, rfl, by decide, by decide +kernel, rfl⟩
set_option maxHeartbeats 4000000 in
set_option maxRecDepth 100000 in
theorem mX6_doSet_n3 (E : zE) (a : Nat → Nat) (kp ty pl : Nat) (gd : Bool) (od : Nat) (vU vS : Nat → Nat) (vN : Nat → Int32) (vX vM : Nat) (vT : Bool) (vB vK vY vZ vR vC vV : Nat → Int32) (au i j v : Nat) (hO : okM vU vS vM vK) (hW : nmM vU vS vN) (hau : au < 4) (hi : i < vU 0) (hj : j < vU 1) (hv : v ≤ 9999) (hr : mDm vZ vK vR vC vS vN vM 0 i = false) (hc : mDm vZ vK vR vC vS vN vM 1 j = false) (he : mVB vZ vK vR vC vB vS vV (vM) (mN vS vN 0 i) (mN vS vN 1 j) i j = nI v) : zM E yX6_doSet wsX6_doSet 5 [.ref (a 0), .int (nI au), .int (nI i), .int (nI j), .int (nI v)] [((a 0), .inr (6, [.ref (a 1), .ref (a 2), .ref (a 3), .int (nI kp), .int (nI ty), .ref (a 4), .int (nI pl), .int (zb gd), .int (nI od), .ref (a 5)])), ((a 1), .inl (E.2.2.1, 512, .inl (mRow vU vS vN vX vM vT vB vK vY vZ vR vC vV)))] [((a 0), .inr (6, [.ref (a 1), .ref (a 2), .ref (a 3), .int (nI kp), .int (nI ty), .ref (a 4), .int (nI pl), .int (zb gd), .int (nI od), .ref (a 5)])), ((a 1), .inl (E.2.2.1, 512, .inl (mRow vU vS vN vX vM vT vB vK vY vZ vR vC vV)))] (some (.int (-4))) := by
  refine zM.of kX6_doSet (Nat.le_of_ble_eq_true rfl) rfl [some (.ref (a 0)), some (.int (nI au)), some (.int (nI i)), some (.int (nI j)), some (.int (nI v)), none, none, none] rfl (Nat.le_of_ble_eq_true rfl) ?_
  intro X eX C N
  subst eX
  obtain ⟨hu0, hu1, hM, hk1, hk2, hk3⟩ := id hO
  refine z_iload_n C 1 dX6_doSet_0 rfl rfl ?_
  refine z_callS C kX6_noAuthor gX6_doSet_X6_noAuthor (mX6_noAuthor_y X.2.1 au hau) dX6_doSet_1 [] rfl (by decide) (by decide) (Nat.le_of_ble_eq_true rfl) rfl ?_
  refine z_bif_ne_f C 25 dX6_doSet_4 (by decide) rfl ?_
  refine z_aload_n C 0 dX6_doSet_7 rfl rfl ?_
  refine z_iconst C (nI 0) dX6_doSet_8 (by decide) ?_
  refine z_iload_n C 2 dX6_doSet_9 rfl rfl ?_
  refine z_callVr C kX6_noLine gX6_doSet_X6_noLine (mX6_noLine_0_y X.2.1 a kp ty pl gd od vU vS vN vX vM vT vB vK vY vZ vR vC vV i hO hi) dX6_doSet_10 [0, 1] [] 0 rfl nd_0_1 rfl rfl rfl (by decide) (by decide) (Nat.le_of_ble_eq_true rfl) rfl ?_
  refine z_bif_ne_f C 25 dX6_doSet_13 (by decide) rfl ?_
  refine z_aload_n C 0 dX6_doSet_16 rfl rfl ?_
  refine z_iconst C (nI 1) dX6_doSet_17 (by decide) ?_
  refine z_iload_n C 3 dX6_doSet_18 rfl rfl ?_
  refine z_callVr C kX6_noLine gX6_doSet_X6_noLine (mX6_noLine_1_y X.2.1 a kp ty pl gd od vU vS vN vX vM vT vB vK vY vZ vR vC vV j hO hj) dX6_doSet_19 [0, 1] [] 0 rfl nd_0_1 rfl rfl rfl (by decide) (by decide) (Nat.le_of_ble_eq_true rfl) rfl ?_
  refine z_bif_eq_t C 27 dX6_doSet_22 (by decide) rfl ?_
  refine z_iload C dX6_doSet_27 rfl ?_
  refine z_iconst C (nI 0) dX6_doSet_29 (by decide) ?_
  refine z_sipush C (nI 9999) dX6_doSet_30 (by decide) ?_
  refine z_callS C kX6_in gX6_doSet_X6_in (mX6_in_y X.2.1 v 9999 hv (by first | assumption | omega)) dX6_doSet_33 [] rfl (by decide) (by decide) (Nat.le_of_ble_eq_true rfl) rfl ?_
  refine z_bif_ne_t C 42 dX6_doSet_36 (by decide) rfl ?_
  refine z_aload_n C 0 dX6_doSet_42 rfl rfl ?_
  refine z_iconst C (nI 0) dX6_doSet_43 (by decide) ?_
  refine z_iload_n C 2 dX6_doSet_44 rfl rfl ?_
  refine z_callVr C kX6_nameAt gX6_doSet_X6_nameAt (mX6_nameAt_0 X.2.1 a kp ty pl gd od vU vS vN vX vM vT vB vK vY vZ vR vC vV i hO (by first | assumption | omega)) dX6_doSet_45 [0, 1] [] 0 rfl nd_0_1 rfl rfl rfl (by decide) (by decide) (Nat.le_of_ble_eq_true rfl) rfl ?_
  refine z_istore C dX6_doSet_48 (Nat.le_of_ble_eq_true rfl) ?_
  refine z_aload_n C 0 dX6_doSet_50 rfl rfl ?_
  refine z_iconst C (nI 1) dX6_doSet_51 (by decide) ?_
  refine z_iload_n C 3 dX6_doSet_52 rfl rfl ?_
  refine z_callVr C kX6_nameAt gX6_doSet_X6_nameAt (mX6_nameAt_1 X.2.1 a kp ty pl gd od vU vS vN vX vM vT vB vK vY vZ vR vC vV j hO (by first | assumption | omega)) dX6_doSet_53 [0, 1] [] 0 rfl nd_0_1 rfl rfl rfl (by decide) (by decide) (Nat.le_of_ble_eq_true rfl) rfl ?_
  refine z_istore C dX6_doSet_56 (Nat.le_of_ble_eq_true rfl) ?_
  refine z_aload_n C 0 dX6_doSet_58 rfl rfl ?_
  refine z_iconst C (nI 0) dX6_doSet_59 (by decide) ?_
  refine z_iload_n C 2 dX6_doSet_60 rfl rfl ?_
  refine z_callVr C kX6_isDoomed gX6_doSet_X6_isDoomed (mX6_isDoomed_0 X.2.1 a kp ty pl gd od vU vS vN vX vM vT vB vK vY vZ vR vC vV i hO (by first | assumption | omega)) dX6_doSet_61 [0, 1] [] 0 rfl nd_0_1 rfl rfl rfl (by decide) (by decide) (Nat.le_of_ble_eq_true rfl) rfl ?_
  refine z_bif_ne_f C 96 dX6_doSet_64 (by decide) hr ?_
  refine z_aload_n C 0 dX6_doSet_67 rfl rfl ?_
  refine z_iconst C (nI 1) dX6_doSet_68 (by decide) ?_
  refine z_iload_n C 3 dX6_doSet_69 rfl rfl ?_
  refine z_callVr C kX6_isDoomed gX6_doSet_X6_isDoomed (mX6_isDoomed_1 X.2.1 a kp ty pl gd od vU vS vN vX vM vT vB vK vY vZ vR vC vV j hO (by first | assumption | omega)) dX6_doSet_70 [0, 1] [] 0 rfl nd_0_1 rfl rfl rfl (by decide) (by decide) (Nat.le_of_ble_eq_true rfl) rfl ?_
  refine z_bif_ne_f C 96 dX6_doSet_73 (by decide) hc ?_
  refine z_aload_n C 0 dX6_doSet_76 rfl rfl ?_
  refine z_aload_n C 0 dX6_doSet_77 rfl rfl ?_
  refine z_get C fX6_doSet_7 0 dX6_doSet_78 rfl rfl ?_
  refine z_bipush C (nI 51) dX6_doSet_81 (by decide) ?_
  refine z_ialdN C 1 dX6_doSet_83 rfl (by omega) (by decide) ?_
  refine z_top (y := nI (vM)) (zMr_M) ?_
  refine z_iload C dX6_doSet_84 rfl ?_
  refine z_iload C dX6_doSet_86 rfl ?_
  refine z_callVr C kX6_valueBelow gX6_doSet_X6_valueBelow (mX6_valueBelow X.2.1 a kp ty pl gd od vU vS vN vX vM vT vB vK vY vZ vR vC vV (vM) (mN vS vN 0 i) (mN vS vN 1 j) i j hO hM (mPl_0 hW hO hi) (hi) (mPl_1 hW hO hj) (hj)) dX6_doSet_88 [0, 1] [] 0 rfl nd_0_1 rfl rfl rfl (by decide) (by decide) (Nat.le_of_ble_eq_true rfl) rfl ?_
  refine z_iload C dX6_doSet_91 rfl ?_
  refine z_icmp_ne_f C 99 dX6_doSet_93 (by decide) he ?_
  refine z_bipush C (-4) dX6_doSet_96 (by decide) ?_
  exact z_iret C N dX6_doSet_98 (rfl) (rfl)

set_option maxHeartbeats 4000000 in
set_option maxRecDepth 100000 in
theorem mX6_doSet_u (E : zE) (a : Nat → Nat) (kp ty pl : Nat) (gd : Bool) (od : Nat) (vU vS : Nat → Nat) (vN : Nat → Int32) (vX vM : Nat) (vT : Bool) (vB vK vY vZ vR vC vV : Nat → Int32) (au i j v : Nat) (hO : okM vU vS vM vK) (hW : nmM vU vS vN) (hau : au < 4) (hi : i < vU 0) (hj : j < vU 1) (hv : v ≤ 9999) (hr : mDm vZ vK vR vC vS vN vM 0 i = false) (hc : mDm vZ vK vR vC vS vN vM 1 j = false) (he : ¬ mVB vZ vK vR vC vB vS vV (vM) (mN vS vN 0 i) (mN vS vN 1 j) i j = nI v) (ht : vT = false) : zM E yX6_doSet wsX6_doSet 5 [.ref (a 0), .int (nI au), .int (nI i), .int (nI j), .int (nI v)] [((a 0), .inr (6, [.ref (a 1), .ref (a 2), .ref (a 3), .int (nI kp), .int (nI ty), .ref (a 4), .int (nI pl), .int (zb gd), .int (nI od), .ref (a 5)])), ((a 1), .inl (E.2.2.1, 512, .inl (mRow vU vS vN vX vM vT vB vK vY vZ vR vC vV)))] [((a 0), .inr (6, [.ref (a 1), .ref (a 2), .ref (a 3), .int (nI kp), .int (nI ty), .ref (a 4), .int (nI pl), .int (zb gd), .int (nI od), .ref (a 5)])), ((a 1), .inl (E.2.2.1, 512, .inl (mRow vU vS vN vX vM vT (upd vB (8 * mS vS 0 i + mS vS 1 j) (nI v)) vK vY (mMk (vZ) (mSt vZ vK vR vC (mN vS vN 0 i) (mN vS vN 1 j)) (nI 3) (vM)) vR vC vV)))] (some (.int (nI 1000))) := by
  refine zM.of kX6_doSet (Nat.le_of_ble_eq_true rfl) rfl [some (.ref (a 0)), some (.int (nI au)), some (.int (nI i)), some (.int (nI j)), some (.int (nI v)), none, none, none] rfl (Nat.le_of_ble_eq_true rfl) ?_
  intro X eX C N
  subst eX
  obtain ⟨hu0, hu1, hM, hk1, hk2, hk3⟩ := id hO
  refine z_iload_n C 1 dX6_doSet_0 rfl rfl ?_
  refine z_callS C kX6_noAuthor gX6_doSet_X6_noAuthor (mX6_noAuthor_y X.2.1 au hau) dX6_doSet_1 [] rfl (by decide) (by decide) (Nat.le_of_ble_eq_true rfl) rfl ?_
  refine z_bif_ne_f C 25 dX6_doSet_4 (by decide) rfl ?_
  refine z_aload_n C 0 dX6_doSet_7 rfl rfl ?_
  refine z_iconst C (nI 0) dX6_doSet_8 (by decide) ?_
  refine z_iload_n C 2 dX6_doSet_9 rfl rfl ?_
  refine z_callVr C kX6_noLine gX6_doSet_X6_noLine (mX6_noLine_0_y X.2.1 a kp ty pl gd od vU vS vN vX vM vT vB vK vY vZ vR vC vV i hO hi) dX6_doSet_10 [0, 1] [] 0 rfl nd_0_1 rfl rfl rfl (by decide) (by decide) (Nat.le_of_ble_eq_true rfl) rfl ?_
  refine z_bif_ne_f C 25 dX6_doSet_13 (by decide) rfl ?_
  refine z_aload_n C 0 dX6_doSet_16 rfl rfl ?_
  refine z_iconst C (nI 1) dX6_doSet_17 (by decide) ?_
  refine z_iload_n C 3 dX6_doSet_18 rfl rfl ?_
  refine z_callVr C kX6_noLine gX6_doSet_X6_noLine (mX6_noLine_1_y X.2.1 a kp ty pl gd od vU vS vN vX vM vT vB vK vY vZ vR vC vV j hO hj) dX6_doSet_19 [0, 1] [] 0 rfl nd_0_1 rfl rfl rfl (by decide) (by decide) (Nat.le_of_ble_eq_true rfl) rfl ?_
  refine z_bif_eq_t C 27 dX6_doSet_22 (by decide) rfl ?_
  refine z_iload C dX6_doSet_27 rfl ?_
  refine z_iconst C (nI 0) dX6_doSet_29 (by decide) ?_
  refine z_sipush C (nI 9999) dX6_doSet_30 (by decide) ?_
  refine z_callS C kX6_in gX6_doSet_X6_in (mX6_in_y X.2.1 v 9999 hv (by first | assumption | omega)) dX6_doSet_33 [] rfl (by decide) (by decide) (Nat.le_of_ble_eq_true rfl) rfl ?_
  refine z_bif_ne_t C 42 dX6_doSet_36 (by decide) rfl ?_
  refine z_aload_n C 0 dX6_doSet_42 rfl rfl ?_
  refine z_iconst C (nI 0) dX6_doSet_43 (by decide) ?_
  refine z_iload_n C 2 dX6_doSet_44 rfl rfl ?_
  refine z_callVr C kX6_nameAt gX6_doSet_X6_nameAt (mX6_nameAt_0 X.2.1 a kp ty pl gd od vU vS vN vX vM vT vB vK vY vZ vR vC vV i hO (by first | assumption | omega)) dX6_doSet_45 [0, 1] [] 0 rfl nd_0_1 rfl rfl rfl (by decide) (by decide) (Nat.le_of_ble_eq_true rfl) rfl ?_
  refine z_istore C dX6_doSet_48 (Nat.le_of_ble_eq_true rfl) ?_
  refine z_aload_n C 0 dX6_doSet_50 rfl rfl ?_
  refine z_iconst C (nI 1) dX6_doSet_51 (by decide) ?_
  refine z_iload_n C 3 dX6_doSet_52 rfl rfl ?_
  refine z_callVr C kX6_nameAt gX6_doSet_X6_nameAt (mX6_nameAt_1 X.2.1 a kp ty pl gd od vU vS vN vX vM vT vB vK vY vZ vR vC vV j hO (by first | assumption | omega)) dX6_doSet_53 [0, 1] [] 0 rfl nd_0_1 rfl rfl rfl (by decide) (by decide) (Nat.le_of_ble_eq_true rfl) rfl ?_
  refine z_istore C dX6_doSet_56 (Nat.le_of_ble_eq_true rfl) ?_
  refine z_aload_n C 0 dX6_doSet_58 rfl rfl ?_
  refine z_iconst C (nI 0) dX6_doSet_59 (by decide) ?_
  refine z_iload_n C 2 dX6_doSet_60 rfl rfl ?_
  refine z_callVr C kX6_isDoomed gX6_doSet_X6_isDoomed (mX6_isDoomed_0 X.2.1 a kp ty pl gd od vU vS vN vX vM vT vB vK vY vZ vR vC vV i hO (by first | assumption | omega)) dX6_doSet_61 [0, 1] [] 0 rfl nd_0_1 rfl rfl rfl (by decide) (by decide) (Nat.le_of_ble_eq_true rfl) rfl ?_
  refine z_bif_ne_f C 96 dX6_doSet_64 (by decide) hr ?_
  refine z_aload_n C 0 dX6_doSet_67 rfl rfl ?_
  refine z_iconst C (nI 1) dX6_doSet_68 (by decide) ?_
  refine z_iload_n C 3 dX6_doSet_69 rfl rfl ?_
  refine z_callVr C kX6_isDoomed gX6_doSet_X6_isDoomed (mX6_isDoomed_1 X.2.1 a kp ty pl gd od vU vS vN vX vM vT vB vK vY vZ vR vC vV j hO (by first | assumption | omega)) dX6_doSet_70 [0, 1] [] 0 rfl nd_0_1 rfl rfl rfl (by decide) (by decide) (Nat.le_of_ble_eq_true rfl) rfl ?_
  refine z_bif_ne_f C 96 dX6_doSet_73 (by decide) hc ?_
  refine z_aload_n C 0 dX6_doSet_76 rfl rfl ?_
  refine z_aload_n C 0 dX6_doSet_77 rfl rfl ?_
  refine z_get C fX6_doSet_7 0 dX6_doSet_78 rfl rfl ?_
  refine z_bipush C (nI 51) dX6_doSet_81 (by decide) ?_
  refine z_ialdN C 1 dX6_doSet_83 rfl (by omega) (by decide) ?_
  refine z_top (y := nI (vM)) (zMr_M) ?_
  refine z_iload C dX6_doSet_84 rfl ?_
  refine z_iload C dX6_doSet_86 rfl ?_
  refine z_callVr C kX6_valueBelow gX6_doSet_X6_valueBelow (mX6_valueBelow X.2.1 a kp ty pl gd od vU vS vN vX vM vT vB vK vY vZ vR vC vV (vM) (mN vS vN 0 i) (mN vS vN 1 j) i j hO hM (mPl_0 hW hO hi) (hi) (mPl_1 hW hO hj) (hj)) dX6_doSet_88 [0, 1] [] 0 rfl nd_0_1 rfl rfl rfl (by decide) (by decide) (Nat.le_of_ble_eq_true rfl) rfl ?_
  refine z_iload C dX6_doSet_91 rfl ?_
  refine z_icmp_ne_t C 99 dX6_doSet_93 (by decide) he ?_
  refine z_aload_n C 0 dX6_doSet_99 rfl rfl ?_
  refine z_callVr C kX6_isTracked gX6_doSet_X6_isTracked (mX6_isTracked X.2.1 a kp ty pl gd od vU vS vN vX vM vT vB vK vY vZ vR vC vV ) dX6_doSet_100 [0, 1] [] 0 rfl nd_0_1 rfl rfl rfl (by decide) (by decide) (Nat.le_of_ble_eq_true rfl) rfl ?_
  refine z_bif_ne_f C 183 dX6_doSet_103 (by decide) ht ?_
  refine z_iconst C (nI 0) dX6_doSet_106 (by decide) ?_
  refine z_istore C dX6_doSet_107 (Nat.le_of_ble_eq_true rfl) ?_
  have hL109 : ∀ (dd : Nat) (k : Nat) (z' : Nat → Int32), vM - k = dd → (k ≤ vM) → (z' = mMk (vZ) (mSt vZ vK vR vC (mN vS vN 0 i) (mN vS vN 1 j)) (nI 3) k) → zG X 0 0 [((a 0), .inr (6, [.ref (a 1), .ref (a 2), .ref (a 3), .int (nI kp), .int (nI ty), .ref (a 4), .int (nI pl), .int (zb gd), .int (nI od), .ref (a 5)])), ((a 1), .inl (X.2.1.2.2.1, 512, .inl (mRow vU vS vN vX vM vT vB vK vY z' vR vC vV)))] [some (.ref (a 0)), some (.int (nI au)), some (.int (nI i)), some (.int (nI j)), some (.int (nI v)), some (.int (mN vS vN 0 i)), some (.int (mN vS vN 1 j)), some (.int (nI k))] [] 109 := by
    intro dd
    induction dd using Nat.strongRecOn with
    | _ dd ih109 =>
    intro k z' hdd hk hz
    refine z_iload C dX6_doSet_109 rfl ?_
    refine z_aload_n C 0 dX6_doSet_111 rfl rfl ?_
    refine z_get C fX6_doSet_7 0 dX6_doSet_112 rfl rfl ?_
    refine z_bipush C (nI 51) dX6_doSet_115 (by decide) ?_
    refine z_ialdN C 1 dX6_doSet_117 rfl (by omega) (by decide) ?_
    refine z_top (y := nI (vM)) (zMr_M) ?_
    refine z_ncmp_ge C 166 dX6_doSet_118 (by decide) (by omega) (by omega) (fun h_1 => ?_) (fun h_1 => ?_)
    · refine z_aload_n C 0 dX6_doSet_166 rfl rfl ?_
      refine z_get C fX6_doSet_7 0 dX6_doSet_167 rfl rfl ?_
      refine z_aload_n C 0 dX6_doSet_170 rfl rfl ?_
      refine z_iload_n C 2 dX6_doSet_171 rfl rfl ?_
      refine z_iload_n C 3 dX6_doSet_172 rfl rfl ?_
      refine z_callVr C kX6_baseAt gX6_doSet_X6_baseAt (mX6_baseAt_0 X.2.1 a kp ty pl gd od vU vS vN vX vM vT vB vK vY z' vR vC vV i j hO (by first | assumption | omega) (by first | assumption | omega)) dX6_doSet_173 [0, 1] [.ref (a 1)] 0 rfl nd_0_1 rfl rfl rfl (by decide) (by decide) (Nat.le_of_ble_eq_true rfl) rfl ?_
      refine z_top (y := nI (53 + 8 * mS vS 0 i + mS vS 1 j)) rfl ?_
      have hg_2 : mS vS 0 i < 12 := okM_r (by assumption) _
      have hg_3 : mS vS 1 j < 8 := okM_c (by assumption) _
      refine z_iload C dX6_doSet_176 rfl ?_
      refine z_iastR C 1 dX6_doSet_178 rfl (by omega) (by decide) (f' := mRow vU vS vN vX vM vT (upd (vB) (8 * mS vS 0 i + mS vS 1 j) (nI v)) vK vY z' vR vC vV) ((congrArg (fun i9 => upd (mRow vU vS vN vX vM vT vB vK vY z' vR vC vV) i9 (nI v)) (show 53 + 8 * mS vS 0 i + mS vS 1 j = 53 + (8 * mS vS 0 i + mS vS 1 j) by omega)).trans (zMw_B (by omega))) ?_
      refine z_sipush C (nI 1000) dX6_doSet_179 (by decide) ?_
      exact z_iret C N dX6_doSet_182 (by rw [hz, show k = vM by omega] <;> rfl) (rfl)
    · refine z_aload_n C 0 dX6_doSet_121 rfl rfl ?_
      refine z_get C fX6_doSet_7 0 dX6_doSet_122 rfl rfl ?_
      refine z_sipush C (nI 269) dX6_doSet_125 (by decide) ?_
      refine z_iload C dX6_doSet_128 rfl ?_
      refine z_iadd C dX6_doSet_130 ?_
      refine z_top (y := nI (269 + k)) (nI_add _ _) ?_
      refine z_aload_n C 0 dX6_doSet_131 rfl rfl ?_
      refine z_iload C dX6_doSet_132 rfl ?_
      refine z_iload C dX6_doSet_134 rfl ?_
      refine z_iload C dX6_doSet_136 rfl ?_
      refine z_callVr C kX6_isSettingOf gX6_doSet_X6_isSettingOf (mX6_isSettingOf X.2.1 a kp ty pl gd od vU vS vN vX vM vT vB vK vY z' vR vC vV k (mN vS vN 0 i) (mN vS vN 1 j) (by first | assumption | omega)) dX6_doSet_138 [0, 1] [.int (nI (269 + k)), .ref (a 1)] 0 rfl nd_0_1 rfl rfl rfl (by decide) (by decide) (Nat.le_of_ble_eq_true rfl) rfl ?_
      refine z_bif_eq C 148 dX6_doSet_141 (by decide) (fun h_4 => ?_) (fun h_4 => ?_)
      · refine z_aload_n C 0 dX6_doSet_148 rfl rfl ?_
        refine z_get C fX6_doSet_7 0 dX6_doSet_149 rfl rfl ?_
        refine z_sipush C (nI 269) dX6_doSet_152 (by decide) ?_
        refine z_iload C dX6_doSet_155 rfl ?_
        refine z_iadd C dX6_doSet_157 ?_
        refine z_top (y := nI (269 + k)) (nI_add _ _) ?_
        refine z_ialdN C 1 dX6_doSet_158 rfl (by omega) (by decide) ?_
        refine z_top (y := z' k) ((congrArg (mRow vU vS vN vX vM vT vB vK vY z' vR vC vV) (show 269 + k = 269 + (k) by omega)).trans (zMr_Z (by omega))) ?_
        refine z_iastR C 1 dX6_doSet_159 rfl (by omega) (by decide) (f' := mRow vU vS vN vX vM vT vB vK vY (upd z' k (z' k)) vR vC vV) ((congrArg (fun i9 => upd (mRow vU vS vN vX vM vT vB vK vY z' vR vC vV) i9 (z' k)) (show 269 + k = 269 + (k) by omega)).trans (zMw_Z (by omega))) ?_
        refine z_iinc C (nI (k + 1)) dX6_doSet_160 rfl (zi_1 _) ?_
        refine z_goto C 109 dX6_doSet_163 (by decide) ?_
        exact ih109 (vM - (k + 1)) (by omega) (k + 1) (upd z' k (z' k)) rfl (by omega) (by subst hz; (try simp only [mSt, show ∀ f, f = f from fun _ => rfl, mMk_ge (Nat.le_refl _)] at h_1 h_4); first | exact (mMk_y (by simpa [mSt] using h_4)).symm | exact ((upd_id _ _).trans (mMk_n (by simpa [mSt] using h_4)).symm))
      · refine z_iconst C (nI 3) dX6_doSet_144 (by decide) ?_
        refine z_goto C 159 dX6_doSet_145 (by decide) ?_
        refine z_iastR C 1 dX6_doSet_159 rfl (by omega) (by decide) (f' := mRow vU vS vN vX vM vT vB vK vY (upd z' k (nI 3)) vR vC vV) ((congrArg (fun i9 => upd (mRow vU vS vN vX vM vT vB vK vY z' vR vC vV) i9 (nI 3)) (show 269 + k = 269 + (k) by omega)).trans (zMw_Z (by omega))) ?_
        refine z_iinc C (nI (k + 1)) dX6_doSet_160 rfl (zi_1 _) ?_
        refine z_goto C 109 dX6_doSet_163 (by decide) ?_
        exact ih109 (vM - (k + 1)) (by omega) (k + 1) (upd z' k (nI 3)) rfl (by omega) (by subst hz; (try simp only [mSt, show ∀ f, f = f from fun _ => rfl, mMk_ge (Nat.le_refl _)] at h_1 h_4); first | exact (mMk_y (by simpa [mSt] using h_4)).symm | exact ((upd_id _ _).trans (mMk_n (by simpa [mSt] using h_4)).symm))
  exact hL109 _ 0 (vZ) rfl (by omega) ((mMk_0 _ _ _).symm)

