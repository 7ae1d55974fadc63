set_option maxHeartbeats 4000000 in
set_option maxRecDepth 100000 in
theorem mX6_doSet_d (E : zE) (a : Nat → Nat) (kp ty pl : Nat) (gd : Bool) (od : Nat) (vU vS : Nat → Nat) (vN : Nat → Int32) (vX vM : Nat) (vT : Bool) (vB vK vY vZ vR vC vV : Nat → Int32) (au i j v : Nat) (k : Nat) (hO : okM vU vS vM vK) (hW : nmM vU vS vN) (hau : au < 4) (hi : i < vU 0) (hj : j < vU 1) (hv : v ≤ 9999) (hr : mDm vZ vK vR vC vS vN vM 0 i = false) (hc : mDm vZ vK vR vC vS vN vM 1 j = false) (he : ¬ mVB vZ vK vR vC vB vS vV (vM) (mN vS vN 0 i) (mN vS vN 1 j) i j = nI v) (ht : vT = true) (hik : zg (mSt vZ vK vR vC (mN vS vN 0 i) (mN vS vN 1 j)) (vM) = nI k) (hk : k < vM) (hby : vY k = nI au) (hb : mVB vZ vK vR vC vB vS vV k (mN vS vN 0 i) (mN vS vN 1 j) i j = nI v) : zM E yX6_doSet wsX6_doSet 5 [.ref (a 0), .int (nI au), .int (nI i), .int (nI j), .int (nI v)] [((a 0), .inr (6, [.ref (a 1), .ref (a 2), .ref (a 3), .int (nI kp), .int (nI ty), .ref (a 4), .int (nI pl), .int (zb gd), .int (nI od), .ref (a 5)])), ((a 1), .inl (E.2.2.1, 512, .inl (mRow vU vS vN vX vM vT vB vK vY vZ vR vC vV)))] [((a 0), .inr (6, [.ref (a 1), .ref (a 2), .ref (a 3), .int (nI kp), .int (nI ty), .ref (a 4), .int (nI pl), .int (zb gd), .int (nI od), .ref (a 5)])), ((a 1), .inl (E.2.2.1, 512, .inl (mRow vU vS vN vX vM vT vB vK vY (upd (vZ) k (nI 3)) vR vC (upd (vV) k (nI v)))))] (some (.int (nI k))) := by
  refine zM.of kX6_doSet (Nat.le_of_ble_eq_true rfl) rfl [some (.ref (a 0)), some (.int (nI au)), some (.int (nI i)), some (.int (nI j)), some (.int (nI v)), none, none, none] rfl (Nat.le_of_ble_eq_true rfl) ?_
  intro X eX C N
  subst eX
  obtain ⟨hu0, hu1, hM, hk1, hk2, hk3⟩ := id hO
  refine z_iload_n C 1 dX6_doSet_0 rfl rfl ?_
  refine z_callS C kX6_noAuthor gX6_doSet_X6_noAuthor (mX6_noAuthor_y X.2.1 au hau) dX6_doSet_1 [] rfl (by decide) (by decide) (Nat.le_of_ble_eq_true rfl) rfl ?_
  refine z_bif_ne_f C 25 dX6_doSet_4 (by decide) rfl ?_
  refine z_aload_n C 0 dX6_doSet_7 rfl rfl ?_
  refine z_iconst C (nI 0) dX6_doSet_8 (by decide) ?_
  refine z_iload_n C 2 dX6_doSet_9 rfl rfl ?_
  refine z_callVr C kX6_noLine gX6_doSet_X6_noLine (mX6_noLine_0_y X.2.1 a kp ty pl gd od vU vS vN vX vM vT vB vK vY vZ vR vC vV i hO hi) dX6_doSet_10 [0, 1] [] 0 rfl nd_0_1 rfl rfl rfl (by decide) (by decide) (Nat.le_of_ble_eq_true rfl) rfl ?_
  refine z_bif_ne_f C 25 dX6_doSet_13 (by decide) rfl ?_
  refine z_aload_n C 0 dX6_doSet_16 rfl rfl ?_
  refine z_iconst C (nI 1) dX6_doSet_17 (by decide) ?_
  refine z_iload_n C 3 dX6_doSet_18 rfl rfl ?_
  refine z_callVr C kX6_noLine gX6_doSet_X6_noLine (mX6_noLine_1_y X.2.1 a kp ty pl gd od vU vS vN vX vM vT vB vK vY vZ vR vC vV j hO hj) dX6_doSet_19 [0, 1] [] 0 rfl nd_0_1 rfl rfl rfl (by decide) (by decide) (Nat.le_of_ble_eq_true rfl) rfl ?_
  refine z_bif_eq_t C 27 dX6_doSet_22 (by decide) rfl ?_
  refine z_iload C dX6_doSet_27 rfl ?_
  refine z_iconst C (nI 0) dX6_doSet_29 (by decide) ?_
  refine z_sipush C (nI 9999) dX6_doSet_30 (by decide) ?_
  refine z_callS C kX6_in gX6_doSet_X6_in (mX6_in_y X.2.1 v 9999 hv (by first | assumption | omega)) dX6_doSet_33 [] rfl (by decide) (by decide) (Nat.le_of_ble_eq_true rfl) rfl ?_
  refine z_bif_ne_t C 42 dX6_doSet_36 (by decide) rfl ?_
  refine z_aload_n C 0 dX6_doSet_42 rfl rfl ?_
  refine z_iconst C (nI 0) dX6_doSet_43 (by decide) ?_
  refine z_iload_n C 2 dX6_doSet_44 rfl rfl ?_
  refine z_callVr C kX6_nameAt gX6_doSet_X6_nameAt (mX6_nameAt_0 X.2.1 a kp ty pl gd od vU vS vN vX vM vT vB vK vY vZ vR vC vV i hO (by first | assumption | omega)) dX6_doSet_45 [0, 1] [] 0 rfl nd_0_1 rfl rfl rfl (by decide) (by decide) (Nat.le_of_ble_eq_true rfl) rfl ?_
  refine z_istore C dX6_doSet_48 (Nat.le_of_ble_eq_true rfl) ?_
  refine z_aload_n C 0 dX6_doSet_50 rfl rfl ?_
  refine z_iconst C (nI 1) dX6_doSet_51 (by decide) ?_
  refine z_iload_n C 3 dX6_doSet_52 rfl rfl ?_
  refine z_callVr C kX6_nameAt gX6_doSet_X6_nameAt (mX6_nameAt_1 X.2.1 a kp ty pl gd od vU vS vN vX vM vT vB vK vY vZ vR vC vV j hO (by first | assumption | omega)) dX6_doSet_53 [0, 1] [] 0 rfl nd_0_1 rfl rfl rfl (by decide) (by decide) (Nat.le_of_ble_eq_true rfl) rfl ?_
  refine z_istore C dX6_doSet_56 (Nat.le_of_ble_eq_true rfl) ?_
  refine z_aload_n C 0 dX6_doSet_58 rfl rfl ?_
  refine z_iconst C (nI 0) dX6_doSet_59 (by decide) ?_
  refine z_iload_n C 2 dX6_doSet_60 rfl rfl ?_
  refine z_callVr C kX6_isDoomed gX6_doSet_X6_isDoomed (mX6_isDoomed_0 X.2.1 a kp ty pl gd od vU vS vN vX vM vT vB vK vY vZ vR vC vV i hO (by first | assumption | omega)) dX6_doSet_61 [0, 1] [] 0 rfl nd_0_1 rfl rfl rfl (by decide) (by decide) (Nat.le_of_ble_eq_true rfl) rfl ?_
  refine z_bif_ne_f C 96 dX6_doSet_64 (by decide) hr ?_
  refine z_aload_n C 0 dX6_doSet_67 rfl rfl ?_
  refine z_iconst C (nI 1) dX6_doSet_68 (by decide) ?_
  refine z_iload_n C 3 dX6_doSet_69 rfl rfl ?_
  refine z_callVr C kX6_isDoomed gX6_doSet_X6_isDoomed (mX6_isDoomed_1 X.2.1 a kp ty pl gd od vU vS vN vX vM vT vB vK vY vZ vR vC vV j hO (by first | assumption | omega)) dX6_doSet_70 [0, 1] [] 0 rfl nd_0_1 rfl rfl rfl (by decide) (by decide) (Nat.le_of_ble_eq_true rfl) rfl ?_
  refine z_bif_ne_f C 96 dX6_doSet_73 (by decide) hc ?_
  refine z_aload_n C 0 dX6_doSet_76 rfl rfl ?_
  refine z_aload_n C 0 dX6_doSet_77 rfl rfl ?_
  refine z_get C fX6_doSet_7 0 dX6_doSet_78 rfl rfl ?_
  refine z_bipush C (nI 51) dX6_doSet_81 (by decide) ?_
  refine z_ialdN C 1 dX6_doSet_83 rfl (by omega) (by decide) ?_
  refine z_top (y := nI (vM)) (zMr_M) ?_
  refine z_iload C dX6_doSet_84 rfl ?_
  refine z_iload C dX6_doSet_86 rfl ?_
  refine z_callVr C kX6_valueBelow gX6_doSet_X6_valueBelow (mX6_valueBelow X.2.1 a kp ty pl gd od vU vS vN vX vM vT vB vK vY vZ vR vC vV (vM) (mN vS vN 0 i) (mN vS vN 1 j) i j hO hM (mPl_0 hW hO hi) (hi) (mPl_1 hW hO hj) (hj)) dX6_doSet_88 [0, 1] [] 0 rfl nd_0_1 rfl rfl rfl (by decide) (by decide) (Nat.le_of_ble_eq_true rfl) rfl ?_
  refine z_iload C dX6_doSet_91 rfl ?_
  refine z_icmp_ne_t C 99 dX6_doSet_93 (by decide) he ?_
  refine z_aload_n C 0 dX6_doSet_99 rfl rfl ?_
  refine z_callVr C kX6_isTracked gX6_doSet_X6_isTracked (mX6_isTracked X.2.1 a kp ty pl gd od vU vS vN vX vM vT vB vK vY vZ vR vC vV ) dX6_doSet_100 [0, 1] [] 0 rfl nd_0_1 rfl rfl rfl (by decide) (by decide) (Nat.le_of_ble_eq_true rfl) rfl ?_
  refine z_bif_ne_t C 183 dX6_doSet_103 (by decide) ht ?_
  refine z_aload_n C 0 dX6_doSet_183 rfl rfl ?_
  refine z_aload_n C 0 dX6_doSet_184 rfl rfl ?_
  refine z_get C fX6_doSet_7 0 dX6_doSet_185 rfl rfl ?_
  refine z_bipush C (nI 51) dX6_doSet_188 (by decide) ?_
  refine z_ialdN C 1 dX6_doSet_190 rfl (by omega) (by decide) ?_
  refine z_top (y := nI (vM)) (zMr_M) ?_
  refine z_iload C dX6_doSet_191 rfl ?_
  refine z_iload C dX6_doSet_193 rfl ?_
  refine z_callVr C kX6_settingBelow gX6_doSet_X6_settingBelow (mX6_settingBelow X.2.1 a kp ty pl gd od vU vS vN vX vM vT vB vK vY vZ vR vC vV (vM) (mN vS vN 0 i) (mN vS vN 1 j) hM) dX6_doSet_195 [0, 1] [] 0 rfl nd_0_1 rfl rfl rfl (by decide) (by decide) (Nat.le_of_ble_eq_true rfl) rfl ?_
  refine z_top (y := nI k) (hik) ?_
  refine z_istore C dX6_doSet_198 (Nat.le_of_ble_eq_true rfl) ?_
  refine z_iload C dX6_doSet_200 rfl ?_
  refine z_nif_lt_f C 265 dX6_doSet_202 (by decide) (by omega) (by trivial) ?_
  refine z_aload_n C 0 dX6_doSet_205 rfl rfl ?_
  refine z_iload C dX6_doSet_206 rfl ?_
  refine z_sipush C (nI 209) dX6_doSet_208 (by decide) ?_
  refine z_callVr C kX6_of gX6_doSet_X6_of (mX6_of_Y X.2.1 a kp ty pl gd od vU vS vN vX vM vT vB vK vY vZ vR vC vV k (by first | assumption | omega)) dX6_doSet_211 [0, 1] [] 0 rfl nd_0_1 rfl rfl rfl (by decide) (by decide) (Nat.le_of_ble_eq_true rfl) rfl ?_
  refine z_iload_n C 1 dX6_doSet_214 rfl rfl ?_
  refine z_icmp_ne_f C 265 dX6_doSet_215 (by decide) hby ?_
  refine z_aload_n C 0 dX6_doSet_218 rfl rfl ?_
  refine z_get C fX6_doSet_7 0 dX6_doSet_219 rfl rfl ?_
  refine z_sipush C (nI 269) dX6_doSet_222 (by decide) ?_
  refine z_iload C dX6_doSet_225 rfl ?_
  refine z_iadd C dX6_doSet_227 ?_
  refine z_top (y := nI (269 + k)) (nI_add _ _) ?_
  refine z_aload_n C 0 dX6_doSet_228 rfl rfl ?_
  refine z_iload C dX6_doSet_229 rfl ?_
  refine z_iload C dX6_doSet_231 rfl ?_
  refine z_iload C dX6_doSet_233 rfl ?_
  refine z_callVr C kX6_valueBelow gX6_doSet_X6_valueBelow (mX6_valueBelow X.2.1 a kp ty pl gd od vU vS vN vX vM vT vB vK vY vZ vR vC vV k (mN vS vN 0 i) (mN vS vN 1 j) i j hO (by first | assumption | omega) (mPl_0 hW hO hi) (hi) (mPl_1 hW hO hj) (hj)) dX6_doSet_235 [0, 1] [.int (nI (269 + k)), .ref (a 1)] 0 rfl nd_0_1 rfl rfl rfl (by decide) (by decide) (Nat.le_of_ble_eq_true rfl) rfl ?_
  refine z_iload C dX6_doSet_238 rfl ?_
  refine z_icmp_ne_f C 247 dX6_doSet_240 (by decide) hb ?_
  refine z_iconst C (nI 3) dX6_doSet_243 (by decide) ?_
  refine z_goto C 248 dX6_doSet_244 (by decide) ?_
  refine z_iastR C 1 dX6_doSet_248 rfl (by omega) (by decide) (f' := mRow vU vS vN vX vM vT vB vK vY (upd (vZ) k (nI 3)) vR vC vV) ((congrArg (fun i9 => upd (mRow vU vS vN vX vM vT vB vK vY vZ vR vC vV) i9 (nI 3)) (show 269 + k = 269 + (k) by omega)).trans (zMw_Z (by omega))) ?_
  refine z_aload_n C 0 dX6_doSet_249 rfl rfl ?_
  refine z_get C fX6_doSet_7 0 dX6_doSet_250 rfl rfl ?_
  refine z_sipush C (nI 449) dX6_doSet_253 (by decide) ?_
  refine z_iload C dX6_doSet_256 rfl ?_
  refine z_iadd C dX6_doSet_258 ?_
  refine z_top (y := nI (449 + k)) (nI_add _ _) ?_
  refine z_iload C dX6_doSet_259 rfl ?_
  refine z_iastR C 1 dX6_doSet_261 rfl (by omega) (by decide) (f' := mRow vU vS vN vX vM vT vB vK vY (upd (vZ) k (nI 3)) vR vC (upd (vV) k (nI v))) ((congrArg (fun i9 => upd (mRow vU vS vN vX vM vT vB vK vY (upd (vZ) k (nI 3)) vR vC vV) i9 (nI v)) (show 449 + k = 449 + (k) by omega)).trans (zMw_V (by omega))) ?_
  refine z_iload C dX6_doSet_262 rfl ?_
  exact z_iret C N dX6_doSet_264 (rfl) (rfl)

set_option maxHeartbeats 4000000 in
set_option maxRecDepth 100000 in
theorem mX6_doSet_v (E : zE) (a : Nat → Nat) (kp ty pl : Nat) (gd : Bool) (od : Nat) (vU vS : Nat → Nat) (vN : Nat → Int32) (vX vM : Nat) (vT : Bool) (vB vK vY vZ vR vC vV : Nat → Int32) (au i j v : Nat) (k : Nat) (hO : okM vU vS vM vK) (hW : nmM vU vS vN) (hau : au < 4) (hi : i < vU 0) (hj : j < vU 1) (hv : v ≤ 9999) (hr : mDm vZ vK vR vC vS vN vM 0 i = false) (hc : mDm vZ vK vR vC vS vN vM 1 j = false) (he : ¬ mVB vZ vK vR vC vB vS vV (vM) (mN vS vN 0 i) (mN vS vN 1 j) i j = nI v) (ht : vT = true) (hik : zg (mSt vZ vK vR vC (mN vS vN 0 i) (mN vS vN 1 j)) (vM) = nI k) (hk : k < vM) (hby : vY k = nI au) (hb : ¬ mVB vZ vK vR vC vB vS vV k (mN vS vN 0 i) (mN vS vN 1 j) i j = nI v) : zM E yX6_doSet wsX6_doSet 5 [.ref (a 0), .int (nI au), .int (nI i), .int (nI j), .int (nI v)] [((a 0), .inr (6, [.ref (a 1), .ref (a 2), .ref (a 3), .int (nI kp), .int (nI ty), .ref (a 4), .int (nI pl), .int (zb gd), .int (nI od), .ref (a 5)])), ((a 1), .inl (E.2.2.1, 512, .inl (mRow vU vS vN vX vM vT vB vK vY vZ vR vC vV)))] [((a 0), .inr (6, [.ref (a 1), .ref (a 2), .ref (a 3), .int (nI kp), .int (nI ty), .ref (a 4), .int (nI pl), .int (zb gd), .int (nI od), .ref (a 5)])), ((a 1), .inl (E.2.2.1, 512, .inl (mRow vU vS vN vX vM vT vB vK vY (upd (vZ) k (nI 0)) vR vC (upd (vV) k (nI v)))))] (some (.int (nI k))) := by
  refine zM.of kX6_doSet (Nat.le_of_ble_eq_true rfl) rfl [some (.ref (a 0)), some (.int (nI au)), some (.int (nI i)), some (.int (nI j)), some (.int (nI v)), none, none, none] rfl (Nat.le_of_ble_eq_true rfl) ?_
  intro X eX C N
  subst eX
  obtain ⟨hu0, hu1, hM, hk1, hk2, hk3⟩ := id hO
  refine z_iload_n C 1 dX6_doSet_0 rfl rfl ?_
  refine z_callS C kX6_noAuthor gX6_doSet_X6_noAuthor (mX6_noAuthor_y X.2.1 au hau) dX6_doSet_1 [] rfl (by decide) (by decide) (Nat.le_of_ble_eq_true rfl) rfl ?_
  refine z_bif_ne_f C 25 dX6_doSet_4 (by decide) rfl ?_
  refine z_aload_n C 0 dX6_doSet_7 rfl rfl ?_
  refine z_iconst C (nI 0) dX6_doSet_8 (by decide) ?_
  refine z_iload_n C 2 dX6_doSet_9 rfl rfl ?_
  refine z_callVr C kX6_noLine gX6_doSet_X6_noLine (mX6_noLine_0_y X.2.1 a kp ty pl gd od vU vS vN vX vM vT vB vK vY vZ vR vC vV i hO hi) dX6_doSet_10 [0, 1] [] 0 rfl nd_0_1 rfl rfl rfl (by decide) (by decide) (Nat.le_of_ble_eq_true rfl) rfl ?_
  refine z_bif_ne_f C 25 dX6_doSet_13 (by decide) rfl ?_
  refine z_aload_n C 0 dX6_doSet_16 rfl rfl ?_
  refine z_iconst C (nI 1) dX6_doSet_17 (by decide) ?_
  refine z_iload_n C 3 dX6_doSet_18 rfl rfl ?_
  refine z_callVr C kX6_noLine gX6_doSet_X6_noLine (mX6_noLine_1_y X.2.1 a kp ty pl gd od vU vS vN vX vM vT vB vK vY vZ vR vC vV j hO hj) dX6_doSet_19 [0, 1] [] 0 rfl nd_0_1 rfl rfl rfl (by decide) (by decide) (Nat.le_of_ble_eq_true rfl) rfl ?_
  refine z_bif_eq_t C 27 dX6_doSet_22 (by decide) rfl ?_
  refine z_iload C dX6_doSet_27 rfl ?_
  refine z_iconst C (nI 0) dX6_doSet_29 (by decide) ?_
  refine z_sipush C (nI 9999) dX6_doSet_30 (by decide) ?_
  refine z_callS C kX6_in gX6_doSet_X6_in (mX6_in_y X.2.1 v 9999 hv (by first | assumption | omega)) dX6_doSet_33 [] rfl (by decide) (by decide) (Nat.le_of_ble_eq_true rfl) rfl ?_
  refine z_bif_ne_t C 42 dX6_doSet_36 (by decide) rfl ?_
  refine z_aload_n C 0 dX6_doSet_42 rfl rfl ?_
  refine z_iconst C (nI 0) dX6_doSet_43 (by decide) ?_
  refine z_iload_n C 2 dX6_doSet_44 rfl rfl ?_
  refine z_callVr C kX6_nameAt gX6_doSet_X6_nameAt (mX6_nameAt_0 X.2.1 a kp ty pl gd od vU vS vN vX vM vT vB vK vY vZ vR vC vV i hO (by first | assumption | omega)) dX6_doSet_45 [0, 1] [] 0 rfl nd_0_1 rfl rfl rfl (by decide) (by decide) (Nat.le_of_ble_eq_true rfl) rfl ?_
  refine z_istore C dX6_doSet_48 (Nat.le_of_ble_eq_true rfl) ?_
  refine z_aload_n C 0 dX6_doSet_50 rfl rfl ?_
  refine z_iconst C (nI 1) dX6_doSet_51 (by decide) ?_
  refine z_iload_n C 3 dX6_doSet_52 rfl rfl ?_
  refine z_callVr C kX6_nameAt gX6_doSet_X6_nameAt (mX6_nameAt_1 X.2.1 a kp ty pl gd od vU vS vN vX vM vT vB vK vY vZ vR vC vV j hO (by first | assumption | omega)) dX6_doSet_53 [0, 1] [] 0 rfl nd_0_1 rfl rfl rfl (by decide) (by decide) (Nat.le_of_ble_eq_true rfl) rfl ?_
  refine z_istore C dX6_doSet_56 (Nat.le_of_ble_eq_true rfl) ?_
  refine z_aload_n C 0 dX6_doSet_58 rfl rfl ?_
  refine z_iconst C (nI 0) dX6_doSet_59 (by decide) ?_
  refine z_iload_n C 2 dX6_doSet_60 rfl rfl ?_
  refine z_callVr C kX6_isDoomed gX6_doSet_X6_isDoomed (mX6_isDoomed_0 X.2.1 a kp ty pl gd od vU vS vN vX vM vT vB vK vY vZ vR vC vV i hO (by first | assumption | omega)) dX6_doSet_61 [0, 1] [] 0 rfl nd_0_1 rfl rfl rfl (by decide) (by decide) (Nat.le_of_ble_eq_true rfl) rfl ?_
  refine z_bif_ne_f C 96 dX6_doSet_64 (by decide) hr ?_
  refine z_aload_n C 0 dX6_doSet_67 rfl rfl ?_
  refine z_iconst C (nI 1) dX6_doSet_68 (by decide) ?_
  refine z_iload_n C 3 dX6_doSet_69 rfl rfl ?_
  refine z_callVr C kX6_isDoomed gX6_doSet_X6_isDoomed (mX6_isDoomed_1 X.2.1 a kp ty pl gd od vU vS vN vX vM vT vB vK vY vZ vR vC vV j hO (by first | assumption | omega)) dX6_doSet_70 [0, 1] [] 0 rfl nd_0_1 rfl rfl rfl (by decide) (by decide) (Nat.le_of_ble_eq_true rfl) rfl ?_
  refine z_bif_ne_f C 96 dX6_doSet_73 (by decide) hc ?_
  refine z_aload_n C 0 dX6_doSet_76 rfl rfl ?_
  refine z_aload_n C 0 dX6_doSet_77 rfl rfl ?_
  refine z_get C fX6_doSet_7 0 dX6_doSet_78 rfl rfl ?_
  refine z_bipush C (nI 51) dX6_doSet_81 (by decide) ?_
  refine z_ialdN C 1 dX6_doSet_83 rfl (by omega) (by decide) ?_
  refine z_top (y := nI (vM)) (zMr_M) ?_
  refine z_iload C dX6_doSet_84 rfl ?_
  refine z_iload C dX6_doSet_86 rfl ?_
  refine z_callVr C kX6_valueBelow gX6_doSet_X6_valueBelow (mX6_valueBelow X.2.1 a kp ty pl gd od vU vS vN vX vM vT vB vK vY vZ vR vC vV (vM) (mN vS vN 0 i) (mN vS vN 1 j) i j hO hM (mPl_0 hW hO hi) (hi) (mPl_1 hW hO hj) (hj)) dX6_doSet_88 [0, 1] [] 0 rfl nd_0_1 rfl rfl rfl (by decide) (by decide) (Nat.le_of_ble_eq_true rfl) rfl ?_
  refine z_iload C dX6_doSet_91 rfl ?_
  refine z_icmp_ne_t C 99 dX6_doSet_93 (by decide) he ?_
  refine z_aload_n C 0 dX6_doSet_99 rfl rfl ?_
  refine z_callVr C kX6_isTracked gX6_doSet_X6_isTracked (mX6_isTracked X.2.1 a kp ty pl gd od vU vS vN vX vM vT vB vK vY vZ vR vC vV ) dX6_doSet_100 [0, 1] [] 0 rfl nd_0_1 rfl rfl rfl (by decide) (by decide) (Nat.le_of_ble_eq_true rfl) rfl ?_
  refine z_bif_ne_t C 183 dX6_doSet_103 (by decide) ht ?_
  refine z_aload_n C 0 dX6_doSet_183 rfl rfl ?_
  refine z_aload_n C 0 dX6_doSet_184 rfl rfl ?_
  refine z_get C fX6_doSet_7 0 dX6_doSet_185 rfl rfl ?_
  refine z_bipush C (nI 51) dX6_doSet_188 (by decide) ?_
  refine z_ialdN C 1 dX6_doSet_190 rfl (by omega) (by decide) ?_
  refine z_top (y := nI (vM)) (zMr_M) ?_
  refine z_iload C dX6_doSet_191 rfl ?_
  refine z_iload C dX6_doSet_193 rfl ?_
  refine z_callVr C kX6_settingBelow gX6_doSet_X6_settingBelow (mX6_settingBelow X.2.1 a kp ty pl gd od vU vS vN vX vM vT vB vK vY vZ vR vC vV (vM) (mN vS vN 0 i) (mN vS vN 1 j) hM) dX6_doSet_195 [0, 1] [] 0 rfl nd_0_1 rfl rfl rfl (by decide) (by decide) (Nat.le_of_ble_eq_true rfl) rfl ?_
  refine z_top (y := nI k) (hik) ?_
  refine z_istore C dX6_doSet_198 (Nat.le_of_ble_eq_true rfl) ?_
  refine z_iload C dX6_doSet_200 rfl ?_
  refine z_nif_lt_f C 265 dX6_doSet_202 (by decide) (by omega) (by trivial) ?_
  refine z_aload_n C 0 dX6_doSet_205 rfl rfl ?_
  refine z_iload C dX6_doSet_206 rfl ?_
  refine z_sipush C (nI 209) dX6_doSet_208 (by decide) ?_
  refine z_callVr C kX6_of gX6_doSet_X6_of (mX6_of_Y X.2.1 a kp ty pl gd od vU vS vN vX vM vT vB vK vY vZ vR vC vV k (by first | assumption | omega)) dX6_doSet_211 [0, 1] [] 0 rfl nd_0_1 rfl rfl rfl (by decide) (by decide) (Nat.le_of_ble_eq_true rfl) rfl ?_
  refine z_iload_n C 1 dX6_doSet_214 rfl rfl ?_
  refine z_icmp_ne_f C 265 dX6_doSet_215 (by decide) hby ?_
  refine z_aload_n C 0 dX6_doSet_218 rfl rfl ?_
  refine z_get C fX6_doSet_7 0 dX6_doSet_219 rfl rfl ?_
  refine z_sipush C (nI 269) dX6_doSet_222 (by decide) ?_
  refine z_iload C dX6_doSet_225 rfl ?_
  refine z_iadd C dX6_doSet_227 ?_
  refine z_top (y := nI (269 + k)) (nI_add _ _) ?_
  refine z_aload_n C 0 dX6_doSet_228 rfl rfl ?_
  refine z_iload C dX6_doSet_229 rfl ?_
  refine z_iload C dX6_doSet_231 rfl ?_
  refine z_iload C dX6_doSet_233 rfl ?_
  refine z_callVr C kX6_valueBelow gX6_doSet_X6_valueBelow (mX6_valueBelow X.2.1 a kp ty pl gd od vU vS vN vX vM vT vB vK vY vZ vR vC vV k (mN vS vN 0 i) (mN vS vN 1 j) i j hO (by first | assumption | omega) (mPl_0 hW hO hi) (hi) (mPl_1 hW hO hj) (hj)) dX6_doSet_235 [0, 1] [.int (nI (269 + k)), .ref (a 1)] 0 rfl nd_0_1 rfl rfl rfl (by decide) (by decide) (Nat.le_of_ble_eq_true rfl) rfl ?_
  refine z_iload C dX6_doSet_238 rfl ?_
  refine z_icmp_ne_t C 247 dX6_doSet_240 (by decide) hb ?_
  refine z_iconst C (nI 0) dX6_doSet_247 (by decide) ?_
  refine z_iastR C 1 dX6_doSet_248 rfl (by omega) (by decide) (f' := mRow vU vS vN vX vM vT vB vK vY (upd (vZ) k (nI 0)) vR vC vV) ((congrArg (fun i9 => upd (mRow vU vS vN vX vM vT vB vK vY vZ vR vC vV) i9 (nI 0)) (show 269 + k = 269 + (k) by omega)).trans (zMw_Z (by omega))) ?_
  refine z_aload_n C 0 dX6_doSet_249 rfl rfl ?_
  refine z_get C fX6_doSet_7 0 dX6_doSet_250 rfl rfl ?_
  refine z_sipush C (nI 449) dX6_doSet_253 (by decide) ?_
  refine z_iload C dX6_doSet_256 rfl ?_
  refine z_iadd C dX6_doSet_258 ?_
  refine z_top (y := nI (449 + k)) (nI_add _ _) ?_
  refine z_iload C dX6_doSet_259 rfl ?_
  refine z_iastR C 1 dX6_doSet_261 rfl (by omega) (by decide) (f' := mRow vU vS vN vX vM vT vB vK vY (upd (vZ) k (nI 0)) vR vC (upd (vV) k (nI v))) ((congrArg (fun i9 => upd (mRow vU vS vN vX vM vT vB vK vY (upd (vZ) k (nI 0)) vR vC vV) i9 (nI v)) (show 449 + k = 449 + (k) by omega)).trans (zMw_V (by omega))) ?_
  refine z_iload C dX6_doSet_262 rfl ?_
  exact z_iret C N dX6_doSet_264 (rfl) (rfl)

set_option maxHeartbeats 4000000 in
set_option maxRecDepth 100000 in
theorem mX6_doSet_nf (E : zE) (a : Nat → Nat) (kp ty pl : Nat) (gd : Bool) (od : Nat) (vU vS : Nat → Nat) (vN : Nat → Int32) (vX vM : Nat) (vT : Bool) (vB vK vY vZ vR vC vV : Nat → Int32) (au i j v : Nat) (hO : okM vU vS vM vK) (hW : nmM vU vS vN) (hau : au < 4) (hi : i < vU 0) (hj : j < vU 1) (hv : v ≤ 9999) (hr : mDm vZ vK vR vC vS vN vM 0 i = false) (hc : mDm vZ vK vR vC vS vN vM 1 j = false) (he : ¬ mVB vZ vK vR vC vB vS vV (vM) (mN vS vN 0 i) (mN vS vN 1 j) i j = nI v) (ht : vT = true) (hik : zg (mSt vZ vK vR vC (mN vS vN 0 i) (mN vS vN 1 j)) (vM) = -5) (hf : vM = 60) : zM E yX6_doSet wsX6_doSet 5 [.ref (a 0), .int (nI au), .int (nI i), .int (nI j), .int (nI v)] [((a 0), .inr (6, [.ref (a 1), .ref (a 2), .ref (a 3), .int (nI kp), .int (nI ty), .ref (a 4), .int (nI pl), .int (zb gd), .int (nI od), .ref (a 5)])), ((a 1), .inl (E.2.2.1, 512, .inl (mRow vU vS vN vX vM vT vB vK vY vZ vR vC vV)))] [((a 0), .inr (6, [.ref (a 1), .ref (a 2), .ref (a 3), .int (nI kp), .int (nI ty), .ref (a 4), .int (nI pl), .int (zb gd), .int (nI od), .ref (a 5)])), ((a 1), .inl (E.2.2.1, 512, .inl (mRow vU vS vN vX vM vT vB vK vY vZ vR vC vV)))] (some (.int (-3))) := by
  refine zM.of kX6_doSet (Nat.le_of_ble_eq_true rfl) rfl [some (.ref (a 0)), some (.int (nI au)), some (.int (nI i)), some (.int (nI j)), some (.int (nI v)), none, none, none] rfl (Nat.le_of_ble_eq_true rfl) ?_
  intro X eX C N
  subst eX
  obtain ⟨hu0, hu1, hM, hk1, hk2, hk3⟩ := id hO
  refine z_iload_n C 1 dX6_doSet_0 rfl rfl ?_
  refine z_callS C kX6_noAuthor gX6_doSet_X6_noAuthor (mX6_noAuthor_y X.2.1 au hau) dX6_doSet_1 [] rfl (by decide) (by decide) (Nat.le_of_ble_eq_true rfl) rfl ?_
  refine z_bif_ne_f C 25 dX6_doSet_4 (by decide) rfl ?_
  refine z_aload_n C 0 dX6_doSet_7 rfl rfl ?_
  refine z_iconst C (nI 0) dX6_doSet_8 (by decide) ?_
  refine z_iload_n C 2 dX6_doSet_9 rfl rfl ?_
  refine z_callVr C kX6_noLine gX6_doSet_X6_noLine (mX6_noLine_0_y X.2.1 a kp ty pl gd od vU vS vN vX vM vT vB vK vY vZ vR vC vV i hO hi) dX6_doSet_10 [0, 1] [] 0 rfl nd_0_1 rfl rfl rfl (by decide) (by decide) (Nat.le_of_ble_eq_true rfl) rfl ?_
  refine z_bif_ne_f C 25 dX6_doSet_13 (by decide) rfl ?_
  refine z_aload_n C 0 dX6_doSet_16 rfl rfl ?_
  refine z_iconst C (nI 1) dX6_doSet_17 (by decide) ?_
  refine z_iload_n C 3 dX6_doSet_18 rfl rfl ?_
  refine z_callVr C kX6_noLine gX6_doSet_X6_noLine (mX6_noLine_1_y X.2.1 a kp ty pl gd od vU vS vN vX vM vT vB vK vY vZ vR vC vV j hO hj) dX6_doSet_19 [0, 1] [] 0 rfl nd_0_1 rfl rfl rfl (by decide) (by decide) (Nat.le_of_ble_eq_true rfl) rfl ?_
  refine z_bif_eq_t C 27 dX6_doSet_22 (by decide) rfl ?_
  refine z_iload C dX6_doSet_27 rfl ?_
  refine z_iconst C (nI 0) dX6_doSet_29 (by decide) ?_
  refine z_sipush C (nI 9999) dX6_doSet_30 (by decide) ?_
  refine z_callS C kX6_in gX6_doSet_X6_in (mX6_in_y X.2.1 v 9999 hv (by first | assumption | omega)) dX6_doSet_33 [] rfl (by decide) (by decide) (Nat.le_of_ble_eq_true rfl) rfl ?_
  refine z_bif_ne_t C 42 dX6_doSet_36 (by decide) rfl ?_
  refine z_aload_n C 0 dX6_doSet_42 rfl rfl ?_
  refine z_iconst C (nI 0) dX6_doSet_43 (by decide) ?_
  refine z_iload_n C 2 dX6_doSet_44 rfl rfl ?_
  refine z_callVr C kX6_nameAt gX6_doSet_X6_nameAt (mX6_nameAt_0 X.2.1 a kp ty pl gd od vU vS vN vX vM vT vB vK vY vZ vR vC vV i hO (by first | assumption | omega)) dX6_doSet_45 [0, 1] [] 0 rfl nd_0_1 rfl rfl rfl (by decide) (by decide) (Nat.le_of_ble_eq_true rfl) rfl ?_
  refine z_istore C dX6_doSet_48 (Nat.le_of_ble_eq_true rfl) ?_
  refine z_aload_n C 0 dX6_doSet_50 rfl rfl ?_
  refine z_iconst C (nI 1) dX6_doSet_51 (by decide) ?_
  refine z_iload_n C 3 dX6_doSet_52 rfl rfl ?_
  refine z_callVr C kX6_nameAt gX6_doSet_X6_nameAt (mX6_nameAt_1 X.2.1 a kp ty pl gd od vU vS vN vX vM vT vB vK vY vZ vR vC vV j hO (by first | assumption | omega)) dX6_doSet_53 [0, 1] [] 0 rfl nd_0_1 rfl rfl rfl (by decide) (by decide) (Nat.le_of_ble_eq_true rfl) rfl ?_
  refine z_istore C dX6_doSet_56 (Nat.le_of_ble_eq_true rfl) ?_
  refine z_aload_n C 0 dX6_doSet_58 rfl rfl ?_
  refine z_iconst C (nI 0) dX6_doSet_59 (by decide) ?_
  refine z_iload_n C 2 dX6_doSet_60 rfl rfl ?_
  refine z_callVr C kX6_isDoomed gX6_doSet_X6_isDoomed (mX6_isDoomed_0 X.2.1 a kp ty pl gd od vU vS vN vX vM vT vB vK vY vZ vR vC vV i hO (by first | assumption | omega)) dX6_doSet_61 [0, 1] [] 0 rfl nd_0_1 rfl rfl rfl (by decide) (by decide) (Nat.le_of_ble_eq_true rfl) rfl ?_
  refine z_bif_ne_f C 96 dX6_doSet_64 (by decide) hr ?_
  refine z_aload_n C 0 dX6_doSet_67 rfl rfl ?_
  refine z_iconst C (nI 1) dX6_doSet_68 (by decide) ?_
  refine z_iload_n C 3 dX6_doSet_69 rfl rfl ?_
  refine z_callVr C kX6_isDoomed gX6_doSet_X6_isDoomed (mX6_isDoomed_1 X.2.1 a kp ty pl gd od vU vS vN vX vM vT vB vK vY vZ vR vC vV j hO (by first | assumption | omega)) dX6_doSet_70 [0, 1] [] 0 rfl nd_0_1 rfl rfl rfl (by decide) (by decide) (Nat.le_of_ble_eq_true rfl) rfl ?_
  refine z_bif_ne_f C 96 dX6_doSet_73 (by decide) hc ?_
  refine z_aload_n C 0 dX6_doSet_76 rfl rfl ?_
  refine z_aload_n C 0 dX6_doSet_77 rfl rfl ?_
  refine z_get C fX6_doSet_7 0 dX6_doSet_78 rfl rfl ?_
  refine z_bipush C (nI 51) dX6_doSet_81 (by decide) ?_
  refine z_ialdN C 1 dX6_doSet_83 rfl (by omega) (by decide) ?_
  refine z_top (y := nI (vM)) (zMr_M) ?_
  refine z_iload C dX6_doSet_84 rfl ?_
  refine z_iload C dX6_doSet_86 rfl ?_
  refine z_callVr C kX6_valueBelow gX6_doSet_X6_valueBelow (mX6_valueBelow X.2.1 a kp ty pl gd od vU vS vN vX vM vT vB vK vY vZ vR vC vV (vM) (mN vS vN 0 i) (mN vS vN 1 j) i j hO hM (mPl_0 hW hO hi) (hi) (mPl_1 hW hO hj) (hj)) dX6_doSet_88 [0, 1] [] 0 rfl nd_0_1 rfl rfl rfl (by decide) (by decide) (Nat.le_of_ble_eq_true rfl) rfl ?_
  refine z_iload C dX6_doSet_91 rfl ?_
  refine z_icmp_ne_t C 99 dX6_doSet_93 (by decide) he ?_
  refine z_aload_n C 0 dX6_doSet_99 rfl rfl ?_
  refine z_callVr C kX6_isTracked gX6_doSet_X6_isTracked (mX6_isTracked X.2.1 a kp ty pl gd od vU vS vN vX vM vT vB vK vY vZ vR vC vV ) dX6_doSet_100 [0, 1] [] 0 rfl nd_0_1 rfl rfl rfl (by decide) (by decide) (Nat.le_of_ble_eq_true rfl) rfl ?_
  refine z_bif_ne_t C 183 dX6_doSet_103 (by decide) ht ?_
  refine z_aload_n C 0 dX6_doSet_183 rfl rfl ?_
  refine z_aload_n C 0 dX6_doSet_184 rfl rfl ?_
  refine z_get C fX6_doSet_7 0 dX6_doSet_185 rfl rfl ?_
  refine z_bipush C (nI 51) dX6_doSet_188 (by decide) ?_
  refine z_ialdN C 1 dX6_doSet_190 rfl (by omega) (by decide) ?_
  refine z_top (y := nI (vM)) (zMr_M) ?_
  refine z_iload C dX6_doSet_191 rfl ?_
  refine z_iload C dX6_doSet_193 rfl ?_
  refine z_callVr C kX6_settingBelow gX6_doSet_X6_settingBelow (mX6_settingBelow X.2.1 a kp ty pl gd od vU vS vN vX vM vT vB vK vY vZ vR vC vV (vM) (mN vS vN 0 i) (mN vS vN 1 j) hM) dX6_doSet_195 [0, 1] [] 0 rfl nd_0_1 rfl rfl rfl (by decide) (by decide) (Nat.le_of_ble_eq_true rfl) rfl ?_
  refine z_top (y := (-5)) (hik) ?_
  refine z_istore C dX6_doSet_198 (Nat.le_of_ble_eq_true rfl) ?_
  refine z_iload C dX6_doSet_200 rfl ?_
  refine z_if_lt_t C 265 dX6_doSet_202 (by decide) (by decide) ?_
  refine z_aload_n C 0 dX6_doSet_265 rfl rfl ?_
  refine z_get C fX6_doSet_7 0 dX6_doSet_266 rfl rfl ?_
  refine z_bipush C (nI 51) dX6_doSet_269 (by decide) ?_
  refine z_ialdN C 1 dX6_doSet_271 rfl (by omega) (by decide) ?_
  refine z_top (y := nI (vM)) (zMr_M) ?_
  refine z_bipush C (nI 60) dX6_doSet_272 (by decide) ?_
  refine z_ncmp_ne_f C 282 dX6_doSet_274 (by decide) (by omega) (by omega) (by omega) ?_
  refine z_bipush C (-3) dX6_doSet_277 (by decide) ?_
  refine z_goto C 294 dX6_doSet_279 (by decide) ?_
  exact z_iret C N dX6_doSet_294 (rfl) (rfl)

set_option maxHeartbeats 4000000 in
set_option maxRecDepth 100000 in
theorem mX6_doSet_mf (E : zE) (a : Nat → Nat) (kp ty pl : Nat) (gd : Bool) (od : Nat) (vU vS : Nat → Nat) (vN : Nat → Int32) (vX vM : Nat) (vT : Bool) (vB vK vY vZ vR vC vV : Nat → Int32) (au i j v : Nat) (k : Nat) (hO : okM vU vS vM vK) (hW : nmM vU vS vN) (hau : au < 4) (hi : i < vU 0) (hj : j < vU 1) (hv : v ≤ 9999) (hr : mDm vZ vK vR vC vS vN vM 0 i = false) (hc : mDm vZ vK vR vC vS vN vM 1 j = false) (he : ¬ mVB vZ vK vR vC vB vS vV (vM) (mN vS vN 0 i) (mN vS vN 1 j) i j = nI v) (ht : vT = true) (hik : zg (mSt vZ vK vR vC (mN vS vN 0 i) (mN vS vN 1 j)) (vM) = nI k) (hk : k < vM) (hby : ¬ vY k = nI au) (hf : vM = 60) : zM E yX6_doSet wsX6_doSet 5 [.ref (a 0), .int (nI au), .int (nI i), .int (nI j), .int (nI v)] [((a 0), .inr (6, [.ref (a 1), .ref (a 2), .ref (a 3), .int (nI kp), .int (nI ty), .ref (a 4), .int (nI pl), .int (zb gd), .int (nI od), .ref (a 5)])), ((a 1), .inl (E.2.2.1, 512, .inl (mRow vU vS vN vX vM vT vB vK vY vZ vR vC vV)))] [((a 0), .inr (6, [.ref (a 1), .ref (a 2), .ref (a 3), .int (nI kp), .int (nI ty), .ref (a 4), .int (nI pl), .int (zb gd), .int (nI od), .ref (a 5)])), ((a 1), .inl (E.2.2.1, 512, .inl (mRow vU vS vN vX vM vT vB vK vY vZ vR vC vV)))] (some (.int (-3))) := by
  refine zM.of kX6_doSet (Nat.le_of_ble_eq_true rfl) rfl [some (.ref (a 0)), some (.int (nI au)), some (.int (nI i)), some (.int (nI j)), some (.int (nI v)), none, none, none] rfl (Nat.le_of_ble_eq_true rfl) ?_
  intro X eX C N
  subst eX
  obtain ⟨hu0, hu1, hM, hk1, hk2, hk3⟩ := id hO
  refine z_iload_n C 1 dX6_doSet_0 rfl rfl ?_
  refine z_callS C kX6_noAuthor gX6_doSet_X6_noAuthor (mX6_noAuthor_y X.2.1 au hau) dX6_doSet_1 [] rfl (by decide) (by decide) (Nat.le_of_ble_eq_true rfl) rfl ?_
  refine z_bif_ne_f C 25 dX6_doSet_4 (by decide) rfl ?_
  refine z_aload_n C 0 dX6_doSet_7 rfl rfl ?_
  refine z_iconst C (nI 0) dX6_doSet_8 (by decide) ?_
  refine z_iload_n C 2 dX6_doSet_9 rfl rfl ?_
  refine z_callVr C kX6_noLine gX6_doSet_X6_noLine (mX6_noLine_0_y X.2.1 a kp ty pl gd od vU vS vN vX vM vT vB vK vY vZ vR vC vV i hO hi) dX6_doSet_10 [0, 1] [] 0 rfl nd_0_1 rfl rfl rfl (by decide) (by decide) (Nat.le_of_ble_eq_true rfl) rfl ?_
  refine z_bif_ne_f C 25 dX6_doSet_13 (by decide) rfl ?_
  refine z_aload_n C 0 dX6_doSet_16 rfl rfl ?_
  refine z_iconst C (nI 1) dX6_doSet_17 (by decide) ?_
  refine z_iload_n C 3 dX6_doSet_18 rfl rfl ?_
  refine z_callVr C kX6_noLine gX6_doSet_X6_noLine (mX6_noLine_1_y X.2.1 a kp ty pl gd od vU vS vN vX vM vT vB vK vY vZ vR vC vV j hO hj) dX6_doSet_19 [0, 1] [] 0 rfl nd_0_1 rfl rfl rfl (by decide) (by decide) (Nat.le_of_ble_eq_true rfl) rfl ?_
  refine z_bif_eq_t C 27 dX6_doSet_22 (by decide) rfl ?_
  refine z_iload C dX6_doSet_27 rfl ?_
  refine z_iconst C (nI 0) dX6_doSet_29 (by decide) ?_
  refine z_sipush C (nI 9999) dX6_doSet_30 (by decide) ?_
  refine z_callS C kX6_in gX6_doSet_X6_in (mX6_in_y X.2.1 v 9999 hv (by first | assumption | omega)) dX6_doSet_33 [] rfl (by decide) (by decide) (Nat.le_of_ble_eq_true rfl) rfl ?_
  refine z_bif_ne_t C 42 dX6_doSet_36 (by decide) rfl ?_
  refine z_aload_n C 0 dX6_doSet_42 rfl rfl ?_
  refine z_iconst C (nI 0) dX6_doSet_43 (by decide) ?_
  refine z_iload_n C 2 dX6_doSet_44 rfl rfl ?_
  refine z_callVr C kX6_nameAt gX6_doSet_X6_nameAt (mX6_nameAt_0 X.2.1 a kp ty pl gd od vU vS vN vX vM vT vB vK vY vZ vR vC vV i hO (by first | assumption | omega)) dX6_doSet_45 [0, 1] [] 0 rfl nd_0_1 rfl rfl rfl (by decide) (by decide) (Nat.le_of_ble_eq_true rfl) rfl ?_
  refine z_istore C dX6_doSet_48 (Nat.le_of_ble_eq_true rfl) ?_
  refine z_aload_n C 0 dX6_doSet_50 rfl rfl ?_
  refine z_iconst C (nI 1) dX6_doSet_51 (by decide) ?_
  refine z_iload_n C 3 dX6_doSet_52 rfl rfl ?_
  refine z_callVr C kX6_nameAt gX6_doSet_X6_nameAt (mX6_nameAt_1 X.2.1 a kp ty pl gd od vU vS vN vX vM vT vB vK vY vZ vR vC vV j hO (by first | assumption | omega)) dX6_doSet_53 [0, 1] [] 0 rfl nd_0_1 rfl rfl rfl (by decide) (by decide) (Nat.le_of_ble_eq_true rfl) rfl ?_
  refine z_istore C dX6_doSet_56 (Nat.le_of_ble_eq_true rfl) ?_
  refine z_aload_n C 0 dX6_doSet_58 rfl rfl ?_
  refine z_iconst C (nI 0) dX6_doSet_59 (by decide) ?_
  refine z_iload_n C 2 dX6_doSet_60 rfl rfl ?_
  refine z_callVr C kX6_isDoomed gX6_doSet_X6_isDoomed (mX6_isDoomed_0 X.2.1 a kp ty pl gd od vU vS vN vX vM vT vB vK vY vZ vR vC vV i hO (by first | assumption | omega)) dX6_doSet_61 [0, 1] [] 0 rfl nd_0_1 rfl rfl rfl (by decide) (by decide) (Nat.le_of_ble_eq_true rfl) rfl ?_
  refine z_bif_ne_f C 96 dX6_doSet_64 (by decide) hr ?_
  refine z_aload_n C 0 dX6_doSet_67 rfl rfl ?_
  refine z_iconst C (nI 1) dX6_doSet_68 (by decide) ?_
  refine z_iload_n C 3 dX6_doSet_69 rfl rfl ?_
  refine z_callVr C kX6_isDoomed gX6_doSet_X6_isDoomed (mX6_isDoomed_1 X.2.1 a kp ty pl gd od vU vS vN vX vM vT vB vK vY vZ vR vC vV j hO (by first | assumption | omega)) dX6_doSet_70 [0, 1] [] 0 rfl nd_0_1 rfl rfl rfl (by decide) (by decide) (Nat.le_of_ble_eq_true rfl) rfl ?_
  refine z_bif_ne_f C 96 dX6_doSet_73 (by decide) hc ?_
  refine z_aload_n C 0 dX6_doSet_76 rfl rfl ?_
  refine z_aload_n C 0 dX6_doSet_77 rfl rfl ?_
  refine z_get C fX6_doSet_7 0 dX6_doSet_78 rfl rfl ?_
  refine z_bipush C (nI 51) dX6_doSet_81 (by decide) ?_
  refine z_ialdN C 1 dX6_doSet_83 rfl (by omega) (by decide) ?_
  refine z_top (y := nI (vM)) (zMr_M) ?_
  refine z_iload C dX6_doSet_84 rfl ?_
  refine z_iload C dX6_doSet_86 rfl ?_
  refine z_callVr C kX6_valueBelow gX6_doSet_X6_valueBelow (mX6_valueBelow X.2.1 a kp ty pl gd od vU vS vN vX vM vT vB vK vY vZ vR vC vV (vM) (mN vS vN 0 i) (mN vS vN 1 j) i j hO hM (mPl_0 hW hO hi) (hi) (mPl_1 hW hO hj) (hj)) dX6_doSet_88 [0, 1] [] 0 rfl nd_0_1 rfl rfl rfl (by decide) (by decide) (Nat.le_of_ble_eq_true rfl) rfl ?_
  refine z_iload C dX6_doSet_91 rfl ?_
  refine z_icmp_ne_t C 99 dX6_doSet_93 (by decide) he ?_
  refine z_aload_n C 0 dX6_doSet_99 rfl rfl ?_
  refine z_callVr C kX6_isTracked gX6_doSet_X6_isTracked (mX6_isTracked X.2.1 a kp ty pl gd od vU vS vN vX vM vT vB vK vY vZ vR vC vV ) dX6_doSet_100 [0, 1] [] 0 rfl nd_0_1 rfl rfl rfl (by decide) (by decide) (Nat.le_of_ble_eq_true rfl) rfl ?_
  refine z_bif_ne_t C 183 dX6_doSet_103 (by decide) ht ?_
  refine z_aload_n C 0 dX6_doSet_183 rfl rfl ?_
  refine z_aload_n C 0 dX6_doSet_184 rfl rfl ?_
  refine z_get C fX6_doSet_7 0 dX6_doSet_185 rfl rfl ?_
  refine z_bipush C (nI 51) dX6_doSet_188 (by decide) ?_
  refine z_ialdN C 1 dX6_doSet_190 rfl (by omega) (by decide) ?_
  refine z_top (y := nI (vM)) (zMr_M) ?_
  refine z_iload C dX6_doSet_191 rfl ?_
  refine z_iload C dX6_doSet_193 rfl ?_
  refine z_callVr C kX6_settingBelow gX6_doSet_X6_settingBelow (mX6_settingBelow X.2.1 a kp ty pl gd od vU vS vN vX vM vT vB vK vY vZ vR vC vV (vM) (mN vS vN 0 i) (mN vS vN 1 j) hM) dX6_doSet_195 [0, 1] [] 0 rfl nd_0_1 rfl rfl rfl (by decide) (by decide) (Nat.le_of_ble_eq_true rfl) rfl ?_
  refine z_top (y := nI k) (hik) ?_
  refine z_istore C dX6_doSet_198 (Nat.le_of_ble_eq_true rfl) ?_
  refine z_iload C dX6_doSet_200 rfl ?_
  refine z_nif_lt_f C 265 dX6_doSet_202 (by decide) (by omega) (by trivial) ?_
  refine z_aload_n C 0 dX6_doSet_205 rfl rfl ?_
  refine z_iload C dX6_doSet_206 rfl ?_
  refine z_sipush C (nI 209) dX6_doSet_208 (by decide) ?_
  refine z_callVr C kX6_of gX6_doSet_X6_of (mX6_of_Y X.2.1 a kp ty pl gd od vU vS vN vX vM vT vB vK vY vZ vR vC vV k (by first | assumption | omega)) dX6_doSet_211 [0, 1] [] 0 rfl nd_0_1 rfl rfl rfl (by decide) (by decide) (Nat.le_of_ble_eq_true rfl) rfl ?_
  refine z_iload_n C 1 dX6_doSet_214 rfl rfl ?_
  refine z_icmp_ne_t C 265 dX6_doSet_215 (by decide) hby ?_
  refine z_aload_n C 0 dX6_doSet_265 rfl rfl ?_
  refine z_get C fX6_doSet_7 0 dX6_doSet_266 rfl rfl ?_
  refine z_bipush C (nI 51) dX6_doSet_269 (by decide) ?_
  refine z_ialdN C 1 dX6_doSet_271 rfl (by omega) (by decide) ?_
  refine z_top (y := nI (vM)) (zMr_M) ?_
  refine z_bipush C (nI 60) dX6_doSet_272 (by decide) ?_
  refine z_ncmp_ne_f C 282 dX6_doSet_274 (by decide) (by omega) (by omega) (by omega) ?_
  refine z_bipush C (-3) dX6_doSet_277 (by decide) ?_
  refine z_goto C 294 dX6_doSet_279 (by decide) ?_
  exact z_iret C N dX6_doSet_294 (rfl) (rfl)

set_option maxHeartbeats 4000000 in
set_option maxRecDepth 100000 in
theorem mX6_doSet_nt (E : zE) (a : Nat → Nat) (kp ty pl : Nat) (gd : Bool) (od : Nat) (vU vS : Nat → Nat) (vN : Nat → Int32) (vX vM : Nat) (vT : Bool) (vB vK vY vZ vR vC vV : Nat → Int32) (au i j v : Nat) (hO : okM vU vS vM vK) (hW : nmM vU vS vN) (hau : au < 4) (hi : i < vU 0) (hj : j < vU 1) (hv : v ≤ 9999) (hr : mDm vZ vK vR vC vS vN vM 0 i = false) (hc : mDm vZ vK vR vC vS vN vM 1 j = false) (he : ¬ mVB vZ vK vR vC vB vS vV (vM) (mN vS vN 0 i) (mN vS vN 1 j) i j = nI v) (ht : vT = true) (hik : zg (mSt vZ vK vR vC (mN vS vN 0 i) (mN vS vN 1 j)) (vM) = -5) (hf : vM < 60) : zM E yX6_doSet wsX6_doSet 5 [.ref (a 0), .int (nI au), .int (nI i), .int (nI j), .int (nI v)] [((a 0), .inr (6, [.ref (a 1), .ref (a 2), .ref (a 3), .int (nI kp), .int (nI ty), .ref (a 4), .int (nI pl), .int (zb gd), .int (nI od), .ref (a 5)])), ((a 1), .inl (E.2.2.1, 512, .inl (mRow vU vS vN vX vM vT vB vK vY vZ vR vC vV)))] [((a 0), .inr (6, [.ref (a 1), .ref (a 2), .ref (a 3), .int (nI kp), .int (nI ty), .ref (a 4), .int (nI pl), .int (zb gd), .int (nI od), .ref (a 5)])), ((a 1), .inl (E.2.2.1, 512, .inl (mRow vU vS vN vX (vM + 1) vT vB (upd vK vM (nI 4)) (upd vY vM (nI au)) (upd vZ vM (nI 0)) (upd vR vM (mN vS vN 0 i)) (upd vC vM (mN vS vN 1 j)) (upd vV vM (nI v)))))] (some (.int (nI (vM)))) := by
  refine zM.of kX6_doSet (Nat.le_of_ble_eq_true rfl) rfl [some (.ref (a 0)), some (.int (nI au)), some (.int (nI i)), some (.int (nI j)), some (.int (nI v)), none, none, none] rfl (Nat.le_of_ble_eq_true rfl) ?_
  intro X eX C N
  subst eX
  obtain ⟨hu0, hu1, hM, hk1, hk2, hk3⟩ := id hO
  refine z_iload_n C 1 dX6_doSet_0 rfl rfl ?_
  refine z_callS C kX6_noAuthor gX6_doSet_X6_noAuthor (mX6_noAuthor_y X.2.1 au hau) dX6_doSet_1 [] rfl (by decide) (by decide) (Nat.le_of_ble_eq_true rfl) rfl ?_
  refine z_bif_ne_f C 25 dX6_doSet_4 (by decide) rfl ?_
  refine z_aload_n C 0 dX6_doSet_7 rfl rfl ?_
  refine z_iconst C (nI 0) dX6_doSet_8 (by decide) ?_
  refine z_iload_n C 2 dX6_doSet_9 rfl rfl ?_
  refine z_callVr C kX6_noLine gX6_doSet_X6_noLine (mX6_noLine_0_y X.2.1 a kp ty pl gd od vU vS vN vX vM vT vB vK vY vZ vR vC vV i hO hi) dX6_doSet_10 [0, 1] [] 0 rfl nd_0_1 rfl rfl rfl (by decide) (by decide) (Nat.le_of_ble_eq_true rfl) rfl ?_
  refine z_bif_ne_f C 25 dX6_doSet_13 (by decide) rfl ?_
  refine z_aload_n C 0 dX6_doSet_16 rfl rfl ?_
  refine z_iconst C (nI 1) dX6_doSet_17 (by decide) ?_
  refine z_iload_n C 3 dX6_doSet_18 rfl rfl ?_
  refine z_callVr C kX6_noLine gX6_doSet_X6_noLine (mX6_noLine_1_y X.2.1 a kp ty pl gd od vU vS vN vX vM vT vB vK vY vZ vR vC vV j hO hj) dX6_doSet_19 [0, 1] [] 0 rfl nd_0_1 rfl rfl rfl (by decide) (by decide) (Nat.le_of_ble_eq_true rfl) rfl ?_
  refine z_bif_eq_t C 27 dX6_doSet_22 (by decide) rfl ?_
  refine z_iload C dX6_doSet_27 rfl ?_
  refine z_iconst C (nI 0) dX6_doSet_29 (by decide) ?_
  refine z_sipush C (nI 9999) dX6_doSet_30 (by decide) ?_
  refine z_callS C kX6_in gX6_doSet_X6_in (mX6_in_y X.2.1 v 9999 hv (by first | assumption | omega)) dX6_doSet_33 [] rfl (by decide) (by decide) (Nat.le_of_ble_eq_true rfl) rfl ?_
  refine z_bif_ne_t C 42 dX6_doSet_36 (by decide) rfl ?_
  refine z_aload_n C 0 dX6_doSet_42 rfl rfl ?_
  refine z_iconst C (nI 0) dX6_doSet_43 (by decide) ?_
  refine z_iload_n C 2 dX6_doSet_44 rfl rfl ?_
  refine z_callVr C kX6_nameAt gX6_doSet_X6_nameAt (mX6_nameAt_0 X.2.1 a kp ty pl gd od vU vS vN vX vM vT vB vK vY vZ vR vC vV i hO (by first | assumption | omega)) dX6_doSet_45 [0, 1] [] 0 rfl nd_0_1 rfl rfl rfl (by decide) (by decide) (Nat.le_of_ble_eq_true rfl) rfl ?_
  refine z_istore C dX6_doSet_48 (Nat.le_of_ble_eq_true rfl) ?_
  refine z_aload_n C 0 dX6_doSet_50 rfl rfl ?_
  refine z_iconst C (nI 1) dX6_doSet_51 (by decide) ?_
  refine z_iload_n C 3 dX6_doSet_52 rfl rfl ?_
  refine z_callVr C kX6_nameAt gX6_doSet_X6_nameAt (mX6_nameAt_1 X.2.1 a kp ty pl gd od vU vS vN vX vM vT vB vK vY vZ vR vC vV j hO (by first | assumption | omega)) dX6_doSet_53 [0, 1] [] 0 rfl nd_0_1 rfl rfl rfl (by decide) (by decide) (Nat.le_of_ble_eq_true rfl) rfl ?_
  refine z_istore C dX6_doSet_56 (Nat.le_of_ble_eq_true rfl) ?_
  refine z_aload_n C 0 dX6_doSet_58 rfl rfl ?_
  refine z_iconst C (nI 0) dX6_doSet_59 (by decide) ?_
  refine z_iload_n C 2 dX6_doSet_60 rfl rfl ?_
  refine z_callVr C kX6_isDoomed gX6_doSet_X6_isDoomed (mX6_isDoomed_0 X.2.1 a kp ty pl gd od vU vS vN vX vM vT vB vK vY vZ vR vC vV i hO (by first | assumption | omega)) dX6_doSet_61 [0, 1] [] 0 rfl nd_0_1 rfl rfl rfl (by decide) (by decide) (Nat.le_of_ble_eq_true rfl) rfl ?_
  refine z_bif_ne_f C 96 dX6_doSet_64 (by decide) hr ?_
  refine z_aload_n C 0 dX6_doSet_67 rfl rfl ?_
  refine z_iconst C (nI 1) dX6_doSet_68 (by decide) ?_
  refine z_iload_n C 3 dX6_doSet_69 rfl rfl ?_
  refine z_callVr C kX6_isDoomed gX6_doSet_X6_isDoomed (mX6_isDoomed_1 X.2.1 a kp ty pl gd od vU vS vN vX vM vT vB vK vY vZ vR vC vV j hO (by first | assumption | omega)) dX6_doSet_70 [0, 1] [] 0 rfl nd_0_1 rfl rfl rfl (by decide) (by decide) (Nat.le_of_ble_eq_true rfl) rfl ?_
  refine z_bif_ne_f C 96 dX6_doSet_73 (by decide) hc ?_
  refine z_aload_n C 0 dX6_doSet_76 rfl rfl ?_
  refine z_aload_n C 0 dX6_doSet_77 rfl rfl ?_
  refine z_get C fX6_doSet_7 0 dX6_doSet_78 rfl rfl ?_
  refine z_bipush C (nI 51) dX6_doSet_81 (by decide) ?_
  refine z_ialdN C 1 dX6_doSet_83 rfl (by omega) (by decide) ?_
  refine z_top (y := nI (vM)) (zMr_M) ?_
  refine z_iload C dX6_doSet_84 rfl ?_
  refine z_iload C dX6_doSet_86 rfl ?_
  refine z_callVr C kX6_valueBelow gX6_doSet_X6_valueBelow (mX6_valueBelow X.2.1 a kp ty pl gd od vU vS vN vX vM vT vB vK vY vZ vR vC vV (vM) (mN vS vN 0 i) (mN vS vN 1 j) i j hO hM (mPl_0 hW hO hi) (hi) (mPl_1 hW hO hj) (hj)) dX6_doSet_88 [0, 1] [] 0 rfl nd_0_1 rfl rfl rfl (by decide) (by decide) (Nat.le_of_ble_eq_true rfl) rfl ?_
  refine z_iload C dX6_doSet_91 rfl ?_
  refine z_icmp_ne_t C 99 dX6_doSet_93 (by decide) he ?_
  refine z_aload_n C 0 dX6_doSet_99 rfl rfl ?_
  refine z_callVr C kX6_isTracked gX6_doSet_X6_isTracked (mX6_isTracked X.2.1 a kp ty pl gd od vU vS vN vX vM vT vB vK vY vZ vR vC vV ) dX6_doSet_100 [0, 1] [] 0 rfl nd_0_1 rfl rfl rfl (by decide) (by decide) (Nat.le_of_ble_eq_true rfl) rfl ?_
  refine z_bif_ne_t C 183 dX6_doSet_103 (by decide) ht ?_
  refine z_aload_n C 0 dX6_doSet_183 rfl rfl ?_
  refine z_aload_n C 0 dX6_doSet_184 rfl rfl ?_
  refine z_get C fX6_doSet_7 0 dX6_doSet_185 rfl rfl ?_
  refine z_bipush C (nI 51) dX6_doSet_188 (by decide) ?_
  refine z_ialdN C 1 dX6_doSet_190 rfl (by omega) (by decide) ?_
  refine z_top (y := nI (vM)) (zMr_M) ?_
  refine z_iload C dX6_doSet_191 rfl ?_
  refine z_iload C dX6_doSet_193 rfl ?_
  refine z_callVr C kX6_settingBelow gX6_doSet_X6_settingBelow (mX6_settingBelow X.2.1 a kp ty pl gd od vU vS vN vX vM vT vB vK vY vZ vR vC vV (vM) (mN vS vN 0 i) (mN vS vN 1 j) hM) dX6_doSet_195 [0, 1] [] 0 rfl nd_0_1 rfl rfl rfl (by decide) (by decide) (Nat.le_of_ble_eq_true rfl) rfl ?_
  refine z_top (y := (-5)) (hik) ?_
  refine z_istore C dX6_doSet_198 (Nat.le_of_ble_eq_true rfl) ?_
  refine z_iload C dX6_doSet_200 rfl ?_
  refine z_if_lt_t C 265 dX6_doSet_202 (by decide) (by decide) ?_
  refine z_aload_n C 0 dX6_doSet_265 rfl rfl ?_
  refine z_get C fX6_doSet_7 0 dX6_doSet_266 rfl rfl ?_
  refine z_bipush C (nI 51) dX6_doSet_269 (by decide) ?_
  refine z_ialdN C 1 dX6_doSet_271 rfl (by omega) (by decide) ?_
  refine z_top (y := nI (vM)) (zMr_M) ?_
  refine z_bipush C (nI 60) dX6_doSet_272 (by decide) ?_
  refine z_ncmp_ne_t C 282 dX6_doSet_274 (by decide) (by omega) (by omega) (by omega) ?_
  refine z_aload_n C 0 dX6_doSet_282 rfl rfl ?_
  refine z_iconst C (nI 4) dX6_doSet_283 (by decide) ?_
  refine z_iload_n C 1 dX6_doSet_284 rfl rfl ?_
  refine z_iload C dX6_doSet_285 rfl ?_
  refine z_iload C dX6_doSet_287 rfl ?_
  refine z_iload C dX6_doSet_289 rfl ?_
  refine z_callV (wn := [((a 0), .inr (6, [.ref (a 1), .ref (a 2), .ref (a 3), .int (nI kp), .int (nI ty), .ref (a 4), .int (nI pl), .int (zb gd), .int (nI od), .ref (a 5)])), ((a 1), .inl (X.2.1.2.2.1, 512, .inl (mRow vU vS vN vX (vM + 1) vT vB (upd vK vM (nI 4)) (upd vY vM (nI au)) (upd vZ vM (nI 0)) (upd vR vM (mN vS vN 0 i)) (upd vC vM (mN vS vN 1 j)) (upd vV vM (nI v)))))]) C kX6_make gX6_doSet_X6_make (mX6_make X.2.1 a kp ty pl gd od vU vS vN vX vM vT vB vK vY vZ vR vC vV (nI 4) (nI au) (mN vS vN 0 i) (mN vS vN 1 j) (nI v) hO hf) dX6_doSet_291 [0, 1] [] 0 rfl rfl nd_0_1 rfl rfl rfl (by decide) (by decide) (Nat.le_of_ble_eq_true rfl) rfl rfl ?_
  exact z_iret C N dX6_doSet_294 (rfl) (rfl)

set_option maxHeartbeats 4000000 in
set_option maxRecDepth 100000 in
theorem mX6_doSet_mt (E : zE) (a : Nat → Nat) (kp ty pl : Nat) (gd : Bool) (od : Nat) (vU vS : Nat → Nat) (vN : Nat → Int32) (vX vM : Nat) (vT : Bool) (vB vK vY vZ vR vC vV : Nat → Int32) (au i j v : Nat) (k : Nat) (hO : okM vU vS vM vK) (hW : nmM vU vS vN) (hau : au < 4) (hi : i < vU 0) (hj : j < vU 1) (hv : v ≤ 9999) (hr : mDm vZ vK vR vC vS vN vM 0 i = false) (hc : mDm vZ vK vR vC vS vN vM 1 j = false) (he : ¬ mVB vZ vK vR vC vB vS vV (vM) (mN vS vN 0 i) (mN vS vN 1 j) i j = nI v) (ht : vT = true) (hik : zg (mSt vZ vK vR vC (mN vS vN 0 i) (mN vS vN 1 j)) (vM) = nI k) (hk : k < vM) (hby : ¬ vY k = nI au) (hf : vM < 60) : zM E yX6_doSet wsX6_doSet 5 [.ref (a 0), .int (nI au), .int (nI i), .int (nI j), .int (nI v)] [((a 0), .inr (6, [.ref (a 1), .ref (a 2), .ref (a 3), .int (nI kp), .int (nI ty), .ref (a 4), .int (nI pl), .int (zb gd), .int (nI od), .ref (a 5)])), ((a 1), .inl (E.2.2.1, 512, .inl (mRow vU vS vN vX vM vT vB vK vY vZ vR vC vV)))] [((a 0), .inr (6, [.ref (a 1), .ref (a 2), .ref (a 3), .int (nI kp), .int (nI ty), .ref (a 4), .int (nI pl), .int (zb gd), .int (nI od), .ref (a 5)])), ((a 1), .inl (E.2.2.1, 512, .inl (mRow vU vS vN vX (vM + 1) vT vB (upd vK vM (nI 4)) (upd vY vM (nI au)) (upd vZ vM (nI 0)) (upd vR vM (mN vS vN 0 i)) (upd vC vM (mN vS vN 1 j)) (upd vV vM (nI v)))))] (some (.int (nI (vM)))) := by
  refine zM.of kX6_doSet (Nat.le_of_ble_eq_true rfl) rfl [some (.ref (a 0)), some (.int (nI au)), some (.int (nI i)), some (.int (nI j)), some (.int (nI v)), none, none, none] rfl (Nat.le_of_ble_eq_true rfl) ?_
  intro X eX C N
  subst eX
  obtain ⟨hu0, hu1, hM, hk1, hk2, hk3⟩ := id hO
  refine z_iload_n C 1 dX6_doSet_0 rfl rfl ?_
  refine z_callS C kX6_noAuthor gX6_doSet_X6_noAuthor (mX6_noAuthor_y X.2.1 au hau) dX6_doSet_1 [] rfl (by decide) (by decide) (Nat.le_of_ble_eq_true rfl) rfl ?_
  refine z_bif_ne_f C 25 dX6_doSet_4 (by decide) rfl ?_
  refine z_aload_n C 0 dX6_doSet_7 rfl rfl ?_
  refine z_iconst C (nI 0) dX6_doSet_8 (by decide) ?_
  refine z_iload_n C 2 dX6_doSet_9 rfl rfl ?_
  refine z_callVr C kX6_noLine gX6_doSet_X6_noLine (mX6_noLine_0_y X.2.1 a kp ty pl gd od vU vS vN vX vM vT vB vK vY vZ vR vC vV i hO hi) dX6_doSet_10 [0, 1] [] 0 rfl nd_0_1 rfl rfl rfl (by decide) (by decide) (Nat.le_of_ble_eq_true rfl) rfl ?_
  refine z_bif_ne_f C 25 dX6_doSet_13 (by decide) rfl ?_
  refine z_aload_n C 0 dX6_doSet_16 rfl rfl ?_
  refine z_iconst C (nI 1) dX6_doSet_17 (by decide) ?_
  refine z_iload_n C 3 dX6_doSet_18 rfl rfl ?_
  refine z_callVr C kX6_noLine gX6_doSet_X6_noLine (mX6_noLine_1_y X.2.1 a kp ty pl gd od vU vS vN vX vM vT vB vK vY vZ vR vC vV j hO hj) dX6_doSet_19 [0, 1] [] 0 rfl nd_0_1 rfl rfl rfl (by decide) (by decide) (Nat.le_of_ble_eq_true rfl) rfl ?_
  refine z_bif_eq_t C 27 dX6_doSet_22 (by decide) rfl ?_
  refine z_iload C dX6_doSet_27 rfl ?_
  refine z_iconst C (nI 0) dX6_doSet_29 (by decide) ?_
  refine z_sipush C (nI 9999) dX6_doSet_30 (by decide) ?_
  refine z_callS C kX6_in gX6_doSet_X6_in (mX6_in_y X.2.1 v 9999 hv (by first | assumption | omega)) dX6_doSet_33 [] rfl (by decide) (by decide) (Nat.le_of_ble_eq_true rfl) rfl ?_
  refine z_bif_ne_t C 42 dX6_doSet_36 (by decide) rfl ?_
  refine z_aload_n C 0 dX6_doSet_42 rfl rfl ?_
  refine z_iconst C (nI 0) dX6_doSet_43 (by decide) ?_
  refine z_iload_n C 2 dX6_doSet_44 rfl rfl ?_
  refine z_callVr C kX6_nameAt gX6_doSet_X6_nameAt (mX6_nameAt_0 X.2.1 a kp ty pl gd od vU vS vN vX vM vT vB vK vY vZ vR vC vV i hO (by first | assumption | omega)) dX6_doSet_45 [0, 1] [] 0 rfl nd_0_1 rfl rfl rfl (by decide) (by decide) (Nat.le_of_ble_eq_true rfl) rfl ?_
  refine z_istore C dX6_doSet_48 (Nat.le_of_ble_eq_true rfl) ?_
  refine z_aload_n C 0 dX6_doSet_50 rfl rfl ?_
  refine z_iconst C (nI 1) dX6_doSet_51 (by decide) ?_
  refine z_iload_n C 3 dX6_doSet_52 rfl rfl ?_
  refine z_callVr C kX6_nameAt gX6_doSet_X6_nameAt (mX6_nameAt_1 X.2.1 a kp ty pl gd od vU vS vN vX vM vT vB vK vY vZ vR vC vV j hO (by first | assumption | omega)) dX6_doSet_53 [0, 1] [] 0 rfl nd_0_1 rfl rfl rfl (by decide) (by decide) (Nat.le_of_ble_eq_true rfl) rfl ?_
  refine z_istore C dX6_doSet_56 (Nat.le_of_ble_eq_true rfl) ?_
  refine z_aload_n C 0 dX6_doSet_58 rfl rfl ?_
  refine z_iconst C (nI 0) dX6_doSet_59 (by decide) ?_
  refine z_iload_n C 2 dX6_doSet_60 rfl rfl ?_
  refine z_callVr C kX6_isDoomed gX6_doSet_X6_isDoomed (mX6_isDoomed_0 X.2.1 a kp ty pl gd od vU vS vN vX vM vT vB vK vY vZ vR vC vV i hO (by first | assumption | omega)) dX6_doSet_61 [0, 1] [] 0 rfl nd_0_1 rfl rfl rfl (by decide) (by decide) (Nat.le_of_ble_eq_true rfl) rfl ?_
  refine z_bif_ne_f C 96 dX6_doSet_64 (by decide) hr ?_
  refine z_aload_n C 0 dX6_doSet_67 rfl rfl ?_
  refine z_iconst C (nI 1) dX6_doSet_68 (by decide) ?_
  refine z_iload_n C 3 dX6_doSet_69 rfl rfl ?_
  refine z_callVr C kX6_isDoomed gX6_doSet_X6_isDoomed (mX6_isDoomed_1 X.2.1 a kp ty pl gd od vU vS vN vX vM vT vB vK vY vZ vR vC vV j hO (by first | assumption | omega)) dX6_doSet_70 [0, 1] [] 0 rfl nd_0_1 rfl rfl rfl (by decide) (by decide) (Nat.le_of_ble_eq_true rfl) rfl ?_
  refine z_bif_ne_f C 96 dX6_doSet_73 (by decide) hc ?_
  refine z_aload_n C 0 dX6_doSet_76 rfl rfl ?_
  refine z_aload_n C 0 dX6_doSet_77 rfl rfl ?_
  refine z_get C fX6_doSet_7 0 dX6_doSet_78 rfl rfl ?_
  refine z_bipush C (nI 51) dX6_doSet_81 (by decide) ?_
  refine z_ialdN C 1 dX6_doSet_83 rfl (by omega) (by decide) ?_
  refine z_top (y := nI (vM)) (zMr_M) ?_
  refine z_iload C dX6_doSet_84 rfl ?_
  refine z_iload C dX6_doSet_86 rfl ?_
  refine z_callVr C kX6_valueBelow gX6_doSet_X6_valueBelow (mX6_valueBelow X.2.1 a kp ty pl gd od vU vS vN vX vM vT vB vK vY vZ vR vC vV (vM) (mN vS vN 0 i) (mN vS vN 1 j) i j hO hM (mPl_0 hW hO hi) (hi) (mPl_1 hW hO hj) (hj)) dX6_doSet_88 [0, 1] [] 0 rfl nd_0_1 rfl rfl rfl (by decide) (by decide) (Nat.le_of_ble_eq_true rfl) rfl ?_
  refine z_iload C dX6_doSet_91 rfl ?_
  refine z_icmp_ne_t C 99 dX6_doSet_93 (by decide) he ?_
  refine z_aload_n C 0 dX6_doSet_99 rfl rfl ?_
  refine z_callVr C kX6_isTracked gX6_doSet_X6_isTracked (mX6_isTracked X.2.1 a kp ty pl gd od vU vS vN vX vM vT vB vK vY vZ vR vC vV ) dX6_doSet_100 [0, 1] [] 0 rfl nd_0_1 rfl rfl rfl (by decide) (by decide) (Nat.le_of_ble_eq_true rfl) rfl ?_
  refine z_bif_ne_t C 183 dX6_doSet_103 (by decide) ht ?_
  refine z_aload_n C 0 dX6_doSet_183 rfl rfl ?_
  refine z_aload_n C 0 dX6_doSet_184 rfl rfl ?_
  refine z_get C fX6_doSet_7 0 dX6_doSet_185 rfl rfl ?_
  refine z_bipush C (nI 51) dX6_doSet_188 (by decide) ?_
  refine z_ialdN C 1 dX6_doSet_190 rfl (by omega) (by decide) ?_
  refine z_top (y := nI (vM)) (zMr_M) ?_
  refine z_iload C dX6_doSet_191 rfl ?_
  refine z_iload C dX6_doSet_193 rfl ?_
  refine z_callVr C kX6_settingBelow gX6_doSet_X6_settingBelow (mX6_settingBelow X.2.1 a kp ty pl gd od vU vS vN vX vM vT vB vK vY vZ vR vC vV (vM) (mN vS vN 0 i) (mN vS vN 1 j) hM) dX6_doSet_195 [0, 1] [] 0 rfl nd_0_1 rfl rfl rfl (by decide) (by decide) (Nat.le_of_ble_eq_true rfl) rfl ?_
  refine z_top (y := nI k) (hik) ?_
  refine z_istore C dX6_doSet_198 (Nat.le_of_ble_eq_true rfl) ?_
  refine z_iload C dX6_doSet_200 rfl ?_
  refine z_nif_lt_f C 265 dX6_doSet_202 (by decide) (by omega) (by trivial) ?_
  refine z_aload_n C 0 dX6_doSet_205 rfl rfl ?_
  refine z_iload C dX6_doSet_206 rfl ?_
  refine z_sipush C (nI 209) dX6_doSet_208 (by decide) ?_
  refine z_callVr C kX6_of gX6_doSet_X6_of (mX6_of_Y X.2.1 a kp ty pl gd od vU vS vN vX vM vT vB vK vY vZ vR vC vV k (by first | assumption | omega)) dX6_doSet_211 [0, 1] [] 0 rfl nd_0_1 rfl rfl rfl (by decide) (by decide) (Nat.le_of_ble_eq_true rfl) rfl ?_
  refine z_iload_n C 1 dX6_doSet_214 rfl rfl ?_
  refine z_icmp_ne_t C 265 dX6_doSet_215 (by decide) hby ?_
  refine z_aload_n C 0 dX6_doSet_265 rfl rfl ?_
  refine z_get C fX6_doSet_7 0 dX6_doSet_266 rfl rfl ?_
  refine z_bipush C (nI 51) dX6_doSet_269 (by decide) ?_
  refine z_ialdN C 1 dX6_doSet_271 rfl (by omega) (by decide) ?_
  refine z_top (y := nI (vM)) (zMr_M) ?_
  refine z_bipush C (nI 60) dX6_doSet_272 (by decide) ?_
  refine z_ncmp_ne_t C 282 dX6_doSet_274 (by decide) (by omega) (by omega) (by omega) ?_
  refine z_aload_n C 0 dX6_doSet_282 rfl rfl ?_
  refine z_iconst C (nI 4) dX6_doSet_283 (by decide) ?_
  refine z_iload_n C 1 dX6_doSet_284 rfl rfl ?_
  refine z_iload C dX6_doSet_285 rfl ?_
  refine z_iload C dX6_doSet_287 rfl ?_
  refine z_iload C dX6_doSet_289 rfl ?_
  refine z_callV (wn := [((a 0), .inr (6, [.ref (a 1), .ref (a 2), .ref (a 3), .int (nI kp), .int (nI ty), .ref (a 4), .int (nI pl), .int (zb gd), .int (nI od), .ref (a 5)])), ((a 1), .inl (X.2.1.2.2.1, 512, .inl (mRow vU vS vN vX (vM + 1) vT vB (upd vK vM (nI 4)) (upd vY vM (nI au)) (upd vZ vM (nI 0)) (upd vR vM (mN vS vN 0 i)) (upd vC vM (mN vS vN 1 j)) (upd vV vM (nI v)))))]) C kX6_make gX6_doSet_X6_make (mX6_make X.2.1 a kp ty pl gd od vU vS vN vX vM vT vB vK vY vZ vR vC vV (nI 4) (nI au) (mN vS vN 0 i) (mN vS vN 1 j) (nI v) hO hf) dX6_doSet_291 [0, 1] [] 0 rfl rfl nd_0_1 rfl rfl rfl (by decide) (by decide) (Nat.le_of_ble_eq_true rfl) rfl rfl ?_
  exact z_iret C N dX6_doSet_294 (rfl) (rfl)
