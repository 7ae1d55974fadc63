theorem kX6_doInsert : zY yX6_doInsert wsX6_doInsert cX6_doInsert 5 (some .int) 3 := ⟨⟨_, rfl⟩, ⟨by decide +kernel, by decide +kernel, by decide +kernel⟩, by decide +kernel⟩
set_option maxHeartbeats 4000000 in
set_option maxRecDepth 100000 in
theorem mX6_doInsert_b1 (E : zE) (a : Nat → Nat) (kp ty pl : Nat) (gd : Bool) (od : Nat) (vU vS : Nat → Nat) (vN : Nat → Int32) (vX vM : Nat) (vT : Bool) (vB vK vY vZ vR vC vV : Nat → Int32) (au ax p : Int32) (hO : okM vU vS vM vK) (hx : au < 0 ∨ (¬ au < 0 ∧ nI 4 ≤ au)) : zM E yX6_doInsert wsX6_doInsert 3 [.ref (a 0), .int au, .int ax, .int p] [((a 0), .inr (6, [.ref (a 1), .ref (a 2), .ref (a 3), .int (nI kp), .int (nI ty), .ref (a 4), .int (nI pl), .int (zb gd), .int (nI od), .ref (a 5)])), ((a 1), .inl (E.2.2.1, 512, .inl (mRow vU vS vN vX vM vT vB vK vY vZ vR vC vV)))] [((a 0), .inr (6, [.ref (a 1), .ref (a 2), .ref (a 3), .int (nI kp), .int (nI ty), .ref (a 4), .int (nI pl), .int (zb gd), .int (nI od), .ref (a 5)])), ((a 1), .inl (E.2.2.1, 512, .inl (mRow vU vS vN vX vM vT vB vK vY vZ vR vC vV)))] (some (.int (-1))) := by
  refine zM.of kX6_doInsert (Nat.le_of_ble_eq_true rfl) rfl [some (.ref (a 0)), some (.int au), some (.int ax), some (.int p), none] rfl (Nat.le_of_ble_eq_true rfl) ?_
  intro X eX C N
  subst eX
  obtain ⟨hu0, hu1, hM, hk1, hk2, hk3⟩ := id hO
  refine z_iload_n C 1 dX6_doInsert_0 rfl rfl ?_
  refine z_callS C kX6_noAuthor gX6_doInsert_X6_noAuthor (mX6_noAuthor_n X.2.1 au hx) dX6_doInsert_1 [] rfl (by decide) (by decide) (Nat.le_of_ble_eq_true rfl) rfl ?_
  refine z_bif_ne_t C 16 dX6_doInsert_4 (by decide) rfl ?_
  refine z_iconst C (-1) dX6_doInsert_16 (by decide) ?_
  exact z_iret C N dX6_doInsert_17 (rfl) (rfl)

set_option maxHeartbeats 4000000 in
set_option maxRecDepth 100000 in
theorem mX6_doInsert_b2 (E : zE) (a : Nat → Nat) (kp ty pl : Nat) (gd : Bool) (od : Nat) (vU vS : Nat → Nat) (vN : Nat → Int32) (vX vM : Nat) (vT : Bool) (vB vK vY vZ vR vC vV : Nat → Int32) (au : Nat) (ax p : Int32) (hO : okM vU vS vM vK) (hau : au < 4) (hax : ax < 0 ∨ (¬ ax < 0 ∧ nI 1 < ax)) : zM E yX6_doInsert wsX6_doInsert 3 [.ref (a 0), .int (nI au), .int ax, .int p] [((a 0), .inr (6, [.ref (a 1), .ref (a 2), .ref (a 3), .int (nI kp), .int (nI ty), .ref (a 4), .int (nI pl), .int (zb gd), .int (nI od), .ref (a 5)])), ((a 1), .inl (E.2.2.1, 512, .inl (mRow vU vS vN vX vM vT vB vK vY vZ vR vC vV)))] [((a 0), .inr (6, [.ref (a 1), .ref (a 2), .ref (a 3), .int (nI kp), .int (nI ty), .ref (a 4), .int (nI pl), .int (zb gd), .int (nI od), .ref (a 5)])), ((a 1), .inl (E.2.2.1, 512, .inl (mRow vU vS vN vX vM vT vB vK vY vZ vR vC vV)))] (some (.int (-1))) := by
  refine zM.of kX6_doInsert (Nat.le_of_ble_eq_true rfl) rfl [some (.ref (a 0)), some (.int (nI au)), some (.int ax), some (.int p), none] rfl (Nat.le_of_ble_eq_true rfl) ?_
  intro X eX C N
  subst eX
  obtain ⟨hu0, hu1, hM, hk1, hk2, hk3⟩ := id hO
  refine z_iload_n C 1 dX6_doInsert_0 rfl rfl ?_
  refine z_callS C kX6_noAuthor gX6_doInsert_X6_noAuthor (mX6_noAuthor_y X.2.1 au hau) dX6_doInsert_1 [] rfl (by decide) (by decide) (Nat.le_of_ble_eq_true rfl) rfl ?_
  refine z_bif_ne_f C 16 dX6_doInsert_4 (by decide) rfl ?_
  refine z_iload_n C 2 dX6_doInsert_7 rfl rfl ?_
  refine z_iconst C (nI 0) dX6_doInsert_8 (by decide) ?_
  refine z_iconst C (nI 1) dX6_doInsert_9 (by decide) ?_
  refine z_callS C kX6_in gX6_doInsert_X6_in (mX6_in_n X.2.1 ax 1 hax) dX6_doInsert_10 [] rfl (by decide) (by decide) (Nat.le_of_ble_eq_true rfl) rfl ?_
  refine z_bif_ne_f C 18 dX6_doInsert_13 (by decide) rfl ?_
  refine z_iconst C (-1) dX6_doInsert_16 (by decide) ?_
  exact z_iret C N dX6_doInsert_17 (rfl) (rfl)

set_option maxHeartbeats 4000000 in
set_option maxRecDepth 100000 in
theorem mX6_doInsert_0b (E : zE) (a : Nat → Nat) (kp ty pl : Nat) (gd : Bool) (od : Nat) (vU vS : Nat → Nat) (vN : Nat → Int32) (vX vM : Nat) (vT : Bool) (vB vK vY vZ vR vC vV : Nat → Int32) (au : Nat) (p : Int32) (hO : okM vU vS vM vK) (hau : au < 4) (hx : p < 0 ∨ (¬ p < 0 ∧ nI (vU 0) < p)) : zM E yX6_doInsert wsX6_doInsert 3 [.ref (a 0), .int (nI au), .int (nI 0), .int p] [((a 0), .inr (6, [.ref (a 1), .ref (a 2), .ref (a 3), .int (nI kp), .int (nI ty), .ref (a 4), .int (nI pl), .int (zb gd), .int (nI od), .ref (a 5)])), ((a 1), .inl (E.2.2.1, 512, .inl (mRow vU vS vN vX vM vT vB vK vY vZ vR vC vV)))] [((a 0), .inr (6, [.ref (a 1), .ref (a 2), .ref (a 3), .int (nI kp), .int (nI ty), .ref (a 4), .int (nI pl), .int (zb gd), .int (nI od), .ref (a 5)])), ((a 1), .inl (E.2.2.1, 512, .inl (mRow vU vS vN vX vM vT vB vK vY vZ vR vC vV)))] (some (.int (-2))) := by
  refine zM.of kX6_doInsert (Nat.le_of_ble_eq_true rfl) rfl [some (.ref (a 0)), some (.int (nI au)), some (.int (nI 0)), some (.int p), none] rfl (Nat.le_of_ble_eq_true rfl) ?_
  intro X eX C N
  subst eX
  obtain ⟨hu0, hu1, hM, hk1, hk2, hk3⟩ := id hO
  refine z_iload_n C 1 dX6_doInsert_0 rfl rfl ?_
  refine z_callS C kX6_noAuthor gX6_doInsert_X6_noAuthor (mX6_noAuthor_y X.2.1 au hau) dX6_doInsert_1 [] rfl (by decide) (by decide) (Nat.le_of_ble_eq_true rfl) rfl ?_
  refine z_bif_ne_f C 16 dX6_doInsert_4 (by decide) rfl ?_
  refine z_iload_n C 2 dX6_doInsert_7 rfl rfl ?_
  refine z_iconst C (nI 0) dX6_doInsert_8 (by decide) ?_
  refine z_iconst C (nI 1) dX6_doInsert_9 (by decide) ?_
  refine z_callS C kX6_in gX6_doInsert_X6_in (mX6_in_y X.2.1 0 1 (by first | assumption | omega) (by first | assumption | omega)) dX6_doInsert_10 [] rfl (by decide) (by decide) (Nat.le_of_ble_eq_true rfl) rfl ?_
  refine z_bif_ne_t C 18 dX6_doInsert_13 (by decide) rfl ?_
  refine z_iload_n C 3 dX6_doInsert_18 rfl rfl ?_
  refine z_iconst C (nI 0) dX6_doInsert_19 (by decide) ?_
  refine z_aload_n C 0 dX6_doInsert_20 rfl rfl ?_
  refine z_iload_n C 2 dX6_doInsert_21 rfl rfl ?_
  refine z_callVr C kX6_many gX6_doInsert_X6_many (mX6_many_0 X.2.1 a kp ty pl gd od vU vS vN vX vM vT vB vK vY vZ vR vC vV ) dX6_doInsert_22 [0, 1] [.int (nI 0), .int p] 0 rfl nd_0_1 rfl rfl rfl (by decide) (by decide) (Nat.le_of_ble_eq_true rfl) rfl ?_
  refine z_callS C kX6_in gX6_doInsert_X6_in (mX6_in_n X.2.1 p (vU 0) hx) dX6_doInsert_25 [] rfl (by decide) (by decide) (Nat.le_of_ble_eq_true rfl) rfl ?_
  refine z_bif_ne_f C 34 dX6_doInsert_28 (by decide) rfl ?_
  refine z_bipush C (-2) dX6_doInsert_31 (by decide) ?_
  exact z_iret C N dX6_doInsert_33 (rfl) (rfl)

set_option maxHeartbeats 4000000 in
set_option maxRecDepth 100000 in
theorem mX6_doInsert_0f1 (E : zE) (a : Nat → Nat) (kp ty pl : Nat) (gd : Bool) (od : Nat) (vU vS : Nat → Nat) (vN : Nat → Int32) (vX vM : Nat) (vT : Bool) (vB vK vY vZ vR vC vV : Nat → Int32) (au j : Nat) (hO : okM vU vS vM vK) (hau : au < 4) (hj : j ≤ vU 0) (hf : vU 0 = 12) : zM E yX6_doInsert wsX6_doInsert 3 [.ref (a 0), .int (nI au), .int (nI 0), .int (nI j)] [((a 0), .inr (6, [.ref (a 1), .ref (a 2), .ref (a 3), .int (nI kp), .int (nI ty), .ref (a 4), .int (nI pl), .int (zb gd), .int (nI od), .ref (a 5)])), ((a 1), .inl (E.2.2.1, 512, .inl (mRow vU vS vN vX vM vT vB vK vY vZ vR vC vV)))] [((a 0), .inr (6, [.ref (a 1), .ref (a 2), .ref (a 3), .int (nI kp), .int (nI ty), .ref (a 4), .int (nI pl), .int (zb gd), .int (nI od), .ref (a 5)])), ((a 1), .inl (E.2.2.1, 512, .inl (mRow vU vS vN vX vM vT vB vK vY vZ vR vC vV)))] (some (.int (-3))) := by
  refine zM.of kX6_doInsert (Nat.le_of_ble_eq_true rfl) rfl [some (.ref (a 0)), some (.int (nI au)), some (.int (nI 0)), some (.int (nI j)), none] rfl (Nat.le_of_ble_eq_true rfl) ?_
  intro X eX C N
  subst eX
  obtain ⟨hu0, hu1, hM, hk1, hk2, hk3⟩ := id hO
  refine z_iload_n C 1 dX6_doInsert_0 rfl rfl ?_
  refine z_callS C kX6_noAuthor gX6_doInsert_X6_noAuthor (mX6_noAuthor_y X.2.1 au hau) dX6_doInsert_1 [] rfl (by decide) (by decide) (Nat.le_of_ble_eq_true rfl) rfl ?_
  refine z_bif_ne_f C 16 dX6_doInsert_4 (by decide) rfl ?_
  refine z_iload_n C 2 dX6_doInsert_7 rfl rfl ?_
  refine z_iconst C (nI 0) dX6_doInsert_8 (by decide) ?_
  refine z_iconst C (nI 1) dX6_doInsert_9 (by decide) ?_
  refine z_callS C kX6_in gX6_doInsert_X6_in (mX6_in_y X.2.1 0 1 (by first | assumption | omega) (by first | assumption | omega)) dX6_doInsert_10 [] rfl (by decide) (by decide) (Nat.le_of_ble_eq_true rfl) rfl ?_
  refine z_bif_ne_t C 18 dX6_doInsert_13 (by decide) rfl ?_
  refine z_iload_n C 3 dX6_doInsert_18 rfl rfl ?_
  refine z_iconst C (nI 0) dX6_doInsert_19 (by decide) ?_
  refine z_aload_n C 0 dX6_doInsert_20 rfl rfl ?_
  refine z_iload_n C 2 dX6_doInsert_21 rfl rfl ?_
  refine z_callVr C kX6_many gX6_doInsert_X6_many (mX6_many_0 X.2.1 a kp ty pl gd od vU vS vN vX vM vT vB vK vY vZ vR vC vV ) dX6_doInsert_22 [0, 1] [.int (nI 0), .int (nI j)] 0 rfl nd_0_1 rfl rfl rfl (by decide) (by decide) (Nat.le_of_ble_eq_true rfl) rfl ?_
  refine z_callS C kX6_in gX6_doInsert_X6_in (mX6_in_y X.2.1 j (vU 0) hj (by first | assumption | omega)) dX6_doInsert_25 [] rfl (by decide) (by decide) (Nat.le_of_ble_eq_true rfl) rfl ?_
  refine z_bif_ne_t C 34 dX6_doInsert_28 (by decide) rfl ?_
  refine z_aload_n C 0 dX6_doInsert_34 rfl rfl ?_
  refine z_iload_n C 2 dX6_doInsert_35 rfl rfl ?_
  refine z_callVr C kX6_many gX6_doInsert_X6_many (mX6_many_0 X.2.1 a kp ty pl gd od vU vS vN vX vM vT vB vK vY vZ vR vC vV ) dX6_doInsert_36 [0, 1] [] 0 rfl nd_0_1 rfl rfl rfl (by decide) (by decide) (Nat.le_of_ble_eq_true rfl) rfl ?_
  refine z_iload_n C 2 dX6_doInsert_39 rfl rfl ?_
  refine z_nif_ne_f C 48 dX6_doInsert_40 (by decide) (by omega) (by omega) ?_
  refine z_bipush C (nI 12) dX6_doInsert_43 (by decide) ?_
  refine z_goto C 50 dX6_doInsert_45 (by decide) ?_
  refine z_ncmp_eq_t C 72 dX6_doInsert_50 (by decide) (by omega) (by omega) (by omega) ?_
  refine z_bipush C (-3) dX6_doInsert_72 (by decide) ?_
  exact z_iret C N dX6_doInsert_74 (rfl) (rfl)

theorem fX6_doInsert_7 : zF wsX6_doInsert RX6 7 6 0 RX6 TX6 10 := ⟨by decide +kernel, rfl, by decide, by decide +kernel, rfl⟩
set_option maxHeartbeats 4000000 in
set_option maxRecDepth 100000 in
theorem mX6_doInsert_0f2 (E : zE) (a : Nat → Nat) (kp ty pl : Nat) (gd : Bool) (od : Nat) (vU vS : Nat → Nat) (vN : Nat → Int32) (vX vM : Nat) (vT : Bool) (vB vK vY vZ vR vC vV : Nat → Int32) (au j : Nat) (hO : okM vU vS vM vK) (hau : au < 4) (hj : j ≤ vU 0) (hf : vU 0 < 12) (ht : vT = true) (hf2 : vM = 60) : zM E yX6_doInsert wsX6_doInsert 3 [.ref (a 0), .int (nI au), .int (nI 0), .int (nI j)] [((a 0), .inr (6, [.ref (a 1), .ref (a 2), .ref (a 3), .int (nI kp), .int (nI ty), .ref (a 4), .int (nI pl), .int (zb gd), .int (nI od), .ref (a 5)])), ((a 1), .inl (E.2.2.1, 512, .inl (mRow vU vS vN vX vM vT vB vK vY vZ vR vC vV)))] [((a 0), .inr (6, [.ref (a 1), .ref (a 2), .ref (a 3), .int (nI kp), .int (nI ty), .ref (a 4), .int (nI pl), .int (zb gd), .int (nI od), .ref (a 5)])), ((a 1), .inl (E.2.2.1, 512, .inl (mRow vU vS vN vX vM vT vB vK vY vZ vR vC vV)))] (some (.int (-3))) := by
  refine zM.of kX6_doInsert (Nat.le_of_ble_eq_true rfl) rfl [some (.ref (a 0)), some (.int (nI au)), some (.int (nI 0)), some (.int (nI j)), none] rfl (Nat.le_of_ble_eq_true rfl) ?_
  intro X eX C N
  subst eX
  obtain ⟨hu0, hu1, hM, hk1, hk2, hk3⟩ := id hO
  refine z_iload_n C 1 dX6_doInsert_0 rfl rfl ?_
  refine z_callS C kX6_noAuthor gX6_doInsert_X6_noAuthor (mX6_noAuthor_y X.2.1 au hau) dX6_doInsert_1 [] rfl (by decide) (by decide) (Nat.le_of_ble_eq_true rfl) rfl ?_
  refine z_bif_ne_f C 16 dX6_doInsert_4 (by decide) rfl ?_
  refine z_iload_n C 2 dX6_doInsert_7 rfl rfl ?_
  refine z_iconst C (nI 0) dX6_doInsert_8 (by decide) ?_
  refine z_iconst C (nI 1) dX6_doInsert_9 (by decide) ?_
  refine z_callS C kX6_in gX6_doInsert_X6_in (mX6_in_y X.2.1 0 1 (by first | assumption | omega) (by first | assumption | omega)) dX6_doInsert_10 [] rfl (by decide) (by decide) (Nat.le_of_ble_eq_true rfl) rfl ?_
  refine z_bif_ne_t C 18 dX6_doInsert_13 (by decide) rfl ?_
  refine z_iload_n C 3 dX6_doInsert_18 rfl rfl ?_
  refine z_iconst C (nI 0) dX6_doInsert_19 (by decide) ?_
  refine z_aload_n C 0 dX6_doInsert_20 rfl rfl ?_
  refine z_iload_n C 2 dX6_doInsert_21 rfl rfl ?_
  refine z_callVr C kX6_many gX6_doInsert_X6_many (mX6_many_0 X.2.1 a kp ty pl gd od vU vS vN vX vM vT vB vK vY vZ vR vC vV ) dX6_doInsert_22 [0, 1] [.int (nI 0), .int (nI j)] 0 rfl nd_0_1 rfl rfl rfl (by decide) (by decide) (Nat.le_of_ble_eq_true rfl) rfl ?_
  refine z_callS C kX6_in gX6_doInsert_X6_in (mX6_in_y X.2.1 j (vU 0) hj (by first | assumption | omega)) dX6_doInsert_25 [] rfl (by decide) (by decide) (Nat.le_of_ble_eq_true rfl) rfl ?_
  refine z_bif_ne_t C 34 dX6_doInsert_28 (by decide) rfl ?_
  refine z_aload_n C 0 dX6_doInsert_34 rfl rfl ?_
  refine z_iload_n C 2 dX6_doInsert_35 rfl rfl ?_
  refine z_callVr C kX6_many gX6_doInsert_X6_many (mX6_many_0 X.2.1 a kp ty pl gd od vU vS vN vX vM vT vB vK vY vZ vR vC vV ) dX6_doInsert_36 [0, 1] [] 0 rfl nd_0_1 rfl rfl rfl (by decide) (by decide) (Nat.le_of_ble_eq_true rfl) rfl ?_
  refine z_iload_n C 2 dX6_doInsert_39 rfl rfl ?_
  refine z_nif_ne_f C 48 dX6_doInsert_40 (by decide) (by omega) (by omega) ?_
  refine z_bipush C (nI 12) dX6_doInsert_43 (by decide) ?_
  refine z_goto C 50 dX6_doInsert_45 (by decide) ?_
  refine z_ncmp_eq_f C 72 dX6_doInsert_50 (by decide) (by omega) (by omega) (by omega) ?_
  refine z_aload_n C 0 dX6_doInsert_53 rfl rfl ?_
  refine z_callVr C kX6_isTracked gX6_doInsert_X6_isTracked (mX6_isTracked X.2.1 a kp ty pl gd od vU vS vN vX vM vT vB vK vY vZ vR vC vV ) dX6_doInsert_54 [0, 1] [] 0 rfl nd_0_1 rfl rfl rfl (by decide) (by decide) (Nat.le_of_ble_eq_true rfl) rfl ?_
  refine z_bif_eq_f C 75 dX6_doInsert_57 (by decide) ht ?_
  refine z_aload_n C 0 dX6_doInsert_60 rfl rfl ?_
  refine z_get C fX6_doInsert_7 0 dX6_doInsert_61 rfl rfl ?_
  refine z_bipush C (nI 51) dX6_doInsert_64 (by decide) ?_
  refine z_ialdN C 1 dX6_doInsert_66 rfl (by omega) (by decide) ?_
  refine z_top (y := nI (vM)) (zMr_M) ?_
  refine z_bipush C (nI 60) dX6_doInsert_67 (by decide) ?_
  refine z_ncmp_ne_f C 75 dX6_doInsert_69 (by decide) (by omega) (by omega) (by omega) ?_
  refine z_bipush C (-3) dX6_doInsert_72 (by decide) ?_
  exact z_iret C N dX6_doInsert_74 (rfl) (rfl)

set_option maxHeartbeats 4000000 in
set_option maxRecDepth 100000 in
theorem mX6_doInsert_0u (E : zE) (a : Nat → Nat) (kp ty pl : Nat) (gd : Bool) (od : Nat) (vU vS : Nat → Nat) (vN : Nat → Int32) (vX vM : Nat) (vT : Bool) (vB vK vY vZ vR vC vV : Nat → Int32) (au j : Nat) (hO : okM vU vS vM vK) (hau : au < 4) (hj : j ≤ vU 0) (hf : vU 0 < 12) (ht : vT = false) : zM E yX6_doInsert wsX6_doInsert 3 [.ref (a 0), .int (nI au), .int (nI 0), .int (nI j)] [((a 0), .inr (6, [.ref (a 1), .ref (a 2), .ref (a 3), .int (nI kp), .int (nI ty), .ref (a 4), .int (nI pl), .int (zb gd), .int (nI od), .ref (a 5)])), ((a 1), .inl (E.2.2.1, 512, .inl (mRow vU vS vN vX vM vT vB vK vY vZ vR vC vV)))] [((a 0), .inr (6, [.ref (a 1), .ref (a 2), .ref (a 3), .int (nI kp), .int (nI ty), .ref (a 4), .int (nI pl), .int (zb gd), .int (nI od), .ref (a 5)])), ((a 1), .inl (E.2.2.1, 512, .inl (mRow (zUpN vU 0 (vU 0 + 1)) (mPuS vU vS 0 j) (mPuN vU vS vN vX 0) (vX + 1) vM vT (mClr vB (mCx (mPuS vU vS 0 j) 0 j) (vU 1)) vK vY vZ vR vC vV)))] (some (.int (nI 1000))) := by
  refine zM.of kX6_doInsert (Nat.le_of_ble_eq_true rfl) rfl [some (.ref (a 0)), some (.int (nI au)), some (.int (nI 0)), some (.int (nI j)), none] rfl (Nat.le_of_ble_eq_true rfl) ?_
  intro X eX C N
  subst eX
  obtain ⟨hu0, hu1, hM, hk1, hk2, hk3⟩ := id hO
  refine z_iload_n C 1 dX6_doInsert_0 rfl rfl ?_
  refine z_callS C kX6_noAuthor gX6_doInsert_X6_noAuthor (mX6_noAuthor_y X.2.1 au hau) dX6_doInsert_1 [] rfl (by decide) (by decide) (Nat.le_of_ble_eq_true rfl) rfl ?_
  refine z_bif_ne_f C 16 dX6_doInsert_4 (by decide) rfl ?_
  refine z_iload_n C 2 dX6_doInsert_7 rfl rfl ?_
  refine z_iconst C (nI 0) dX6_doInsert_8 (by decide) ?_
  refine z_iconst C (nI 1) dX6_doInsert_9 (by decide) ?_
  refine z_callS C kX6_in gX6_doInsert_X6_in (mX6_in_y X.2.1 0 1 (by first | assumption | omega) (by first | assumption | omega)) dX6_doInsert_10 [] rfl (by decide) (by decide) (Nat.le_of_ble_eq_true rfl) rfl ?_
  refine z_bif_ne_t C 18 dX6_doInsert_13 (by decide) rfl ?_
  refine z_iload_n C 3 dX6_doInsert_18 rfl rfl ?_
  refine z_iconst C (nI 0) dX6_doInsert_19 (by decide) ?_
  refine z_aload_n C 0 dX6_doInsert_20 rfl rfl ?_
  refine z_iload_n C 2 dX6_doInsert_21 rfl rfl ?_
  refine z_callVr C kX6_many gX6_doInsert_X6_many (mX6_many_0 X.2.1 a kp ty pl gd od vU vS vN vX vM vT vB vK vY vZ vR vC vV ) dX6_doInsert_22 [0, 1] [.int (nI 0), .int (nI j)] 0 rfl nd_0_1 rfl rfl rfl (by decide) (by decide) (Nat.le_of_ble_eq_true rfl) rfl ?_
  refine z_callS C kX6_in gX6_doInsert_X6_in (mX6_in_y X.2.1 j (vU 0) hj (by first | assumption | omega)) dX6_doInsert_25 [] rfl (by decide) (by decide) (Nat.le_of_ble_eq_true rfl) rfl ?_
  refine z_bif_ne_t C 34 dX6_doInsert_28 (by decide) rfl ?_
  refine z_aload_n C 0 dX6_doInsert_34 rfl rfl ?_
  refine z_iload_n C 2 dX6_doInsert_35 rfl rfl ?_
  refine z_callVr C kX6_many gX6_doInsert_X6_many (mX6_many_0 X.2.1 a kp ty pl gd od vU vS vN vX vM vT vB vK vY vZ vR vC vV ) dX6_doInsert_36 [0, 1] [] 0 rfl nd_0_1 rfl rfl rfl (by decide) (by decide) (Nat.le_of_ble_eq_true rfl) rfl ?_
  refine z_iload_n C 2 dX6_doInsert_39 rfl rfl ?_
  refine z_nif_ne_f C 48 dX6_doInsert_40 (by decide) (by omega) (by omega) ?_
  refine z_bipush C (nI 12) dX6_doInsert_43 (by decide) ?_
  refine z_goto C 50 dX6_doInsert_45 (by decide) ?_
  refine z_ncmp_eq_f C 72 dX6_doInsert_50 (by decide) (by omega) (by omega) (by omega) ?_
  refine z_aload_n C 0 dX6_doInsert_53 rfl rfl ?_
  refine z_callVr C kX6_isTracked gX6_doInsert_X6_isTracked (mX6_isTracked X.2.1 a kp ty pl gd od vU vS vN vX vM vT vB vK vY vZ vR vC vV ) dX6_doInsert_54 [0, 1] [] 0 rfl nd_0_1 rfl rfl rfl (by decide) (by decide) (Nat.le_of_ble_eq_true rfl) rfl ?_
  refine z_bif_eq_t C 75 dX6_doInsert_57 (by decide) ht ?_
  refine z_aload_n C 0 dX6_doInsert_75 rfl rfl ?_
  refine z_iload_n C 2 dX6_doInsert_76 rfl rfl ?_
  refine z_iload_n C 3 dX6_doInsert_77 rfl rfl ?_
  refine z_callV (wn := [((a 0), .inr (6, [.ref (a 1), .ref (a 2), .ref (a 3), .int (nI kp), .int (nI ty), .ref (a 4), .int (nI pl), .int (zb gd), .int (nI od), .ref (a 5)])), ((a 1), .inl (X.2.1.2.2.1, 512, .inl (mRow (zUpN vU 0 (vU 0 + 1)) (mPuS vU vS 0 j) (mPuN vU vS vN vX 0) (vX + 1) vM vT (mClr vB (mCx (mPuS vU vS 0 j) 0 j) (vU 1)) vK vY vZ vR vC vV)))]) C kX6_putLine gX6_doInsert_X6_putLine (mX6_putLine_0 X.2.1 a kp ty pl gd od vU vS vN vX vM vT vB vK vY vZ vR vC vV j hO hf hj) dX6_doInsert_78 [0, 1] [] 0 rfl rfl nd_0_1 rfl rfl rfl (by decide) (by decide) (Nat.le_of_ble_eq_true rfl) rfl rfl ?_
  have hg_1 : okM (zUpN vU 0 (vU 0 + 1)) (mPuS vU vS 0 j) vM vK := okM_Pu0_0 (by assumption) (by omega) (by omega)
  refine z_istore C dX6_doInsert_81 (Nat.le_of_ble_eq_true rfl) ?_
  refine z_aload_n C 0 dX6_doInsert_83 rfl rfl ?_
  refine z_callVr C kX6_isTracked gX6_doInsert_X6_isTracked (mX6_isTracked X.2.1 a kp ty pl gd od (zUpN vU 0 (vU 0 + 1)) (mPuS vU vS 0 j) (mPuN vU vS vN vX 0) (vX + 1) vM vT (mClr vB (mCx (mPuS vU vS 0 j) 0 j) (vU 1)) vK vY vZ vR vC vV ) dX6_doInsert_84 [0, 1] [] 0 rfl nd_0_1 rfl rfl rfl (by decide) (by decide) (Nat.le_of_ble_eq_true rfl) rfl ?_
  refine z_top (y := zb (vT)) rfl ?_
  refine z_bif_eq_t C 125 dX6_doInsert_87 (by decide) ht ?_
  refine z_sipush C (nI 1000) dX6_doInsert_125 (by decide) ?_
  exact z_iret C N dX6_doInsert_128 (rfl) (rfl)

set_option maxHeartbeats 4000000 in
set_option maxRecDepth 100000 in
theorem mX6_doInsert_0t (E : zE) (a : Nat → Nat) (kp ty pl : Nat) (gd : Bool) (od : Nat) (vU vS : Nat → Nat) (vN : Nat → Int32) (vX vM : Nat) (vT : Bool) (vB vK vY vZ vR vC vV : Nat → Int32) (au j : Nat) (hO : okM vU vS vM vK) (hau : au < 4) (hj : j ≤ vU 0) (hf : vU 0 < 12) (ht : vT = true) (hf2 : vM < 60) : zM E yX6_doInsert wsX6_doInsert 3 [.ref (a 0), .int (nI au), .int (nI 0), .int (nI j)] [((a 0), .inr (6, [.ref (a 1), .ref (a 2), .ref (a 3), .int (nI kp), .int (nI ty), .ref (a 4), .int (nI pl), .int (zb gd), .int (nI od), .ref (a 5)])), ((a 1), .inl (E.2.2.1, 512, .inl (mRow vU vS vN vX vM vT vB vK vY vZ vR vC vV)))] [((a 0), .inr (6, [.ref (a 1), .ref (a 2), .ref (a 3), .int (nI kp), .int (nI ty), .ref (a 4), .int (nI pl), .int (zb gd), .int (nI od), .ref (a 5)])), ((a 1), .inl (E.2.2.1, 512, .inl (mRow (zUpN vU 0 (vU 0 + 1)) (mPuS vU vS 0 j) (mPuN vU vS vN vX 0) (vX + 1) (vM + 1) vT (mClr vB (mCx (mPuS vU vS 0 j) 0 j) (vU 1)) (upd vK vM (nI 0)) (upd vY vM (nI au)) (upd vZ vM (nI 0)) (upd vR vM (nI (vX))) (upd vC vM (-5)) (upd vV vM (nI 0)))))] (some (.int (nI (vM)))) := by
  refine zM.of kX6_doInsert (Nat.le_of_ble_eq_true rfl) rfl [some (.ref (a 0)), some (.int (nI au)), some (.int (nI 0)), some (.int (nI j)), none] rfl (Nat.le_of_ble_eq_true rfl) ?_
  intro X eX C N
  subst eX
  obtain ⟨hu0, hu1, hM, hk1, hk2, hk3⟩ := id hO
  refine z_iload_n C 1 dX6_doInsert_0 rfl rfl ?_
  refine z_callS C kX6_noAuthor gX6_doInsert_X6_noAuthor (mX6_noAuthor_y X.2.1 au hau) dX6_doInsert_1 [] rfl (by decide) (by decide) (Nat.le_of_ble_eq_true rfl) rfl ?_
  refine z_bif_ne_f C 16 dX6_doInsert_4 (by decide) rfl ?_
  refine z_iload_n C 2 dX6_doInsert_7 rfl rfl ?_
  refine z_iconst C (nI 0) dX6_doInsert_8 (by decide) ?_
  refine z_iconst C (nI 1) dX6_doInsert_9 (by decide) ?_
  refine z_callS C kX6_in gX6_doInsert_X6_in (mX6_in_y X.2.1 0 1 (by first | assumption | omega) (by first | assumption | omega)) dX6_doInsert_10 [] rfl (by decide) (by decide) (Nat.le_of_ble_eq_true rfl) rfl ?_
  refine z_bif_ne_t C 18 dX6_doInsert_13 (by decide) rfl ?_
  refine z_iload_n C 3 dX6_doInsert_18 rfl rfl ?_
  refine z_iconst C (nI 0) dX6_doInsert_19 (by decide) ?_
  refine z_aload_n C 0 dX6_doInsert_20 rfl rfl ?_
  refine z_iload_n C 2 dX6_doInsert_21 rfl rfl ?_
  refine z_callVr C kX6_many gX6_doInsert_X6_many (mX6_many_0 X.2.1 a kp ty pl gd od vU vS vN vX vM vT vB vK vY vZ vR vC vV ) dX6_doInsert_22 [0, 1] [.int (nI 0), .int (nI j)] 0 rfl nd_0_1 rfl rfl rfl (by decide) (by decide) (Nat.le_of_ble_eq_true rfl) rfl ?_
  refine z_callS C kX6_in gX6_doInsert_X6_in (mX6_in_y X.2.1 j (vU 0) hj (by first | assumption | omega)) dX6_doInsert_25 [] rfl (by decide) (by decide) (Nat.le_of_ble_eq_true rfl) rfl ?_
  refine z_bif_ne_t C 34 dX6_doInsert_28 (by decide) rfl ?_
  refine z_aload_n C 0 dX6_doInsert_34 rfl rfl ?_
  refine z_iload_n C 2 dX6_doInsert_35 rfl rfl ?_
  refine z_callVr C kX6_many gX6_doInsert_X6_many (mX6_many_0 X.2.1 a kp ty pl gd od vU vS vN vX vM vT vB vK vY vZ vR vC vV ) dX6_doInsert_36 [0, 1] [] 0 rfl nd_0_1 rfl rfl rfl (by decide) (by decide) (Nat.le_of_ble_eq_true rfl) rfl ?_
  refine z_iload_n C 2 dX6_doInsert_39 rfl rfl ?_
  refine z_nif_ne_f C 48 dX6_doInsert_40 (by decide) (by omega) (by omega) ?_
  refine z_bipush C (nI 12) dX6_doInsert_43 (by decide) ?_
  refine z_goto C 50 dX6_doInsert_45 (by decide) ?_
  refine z_ncmp_eq_f C 72 dX6_doInsert_50 (by decide) (by omega) (by omega) (by omega) ?_
  refine z_aload_n C 0 dX6_doInsert_53 rfl rfl ?_
  refine z_callVr C kX6_isTracked gX6_doInsert_X6_isTracked (mX6_isTracked X.2.1 a kp ty pl gd od vU vS vN vX vM vT vB vK vY vZ vR vC vV ) dX6_doInsert_54 [0, 1] [] 0 rfl nd_0_1 rfl rfl rfl (by decide) (by decide) (Nat.le_of_ble_eq_true rfl) rfl ?_
  refine z_bif_eq_f C 75 dX6_doInsert_57 (by decide) ht ?_
  refine z_aload_n C 0 dX6_doInsert_60 rfl rfl ?_
  refine z_get C fX6_doInsert_7 0 dX6_doInsert_61 rfl rfl ?_
  refine z_bipush C (nI 51) dX6_doInsert_64 (by decide) ?_
  refine z_ialdN C 1 dX6_doInsert_66 rfl (by omega) (by decide) ?_
  refine z_top (y := nI (vM)) (zMr_M) ?_
  refine z_bipush C (nI 60) dX6_doInsert_67 (by decide) ?_
  refine z_ncmp_ne_t C 75 dX6_doInsert_69 (by decide) (by omega) (by omega) (by omega) ?_
  refine z_aload_n C 0 dX6_doInsert_75 rfl rfl ?_
  refine z_iload_n C 2 dX6_doInsert_76 rfl rfl ?_
  refine z_iload_n C 3 dX6_doInsert_77 rfl rfl ?_
  refine z_callV (wn := [((a 0), .inr (6, [.ref (a 1), .ref (a 2), .ref (a 3), .int (nI kp), .int (nI ty), .ref (a 4), .int (nI pl), .int (zb gd), .int (nI od), .ref (a 5)])), ((a 1), .inl (X.2.1.2.2.1, 512, .inl (mRow (zUpN vU 0 (vU 0 + 1)) (mPuS vU vS 0 j) (mPuN vU vS vN vX 0) (vX + 1) vM vT (mClr vB (mCx (mPuS vU vS 0 j) 0 j) (vU 1)) vK vY vZ vR vC vV)))]) C kX6_putLine gX6_doInsert_X6_putLine (mX6_putLine_0 X.2.1 a kp ty pl gd od vU vS vN vX vM vT vB vK vY vZ vR vC vV j hO hf hj) dX6_doInsert_78 [0, 1] [] 0 rfl rfl nd_0_1 rfl rfl rfl (by decide) (by decide) (Nat.le_of_ble_eq_true rfl) rfl rfl ?_
  have hg_1 : okM (zUpN vU 0 (vU 0 + 1)) (mPuS vU vS 0 j) vM vK := okM_Pu0_0 (by assumption) (by omega) (by omega)
  refine z_istore C dX6_doInsert_81 (Nat.le_of_ble_eq_true rfl) ?_
  refine z_aload_n C 0 dX6_doInsert_83 rfl rfl ?_
  refine z_callVr C kX6_isTracked gX6_doInsert_X6_isTracked (mX6_isTracked X.2.1 a kp ty pl gd od (zUpN vU 0 (vU 0 + 1)) (mPuS vU vS 0 j) (mPuN vU vS vN vX 0) (vX + 1) vM vT (mClr vB (mCx (mPuS vU vS 0 j) 0 j) (vU 1)) vK vY vZ vR vC vV ) dX6_doInsert_84 [0, 1] [] 0 rfl nd_0_1 rfl rfl rfl (by decide) (by decide) (Nat.le_of_ble_eq_true rfl) rfl ?_
  refine z_top (y := zb (vT)) rfl ?_
  refine z_bif_eq_f C 125 dX6_doInsert_87 (by decide) ht ?_
  refine z_aload_n C 0 dX6_doInsert_90 rfl rfl ?_
  refine z_iconst C (nI 2) dX6_doInsert_91 (by decide) ?_
  refine z_iload_n C 2 dX6_doInsert_92 rfl rfl ?_
  refine z_imul C dX6_doInsert_93 ?_
  refine z_top (y := nI 0) (pk_mul _ _) ?_
  refine z_iload_n C 1 dX6_doInsert_94 rfl rfl ?_
  refine z_iload_n C 2 dX6_doInsert_95 rfl rfl ?_
  refine z_nif_ne_f C 104 dX6_doInsert_96 (by decide) (by omega) (by omega) ?_
  refine z_iload C dX6_doInsert_99 rfl ?_
  refine z_goto C 106 dX6_doInsert_101 (by decide) ?_
  refine z_iload_n C 2 dX6_doInsert_106 rfl rfl ?_
  refine z_iconst C (nI 1) dX6_doInsert_107 (by decide) ?_
  refine z_ncmp_ne_t C 116 dX6_doInsert_108 (by decide) (by omega) (by omega) (by omega) ?_
  refine z_bipush C (-5) dX6_doInsert_116 (by decide) ?_
  refine z_iconst C (nI 0) dX6_doInsert_118 (by decide) ?_
  refine z_callV (wn := [((a 0), .inr (6, [.ref (a 1), .ref (a 2), .ref (a 3), .int (nI kp), .int (nI ty), .ref (a 4), .int (nI pl), .int (zb gd), .int (nI od), .ref (a 5)])), ((a 1), .inl (X.2.1.2.2.1, 512, .inl (mRow (zUpN vU 0 (vU 0 + 1)) (mPuS vU vS 0 j) (mPuN vU vS vN vX 0) (vX + 1) (vM + 1) vT (mClr vB (mCx (mPuS vU vS 0 j) 0 j) (vU 1)) (upd vK vM (nI 0)) (upd vY vM (nI au)) (upd vZ vM (nI 0)) (upd vR vM (nI (vX))) (upd vC vM (-5)) (upd vV vM (nI 0)))))]) C kX6_make gX6_doInsert_X6_make (mX6_make X.2.1 a kp ty pl gd od (zUpN vU 0 (vU 0 + 1)) (mPuS vU vS 0 j) (mPuN vU vS vN vX 0) (vX + 1) vM vT (mClr vB (mCx (mPuS vU vS 0 j) 0 j) (vU 1)) vK vY vZ vR vC vV (nI 0) (nI au) (nI (vX)) (-5) (nI 0) hg_1 hf2) dX6_doInsert_119 [0, 1] [] 0 rfl rfl nd_0_1 rfl rfl rfl (by decide) (by decide) (Nat.le_of_ble_eq_true rfl) rfl rfl ?_
  refine z_top (y := nI (vM)) rfl ?_
  refine z_goto C 128 dX6_doInsert_122 (by decide) ?_
  exact z_iret C N dX6_doInsert_128 (rfl) (rfl)

set_option maxHeartbeats 4000000 in
set_option maxRecDepth 100000 in
theorem mX6_doInsert_1b (E : zE) (a : Nat → Nat) (kp ty pl : Nat) (gd : Bool) (od : Nat) (vU vS : Nat → Nat) (vN : Nat → Int32) (vX vM : Nat) (vT : Bool) (vB vK vY vZ vR vC vV : Nat → Int32) (au : Nat) (p : Int32) (hO : okM vU vS vM vK) (hau : au < 4) (hx : p < 0 ∨ (¬ p < 0 ∧ nI (vU 1) < p)) : zM E yX6_doInsert wsX6_doInsert 3 [.ref (a 0), .int (nI au), .int (nI 1), .int p] [((a 0), .inr (6, [.ref (a 1), .ref (a 2), .ref (a 3), .int (nI kp), .int (nI ty), .ref (a 4), .int (nI pl), .int (zb gd), .int (nI od), .ref (a 5)])), ((a 1), .inl (E.2.2.1, 512, .inl (mRow vU vS vN vX vM vT vB vK vY vZ vR vC vV)))] [((a 0), .inr (6, [.ref (a 1), .ref (a 2), .ref (a 3), .int (nI kp), .int (nI ty), .ref (a 4), .int (nI pl), .int (zb gd), .int (nI od), .ref (a 5)])), ((a 1), .inl (E.2.2.1, 512, .inl (mRow vU vS vN vX vM vT vB vK vY vZ vR vC vV)))] (some (.int (-2))) := by
  refine zM.of kX6_doInsert (Nat.le_of_ble_eq_true rfl) rfl [some (.ref (a 0)), some (.int (nI au)), some (.int (nI 1)), some (.int p), none] rfl (Nat.le_of_ble_eq_true rfl) ?_
  intro X eX C N
  subst eX
  obtain ⟨hu0, hu1, hM, hk1, hk2, hk3⟩ := id hO
  refine z_iload_n C 1 dX6_doInsert_0 rfl rfl ?_
  refine z_callS C kX6_noAuthor gX6_doInsert_X6_noAuthor (mX6_noAuthor_y X.2.1 au hau) dX6_doInsert_1 [] rfl (by decide) (by decide) (Nat.le_of_ble_eq_true rfl) rfl ?_
  refine z_bif_ne_f C 16 dX6_doInsert_4 (by decide) rfl ?_
  refine z_iload_n C 2 dX6_doInsert_7 rfl rfl ?_
  refine z_iconst C (nI 0) dX6_doInsert_8 (by decide) ?_
  refine z_iconst C (nI 1) dX6_doInsert_9 (by decide) ?_
  refine z_callS C kX6_in gX6_doInsert_X6_in (mX6_in_y X.2.1 1 1 (by first | assumption | omega) (by first | assumption | omega)) dX6_doInsert_10 [] rfl (by decide) (by decide) (Nat.le_of_ble_eq_true rfl) rfl ?_
  refine z_bif_ne_t C 18 dX6_doInsert_13 (by decide) rfl ?_
  refine z_iload_n C 3 dX6_doInsert_18 rfl rfl ?_
  refine z_iconst C (nI 0) dX6_doInsert_19 (by decide) ?_
  refine z_aload_n C 0 dX6_doInsert_20 rfl rfl ?_
  refine z_iload_n C 2 dX6_doInsert_21 rfl rfl ?_
  refine z_callVr C kX6_many gX6_doInsert_X6_many (mX6_many_1 X.2.1 a kp ty pl gd od vU vS vN vX vM vT vB vK vY vZ vR vC vV ) dX6_doInsert_22 [0, 1] [.int (nI 0), .int p] 0 rfl nd_0_1 rfl rfl rfl (by decide) (by decide) (Nat.le_of_ble_eq_true rfl) rfl ?_
  refine z_callS C kX6_in gX6_doInsert_X6_in (mX6_in_n X.2.1 p (vU 1) hx) dX6_doInsert_25 [] rfl (by decide) (by decide) (Nat.le_of_ble_eq_true rfl) rfl ?_
  refine z_bif_ne_f C 34 dX6_doInsert_28 (by decide) rfl ?_
  refine z_bipush C (-2) dX6_doInsert_31 (by decide) ?_
  exact z_iret C N dX6_doInsert_33 (rfl) (rfl)

