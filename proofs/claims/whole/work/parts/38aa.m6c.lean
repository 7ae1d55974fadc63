theorem kX6_doInsert : zY yX6_doInsert wsX6_doInsert cX6_doInsert 5 (some .int) 3 := ⟨⟨_, rfl⟩, ⟨by decide +kernel, by decide +kernel, by decide +kernel⟩, by decide +kernel⟩
set_option maxHeartbeats 4000000 in
set_option maxRecDepth 100000 in
theorem mX6_doInsert_b1 (E : zE) (a : Nat → Nat) (kp ty pl : Nat) (gd : Bool) (od : Nat) (vU vS : Nat → Nat) (vN : Nat → Int32) (vX vM : Nat) (vT : Bool) (vB vK vY vZ vR vC vV : Nat → Int32) (au ax p : Int32) (hO : okM vU vS vM vK) (hx : au < 0 ∨ (¬ au < 0 ∧ nI 4 ≤ au)) : zM E yX6_doInsert wsX6_doInsert 3 [.ref (a 0), .int au, .int ax, .int p] [((a 0), .inr (6, [.ref (a 1), .ref (a 2), .ref (a 3), .int (nI kp), .int (nI ty), .ref (a 4), .int (nI pl), .int (zb gd), .int (nI od), .ref (a 5)])), ((a 1), .inl (E.2.2.1, 512, .inl (mRow vU vS vN vX vM vT vB vK vY vZ vR vC vV)))] [((a 0), .inr (6, [.ref (a 1), .ref (a 2), .ref (a 3), .int (nI kp), .int (nI ty), .ref (a 4), .int (nI pl), .int (zb gd), .int (nI od), .ref (a 5)])), ((a 1), .inl (E.2.2.1, 512, .inl (mRow vU vS vN vX vM vT vB vK vY vZ vR vC vV)))] (some (.int (-1))) := by
  refine zM.of kX6_doInsert (Nat.le_of_ble_eq_true rfl) rfl [some (.ref (a 0)), some (.int au), some (.int ax), some (.int p), none] rfl (Nat.le_of_ble_eq_true rfl) ?_
  intro X eX C N
  subst eX
  obtain ⟨hu0, hu1, hM, hk1, hk2, hk3⟩ := id hO
  refine z_iload_n C 1 dX6_doInsert_0 rfl rfl ?_
  refine z_callS C kX6_noAuthor gX6_doInsert_X6_noAuthor (mX6_noAuthor_n X.2.1 au hx) dX6_doInsert_1 [] rfl (by decide) (by decide) (Nat.le_of_ble_eq_true rfl) rfl ?_
  refine z_bif_ne_t C 16 dX6_doInsert_4 (by decide) rfl ?_
  refine z_iconst C (-1) dX6_doInsert_16 (by decide) ?_
  exact z_iret C N dX6_doInsert_17 (rfl) (rfl)

set_option maxHeartbeats 4000000 in
set_option maxRecDepth 100000 in
theorem mX6_doInsert_b2 (E : zE) (a : Nat → Nat) (kp ty pl : Nat) (gd : Bool) (od : Nat) (vU vS : Nat → Nat) (vN : Nat → Int32) (vX vM : Nat) (vT : Bool) (vB vK vY vZ vR vC vV : Nat → Int32) (au : Nat) (ax p : Int32) (hO : okM vU vS vM vK) (hau : au < 4) (hax : ax < 0 ∨ (¬ ax < 0 ∧ nI 1 < ax)) : zM E yX6_doInsert wsX6_doInsert 3 [.ref (a 0), .int (nI au), .int ax, .int p] [((a 0), .inr (6, [.ref (a 1), .ref (a 2), .ref (a 3), .int (nI kp), .int (nI ty), .ref (a 4), .int (nI pl), .int (zb gd), .int (nI od), .ref (a 5)])), ((a 1), .inl (E.2.2.1, 512, .inl (mRow vU vS vN vX vM vT vB vK vY vZ vR vC vV)))] [((a 0), .inr (6, [.ref (a 1), .ref (a 2), .ref (a 3), .int (nI kp), .int (nI ty), .ref (a 4), .int (nI pl), .int (zb gd), .int (nI od), .ref (a 5)])), ((a 1), .inl (E.2.2.1, 512, .inl (mRow vU vS vN vX vM vT vB vK vY vZ vR vC vV)))] (some (.int (-1))) := by
  refine zM.of kX6_doInsert (Nat.le_of_ble_eq_true rfl) rfl [some (.ref (a 0)), some (.int (nI au)), some (.int ax), some (.int p), none] rfl (Nat.le_of_ble_eq_true rfl) ?_
  intro X eX C N
  subst eX
  obtain ⟨hu0, hu1, hM, hk1, hk2, hk3⟩ := id hO
  refine z_iload_n C 1 dX6_doInsert_0 rfl rfl ?_
  refine z_callS C kX6_noAuthor gX6_doInsert_X6_noAuthor (mX6_noAuthor_y X.2.1 au hau) dX6_doInsert_1 [] rfl (by decide) (by decide) (Nat.le_of_ble_eq_true rfl) rfl ?_
  refine z_bif_ne_f C 16 dX6_doInsert_4 (by decide) rfl ?_
  refine z_iload_n C 2 dX6_doInsert_7 rfl rfl ?_
  refine z_iconst C (nI 0) dX6_doInsert_8 (by decide) ?_
  refine z_iconst C (nI 1) dX6_doInsert_9 (by decide) ?_
  refine z_callS C kX6_in gX6_doInsert_X6_in (mX6_in_n X.2.1 ax 1 hax) dX6_doInsert_10 [] rfl (by decide) (by decide) (Nat.le_of_ble_eq_true rfl) rfl ?_
  refine z_bif_ne_f C 18 dX6_doInsert_13 (by decide) rfl ?_
  refine z_iconst C (-1) dX6_doInsert_16 (by decide) ?_
  exact z_iret C N dX6_doInsert_17 (rfl) (rfl)

set_option maxHeartbeats 4000000 in
set_option maxRecDepth 100000 in
theorem mX6_doInsert_0b (E : zE) (a : Nat → Nat) (kp ty pl : Nat) (gd : Bool) (od : Nat) (vU vS : Nat → Nat) (vN : Nat → Int32) (vX vM : Nat) (vT : Bool) (vB vK vY vZ vR vC vV : Nat → Int32) (au : Nat) (p : Int32) (hO : okM vU vS vM vK) (hau : au < 4) (hx : p < 0 ∨ (¬ p < 0 ∧ nI (vU 0) < p)) : zM E yX6_doInsert wsX6_doInsert 3 [.ref (a 0), .int (nI au), .int (nI 0), .int p] [((a 0), .inr (6, [.ref (a 1), .ref (a 2), .ref (a 3), .int (nI kp), .int (nI ty), .ref (a 4), .int (nI pl), .int (zb gd), .int (nI od), .ref (a 5)])), ((a 1), .inl (E.2.2.1, 512, .inl (mRow vU vS vN vX vM vT vB vK vY vZ vR vC vV)))] [((a 0), .inr (6, [.ref (a 1), .ref (a 2), .ref (a 3), .int (nI kp), .int (nI ty), .ref (a 4), .int (nI pl), .int (zb gd), .int (nI od), .ref (a 5)])), ((a 1), .inl (E.2.2.1, 512, .inl (mRow vU vS vN vX vM vT vB vK vY vZ vR vC vV)))] (some (.int (-2))) := by
  refine zM.of kX6_doInsert (Nat.le_of_ble_eq_true rfl) rfl [some (.ref (a 0)), some (.int (nI au)), some (.int (nI 0)), some (.int p), none] rfl (Nat.le_of_ble_eq_true rfl) ?_
  intro X eX C N
  subst eX
  obtain ⟨hu0, hu1, hM, hk1, hk2, hk3⟩ := id hO
  refine z_iload_n C 1 dX6_doInsert_0 rfl rfl ?_
  refine z_callS C kX6_noAuthor gX6_doInsert_X6_noAuthor (mX6_noAuthor_y X.2.1 au hau) dX6_doInsert_1 [] rfl (by decide) (by decide) (Nat.le_of_ble_eq_true rfl) rfl ?_
  refine z_bif_ne_f C 16 dX6_doInsert_4 (by decide) rfl ?_
  refine z_iload_n C 2 dX6_doInsert_7 rfl rfl ?_
  refine z_iconst C (nI 0) dX6_doInsert_8 (by decide) ?_
  refine z_iconst C (nI 1) dX6_doInsert_9 (by decide) ?_
  refine z_callS C kX6_in gX6_doInsert_X6_in (mX6_in_y X.2.1 0 1 (by first | assumption | omega) (by first | assumption | omega)) dX6_doInsert_10 [] rfl (by decide) (by decide) (Nat.le_of_ble_eq_true rfl) rfl ?_
  refine z_bif_ne_t C 18 dX6_doInsert_13 (by decide) rfl ?_
  refine z_iload_n C 3 dX6_doInsert_18 rfl rfl ?_
  refine z_iconst C (nI 0) dX6_doInsert_19 (by decide) ?_
  refine z_aload_n C 0 dX6_doInsert_20 rfl rfl ?_
  refine z_iload_n C 2 dX6_doInsert_21 rfl rfl ?_
  refine z_callVr C kX6_many gX6_doInsert_X6_many (mX6_many_0 X.2.1 a kp ty pl gd od vU vS vN vX vM vT vB vK vY vZ vR vC vV ) dX6_doInsert_22 [0, 1] [.int (nI 0), .int p] 0 rfl nd_0_1 rfl rfl rfl (by decide) (by decide) (Nat.le_of_ble_eq_true rfl) rfl ?_
  refine z_callS C kX6_in gX6_doInsert_X6_in (mX6_in_n X.2.1 p (vU 0) hx) dX6_doInsert_25 [] rfl (by decide) (by decide) (Nat.le_of_ble_eq_true rfl) rfl ?_
  refine z_bif_ne_f C 34 dX6_doInsert_28 (by decide) rfl ?_
  refine z_bipush C (-2) dX6_doInsert_31 (by decide) ?_
  exact z_iret C N dX6_doInsert_33 (rfl) (rfl)

set_option maxHeartbeats 4000000 in
set_option maxRecDepth 100000 in
theorem mX6_doInsert_0f1 (E : zE) (a : Nat → Nat) (kp ty pl : Nat) (gd : Bool) (od : Nat) (vU vS : Nat → Nat) (vN : Nat → Int32) (vX vM : Nat) (vT : Bool) (vB vK vY vZ vR vC vV : Nat → Int32) (au j : Nat) (hO : okM vU vS vM vK) (hau : au < 4) (hj : j ≤ vU 0) (hf : vU 0 = 12) : zM E yX6_doInsert wsX6_doInsert 3 [.ref (a 0), .int (nI au), .int (nI 0), .int (nI j)] [((a 0), .inr (6, [.ref (a 1), .ref (a 2), .ref (a 3), .int (nI kp), .int (nI ty), .ref (a 4), .int (nI pl), .int (zb gd), .int (nI od), .ref (a 5)])), ((a 1), .inl (E.2.2.1, 512, .inl (mRow vU vS vN vX vM vT vB vK vY vZ vR vC vV)))] [((a 0), .inr (6, [.ref (a 1), .ref (a 2), .ref (a 3), .int (nI kp), .int (nI ty), .ref (a 4), .int (nI pl), .int (zb gd), .int (nI od), .ref (a 5)])), ((a 1), .inl (E.2.2.1, 512, .inl (mRow vU vS vN vX vM vT vB vK vY vZ vR vC vV)))] (some (.int (-3))) := by
  refine zM.of kX6_doInsert (Nat.le_of_ble_eq_true rfl) rfl [some (.ref (a 0)), some (.int (nI au)), some (.int (nI 0)), some (.int (nI j)), none] rfl (Nat.le_of_ble_eq_true rfl) ?_
  intro X eX C N
  subst eX
  obtain ⟨hu0, hu1, hM, hk1, hk2, hk3⟩ := id hO
  refine z_iload_n C 1 dX6_doInsert_0 rfl rfl ?_
  refine z_callS C kX6_noAuthor gX6_doInsert_X6_noAuthor (mX6_noAuthor_y X.2.1 au hau) dX6_doInsert_1 [] rfl (by decide) (by decide) (Nat.le_of_ble_eq_true rfl) rfl ?_
  refine z_bif_ne_f C 16 dX6_doInsert_4 (by decide) rfl ?_
  refine z_iload_n C 2 dX6_doInsert_7 rfl rfl ?_
  refine z_iconst C (nI 0) dX6_doInsert_8 (by decide) ?_
  refine z_iconst C (nI 1) dX6_doInsert_9 (by decide) ?_
  refine z_callS C kX6_in gX6_doInsert_X6_in (mX6_in_y X.2.1 0 1 (by first | assumption | omega) (by first | assumption | omega)) dX6_doInsert_10 [] rfl (by decide) (by decide) (Nat.le_of_ble_eq_true rfl) rfl ?_
  refine z_bif_ne_t C 18 dX6_doInsert_13 (by decide) rfl ?_
  refine z_iload_n C 3 dX6_doInsert_18 rfl rfl ?_
  refine z_iconst C (nI 0) dX6_doInsert_19 (by decide) ?_
  refine z_aload_n C 0 dX6_doInsert_20 rfl rfl ?_
  refine z_iload_n C 2 dX6_doInsert_21 rfl rfl ?_
  refine z_callVr C kX6_many gX6_doInsert_X6_many (mX6_many_0 X.2.1 a kp ty pl gd od vU vS vN vX vM vT vB vK vY vZ vR vC vV ) dX6_doInsert_22 [0, 1] [.int (nI 0), .int (nI j)] 0 rfl nd_0_1 rfl rfl rfl (by decide) (by decide) (Nat.le_of_ble_eq_true rfl) rfl ?_
  refine z_callS C kX6_in gX6_doInsert_X6_in (mX6_in_y X.2.1 j (vU 0) hj (by first | assumption | omega)) dX6_doInsert_25 [] rfl (by decide) (by decide) (Nat.le_of_ble_eq_true rfl) rfl ?_
  refine z_bif_ne_t C 34 dX6_doInsert_28 (by decide) rfl ?_
  refine z_aload_n C 0 dX6_doInsert_34 rfl rfl ?_
  refine z_iload_n C 2 dX6_doInsert_35 rfl rfl ?_
  refine z_callVr C kX6_many gX6_doInsert_X6_many (mX6_many_0 X.2.1 a kp ty pl gd od vU vS vN vX vM vT vB vK vY vZ vR vC vV ) dX6_doInsert_36 [0, 1] [] 0 rfl nd_0_1 rfl rfl rfl (by decide) (by decide) (Nat.le_of_ble_eq_true rfl) rfl ?_
  refine z_iload_n C 2 dX6_doInsert_39 rfl rfl ?_
  refine z_nif_ne_f C 48 dX6_doInsert_40 (by decide) (by omega) (by omega) ?_
  refine z_bipush C (nI 12) dX6_doInsert_43 (by decide) ?_
  refine z_goto C 50 dX6_doInsert_45 (by decide) ?_
  refine z_ncmp_eq_t C 72 dX6_doInsert_50 (by decide) (by omega) (by omega) (by omega) ?_
  refine z_bipush C (-3) dX6_doInsert_72 (by decide) ?_
  exact z_iret C N dX6_doInsert_74 (rfl) (rfl)

theorem fX6_doInsert_7 : zF wsX6_doInsert RX6 7 6 0 RX6 TX6 10 := ⟨by decide +kernel, rfl, by decide, by decide +kernel, rfl⟩
set_option maxHeartbeats 4000000 in
set_option maxRecDepth 100000 in
theorem mX6_doInsert_0f2 (E : zE) (a : Nat → Nat) (kp ty pl : Nat) (gd : Bool) (od : Nat) (vU vS : Nat → Nat) (vN : Nat → Int32) (vX vM : Nat) (vT : Bool) (vB vK vY vZ vR vC vV : Nat → Int32) (au j : Nat) (hO : okM vU vS vM vK) (hau : au < 4) (hj : j ≤ vU 0) (hf : vU 0 < 12) (ht : vT = true) (hf2 : vM = 60) : zM E yX6_doInsert wsX6_doInsert 3 [.ref (a 0), .int (nI au), .int (nI 0), .int (nI j)] [((a 0), .inr (6, [.ref (a 1), .ref (a 2), .ref (a 3), .int (nI kp), .int (nI ty), .ref (a 4), .int (nI pl), .int (zb gd), .int (nI od), .ref (a 5)])), ((a 1), .inl (E.2.2.1, 512, .inl (mRow vU vS vN vX vM vT vB vK vY vZ vR vC vV)))] [((a 0), .inr (6, [.ref (a 1), .ref (a 2), .ref (a 3), .int (nI kp), .int (nI ty), .ref (a 4), .int (nI pl), .int (zb gd), .int (nI od), .ref (a 5)])), ((a 1), .inl (E.2.2.1, 512, .inl (mRow vU vS vN vX vM vT vB vK vY vZ vR vC vV)))] (some (.int (-3))) := by
  refine zM.of kX6_doInsert (Nat.le_of_ble_eq_true rfl) rfl [some (.ref (a 0)), some (.int (nI au)), some (.int (nI 0)), some (.int (nI j)), none] rfl (Nat.le_of_ble_eq_true rfl) ?_
  intro X eX C N
  subst eX
  obtain ⟨hu0, hu1, hM, hk1, hk2, hk3⟩ := id hO
  refine z_iload_n C 1 dX6_doInsert_0 rfl rfl ?_
  refine z_callS C kX6_noAuthor gX6_doInsert_X6_noAuthor (mX6_noAuthor_y X.2.1 au hau) dX6_doInsert_1 [] rfl (by decide) (by decide) (Nat.le_of_ble_eq_true rfl) rfl ?_
  refine z_bif_ne_f C 16 dX6_doInsert_4 (by decide) rfl ?_
  refine z_iload_n C 2 dX6_doInsert_7 rfl rfl ?_
  refine z_iconst C (nI 0) dX6_doInsert_8 (by decide) ?_
  refine z_iconst C (nI 1) dX6_doInsert_9 (by decide) ?_
  refine z_callS C kX6_in gX6_doInsert_X6_in (mX6_in_y X.2.1 0 1 (by first | assumption | omega) (by first | assumption | omega)) dX6_doInsert_10 [] rfl (by decide) (by decide) (Nat.le_of_ble_eq_true rfl) rfl ?_
  refine z_bif_ne_t C 18 dX6_doInsert_13 (by decide) rfl ?_
  refine z_iload_n C 3 dX6_doInsert_18 rfl rfl ?_
  refine z_iconst C (nI 0) dX6_doInsert_19 (by decide) ?_
  refine z_aload_n C 0 dX6_doInsert_20 rfl rfl ?_
  refine z_iload_n C 2 dX6_doInsert_21 rfl rfl ?_
  refine z_callVr C kX6_many gX6_doInsert_X6_many (mX6_many_0 X.2.1 a kp ty pl gd od vU vS vN vX vM vT vB vK vY vZ vR vC vV ) dX6_doInsert_22 [0, 1] [.int (nI 0), .int (nI j)] 0 rfl nd_0_1 rfl rfl rfl (by decide) (by decide) (Nat.le_of_ble_eq_true rfl) rfl ?_
  refine z_callS C kX6_in gX6_doInsert_X6_in (mX6_in_y X.2.1 j (vU 0) hj (by first | assumption | omega)) dX6_doInsert_25 [] rfl (by decide) (by decide) (Nat.le_of_ble_eq_true rfl) rfl ?_
  refine z_bif_ne_t C 34 dX6_doInsert_28 (by decide) rfl ?_
  refine z_aload_n C 0 dX6_doInsert_34 rfl rfl ?_
  refine z_iload_n C 2 dX6_doInsert_35 rfl rfl ?_
  refine z_callVr C kX6_many gX6_doInsert_X6_many (mX6_many_0 X.2.1 a kp ty pl gd od vU vS vN vX vM vT vB vK vY vZ vR vC vV ) dX6_doInsert_36 [0, 1] [] 0 rfl nd_0_1 rfl rfl rfl (by decide) (by decide) (Nat.le_of_ble_eq_true rfl) rfl ?_
  refine z_iload_n C 2 dX6_doInsert_39 rfl rfl ?_
  refine z_nif_ne_f C 48 dX6_doInsert_40 (by decide) (by omega) (by omega) ?_
  refine z_bipush C (nI 12) dX6_doInsert_43 (by decide) ?_
  refine z_goto C 50 dX6_doInsert_45 (by decide) ?_
  refine z_ncmp_eq_f C 72 dX6_doInsert_50 (by decide) (by omega) (by omega) (by omega) ?_
  refine z_aload_n C 0 dX6_doInsert_53 rfl rfl ?_
  refine z_callVr C kX6_isTracked gX6_doInsert_X6_isTracked (mX6_isTracked X.2.1 a kp ty pl gd od vU vS vN vX vM vT vB vK vY vZ vR vC vV ) dX6_doInsert_54 [0, 1] [] 0 rfl nd_0_1 rfl rfl rfl (by decide) (by decide) (Nat.le_of_ble_eq_true rfl) rfl ?_
  refine z_bif_eq_f C 75 dX6_doInsert_57 (by decide) ht ?_
  refine z_aload_n C 0 dX6_doInsert_60 rfl rfl ?_
  refine z_get C fX6_doInsert_7 0 dX6_doInsert_61 rfl rfl ?_
  refine z_bipush C (nI 51) dX6_doInsert_64 (by decide) ?_
  refine z_ialdN C 1 dX6_doInsert_66 rfl (by omega) (by decide) ?_
  refine z_top (y := nI (vM)) (zMr_M) ?_
  refine z_bipush C (nI 60) dX6_doInsert_67 (by decide) ?_
  refine z_ncmp_ne_f C 75 dX6_doInsert_69 (by decide) (by omega) (by omega) (by omega) ?_
  refine z_bipush C (-3) dX6_doInsert_72 (by decide) ?_
  exact z_iret C N dX6_doInsert_74 (rfl) (rfl)

set_option maxHeartbeats 4000000 in
set_option maxRecDepth 100000 in
theorem mX6_doInsert_0u (E : zE) (a : Nat → Nat) (kp ty pl : Nat) (gd : Bool) (od : Nat) (vU vS : Nat → Nat) (vN : Nat → Int32) (vX vM : Nat) (vT : Bool) (vB vK vY vZ vR vC vV : Nat → Int32) (au j : Nat) (hO : okM vU vS vM vK) (hau : au < 4) (hj : j ≤ vU 0) (hf : vU 0 < 12) (ht : vT = false) : zM E yX6_doInsert wsX6_doInsert 3 [.ref (a 0), .int (nI au), .int (nI 0), .int (nI j)] [((a 0), .inr (6, [.ref (a 1), .ref (a 2), .ref (a 3), .int (nI kp), .int (nI ty), .ref (a 4), .int (nI pl), .int (zb gd), .int (nI od), .ref (a 5)])), ((a 1), .inl (E.2.2.1, 512, .inl (mRow vU vS vN vX vM vT vB vK vY vZ vR vC vV)))] [((a 0), .inr (6, [.ref (a 1), .ref (a 2), .ref (a 3), .int (nI kp), .int (nI ty), .ref (a 4), .int (nI pl), .int (zb gd), .int (nI od), .ref (a 5)])), ((a 1), .inl (E.2.2.1, 512, .inl (mRow (zUpN vU 0 (vU 0 + 1)) (mPuS vU vS 0 j) (mPuN vU vS vN vX 0) (vX + 1) vM vT (mClr vB (mCx (mPuS vU vS 0 j) 0 j) (vU 1)) vK vY vZ vR vC vV)))] (some (.int (nI 1000))) := by
  refine zM.of kX6_doInsert (Nat.le_of_ble_eq_true rfl) rfl [some (.ref (a 0)), some (.int (nI au)), some (.int (nI 0)), some (.int (nI j)), none] rfl (Nat.le_of_ble_eq_true rfl) ?_
  intro X eX C N
  subst eX
  obtain ⟨hu0, hu1, hM, hk1, hk2, hk3⟩ := id hO
  refine z_iload_n C 1 dX6_doInsert_0 rfl rfl ?_
  refine z_callS C kX6_noAuthor gX6_doInsert_X6_noAuthor (mX6_noAuthor_y X.2.1 au hau) dX6_doInsert_1 [] rfl (by decide) (by decide) (Nat.le_of_ble_eq_true rfl) rfl ?_
  refine z_bif_ne_f C 16 dX6_doInsert_4 (by decide) rfl ?_
  refine z_iload_n C 2 dX6_doInsert_7 rfl rfl ?_
  refine z_iconst C (nI 0) dX6_doInsert_8 (by decide) ?_
  refine z_iconst C (nI 1) dX6_doInsert_9 (by decide) ?_
  refine z_callS C kX6_in gX6_doInsert_X6_in (mX6_in_y X.2.1 0 1 (by first | assumption | omega) (by first | assumption | omega)) dX6_doInsert_10 [] rfl (by decide) (by decide) (Nat.le_of_ble_eq_true rfl) rfl ?_
  refine z_bif_ne_t C 18 dX6_doInsert_13 (by decide) rfl ?_
  refine z_iload_n C 3 dX6_doInsert_18 rfl rfl ?_
  refine z_iconst C (nI 0) dX6_doInsert_19 (by decide) ?_
  refine z_aload_n C 0 dX6_doInsert_20 rfl rfl ?_
  refine z_iload_n C 2 dX6_doInsert_21 rfl rfl ?_
  refine z_callVr C kX6_many gX6_doInsert_X6_many (mX6_many_0 X.2.1 a kp ty pl gd od vU vS vN vX vM vT vB vK vY vZ vR vC vV ) dX6_doInsert_22 [0, 1] [.int (nI 0), .int (nI j)] 0 rfl nd_0_1 rfl rfl rfl (by decide) (by decide) (Nat.le_of_ble_eq_true rfl) rfl ?_
  refine z_callS C kX6_in gX6_doInsert_X6_in (mX6_in_y X.2.1 j (vU 0) hj (by first | assumption | omega)) dX6_doInsert_25 [] rfl (by decide) (by decide) (Nat.le_of_ble_eq_true rfl) rfl ?_
  refine z_bif_ne_t C 34 dX6_doInsert_28 (by decide) rfl ?_
  refine z_aload_n C 0 dX6_doInsert_34 rfl rfl ?_
  refine z_iload_n C 2 dX6_doInsert_35 rfl rfl ?_
  refine z_callVr C kX6_many gX6_doInsert_X6_many (mX6_many_0 X.2.1 a kp ty pl gd od vU vS vN vX vM vT vB vK vY vZ vR vC vV ) dX6_doInsert_36 [0, 1] [] 0 rfl nd_0_1 rfl rfl rfl (by decide) (by decide) (Nat.le_of_ble_eq_true rfl) rfl ?_
  refine z_iload_n C 2 dX6_doInsert_39 rfl rfl ?_
  refine z_nif_ne_f C 48 dX6_doInsert_40 (by decide) (by omega) (by omega) ?_
  refine z_bipush C (nI 12) dX6_doInsert_43 (by decide) ?_
  refine z_goto C 50 dX6_doInsert_45 (by decide) ?_
  refine z_ncmp_eq_f C 72 dX6_doInsert_50 (by decide) (by omega) (by omega) (by omega) ?_
  refine z_aload_n C 0 dX6_doInsert_53 rfl rfl ?_
  refine z_callVr C kX6_isTracked gX6_doInsert_X6_isTracked (mX6_isTracked X.2.1 a kp ty pl gd od vU vS vN vX vM vT vB vK vY vZ vR vC vV ) dX6_doInsert_54 [0, 1] [] 0 rfl nd_0_1 rfl rfl rfl (by decide) (by decide) (Nat.le_of_ble_eq_true rfl) rfl ?_
  refine z_bif_eq_t C 75 dX6_doInsert_57 (by decide) ht ?_
  refine z_aload_n C 0 dX6_doInsert_75 rfl rfl ?_
  refine z_iload_n C 2 dX6_doInsert_76 rfl rfl ?_
  refine z_iload_n C 3 dX6_doInsert_77 rfl rfl ?_
  refine z_callV (wn := [((a 0), .inr (6, [.ref (a 1), .ref (a 2), .ref (a 3), .int (nI kp), .int (nI ty), .ref (a 4), .int (nI pl), .int (zb gd), .int (nI od), .ref (a 5)])), ((a 1), .inl (X.2.1.2.2.1, 512, .inl (mRow (zUpN vU 0 (vU 0 + 1)) (mPuS vU vS 0 j) (mPuN vU vS vN vX 0) (vX + 1) vM vT (mClr vB (mCx (mPuS vU vS 0 j) 0 j) (vU 1)) vK vY vZ vR vC vV)))]) C kX6_putLine gX6_doInsert_X6_putLine (mX6_putLine_0 X.2.1 a kp ty pl gd od vU vS vN vX vM vT vB vK vY vZ vR vC vV j hO hf hj) dX6_doInsert_78 [0, 1] [] 0 rfl rfl nd_0_1 rfl rfl rfl (by decide) (by decide) (Nat.le_of_ble_eq_true rfl) rfl rfl ?_
  have hg_1 : okM (zUpN vU 0 (vU 0 + 1)) (mPuS vU vS 0 j) vM vK := okM_Pu0_0 (by assumption) (by omega) (by omega)
  refine z_istore C dX6_doInsert_81 (Nat.le_of_ble_eq_true rfl) ?_
  refine z_aload_n C 0 dX6_doInsert_83 rfl rfl ?_
  refine z_callVr C kX6_isTracked gX6_doInsert_X6_isTracked (mX6_isTracked X.2.1 a kp ty pl gd od (zUpN vU 0 (vU 0 + 1)) (mPuS vU vS 0 j) (mPuN vU vS vN vX 0) (vX + 1) vM vT (mClr vB (mCx (mPuS vU vS 0 j) 0 j) (vU 1)) vK vY vZ vR vC vV ) dX6_doInsert_84 [0, 1] [] 0 rfl nd_0_1 rfl rfl rfl (by decide) (by decide) (Nat.le_of_ble_eq_true rfl) rfl ?_
  refine z_top (y := zb (vT)) rfl ?_
  refine z_bif_eq_t C 125 dX6_doInsert_87 (by decide) ht ?_
  refine z_sipush C (nI 1000) dX6_doInsert_125 (by decide) ?_
  exact z_iret C N dX6_doInsert_128 (rfl) (rfl)

set_option maxHeartbeats 4000000 in
set_option maxRecDepth 100000 in
theorem mX6_doInsert_0t (E : zE) (a : Nat → Nat) (kp ty pl : Nat) (gd : Bool) (od : Nat) (vU vS : Nat → Nat) (vN : Nat → Int32) (vX vM : Nat) (vT : Bool) (vB vK vY vZ vR vC vV : Nat → Int32) (au j : Nat) (hO : okM vU vS vM vK) (hau : au < 4) (hj : j ≤ vU 0) (hf : vU 0 < 12) (ht : vT = true) (hf2 : vM < 60) : zM E yX6_doInsert wsX6_doInsert 3 [.ref (a 0), .int (nI au), .int (nI 0), .int (nI j)] [((a 0), .inr (6, [.ref (a 1), .ref (a 2), .ref (a 3), .int (nI kp), .int (nI ty), .ref (a 4), .int (nI pl), .int (zb gd), .int (nI od), .ref (a 5)])), ((a 1), .inl (E.2.2.1, 512, .inl (mRow vU vS vN vX vM vT vB vK vY vZ vR vC vV)))] [((a 0), .inr (6, [.ref (a 1), .ref (a 2), .ref (a 3), .int (nI kp), .int (nI ty), .ref (a 4), .int (nI pl), .int (zb gd), .int (nI od), .ref (a 5)])), ((a 1), .inl (E.2.2.1, 512, .inl (mRow (zUpN vU 0 (vU 0 + 1)) (mPuS vU vS 0 j) (mPuN vU vS vN vX 0) (vX + 1) (vM + 1) vT (mClr vB (mCx (mPuS vU vS 0 j) 0 j) (vU 1)) (upd vK vM (nI 0)) (upd vY vM (nI au)) (upd vZ vM (nI 0)) (upd vR vM (nI (vX))) (upd vC vM (-5)) (upd vV vM (nI 0)))))] (some (.int (nI (vM)))) := by
  refine zM.of kX6_doInsert (Nat.le_of_ble_eq_true rfl) rfl [some (.ref (a 0)), some (.int (nI au)), some (.int (nI 0)), some (.int (nI j)), none] rfl (Nat.le_of_ble_eq_true rfl) ?_
  intro X eX C N
  subst eX
  obtain ⟨hu0, hu1, hM, hk1, hk2, hk3⟩ := id hO
  refine z_iload_n C 1 dX6_doInsert_0 rfl rfl ?_
  refine z_callS C kX6_noAuthor gX6_doInsert_X6_noAuthor (mX6_noAuthor_y X.2.1 au hau) dX6_doInsert_1 [] rfl (by decide) (by decide) (Nat.le_of_ble_eq_true rfl) rfl ?_
  refine z_bif_ne_f C 16 dX6_doInsert_4 (by decide) rfl ?_
  refine z_iload_n C 2 dX6_doInsert_7 rfl rfl ?_
  refine z_iconst C (nI 0) dX6_doInsert_8 (by decide) ?_
  refine z_iconst C (nI 1) dX6_doInsert_9 (by decide) ?_
  refine z_callS C kX6_in gX6_doInsert_X6_in (mX6_in_y X.2.1 0 1 (by first | assumption | omega) (by first | assumption | omega)) dX6_doInsert_10 [] rfl (by decide) (by decide) (Nat.le_of_ble_eq_true rfl) rfl ?_
  refine z_bif_ne_t C 18 dX6_doInsert_13 (by decide) rfl ?_
  refine z_iload_n C 3 dX6_doInsert_18 rfl rfl ?_
  refine z_iconst C (nI 0) dX6_doInsert_19 (by decide) ?_
  refine z_aload_n C 0 dX6_doInsert_20 rfl rfl ?_
  refine z_iload_n C 2 dX6_doInsert_21 rfl rfl ?_
  refine z_callVr C kX6_many gX6_doInsert_X6_many (mX6_many_0 X.2.1 a kp ty pl gd od vU vS vN vX vM vT vB vK vY vZ vR vC vV ) dX6_doInsert_22 [0, 1] [.int (nI 0), .int (nI j)] 0 rfl nd_0_1 rfl rfl rfl (by decide) (by decide) (Nat.le_of_ble_eq_true rfl) rfl ?_
  refine z_callS C kX6_in gX6_doInsert_X6_in (mX6_in_y X.2.1 j (vU 0) hj (by first | assumption | omega)) dX6_doInsert_25 [] rfl (by decide) (by decide) (Nat.le_of_ble_eq_true rfl) rfl ?_
  refine z_bif_ne_t C 34 dX6_doInsert_28 (by decide) rfl ?_
  refine z_aload_n C 0 dX6_doInsert_34 rfl rfl ?_
  refine z_iload_n C 2 dX6_doInsert_35 rfl rfl ?_
  refine z_callVr C kX6_many gX6_doInsert_X6_many (mX6_many_0 X.2.1 a kp ty pl gd od vU vS vN vX vM vT vB vK vY vZ vR vC vV ) dX6_doInsert_36 [0, 1] [] 0 rfl nd_0_1 rfl rfl rfl (by decide) (by decide) (Nat.le_of_ble_eq_true rfl) rfl ?_
  refine z_iload_n C 2 dX6_doInsert_39 rfl rfl ?_
  refine z_nif_ne_f C 48 dX6_doInsert_40 (by decide) (by omega) (by omega) ?_
  refine z_bipush C (nI 12) dX6_doInsert_43 (by decide) ?_
  refine z_goto C 50 dX6_doInsert_45 (by decide) ?_
  refine z_ncmp_eq_f C 72 dX6_doInsert_50 (by decide) (by omega) (by omega) (by omega) ?_
  refine z_aload_n C 0 dX6_doInsert_53 rfl rfl ?_
  refine z_callVr C kX6_isTracked gX6_doInsert_X6_isTracked (mX6_isTracked X.2.1 a kp ty pl gd od vU vS vN vX vM vT vB vK vY vZ vR vC vV ) dX6_doInsert_54 [0, 1] [] 0 rfl nd_0_1 rfl rfl rfl (by decide) (by decide) (Nat.le_of_ble_eq_true rfl) rfl ?_
  refine z_bif_eq_f C 75 dX6_doInsert_57 (by decide) ht ?_
  refine z_aload_n C 0 dX6_doInsert_60 rfl rfl ?_
  refine z_get C fX6_doInsert_7 0 dX6_doInsert_61 rfl rfl ?_
  refine z_bipush C (nI 51) dX6_doInsert_64 (by decide) ?_
  refine z_ialdN C 1 dX6_doInsert_66 rfl (by omega) (by decide) ?_
  refine z_top (y := nI (vM)) (zMr_M) ?_
  refine z_bipush C (nI 60) dX6_doInsert_67 (by decide) ?_
  refine z_ncmp_ne_t C 75 dX6_doInsert_69 (by decide) (by omega) (by omega) (by omega) ?_
  refine z_aload_n C 0 dX6_doInsert_75 rfl rfl ?_
  refine z_iload_n C 2 dX6_doInsert_76 rfl rfl ?_
  refine z_iload_n C 3 dX6_doInsert_77 rfl rfl ?_
  refine z_callV (wn := [((a 0), .inr (6, [.ref (a 1), .ref (a 2), .ref (a 3), .int (nI kp), .int (nI ty), .ref (a 4), .int (nI pl), .int (zb gd), .int (nI od), .ref (a 5)])), ((a 1), .inl (X.2.1.2.2.1, 512, .inl (mRow (zUpN vU 0 (vU 0 + 1)) (mPuS vU vS 0 j) (mPuN vU vS vN vX 0) (vX + 1) vM vT (mClr vB (mCx (mPuS vU vS 0 j) 0 j) (vU 1)) vK vY vZ vR vC vV)))]) C kX6_putLine gX6_doInsert_X6_putLine (mX6_putLine_0 X.2.1 a kp ty pl gd od vU vS vN vX vM vT vB vK vY vZ vR vC vV j hO hf hj) dX6_doInsert_78 [0, 1] [] 0 rfl rfl nd_0_1 rfl rfl rfl (by decide) (by decide) (Nat.le_of_ble_eq_true rfl) rfl rfl ?_
  have hg_1 : okM (zUpN vU 0 (vU 0 + 1)) (mPuS vU vS 0 j) vM vK := okM_Pu0_0 (by assumption) (by omega) (by omega)
  refine z_istore C dX6_doInsert_81 (Nat.le_of_ble_eq_true rfl) ?_
  refine z_aload_n C 0 dX6_doInsert_83 rfl rfl ?_
  refine z_callVr C kX6_isTracked gX6_doInsert_X6_isTracked (mX6_isTracked X.2.1 a kp ty pl gd od (zUpN vU 0 (vU 0 + 1)) (mPuS vU vS 0 j) (mPuN vU vS vN vX 0) (vX + 1) vM vT (mClr vB (mCx (mPuS vU vS 0 j) 0 j) (vU 1)) vK vY vZ vR vC vV ) dX6_doInsert_84 [0, 1] [] 0 rfl nd_0_1 rfl rfl rfl (by decide) (by decide) (Nat.le_of_ble_eq_true rfl) rfl ?_
  refine z_top (y := zb (vT)) rfl ?_
  refine z_bif_eq_f C 125 dX6_doInsert_87 (by decide) ht ?_
  refine z_aload_n C 0 dX6_doInsert_90 rfl rfl ?_
  refine z_iconst C (nI 2) dX6_doInsert_91 (by decide) ?_
  refine z_iload_n C 2 dX6_doInsert_92 rfl rfl ?_
  refine z_imul C dX6_doInsert_93 ?_
  refine z_top (y := nI 0) (pk_mul _ _) ?_
  refine z_iload_n C 1 dX6_doInsert_94 rfl rfl ?_
  refine z_iload_n C 2 dX6_doInsert_95 rfl rfl ?_
  refine z_nif_ne_f C 104 dX6_doInsert_96 (by decide) (by omega) (by omega) ?_
  refine z_iload C dX6_doInsert_99 rfl ?_
  refine z_goto C 106 dX6_doInsert_101 (by decide) ?_
  refine z_iload_n C 2 dX6_doInsert_106 rfl rfl ?_
  refine z_iconst C (nI 1) dX6_doInsert_107 (by decide) ?_
  refine z_ncmp_ne_t C 116 dX6_doInsert_108 (by decide) (by omega) (by omega) (by omega) ?_
  refine z_bipush C (-5) dX6_doInsert_116 (by decide) ?_
  refine z_iconst C (nI 0) dX6_doInsert_118 (by decide) ?_
  refine z_callV (wn := [((a 0), .inr (6, [.ref (a 1), .ref (a 2), .ref (a 3), .int (nI kp), .int (nI ty), .ref (a 4), .int (nI pl), .int (zb gd), .int (nI od), .ref (a 5)])), ((a 1), .inl (X.2.1.2.2.1, 512, .inl (mRow (zUpN vU 0 (vU 0 + 1)) (mPuS vU vS 0 j) (mPuN vU vS vN vX 0) (vX + 1) (vM + 1) vT (mClr vB (mCx (mPuS vU vS 0 j) 0 j) (vU 1)) (upd vK vM (nI 0)) (upd vY vM (nI au)) (upd vZ vM (nI 0)) (upd vR vM (nI (vX))) (upd vC vM (-5)) (upd vV vM (nI 0)))))]) C kX6_make gX6_doInsert_X6_make (mX6_make X.2.1 a kp ty pl gd od (zUpN vU 0 (vU 0 + 1)) (mPuS vU vS 0 j) (mPuN vU vS vN vX 0) (vX + 1) vM vT (mClr vB (mCx (mPuS vU vS 0 j) 0 j) (vU 1)) vK vY vZ vR vC vV (nI 0) (nI au) (nI (vX)) (-5) (nI 0) hg_1 hf2) dX6_doInsert_119 [0, 1] [] 0 rfl rfl nd_0_1 rfl rfl rfl (by decide) (by decide) (Nat.le_of_ble_eq_true rfl) rfl rfl ?_
  refine z_top (y := nI (vM)) rfl ?_
  refine z_goto C 128 dX6_doInsert_122 (by decide) ?_
  exact z_iret C N dX6_doInsert_128 (rfl) (rfl)

set_option maxHeartbeats 4000000 in
set_option maxRecDepth 100000 in
theorem mX6_doInsert_1b (E : zE) (a : Nat → Nat) (kp ty pl : Nat) (gd : Bool) (od : Nat) (vU vS : Nat → Nat) (vN : Nat → Int32) (vX vM : Nat) (vT : Bool) (vB vK vY vZ vR vC vV : Nat → Int32) (au : Nat) (p : Int32) (hO : okM vU vS vM vK) (hau : au < 4) (hx : p < 0 ∨ (¬ p < 0 ∧ nI (vU 1) < p)) : zM E yX6_doInsert wsX6_doInsert 3 [.ref (a 0), .int (nI au), .int (nI 1), .int p] [((a 0), .inr (6, [.ref (a 1), .ref (a 2), .ref (a 3), .int (nI kp), .int (nI ty), .ref (a 4), .int (nI pl), .int (zb gd), .int (nI od), .ref (a 5)])), ((a 1), .inl (E.2.2.1, 512, .inl (mRow vU vS vN vX vM vT vB vK vY vZ vR vC vV)))] [((a 0), .inr (6, [.ref (a 1), .ref (a 2), .ref (a 3), .int (nI kp), .int (nI ty), .ref (a 4), .int (nI pl), .int (zb gd), .int (nI od), .ref (a 5)])), ((a 1), .inl (E.2.2.1, 512, .inl (mRow vU vS vN vX vM vT vB vK vY vZ vR vC vV)))] (some (.int (-2))) := by
  refine zM.of kX6_doInsert (Nat.le_of_ble_eq_true rfl) rfl [some (.ref (a 0)), some (.int (nI au)), some (.int (nI 1)), some (.int p), none] rfl (Nat.le_of_ble_eq_true rfl) ?_
  intro X eX C N
  subst eX
  obtain ⟨hu0, hu1, hM, hk1, hk2, hk3⟩ := id hO
  refine z_iload_n C 1 dX6_doInsert_0 rfl rfl ?_
  refine z_callS C kX6_noAuthor gX6_doInsert_X6_noAuthor (mX6_noAuthor_y X.2.1 au hau) dX6_doInsert_1 [] rfl (by decide) (by decide) (Nat.le_of_ble_eq_true rfl) rfl ?_
  refine z_bif_ne_f C 16 dX6_doInsert_4 (by decide) rfl ?_
  refine z_iload_n C 2 dX6_doInsert_7 rfl rfl ?_
  refine z_iconst C (nI 0) dX6_doInsert_8 (by decide) ?_
  refine z_iconst C (nI 1) dX6_doInsert_9 (by decide) ?_
  refine z_callS C kX6_in gX6_doInsert_X6_in (mX6_in_y X.2.1 1 1 (by first | assumption | omega) (by first | assumption | omega)) dX6_doInsert_10 [] rfl (by decide) (by decide) (Nat.le_of_ble_eq_true rfl) rfl ?_
  refine z_bif_ne_t C 18 dX6_doInsert_13 (by decide) rfl ?_
  refine z_iload_n C 3 dX6_doInsert_18 rfl rfl ?_
  refine z_iconst C (nI 0) dX6_doInsert_19 (by decide) ?_
  refine z_aload_n C 0 dX6_doInsert_20 rfl rfl ?_
  refine z_iload_n C 2 dX6_doInsert_21 rfl rfl ?_
  refine z_callVr C kX6_many gX6_doInsert_X6_many (mX6_many_1 X.2.1 a kp ty pl gd od vU vS vN vX vM vT vB vK vY vZ vR vC vV ) dX6_doInsert_22 [0, 1] [.int (nI 0), .int p] 0 rfl nd_0_1 rfl rfl rfl (by decide) (by decide) (Nat.le_of_ble_eq_true rfl) rfl ?_
  refine z_callS C kX6_in gX6_doInsert_X6_in (mX6_in_n X.2.1 p (vU 1) hx) dX6_doInsert_25 [] rfl (by decide) (by decide) (Nat.le_of_ble_eq_true rfl) rfl ?_
  refine z_bif_ne_f C 34 dX6_doInsert_28 (by decide) rfl ?_
  refine z_bipush C (-2) dX6_doInsert_31 (by decide) ?_
  exact z_iret C N dX6_doInsert_33 (rfl) (rfl)

set_option maxHeartbeats 4000000 in
set_option maxRecDepth 100000 in
theorem mX6_doInsert_1f1 (E : zE) (a : Nat → Nat) (kp ty pl : Nat) (gd : Bool) (od : Nat) (vU vS : Nat → Nat) (vN : Nat → Int32) (vX vM : Nat) (vT : Bool) (vB vK vY vZ vR vC vV : Nat → Int32) (au j : Nat) (hO : okM vU vS vM vK) (hau : au < 4) (hj : j ≤ vU 1) (hf : vU 1 = 8) : zM E yX6_doInsert wsX6_doInsert 3 [.ref (a 0), .int (nI au), .int (nI 1), .int (nI j)] [((a 0), .inr (6, [.ref (a 1), .ref (a 2), .ref (a 3), .int (nI kp), .int (nI ty), .ref (a 4), .int (nI pl), .int (zb gd), .int (nI od), .ref (a 5)])), ((a 1), .inl (E.2.2.1, 512, .inl (mRow vU vS vN vX vM vT vB vK vY vZ vR vC vV)))] [((a 0), .inr (6, [.ref (a 1), .ref (a 2), .ref (a 3), .int (nI kp), .int (nI ty), .ref (a 4), .int (nI pl), .int (zb gd), .int (nI od), .ref (a 5)])), ((a 1), .inl (E.2.2.1, 512, .inl (mRow vU vS vN vX vM vT vB vK vY vZ vR vC vV)))] (some (.int (-3))) := by
  refine zM.of kX6_doInsert (Nat.le_of_ble_eq_true rfl) rfl [some (.ref (a 0)), some (.int (nI au)), some (.int (nI 1)), some (.int (nI j)), none] rfl (Nat.le_of_ble_eq_true rfl) ?_
  intro X eX C N
  subst eX
  obtain ⟨hu0, hu1, hM, hk1, hk2, hk3⟩ := id hO
  refine z_iload_n C 1 dX6_doInsert_0 rfl rfl ?_
  refine z_callS C kX6_noAuthor gX6_doInsert_X6_noAuthor (mX6_noAuthor_y X.2.1 au hau) dX6_doInsert_1 [] rfl (by decide) (by decide) (Nat.le_of_ble_eq_true rfl) rfl ?_
  refine z_bif_ne_f C 16 dX6_doInsert_4 (by decide) rfl ?_
  refine z_iload_n C 2 dX6_doInsert_7 rfl rfl ?_
  refine z_iconst C (nI 0) dX6_doInsert_8 (by decide) ?_
  refine z_iconst C (nI 1) dX6_doInsert_9 (by decide) ?_
  refine z_callS C kX6_in gX6_doInsert_X6_in (mX6_in_y X.2.1 1 1 (by first | assumption | omega) (by first | assumption | omega)) dX6_doInsert_10 [] rfl (by decide) (by decide) (Nat.le_of_ble_eq_true rfl) rfl ?_
  refine z_bif_ne_t C 18 dX6_doInsert_13 (by decide) rfl ?_
  refine z_iload_n C 3 dX6_doInsert_18 rfl rfl ?_
  refine z_iconst C (nI 0) dX6_doInsert_19 (by decide) ?_
  refine z_aload_n C 0 dX6_doInsert_20 rfl rfl ?_
  refine z_iload_n C 2 dX6_doInsert_21 rfl rfl ?_
  refine z_callVr C kX6_many gX6_doInsert_X6_many (mX6_many_1 X.2.1 a kp ty pl gd od vU vS vN vX vM vT vB vK vY vZ vR vC vV ) dX6_doInsert_22 [0, 1] [.int (nI 0), .int (nI j)] 0 rfl nd_0_1 rfl rfl rfl (by decide) (by decide) (Nat.le_of_ble_eq_true rfl) rfl ?_
  refine z_callS C kX6_in gX6_doInsert_X6_in (mX6_in_y X.2.1 j (vU 1) hj (by first | assumption | omega)) dX6_doInsert_25 [] rfl (by decide) (by decide) (Nat.le_of_ble_eq_true rfl) rfl ?_
  refine z_bif_ne_t C 34 dX6_doInsert_28 (by decide) rfl ?_
  refine z_aload_n C 0 dX6_doInsert_34 rfl rfl ?_
  refine z_iload_n C 2 dX6_doInsert_35 rfl rfl ?_
  refine z_callVr C kX6_many gX6_doInsert_X6_many (mX6_many_1 X.2.1 a kp ty pl gd od vU vS vN vX vM vT vB vK vY vZ vR vC vV ) dX6_doInsert_36 [0, 1] [] 0 rfl nd_0_1 rfl rfl rfl (by decide) (by decide) (Nat.le_of_ble_eq_true rfl) rfl ?_
  refine z_iload_n C 2 dX6_doInsert_39 rfl rfl ?_
  refine z_nif_ne_t C 48 dX6_doInsert_40 (by decide) (by omega) (by omega) ?_
  refine z_bipush C (nI 8) dX6_doInsert_48 (by decide) ?_
  refine z_ncmp_eq_t C 72 dX6_doInsert_50 (by decide) (by omega) (by omega) (by omega) ?_
  refine z_bipush C (-3) dX6_doInsert_72 (by decide) ?_
  exact z_iret C N dX6_doInsert_74 (rfl) (rfl)

set_option maxHeartbeats 4000000 in
set_option maxRecDepth 100000 in
theorem mX6_doInsert_1f2 (E : zE) (a : Nat → Nat) (kp ty pl : Nat) (gd : Bool) (od : Nat) (vU vS : Nat → Nat) (vN : Nat → Int32) (vX vM : Nat) (vT : Bool) (vB vK vY vZ vR vC vV : Nat → Int32) (au j : Nat) (hO : okM vU vS vM vK) (hau : au < 4) (hj : j ≤ vU 1) (hf : vU 1 < 8) (ht : vT = true) (hf2 : vM = 60) : zM E yX6_doInsert wsX6_doInsert 3 [.ref (a 0), .int (nI au), .int (nI 1), .int (nI j)] [((a 0), .inr (6, [.ref (a 1), .ref (a 2), .ref (a 3), .int (nI kp), .int (nI ty), .ref (a 4), .int (nI pl), .int (zb gd), .int (nI od), .ref (a 5)])), ((a 1), .inl (E.2.2.1, 512, .inl (mRow vU vS vN vX vM vT vB vK vY vZ vR vC vV)))] [((a 0), .inr (6, [.ref (a 1), .ref (a 2), .ref (a 3), .int (nI kp), .int (nI ty), .ref (a 4), .int (nI pl), .int (zb gd), .int (nI od), .ref (a 5)])), ((a 1), .inl (E.2.2.1, 512, .inl (mRow vU vS vN vX vM vT vB vK vY vZ vR vC vV)))] (some (.int (-3))) := by
  refine zM.of kX6_doInsert (Nat.le_of_ble_eq_true rfl) rfl [some (.ref (a 0)), some (.int (nI au)), some (.int (nI 1)), some (.int (nI j)), none] rfl (Nat.le_of_ble_eq_true rfl) ?_
  intro X eX C N
  subst eX
  obtain ⟨hu0, hu1, hM, hk1, hk2, hk3⟩ := id hO
  refine z_iload_n C 1 dX6_doInsert_0 rfl rfl ?_
  refine z_callS C kX6_noAuthor gX6_doInsert_X6_noAuthor (mX6_noAuthor_y X.2.1 au hau) dX6_doInsert_1 [] rfl (by decide) (by decide) (Nat.le_of_ble_eq_true rfl) rfl ?_
  refine z_bif_ne_f C 16 dX6_doInsert_4 (by decide) rfl ?_
  refine z_iload_n C 2 dX6_doInsert_7 rfl rfl ?_
  refine z_iconst C (nI 0) dX6_doInsert_8 (by decide) ?_
  refine z_iconst C (nI 1) dX6_doInsert_9 (by decide) ?_
  refine z_callS C kX6_in gX6_doInsert_X6_in (mX6_in_y X.2.1 1 1 (by first | assumption | omega) (by first | assumption | omega)) dX6_doInsert_10 [] rfl (by decide) (by decide) (Nat.le_of_ble_eq_true rfl) rfl ?_
  refine z_bif_ne_t C 18 dX6_doInsert_13 (by decide) rfl ?_
  refine z_iload_n C 3 dX6_doInsert_18 rfl rfl ?_
  refine z_iconst C (nI 0) dX6_doInsert_19 (by decide) ?_
  refine z_aload_n C 0 dX6_doInsert_20 rfl rfl ?_
  refine z_iload_n C 2 dX6_doInsert_21 rfl rfl ?_
  refine z_callVr C kX6_many gX6_doInsert_X6_many (mX6_many_1 X.2.1 a kp ty pl gd od vU vS vN vX vM vT vB vK vY vZ vR vC vV ) dX6_doInsert_22 [0, 1] [.int (nI 0), .int (nI j)] 0 rfl nd_0_1 rfl rfl rfl (by decide) (by decide) (Nat.le_of_ble_eq_true rfl) rfl ?_
  refine z_callS C kX6_in gX6_doInsert_X6_in (mX6_in_y X.2.1 j (vU 1) hj (by first | assumption | omega)) dX6_doInsert_25 [] rfl (by decide) (by decide) (Nat.le_of_ble_eq_true rfl) rfl ?_
  refine z_bif_ne_t C 34 dX6_doInsert_28 (by decide) rfl ?_
  refine z_aload_n C 0 dX6_doInsert_34 rfl rfl ?_
  refine z_iload_n C 2 dX6_doInsert_35 rfl rfl ?_
  refine z_callVr C kX6_many gX6_doInsert_X6_many (mX6_many_1 X.2.1 a kp ty pl gd od vU vS vN vX vM vT vB vK vY vZ vR vC vV ) dX6_doInsert_36 [0, 1] [] 0 rfl nd_0_1 rfl rfl rfl (by decide) (by decide) (Nat.le_of_ble_eq_true rfl) rfl ?_
  refine z_iload_n C 2 dX6_doInsert_39 rfl rfl ?_
  refine z_nif_ne_t C 48 dX6_doInsert_40 (by decide) (by omega) (by omega) ?_
  refine z_bipush C (nI 8) dX6_doInsert_48 (by decide) ?_
  refine z_ncmp_eq_f C 72 dX6_doInsert_50 (by decide) (by omega) (by omega) (by omega) ?_
  refine z_aload_n C 0 dX6_doInsert_53 rfl rfl ?_
  refine z_callVr C kX6_isTracked gX6_doInsert_X6_isTracked (mX6_isTracked X.2.1 a kp ty pl gd od vU vS vN vX vM vT vB vK vY vZ vR vC vV ) dX6_doInsert_54 [0, 1] [] 0 rfl nd_0_1 rfl rfl rfl (by decide) (by decide) (Nat.le_of_ble_eq_true rfl) rfl ?_
  refine z_bif_eq_f C 75 dX6_doInsert_57 (by decide) ht ?_
  refine z_aload_n C 0 dX6_doInsert_60 rfl rfl ?_
  refine z_get C fX6_doInsert_7 0 dX6_doInsert_61 rfl rfl ?_
  refine z_bipush C (nI 51) dX6_doInsert_64 (by decide) ?_
  refine z_ialdN C 1 dX6_doInsert_66 rfl (by omega) (by decide) ?_
  refine z_top (y := nI (vM)) (zMr_M) ?_
  refine z_bipush C (nI 60) dX6_doInsert_67 (by decide) ?_
  refine z_ncmp_ne_f C 75 dX6_doInsert_69 (by decide) (by omega) (by omega) (by omega) ?_
  refine z_bipush C (-3) dX6_doInsert_72 (by decide) ?_
  exact z_iret C N dX6_doInsert_74 (rfl) (rfl)

set_option maxHeartbeats 4000000 in
set_option maxRecDepth 100000 in
theorem mX6_doInsert_1u (E : zE) (a : Nat → Nat) (kp ty pl : Nat) (gd : Bool) (od : Nat) (vU vS : Nat → Nat) (vN : Nat → Int32) (vX vM : Nat) (vT : Bool) (vB vK vY vZ vR vC vV : Nat → Int32) (au j : Nat) (hO : okM vU vS vM vK) (hau : au < 4) (hj : j ≤ vU 1) (hf : vU 1 < 8) (ht : vT = false) : zM E yX6_doInsert wsX6_doInsert 3 [.ref (a 0), .int (nI au), .int (nI 1), .int (nI j)] [((a 0), .inr (6, [.ref (a 1), .ref (a 2), .ref (a 3), .int (nI kp), .int (nI ty), .ref (a 4), .int (nI pl), .int (zb gd), .int (nI od), .ref (a 5)])), ((a 1), .inl (E.2.2.1, 512, .inl (mRow vU vS vN vX vM vT vB vK vY vZ vR vC vV)))] [((a 0), .inr (6, [.ref (a 1), .ref (a 2), .ref (a 3), .int (nI kp), .int (nI ty), .ref (a 4), .int (nI pl), .int (zb gd), .int (nI od), .ref (a 5)])), ((a 1), .inl (E.2.2.1, 512, .inl (mRow (zUpN vU 1 (vU 1 + 1)) (mPuS vU vS 1 j) (mPuN vU vS vN vX 1) (vX + 1) vM vT (mClr vB (mCx (mPuS vU vS 1 j) 1 j) (vU 0)) vK vY vZ vR vC vV)))] (some (.int (nI 1000))) := by
  refine zM.of kX6_doInsert (Nat.le_of_ble_eq_true rfl) rfl [some (.ref (a 0)), some (.int (nI au)), some (.int (nI 1)), some (.int (nI j)), none] rfl (Nat.le_of_ble_eq_true rfl) ?_
  intro X eX C N
  subst eX
  obtain ⟨hu0, hu1, hM, hk1, hk2, hk3⟩ := id hO
  refine z_iload_n C 1 dX6_doInsert_0 rfl rfl ?_
  refine z_callS C kX6_noAuthor gX6_doInsert_X6_noAuthor (mX6_noAuthor_y X.2.1 au hau) dX6_doInsert_1 [] rfl (by decide) (by decide) (Nat.le_of_ble_eq_true rfl) rfl ?_
  refine z_bif_ne_f C 16 dX6_doInsert_4 (by decide) rfl ?_
  refine z_iload_n C 2 dX6_doInsert_7 rfl rfl ?_
  refine z_iconst C (nI 0) dX6_doInsert_8 (by decide) ?_
  refine z_iconst C (nI 1) dX6_doInsert_9 (by decide) ?_
  refine z_callS C kX6_in gX6_doInsert_X6_in (mX6_in_y X.2.1 1 1 (by first | assumption | omega) (by first | assumption | omega)) dX6_doInsert_10 [] rfl (by decide) (by decide) (Nat.le_of_ble_eq_true rfl) rfl ?_
  refine z_bif_ne_t C 18 dX6_doInsert_13 (by decide) rfl ?_
  refine z_iload_n C 3 dX6_doInsert_18 rfl rfl ?_
  refine z_iconst C (nI 0) dX6_doInsert_19 (by decide) ?_
  refine z_aload_n C 0 dX6_doInsert_20 rfl rfl ?_
  refine z_iload_n C 2 dX6_doInsert_21 rfl rfl ?_
  refine z_callVr C kX6_many gX6_doInsert_X6_many (mX6_many_1 X.2.1 a kp ty pl gd od vU vS vN vX vM vT vB vK vY vZ vR vC vV ) dX6_doInsert_22 [0, 1] [.int (nI 0), .int (nI j)] 0 rfl nd_0_1 rfl rfl rfl (by decide) (by decide) (Nat.le_of_ble_eq_true rfl) rfl ?_
  refine z_callS C kX6_in gX6_doInsert_X6_in (mX6_in_y X.2.1 j (vU 1) hj (by first | assumption | omega)) dX6_doInsert_25 [] rfl (by decide) (by decide) (Nat.le_of_ble_eq_true rfl) rfl ?_
  refine z_bif_ne_t C 34 dX6_doInsert_28 (by decide) rfl ?_
  refine z_aload_n C 0 dX6_doInsert_34 rfl rfl ?_
  refine z_iload_n C 2 dX6_doInsert_35 rfl rfl ?_
  refine z_callVr C kX6_many gX6_doInsert_X6_many (mX6_many_1 X.2.1 a kp ty pl gd od vU vS vN vX vM vT vB vK vY vZ vR vC vV ) dX6_doInsert_36 [0, 1] [] 0 rfl nd_0_1 rfl rfl rfl (by decide) (by decide) (Nat.le_of_ble_eq_true rfl) rfl ?_
  refine z_iload_n C 2 dX6_doInsert_39 rfl rfl ?_
  refine z_nif_ne_t C 48 dX6_doInsert_40 (by decide) (by omega) (by omega) ?_
  refine z_bipush C (nI 8) dX6_doInsert_48 (by decide) ?_
  refine z_ncmp_eq_f C 72 dX6_doInsert_50 (by decide) (by omega) (by omega) (by omega) ?_
  refine z_aload_n C 0 dX6_doInsert_53 rfl rfl ?_
  refine z_callVr C kX6_isTracked gX6_doInsert_X6_isTracked (mX6_isTracked X.2.1 a kp ty pl gd od vU vS vN vX vM vT vB vK vY vZ vR vC vV ) dX6_doInsert_54 [0, 1] [] 0 rfl nd_0_1 rfl rfl rfl (by decide) (by decide) (Nat.le_of_ble_eq_true rfl) rfl ?_
  refine z_bif_eq_t C 75 dX6_doInsert_57 (by decide) ht ?_
  refine z_aload_n C 0 dX6_doInsert_75 rfl rfl ?_
  refine z_iload_n C 2 dX6_doInsert_76 rfl rfl ?_
  refine z_iload_n C 3 dX6_doInsert_77 rfl rfl ?_
  refine z_callV (wn := [((a 0), .inr (6, [.ref (a 1), .ref (a 2), .ref (a 3), .int (nI kp), .int (nI ty), .ref (a 4), .int (nI pl), .int (zb gd), .int (nI od), .ref (a 5)])), ((a 1), .inl (X.2.1.2.2.1, 512, .inl (mRow (zUpN vU 1 (vU 1 + 1)) (mPuS vU vS 1 j) (mPuN vU vS vN vX 1) (vX + 1) vM vT (mClr vB (mCx (mPuS vU vS 1 j) 1 j) (vU 0)) vK vY vZ vR vC vV)))]) C kX6_putLine gX6_doInsert_X6_putLine (mX6_putLine_1 X.2.1 a kp ty pl gd od vU vS vN vX vM vT vB vK vY vZ vR vC vV j hO hf hj) dX6_doInsert_78 [0, 1] [] 0 rfl rfl nd_0_1 rfl rfl rfl (by decide) (by decide) (Nat.le_of_ble_eq_true rfl) rfl rfl ?_
  have hg_1 : okM (zUpN vU 1 (vU 1 + 1)) (mPuS vU vS 1 j) vM vK := okM_Pu0_1 (by assumption) (by omega) (by omega)
  refine z_istore C dX6_doInsert_81 (Nat.le_of_ble_eq_true rfl) ?_
  refine z_aload_n C 0 dX6_doInsert_83 rfl rfl ?_
  refine z_callVr C kX6_isTracked gX6_doInsert_X6_isTracked (mX6_isTracked X.2.1 a kp ty pl gd od (zUpN vU 1 (vU 1 + 1)) (mPuS vU vS 1 j) (mPuN vU vS vN vX 1) (vX + 1) vM vT (mClr vB (mCx (mPuS vU vS 1 j) 1 j) (vU 0)) vK vY vZ vR vC vV ) dX6_doInsert_84 [0, 1] [] 0 rfl nd_0_1 rfl rfl rfl (by decide) (by decide) (Nat.le_of_ble_eq_true rfl) rfl ?_
  refine z_top (y := zb (vT)) rfl ?_
  refine z_bif_eq_t C 125 dX6_doInsert_87 (by decide) ht ?_
  refine z_sipush C (nI 1000) dX6_doInsert_125 (by decide) ?_
  exact z_iret C N dX6_doInsert_128 (rfl) (rfl)

set_option maxHeartbeats 4000000 in
set_option maxRecDepth 100000 in
theorem mX6_doInsert_1t (E : zE) (a : Nat → Nat) (kp ty pl : Nat) (gd : Bool) (od : Nat) (vU vS : Nat → Nat) (vN : Nat → Int32) (vX vM : Nat) (vT : Bool) (vB vK vY vZ vR vC vV : Nat → Int32) (au j : Nat) (hO : okM vU vS vM vK) (hau : au < 4) (hj : j ≤ vU 1) (hf : vU 1 < 8) (ht : vT = true) (hf2 : vM < 60) : zM E yX6_doInsert wsX6_doInsert 3 [.ref (a 0), .int (nI au), .int (nI 1), .int (nI j)] [((a 0), .inr (6, [.ref (a 1), .ref (a 2), .ref (a 3), .int (nI kp), .int (nI ty), .ref (a 4), .int (nI pl), .int (zb gd), .int (nI od), .ref (a 5)])), ((a 1), .inl (E.2.2.1, 512, .inl (mRow vU vS vN vX vM vT vB vK vY vZ vR vC vV)))] [((a 0), .inr (6, [.ref (a 1), .ref (a 2), .ref (a 3), .int (nI kp), .int (nI ty), .ref (a 4), .int (nI pl), .int (zb gd), .int (nI od), .ref (a 5)])), ((a 1), .inl (E.2.2.1, 512, .inl (mRow (zUpN vU 1 (vU 1 + 1)) (mPuS vU vS 1 j) (mPuN vU vS vN vX 1) (vX + 1) (vM + 1) vT (mClr vB (mCx (mPuS vU vS 1 j) 1 j) (vU 0)) (upd vK vM (nI 2)) (upd vY vM (nI au)) (upd vZ vM (nI 0)) (upd vR vM (-5)) (upd vC vM (nI (vX))) (upd vV vM (nI 0)))))] (some (.int (nI (vM)))) := by
  refine zM.of kX6_doInsert (Nat.le_of_ble_eq_true rfl) rfl [some (.ref (a 0)), some (.int (nI au)), some (.int (nI 1)), some (.int (nI j)), none] rfl (Nat.le_of_ble_eq_true rfl) ?_
  intro X eX C N
  subst eX
  obtain ⟨hu0, hu1, hM, hk1, hk2, hk3⟩ := id hO
  refine z_iload_n C 1 dX6_doInsert_0 rfl rfl ?_
  refine z_callS C kX6_noAuthor gX6_doInsert_X6_noAuthor (mX6_noAuthor_y X.2.1 au hau) dX6_doInsert_1 [] rfl (by decide) (by decide) (Nat.le_of_ble_eq_true rfl) rfl ?_
  refine z_bif_ne_f C 16 dX6_doInsert_4 (by decide) rfl ?_
  refine z_iload_n C 2 dX6_doInsert_7 rfl rfl ?_
  refine z_iconst C (nI 0) dX6_doInsert_8 (by decide) ?_
  refine z_iconst C (nI 1) dX6_doInsert_9 (by decide) ?_
  refine z_callS C kX6_in gX6_doInsert_X6_in (mX6_in_y X.2.1 1 1 (by first | assumption | omega) (by first | assumption | omega)) dX6_doInsert_10 [] rfl (by decide) (by decide) (Nat.le_of_ble_eq_true rfl) rfl ?_
  refine z_bif_ne_t C 18 dX6_doInsert_13 (by decide) rfl ?_
  refine z_iload_n C 3 dX6_doInsert_18 rfl rfl ?_
  refine z_iconst C (nI 0) dX6_doInsert_19 (by decide) ?_
  refine z_aload_n C 0 dX6_doInsert_20 rfl rfl ?_
  refine z_iload_n C 2 dX6_doInsert_21 rfl rfl ?_
  refine z_callVr C kX6_many gX6_doInsert_X6_many (mX6_many_1 X.2.1 a kp ty pl gd od vU vS vN vX vM vT vB vK vY vZ vR vC vV ) dX6_doInsert_22 [0, 1] [.int (nI 0), .int (nI j)] 0 rfl nd_0_1 rfl rfl rfl (by decide) (by decide) (Nat.le_of_ble_eq_true rfl) rfl ?_
  refine z_callS C kX6_in gX6_doInsert_X6_in (mX6_in_y X.2.1 j (vU 1) hj (by first | assumption | omega)) dX6_doInsert_25 [] rfl (by decide) (by decide) (Nat.le_of_ble_eq_true rfl) rfl ?_
  refine z_bif_ne_t C 34 dX6_doInsert_28 (by decide) rfl ?_
  refine z_aload_n C 0 dX6_doInsert_34 rfl rfl ?_
  refine z_iload_n C 2 dX6_doInsert_35 rfl rfl ?_
  refine z_callVr C kX6_many gX6_doInsert_X6_many (mX6_many_1 X.2.1 a kp ty pl gd od vU vS vN vX vM vT vB vK vY vZ vR vC vV ) dX6_doInsert_36 [0, 1] [] 0 rfl nd_0_1 rfl rfl rfl (by decide) (by decide) (Nat.le_of_ble_eq_true rfl) rfl ?_
  refine z_iload_n C 2 dX6_doInsert_39 rfl rfl ?_
  refine z_nif_ne_t C 48 dX6_doInsert_40 (by decide) (by omega) (by omega) ?_
  refine z_bipush C (nI 8) dX6_doInsert_48 (by decide) ?_
  refine z_ncmp_eq_f C 72 dX6_doInsert_50 (by decide) (by omega) (by omega) (by omega) ?_
  refine z_aload_n C 0 dX6_doInsert_53 rfl rfl ?_
  refine z_callVr C kX6_isTracked gX6_doInsert_X6_isTracked (mX6_isTracked X.2.1 a kp ty pl gd od vU vS vN vX vM vT vB vK vY vZ vR vC vV ) dX6_doInsert_54 [0, 1] [] 0 rfl nd_0_1 rfl rfl rfl (by decide) (by decide) (Nat.le_of_ble_eq_true rfl) rfl ?_
  refine z_bif_eq_f C 75 dX6_doInsert_57 (by decide) ht ?_
  refine z_aload_n C 0 dX6_doInsert_60 rfl rfl ?_
  refine z_get C fX6_doInsert_7 0 dX6_doInsert_61 rfl rfl ?_
  refine z_bipush C (nI 51) dX6_doInsert_64 (by decide) ?_
  refine z_ialdN C 1 dX6_doInsert_66 rfl (by omega) (by decide) ?_
  refine z_top (y := nI (vM)) (zMr_M) ?_
  refine z_bipush C (nI 60) dX6_doInsert_67 (by decide) ?_
  refine z_ncmp_ne_t C 75 dX6_doInsert_69 (by decide) (by omega) (by omega) (by omega) ?_
  refine z_aload_n C 0 dX6_doInsert_75 rfl rfl ?_
  refine z_iload_n C 2 dX6_doInsert_76 rfl rfl ?_
  refine z_iload_n C 3 dX6_doInsert_77 rfl rfl ?_
  refine z_callV (wn := [((a 0), .inr (6, [.ref (a 1), .ref (a 2), .ref (a 3), .int (nI kp), .int (nI ty), .ref (a 4), .int (nI pl), .int (zb gd), .int (nI od), .ref (a 5)])), ((a 1), .inl (X.2.1.2.2.1, 512, .inl (mRow (zUpN vU 1 (vU 1 + 1)) (mPuS vU vS 1 j) (mPuN vU vS vN vX 1) (vX + 1) vM vT (mClr vB (mCx (mPuS vU vS 1 j) 1 j) (vU 0)) vK vY vZ vR vC vV)))]) C kX6_putLine gX6_doInsert_X6_putLine (mX6_putLine_1 X.2.1 a kp ty pl gd od vU vS vN vX vM vT vB vK vY vZ vR vC vV j hO hf hj) dX6_doInsert_78 [0, 1] [] 0 rfl rfl nd_0_1 rfl rfl rfl (by decide) (by decide) (Nat.le_of_ble_eq_true rfl) rfl rfl ?_
  have hg_1 : okM (zUpN vU 1 (vU 1 + 1)) (mPuS vU vS 1 j) vM vK := okM_Pu0_1 (by assumption) (by omega) (by omega)
  refine z_istore C dX6_doInsert_81 (Nat.le_of_ble_eq_true rfl) ?_
  refine z_aload_n C 0 dX6_doInsert_83 rfl rfl ?_
  refine z_callVr C kX6_isTracked gX6_doInsert_X6_isTracked (mX6_isTracked X.2.1 a kp ty pl gd od (zUpN vU 1 (vU 1 + 1)) (mPuS vU vS 1 j) (mPuN vU vS vN vX 1) (vX + 1) vM vT (mClr vB (mCx (mPuS vU vS 1 j) 1 j) (vU 0)) vK vY vZ vR vC vV ) dX6_doInsert_84 [0, 1] [] 0 rfl nd_0_1 rfl rfl rfl (by decide) (by decide) (Nat.le_of_ble_eq_true rfl) rfl ?_
  refine z_top (y := zb (vT)) rfl ?_
  refine z_bif_eq_f C 125 dX6_doInsert_87 (by decide) ht ?_
  refine z_aload_n C 0 dX6_doInsert_90 rfl rfl ?_
  refine z_iconst C (nI 2) dX6_doInsert_91 (by decide) ?_
  refine z_iload_n C 2 dX6_doInsert_92 rfl rfl ?_
  refine z_imul C dX6_doInsert_93 ?_
  refine z_top (y := nI 2) (pk_mul _ _) ?_
  refine z_iload_n C 1 dX6_doInsert_94 rfl rfl ?_
  refine z_iload_n C 2 dX6_doInsert_95 rfl rfl ?_
  refine z_nif_ne_t C 104 dX6_doInsert_96 (by decide) (by omega) (by omega) ?_
  refine z_bipush C (-5) dX6_doInsert_104 (by decide) ?_
  refine z_iload_n C 2 dX6_doInsert_106 rfl rfl ?_
  refine z_iconst C (nI 1) dX6_doInsert_107 (by decide) ?_
  refine z_ncmp_ne_f C 116 dX6_doInsert_108 (by decide) (by omega) (by omega) (by omega) ?_
  refine z_iload C dX6_doInsert_111 rfl ?_
  refine z_goto C 118 dX6_doInsert_113 (by decide) ?_
  refine z_iconst C (nI 0) dX6_doInsert_118 (by decide) ?_
  refine z_callV (wn := [((a 0), .inr (6, [.ref (a 1), .ref (a 2), .ref (a 3), .int (nI kp), .int (nI ty), .ref (a 4), .int (nI pl), .int (zb gd), .int (nI od), .ref (a 5)])), ((a 1), .inl (X.2.1.2.2.1, 512, .inl (mRow (zUpN vU 1 (vU 1 + 1)) (mPuS vU vS 1 j) (mPuN vU vS vN vX 1) (vX + 1) (vM + 1) vT (mClr vB (mCx (mPuS vU vS 1 j) 1 j) (vU 0)) (upd vK vM (nI 2)) (upd vY vM (nI au)) (upd vZ vM (nI 0)) (upd vR vM (-5)) (upd vC vM (nI (vX))) (upd vV vM (nI 0)))))]) C kX6_make gX6_doInsert_X6_make (mX6_make X.2.1 a kp ty pl gd od (zUpN vU 1 (vU 1 + 1)) (mPuS vU vS 1 j) (mPuN vU vS vN vX 1) (vX + 1) vM vT (mClr vB (mCx (mPuS vU vS 1 j) 1 j) (vU 0)) vK vY vZ vR vC vV (nI 2) (nI au) (-5) (nI (vX)) (nI 0) hg_1 hf2) dX6_doInsert_119 [0, 1] [] 0 rfl rfl nd_0_1 rfl rfl rfl (by decide) (by decide) (Nat.le_of_ble_eq_true rfl) rfl rfl ?_
  refine z_top (y := nI (vM)) rfl ?_
  refine z_goto C 128 dX6_doInsert_122 (by decide) ?_
  exact z_iret C N dX6_doInsert_128 (rfl) (rfl)

set_option maxHeartbeats 4000000 in
set_option maxRecDepth 100000 in
theorem mX6_noLine_b (E : zE) (a : Nat → Nat) (kp ty pl : Nat) (gd : Bool) (od : Nat) (vU vS : Nat → Nat) (vN : Nat → Int32) (vX vM : Nat) (vT : Bool) (vB vK vY vZ vR vC vV : Nat → Int32) (ax p : Int32) (hO : okM vU vS vM vK) (hax : ax < 0 ∨ (¬ ax < 0 ∧ nI 1 < ax)) : zM E yX6_noLine wsX6_noLine 1 [.ref (a 0), .int ax, .int p] [((a 0), .inr (6, [.ref (a 1), .ref (a 2), .ref (a 3), .int (nI kp), .int (nI ty), .ref (a 4), .int (nI pl), .int (zb gd), .int (nI od), .ref (a 5)])), ((a 1), .inl (E.2.2.1, 512, .inl (mRow vU vS vN vX vM vT vB vK vY vZ vR vC vV)))] [((a 0), .inr (6, [.ref (a 1), .ref (a 2), .ref (a 3), .int (nI kp), .int (nI ty), .ref (a 4), .int (nI pl), .int (zb gd), .int (nI od), .ref (a 5)])), ((a 1), .inl (E.2.2.1, 512, .inl (mRow vU vS vN vX vM vT vB vK vY vZ vR vC vV)))] (some (.int (zb true))) := by
  refine zM.of kX6_noLine (Nat.le_of_ble_eq_true rfl) rfl [some (.ref (a 0)), some (.int ax), some (.int p)] rfl (Nat.le_of_ble_eq_true rfl) ?_
  intro X eX C N
  subst eX
  obtain ⟨hu0, hu1, hM, hk1, hk2, hk3⟩ := id hO
  refine z_iload_n C 1 dX6_noLine_0 rfl rfl ?_
  refine z_iconst C (nI 0) dX6_noLine_1 (by decide) ?_
  refine z_iconst C (nI 1) dX6_noLine_2 (by decide) ?_
  refine z_callS C kX6_in gX6_noLine_X6_in (mX6_in_n X.2.1 ax 1 hax) dX6_noLine_3 [] rfl (by decide) (by decide) (Nat.le_of_ble_eq_true rfl) rfl ?_
  refine z_bif_eq_t C 24 dX6_noLine_6 (by decide) rfl ?_
  refine z_iconst C (nI 1) dX6_noLine_24 (by decide) ?_
  refine z_goto C 29 dX6_noLine_25 (by decide) ?_
  exact z_zret C N dX6_noLine_29 rfl (rfl) (rfl)

theorem kX6_doRemove : zY yX6_doRemove wsX6_doRemove cX6_doRemove 6 (some .int) 3 := ⟨⟨_, rfl⟩, ⟨by decide +kernel, by decide +kernel, by decide +kernel⟩, by decide +kernel⟩
set_option maxHeartbeats 4000000 in
set_option maxRecDepth 100000 in
theorem mX6_doRemove_b1 (E : zE) (a : Nat → Nat) (kp ty pl : Nat) (gd : Bool) (od : Nat) (vU vS : Nat → Nat) (vN : Nat → Int32) (vX vM : Nat) (vT : Bool) (vB vK vY vZ vR vC vV : Nat → Int32) (au ax p : Int32) (hO : okM vU vS vM vK) (hx : au < 0 ∨ (¬ au < 0 ∧ nI 4 ≤ au)) : zM E yX6_doRemove wsX6_doRemove 5 [.ref (a 0), .int au, .int ax, .int p] [((a 0), .inr (6, [.ref (a 1), .ref (a 2), .ref (a 3), .int (nI kp), .int (nI ty), .ref (a 4), .int (nI pl), .int (zb gd), .int (nI od), .ref (a 5)])), ((a 1), .inl (E.2.2.1, 512, .inl (mRow vU vS vN vX vM vT vB vK vY vZ vR vC vV)))] [((a 0), .inr (6, [.ref (a 1), .ref (a 2), .ref (a 3), .int (nI kp), .int (nI ty), .ref (a 4), .int (nI pl), .int (zb gd), .int (nI od), .ref (a 5)])), ((a 1), .inl (E.2.2.1, 512, .inl (mRow vU vS vN vX vM vT vB vK vY vZ vR vC vV)))] (some (.int (-1))) := by
  refine zM.of kX6_doRemove (Nat.le_of_ble_eq_true rfl) rfl [some (.ref (a 0)), some (.int au), some (.int ax), some (.int p), none, none] rfl (Nat.le_of_ble_eq_true rfl) ?_
  intro X eX C N
  subst eX
  obtain ⟨hu0, hu1, hM, hk1, hk2, hk3⟩ := id hO
  refine z_iload_n C 1 dX6_doRemove_0 rfl rfl ?_
  refine z_callS C kX6_noAuthor gX6_doRemove_X6_noAuthor (mX6_noAuthor_n X.2.1 au hx) dX6_doRemove_1 [] rfl (by decide) (by decide) (Nat.le_of_ble_eq_true rfl) rfl ?_
  refine z_bif_ne_t C 16 dX6_doRemove_4 (by decide) rfl ?_
  refine z_iconst C (-1) dX6_doRemove_16 (by decide) ?_
  exact z_iret C N dX6_doRemove_17 (rfl) (rfl)

set_option maxHeartbeats 4000000 in
set_option maxRecDepth 100000 in
theorem mX6_doRemove_b2 (E : zE) (a : Nat → Nat) (kp ty pl : Nat) (gd : Bool) (od : Nat) (vU vS : Nat → Nat) (vN : Nat → Int32) (vX vM : Nat) (vT : Bool) (vB vK vY vZ vR vC vV : Nat → Int32) (au : Nat) (ax p : Int32) (hO : okM vU vS vM vK) (hau : au < 4) (hax : ax < 0 ∨ (¬ ax < 0 ∧ nI 1 < ax)) : zM E yX6_doRemove wsX6_doRemove 5 [.ref (a 0), .int (nI au), .int ax, .int p] [((a 0), .inr (6, [.ref (a 1), .ref (a 2), .ref (a 3), .int (nI kp), .int (nI ty), .ref (a 4), .int (nI pl), .int (zb gd), .int (nI od), .ref (a 5)])), ((a 1), .inl (E.2.2.1, 512, .inl (mRow vU vS vN vX vM vT vB vK vY vZ vR vC vV)))] [((a 0), .inr (6, [.ref (a 1), .ref (a 2), .ref (a 3), .int (nI kp), .int (nI ty), .ref (a 4), .int (nI pl), .int (zb gd), .int (nI od), .ref (a 5)])), ((a 1), .inl (E.2.2.1, 512, .inl (mRow vU vS vN vX vM vT vB vK vY vZ vR vC vV)))] (some (.int (-1))) := by
  refine zM.of kX6_doRemove (Nat.le_of_ble_eq_true rfl) rfl [some (.ref (a 0)), some (.int (nI au)), some (.int ax), some (.int p), none, none] rfl (Nat.le_of_ble_eq_true rfl) ?_
  intro X eX C N
  subst eX
  obtain ⟨hu0, hu1, hM, hk1, hk2, hk3⟩ := id hO
  refine z_iload_n C 1 dX6_doRemove_0 rfl rfl ?_
  refine z_callS C kX6_noAuthor gX6_doRemove_X6_noAuthor (mX6_noAuthor_y X.2.1 au hau) dX6_doRemove_1 [] rfl (by decide) (by decide) (Nat.le_of_ble_eq_true rfl) rfl ?_
  refine z_bif_ne_f C 16 dX6_doRemove_4 (by decide) rfl ?_
  refine z_aload_n C 0 dX6_doRemove_7 rfl rfl ?_
  refine z_iload_n C 2 dX6_doRemove_8 rfl rfl ?_
  refine z_iload_n C 3 dX6_doRemove_9 rfl rfl ?_
  refine z_callVr C kX6_noLine gX6_doRemove_X6_noLine (mX6_noLine_b X.2.1 a kp ty pl gd od vU vS vN vX vM vT vB vK vY vZ vR vC vV ax p hO hax) dX6_doRemove_10 [0, 1] [] 0 rfl nd_0_1 rfl rfl rfl (by decide) (by decide) (Nat.le_of_ble_eq_true rfl) rfl ?_
  refine z_bif_eq_f C 18 dX6_doRemove_13 (by decide) rfl ?_
  refine z_iconst C (-1) dX6_doRemove_16 (by decide) ?_
  exact z_iret C N dX6_doRemove_17 (rfl) (rfl)

set_option maxHeartbeats 4000000 in
set_option maxRecDepth 100000 in
theorem mX6_doRemove_0b (E : zE) (a : Nat → Nat) (kp ty pl : Nat) (gd : Bool) (od : Nat) (vU vS : Nat → Nat) (vN : Nat → Int32) (vX vM : Nat) (vT : Bool) (vB vK vY vZ vR vC vV : Nat → Int32) (au : Nat) (p : Int32) (hO : okM vU vS vM vK) (hau : au < 4) (hx : p < 0 ∨ (¬ p < 0 ∧ nI (vU 0) ≤ p)) : zM E yX6_doRemove wsX6_doRemove 5 [.ref (a 0), .int (nI au), .int (nI 0), .int p] [((a 0), .inr (6, [.ref (a 1), .ref (a 2), .ref (a 3), .int (nI kp), .int (nI ty), .ref (a 4), .int (nI pl), .int (zb gd), .int (nI od), .ref (a 5)])), ((a 1), .inl (E.2.2.1, 512, .inl (mRow vU vS vN vX vM vT vB vK vY vZ vR vC vV)))] [((a 0), .inr (6, [.ref (a 1), .ref (a 2), .ref (a 3), .int (nI kp), .int (nI ty), .ref (a 4), .int (nI pl), .int (zb gd), .int (nI od), .ref (a 5)])), ((a 1), .inl (E.2.2.1, 512, .inl (mRow vU vS vN vX vM vT vB vK vY vZ vR vC vV)))] (some (.int (-1))) := by
  refine zM.of kX6_doRemove (Nat.le_of_ble_eq_true rfl) rfl [some (.ref (a 0)), some (.int (nI au)), some (.int (nI 0)), some (.int p), none, none] rfl (Nat.le_of_ble_eq_true rfl) ?_
  intro X eX C N
  subst eX
  obtain ⟨hu0, hu1, hM, hk1, hk2, hk3⟩ := id hO
  refine z_iload_n C 1 dX6_doRemove_0 rfl rfl ?_
  refine z_callS C kX6_noAuthor gX6_doRemove_X6_noAuthor (mX6_noAuthor_y X.2.1 au hau) dX6_doRemove_1 [] rfl (by decide) (by decide) (Nat.le_of_ble_eq_true rfl) rfl ?_
  refine z_bif_ne_f C 16 dX6_doRemove_4 (by decide) rfl ?_
  refine z_aload_n C 0 dX6_doRemove_7 rfl rfl ?_
  refine z_iload_n C 2 dX6_doRemove_8 rfl rfl ?_
  refine z_iload_n C 3 dX6_doRemove_9 rfl rfl ?_
  refine z_callVr C kX6_noLine gX6_doRemove_X6_noLine (mX6_noLine_0_n X.2.1 a kp ty pl gd od vU vS vN vX vM vT vB vK vY vZ vR vC vV p hO hx) dX6_doRemove_10 [0, 1] [] 0 rfl nd_0_1 rfl rfl rfl (by decide) (by decide) (Nat.le_of_ble_eq_true rfl) rfl ?_
  refine z_bif_eq_f C 18 dX6_doRemove_13 (by decide) rfl ?_
  refine z_iconst C (-1) dX6_doRemove_16 (by decide) ?_
  exact z_iret C N dX6_doRemove_17 (rfl) (rfl)

set_option maxHeartbeats 4000000 in
set_option maxRecDepth 100000 in
theorem mX6_doRemove_0u (E : zE) (a : Nat → Nat) (kp ty pl : Nat) (gd : Bool) (od : Nat) (vU vS : Nat → Nat) (vN : Nat → Int32) (vX vM : Nat) (vT : Bool) (vB vK vY vZ vR vC vV : Nat → Int32) (au j : Nat) (hO : okM vU vS vM vK) (hau : au < 4) (hj : j < vU 0) (ht : vT = false) : zM E yX6_doRemove wsX6_doRemove 5 [.ref (a 0), .int (nI au), .int (nI 0), .int (nI j)] [((a 0), .inr (6, [.ref (a 1), .ref (a 2), .ref (a 3), .int (nI kp), .int (nI ty), .ref (a 4), .int (nI pl), .int (zb gd), .int (nI od), .ref (a 5)])), ((a 1), .inl (E.2.2.1, 512, .inl (mRow vU vS vN vX vM vT vB vK vY vZ vR vC vV)))] [((a 0), .inr (6, [.ref (a 1), .ref (a 2), .ref (a 3), .int (nI kp), .int (nI ty), .ref (a 4), .int (nI pl), .int (zb gd), .int (nI od), .ref (a 5)])), ((a 1), .inl (E.2.2.1, 512, .inl (mRow (zUpN vU 0 (vU 0 - 1)) (mClL vS (12 * 0) j (vU 0 - 1)) vN vX vM vT vB vK vY (mMk vZ (mDp vZ vK vR vC (nI 0) (mN vS vN 0 j) false) (nI 3) vM) vR vC vV)))] (some (.int (nI 1000))) := by
  refine zM.of kX6_doRemove (Nat.le_of_ble_eq_true rfl) rfl [some (.ref (a 0)), some (.int (nI au)), some (.int (nI 0)), some (.int (nI j)), none, none] rfl (Nat.le_of_ble_eq_true rfl) ?_
  intro X eX C N
  subst eX
  obtain ⟨hu0, hu1, hM, hk1, hk2, hk3⟩ := id hO
  refine z_iload_n C 1 dX6_doRemove_0 rfl rfl ?_
  refine z_callS C kX6_noAuthor gX6_doRemove_X6_noAuthor (mX6_noAuthor_y X.2.1 au hau) dX6_doRemove_1 [] rfl (by decide) (by decide) (Nat.le_of_ble_eq_true rfl) rfl ?_
  refine z_bif_ne_f C 16 dX6_doRemove_4 (by decide) rfl ?_
  refine z_aload_n C 0 dX6_doRemove_7 rfl rfl ?_
  refine z_iload_n C 2 dX6_doRemove_8 rfl rfl ?_
  refine z_iload_n C 3 dX6_doRemove_9 rfl rfl ?_
  refine z_callVr C kX6_noLine gX6_doRemove_X6_noLine (mX6_noLine_0_y X.2.1 a kp ty pl gd od vU vS vN vX vM vT vB vK vY vZ vR vC vV j hO hj) dX6_doRemove_10 [0, 1] [] 0 rfl nd_0_1 rfl rfl rfl (by decide) (by decide) (Nat.le_of_ble_eq_true rfl) rfl ?_
  refine z_bif_eq_t C 18 dX6_doRemove_13 (by decide) rfl ?_
  refine z_aload_n C 0 dX6_doRemove_18 rfl rfl ?_
  refine z_iload_n C 2 dX6_doRemove_19 rfl rfl ?_
  refine z_iload_n C 3 dX6_doRemove_20 rfl rfl ?_
  refine z_callVr C kX6_nameAt gX6_doRemove_X6_nameAt (mX6_nameAt_0 X.2.1 a kp ty pl gd od vU vS vN vX vM vT vB vK vY vZ vR vC vV j hO (by first | assumption | omega)) dX6_doRemove_21 [0, 1] [] 0 rfl nd_0_1 rfl rfl rfl (by decide) (by decide) (Nat.le_of_ble_eq_true rfl) rfl ?_
  refine z_istore C dX6_doRemove_24 (Nat.le_of_ble_eq_true rfl) ?_
  refine z_aload_n C 0 dX6_doRemove_26 rfl rfl ?_
  refine z_callVr C kX6_isTracked gX6_doRemove_X6_isTracked (mX6_isTracked X.2.1 a kp ty pl gd od vU vS vN vX vM vT vB vK vY vZ vR vC vV ) dX6_doRemove_27 [0, 1] [] 0 rfl nd_0_1 rfl rfl rfl (by decide) (by decide) (Nat.le_of_ble_eq_true rfl) rfl ?_
  refine z_bif_ne_f C 51 dX6_doRemove_30 (by decide) ht ?_
  refine z_aload_n C 0 dX6_doRemove_33 rfl rfl ?_
  refine z_iload_n C 2 dX6_doRemove_34 rfl rfl ?_
  refine z_iload C dX6_doRemove_35 rfl ?_
  refine z_iconst C (nI 0) dX6_doRemove_37 (by decide) ?_
  refine z_callVv (wn := [((a 0), .inr (6, [.ref (a 1), .ref (a 2), .ref (a 3), .int (nI kp), .int (nI ty), .ref (a 4), .int (nI pl), .int (zb gd), .int (nI od), .ref (a 5)])), ((a 1), .inl (X.2.1.2.2.1, 512, .inl (mRow vU vS vN vX vM vT vB vK vY (mMk vZ (mDp vZ vK vR vC (nI 0) (mN vS vN 0 j) false) (nI 3) vM) vR vC vV)))]) C kX6_dissolveAt gX6_doRemove_X6_dissolveAt (mX6_dissolveAt_0f X.2.1 a kp ty pl gd od vU vS vN vX vM vT vB vK vY vZ vR vC vV (mN vS vN 0 j) hO) dX6_doRemove_38 [0, 1] [] 0 rfl rfl nd_0_1 rfl rfl rfl (by decide) (by decide) (Nat.le_of_ble_eq_true rfl) rfl rfl ?_
  refine z_aload_n C 0 dX6_doRemove_41 rfl rfl ?_
  refine z_iload_n C 2 dX6_doRemove_42 rfl rfl ?_
  refine z_iload_n C 3 dX6_doRemove_43 rfl rfl ?_
  refine z_callVv (wn := [((a 0), .inr (6, [.ref (a 1), .ref (a 2), .ref (a 3), .int (nI kp), .int (nI ty), .ref (a 4), .int (nI pl), .int (zb gd), .int (nI od), .ref (a 5)])), ((a 1), .inl (X.2.1.2.2.1, 512, .inl (mRow (zUpN vU 0 (vU 0 - 1)) (mClL vS (12 * 0) j (vU 0 - 1)) vN vX vM vT vB vK vY (mMk vZ (mDp vZ vK vR vC (nI 0) (mN vS vN 0 j) false) (nI 3) vM) vR vC vV)))]) C kX6_takeLine gX6_doRemove_X6_takeLine (mX6_takeLine_0 X.2.1 a kp ty pl gd od vU vS vN vX vM vT vB vK vY (mMk vZ (mDp vZ vK vR vC (nI 0) (mN vS vN 0 j) false) (nI 3) vM) vR vC vV j hO hj) dX6_doRemove_44 [0, 1] [] 0 rfl rfl nd_0_1 rfl rfl rfl (by decide) (by decide) (Nat.le_of_ble_eq_true rfl) rfl rfl ?_
  have hg_1 : okM (zUpN vU 0 (vU 0 - 1)) (mClL vS (12 * 0) j (vU 0 - 1)) vM vK := okM_Tk_0 (by assumption) (by omega)
  refine z_sipush C (nI 1000) dX6_doRemove_47 (by decide) ?_
  exact z_iret C N dX6_doRemove_50 (rfl) (rfl)

set_option maxHeartbeats 4000000 in
set_option maxRecDepth 100000 in
theorem mX6_doRemove_0d (E : zE) (a : Nat → Nat) (kp ty pl : Nat) (gd : Bool) (od : Nat) (vU vS : Nat → Nat) (vN : Nat → Int32) (vX vM : Nat) (vT : Bool) (vB vK vY vZ vR vC vV : Nat → Int32) (au j : Nat) (hO : okM vU vS vM vK) (hau : au < 4) (hj : j < vU 0) (ht : vT = true) (hr : mDm vZ vK vR vC vS vN vM 0 j = true) : zM E yX6_doRemove wsX6_doRemove 5 [.ref (a 0), .int (nI au), .int (nI 0), .int (nI j)] [((a 0), .inr (6, [.ref (a 1), .ref (a 2), .ref (a 3), .int (nI kp), .int (nI ty), .ref (a 4), .int (nI pl), .int (zb gd), .int (nI od), .ref (a 5)])), ((a 1), .inl (E.2.2.1, 512, .inl (mRow vU vS vN vX vM vT vB vK vY vZ vR vC vV)))] [((a 0), .inr (6, [.ref (a 1), .ref (a 2), .ref (a 3), .int (nI kp), .int (nI ty), .ref (a 4), .int (nI pl), .int (zb gd), .int (nI od), .ref (a 5)])), ((a 1), .inl (E.2.2.1, 512, .inl (mRow vU vS vN vX vM vT vB vK vY vZ vR vC vV)))] (some (.int (-4))) := by
  refine zM.of kX6_doRemove (Nat.le_of_ble_eq_true rfl) rfl [some (.ref (a 0)), some (.int (nI au)), some (.int (nI 0)), some (.int (nI j)), none, none] rfl (Nat.le_of_ble_eq_true rfl) ?_
  intro X eX C N
  subst eX
  obtain ⟨hu0, hu1, hM, hk1, hk2, hk3⟩ := id hO
  refine z_iload_n C 1 dX6_doRemove_0 rfl rfl ?_
  refine z_callS C kX6_noAuthor gX6_doRemove_X6_noAuthor (mX6_noAuthor_y X.2.1 au hau) dX6_doRemove_1 [] rfl (by decide) (by decide) (Nat.le_of_ble_eq_true rfl) rfl ?_
  refine z_bif_ne_f C 16 dX6_doRemove_4 (by decide) rfl ?_
  refine z_aload_n C 0 dX6_doRemove_7 rfl rfl ?_
  refine z_iload_n C 2 dX6_doRemove_8 rfl rfl ?_
  refine z_iload_n C 3 dX6_doRemove_9 rfl rfl ?_
  refine z_callVr C kX6_noLine gX6_doRemove_X6_noLine (mX6_noLine_0_y X.2.1 a kp ty pl gd od vU vS vN vX vM vT vB vK vY vZ vR vC vV j hO hj) dX6_doRemove_10 [0, 1] [] 0 rfl nd_0_1 rfl rfl rfl (by decide) (by decide) (Nat.le_of_ble_eq_true rfl) rfl ?_
  refine z_bif_eq_t C 18 dX6_doRemove_13 (by decide) rfl ?_
  refine z_aload_n C 0 dX6_doRemove_18 rfl rfl ?_
  refine z_iload_n C 2 dX6_doRemove_19 rfl rfl ?_
  refine z_iload_n C 3 dX6_doRemove_20 rfl rfl ?_
  refine z_callVr C kX6_nameAt gX6_doRemove_X6_nameAt (mX6_nameAt_0 X.2.1 a kp ty pl gd od vU vS vN vX vM vT vB vK vY vZ vR vC vV j hO (by first | assumption | omega)) dX6_doRemove_21 [0, 1] [] 0 rfl nd_0_1 rfl rfl rfl (by decide) (by decide) (Nat.le_of_ble_eq_true rfl) rfl ?_
  refine z_istore C dX6_doRemove_24 (Nat.le_of_ble_eq_true rfl) ?_
  refine z_aload_n C 0 dX6_doRemove_26 rfl rfl ?_
  refine z_callVr C kX6_isTracked gX6_doRemove_X6_isTracked (mX6_isTracked X.2.1 a kp ty pl gd od vU vS vN vX vM vT vB vK vY vZ vR vC vV ) dX6_doRemove_27 [0, 1] [] 0 rfl nd_0_1 rfl rfl rfl (by decide) (by decide) (Nat.le_of_ble_eq_true rfl) rfl ?_
  refine z_bif_ne_t C 51 dX6_doRemove_30 (by decide) ht ?_
  refine z_aload_n C 0 dX6_doRemove_51 rfl rfl ?_
  refine z_iload_n C 2 dX6_doRemove_52 rfl rfl ?_
  refine z_iload_n C 3 dX6_doRemove_53 rfl rfl ?_
  refine z_callVr C kX6_isDoomed gX6_doRemove_X6_isDoomed (mX6_isDoomed_0 X.2.1 a kp ty pl gd od vU vS vN vX vM vT vB vK vY vZ vR vC vV j hO (by first | assumption | omega)) dX6_doRemove_54 [0, 1] [] 0 rfl nd_0_1 rfl rfl rfl (by decide) (by decide) (Nat.le_of_ble_eq_true rfl) rfl ?_
  refine z_bif_eq_f C 63 dX6_doRemove_57 (by decide) hr ?_
  refine z_bipush C (-4) dX6_doRemove_60 (by decide) ?_
  exact z_iret C N dX6_doRemove_62 (rfl) (rfl)

set_option maxHeartbeats 4000000 in
set_option maxRecDepth 100000 in
theorem mX6_doRemove_0o (E : zE) (a : Nat → Nat) (kp ty pl : Nat) (gd : Bool) (od : Nat) (vU vS : Nat → Nat) (vN : Nat → Int32) (vX vM : Nat) (vT : Bool) (vB vK vY vZ vR vC vV : Nat → Int32) (au j : Nat) (k : Nat) (hO : okM vU vS vM vK) (hau : au < 4) (hj : j < vU 0) (ht : vT = true) (hr : mDm vZ vK vR vC vS vN vM 0 j = false) (hik : mIn vZ vK vR vC vS vN vM 0 j = nI k) (hk : k < vM) (hby : vY k = nI au) : zM E yX6_doRemove wsX6_doRemove 5 [.ref (a 0), .int (nI au), .int (nI 0), .int (nI j)] [((a 0), .inr (6, [.ref (a 1), .ref (a 2), .ref (a 3), .int (nI kp), .int (nI ty), .ref (a 4), .int (nI pl), .int (zb gd), .int (nI od), .ref (a 5)])), ((a 1), .inl (E.2.2.1, 512, .inl (mRow vU vS vN vX vM vT vB vK vY vZ vR vC vV)))] [((a 0), .inr (6, [.ref (a 1), .ref (a 2), .ref (a 3), .int (nI kp), .int (nI ty), .ref (a 4), .int (nI pl), .int (zb gd), .int (nI od), .ref (a 5)])), ((a 1), .inl (E.2.2.1, 512, .inl (mRow (zUpN vU 0 (vU 0 - 1)) (mClL vS (12 * 0) j (vU 0 - 1)) vN vX vM vT vB vK vY (mMk vZ (mDp vZ vK vR vC (nI 0) (mN vS vN 0 j) false) (nI 3) vM) vR vC vV)))] (some (.int (nI k))) := by
  refine zM.of kX6_doRemove (Nat.le_of_ble_eq_true rfl) rfl [some (.ref (a 0)), some (.int (nI au)), some (.int (nI 0)), some (.int (nI j)), none, none] rfl (Nat.le_of_ble_eq_true rfl) ?_
  intro X eX C N
  subst eX
  obtain ⟨hu0, hu1, hM, hk1, hk2, hk3⟩ := id hO
  refine z_iload_n C 1 dX6_doRemove_0 rfl rfl ?_
  refine z_callS C kX6_noAuthor gX6_doRemove_X6_noAuthor (mX6_noAuthor_y X.2.1 au hau) dX6_doRemove_1 [] rfl (by decide) (by decide) (Nat.le_of_ble_eq_true rfl) rfl ?_
  refine z_bif_ne_f C 16 dX6_doRemove_4 (by decide) rfl ?_
  refine z_aload_n C 0 dX6_doRemove_7 rfl rfl ?_
  refine z_iload_n C 2 dX6_doRemove_8 rfl rfl ?_
  refine z_iload_n C 3 dX6_doRemove_9 rfl rfl ?_
  refine z_callVr C kX6_noLine gX6_doRemove_X6_noLine (mX6_noLine_0_y X.2.1 a kp ty pl gd od vU vS vN vX vM vT vB vK vY vZ vR vC vV j hO hj) dX6_doRemove_10 [0, 1] [] 0 rfl nd_0_1 rfl rfl rfl (by decide) (by decide) (Nat.le_of_ble_eq_true rfl) rfl ?_
  refine z_bif_eq_t C 18 dX6_doRemove_13 (by decide) rfl ?_
  refine z_aload_n C 0 dX6_doRemove_18 rfl rfl ?_
  refine z_iload_n C 2 dX6_doRemove_19 rfl rfl ?_
  refine z_iload_n C 3 dX6_doRemove_20 rfl rfl ?_
  refine z_callVr C kX6_nameAt gX6_doRemove_X6_nameAt (mX6_nameAt_0 X.2.1 a kp ty pl gd od vU vS vN vX vM vT vB vK vY vZ vR vC vV j hO (by first | assumption | omega)) dX6_doRemove_21 [0, 1] [] 0 rfl nd_0_1 rfl rfl rfl (by decide) (by decide) (Nat.le_of_ble_eq_true rfl) rfl ?_
  refine z_istore C dX6_doRemove_24 (Nat.le_of_ble_eq_true rfl) ?_
  refine z_aload_n C 0 dX6_doRemove_26 rfl rfl ?_
  refine z_callVr C kX6_isTracked gX6_doRemove_X6_isTracked (mX6_isTracked X.2.1 a kp ty pl gd od vU vS vN vX vM vT vB vK vY vZ vR vC vV ) dX6_doRemove_27 [0, 1] [] 0 rfl nd_0_1 rfl rfl rfl (by decide) (by decide) (Nat.le_of_ble_eq_true rfl) rfl ?_
  refine z_bif_ne_t C 51 dX6_doRemove_30 (by decide) ht ?_
  refine z_aload_n C 0 dX6_doRemove_51 rfl rfl ?_
  refine z_iload_n C 2 dX6_doRemove_52 rfl rfl ?_
  refine z_iload_n C 3 dX6_doRemove_53 rfl rfl ?_
  refine z_callVr C kX6_isDoomed gX6_doRemove_X6_isDoomed (mX6_isDoomed_0 X.2.1 a kp ty pl gd od vU vS vN vX vM vT vB vK vY vZ vR vC vV j hO (by first | assumption | omega)) dX6_doRemove_54 [0, 1] [] 0 rfl nd_0_1 rfl rfl rfl (by decide) (by decide) (Nat.le_of_ble_eq_true rfl) rfl ?_
  refine z_bif_eq_t C 63 dX6_doRemove_57 (by decide) hr ?_
  refine z_aload_n C 0 dX6_doRemove_63 rfl rfl ?_
  refine z_iload_n C 2 dX6_doRemove_64 rfl rfl ?_
  refine z_iload_n C 3 dX6_doRemove_65 rfl rfl ?_
  refine z_callVr C kX6_insertionOf gX6_doRemove_X6_insertionOf (mX6_insertionOf_0 X.2.1 a kp ty pl gd od vU vS vN vX vM vT vB vK vY vZ vR vC vV j hO (by first | assumption | omega)) dX6_doRemove_66 [0, 1] [] 0 rfl nd_0_1 rfl rfl rfl (by decide) (by decide) (Nat.le_of_ble_eq_true rfl) rfl ?_
  refine z_top (y := nI k) (hik) ?_
  refine z_istore C dX6_doRemove_69 (Nat.le_of_ble_eq_true rfl) ?_
  refine z_iload C dX6_doRemove_71 rfl ?_
  refine z_nif_lt_f C 106 dX6_doRemove_73 (by decide) (by omega) (by trivial) ?_
  refine z_aload_n C 0 dX6_doRemove_76 rfl rfl ?_
  refine z_iload C dX6_doRemove_77 rfl ?_
  refine z_sipush C (nI 209) dX6_doRemove_79 (by decide) ?_
  refine z_callVr C kX6_of gX6_doRemove_X6_of (mX6_of_Y X.2.1 a kp ty pl gd od vU vS vN vX vM vT vB vK vY vZ vR vC vV k (by first | assumption | omega)) dX6_doRemove_82 [0, 1] [] 0 rfl nd_0_1 rfl rfl rfl (by decide) (by decide) (Nat.le_of_ble_eq_true rfl) rfl ?_
  refine z_iload_n C 1 dX6_doRemove_85 rfl rfl ?_
  refine z_icmp_ne_f C 106 dX6_doRemove_86 (by decide) hby ?_
  refine z_aload_n C 0 dX6_doRemove_89 rfl rfl ?_
  refine z_iload_n C 2 dX6_doRemove_90 rfl rfl ?_
  refine z_iload C dX6_doRemove_91 rfl ?_
  refine z_iconst C (nI 0) dX6_doRemove_93 (by decide) ?_
  refine z_callVv (wn := [((a 0), .inr (6, [.ref (a 1), .ref (a 2), .ref (a 3), .int (nI kp), .int (nI ty), .ref (a 4), .int (nI pl), .int (zb gd), .int (nI od), .ref (a 5)])), ((a 1), .inl (X.2.1.2.2.1, 512, .inl (mRow vU vS vN vX vM vT vB vK vY (mMk vZ (mDp vZ vK vR vC (nI 0) (mN vS vN 0 j) false) (nI 3) vM) vR vC vV)))]) C kX6_dissolveAt gX6_doRemove_X6_dissolveAt (mX6_dissolveAt_0f X.2.1 a kp ty pl gd od vU vS vN vX vM vT vB vK vY vZ vR vC vV (mN vS vN 0 j) hO) dX6_doRemove_94 [0, 1] [] 0 rfl rfl nd_0_1 rfl rfl rfl (by decide) (by decide) (Nat.le_of_ble_eq_true rfl) rfl rfl ?_
  refine z_aload_n C 0 dX6_doRemove_97 rfl rfl ?_
  refine z_iload_n C 2 dX6_doRemove_98 rfl rfl ?_
  refine z_iload_n C 3 dX6_doRemove_99 rfl rfl ?_
  refine z_callVv (wn := [((a 0), .inr (6, [.ref (a 1), .ref (a 2), .ref (a 3), .int (nI kp), .int (nI ty), .ref (a 4), .int (nI pl), .int (zb gd), .int (nI od), .ref (a 5)])), ((a 1), .inl (X.2.1.2.2.1, 512, .inl (mRow (zUpN vU 0 (vU 0 - 1)) (mClL vS (12 * 0) j (vU 0 - 1)) vN vX vM vT vB vK vY (mMk vZ (mDp vZ vK vR vC (nI 0) (mN vS vN 0 j) false) (nI 3) vM) vR vC vV)))]) C kX6_takeLine gX6_doRemove_X6_takeLine (mX6_takeLine_0 X.2.1 a kp ty pl gd od vU vS vN vX vM vT vB vK vY (mMk vZ (mDp vZ vK vR vC (nI 0) (mN vS vN 0 j) false) (nI 3) vM) vR vC vV j hO hj) dX6_doRemove_100 [0, 1] [] 0 rfl rfl nd_0_1 rfl rfl rfl (by decide) (by decide) (Nat.le_of_ble_eq_true rfl) rfl rfl ?_
  have hg_1 : okM (zUpN vU 0 (vU 0 - 1)) (mClL vS (12 * 0) j (vU 0 - 1)) vM vK := okM_Tk_0 (by assumption) (by omega)
  refine z_iload C dX6_doRemove_103 rfl ?_
  exact z_iret C N dX6_doRemove_105 (rfl) (rfl)

theorem fX6_doRemove_7 : zF wsX6_doRemove RX6 7 6 0 RX6 TX6 10 := ⟨by decide +kernel, rfl, by decide, by decide +kernel, rfl⟩
set_option maxHeartbeats 4000000 in
set_option maxRecDepth 100000 in
theorem mX6_doRemove_0nf (E : zE) (a : Nat → Nat) (kp ty pl : Nat) (gd : Bool) (od : Nat) (vU vS : Nat → Nat) (vN : Nat → Int32) (vX vM : Nat) (vT : Bool) (vB vK vY vZ vR vC vV : Nat → Int32) (au j : Nat) (hO : okM vU vS vM vK) (hau : au < 4) (hj : j < vU 0) (ht : vT = true) (hr : mDm vZ vK vR vC vS vN vM 0 j = false) (hi : mIn vZ vK vR vC vS vN vM 0 j < 0) (hf : vM = 60) : zM E yX6_doRemove wsX6_doRemove 5 [.ref (a 0), .int (nI au), .int (nI 0), .int (nI j)] [((a 0), .inr (6, [.ref (a 1), .ref (a 2), .ref (a 3), .int (nI kp), .int (nI ty), .ref (a 4), .int (nI pl), .int (zb gd), .int (nI od), .ref (a 5)])), ((a 1), .inl (E.2.2.1, 512, .inl (mRow vU vS vN vX vM vT vB vK vY vZ vR vC vV)))] [((a 0), .inr (6, [.ref (a 1), .ref (a 2), .ref (a 3), .int (nI kp), .int (nI ty), .ref (a 4), .int (nI pl), .int (zb gd), .int (nI od), .ref (a 5)])), ((a 1), .inl (E.2.2.1, 512, .inl (mRow vU vS vN vX vM vT vB vK vY vZ vR vC vV)))] (some (.int (-3))) := by
  refine zM.of kX6_doRemove (Nat.le_of_ble_eq_true rfl) rfl [some (.ref (a 0)), some (.int (nI au)), some (.int (nI 0)), some (.int (nI j)), none, none] rfl (Nat.le_of_ble_eq_true rfl) ?_
  intro X eX C N
  subst eX
  obtain ⟨hu0, hu1, hM, hk1, hk2, hk3⟩ := id hO
  refine z_iload_n C 1 dX6_doRemove_0 rfl rfl ?_
  refine z_callS C kX6_noAuthor gX6_doRemove_X6_noAuthor (mX6_noAuthor_y X.2.1 au hau) dX6_doRemove_1 [] rfl (by decide) (by decide) (Nat.le_of_ble_eq_true rfl) rfl ?_
  refine z_bif_ne_f C 16 dX6_doRemove_4 (by decide) rfl ?_
  refine z_aload_n C 0 dX6_doRemove_7 rfl rfl ?_
  refine z_iload_n C 2 dX6_doRemove_8 rfl rfl ?_
  refine z_iload_n C 3 dX6_doRemove_9 rfl rfl ?_
  refine z_callVr C kX6_noLine gX6_doRemove_X6_noLine (mX6_noLine_0_y X.2.1 a kp ty pl gd od vU vS vN vX vM vT vB vK vY vZ vR vC vV j hO hj) dX6_doRemove_10 [0, 1] [] 0 rfl nd_0_1 rfl rfl rfl (by decide) (by decide) (Nat.le_of_ble_eq_true rfl) rfl ?_
  refine z_bif_eq_t C 18 dX6_doRemove_13 (by decide) rfl ?_
  refine z_aload_n C 0 dX6_doRemove_18 rfl rfl ?_
  refine z_iload_n C 2 dX6_doRemove_19 rfl rfl ?_
  refine z_iload_n C 3 dX6_doRemove_20 rfl rfl ?_
  refine z_callVr C kX6_nameAt gX6_doRemove_X6_nameAt (mX6_nameAt_0 X.2.1 a kp ty pl gd od vU vS vN vX vM vT vB vK vY vZ vR vC vV j hO (by first | assumption | omega)) dX6_doRemove_21 [0, 1] [] 0 rfl nd_0_1 rfl rfl rfl (by decide) (by decide) (Nat.le_of_ble_eq_true rfl) rfl ?_
  refine z_istore C dX6_doRemove_24 (Nat.le_of_ble_eq_true rfl) ?_
  refine z_aload_n C 0 dX6_doRemove_26 rfl rfl ?_
  refine z_callVr C kX6_isTracked gX6_doRemove_X6_isTracked (mX6_isTracked X.2.1 a kp ty pl gd od vU vS vN vX vM vT vB vK vY vZ vR vC vV ) dX6_doRemove_27 [0, 1] [] 0 rfl nd_0_1 rfl rfl rfl (by decide) (by decide) (Nat.le_of_ble_eq_true rfl) rfl ?_
  refine z_bif_ne_t C 51 dX6_doRemove_30 (by decide) ht ?_
  refine z_aload_n C 0 dX6_doRemove_51 rfl rfl ?_
  refine z_iload_n C 2 dX6_doRemove_52 rfl rfl ?_
  refine z_iload_n C 3 dX6_doRemove_53 rfl rfl ?_
  refine z_callVr C kX6_isDoomed gX6_doRemove_X6_isDoomed (mX6_isDoomed_0 X.2.1 a kp ty pl gd od vU vS vN vX vM vT vB vK vY vZ vR vC vV j hO (by first | assumption | omega)) dX6_doRemove_54 [0, 1] [] 0 rfl nd_0_1 rfl rfl rfl (by decide) (by decide) (Nat.le_of_ble_eq_true rfl) rfl ?_
  refine z_bif_eq_t C 63 dX6_doRemove_57 (by decide) hr ?_
  refine z_aload_n C 0 dX6_doRemove_63 rfl rfl ?_
  refine z_iload_n C 2 dX6_doRemove_64 rfl rfl ?_
  refine z_iload_n C 3 dX6_doRemove_65 rfl rfl ?_
  refine z_callVr C kX6_insertionOf gX6_doRemove_X6_insertionOf (mX6_insertionOf_0 X.2.1 a kp ty pl gd od vU vS vN vX vM vT vB vK vY vZ vR vC vV j hO (by first | assumption | omega)) dX6_doRemove_66 [0, 1] [] 0 rfl nd_0_1 rfl rfl rfl (by decide) (by decide) (Nat.le_of_ble_eq_true rfl) rfl ?_
  refine z_istore C dX6_doRemove_69 (Nat.le_of_ble_eq_true rfl) ?_
  refine z_iload C dX6_doRemove_71 rfl ?_
  refine z_if_lt_t C 106 dX6_doRemove_73 (by decide) hi ?_
  refine z_aload_n C 0 dX6_doRemove_106 rfl rfl ?_
  refine z_get C fX6_doRemove_7 0 dX6_doRemove_107 rfl rfl ?_
  refine z_bipush C (nI 51) dX6_doRemove_110 (by decide) ?_
  refine z_ialdN C 1 dX6_doRemove_112 rfl (by omega) (by decide) ?_
  refine z_top (y := nI (vM)) (zMr_M) ?_
  refine z_bipush C (nI 60) dX6_doRemove_113 (by decide) ?_
  refine z_ncmp_ne_f C 123 dX6_doRemove_115 (by decide) (by omega) (by omega) (by omega) ?_
  refine z_bipush C (-3) dX6_doRemove_118 (by decide) ?_
  refine z_goto C 157 dX6_doRemove_120 (by decide) ?_
  exact z_iret C N dX6_doRemove_157 (rfl) (rfl)

set_option maxHeartbeats 4000000 in
set_option maxRecDepth 100000 in
theorem mX6_doRemove_0mf (E : zE) (a : Nat → Nat) (kp ty pl : Nat) (gd : Bool) (od : Nat) (vU vS : Nat → Nat) (vN : Nat → Int32) (vX vM : Nat) (vT : Bool) (vB vK vY vZ vR vC vV : Nat → Int32) (au j : Nat) (k : Nat) (hO : okM vU vS vM vK) (hau : au < 4) (hj : j < vU 0) (ht : vT = true) (hr : mDm vZ vK vR vC vS vN vM 0 j = false) (hik : mIn vZ vK vR vC vS vN vM 0 j = nI k) (hk : k < vM) (hby : ¬ vY k = nI au) (hf : vM = 60) : zM E yX6_doRemove wsX6_doRemove 5 [.ref (a 0), .int (nI au), .int (nI 0), .int (nI j)] [((a 0), .inr (6, [.ref (a 1), .ref (a 2), .ref (a 3), .int (nI kp), .int (nI ty), .ref (a 4), .int (nI pl), .int (zb gd), .int (nI od), .ref (a 5)])), ((a 1), .inl (E.2.2.1, 512, .inl (mRow vU vS vN vX vM vT vB vK vY vZ vR vC vV)))] [((a 0), .inr (6, [.ref (a 1), .ref (a 2), .ref (a 3), .int (nI kp), .int (nI ty), .ref (a 4), .int (nI pl), .int (zb gd), .int (nI od), .ref (a 5)])), ((a 1), .inl (E.2.2.1, 512, .inl (mRow vU vS vN vX vM vT vB vK vY vZ vR vC vV)))] (some (.int (-3))) := by
  refine zM.of kX6_doRemove (Nat.le_of_ble_eq_true rfl) rfl [some (.ref (a 0)), some (.int (nI au)), some (.int (nI 0)), some (.int (nI j)), none, none] rfl (Nat.le_of_ble_eq_true rfl) ?_
  intro X eX C N
  subst eX
  obtain ⟨hu0, hu1, hM, hk1, hk2, hk3⟩ := id hO
  refine z_iload_n C 1 dX6_doRemove_0 rfl rfl ?_
  refine z_callS C kX6_noAuthor gX6_doRemove_X6_noAuthor (mX6_noAuthor_y X.2.1 au hau) dX6_doRemove_1 [] rfl (by decide) (by decide) (Nat.le_of_ble_eq_true rfl) rfl ?_
  refine z_bif_ne_f C 16 dX6_doRemove_4 (by decide) rfl ?_
  refine z_aload_n C 0 dX6_doRemove_7 rfl rfl ?_
  refine z_iload_n C 2 dX6_doRemove_8 rfl rfl ?_
  refine z_iload_n C 3 dX6_doRemove_9 rfl rfl ?_
  refine z_callVr C kX6_noLine gX6_doRemove_X6_noLine (mX6_noLine_0_y X.2.1 a kp ty pl gd od vU vS vN vX vM vT vB vK vY vZ vR vC vV j hO hj) dX6_doRemove_10 [0, 1] [] 0 rfl nd_0_1 rfl rfl rfl (by decide) (by decide) (Nat.le_of_ble_eq_true rfl) rfl ?_
  refine z_bif_eq_t C 18 dX6_doRemove_13 (by decide) rfl ?_
  refine z_aload_n C 0 dX6_doRemove_18 rfl rfl ?_
  refine z_iload_n C 2 dX6_doRemove_19 rfl rfl ?_
  refine z_iload_n C 3 dX6_doRemove_20 rfl rfl ?_
  refine z_callVr C kX6_nameAt gX6_doRemove_X6_nameAt (mX6_nameAt_0 X.2.1 a kp ty pl gd od vU vS vN vX vM vT vB vK vY vZ vR vC vV j hO (by first | assumption | omega)) dX6_doRemove_21 [0, 1] [] 0 rfl nd_0_1 rfl rfl rfl (by decide) (by decide) (Nat.le_of_ble_eq_true rfl) rfl ?_
  refine z_istore C dX6_doRemove_24 (Nat.le_of_ble_eq_true rfl) ?_
  refine z_aload_n C 0 dX6_doRemove_26 rfl rfl ?_
  refine z_callVr C kX6_isTracked gX6_doRemove_X6_isTracked (mX6_isTracked X.2.1 a kp ty pl gd od vU vS vN vX vM vT vB vK vY vZ vR vC vV ) dX6_doRemove_27 [0, 1] [] 0 rfl nd_0_1 rfl rfl rfl (by decide) (by decide) (Nat.le_of_ble_eq_true rfl) rfl ?_
  refine z_bif_ne_t C 51 dX6_doRemove_30 (by decide) ht ?_
  refine z_aload_n C 0 dX6_doRemove_51 rfl rfl ?_
  refine z_iload_n C 2 dX6_doRemove_52 rfl rfl ?_
  refine z_iload_n C 3 dX6_doRemove_53 rfl rfl ?_
  refine z_callVr C kX6_isDoomed gX6_doRemove_X6_isDoomed (mX6_isDoomed_0 X.2.1 a kp ty pl gd od vU vS vN vX vM vT vB vK vY vZ vR vC vV j hO (by first | assumption | omega)) dX6_doRemove_54 [0, 1] [] 0 rfl nd_0_1 rfl rfl rfl (by decide) (by decide) (Nat.le_of_ble_eq_true rfl) rfl ?_
  refine z_bif_eq_t C 63 dX6_doRemove_57 (by decide) hr ?_
  refine z_aload_n C 0 dX6_doRemove_63 rfl rfl ?_
  refine z_iload_n C 2 dX6_doRemove_64 rfl rfl ?_
  refine z_iload_n C 3 dX6_doRemove_65 rfl rfl ?_
  refine z_callVr C kX6_insertionOf gX6_doRemove_X6_insertionOf (mX6_insertionOf_0 X.2.1 a kp ty pl gd od vU vS vN vX vM vT vB vK vY vZ vR vC vV j hO (by first | assumption | omega)) dX6_doRemove_66 [0, 1] [] 0 rfl nd_0_1 rfl rfl rfl (by decide) (by decide) (Nat.le_of_ble_eq_true rfl) rfl ?_
  refine z_top (y := nI k) (hik) ?_
  refine z_istore C dX6_doRemove_69 (Nat.le_of_ble_eq_true rfl) ?_
  refine z_iload C dX6_doRemove_71 rfl ?_
  refine z_nif_lt_f C 106 dX6_doRemove_73 (by decide) (by omega) (by trivial) ?_
  refine z_aload_n C 0 dX6_doRemove_76 rfl rfl ?_
  refine z_iload C dX6_doRemove_77 rfl ?_
  refine z_sipush C (nI 209) dX6_doRemove_79 (by decide) ?_
  refine z_callVr C kX6_of gX6_doRemove_X6_of (mX6_of_Y X.2.1 a kp ty pl gd od vU vS vN vX vM vT vB vK vY vZ vR vC vV k (by first | assumption | omega)) dX6_doRemove_82 [0, 1] [] 0 rfl nd_0_1 rfl rfl rfl (by decide) (by decide) (Nat.le_of_ble_eq_true rfl) rfl ?_
  refine z_iload_n C 1 dX6_doRemove_85 rfl rfl ?_
  refine z_icmp_ne_t C 106 dX6_doRemove_86 (by decide) hby ?_
  refine z_aload_n C 0 dX6_doRemove_106 rfl rfl ?_
  refine z_get C fX6_doRemove_7 0 dX6_doRemove_107 rfl rfl ?_
  refine z_bipush C (nI 51) dX6_doRemove_110 (by decide) ?_
  refine z_ialdN C 1 dX6_doRemove_112 rfl (by omega) (by decide) ?_
  refine z_top (y := nI (vM)) (zMr_M) ?_
  refine z_bipush C (nI 60) dX6_doRemove_113 (by decide) ?_
  refine z_ncmp_ne_f C 123 dX6_doRemove_115 (by decide) (by omega) (by omega) (by omega) ?_
  refine z_bipush C (-3) dX6_doRemove_118 (by decide) ?_
  refine z_goto C 157 dX6_doRemove_120 (by decide) ?_
  exact z_iret C N dX6_doRemove_157 (rfl) (rfl)

set_option maxHeartbeats 4000000 in
set_option maxRecDepth 100000 in
theorem mX6_doRemove_0nt (E : zE) (a : Nat → Nat) (kp ty pl : Nat) (gd : Bool) (od : Nat) (vU vS : Nat → Nat) (vN : Nat → Int32) (vX vM : Nat) (vT : Bool) (vB vK vY vZ vR vC vV : Nat → Int32) (au j : Nat) (hO : okM vU vS vM vK) (hau : au < 4) (hj : j < vU 0) (ht : vT = true) (hr : mDm vZ vK vR vC vS vN vM 0 j = false) (hi : mIn vZ vK vR vC vS vN vM 0 j < 0) (hf : vM < 60) : zM E yX6_doRemove wsX6_doRemove 5 [.ref (a 0), .int (nI au), .int (nI 0), .int (nI j)] [((a 0), .inr (6, [.ref (a 1), .ref (a 2), .ref (a 3), .int (nI kp), .int (nI ty), .ref (a 4), .int (nI pl), .int (zb gd), .int (nI od), .ref (a 5)])), ((a 1), .inl (E.2.2.1, 512, .inl (mRow vU vS vN vX vM vT vB vK vY vZ vR vC vV)))] [((a 0), .inr (6, [.ref (a 1), .ref (a 2), .ref (a 3), .int (nI kp), .int (nI ty), .ref (a 4), .int (nI pl), .int (zb gd), .int (nI od), .ref (a 5)])), ((a 1), .inl (E.2.2.1, 512, .inl (mRow vU vS vN vX (vM + 1) vT vB (upd vK vM (nI 1)) (upd vY vM (nI au)) (upd vZ vM (nI 0)) (upd vR vM (mN vS vN 0 j)) (upd vC vM (-5)) (upd vV vM (nI 0)))))] (some (.int (nI (vM)))) := by
  refine zM.of kX6_doRemove (Nat.le_of_ble_eq_true rfl) rfl [some (.ref (a 0)), some (.int (nI au)), some (.int (nI 0)), some (.int (nI j)), none, none] rfl (Nat.le_of_ble_eq_true rfl) ?_
  intro X eX C N
  subst eX
  obtain ⟨hu0, hu1, hM, hk1, hk2, hk3⟩ := id hO
  refine z_iload_n C 1 dX6_doRemove_0 rfl rfl ?_
  refine z_callS C kX6_noAuthor gX6_doRemove_X6_noAuthor (mX6_noAuthor_y X.2.1 au hau) dX6_doRemove_1 [] rfl (by decide) (by decide) (Nat.le_of_ble_eq_true rfl) rfl ?_
  refine z_bif_ne_f C 16 dX6_doRemove_4 (by decide) rfl ?_
  refine z_aload_n C 0 dX6_doRemove_7 rfl rfl ?_
  refine z_iload_n C 2 dX6_doRemove_8 rfl rfl ?_
  refine z_iload_n C 3 dX6_doRemove_9 rfl rfl ?_
  refine z_callVr C kX6_noLine gX6_doRemove_X6_noLine (mX6_noLine_0_y X.2.1 a kp ty pl gd od vU vS vN vX vM vT vB vK vY vZ vR vC vV j hO hj) dX6_doRemove_10 [0, 1] [] 0 rfl nd_0_1 rfl rfl rfl (by decide) (by decide) (Nat.le_of_ble_eq_true rfl) rfl ?_
  refine z_bif_eq_t C 18 dX6_doRemove_13 (by decide) rfl ?_
  refine z_aload_n C 0 dX6_doRemove_18 rfl rfl ?_
  refine z_iload_n C 2 dX6_doRemove_19 rfl rfl ?_
  refine z_iload_n C 3 dX6_doRemove_20 rfl rfl ?_
  refine z_callVr C kX6_nameAt gX6_doRemove_X6_nameAt (mX6_nameAt_0 X.2.1 a kp ty pl gd od vU vS vN vX vM vT vB vK vY vZ vR vC vV j hO (by first | assumption | omega)) dX6_doRemove_21 [0, 1] [] 0 rfl nd_0_1 rfl rfl rfl (by decide) (by decide) (Nat.le_of_ble_eq_true rfl) rfl ?_
  refine z_istore C dX6_doRemove_24 (Nat.le_of_ble_eq_true rfl) ?_
  refine z_aload_n C 0 dX6_doRemove_26 rfl rfl ?_
  refine z_callVr C kX6_isTracked gX6_doRemove_X6_isTracked (mX6_isTracked X.2.1 a kp ty pl gd od vU vS vN vX vM vT vB vK vY vZ vR vC vV ) dX6_doRemove_27 [0, 1] [] 0 rfl nd_0_1 rfl rfl rfl (by decide) (by decide) (Nat.le_of_ble_eq_true rfl) rfl ?_
  refine z_bif_ne_t C 51 dX6_doRemove_30 (by decide) ht ?_
  refine z_aload_n C 0 dX6_doRemove_51 rfl rfl ?_
  refine z_iload_n C 2 dX6_doRemove_52 rfl rfl ?_
  refine z_iload_n C 3 dX6_doRemove_53 rfl rfl ?_
  refine z_callVr C kX6_isDoomed gX6_doRemove_X6_isDoomed (mX6_isDoomed_0 X.2.1 a kp ty pl gd od vU vS vN vX vM vT vB vK vY vZ vR vC vV j hO (by first | assumption | omega)) dX6_doRemove_54 [0, 1] [] 0 rfl nd_0_1 rfl rfl rfl (by decide) (by decide) (Nat.le_of_ble_eq_true rfl) rfl ?_
  refine z_bif_eq_t C 63 dX6_doRemove_57 (by decide) hr ?_
  refine z_aload_n C 0 dX6_doRemove_63 rfl rfl ?_
  refine z_iload_n C 2 dX6_doRemove_64 rfl rfl ?_
  refine z_iload_n C 3 dX6_doRemove_65 rfl rfl ?_
  refine z_callVr C kX6_insertionOf gX6_doRemove_X6_insertionOf (mX6_insertionOf_0 X.2.1 a kp ty pl gd od vU vS vN vX vM vT vB vK vY vZ vR vC vV j hO (by first | assumption | omega)) dX6_doRemove_66 [0, 1] [] 0 rfl nd_0_1 rfl rfl rfl (by decide) (by decide) (Nat.le_of_ble_eq_true rfl) rfl ?_
  refine z_istore C dX6_doRemove_69 (Nat.le_of_ble_eq_true rfl) ?_
  refine z_iload C dX6_doRemove_71 rfl ?_
  refine z_if_lt_t C 106 dX6_doRemove_73 (by decide) hi ?_
  refine z_aload_n C 0 dX6_doRemove_106 rfl rfl ?_
  refine z_get C fX6_doRemove_7 0 dX6_doRemove_107 rfl rfl ?_
  refine z_bipush C (nI 51) dX6_doRemove_110 (by decide) ?_
  refine z_ialdN C 1 dX6_doRemove_112 rfl (by omega) (by decide) ?_
  refine z_top (y := nI (vM)) (zMr_M) ?_
  refine z_bipush C (nI 60) dX6_doRemove_113 (by decide) ?_
  refine z_ncmp_ne_t C 123 dX6_doRemove_115 (by decide) (by omega) (by omega) (by omega) ?_
  refine z_aload_n C 0 dX6_doRemove_123 rfl rfl ?_
  refine z_iconst C (nI 2) dX6_doRemove_124 (by decide) ?_
  refine z_iload_n C 2 dX6_doRemove_125 rfl rfl ?_
  refine z_imul C dX6_doRemove_126 ?_
  refine z_top (y := nI 0) (pk_mul _ _) ?_
  refine z_iconst C (nI 1) dX6_doRemove_127 (by decide) ?_
  refine z_iadd C dX6_doRemove_128 ?_
  refine z_top (y := nI 1) (nI_add _ _) ?_
  refine z_iload_n C 1 dX6_doRemove_129 rfl rfl ?_
  refine z_iload_n C 2 dX6_doRemove_130 rfl rfl ?_
  refine z_nif_ne_f C 139 dX6_doRemove_131 (by decide) (by omega) (by omega) ?_
  refine z_iload C dX6_doRemove_134 rfl ?_
  refine z_goto C 141 dX6_doRemove_136 (by decide) ?_
  refine z_iload_n C 2 dX6_doRemove_141 rfl rfl ?_
  refine z_iconst C (nI 1) dX6_doRemove_142 (by decide) ?_
  refine z_ncmp_ne_t C 151 dX6_doRemove_143 (by decide) (by omega) (by omega) (by omega) ?_
  refine z_bipush C (-5) dX6_doRemove_151 (by decide) ?_
  refine z_iconst C (nI 0) dX6_doRemove_153 (by decide) ?_
  refine z_callV (wn := [((a 0), .inr (6, [.ref (a 1), .ref (a 2), .ref (a 3), .int (nI kp), .int (nI ty), .ref (a 4), .int (nI pl), .int (zb gd), .int (nI od), .ref (a 5)])), ((a 1), .inl (X.2.1.2.2.1, 512, .inl (mRow vU vS vN vX (vM + 1) vT vB (upd vK vM (nI 1)) (upd vY vM (nI au)) (upd vZ vM (nI 0)) (upd vR vM (mN vS vN 0 j)) (upd vC vM (-5)) (upd vV vM (nI 0)))))]) C kX6_make gX6_doRemove_X6_make (mX6_make X.2.1 a kp ty pl gd od vU vS vN vX vM vT vB vK vY vZ vR vC vV (nI 1) (nI au) (mN vS vN 0 j) (-5) (nI 0) hO hf) dX6_doRemove_154 [0, 1] [] 0 rfl rfl nd_0_1 rfl rfl rfl (by decide) (by decide) (Nat.le_of_ble_eq_true rfl) rfl rfl ?_
  exact z_iret C N dX6_doRemove_157 (rfl) (rfl)

