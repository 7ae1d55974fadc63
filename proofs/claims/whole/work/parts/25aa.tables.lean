theorem kX4_acceptAlone : zY yX4_acceptAlone wsX4_acceptAlone cX4_acceptAlone 4 none 1 := ⟨⟨_, rfl⟩, ⟨by decide +kernel, by decide +kernel, by decide +kernel⟩, by decide +kernel⟩
theorem fX4_acceptAlone_30 : zF wsX4_acceptAlone RX4 30 4 3 RX4 TX4 5 := ⟨by decide +kernel, rfl, by decide, by decide +kernel, rfl⟩
set_option maxHeartbeats 4000000 in
set_option maxRecDepth 100000 in
theorem mX4_acceptAlone (E : zE) (a : Nat → Nat) (S : zSt) (x : Nat) (hS : okS S) (hx : x < mK S) : zM E yX4_acceptAlone wsX4_acceptAlone 5 [.ref (a 0), .int (nI x)] [((a 0), .inr (4, [.ref (a 1), .ref (a 3), .ref (a 5), .ref (a 6), .int (zb (tK S))])), ((a 1), .inr (2, [.ref (a 2), .int (nI (rU S))])), ((a 2), .inl (E.2.2.1, 12, .inl (rO S))), ((a 3), .inr (2, [.ref (a 4), .int (nI (cU S))])), ((a 4), .inl (E.2.2.1, 8, .inl (cO S))), ((a 5), .inl (E.2.2.1, 96, .inl (bS S))), ((a 6), .inr (0, [.ref (a 7), .int (nI (mK S))])), ((a 7), .inl (E.2.2.1, 360, .inl (fA S)))] [((a 0), .inr (4, [.ref (a 1), .ref (a 3), .ref (a 5), .ref (a 6), .int (zb (tK (zAA S x)))])), ((a 1), .inr (2, [.ref (a 2), .int (nI (rU (zAA S x)))])), ((a 2), .inl (E.2.2.1, 12, .inl (rO (zAA S x)))), ((a 3), .inr (2, [.ref (a 4), .int (nI (cU (zAA S x)))])), ((a 4), .inl (E.2.2.1, 8, .inl (cO (zAA S x)))), ((a 5), .inl (E.2.2.1, 96, .inl (bS (zAA S x)))), ((a 6), .inr (0, [.ref (a 7), .int (nI (mK (zAA S x)))])), ((a 7), .inl (E.2.2.1, 360, .inl (fA (zAA S x))))] none := by
  refine zM.of kX4_acceptAlone (Nat.le_of_ble_eq_true rfl) rfl [some (.ref (a 0)), some (.int (nI x)), none, none] rfl (Nat.le_of_ble_eq_true rfl) ?_
  intro X eX C N
  subst eX
  obtain ⟨hur, huc, hM⟩ := id hS
  refine z_aload_n C 0 dX4_acceptAlone_0 rfl rfl ?_
  refine z_get C fX4_acceptAlone_30 0 dX4_acceptAlone_1 rfl rfl ?_
  refine z_iload_n C 1 dX4_acceptAlone_4 rfl rfl ?_
  refine z_iconst C (nI 2) dX4_acceptAlone_5 (by decide) ?_
  refine z_iconst C (nI 1) dX4_acceptAlone_6 (by decide) ?_
  refine z_callVv (wn := [((a 0), .inr (4, [.ref (a 1), .ref (a 3), .ref (a 5), .ref (a 6), .int (zb (tK S))])), ((a 1), .inr (2, [.ref (a 2), .int (nI (rU S))])), ((a 2), .inl (X.2.1.2.2.1, 12, .inl (rO S))), ((a 3), .inr (2, [.ref (a 4), .int (nI (cU S))])), ((a 4), .inl (X.2.1.2.2.1, 8, .inl (cO S))), ((a 5), .inl (X.2.1.2.2.1, 96, .inl (bS S))), ((a 6), .inr (0, [.ref (a 7), .int (nI (mK S))])), ((a 7), .inl (X.2.1.2.2.1, 360, .inl (upd (fA S) (6 * x + 2) (nI 1))))]) C kX0_put gX4_acceptAlone_X0_put (mX0_put X.2.1 (a 6) (a 7) (fA S) (mK S) x 2 (nI 1) hM hx (by first | assumption | omega)) dX4_acceptAlone_7 [6, 7] [] 6 rfl rfl nd_6_7 rfl rfl rfl (by decide) (by decide) (Nat.le_of_ble_eq_true rfl) rfl rfl ?_
  refine z_cv (ws' := [((a 0), .inr (4, [.ref (a 1), .ref (a 3), .ref (a 5), .ref (a 6), .int (zb (tK (zA1 S x)))])), ((a 1), .inr (2, [.ref (a 2), .int (nI (rU (zA1 S x)))])), ((a 2), .inl (X.2.1.2.2.1, 12, .inl (rO (zA1 S x)))), ((a 3), .inr (2, [.ref (a 4), .int (nI (cU (zA1 S x)))])), ((a 4), .inl (X.2.1.2.2.1, 8, .inl (cO (zA1 S x)))), ((a 5), .inl (X.2.1.2.2.1, 96, .inl (bS (zA1 S x)))), ((a 6), .inr (0, [.ref (a 7), .int (nI (mK (zA1 S x)))])), ((a 7), .inl (X.2.1.2.2.1, 360, .inl (fA (zA1 S x))))]) (rfl) rfl rfl ?_
  have q_1 : rU (zA1 S x) = rU S := rfl
  have q_2 : cU (zA1 S x) = cU S := rfl
  have q_3 : mK (zA1 S x) = mK S := rfl
  have q_4 : okS (zA1 S x) := hS
  refine z_aload_n C 0 dX4_acceptAlone_10 rfl rfl ?_
  refine z_get C fX4_acceptAlone_30 0 dX4_acceptAlone_11 rfl rfl ?_
  refine z_iload_n C 1 dX4_acceptAlone_14 rfl rfl ?_
  refine z_iconst C (nI 3) dX4_acceptAlone_15 (by decide) ?_
  refine z_callVr C kX0_fact gX4_acceptAlone_X0_fact (mX0_fact X.2.1 (a 6) (a 7) (fA (zA1 S x)) (mK (zA1 S x)) x 3 (by first | assumption | omega) (by first | assumption | omega) (by first | assumption | omega)) dX4_acceptAlone_16 [6, 7] [] 6 rfl nd_6_7 rfl rfl rfl (by decide) (by decide) (Nat.le_of_ble_eq_true rfl) rfl ?_
  refine z_istore_n C 2 dX4_acceptAlone_19 rfl (Nat.le_of_ble_eq_true rfl) ?_
  refine z_aload_n C 0 dX4_acceptAlone_20 rfl rfl ?_
  refine z_get C fX4_acceptAlone_30 0 dX4_acceptAlone_21 rfl rfl ?_
  refine z_iload_n C 1 dX4_acceptAlone_24 rfl rfl ?_
  refine z_iconst C (nI 4) dX4_acceptAlone_25 (by decide) ?_
  refine z_callVr C kX0_fact gX4_acceptAlone_X0_fact (mX0_fact X.2.1 (a 6) (a 7) (fA (zA1 S x)) (mK (zA1 S x)) x 4 (by first | assumption | omega) (by first | assumption | omega) (by first | assumption | omega)) dX4_acceptAlone_26 [6, 7] [] 6 rfl nd_6_7 rfl rfl rfl (by decide) (by decide) (Nat.le_of_ble_eq_true rfl) rfl ?_
  refine z_istore_n C 3 dX4_acceptAlone_29 rfl (Nat.le_of_ble_eq_true rfl) ?_
  refine z_aload_n C 0 dX4_acceptAlone_30 rfl rfl ?_
  refine z_get C fX4_acceptAlone_30 0 dX4_acceptAlone_31 rfl rfl ?_
  refine z_iload_n C 1 dX4_acceptAlone_34 rfl rfl ?_
  refine z_iconst C (nI 0) dX4_acceptAlone_35 (by decide) ?_
  refine z_callVr C kX0_fact gX4_acceptAlone_X0_fact (mX0_fact X.2.1 (a 6) (a 7) (fA (zA1 S x)) (mK (zA1 S x)) x 0 (by first | assumption | omega) (by first | assumption | omega) (by first | assumption | omega)) dX4_acceptAlone_36 [6, 7] [] 6 rfl nd_6_7 rfl rfl rfl (by decide) (by decide) (Nat.le_of_ble_eq_true rfl) rfl ?_
  refine z_top (y := (fA (zA1 S x)) (6 * x)) rfl ?_
  by_cases hs_5 : (fA (zA1 S x)) (6 * x) = nI 1
  · refine z_tsAt C 1 68 dX4_acceptAlone_39 (by rw [hs_5]; decide) (by decide) rfl (by decide) ?_
    refine z_aload_n C 0 dX4_acceptAlone_68 rfl rfl ?_
    refine z_iconst C (nI 0) dX4_acceptAlone_69 (by decide) ?_
    refine z_iload_n C 2 dX4_acceptAlone_70 rfl rfl ?_
    refine z_callVv (wn := [((a 0), .inr (4, [.ref (a 1), .ref (a 3), .ref (a 5), .ref (a 6), .int (zb (tK (zDrR (zA1 S x) ((fA (zA1 S x)) (6 * x + 3)))))])), ((a 1), .inr (2, [.ref (a 2), .int (nI (rU (zDrR (zA1 S x) ((fA (zA1 S x)) (6 * x + 3)))))])), ((a 2), .inl (X.2.1.2.2.1, 12, .inl (rO (zDrR (zA1 S x) ((fA (zA1 S x)) (6 * x + 3)))))), ((a 3), .inr (2, [.ref (a 4), .int (nI (cU (zDrR (zA1 S x) ((fA (zA1 S x)) (6 * x + 3)))))])), ((a 4), .inl (X.2.1.2.2.1, 8, .inl (cO (zDrR (zA1 S x) ((fA (zA1 S x)) (6 * x + 3)))))), ((a 5), .inl (X.2.1.2.2.1, 96, .inl (bS (zDrR (zA1 S x) ((fA (zA1 S x)) (6 * x + 3)))))), ((a 6), .inr (0, [.ref (a 7), .int (nI (mK (zDrR (zA1 S x) ((fA (zA1 S x)) (6 * x + 3)))))])), ((a 7), .inl (X.2.1.2.2.1, 360, .inl (fA (zDrR (zA1 S x) ((fA (zA1 S x)) (6 * x + 3))))))]) C kX4_dropLine gX4_acceptAlone_X4_dropLine (mX4_dropLine_r X.2.1 a (zA1 S x) ((fA (zA1 S x)) (6 * x + 3)) q_4) dX4_acceptAlone_71 [0, 1, 2, 3, 4, 5, 6, 7] [] 0 rfl rfl nd_0_1_2_3_4_5_6_7 rfl rfl rfl (by decide) (by decide) (Nat.le_of_ble_eq_true rfl) rfl rfl ?_
    refine z_goto C 104 dX4_acceptAlone_74 (by decide) ?_
    exact z_vret C N dX4_acceptAlone_104 (by rw [show zAA S x = zDrR (zA1 S x) (fA (zA1 S x) (6 * x + 3)) by simp [zAA, nI_eq, hs_5]] <;> rfl)
  by_cases hs_6 : (fA (zA1 S x)) (6 * x) = nI 2
  · refine z_tsAt C 2 104 dX4_acceptAlone_39 (by rw [hs_6]; decide) (by decide) rfl (by decide) ?_
    exact z_vret C N dX4_acceptAlone_104 (by rw [show zAA S x = zA1 S x by simp [zAA, nI_eq, hs_5, hs_6]] <;> rfl)
  by_cases hs_7 : (fA (zA1 S x)) (6 * x) = nI 3
  · refine z_tsAt C 3 77 dX4_acceptAlone_39 (by rw [hs_7]; decide) (by decide) rfl (by decide) ?_
    refine z_aload_n C 0 dX4_acceptAlone_77 rfl rfl ?_
    refine z_iconst C (nI 1) dX4_acceptAlone_78 (by decide) ?_
    refine z_iload_n C 3 dX4_acceptAlone_79 rfl rfl ?_
    refine z_callVv (wn := [((a 0), .inr (4, [.ref (a 1), .ref (a 3), .ref (a 5), .ref (a 6), .int (zb (tK (zDrC (zA1 S x) ((fA (zA1 S x)) (6 * x + 4)))))])), ((a 1), .inr (2, [.ref (a 2), .int (nI (rU (zDrC (zA1 S x) ((fA (zA1 S x)) (6 * x + 4)))))])), ((a 2), .inl (X.2.1.2.2.1, 12, .inl (rO (zDrC (zA1 S x) ((fA (zA1 S x)) (6 * x + 4)))))), ((a 3), .inr (2, [.ref (a 4), .int (nI (cU (zDrC (zA1 S x) ((fA (zA1 S x)) (6 * x + 4)))))])), ((a 4), .inl (X.2.1.2.2.1, 8, .inl (cO (zDrC (zA1 S x) ((fA (zA1 S x)) (6 * x + 4)))))), ((a 5), .inl (X.2.1.2.2.1, 96, .inl (bS (zDrC (zA1 S x) ((fA (zA1 S x)) (6 * x + 4)))))), ((a 6), .inr (0, [.ref (a 7), .int (nI (mK (zDrC (zA1 S x) ((fA (zA1 S x)) (6 * x + 4)))))])), ((a 7), .inl (X.2.1.2.2.1, 360, .inl (fA (zDrC (zA1 S x) ((fA (zA1 S x)) (6 * x + 4))))))]) C kX4_dropLine gX4_acceptAlone_X4_dropLine (mX4_dropLine_c X.2.1 a (zA1 S x) ((fA (zA1 S x)) (6 * x + 4)) q_4) dX4_acceptAlone_80 [0, 1, 2, 3, 4, 5, 6, 7] [] 0 rfl rfl nd_0_1_2_3_4_5_6_7 rfl rfl rfl (by decide) (by decide) (Nat.le_of_ble_eq_true rfl) rfl rfl ?_
    refine z_goto C 104 dX4_acceptAlone_83 (by decide) ?_
    exact z_vret C N dX4_acceptAlone_104 (by rw [show zAA S x = zDrC (zA1 S x) (fA (zA1 S x) (6 * x + 4)) by simp [zAA, nI_eq, hs_5, hs_6, hs_7]] <;> rfl)
  by_cases hs_8 : (fA (zA1 S x)) (6 * x) = nI 4
  · refine z_tsAt C 4 86 dX4_acceptAlone_39 (by rw [hs_8]; decide) (by decide) rfl (by decide) ?_
    refine z_aload_n C 0 dX4_acceptAlone_86 rfl rfl ?_
    refine z_iload_n C 2 dX4_acceptAlone_87 rfl rfl ?_
    refine z_iload_n C 3 dX4_acceptAlone_88 rfl rfl ?_
    refine z_aload_n C 0 dX4_acceptAlone_89 rfl rfl ?_
    refine z_get C fX4_acceptAlone_30 0 dX4_acceptAlone_90 rfl rfl ?_
    refine z_iload_n C 1 dX4_acceptAlone_93 rfl rfl ?_
    refine z_iconst C (nI 5) dX4_acceptAlone_94 (by decide) ?_
    refine z_callVr C kX0_fact gX4_acceptAlone_X0_fact (mX0_fact X.2.1 (a 6) (a 7) (fA (zA1 S x)) (mK (zA1 S x)) x 5 (by first | assumption | omega) (by first | assumption | omega) (by first | assumption | omega)) dX4_acceptAlone_95 [6, 7] [.int ((fA (zA1 S x)) (6 * x + 4)), .int ((fA (zA1 S x)) (6 * x + 3)), .ref (a 0)] 6 rfl nd_6_7 rfl rfl rfl (by decide) (by decide) (Nat.le_of_ble_eq_true rfl) rfl ?_
    refine z_callVv (wn := [((a 0), .inr (4, [.ref (a 1), .ref (a 3), .ref (a 5), .ref (a 6), .int (zb (tK (zA1 S x)))])), ((a 1), .inr (2, [.ref (a 2), .int (nI (rU (zA1 S x)))])), ((a 2), .inl (X.2.1.2.2.1, 12, .inl (rO (zA1 S x)))), ((a 3), .inr (2, [.ref (a 4), .int (nI (cU (zA1 S x)))])), ((a 4), .inl (X.2.1.2.2.1, 8, .inl (cO (zA1 S x)))), ((a 5), .inl (X.2.1.2.2.1, 96, .inl (zPb (bS (zA1 S x)) ((fA (zA1 S x)) (6 * x + 3)) ((fA (zA1 S x)) (6 * x + 4)) ((fA (zA1 S x)) (6 * x + 5))))), ((a 6), .inr (0, [.ref (a 7), .int (nI (mK (zA1 S x)))])), ((a 7), .inl (X.2.1.2.2.1, 360, .inl (fA (zA1 S x))))]) C kX4_putBase gX4_acceptAlone_X4_putBase (mX4_putBase X.2.1 a (rO (zA1 S x)) (rU (zA1 S x)) (cO (zA1 S x)) (cU (zA1 S x)) (bS (zA1 S x)) (fA (zA1 S x)) (mK (zA1 S x)) (tK (zA1 S x)) ((fA (zA1 S x)) (6 * x + 3)) ((fA (zA1 S x)) (6 * x + 4)) ((fA (zA1 S x)) (6 * x + 5)) (by first | assumption | omega) (by first | assumption | omega) (by first | assumption | omega)) dX4_acceptAlone_98 [0, 1, 2, 3, 4, 5, 6, 7] [] 0 rfl rfl nd_0_1_2_3_4_5_6_7 rfl rfl rfl (by decide) (by decide) (Nat.le_of_ble_eq_true rfl) rfl rfl ?_
    refine z_goto C 104 dX4_acceptAlone_101 (by decide) ?_
    exact z_vret C N dX4_acceptAlone_104 (by rw [show zAA S x = zBs (zA1 S x) (zPb (bS S) (fA (zA1 S x) (6 * x + 3)) (fA (zA1 S x) (6 * x + 4)) (fA (zA1 S x) (6 * x + 5))) by simp [zAA, nI_eq, hs_5, hs_6, hs_7, hs_8]] <;> rfl)
  refine z_tsOut C 104 dX4_acceptAlone_39 (by have e1 := z_neN (c := 1) (by decide) hs_5; have e2 := z_neN (c := 2) (by decide) hs_6; have e3 := z_neN (c := 3) (by decide) hs_7; have e4 := z_neN (c := 4) (by decide) hs_8; omega) (by decide) ?_
  exact z_vret C N dX4_acceptAlone_104 (by rw [show zAA S x = zA1 S x by simp [zAA, nI_eq, hs_5, hs_6, hs_7, hs_8]] <;> rfl)

