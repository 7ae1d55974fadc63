theorem kX4_acceptAlone : zY yX4_acceptAlone wsX4_acceptAlone cX4_acceptAlone 4 none 1 := ⟨⟨_, rfl⟩, ⟨by decide +kernel, by decide +kernel, by decide +kernel⟩, by decide +kernel⟩
theorem fX4_acceptAlone_30 : zF wsX4_acceptAlone RX4 30 4 3 RX4 TX4 5 := ⟨by decide +kernel, rfl, by decide, by decide +kernel, rfl⟩
set_option maxHeartbeats 4000000 in
set_option maxRecDepth 100000 in
theorem mX4_acceptAlone (E : zE) (a : Nat → Nat) (S : zSt) (x : Nat) (hS : okS S) (hx : x < mK S) : zM E yX4_acceptAlone wsX4_acceptAlone 5 [.ref (a 0), .int (nI x)] [((a 0), .inr (4, [.ref (a 1), .ref (a 3), .ref (a 5), .ref (a 6), .int (zb (tK S))])), ((a 1), .inr (2, [.ref (a 2), .int (nI (rU S))])), ((a 2), .inl (E.2.2.1, 12, .inl (rO S))), ((a 3), .inr (2, [.ref (a 4), .int (nI (cU S))])), ((a 4), .inl (E.2.2.1, 8, .inl (cO S))), ((a 5), .inl (E.2.2.1, 96, .inl (bS S))), ((a 6), .inr (0, [.ref (a 7), .int (nI (mK S))])), ((a 7), .inl (E.2.2.1, 360, .inl (fA S)))] [((a 0), .inr (4, [.ref (a 1), .ref (a 3), .ref (a 5), .ref (a 6), .int (zb (tK (zAA S x)))])), ((a 1), .inr (2, [.ref (a 2), .int (nI (rU (zAA S x)))])), ((a 2), .inl (E.2.2.1, 12, .inl (rO (zAA S x)))), ((a 3), .inr (2, [.ref (a 4), .int (nI (cU (zAA S x)))])), ((a 4), .inl (E.2.2.1, 8, .inl (cO (zAA S x)))), ((a 5), .inl (E.2.2.1, 96, .inl (bS (zAA S x)))), ((a 6), .inr (0, [.ref (a 7), .int (nI (mK (zAA S x)))])), ((a 7), .inl (E.2.2.1, 360, .inl (fA (zAA S x))))] none := by
  refine zM.of kX4_acceptAlone (Nat.le_of_ble_eq_true rfl) rfl [some (.ref (a 0)), some (.int (nI x)), none, none] rfl (Nat.le_of_ble_eq_true rfl) ?_
  intro X eX C N
  subst eX
  obtain ⟨hur, huc, hM⟩ := id hS
  refine z_aload_n C 0 dX4_acceptAlone_0 rfl rfl ?_
  refine z_get C fX4_acceptAlone_30 0 dX4_acceptAlone_1 rfl rfl ?_
  refine z_iload_n C 1 dX4_acceptAlone_4 rfl rfl ?_
  refine z_iconst C (nI 2) dX4_acceptAlone_5 (by decide) ?_
  refine z_iconst C (nI 1) dX4_acceptAlone_6 (by decide) ?_
  refine z_callVv (wn := [((a 0), .inr (4, [.ref (a 1), .ref (a 3), .ref (a 5), .ref (a 6), .int (zb (tK S))])), ((a 1), .inr (2, [.ref (a 2), .int (nI (rU S))])), ((a 2), .inl (X.2.1.2.2.1, 12, .inl (rO S))), ((a 3), .inr (2, [.ref (a 4), .int (nI (cU S))])), ((a 4), .inl (X.2.1.2.2.1, 8, .inl (cO S))), ((a 5), .inl (X.2.1.2.2.1, 96, .inl (bS S))), ((a 6), .inr (0, [.ref (a 7), .int (nI (mK S))])), ((a 7), .inl (X.2.1.2.2.1, 360, .inl (upd (fA S) (6 * x + 2) (nI 1))))]) C kX0_put gX4_acceptAlone_X0_put (mX0_put X.2.1 (a 6) (a 7) (fA S) (mK S) x 2 (nI 1) hM hx (by first | assumption | omega)) dX4_acceptAlone_7 [6, 7] [] 6 rfl rfl nd_6_7 rfl rfl rfl (by decide) (by decide) (Nat.le_of_ble_eq_true rfl) rfl rfl ?_
  refine z_cv (ws' := [((a 0), .inr (4, [.ref (a 1), .ref (a 3), .ref (a 5), .ref (a 6), .int (zb (tK (zA1 S x)))])), ((a 1), .inr (2, [.ref (a 2), .int (nI (rU (zA1 S x)))])), ((a 2), .inl (X.2.1.2.2.1, 12, .inl (rO (zA1 S x)))), ((a 3), .inr (2, [.ref (a 4), .int (nI (cU (zA1 S x)))])), ((a 4), .inl (X.2.1.2.2.1, 8, .inl (cO (zA1 S x)))), ((a 5), .inl (X.2.1.2.2.1, 96, .inl (bS (zA1 S x)))), ((a 6), .inr (0, [.ref (a 7), .int (nI (mK (zA1 S x)))])), ((a 7), .inl (X.2.1.2.2.1, 360, .inl (fA (zA1 S x))))]) (rfl) rfl rfl ?_
  have q_1 : rU (zA1 S x) = rU S := rfl
  have q_2 : cU (zA1 S x) = cU S := rfl
  have q_3 : mK (zA1 S x) = mK S := rfl
  have q_4 : okS (zA1 S x) := hS
  refine z_aload_n C 0 dX4_acceptAlone_10 rfl rfl ?_
  refine z_get C fX4_acceptAlone_30 0 dX4_acceptAlone_11 rfl rfl ?_
  refine z_iload_n C 1 dX4_acceptAlone_14 rfl rfl ?_
  refine z_iconst C (nI 3) dX4_acceptAlone_15 (by decide) ?_
  refine z_callVr C kX0_fact gX4_acceptAlone_X0_fact (mX0_fact X.2.1 (a 6) (a 7) (fA (zA1 S x)) (mK (zA1 S x)) x 3 (by first | assumption | omega) (by first | assumption | omega) (by first | assumption | omega)) dX4_acceptAlone_16 [6, 7] [] 6 rfl nd_6_7 rfl rfl rfl (by decide) (by decide) (Nat.le_of_ble_eq_true rfl) rfl ?_
  refine z_istore_n C 2 dX4_acceptAlone_19 rfl (Nat.le_of_ble_eq_true rfl) ?_
  refine z_aload_n C 0 dX4_acceptAlone_20 rfl rfl ?_
  refine z_get C fX4_acceptAlone_30 0 dX4_acceptAlone_21 rfl rfl ?_
  refine z_iload_n C 1 dX4_acceptAlone_24 rfl rfl ?_
  refine z_iconst C (nI 4) dX4_acceptAlone_25 (by decide) ?_
  refine z_callVr C kX0_fact gX4_acceptAlone_X0_fact (mX0_fact X.2.1 (a 6) (a 7) (fA (zA1 S x)) (mK (zA1 S x)) x 4 (by first | assumption | omega) (by first | assumption | omega) (by first | assumption | omega)) dX4_acceptAlone_26 [6, 7] [] 6 rfl nd_6_7 rfl rfl rfl (by decide) (by decide) (Nat.le_of_ble_eq_true rfl) rfl ?_
  refine z_istore_n C 3 dX4_acceptAlone_29 rfl (Nat.le_of_ble_eq_true rfl) ?_
  refine z_aload_n C 0 dX4_acceptAlone_30 rfl rfl ?_
  refine z_get C fX4_acceptAlone_30 0 dX4_acceptAlone_31 rfl rfl ?_
  refine z_iload_n C 1 dX4_acceptAlone_34 rfl rfl ?_
  refine z_iconst C (nI 0) dX4_acceptAlone_35 (by decide) ?_
  refine z_callVr C kX0_fact gX4_acceptAlone_X0_fact (mX0_fact X.2.1 (a 6) (a 7) (fA (zA1 S x)) (mK (zA1 S x)) x 0 (by first | assumption | omega) (by first | assumption | omega) (by first | assumption | omega)) dX4_acceptAlone_36 [6, 7] [] 6 rfl nd_6_7 rfl rfl rfl (by decide) (by decide) (Nat.le_of_ble_eq_true rfl) rfl ?_
  refine z_top (y := (fA (zA1 S x)) (6 * x)) rfl ?_
  by_cases hs_5 : (fA (zA1 S x)) (6 * x) = nI 1
  · refine z_tsAt C 1 68 dX4_acceptAlone_39 (by rw [hs_5]; decide) (by decide) rfl (by decide) ?_
    refine z_aload_n C 0 dX4_acceptAlone_68 rfl rfl ?_
    refine z_iconst C (nI 0) dX4_acceptAlone_69 (by decide) ?_
    refine z_iload_n C 2 dX4_acceptAlone_70 rfl rfl ?_
    refine z_callVv (wn := [((a 0), .inr (4, [.ref (a 1), .ref (a 3), .ref (a 5), .ref (a 6), .int (zb (tK (zDrR (zA1 S x) ((fA (zA1 S x)) (6 * x + 3)))))])), ((a 1), .inr (2, [.ref (a 2), .int (nI (rU (zDrR (zA1 S x) ((fA (zA1 S x)) (6 * x + 3)))))])), ((a 2), .inl (X.2.1.2.2.1, 12, .inl (rO (zDrR (zA1 S x) ((fA (zA1 S x)) (6 * x + 3)))))), ((a 3), .inr (2, [.ref (a 4), .int (nI (cU (zDrR (zA1 S x) ((fA (zA1 S x)) (6 * x + 3)))))])), ((a 4), .inl (X.2.1.2.2.1, 8, .inl (cO (zDrR (zA1 S x) ((fA (zA1 S x)) (6 * x + 3)))))), ((a 5), .inl (X.2.1.2.2.1, 96, .inl (bS (zDrR (zA1 S x) ((fA (zA1 S x)) (6 * x + 3)))))), ((a 6), .inr (0, [.ref (a 7), .int (nI (mK (zDrR (zA1 S x) ((fA (zA1 S x)) (6 * x + 3)))))])), ((a 7), .inl (X.2.1.2.2.1, 360, .inl (fA (zDrR (zA1 S x) ((fA (zA1 S x)) (6 * x + 3))))))]) C kX4_dropLine gX4_acceptAlone_X4_dropLine (mX4_dropLine_r X.2.1 a (zA1 S x) ((fA (zA1 S x)) (6 * x + 3)) q_4) dX4_acceptAlone_71 [0, 1, 2, 3, 4, 5, 6, 7] [] 0 rfl rfl nd_0_1_2_3_4_5_6_7 rfl rfl rfl (by decide) (by decide) (Nat.le_of_ble_eq_true rfl) rfl rfl ?_
    refine z_goto C 104 dX4_acceptAlone_74 (by decide) ?_
    exact z_vret C N dX4_acceptAlone_104 (by rw [show zAA S x = zDrR (zA1 S x) (fA (zA1 S x) (6 * x + 3)) by simp [zAA, nI_eq, hs_5]] <;> rfl)
  by_cases hs_6 : (fA (zA1 S x)) (6 * x) = nI 2
  · refine z_tsAt C 2 104 dX4_acceptAlone_39 (by rw [hs_6]; decide) (by decide) rfl (by decide) ?_
    exact z_vret C N dX4_acceptAlone_104 (by rw [show zAA S x = zA1 S x by simp [zAA, nI_eq, hs_5, hs_6]] <;> rfl)
  by_cases hs_7 : (fA (zA1 S x)) (6 * x) = nI 3
  · refine z_tsAt C 3 77 dX4_acceptAlone_39 (by rw [hs_7]; decide) (by decide) rfl (by decide) ?_
    refine z_aload_n C 0 dX4_acceptAlone_77 rfl rfl ?_
    refine z_iconst C (nI 1) dX4_acceptAlone_78 (by decide) ?_
    refine z_iload_n C 3 dX4_acceptAlone_79 rfl rfl ?_
    refine z_callVv (wn := [((a 0), .inr (4, [.ref (a 1), .ref (a 3), .ref (a 5), .ref (a 6), .int (zb (tK (zDrC (zA1 S x) ((fA (zA1 S x)) (6 * x + 4)))))])), ((a 1), .inr (2, [.ref (a 2), .int (nI (rU (zDrC (zA1 S x) ((fA (zA1 S x)) (6 * x + 4)))))])), ((a 2), .inl (X.2.1.2.2.1, 12, .inl (rO (zDrC (zA1 S x) ((fA (zA1 S x)) (6 * x + 4)))))), ((a 3), .inr (2, [.ref (a 4), .int (nI (cU (zDrC (zA1 S x) ((fA (zA1 S x)) (6 * x + 4)))))])), ((a 4), .inl (X.2.1.2.2.1, 8, .inl (cO (zDrC (zA1 S x) ((fA (zA1 S x)) (6 * x + 4)))))), ((a 5), .inl (X.2.1.2.2.1, 96, .inl (bS (zDrC (zA1 S x) ((fA (zA1 S x)) (6 * x + 4)))))), ((a 6), .inr (0, [.ref (a 7), .int (nI (mK (zDrC (zA1 S x) ((fA (zA1 S x)) (6 * x + 4)))))])), ((a 7), .inl (X.2.1.2.2.1, 360, .inl (fA (zDrC (zA1 S x) ((fA (zA1 S x)) (6 * x + 4))))))]) C kX4_dropLine gX4_acceptAlone_X4_dropLine (mX4_dropLine_c X.2.1 a (zA1 S x) ((fA (zA1 S x)) (6 * x + 4)) q_4) dX4_acceptAlone_80 [0, 1, 2, 3, 4, 5, 6, 7] [] 0 rfl rfl nd_0_1_2_3_4_5_6_7 rfl rfl rfl (by decide) (by decide) (Nat.le_of_ble_eq_true rfl) rfl rfl ?_
    refine z_goto C 104 dX4_acceptAlone_83 (by decide) ?_
    exact z_vret C N dX4_acceptAlone_104 (by rw [show zAA S x = zDrC (zA1 S x) (fA (zA1 S x) (6 * x + 4)) by simp [zAA, nI_eq, hs_5, hs_6, hs_7]] <;> rfl)
  by_cases hs_8 : (fA (zA1 S x)) (6 * x) = nI 4
  · refine z_tsAt C 4 86 dX4_acceptAlone_39 (by rw [hs_8]; decide) (by decide) rfl (by decide) ?_
    refine z_aload_n C 0 dX4_acceptAlone_86 rfl rfl ?_
    refine z_iload_n C 2 dX4_acceptAlone_87 rfl rfl ?_
    refine z_iload_n C 3 dX4_acceptAlone_88 rfl rfl ?_
    refine z_aload_n C 0 dX4_acceptAlone_89 rfl rfl ?_
    refine z_get C fX4_acceptAlone_30 0 dX4_acceptAlone_90 rfl rfl ?_
    refine z_iload_n C 1 dX4_acceptAlone_93 rfl rfl ?_
    refine z_iconst C (nI 5) dX4_acceptAlone_94 (by decide) ?_
    refine z_callVr C kX0_fact gX4_acceptAlone_X0_fact (mX0_fact X.2.1 (a 6) (a 7) (fA (zA1 S x)) (mK (zA1 S x)) x 5 (by first | assumption | omega) (by first | assumption | omega) (by first | assumption | omega)) dX4_acceptAlone_95 [6, 7] [.int ((fA (zA1 S x)) (6 * x + 4)), .int ((fA (zA1 S x)) (6 * x + 3)), .ref (a 0)] 6 rfl nd_6_7 rfl rfl rfl (by decide) (by decide) (Nat.le_of_ble_eq_true rfl) rfl ?_
    refine z_callVv (wn := [((a 0), .inr (4, [.ref (a 1), .ref (a 3), .ref (a 5), .ref (a 6), .int (zb (tK (zA1 S x)))])), ((a 1), .inr (2, [.ref (a 2), .int (nI (rU (zA1 S x)))])), ((a 2), .inl (X.2.1.2.2.1, 12, .inl (rO (zA1 S x)))), ((a 3), .inr (2, [.ref (a 4), .int (nI (cU (zA1 S x)))])), ((a 4), .inl (X.2.1.2.2.1, 8, .inl (cO (zA1 S x)))), ((a 5), .inl (X.2.1.2.2.1, 96, .inl (zPb (bS (zA1 S x)) ((fA (zA1 S x)) (6 * x + 3)) ((fA (zA1 S x)) (6 * x + 4)) ((fA (zA1 S x)) (6 * x + 5))))), ((a 6), .inr (0, [.ref (a 7), .int (nI (mK (zA1 S x)))])), ((a 7), .inl (X.2.1.2.2.1, 360, .inl (fA (zA1 S x))))]) C kX4_putBase gX4_acceptAlone_X4_putBase (mX4_putBase X.2.1 a (rO (zA1 S x)) (rU (zA1 S x)) (cO (zA1 S x)) (cU (zA1 S x)) (bS (zA1 S x)) (fA (zA1 S x)) (mK (zA1 S x)) (tK (zA1 S x)) ((fA (zA1 S x)) (6 * x + 3)) ((fA (zA1 S x)) (6 * x + 4)) ((fA (zA1 S x)) (6 * x + 5)) (by first | assumption | omega) (by first | assumption | omega) (by first | assumption | omega)) dX4_acceptAlone_98 [0, 1, 2, 3, 4, 5, 6, 7] [] 0 rfl rfl nd_0_1_2_3_4_5_6_7 rfl rfl rfl (by decide) (by decide) (Nat.le_of_ble_eq_true rfl) rfl rfl ?_
    refine z_goto C 104 dX4_acceptAlone_101 (by decide) ?_
    exact z_vret C N dX4_acceptAlone_104 (by rw [show zAA S x = zBs (zA1 S x) (zPb (bS S) (fA (zA1 S x) (6 * x + 3)) (fA (zA1 S x) (6 * x + 4)) (fA (zA1 S x) (6 * x + 5))) by simp [zAA, nI_eq, hs_5, hs_6, hs_7, hs_8]] <;> rfl)
  refine z_tsOut C 104 dX4_acceptAlone_39 (by have e1 := z_neN (c := 1) (by decide) hs_5; have e2 := z_neN (c := 2) (by decide) hs_6; have e3 := z_neN (c := 3) (by decide) hs_7; have e4 := z_neN (c := 4) (by decide) hs_8; omega) (by decide) ?_
  exact z_vret C N dX4_acceptAlone_104 (by rw [show zAA S x = zA1 S x by simp [zAA, nI_eq, hs_5, hs_6, hs_7, hs_8]] <;> rfl)

theorem kX4_acceptWhole : zY yX4_acceptWhole wsX4_acceptWhole cX4_acceptWhole 4 (some .int) 1 := ⟨⟨_, rfl⟩, ⟨by decide +kernel, by decide +kernel, by decide +kernel⟩, by decide +kernel⟩
theorem fX4_acceptWhole_30 : zF wsX4_acceptWhole RX4 30 4 3 RX4 TX4 5 := ⟨by decide +kernel, rfl, by decide, by decide +kernel, rfl⟩
theorem fX4_acceptWhole_128 : zF wsX4_acceptWhole RX4 128 0 1 RX0 TX0 2 := ⟨by decide +kernel, rfl, by decide, by decide +kernel, rfl⟩
set_option maxHeartbeats 4000000 in
set_option maxRecDepth 100000 in
theorem mX4_acceptWhole (E : zE) (a : Nat → Nat) (S : zSt) (x : Nat) (hS : okS S) (hx : x < mK S) : zM E yX4_acceptWhole wsX4_acceptWhole 6 [.ref (a 0), .int (nI x)] [((a 0), .inr (4, [.ref (a 1), .ref (a 3), .ref (a 5), .ref (a 6), .int (zb (tK S))])), ((a 1), .inr (2, [.ref (a 2), .int (nI (rU S))])), ((a 2), .inl (E.2.2.1, 12, .inl (rO S))), ((a 3), .inr (2, [.ref (a 4), .int (nI (cU S))])), ((a 4), .inl (E.2.2.1, 8, .inl (cO S))), ((a 5), .inl (E.2.2.1, 96, .inl (bS S))), ((a 6), .inr (0, [.ref (a 7), .int (nI (mK S))])), ((a 7), .inl (E.2.2.1, 360, .inl (fA S)))] [((a 0), .inr (4, [.ref (a 1), .ref (a 3), .ref (a 5), .ref (a 6), .int (zb (tK (zAW S x)))])), ((a 1), .inr (2, [.ref (a 2), .int (nI (rU (zAW S x)))])), ((a 2), .inl (E.2.2.1, 12, .inl (rO (zAW S x)))), ((a 3), .inr (2, [.ref (a 4), .int (nI (cU (zAW S x)))])), ((a 4), .inl (E.2.2.1, 8, .inl (cO (zAW S x)))), ((a 5), .inl (E.2.2.1, 96, .inl (bS (zAW S x)))), ((a 6), .inr (0, [.ref (a 7), .int (nI (mK (zAW S x)))])), ((a 7), .inl (E.2.2.1, 360, .inl (fA (zAW S x))))] (some (.int (nI (zAWn S x)))) := by
  refine zM.of kX4_acceptWhole (Nat.le_of_ble_eq_true rfl) rfl [some (.ref (a 0)), some (.int (nI x)), none, none] rfl (Nat.le_of_ble_eq_true rfl) ?_
  intro X eX C N
  subst eX
  obtain ⟨hur, huc, hM⟩ := id hS
  refine z_iconst C (nI 0) dX4_acceptWhole_0 (by decide) ?_
  refine z_istore_n C 2 dX4_acceptWhole_1 rfl (Nat.le_of_ble_eq_true rfl) ?_
  refine z_iconst C (nI 0) dX4_acceptWhole_2 (by decide) ?_
  refine z_istore_n C 3 dX4_acceptWhole_3 rfl (Nat.le_of_ble_eq_true rfl) ?_
  have hL4 : ∀ (dd : Nat) (k : Nat) (S' : zSt) (n9 : Nat), mK S - k = dd → (k ≤ mK S) → (S' = (zAL S x k).1) → (n9 = (zAL S x k).2) → (okS S') → (mK S' = mK S) → (n9 ≤ k) → zG X 0 0 [((a 0), .inr (4, [.ref (a 1), .ref (a 3), .ref (a 5), .ref (a 6), .int (zb (tK S'))])), ((a 1), .inr (2, [.ref (a 2), .int (nI (rU S'))])), ((a 2), .inl (X.2.1.2.2.1, 12, .inl (rO S'))), ((a 3), .inr (2, [.ref (a 4), .int (nI (cU S'))])), ((a 4), .inl (X.2.1.2.2.1, 8, .inl (cO S'))), ((a 5), .inl (X.2.1.2.2.1, 96, .inl (bS S'))), ((a 6), .inr (0, [.ref (a 7), .int (nI (mK S'))])), ((a 7), .inl (X.2.1.2.2.1, 360, .inl (fA S')))] [some (.ref (a 0)), some (.int (nI x)), some (.int (nI n9)), some (.int (nI k))] [] 4 := by
    intro dd
    induction dd using Nat.strongRecOn with
    | _ dd ih4 =>
    intro k S' n9 hdd hk hS' hn hok hmk hnb
    obtain ⟨hur2, huc2, hM2⟩ := id hok
    refine z_iload_n C 3 dX4_acceptWhole_4 rfl rfl ?_
    refine z_aload_n C 0 dX4_acceptWhole_5 rfl rfl ?_
    refine z_get C fX4_acceptWhole_30 0 dX4_acceptWhole_6 rfl rfl ?_
    refine z_get C fX4_acceptWhole_128 6 dX4_acceptWhole_9 rfl rfl ?_
    refine z_ncmp_ge C 41 dX4_acceptWhole_12 (by decide) (by omega) (by omega) (fun h_1 => ?_) (fun h_1 => ?_)
    · refine z_aload_n C 0 dX4_acceptWhole_41 rfl rfl ?_
      refine z_iload_n C 1 dX4_acceptWhole_42 rfl rfl ?_
      refine z_callVv (wn := [((a 0), .inr (4, [.ref (a 1), .ref (a 3), .ref (a 5), .ref (a 6), .int (zb (tK (zAA S' x)))])), ((a 1), .inr (2, [.ref (a 2), .int (nI (rU (zAA S' x)))])), ((a 2), .inl (X.2.1.2.2.1, 12, .inl (rO (zAA S' x)))), ((a 3), .inr (2, [.ref (a 4), .int (nI (cU (zAA S' x)))])), ((a 4), .inl (X.2.1.2.2.1, 8, .inl (cO (zAA S' x)))), ((a 5), .inl (X.2.1.2.2.1, 96, .inl (bS (zAA S' x)))), ((a 6), .inr (0, [.ref (a 7), .int (nI (mK (zAA S' x)))])), ((a 7), .inl (X.2.1.2.2.1, 360, .inl (fA (zAA S' x))))]) C kX4_acceptAlone gX4_acceptWhole_X4_acceptAlone (mX4_acceptAlone X.2.1 a S' x hok (by first | assumption | omega)) dX4_acceptWhole_43 [0, 1, 2, 3, 4, 5, 6, 7] [] 0 rfl rfl nd_0_1_2_3_4_5_6_7 rfl rfl rfl (by decide) (by decide) (Nat.le_of_ble_eq_true rfl) rfl rfl ?_
      refine z_iload_n C 2 dX4_acceptWhole_46 rfl rfl ?_
      refine z_iconst C (nI 1) dX4_acceptWhole_47 (by decide) ?_
      refine z_iadd C dX4_acceptWhole_48 ?_
      refine z_top (y := nI (n9 + 1)) (nI_add _ _) ?_
      exact z_iret C N dX4_acceptWhole_49 (by rw [show S' = (zAL S x (mK S)).1 by rw [hS', show k = mK S by omega]] <;> rfl) (by rw [hn, show k = mK S by omega]; rfl)
    · refine z_aload_n C 0 dX4_acceptWhole_15 rfl rfl ?_
      refine z_get C fX4_acceptWhole_30 0 dX4_acceptWhole_16 rfl rfl ?_
      refine z_iload_n C 1 dX4_acceptWhole_19 rfl rfl ?_
      refine z_iload_n C 3 dX4_acceptWhole_20 rfl rfl ?_
      refine z_callVr C kX0_rests gX4_acceptWhole_X0_rests (mX0_rests X.2.1 (a 6) (a 7) (fA S') (mK S') x k hM2 (by first | assumption | omega) h_1) dX4_acceptWhole_21 [6, 7] [] 6 rfl nd_6_7 rfl rfl rfl (by decide) (by decide) (Nat.le_of_ble_eq_true rfl) rfl ?_
      refine z_bif_eq C 35 dX4_acceptWhole_24 (by decide) (fun h_2 => ?_) (fun h_2 => ?_)
      · refine z_iinc C (nI (k + 1)) dX4_acceptWhole_35 rfl (zi_1 _) ?_
        refine z_goto C 4 dX4_acceptWhole_38 (by decide) ?_
        exact ih4 (mK S - (k + 1)) (by omega) (k + 1) S' n9 rfl (by omega) (by subst hS' hn; simp [zAL, h_1, h_2]) (by subst hS' hn; simp [zAL, h_1, h_2]) (hok) (hmk) (by omega)
      · refine z_aload_n C 0 dX4_acceptWhole_27 rfl rfl ?_
        refine z_iload_n C 3 dX4_acceptWhole_28 rfl rfl ?_
        refine z_callVv (wn := [((a 0), .inr (4, [.ref (a 1), .ref (a 3), .ref (a 5), .ref (a 6), .int (zb (tK (zAA S' k)))])), ((a 1), .inr (2, [.ref (a 2), .int (nI (rU (zAA S' k)))])), ((a 2), .inl (X.2.1.2.2.1, 12, .inl (rO (zAA S' k)))), ((a 3), .inr (2, [.ref (a 4), .int (nI (cU (zAA S' k)))])), ((a 4), .inl (X.2.1.2.2.1, 8, .inl (cO (zAA S' k)))), ((a 5), .inl (X.2.1.2.2.1, 96, .inl (bS (zAA S' k)))), ((a 6), .inr (0, [.ref (a 7), .int (nI (mK (zAA S' k)))])), ((a 7), .inl (X.2.1.2.2.1, 360, .inl (fA (zAA S' k))))]) C kX4_acceptAlone gX4_acceptWhole_X4_acceptAlone (mX4_acceptAlone X.2.1 a S' k hok h_1) dX4_acceptWhole_29 [0, 1, 2, 3, 4, 5, 6, 7] [] 0 rfl rfl nd_0_1_2_3_4_5_6_7 rfl rfl rfl (by decide) (by decide) (Nat.le_of_ble_eq_true rfl) rfl rfl ?_
        refine z_iinc C (nI (n9 + 1)) dX4_acceptWhole_32 rfl (zi_1 _) ?_
        refine z_iinc C (nI (k + 1)) dX4_acceptWhole_35 rfl (zi_1 _) ?_
        refine z_goto C 4 dX4_acceptWhole_38 (by decide) ?_
        exact ih4 (mK S - (k + 1)) (by omega) (k + 1) (zAA S' k) (n9 + 1) rfl (by omega) (by subst hS' hn; simp [zAL, h_1, h_2]) (by subst hS' hn; simp [zAL, h_1, h_2]) (okS_AA hok) ((mK_AA _ _).trans hmk) (by omega)
  exact hL4 _ 0 S 0 rfl (by omega) (rfl) (rfl) (hS) (rfl) (by omega)

theorem kX4_rejectWhole : zY yX4_rejectWhole wsX4_rejectWhole cX4_rejectWhole 4 (some .int) 1 := ⟨⟨_, rfl⟩, ⟨by decide +kernel, by decide +kernel, by decide +kernel⟩, by decide +kernel⟩
theorem fX4_rejectWhole_30 : zF wsX4_rejectWhole RX4 30 4 3 RX4 TX4 5 := ⟨by decide +kernel, rfl, by decide, by decide +kernel, rfl⟩
theorem fX4_rejectWhole_128 : zF wsX4_rejectWhole RX4 128 0 1 RX0 TX0 2 := ⟨by decide +kernel, rfl, by decide, by decide +kernel, rfl⟩
set_option maxHeartbeats 4000000 in
set_option maxRecDepth 100000 in
theorem mX4_rejectWhole (E : zE) (a : Nat → Nat) (S : zSt) (x : Nat) (hS : okS S) (hx : x < mK S) : zM E yX4_rejectWhole wsX4_rejectWhole 5 [.ref (a 0), .int (nI x)] [((a 0), .inr (4, [.ref (a 1), .ref (a 3), .ref (a 5), .ref (a 6), .int (zb (tK S))])), ((a 1), .inr (2, [.ref (a 2), .int (nI (rU S))])), ((a 2), .inl (E.2.2.1, 12, .inl (rO S))), ((a 3), .inr (2, [.ref (a 4), .int (nI (cU S))])), ((a 4), .inl (E.2.2.1, 8, .inl (cO S))), ((a 5), .inl (E.2.2.1, 96, .inl (bS S))), ((a 6), .inr (0, [.ref (a 7), .int (nI (mK S))])), ((a 7), .inl (E.2.2.1, 360, .inl (fA S)))] [((a 0), .inr (4, [.ref (a 1), .ref (a 3), .ref (a 5), .ref (a 6), .int (zb (tK (zRW S x)))])), ((a 1), .inr (2, [.ref (a 2), .int (nI (rU (zRW S x)))])), ((a 2), .inl (E.2.2.1, 12, .inl (rO (zRW S x)))), ((a 3), .inr (2, [.ref (a 4), .int (nI (cU (zRW S x)))])), ((a 4), .inl (E.2.2.1, 8, .inl (cO (zRW S x)))), ((a 5), .inl (E.2.2.1, 96, .inl (bS (zRW S x)))), ((a 6), .inr (0, [.ref (a 7), .int (nI (mK (zRW S x)))])), ((a 7), .inl (E.2.2.1, 360, .inl (fA (zRW S x))))] (some (.int (nI (zRWn S x)))) := by
  refine zM.of kX4_rejectWhole (Nat.le_of_ble_eq_true rfl) rfl [some (.ref (a 0)), some (.int (nI x)), none, none] rfl (Nat.le_of_ble_eq_true rfl) ?_
  intro X eX C N
  subst eX
  obtain ⟨hur, huc, hM⟩ := id hS
  refine z_iconst C (nI 0) dX4_rejectWhole_0 (by decide) ?_
  refine z_istore_n C 2 dX4_rejectWhole_1 rfl (Nat.le_of_ble_eq_true rfl) ?_
  refine z_iconst C (nI 0) dX4_rejectWhole_2 (by decide) ?_
  refine z_istore_n C 3 dX4_rejectWhole_3 rfl (Nat.le_of_ble_eq_true rfl) ?_
  have hL4 : ∀ (dd : Nat) (k : Nat) (g' : Nat → Int32) (n9 : Nat), mK S - k = dd → (k ≤ mK S) → (g' = zMk (fA S) (fun j => zrs (fA S) j x) (nI 2) k) → (n9 = zc (fun j => zrs (fA S) j x) k) → (n9 ≤ k) → zG X 0 0 [((a 0), .inr (4, [.ref (a 1), .ref (a 3), .ref (a 5), .ref (a 6), .int (zb (tK S))])), ((a 1), .inr (2, [.ref (a 2), .int (nI (rU S))])), ((a 2), .inl (X.2.1.2.2.1, 12, .inl (rO S))), ((a 3), .inr (2, [.ref (a 4), .int (nI (cU S))])), ((a 4), .inl (X.2.1.2.2.1, 8, .inl (cO S))), ((a 5), .inl (X.2.1.2.2.1, 96, .inl (bS S))), ((a 6), .inr (0, [.ref (a 7), .int (nI (mK S))])), ((a 7), .inl (X.2.1.2.2.1, 360, .inl g'))] [some (.ref (a 0)), some (.int (nI x)), some (.int (nI n9)), some (.int (nI k))] [] 4 := by
    intro dd
    induction dd using Nat.strongRecOn with
    | _ dd ih4 =>
    intro k g' n9 hdd hk hg hn hnb
    refine z_iload_n C 3 dX4_rejectWhole_4 rfl rfl ?_
    refine z_aload_n C 0 dX4_rejectWhole_5 rfl rfl ?_
    refine z_get C fX4_rejectWhole_30 0 dX4_rejectWhole_6 rfl rfl ?_
    refine z_get C fX4_rejectWhole_128 6 dX4_rejectWhole_9 rfl rfl ?_
    refine z_ncmp_ge C 46 dX4_rejectWhole_12 (by decide) (by omega) (by omega) (fun h_1 => ?_) (fun h_1 => ?_)
    · refine z_aload_n C 0 dX4_rejectWhole_46 rfl rfl ?_
      refine z_get C fX4_rejectWhole_30 0 dX4_rejectWhole_47 rfl rfl ?_
      refine z_iload_n C 1 dX4_rejectWhole_50 rfl rfl ?_
      refine z_iconst C (nI 2) dX4_rejectWhole_51 (by decide) ?_
      refine z_iconst C (nI 2) dX4_rejectWhole_52 (by decide) ?_
      refine z_callVv (wn := [((a 0), .inr (4, [.ref (a 1), .ref (a 3), .ref (a 5), .ref (a 6), .int (zb (tK S))])), ((a 1), .inr (2, [.ref (a 2), .int (nI (rU S))])), ((a 2), .inl (X.2.1.2.2.1, 12, .inl (rO S))), ((a 3), .inr (2, [.ref (a 4), .int (nI (cU S))])), ((a 4), .inl (X.2.1.2.2.1, 8, .inl (cO S))), ((a 5), .inl (X.2.1.2.2.1, 96, .inl (bS S))), ((a 6), .inr (0, [.ref (a 7), .int (nI (mK S))])), ((a 7), .inl (X.2.1.2.2.1, 360, .inl (upd g' (6 * x + 2) (nI 2))))]) C kX0_put gX4_rejectWhole_X0_put (mX0_put X.2.1 (a 6) (a 7) g' (mK S) x 2 (nI 2) hM hx (by first | assumption | omega)) dX4_rejectWhole_53 [6, 7] [] 6 rfl rfl nd_6_7 rfl rfl rfl (by decide) (by decide) (Nat.le_of_ble_eq_true rfl) rfl rfl ?_
      refine z_cv (ws' := [((a 0), .inr (4, [.ref (a 1), .ref (a 3), .ref (a 5), .ref (a 6), .int (zb (tK (zR1 S x)))])), ((a 1), .inr (2, [.ref (a 2), .int (nI (rU (zR1 S x)))])), ((a 2), .inl (X.2.1.2.2.1, 12, .inl (rO (zR1 S x)))), ((a 3), .inr (2, [.ref (a 4), .int (nI (cU (zR1 S x)))])), ((a 4), .inl (X.2.1.2.2.1, 8, .inl (cO (zR1 S x)))), ((a 5), .inl (X.2.1.2.2.1, 96, .inl (bS (zR1 S x)))), ((a 6), .inr (0, [.ref (a 7), .int (nI (mK (zR1 S x)))])), ((a 7), .inl (X.2.1.2.2.1, 360, .inl (fA (zR1 S x))))]) (by rw [hg, show k = mK S by omega] <;> rfl) rfl rfl ?_
      have q_2 : rU (zR1 S x) = rU S := rfl
      have q_3 : cU (zR1 S x) = cU S := rfl
      have q_4 : mK (zR1 S x) = mK S := rfl
      have q_5 : okS (zR1 S x) := hS
      refine z_aload_n C 0 dX4_rejectWhole_56 rfl rfl ?_
      refine z_get C fX4_rejectWhole_30 0 dX4_rejectWhole_57 rfl rfl ?_
      refine z_iload_n C 1 dX4_rejectWhole_60 rfl rfl ?_
      refine z_iconst C (nI 0) dX4_rejectWhole_61 (by decide) ?_
      refine z_callVr C kX0_fact gX4_rejectWhole_X0_fact (mX0_fact X.2.1 (a 6) (a 7) (fA (zR1 S x)) (mK (zR1 S x)) x 0 (by first | assumption | omega) (by first | assumption | omega) (by first | assumption | omega)) dX4_rejectWhole_62 [6, 7] [] 6 rfl nd_6_7 rfl rfl rfl (by decide) (by decide) (Nat.le_of_ble_eq_true rfl) rfl ?_
      refine z_top (y := (fA (zR1 S x)) (6 * x)) rfl ?_
      refine z_istore_n C 3 dX4_rejectWhole_65 rfl (Nat.le_of_ble_eq_true rfl) ?_
      refine z_iload_n C 3 dX4_rejectWhole_66 rfl rfl ?_
      refine z_if_ne C 87 dX4_rejectWhole_67 (by decide) (fun h_6 => ?_) (fun h_6 => ?_)
      · refine z_iload_n C 3 dX4_rejectWhole_87 rfl rfl ?_
        refine z_iconst C (nI 2) dX4_rejectWhole_88 (by decide) ?_
        refine z_icmp_ne C 106 dX4_rejectWhole_89 (by decide) (fun h_7 => ?_) (fun h_7 => ?_)
        · refine z_iload_n C 2 dX4_rejectWhole_106 rfl rfl ?_
          refine z_iconst C (nI 1) dX4_rejectWhole_107 (by decide) ?_
          refine z_iadd C dX4_rejectWhole_108 ?_
          refine z_top (y := nI (n9 + 1)) (nI_add _ _) ?_
          exact z_iret C N dX4_rejectWhole_109 (by rw [show zRW S x = zR1 S x by simp [zRW, nI_eq, zz_0, h_1, h_6, h_7]] <;> rfl) (by rw [hn, show k = mK S by omega]; rfl)
        · refine z_aload_n C 0 dX4_rejectWhole_92 rfl rfl ?_
          refine z_iconst C (nI 1) dX4_rejectWhole_93 (by decide) ?_
          refine z_aload_n C 0 dX4_rejectWhole_94 rfl rfl ?_
          refine z_get C fX4_rejectWhole_30 0 dX4_rejectWhole_95 rfl rfl ?_
          refine z_iload_n C 1 dX4_rejectWhole_98 rfl rfl ?_
          refine z_iconst C (nI 4) dX4_rejectWhole_99 (by decide) ?_
          refine z_callVr C kX0_fact gX4_rejectWhole_X0_fact (mX0_fact X.2.1 (a 6) (a 7) (fA (zR1 S x)) (mK (zR1 S x)) x 4 (by first | assumption | omega) (by first | assumption | omega) (by first | assumption | omega)) dX4_rejectWhole_100 [6, 7] [.int (nI 1), .ref (a 0)] 6 rfl nd_6_7 rfl rfl rfl (by decide) (by decide) (Nat.le_of_ble_eq_true rfl) rfl ?_
          refine z_callVv (wn := [((a 0), .inr (4, [.ref (a 1), .ref (a 3), .ref (a 5), .ref (a 6), .int (zb (tK (zDrC (zR1 S x) ((fA (zR1 S x)) (6 * x + 4)))))])), ((a 1), .inr (2, [.ref (a 2), .int (nI (rU (zDrC (zR1 S x) ((fA (zR1 S x)) (6 * x + 4)))))])), ((a 2), .inl (X.2.1.2.2.1, 12, .inl (rO (zDrC (zR1 S x) ((fA (zR1 S x)) (6 * x + 4)))))), ((a 3), .inr (2, [.ref (a 4), .int (nI (cU (zDrC (zR1 S x) ((fA (zR1 S x)) (6 * x + 4)))))])), ((a 4), .inl (X.2.1.2.2.1, 8, .inl (cO (zDrC (zR1 S x) ((fA (zR1 S x)) (6 * x + 4)))))), ((a 5), .inl (X.2.1.2.2.1, 96, .inl (bS (zDrC (zR1 S x) ((fA (zR1 S x)) (6 * x + 4)))))), ((a 6), .inr (0, [.ref (a 7), .int (nI (mK (zDrC (zR1 S x) ((fA (zR1 S x)) (6 * x + 4)))))])), ((a 7), .inl (X.2.1.2.2.1, 360, .inl (fA (zDrC (zR1 S x) ((fA (zR1 S x)) (6 * x + 4))))))]) C kX4_dropLine gX4_rejectWhole_X4_dropLine (mX4_dropLine_c X.2.1 a (zR1 S x) ((fA (zR1 S x)) (6 * x + 4)) q_5) dX4_rejectWhole_103 [0, 1, 2, 3, 4, 5, 6, 7] [] 0 rfl rfl nd_0_1_2_3_4_5_6_7 rfl rfl rfl (by decide) (by decide) (Nat.le_of_ble_eq_true rfl) rfl rfl ?_
          refine z_iload_n C 2 dX4_rejectWhole_106 rfl rfl ?_
          refine z_iconst C (nI 1) dX4_rejectWhole_107 (by decide) ?_
          refine z_iadd C dX4_rejectWhole_108 ?_
          refine z_top (y := nI (n9 + 1)) (nI_add _ _) ?_
          exact z_iret C N dX4_rejectWhole_109 (by rw [show zRW S x = zDrC (zR1 S x) (fA (zR1 S x) (6 * x + 4)) by simp [zRW, nI_eq, zz_0, h_1, h_6, h_7]] <;> rfl) (by rw [hn, show k = mK S by omega]; rfl)
      · refine z_aload_n C 0 dX4_rejectWhole_70 rfl rfl ?_
        refine z_iconst C (nI 0) dX4_rejectWhole_71 (by decide) ?_
        refine z_aload_n C 0 dX4_rejectWhole_72 rfl rfl ?_
        refine z_get C fX4_rejectWhole_30 0 dX4_rejectWhole_73 rfl rfl ?_
        refine z_iload_n C 1 dX4_rejectWhole_76 rfl rfl ?_
        refine z_iconst C (nI 3) dX4_rejectWhole_77 (by decide) ?_
        refine z_callVr C kX0_fact gX4_rejectWhole_X0_fact (mX0_fact X.2.1 (a 6) (a 7) (fA (zR1 S x)) (mK (zR1 S x)) x 3 (by first | assumption | omega) (by first | assumption | omega) (by first | assumption | omega)) dX4_rejectWhole_78 [6, 7] [.int (nI 0), .ref (a 0)] 6 rfl nd_6_7 rfl rfl rfl (by decide) (by decide) (Nat.le_of_ble_eq_true rfl) rfl ?_
        refine z_callVv (wn := [((a 0), .inr (4, [.ref (a 1), .ref (a 3), .ref (a 5), .ref (a 6), .int (zb (tK (zDrR (zR1 S x) ((fA (zR1 S x)) (6 * x + 3)))))])), ((a 1), .inr (2, [.ref (a 2), .int (nI (rU (zDrR (zR1 S x) ((fA (zR1 S x)) (6 * x + 3)))))])), ((a 2), .inl (X.2.1.2.2.1, 12, .inl (rO (zDrR (zR1 S x) ((fA (zR1 S x)) (6 * x + 3)))))), ((a 3), .inr (2, [.ref (a 4), .int (nI (cU (zDrR (zR1 S x) ((fA (zR1 S x)) (6 * x + 3)))))])), ((a 4), .inl (X.2.1.2.2.1, 8, .inl (cO (zDrR (zR1 S x) ((fA (zR1 S x)) (6 * x + 3)))))), ((a 5), .inl (X.2.1.2.2.1, 96, .inl (bS (zDrR (zR1 S x) ((fA (zR1 S x)) (6 * x + 3)))))), ((a 6), .inr (0, [.ref (a 7), .int (nI (mK (zDrR (zR1 S x) ((fA (zR1 S x)) (6 * x + 3)))))])), ((a 7), .inl (X.2.1.2.2.1, 360, .inl (fA (zDrR (zR1 S x) ((fA (zR1 S x)) (6 * x + 3))))))]) C kX4_dropLine gX4_rejectWhole_X4_dropLine (mX4_dropLine_r X.2.1 a (zR1 S x) ((fA (zR1 S x)) (6 * x + 3)) q_5) dX4_rejectWhole_81 [0, 1, 2, 3, 4, 5, 6, 7] [] 0 rfl rfl nd_0_1_2_3_4_5_6_7 rfl rfl rfl (by decide) (by decide) (Nat.le_of_ble_eq_true rfl) rfl rfl ?_
        refine z_goto C 106 dX4_rejectWhole_84 (by decide) ?_
        refine z_iload_n C 2 dX4_rejectWhole_106 rfl rfl ?_
        refine z_iconst C (nI 1) dX4_rejectWhole_107 (by decide) ?_
        refine z_iadd C dX4_rejectWhole_108 ?_
        refine z_top (y := nI (n9 + 1)) (nI_add _ _) ?_
        exact z_iret C N dX4_rejectWhole_109 (by rw [show zRW S x = zDrR (zR1 S x) (fA (zR1 S x) (6 * x + 3)) by simp [zRW, nI_eq, zz_0, h_1, h_6]] <;> rfl) (by rw [hn, show k = mK S by omega]; rfl)
    · refine z_aload_n C 0 dX4_rejectWhole_15 rfl rfl ?_
      refine z_get C fX4_rejectWhole_30 0 dX4_rejectWhole_16 rfl rfl ?_
      refine z_iload_n C 3 dX4_rejectWhole_19 rfl rfl ?_
      refine z_iload_n C 1 dX4_rejectWhole_20 rfl rfl ?_
      refine z_callVr C kX0_rests gX4_rejectWhole_X0_rests (mX0_rests X.2.1 (a 6) (a 7) g' (mK S) k x hM h_1 hx) dX4_rejectWhole_21 [6, 7] [] 6 rfl nd_6_7 rfl rfl rfl (by decide) (by decide) (Nat.le_of_ble_eq_true rfl) rfl ?_
      refine z_bif_eq C 40 dX4_rejectWhole_24 (by decide) (fun h_8 => ?_) (fun h_8 => ?_)
      · refine z_iinc C (nI (k + 1)) dX4_rejectWhole_40 rfl (zi_1 _) ?_
        refine z_goto C 4 dX4_rejectWhole_43 (by decide) ?_
        exact ih4 (mK S - (k + 1)) (by omega) (k + 1) g' n9 rfl (by omega) (by rw [hg, zrs_mk (Nat.le_refl _)] at h_8; subst hg; first | exact (zMk_y (p := (fun j => zrs (fA S) j x)) h_8).symm | exact (zMk_n (p := (fun j => zrs (fA S) j x)) h_8).symm) (by rw [hg, zrs_mk (Nat.le_refl _)] at h_8; subst hn; first | exact (zc_y (p := (fun j => zrs (fA S) j x)) h_8).symm | exact (zc_n (p := (fun j => zrs (fA S) j x)) h_8).symm) (by omega)
      · refine z_aload_n C 0 dX4_rejectWhole_27 rfl rfl ?_
        refine z_get C fX4_rejectWhole_30 0 dX4_rejectWhole_28 rfl rfl ?_
        refine z_iload_n C 3 dX4_rejectWhole_31 rfl rfl ?_
        refine z_iconst C (nI 2) dX4_rejectWhole_32 (by decide) ?_
        refine z_iconst C (nI 2) dX4_rejectWhole_33 (by decide) ?_
        refine z_callVv (wn := [((a 0), .inr (4, [.ref (a 1), .ref (a 3), .ref (a 5), .ref (a 6), .int (zb (tK S))])), ((a 1), .inr (2, [.ref (a 2), .int (nI (rU S))])), ((a 2), .inl (X.2.1.2.2.1, 12, .inl (rO S))), ((a 3), .inr (2, [.ref (a 4), .int (nI (cU S))])), ((a 4), .inl (X.2.1.2.2.1, 8, .inl (cO S))), ((a 5), .inl (X.2.1.2.2.1, 96, .inl (bS S))), ((a 6), .inr (0, [.ref (a 7), .int (nI (mK S))])), ((a 7), .inl (X.2.1.2.2.1, 360, .inl (upd g' (6 * k + 2) (nI 2))))]) C kX0_put gX4_rejectWhole_X0_put (mX0_put X.2.1 (a 6) (a 7) g' (mK S) k 2 (nI 2) hM h_1 (by first | assumption | omega)) dX4_rejectWhole_34 [6, 7] [] 6 rfl rfl nd_6_7 rfl rfl rfl (by decide) (by decide) (Nat.le_of_ble_eq_true rfl) rfl rfl ?_
        refine z_iinc C (nI (n9 + 1)) dX4_rejectWhole_37 rfl (zi_1 _) ?_
        refine z_iinc C (nI (k + 1)) dX4_rejectWhole_40 rfl (zi_1 _) ?_
        refine z_goto C 4 dX4_rejectWhole_43 (by decide) ?_
        exact ih4 (mK S - (k + 1)) (by omega) (k + 1) (upd g' (6 * k + 2) (nI 2)) (n9 + 1) rfl (by omega) (by rw [hg, zrs_mk (Nat.le_refl _)] at h_8; subst hg; first | exact (zMk_y (p := (fun j => zrs (fA S) j x)) h_8).symm | exact (zMk_n (p := (fun j => zrs (fA S) j x)) h_8).symm) (by rw [hg, zrs_mk (Nat.le_refl _)] at h_8; subst hn; first | exact (zc_y (p := (fun j => zrs (fA S) j x)) h_8).symm | exact (zc_n (p := (fun j => zrs (fA S) j x)) h_8).symm) (by omega)
  exact hL4 _ 0 (fA S) 0 rfl (by omega) ((zMk_0 _ _ _).symm) (rfl) (by omega)

theorem kX4_settleAll : zY yX4_settleAll wsX4_settleAll cX4_settleAll 6 (some .int) 2 := ⟨⟨_, rfl⟩, ⟨by decide +kernel, by decide +kernel, by decide +kernel⟩, by decide +kernel⟩
theorem fX4_settleAll_30 : zF wsX4_settleAll RX4 30 4 3 RX4 TX4 5 := ⟨by decide +kernel, rfl, by decide, by decide +kernel, rfl⟩
theorem fX4_settleAll_128 : zF wsX4_settleAll RX4 128 0 1 RX0 TX0 2 := ⟨by decide +kernel, rfl, by decide, by decide +kernel, rfl⟩
set_option maxHeartbeats 4000000 in
set_option maxRecDepth 100000 in
theorem mX4_settleAll (E : zE) (a : Nat → Nat) (S : zSt) (au : Int32) (bb : Bool) (hS : okS S) : zM E yX4_settleAll wsX4_settleAll 7 [.ref (a 0), .int au, .int (zb bb)] [((a 0), .inr (4, [.ref (a 1), .ref (a 3), .ref (a 5), .ref (a 6), .int (zb (tK S))])), ((a 1), .inr (2, [.ref (a 2), .int (nI (rU S))])), ((a 2), .inl (E.2.2.1, 12, .inl (rO S))), ((a 3), .inr (2, [.ref (a 4), .int (nI (cU S))])), ((a 4), .inl (E.2.2.1, 8, .inl (cO S))), ((a 5), .inl (E.2.2.1, 96, .inl (bS S))), ((a 6), .inr (0, [.ref (a 7), .int (nI (mK S))])), ((a 7), .inl (E.2.2.1, 360, .inl (fA S)))] [((a 0), .inr (4, [.ref (a 1), .ref (a 3), .ref (a 5), .ref (a 6), .int (zb (tK ((zSL S au bb (mK S)).1)))])), ((a 1), .inr (2, [.ref (a 2), .int (nI (rU ((zSL S au bb (mK S)).1)))])), ((a 2), .inl (E.2.2.1, 12, .inl (rO ((zSL S au bb (mK S)).1)))), ((a 3), .inr (2, [.ref (a 4), .int (nI (cU ((zSL S au bb (mK S)).1)))])), ((a 4), .inl (E.2.2.1, 8, .inl (cO ((zSL S au bb (mK S)).1)))), ((a 5), .inl (E.2.2.1, 96, .inl (bS ((zSL S au bb (mK S)).1)))), ((a 6), .inr (0, [.ref (a 7), .int (nI (mK ((zSL S au bb (mK S)).1)))])), ((a 7), .inl (E.2.2.1, 360, .inl (fA ((zSL S au bb (mK S)).1))))] (some (.int (nI ((zSL S au bb (mK S)).2)))) := by
  refine zM.of kX4_settleAll (Nat.le_of_ble_eq_true rfl) rfl [some (.ref (a 0)), some (.int au), some (.int (zb bb)), none, none, none] rfl (Nat.le_of_ble_eq_true rfl) ?_
  intro X eX C N
  subst eX
  obtain ⟨hur, huc, hM⟩ := id hS
  refine z_iconst C (nI 0) dX4_settleAll_0 (by decide) ?_
  refine z_istore_n C 3 dX4_settleAll_1 rfl (Nat.le_of_ble_eq_true rfl) ?_
  refine z_iconst C (nI 0) dX4_settleAll_2 (by decide) ?_
  refine z_istore C dX4_settleAll_3 (Nat.le_of_ble_eq_true rfl) ?_
  have hL5 : ∀ (dd : Nat) (k : Nat) (S' : zSt) (n9 : Nat), mK S - k = dd → (k ≤ mK S) → (S' = (zSL S au bb k).1) → (n9 = (zSL S au bb k).2) → (okS S') → (mK S' = mK S) → (n9 ≤ k * 61) → zG X 0 0 [((a 0), .inr (4, [.ref (a 1), .ref (a 3), .ref (a 5), .ref (a 6), .int (zb (tK S'))])), ((a 1), .inr (2, [.ref (a 2), .int (nI (rU S'))])), ((a 2), .inl (X.2.1.2.2.1, 12, .inl (rO S'))), ((a 3), .inr (2, [.ref (a 4), .int (nI (cU S'))])), ((a 4), .inl (X.2.1.2.2.1, 8, .inl (cO S'))), ((a 5), .inl (X.2.1.2.2.1, 96, .inl (bS S'))), ((a 6), .inr (0, [.ref (a 7), .int (nI (mK S'))])), ((a 7), .inl (X.2.1.2.2.1, 360, .inl (fA S')))] [some (.ref (a 0)), some (.int au), some (.int (zb bb)), some (.int (nI n9)), some (.int (nI k)), none] [] 5 := by
    intro dd
    induction dd using Nat.strongRecOn with
    | _ dd ih5 =>
    intro k S' n9 hdd hk hS' hn hok hmk hnb
    obtain ⟨hur2, huc2, hM2⟩ := id hok
    refine z_iload C dX4_settleAll_5 rfl ?_
    refine z_aload_n C 0 dX4_settleAll_7 rfl rfl ?_
    refine z_get C fX4_settleAll_30 0 dX4_settleAll_8 rfl rfl ?_
    refine z_get C fX4_settleAll_128 6 dX4_settleAll_11 rfl rfl ?_
    refine z_ncmp_ge C 88 dX4_settleAll_14 (by decide) (by omega) (by omega) (fun h_1 => ?_) (fun h_1 => ?_)
    · refine z_iload_n C 3 dX4_settleAll_88 rfl rfl ?_
      exact z_iret C N dX4_settleAll_89 (by rw [hS', show k = mK S by omega] <;> rfl) (by rw [hn, show k = mK S by omega])
    · refine z_iload_n C 1 dX4_settleAll_17 rfl rfl ?_
      refine z_iconst C (-1) dX4_settleAll_18 (by decide) ?_
      refine z_icmp_eq C 36 dX4_settleAll_19 (by decide) (fun h_2 => ?_) (fun h_2 => ?_)
      · refine z_iconst C (nI 1) dX4_settleAll_36 (by decide) ?_
        refine z_goto C 41 dX4_settleAll_37 (by decide) ?_
        refine z_istore C dX4_settleAll_41 (Nat.le_of_ble_eq_true rfl) ?_
        refine z_iload C dX4_settleAll_43 rfl ?_
        refine z_nif_eq_f C 82 dX4_settleAll_45 (by decide) (by omega) (by omega) ?_
        refine z_aload_n C 0 dX4_settleAll_48 rfl rfl ?_
        refine z_get C fX4_settleAll_30 0 dX4_settleAll_49 rfl rfl ?_
        refine z_iload C dX4_settleAll_52 rfl ?_
        refine z_callVr C kX0_isPending gX4_settleAll_X0_isPending (mX0_isPending X.2.1 (a 6) (a 7) (fA S') (mK S') k hM2 h_1) dX4_settleAll_54 [6, 7] [] 6 rfl nd_6_7 rfl rfl rfl (by decide) (by decide) (Nat.le_of_ble_eq_true rfl) rfl ?_
        refine z_bif_eq C 82 dX4_settleAll_57 (by decide) (fun h_3 => ?_) (fun h_3 => ?_)
        · refine z_iinc C (nI (k + 1)) dX4_settleAll_82 rfl (zi_1 _) ?_
          refine z_goto C 5 dX4_settleAll_85 (by decide) ?_
          refine z_kill 5 ?_
          exact ih5 (mK S - (k + 1)) (by omega) (k + 1) S' n9 rfl (by omega) (by have q9 : zSC S' au k = false := (by simp [zSC, h_1, h_2, of_decide_eq_false h_3, h_3]); subst hS'; rw [zSL_n q9]) (by have q9 : zSC S' au k = false := (by simp [zSC, h_1, h_2, of_decide_eq_false h_3, h_3]); subst hS' hn; rw [zSL_n q9]) (hok) (hmk) (by omega)
        · refine z_iload_n C 3 dX4_settleAll_60 rfl rfl ?_
          refine z_iload_n C 2 dX4_settleAll_61 rfl rfl ?_
          refine z_bif_eq C 74 dX4_settleAll_62 (by decide) (fun h_4 => ?_) (fun h_4 => ?_)
          · refine z_aload_n C 0 dX4_settleAll_74 rfl rfl ?_
            refine z_iload C dX4_settleAll_75 rfl ?_
            refine z_callV (wn := [((a 0), .inr (4, [.ref (a 1), .ref (a 3), .ref (a 5), .ref (a 6), .int (zb (tK (zRW S' k)))])), ((a 1), .inr (2, [.ref (a 2), .int (nI (rU (zRW S' k)))])), ((a 2), .inl (X.2.1.2.2.1, 12, .inl (rO (zRW S' k)))), ((a 3), .inr (2, [.ref (a 4), .int (nI (cU (zRW S' k)))])), ((a 4), .inl (X.2.1.2.2.1, 8, .inl (cO (zRW S' k)))), ((a 5), .inl (X.2.1.2.2.1, 96, .inl (bS (zRW S' k)))), ((a 6), .inr (0, [.ref (a 7), .int (nI (mK (zRW S' k)))])), ((a 7), .inl (X.2.1.2.2.1, 360, .inl (fA (zRW S' k))))]) C kX4_rejectWhole gX4_settleAll_X4_rejectWhole (mX4_rejectWhole X.2.1 a S' k hok h_1) dX4_settleAll_77 [0, 1, 2, 3, 4, 5, 6, 7] [.int (nI n9)] 0 rfl rfl nd_0_1_2_3_4_5_6_7 rfl rfl rfl (by decide) (by decide) (Nat.le_of_ble_eq_true rfl) rfl rfl ?_
            refine z_iadd C dX4_settleAll_80 ?_
            refine z_top (y := nI (n9 + (zRWn S' k))) (nI_add _ _) ?_
            refine z_istore_n C 3 dX4_settleAll_81 rfl (Nat.le_of_ble_eq_true rfl) ?_
            refine z_iinc C (nI (k + 1)) dX4_settleAll_82 rfl (zi_1 _) ?_
            refine z_goto C 5 dX4_settleAll_85 (by decide) ?_
            refine z_kill 5 ?_
            exact ih5 (mK S - (k + 1)) (by omega) (k + 1) (zRW S' k) (n9 + (zRWn S' k)) rfl (by omega) (by have q9 : zSC S' au k = true := (by simp [zSC, h_1, h_2, of_decide_eq_true h_3, h_3, h_4]); subst hS'; rw [zSL_r q9 (by assumption)]) (by have q9 : zSC S' au k = true := (by simp [zSC, h_1, h_2, of_decide_eq_true h_3, h_3, h_4]); subst hS' hn; rw [zSL_r q9 (by assumption)]) ((zRW_ok hok).1) ((zRW_ok hok).2.1.trans hmk) (by have := (zRW_ok hok (x := k)).2.2; omega)
          · refine z_aload_n C 0 dX4_settleAll_65 rfl rfl ?_
            refine z_iload C dX4_settleAll_66 rfl ?_
            refine z_callV (wn := [((a 0), .inr (4, [.ref (a 1), .ref (a 3), .ref (a 5), .ref (a 6), .int (zb (tK (zAW S' k)))])), ((a 1), .inr (2, [.ref (a 2), .int (nI (rU (zAW S' k)))])), ((a 2), .inl (X.2.1.2.2.1, 12, .inl (rO (zAW S' k)))), ((a 3), .inr (2, [.ref (a 4), .int (nI (cU (zAW S' k)))])), ((a 4), .inl (X.2.1.2.2.1, 8, .inl (cO (zAW S' k)))), ((a 5), .inl (X.2.1.2.2.1, 96, .inl (bS (zAW S' k)))), ((a 6), .inr (0, [.ref (a 7), .int (nI (mK (zAW S' k)))])), ((a 7), .inl (X.2.1.2.2.1, 360, .inl (fA (zAW S' k))))]) C kX4_acceptWhole gX4_settleAll_X4_acceptWhole (mX4_acceptWhole X.2.1 a S' k hok h_1) dX4_settleAll_68 [0, 1, 2, 3, 4, 5, 6, 7] [.int (nI n9)] 0 rfl rfl nd_0_1_2_3_4_5_6_7 rfl rfl rfl (by decide) (by decide) (Nat.le_of_ble_eq_true rfl) rfl rfl ?_
            refine z_goto C 80 dX4_settleAll_71 (by decide) ?_
            refine z_iadd C dX4_settleAll_80 ?_
            refine z_top (y := nI (n9 + (zAWn S' k))) (nI_add _ _) ?_
            refine z_istore_n C 3 dX4_settleAll_81 rfl (Nat.le_of_ble_eq_true rfl) ?_
            refine z_iinc C (nI (k + 1)) dX4_settleAll_82 rfl (zi_1 _) ?_
            refine z_goto C 5 dX4_settleAll_85 (by decide) ?_
            refine z_kill 5 ?_
            exact ih5 (mK S - (k + 1)) (by omega) (k + 1) (zAW S' k) (n9 + (zAWn S' k)) rfl (by omega) (by have q9 : zSC S' au k = true := (by simp [zSC, h_1, h_2, of_decide_eq_true h_3, h_3, h_4]); subst hS'; rw [zSL_a q9 (by assumption)]) (by have q9 : zSC S' au k = true := (by simp [zSC, h_1, h_2, of_decide_eq_true h_3, h_3, h_4]); subst hS' hn; rw [zSL_a q9 (by assumption)]) ((zAW_ok hok).1) ((zAW_ok hok).2.1.trans hmk) (by have := (zAW_ok hok (x := k)).2.2; omega)
      · refine z_aload_n C 0 dX4_settleAll_22 rfl rfl ?_
        refine z_get C fX4_settleAll_30 0 dX4_settleAll_23 rfl rfl ?_
        refine z_iload C dX4_settleAll_26 rfl ?_
        refine z_iconst C (nI 1) dX4_settleAll_28 (by decide) ?_
        refine z_callVr C kX0_fact gX4_settleAll_X0_fact (mX0_fact X.2.1 (a 6) (a 7) (fA S') (mK S') k 1 hM2 h_1 (by first | assumption | omega)) dX4_settleAll_29 [6, 7] [] 6 rfl nd_6_7 rfl rfl rfl (by decide) (by decide) (Nat.le_of_ble_eq_true rfl) rfl ?_
        refine z_iload_n C 1 dX4_settleAll_32 rfl rfl ?_
        refine z_icmp_ne C 40 dX4_settleAll_33 (by decide) (fun h_5 => ?_) (fun h_5 => ?_)
        · refine z_iconst C (nI 0) dX4_settleAll_40 (by decide) ?_
          refine z_istore C dX4_settleAll_41 (Nat.le_of_ble_eq_true rfl) ?_
          refine z_iload C dX4_settleAll_43 rfl ?_
          refine z_nif_eq_t C 82 dX4_settleAll_45 (by decide) (by omega) (by omega) ?_
          refine z_iinc C (nI (k + 1)) dX4_settleAll_82 rfl (zi_1 _) ?_
          refine z_goto C 5 dX4_settleAll_85 (by decide) ?_
          refine z_kill 5 ?_
          exact ih5 (mK S - (k + 1)) (by omega) (k + 1) S' n9 rfl (by omega) (by have q9 : zSC S' au k = false := (by simp [zSC, h_1, h_2, h_5]); subst hS'; rw [zSL_n q9]) (by have q9 : zSC S' au k = false := (by simp [zSC, h_1, h_2, h_5]); subst hS' hn; rw [zSL_n q9]) (hok) (hmk) (by omega)
        · refine z_iconst C (nI 1) dX4_settleAll_36 (by decide) ?_
          refine z_goto C 41 dX4_settleAll_37 (by decide) ?_
          refine z_istore C dX4_settleAll_41 (Nat.le_of_ble_eq_true rfl) ?_
          refine z_iload C dX4_settleAll_43 rfl ?_
          refine z_nif_eq_f C 82 dX4_settleAll_45 (by decide) (by omega) (by omega) ?_
          refine z_aload_n C 0 dX4_settleAll_48 rfl rfl ?_
          refine z_get C fX4_settleAll_30 0 dX4_settleAll_49 rfl rfl ?_
          refine z_iload C dX4_settleAll_52 rfl ?_
          refine z_callVr C kX0_isPending gX4_settleAll_X0_isPending (mX0_isPending X.2.1 (a 6) (a 7) (fA S') (mK S') k hM2 h_1) dX4_settleAll_54 [6, 7] [] 6 rfl nd_6_7 rfl rfl rfl (by decide) (by decide) (Nat.le_of_ble_eq_true rfl) rfl ?_
          refine z_bif_eq C 82 dX4_settleAll_57 (by decide) (fun h_6 => ?_) (fun h_6 => ?_)
          · refine z_iinc C (nI (k + 1)) dX4_settleAll_82 rfl (zi_1 _) ?_
            refine z_goto C 5 dX4_settleAll_85 (by decide) ?_
            refine z_kill 5 ?_
            exact ih5 (mK S - (k + 1)) (by omega) (k + 1) S' n9 rfl (by omega) (by have q9 : zSC S' au k = false := (by simp [zSC, h_1, h_2, h_5, of_decide_eq_false h_6, h_6]); subst hS'; rw [zSL_n q9]) (by have q9 : zSC S' au k = false := (by simp [zSC, h_1, h_2, h_5, of_decide_eq_false h_6, h_6]); subst hS' hn; rw [zSL_n q9]) (hok) (hmk) (by omega)
          · refine z_iload_n C 3 dX4_settleAll_60 rfl rfl ?_
            refine z_iload_n C 2 dX4_settleAll_61 rfl rfl ?_
            refine z_bif_eq C 74 dX4_settleAll_62 (by decide) (fun h_7 => ?_) (fun h_7 => ?_)
            · refine z_aload_n C 0 dX4_settleAll_74 rfl rfl ?_
              refine z_iload C dX4_settleAll_75 rfl ?_
              refine z_callV (wn := [((a 0), .inr (4, [.ref (a 1), .ref (a 3), .ref (a 5), .ref (a 6), .int (zb (tK (zRW S' k)))])), ((a 1), .inr (2, [.ref (a 2), .int (nI (rU (zRW S' k)))])), ((a 2), .inl (X.2.1.2.2.1, 12, .inl (rO (zRW S' k)))), ((a 3), .inr (2, [.ref (a 4), .int (nI (cU (zRW S' k)))])), ((a 4), .inl (X.2.1.2.2.1, 8, .inl (cO (zRW S' k)))), ((a 5), .inl (X.2.1.2.2.1, 96, .inl (bS (zRW S' k)))), ((a 6), .inr (0, [.ref (a 7), .int (nI (mK (zRW S' k)))])), ((a 7), .inl (X.2.1.2.2.1, 360, .inl (fA (zRW S' k))))]) C kX4_rejectWhole gX4_settleAll_X4_rejectWhole (mX4_rejectWhole X.2.1 a S' k hok h_1) dX4_settleAll_77 [0, 1, 2, 3, 4, 5, 6, 7] [.int (nI n9)] 0 rfl rfl nd_0_1_2_3_4_5_6_7 rfl rfl rfl (by decide) (by decide) (Nat.le_of_ble_eq_true rfl) rfl rfl ?_
              refine z_iadd C dX4_settleAll_80 ?_
              refine z_top (y := nI (n9 + (zRWn S' k))) (nI_add _ _) ?_
              refine z_istore_n C 3 dX4_settleAll_81 rfl (Nat.le_of_ble_eq_true rfl) ?_
              refine z_iinc C (nI (k + 1)) dX4_settleAll_82 rfl (zi_1 _) ?_
              refine z_goto C 5 dX4_settleAll_85 (by decide) ?_
              refine z_kill 5 ?_
              exact ih5 (mK S - (k + 1)) (by omega) (k + 1) (zRW S' k) (n9 + (zRWn S' k)) rfl (by omega) (by have q9 : zSC S' au k = true := (by simp [zSC, h_1, h_2, h_5, of_decide_eq_true h_6, h_6, h_7]); subst hS'; rw [zSL_r q9 (by assumption)]) (by have q9 : zSC S' au k = true := (by simp [zSC, h_1, h_2, h_5, of_decide_eq_true h_6, h_6, h_7]); subst hS' hn; rw [zSL_r q9 (by assumption)]) ((zRW_ok hok).1) ((zRW_ok hok).2.1.trans hmk) (by have := (zRW_ok hok (x := k)).2.2; omega)
            · refine z_aload_n C 0 dX4_settleAll_65 rfl rfl ?_
              refine z_iload C dX4_settleAll_66 rfl ?_
              refine z_callV (wn := [((a 0), .inr (4, [.ref (a 1), .ref (a 3), .ref (a 5), .ref (a 6), .int (zb (tK (zAW S' k)))])), ((a 1), .inr (2, [.ref (a 2), .int (nI (rU (zAW S' k)))])), ((a 2), .inl (X.2.1.2.2.1, 12, .inl (rO (zAW S' k)))), ((a 3), .inr (2, [.ref (a 4), .int (nI (cU (zAW S' k)))])), ((a 4), .inl (X.2.1.2.2.1, 8, .inl (cO (zAW S' k)))), ((a 5), .inl (X.2.1.2.2.1, 96, .inl (bS (zAW S' k)))), ((a 6), .inr (0, [.ref (a 7), .int (nI (mK (zAW S' k)))])), ((a 7), .inl (X.2.1.2.2.1, 360, .inl (fA (zAW S' k))))]) C kX4_acceptWhole gX4_settleAll_X4_acceptWhole (mX4_acceptWhole X.2.1 a S' k hok h_1) dX4_settleAll_68 [0, 1, 2, 3, 4, 5, 6, 7] [.int (nI n9)] 0 rfl rfl nd_0_1_2_3_4_5_6_7 rfl rfl rfl (by decide) (by decide) (Nat.le_of_ble_eq_true rfl) rfl rfl ?_
              refine z_goto C 80 dX4_settleAll_71 (by decide) ?_
              refine z_iadd C dX4_settleAll_80 ?_
              refine z_top (y := nI (n9 + (zAWn S' k))) (nI_add _ _) ?_
              refine z_istore_n C 3 dX4_settleAll_81 rfl (Nat.le_of_ble_eq_true rfl) ?_
              refine z_iinc C (nI (k + 1)) dX4_settleAll_82 rfl (zi_1 _) ?_
              refine z_goto C 5 dX4_settleAll_85 (by decide) ?_
              refine z_kill 5 ?_
              exact ih5 (mK S - (k + 1)) (by omega) (k + 1) (zAW S' k) (n9 + (zAWn S' k)) rfl (by omega) (by have q9 : zSC S' au k = true := (by simp [zSC, h_1, h_2, h_5, of_decide_eq_true h_6, h_6, h_7]); subst hS'; rw [zSL_a q9 (by assumption)]) (by have q9 : zSC S' au k = true := (by simp [zSC, h_1, h_2, h_5, of_decide_eq_true h_6, h_6, h_7]); subst hS' hn; rw [zSL_a q9 (by assumption)]) ((zAW_ok hok).1) ((zAW_ok hok).2.1.trans hmk) (by have := (zAW_ok hok (x := k)).2.2; omega)
  exact hL5 _ 0 S 0 rfl (by omega) (rfl) (rfl) (hS) (rfl) (by omega)

theorem kX4_copyFrom : zY yX4_copyFrom wsX4_copyFrom cX4_copyFrom 2 none 1 := ⟨⟨_, rfl⟩, ⟨by decide +kernel, by decide +kernel, by decide +kernel⟩, by decide +kernel⟩
theorem fX4_copyFrom_14 : zF wsX4_copyFrom RX4 14 4 0 RX4 TX4 5 := ⟨by decide +kernel, rfl, by decide, by decide +kernel, rfl⟩
theorem nd_1_2_9_10 : va_nd [1, 2, 9, 10] = true := by decide +kernel
theorem fX4_copyFrom_20 : zF wsX4_copyFrom RX4 20 4 1 RX4 TX4 5 := ⟨by decide +kernel, rfl, by decide, by decide +kernel, rfl⟩
theorem nd_3_4_11_12 : va_nd [3, 4, 11, 12] = true := by decide +kernel
theorem fX4_copyFrom_23 : zF wsX4_copyFrom RX4 23 4 2 RX4 TX4 5 := ⟨by decide +kernel, rfl, by decide, by decide +kernel, rfl⟩
theorem nst_X4_copyFrom_42 : (RX4, 42, yX5_copy, RX5) ∈ zNest ∧ Cond.initialized RX5 ∈ wsX4_copyFrom ∧ Cond.static yX5_copy ∈ wsX4_copyFrom := ⟨by decide +kernel, by decide +kernel, by decide +kernel⟩
theorem nd_13_5 : va_nd [13, 5] = true := by decide +kernel
theorem fX4_copyFrom_30 : zF wsX4_copyFrom RX4 30 4 3 RX4 TX4 5 := ⟨by decide +kernel, rfl, by decide, by decide +kernel, rfl⟩
theorem nd_6_7_14_15 : va_nd [6, 7, 14, 15] = true := by decide +kernel
theorem fX4_copyFrom_34 : zF wsX4_copyFrom RX4 34 4 4 RX4 TX4 5 := ⟨by decide +kernel, rfl, by decide, by decide +kernel, rfl⟩
theorem ftX4_4 : zFt 4 5 TX4 tyX4 false := ⟨tyX4_ok, nmX4, rfl⟩
set_option maxHeartbeats 4000000 in
set_option maxRecDepth 100000 in
theorem mX4_copyFrom (E : zE) (a b : Nat → Nat) (S T : zSt)  : zM E yX4_copyFrom wsX4_copyFrom 3 [.ref (a 0), .ref (b 0)] [((a 0), .inr (4, [.ref (a 1), .ref (a 3), .ref (a 5), .ref (a 6), .int (zb (tK S))])), ((a 1), .inr (2, [.ref (a 2), .int (nI (rU S))])), ((a 2), .inl (E.2.2.1, 12, .inl (rO S))), ((a 3), .inr (2, [.ref (a 4), .int (nI (cU S))])), ((a 4), .inl (E.2.2.1, 8, .inl (cO S))), ((a 5), .inl (E.2.2.1, 96, .inl (bS S))), ((a 6), .inr (0, [.ref (a 7), .int (nI (mK S))])), ((a 7), .inl (E.2.2.1, 360, .inl (fA S))), ((b 0), .inr (4, [.ref (b 1), .ref (b 3), .ref (b 5), .ref (b 6), .int (zb (tK T))])), ((b 1), .inr (2, [.ref (b 2), .int (nI (rU T))])), ((b 2), .inl (E.2.2.1, 12, .inl (rO T))), ((b 3), .inr (2, [.ref (b 4), .int (nI (cU T))])), ((b 4), .inl (E.2.2.1, 8, .inl (cO T))), ((b 5), .inl (E.2.2.1, 96, .inl (bS T))), ((b 6), .inr (0, [.ref (b 7), .int (nI (mK T))])), ((b 7), .inl (E.2.2.1, 360, .inl (fA T)))] [((a 0), .inr (4, [.ref (a 1), .ref (a 3), .ref (a 5), .ref (a 6), .int (zb (tK T))])), ((a 1), .inr (2, [.ref (a 2), .int (nI (rU T))])), ((a 2), .inl (E.2.2.1, 12, .inl (rO T))), ((a 3), .inr (2, [.ref (a 4), .int (nI (cU T))])), ((a 4), .inl (E.2.2.1, 8, .inl (cO T))), ((a 5), .inl (E.2.2.1, 96, .inl (bS T))), ((a 6), .inr (0, [.ref (a 7), .int (nI (mK T))])), ((a 7), .inl (E.2.2.1, 360, .inl (fA T))), ((b 0), .inr (4, [.ref (b 1), .ref (b 3), .ref (b 5), .ref (b 6), .int (zb (tK T))])), ((b 1), .inr (2, [.ref (b 2), .int (nI (rU T))])), ((b 2), .inl (E.2.2.1, 12, .inl (rO T))), ((b 3), .inr (2, [.ref (b 4), .int (nI (cU T))])), ((b 4), .inl (E.2.2.1, 8, .inl (cO T))), ((b 5), .inl (E.2.2.1, 96, .inl (bS T))), ((b 6), .inr (0, [.ref (b 7), .int (nI (mK T))])), ((b 7), .inl (E.2.2.1, 360, .inl (fA T)))] none := by
  refine zM.of kX4_copyFrom (Nat.le_of_ble_eq_true rfl) rfl [some (.ref (a 0)), some (.ref (b 0))] rfl (Nat.le_of_ble_eq_true rfl) ?_
  intro X eX C N
  subst eX
  refine z_aload_n C 0 dX4_copyFrom_0 rfl rfl ?_
  refine z_get C fX4_copyFrom_14 0 dX4_copyFrom_1 rfl rfl ?_
  refine z_aload_n C 1 dX4_copyFrom_4 rfl rfl ?_
  refine z_get C fX4_copyFrom_14 8 dX4_copyFrom_5 rfl rfl ?_
  refine z_callVv (wn := [((a 0), .inr (4, [.ref (a 1), .ref (a 3), .ref (a 5), .ref (a 6), .int (zb (tK S))])), ((a 1), .inr (2, [.ref (a 2), .int (nI (rU T))])), ((a 2), .inl (X.2.1.2.2.1, 12, .inl (rO T))), ((a 3), .inr (2, [.ref (a 4), .int (nI (cU S))])), ((a 4), .inl (X.2.1.2.2.1, 8, .inl (cO S))), ((a 5), .inl (X.2.1.2.2.1, 96, .inl (bS S))), ((a 6), .inr (0, [.ref (a 7), .int (nI (mK S))])), ((a 7), .inl (X.2.1.2.2.1, 360, .inl (fA S))), ((b 0), .inr (4, [.ref (b 1), .ref (b 3), .ref (b 5), .ref (b 6), .int (zb (tK T))])), ((b 1), .inr (2, [.ref (b 2), .int (nI (rU T))])), ((b 2), .inl (X.2.1.2.2.1, 12, .inl (rO T))), ((b 3), .inr (2, [.ref (b 4), .int (nI (cU T))])), ((b 4), .inl (X.2.1.2.2.1, 8, .inl (cO T))), ((b 5), .inl (X.2.1.2.2.1, 96, .inl (bS T))), ((b 6), .inr (0, [.ref (b 7), .int (nI (mK T))])), ((b 7), .inl (X.2.1.2.2.1, 360, .inl (fA T)))]) C kX2_copyFrom gX4_copyFrom_X2_copyFrom (mX2_copyFrom X.2.1 (a 1) (a 2) (b 1) (b 2) 12 (rO S) (rU S) (rO T) (rU T) (by first | assumption | omega)) dX4_copyFrom_8 [1, 2, 9, 10] [] 1 rfl rfl nd_1_2_9_10 rfl rfl rfl (by decide) (by decide) (Nat.le_of_ble_eq_true rfl) rfl rfl ?_
  refine z_aload_n C 0 dX4_copyFrom_11 rfl rfl ?_
  refine z_get C fX4_copyFrom_20 0 dX4_copyFrom_12 rfl rfl ?_
  refine z_aload_n C 1 dX4_copyFrom_15 rfl rfl ?_
  refine z_get C fX4_copyFrom_20 8 dX4_copyFrom_16 rfl rfl ?_
  refine z_callVv (wn := [((a 0), .inr (4, [.ref (a 1), .ref (a 3), .ref (a 5), .ref (a 6), .int (zb (tK S))])), ((a 1), .inr (2, [.ref (a 2), .int (nI (rU T))])), ((a 2), .inl (X.2.1.2.2.1, 12, .inl (rO T))), ((a 3), .inr (2, [.ref (a 4), .int (nI (cU T))])), ((a 4), .inl (X.2.1.2.2.1, 8, .inl (cO T))), ((a 5), .inl (X.2.1.2.2.1, 96, .inl (bS S))), ((a 6), .inr (0, [.ref (a 7), .int (nI (mK S))])), ((a 7), .inl (X.2.1.2.2.1, 360, .inl (fA S))), ((b 0), .inr (4, [.ref (b 1), .ref (b 3), .ref (b 5), .ref (b 6), .int (zb (tK T))])), ((b 1), .inr (2, [.ref (b 2), .int (nI (rU T))])), ((b 2), .inl (X.2.1.2.2.1, 12, .inl (rO T))), ((b 3), .inr (2, [.ref (b 4), .int (nI (cU T))])), ((b 4), .inl (X.2.1.2.2.1, 8, .inl (cO T))), ((b 5), .inl (X.2.1.2.2.1, 96, .inl (bS T))), ((b 6), .inr (0, [.ref (b 7), .int (nI (mK T))])), ((b 7), .inl (X.2.1.2.2.1, 360, .inl (fA T)))]) C kX2_copyFrom gX4_copyFrom_X2_copyFrom (mX2_copyFrom X.2.1 (a 3) (a 4) (b 3) (b 4) 8 (cO S) (cU S) (cO T) (cU T) (by first | assumption | omega)) dX4_copyFrom_19 [3, 4, 11, 12] [] 3 rfl rfl nd_3_4_11_12 rfl rfl rfl (by decide) (by decide) (Nat.le_of_ble_eq_true rfl) rfl rfl ?_
  refine z_aload_n C 1 dX4_copyFrom_22 rfl rfl ?_
  refine z_get C fX4_copyFrom_23 8 dX4_copyFrom_23 rfl rfl ?_
  refine z_aload_n C 0 dX4_copyFrom_26 rfl rfl ?_
  refine z_get C fX4_copyFrom_23 0 dX4_copyFrom_27 rfl rfl ?_
  refine z_callN0 (wn := [((a 0), .inr (4, [.ref (a 1), .ref (a 3), .ref (a 5), .ref (a 6), .int (zb (tK S))])), ((a 1), .inr (2, [.ref (a 2), .int (nI (rU T))])), ((a 2), .inl (X.2.1.2.2.1, 12, .inl (rO T))), ((a 3), .inr (2, [.ref (a 4), .int (nI (cU T))])), ((a 4), .inl (X.2.1.2.2.1, 8, .inl (cO T))), ((a 5), .inl (X.2.1.2.2.1, 96, .inl (bS T))), ((a 6), .inr (0, [.ref (a 7), .int (nI (mK S))])), ((a 7), .inl (X.2.1.2.2.1, 360, .inl (fA S))), ((b 0), .inr (4, [.ref (b 1), .ref (b 3), .ref (b 5), .ref (b 6), .int (zb (tK T))])), ((b 1), .inr (2, [.ref (b 2), .int (nI (rU T))])), ((b 2), .inl (X.2.1.2.2.1, 12, .inl (rO T))), ((b 3), .inr (2, [.ref (b 4), .int (nI (cU T))])), ((b 4), .inl (X.2.1.2.2.1, 8, .inl (cO T))), ((b 5), .inl (X.2.1.2.2.1, 96, .inl (bS T))), ((b 6), .inr (0, [.ref (b 7), .int (nI (mK T))])), ((b 7), .inl (X.2.1.2.2.1, 360, .inl (fA T)))]) C kX5_copy nst_X4_copyFrom_42.1 gX4_copyFrom_X5_copy_n42 nst_X4_copyFrom_42.2.1 nst_X4_copyFrom_42.2.2 (mX5_copy X.2.1 (b 5) (a 5) 96 (bS T) (bS S) (by first | assumption | omega)) dX4_copyFrom_30 [13, 5] [] rfl rfl nd_13_5 rfl (by decide) (by decide) (Nat.le_of_ble_eq_true rfl) rfl rfl ?_
  refine z_aload_n C 0 dX4_copyFrom_33 rfl rfl ?_
  refine z_get C fX4_copyFrom_30 0 dX4_copyFrom_34 rfl rfl ?_
  refine z_aload_n C 1 dX4_copyFrom_37 rfl rfl ?_
  refine z_get C fX4_copyFrom_30 8 dX4_copyFrom_38 rfl rfl ?_
  refine z_callVv (wn := [((a 0), .inr (4, [.ref (a 1), .ref (a 3), .ref (a 5), .ref (a 6), .int (zb (tK S))])), ((a 1), .inr (2, [.ref (a 2), .int (nI (rU T))])), ((a 2), .inl (X.2.1.2.2.1, 12, .inl (rO T))), ((a 3), .inr (2, [.ref (a 4), .int (nI (cU T))])), ((a 4), .inl (X.2.1.2.2.1, 8, .inl (cO T))), ((a 5), .inl (X.2.1.2.2.1, 96, .inl (bS T))), ((a 6), .inr (0, [.ref (a 7), .int (nI (mK T))])), ((a 7), .inl (X.2.1.2.2.1, 360, .inl (fA T))), ((b 0), .inr (4, [.ref (b 1), .ref (b 3), .ref (b 5), .ref (b 6), .int (zb (tK T))])), ((b 1), .inr (2, [.ref (b 2), .int (nI (rU T))])), ((b 2), .inl (X.2.1.2.2.1, 12, .inl (rO T))), ((b 3), .inr (2, [.ref (b 4), .int (nI (cU T))])), ((b 4), .inl (X.2.1.2.2.1, 8, .inl (cO T))), ((b 5), .inl (X.2.1.2.2.1, 96, .inl (bS T))), ((b 6), .inr (0, [.ref (b 7), .int (nI (mK T))])), ((b 7), .inl (X.2.1.2.2.1, 360, .inl (fA T)))]) C kX0_copyFrom gX4_copyFrom_X0_copyFrom (mX0_copyFrom X.2.1 (a 6) (a 7) (b 6) (b 7) (fA S) (mK S) (fA T) (mK T) ) dX4_copyFrom_41 [6, 7, 14, 15] [] 6 rfl rfl nd_6_7_14_15 rfl rfl rfl (by decide) (by decide) (Nat.le_of_ble_eq_true rfl) rfl rfl ?_
  refine z_aload_n C 0 dX4_copyFrom_44 rfl rfl ?_
  refine z_aload_n C 1 dX4_copyFrom_45 rfl rfl ?_
  refine z_get C fX4_copyFrom_34 8 dX4_copyFrom_46 rfl rfl ?_
  refine z_put C fX4_copyFrom_34 ftX4_4 0 dX4_copyFrom_49 rfl (zb_nar _) (zb_fit _) (Nat.le_of_ble_eq_true rfl) ?_
  exact z_vret C N dX4_copyFrom_52 (rfl)
