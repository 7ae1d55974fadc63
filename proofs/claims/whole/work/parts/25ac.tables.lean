theorem kX4_rejectWhole : zY yX4_rejectWhole wsX4_rejectWhole cX4_rejectWhole 4 (some .int) 1 := ⟨⟨_, rfl⟩, ⟨by decide +kernel, by decide +kernel, by decide +kernel⟩, by decide +kernel⟩
theorem fX4_rejectWhole_30 : zF wsX4_rejectWhole RX4 30 4 3 RX4 TX4 5 := ⟨by decide +kernel, rfl, by decide, by decide +kernel, rfl⟩
theorem fX4_rejectWhole_128 : zF wsX4_rejectWhole RX4 128 0 1 RX0 TX0 2 := ⟨by decide +kernel, rfl, by decide, by decide +kernel, rfl⟩
set_option maxHeartbeats 4000000 in
set_option maxRecDepth 100000 in
theorem mX4_rejectWhole (E : zE) (a : Nat → Nat) (S : zSt) (x : Nat) (hS : okS S) (hx : x < mK S) : zM E yX4_rejectWhole wsX4_rejectWhole 5 [.ref (a 0), .int (nI x)] [((a 0), .inr (4, [.ref (a 1), .ref (a 3), .ref (a 5), .ref (a 6), .int (zb (tK S))])), ((a 1), .inr (2, [.ref (a 2), .int (nI (rU S))])), ((a 2), .inl (E.2.2.1, 12, .inl (rO S))), ((a 3), .inr (2, [.ref (a 4), .int (nI (cU S))])), ((a 4), .inl (E.2.2.1, 8, .inl (cO S))), ((a 5), .inl (E.2.2.1, 96, .inl (bS S))), ((a 6), .inr (0, [.ref (a 7), .int (nI (mK S))])), ((a 7), .inl (E.2.2.1, 360, .inl (fA S)))] [((a 0), .inr (4, [.ref (a 1), .ref (a 3), .ref (a 5), .ref (a 6), .int (zb (tK (zRW S x)))])), ((a 1), .inr (2, [.ref (a 2), .int (nI (rU (zRW S x)))])), ((a 2), .inl (E.2.2.1, 12, .inl (rO (zRW S x)))), ((a 3), .inr (2, [.ref (a 4), .int (nI (cU (zRW S x)))])), ((a 4), .inl (E.2.2.1, 8, .inl (cO (zRW S x)))), ((a 5), .inl (E.2.2.1, 96, .inl (bS (zRW S x)))), ((a 6), .inr (0, [.ref (a 7), .int (nI (mK (zRW S x)))])), ((a 7), .inl (E.2.2.1, 360, .inl (fA (zRW S x))))] (some (.int (nI (zRWn S x)))) := by
  refine zM.of kX4_rejectWhole (Nat.le_of_ble_eq_true rfl) rfl [some (.ref (a 0)), some (.int (nI x)), none, none] rfl (Nat.le_of_ble_eq_true rfl) ?_
  intro X eX C N
  subst eX
  obtain ⟨hur, huc, hM⟩ := id hS
  refine z_iconst C (nI 0) dX4_rejectWhole_0 (by decide) ?_
  refine z_istore_n C 2 dX4_rejectWhole_1 rfl (Nat.le_of_ble_eq_true rfl) ?_
  refine z_iconst C (nI 0) dX4_rejectWhole_2 (by decide) ?_
  refine z_istore_n C 3 dX4_rejectWhole_3 rfl (Nat.le_of_ble_eq_true rfl) ?_
  have hL4 : ∀ (dd : Nat) (k : Nat) (g' : Nat → Int32) (n9 : Nat), mK S - k = dd → (k ≤ mK S) → (g' = zMk (fA S) (fun j => zrs (fA S) j x) (nI 2) k) → (n9 = zc (fun j => zrs (fA S) j x) k) → (n9 ≤ k) → zG X 0 0 [((a 0), .inr (4, [.ref (a 1), .ref (a 3), .ref (a 5), .ref (a 6), .int (zb (tK S))])), ((a 1), .inr (2, [.ref (a 2), .int (nI (rU S))])), ((a 2), .inl (X.2.1.2.2.1, 12, .inl (rO S))), ((a 3), .inr (2, [.ref (a 4), .int (nI (cU S))])), ((a 4), .inl (X.2.1.2.2.1, 8, .inl (cO S))), ((a 5), .inl (X.2.1.2.2.1, 96, .inl (bS S))), ((a 6), .inr (0, [.ref (a 7), .int (nI (mK S))])), ((a 7), .inl (X.2.1.2.2.1, 360, .inl g'))] [some (.ref (a 0)), some (.int (nI x)), some (.int (nI n9)), some (.int (nI k))] [] 4 := by
    intro dd
    induction dd using Nat.strongRecOn with
    | _ dd ih4 =>
    intro k g' n9 hdd hk hg hn hnb
    refine z_iload_n C 3 dX4_rejectWhole_4 rfl rfl ?_
    refine z_aload_n C 0 dX4_rejectWhole_5 rfl rfl ?_
    refine z_get C fX4_rejectWhole_30 0 dX4_rejectWhole_6 rfl rfl ?_
    refine z_get C fX4_rejectWhole_128 6 dX4_rejectWhole_9 rfl rfl ?_
    refine z_ncmp_ge C 46 dX4_rejectWhole_12 (by decide) (by omega) (by omega) (fun h_1 => ?_) (fun h_1 => ?_)
    · refine z_aload_n C 0 dX4_rejectWhole_46 rfl rfl ?_
      refine z_get C fX4_rejectWhole_30 0 dX4_rejectWhole_47 rfl rfl ?_
      refine z_iload_n C 1 dX4_rejectWhole_50 rfl rfl ?_
      refine z_iconst C (nI 2) dX4_rejectWhole_51 (by decide) ?_
      refine z_iconst C (nI 2) dX4_rejectWhole_52 (by decide) ?_
      refine z_callVv (wn := [((a 0), .inr (4, [.ref (a 1), .ref (a 3), .ref (a 5), .ref (a 6), .int (zb (tK S))])), ((a 1), .inr (2, [.ref (a 2), .int (nI (rU S))])), ((a 2), .inl (X.2.1.2.2.1, 12, .inl (rO S))), ((a 3), .inr (2, [.ref (a 4), .int (nI (cU S))])), ((a 4), .inl (X.2.1.2.2.1, 8, .inl (cO S))), ((a 5), .inl (X.2.1.2.2.1, 96, .inl (bS S))), ((a 6), .inr (0, [.ref (a 7), .int (nI (mK S))])), ((a 7), .inl (X.2.1.2.2.1, 360, .inl (upd g' (6 * x + 2) (nI 2))))]) C kX0_put gX4_rejectWhole_X0_put (mX0_put X.2.1 (a 6) (a 7) g' (mK S) x 2 (nI 2) hM hx (by first | assumption | omega)) dX4_rejectWhole_53 [6, 7] [] 6 rfl rfl nd_6_7 rfl rfl rfl (by decide) (by decide) (Nat.le_of_ble_eq_true rfl) rfl rfl ?_
      refine z_cv (ws' := [((a 0), .inr (4, [.ref (a 1), .ref (a 3), .ref (a 5), .ref (a 6), .int (zb (tK (zR1 S x)))])), ((a 1), .inr (2, [.ref (a 2), .int (nI (rU (zR1 S x)))])), ((a 2), .inl (X.2.1.2.2.1, 12, .inl (rO (zR1 S x)))), ((a 3), .inr (2, [.ref (a 4), .int (nI (cU (zR1 S x)))])), ((a 4), .inl (X.2.1.2.2.1, 8, .inl (cO (zR1 S x)))), ((a 5), .inl (X.2.1.2.2.1, 96, .inl (bS (zR1 S x)))), ((a 6), .inr (0, [.ref (a 7), .int (nI (mK (zR1 S x)))])), ((a 7), .inl (X.2.1.2.2.1, 360, .inl (fA (zR1 S x))))]) (by rw [hg, show k = mK S by omega] <;> rfl) rfl rfl ?_
      have q_2 : rU (zR1 S x) = rU S := rfl
      have q_3 : cU (zR1 S x) = cU S := rfl
      have q_4 : mK (zR1 S x) = mK S := rfl
      have q_5 : okS (zR1 S x) := hS
      refine z_aload_n C 0 dX4_rejectWhole_56 rfl rfl ?_
      refine z_get C fX4_rejectWhole_30 0 dX4_rejectWhole_57 rfl rfl ?_
      refine z_iload_n C 1 dX4_rejectWhole_60 rfl rfl ?_
      refine z_iconst C (nI 0) dX4_rejectWhole_61 (by decide) ?_
      refine z_callVr C kX0_fact gX4_rejectWhole_X0_fact (mX0_fact X.2.1 (a 6) (a 7) (fA (zR1 S x)) (mK (zR1 S x)) x 0 (by first | assumption | omega) (by first | assumption | omega) (by first | assumption | omega)) dX4_rejectWhole_62 [6, 7] [] 6 rfl nd_6_7 rfl rfl rfl (by decide) (by decide) (Nat.le_of_ble_eq_true rfl) rfl ?_
      refine z_top (y := (fA (zR1 S x)) (6 * x)) rfl ?_
      refine z_istore_n C 3 dX4_rejectWhole_65 rfl (Nat.le_of_ble_eq_true rfl) ?_
      refine z_iload_n C 3 dX4_rejectWhole_66 rfl rfl ?_
      refine z_if_ne C 87 dX4_rejectWhole_67 (by decide) (fun h_6 => ?_) (fun h_6 => ?_)
      · refine z_iload_n C 3 dX4_rejectWhole_87 rfl rfl ?_
        refine z_iconst C (nI 2) dX4_rejectWhole_88 (by decide) ?_
        refine z_icmp_ne C 106 dX4_rejectWhole_89 (by decide) (fun h_7 => ?_) (fun h_7 => ?_)
        · refine z_iload_n C 2 dX4_rejectWhole_106 rfl rfl ?_
          refine z_iconst C (nI 1) dX4_rejectWhole_107 (by decide) ?_
          refine z_iadd C dX4_rejectWhole_108 ?_
          refine z_top (y := nI (n9 + 1)) (nI_add _ _) ?_
          exact z_iret C N dX4_rejectWhole_109 (by rw [show zRW S x = zR1 S x by simp [zRW, nI_eq, zz_0, h_1, h_6, h_7]] <;> rfl) (by rw [hn, show k = mK S by omega]; rfl)
        · refine z_aload_n C 0 dX4_rejectWhole_92 rfl rfl ?_
          refine z_iconst C (nI 1) dX4_rejectWhole_93 (by decide) ?_
          refine z_aload_n C 0 dX4_rejectWhole_94 rfl rfl ?_
          refine z_get C fX4_rejectWhole_30 0 dX4_rejectWhole_95 rfl rfl ?_
          refine z_iload_n C 1 dX4_rejectWhole_98 rfl rfl ?_
          refine z_iconst C (nI 4) dX4_rejectWhole_99 (by decide) ?_
          refine z_callVr C kX0_fact gX4_rejectWhole_X0_fact (mX0_fact X.2.1 (a 6) (a 7) (fA (zR1 S x)) (mK (zR1 S x)) x 4 (by first | assumption | omega) (by first | assumption | omega) (by first | assumption | omega)) dX4_rejectWhole_100 [6, 7] [.int (nI 1), .ref (a 0)] 6 rfl nd_6_7 rfl rfl rfl (by decide) (by decide) (Nat.le_of_ble_eq_true rfl) rfl ?_
          refine z_callVv (wn := [((a 0), .inr (4, [.ref (a 1), .ref (a 3), .ref (a 5), .ref (a 6), .int (zb (tK (zDrC (zR1 S x) ((fA (zR1 S x)) (6 * x + 4)))))])), ((a 1), .inr (2, [.ref (a 2), .int (nI (rU (zDrC (zR1 S x) ((fA (zR1 S x)) (6 * x + 4)))))])), ((a 2), .inl (X.2.1.2.2.1, 12, .inl (rO (zDrC (zR1 S x) ((fA (zR1 S x)) (6 * x + 4)))))), ((a 3), .inr (2, [.ref (a 4), .int (nI (cU (zDrC (zR1 S x) ((fA (zR1 S x)) (6 * x + 4)))))])), ((a 4), .inl (X.2.1.2.2.1, 8, .inl (cO (zDrC (zR1 S x) ((fA (zR1 S x)) (6 * x + 4)))))), ((a 5), .inl (X.2.1.2.2.1, 96, .inl (bS (zDrC (zR1 S x) ((fA (zR1 S x)) (6 * x + 4)))))), ((a 6), .inr (0, [.ref (a 7), .int (nI (mK (zDrC (zR1 S x) ((fA (zR1 S x)) (6 * x + 4)))))])), ((a 7), .inl (X.2.1.2.2.1, 360, .inl (fA (zDrC (zR1 S x) ((fA (zR1 S x)) (6 * x + 4))))))]) C kX4_dropLine gX4_rejectWhole_X4_dropLine (mX4_dropLine_c X.2.1 a (zR1 S x) ((fA (zR1 S x)) (6 * x + 4)) q_5) dX4_rejectWhole_103 [0, 1, 2, 3, 4, 5, 6, 7] [] 0 rfl rfl nd_0_1_2_3_4_5_6_7 rfl rfl rfl (by decide) (by decide) (Nat.le_of_ble_eq_true rfl) rfl rfl ?_
          refine z_iload_n C 2 dX4_rejectWhole_106 rfl rfl ?_
          refine z_iconst C (nI 1) dX4_rejectWhole_107 (by decide) ?_
          refine z_iadd C dX4_rejectWhole_108 ?_
          refine z_top (y := nI (n9 + 1)) (nI_add _ _) ?_
          exact z_iret C N dX4_rejectWhole_109 (by rw [show zRW S x = zDrC (zR1 S x) (fA (zR1 S x) (6 * x + 4)) by simp [zRW, nI_eq, zz_0, h_1, h_6, h_7]] <;> rfl) (by rw [hn, show k = mK S by omega]; rfl)
      · refine z_aload_n C 0 dX4_rejectWhole_70 rfl rfl ?_
        refine z_iconst C (nI 0) dX4_rejectWhole_71 (by decide) ?_
        refine z_aload_n C 0 dX4_rejectWhole_72 rfl rfl ?_
        refine z_get C fX4_rejectWhole_30 0 dX4_rejectWhole_73 rfl rfl ?_
        refine z_iload_n C 1 dX4_rejectWhole_76 rfl rfl ?_
        refine z_iconst C (nI 3) dX4_rejectWhole_77 (by decide) ?_
        refine z_callVr C kX0_fact gX4_rejectWhole_X0_fact (mX0_fact X.2.1 (a 6) (a 7) (fA (zR1 S x)) (mK (zR1 S x)) x 3 (by first | assumption | omega) (by first | assumption | omega) (by first | assumption | omega)) dX4_rejectWhole_78 [6, 7] [.int (nI 0), .ref (a 0)] 6 rfl nd_6_7 rfl rfl rfl (by decide) (by decide) (Nat.le_of_ble_eq_true rfl) rfl ?_
        refine z_callVv (wn := [((a 0), .inr (4, [.ref (a 1), .ref (a 3), .ref (a 5), .ref (a 6), .int (zb (tK (zDrR (zR1 S x) ((fA (zR1 S x)) (6 * x + 3)))))])), ((a 1), .inr (2, [.ref (a 2), .int (nI (rU (zDrR (zR1 S x) ((fA (zR1 S x)) (6 * x + 3)))))])), ((a 2), .inl (X.2.1.2.2.1, 12, .inl (rO (zDrR (zR1 S x) ((fA (zR1 S x)) (6 * x + 3)))))), ((a 3), .inr (2, [.ref (a 4), .int (nI (cU (zDrR (zR1 S x) ((fA (zR1 S x)) (6 * x + 3)))))])), ((a 4), .inl (X.2.1.2.2.1, 8, .inl (cO (zDrR (zR1 S x) ((fA (zR1 S x)) (6 * x + 3)))))), ((a 5), .inl (X.2.1.2.2.1, 96, .inl (bS (zDrR (zR1 S x) ((fA (zR1 S x)) (6 * x + 3)))))), ((a 6), .inr (0, [.ref (a 7), .int (nI (mK (zDrR (zR1 S x) ((fA (zR1 S x)) (6 * x + 3)))))])), ((a 7), .inl (X.2.1.2.2.1, 360, .inl (fA (zDrR (zR1 S x) ((fA (zR1 S x)) (6 * x + 3))))))]) C kX4_dropLine gX4_rejectWhole_X4_dropLine (mX4_dropLine_r X.2.1 a (zR1 S x) ((fA (zR1 S x)) (6 * x + 3)) q_5) dX4_rejectWhole_81 [0, 1, 2, 3, 4, 5, 6, 7] [] 0 rfl rfl nd_0_1_2_3_4_5_6_7 rfl rfl rfl (by decide) (by decide) (Nat.le_of_ble_eq_true rfl) rfl rfl ?_
        refine z_goto C 106 dX4_rejectWhole_84 (by decide) ?_
        refine z_iload_n C 2 dX4_rejectWhole_106 rfl rfl ?_
        refine z_iconst C (nI 1) dX4_rejectWhole_107 (by decide) ?_
        refine z_iadd C dX4_rejectWhole_108 ?_
        refine z_top (y := nI (n9 + 1)) (nI_add _ _) ?_
        exact z_iret C N dX4_rejectWhole_109 (by rw [show zRW S x = zDrR (zR1 S x) (fA (zR1 S x) (6 * x + 3)) by simp [zRW, nI_eq, zz_0, h_1, h_6]] <;> rfl) (by rw [hn, show k = mK S by omega]; rfl)
    · refine z_aload_n C 0 dX4_rejectWhole_15 rfl rfl ?_
      refine z_get C fX4_rejectWhole_30 0 dX4_rejectWhole_16 rfl rfl ?_
      refine z_iload_n C 3 dX4_rejectWhole_19 rfl rfl ?_
      refine z_iload_n C 1 dX4_rejectWhole_20 rfl rfl ?_
      refine z_callVr C kX0_rests gX4_rejectWhole_X0_rests (mX0_rests X.2.1 (a 6) (a 7) g' (mK S) k x hM h_1 hx) dX4_rejectWhole_21 [6, 7] [] 6 rfl nd_6_7 rfl rfl rfl (by decide) (by decide) (Nat.le_of_ble_eq_true rfl) rfl ?_
      refine z_bif_eq C 40 dX4_rejectWhole_24 (by decide) (fun h_8 => ?_) (fun h_8 => ?_)
      · refine z_iinc C (nI (k + 1)) dX4_rejectWhole_40 rfl (zi_1 _) ?_
        refine z_goto C 4 dX4_rejectWhole_43 (by decide) ?_
        exact ih4 (mK S - (k + 1)) (by omega) (k + 1) g' n9 rfl (by omega) (by rw [hg, zrs_mk (Nat.le_refl _)] at h_8; subst hg; first | exact (zMk_y (p := (fun j => zrs (fA S) j x)) h_8).symm | exact (zMk_n (p := (fun j => zrs (fA S) j x)) h_8).symm) (by rw [hg, zrs_mk (Nat.le_refl _)] at h_8; subst hn; first | exact (zc_y (p := (fun j => zrs (fA S) j x)) h_8).symm | exact (zc_n (p := (fun j => zrs (fA S) j x)) h_8).symm) (by omega)
      · refine z_aload_n C 0 dX4_rejectWhole_27 rfl rfl ?_
        refine z_get C fX4_rejectWhole_30 0 dX4_rejectWhole_28 rfl rfl ?_
        refine z_iload_n C 3 dX4_rejectWhole_31 rfl rfl ?_
        refine z_iconst C (nI 2) dX4_rejectWhole_32 (by decide) ?_
        refine z_iconst C (nI 2) dX4_rejectWhole_33 (by decide) ?_
        refine z_callVv (wn := [((a 0), .inr (4, [.ref (a 1), .ref (a 3), .ref (a 5), .ref (a 6), .int (zb (tK S))])), ((a 1), .inr (2, [.ref (a 2), .int (nI (rU S))])), ((a 2), .inl (X.2.1.2.2.1, 12, .inl (rO S))), ((a 3), .inr (2, [.ref (a 4), .int (nI (cU S))])), ((a 4), .inl (X.2.1.2.2.1, 8, .inl (cO S))), ((a 5), .inl (X.2.1.2.2.1, 96, .inl (bS S))), ((a 6), .inr (0, [.ref (a 7), .int (nI (mK S))])), ((a 7), .inl (X.2.1.2.2.1, 360, .inl (upd g' (6 * k + 2) (nI 2))))]) C kX0_put gX4_rejectWhole_X0_put (mX0_put X.2.1 (a 6) (a 7) g' (mK S) k 2 (nI 2) hM h_1 (by first | assumption | omega)) dX4_rejectWhole_34 [6, 7] [] 6 rfl rfl nd_6_7 rfl rfl rfl (by decide) (by decide) (Nat.le_of_ble_eq_true rfl) rfl rfl ?_
        refine z_iinc C (nI (n9 + 1)) dX4_rejectWhole_37 rfl (zi_1 _) ?_
        refine z_iinc C (nI (k + 1)) dX4_rejectWhole_40 rfl (zi_1 _) ?_
        refine z_goto C 4 dX4_rejectWhole_43 (by decide) ?_
        exact ih4 (mK S - (k + 1)) (by omega) (k + 1) (upd g' (6 * k + 2) (nI 2)) (n9 + 1) rfl (by omega) (by rw [hg, zrs_mk (Nat.le_refl _)] at h_8; subst hg; first | exact (zMk_y (p := (fun j => zrs (fA S) j x)) h_8).symm | exact (zMk_n (p := (fun j => zrs (fA S) j x)) h_8).symm) (by rw [hg, zrs_mk (Nat.le_refl _)] at h_8; subst hn; first | exact (zc_y (p := (fun j => zrs (fA S) j x)) h_8).symm | exact (zc_n (p := (fun j => zrs (fA S) j x)) h_8).symm) (by omega)
  exact hL4 _ 0 (fA S) 0 rfl (by omega) ((zMk_0 _ _ _).symm) (rfl) (by omega)

