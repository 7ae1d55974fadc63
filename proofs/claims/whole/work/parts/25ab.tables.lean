theorem kX4_acceptWhole : zY yX4_acceptWhole wsX4_acceptWhole cX4_acceptWhole 4 (some .int) 1 := ⟨⟨_, rfl⟩, ⟨by decide +kernel, by decide +kernel, by decide +kernel⟩, by decide +kernel⟩
theorem fX4_acceptWhole_30 : zF wsX4_acceptWhole RX4 30 4 3 RX4 TX4 5 := ⟨by decide +kernel, rfl, by decide, by decide +kernel, rfl⟩
theorem fX4_acceptWhole_128 : zF wsX4_acceptWhole RX4 128 0 1 RX0 TX0 2 := ⟨by decide +kernel, rfl, by decide, by decide +kernel, rfl⟩
set_option maxHeartbeats 4000000 in
set_option maxRecDepth 100000 in
theorem mX4_acceptWhole (E : zE) (a : Nat → Nat) (S : zSt) (x : Nat) (hS : okS S) (hx : x < mK S) : zM E yX4_acceptWhole wsX4_acceptWhole 6 [.ref (a 0), .int (nI x)] [((a 0), .inr (4, [.ref (a 1), .ref (a 3), .ref (a 5), .ref (a 6), .int (zb (tK S))])), ((a 1), .inr (2, [.ref (a 2), .int (nI (rU S))])), ((a 2), .inl (E.2.2.1, 12, .inl (rO S))), ((a 3), .inr (2, [.ref (a 4), .int (nI (cU S))])), ((a 4), .inl (E.2.2.1, 8, .inl (cO S))), ((a 5), .inl (E.2.2.1, 96, .inl (bS S))), ((a 6), .inr (0, [.ref (a 7), .int (nI (mK S))])), ((a 7), .inl (E.2.2.1, 360, .inl (fA S)))] [((a 0), .inr (4, [.ref (a 1), .ref (a 3), .ref (a 5), .ref (a 6), .int (zb (tK (zAW S x)))])), ((a 1), .inr (2, [.ref (a 2), .int (nI (rU (zAW S x)))])), ((a 2), .inl (E.2.2.1, 12, .inl (rO (zAW S x)))), ((a 3), .inr (2, [.ref (a 4), .int (nI (cU (zAW S x)))])), ((a 4), .inl (E.2.2.1, 8, .inl (cO (zAW S x)))), ((a 5), .inl (E.2.2.1, 96, .inl (bS (zAW S x)))), ((a 6), .inr (0, [.ref (a 7), .int (nI (mK (zAW S x)))])), ((a 7), .inl (E.2.2.1, 360, .inl (fA (zAW S x))))] (some (.int (nI (zAWn S x)))) := by
  refine zM.of kX4_acceptWhole (Nat.le_of_ble_eq_true rfl) rfl [some (.ref (a 0)), some (.int (nI x)), none, none] rfl (Nat.le_of_ble_eq_true rfl) ?_
  intro X eX C N
  subst eX
  obtain ⟨hur, huc, hM⟩ := id hS
  refine z_iconst C (nI 0) dX4_acceptWhole_0 (by decide) ?_
  refine z_istore_n C 2 dX4_acceptWhole_1 rfl (Nat.le_of_ble_eq_true rfl) ?_
  refine z_iconst C (nI 0) dX4_acceptWhole_2 (by decide) ?_
  refine z_istore_n C 3 dX4_acceptWhole_3 rfl (Nat.le_of_ble_eq_true rfl) ?_
  have hL4 : ∀ (dd : Nat) (k : Nat) (S' : zSt) (n9 : Nat), mK S - k = dd → (k ≤ mK S) → (S' = (zAL S x k).1) → (n9 = (zAL S x k).2) → (okS S') → (mK S' = mK S) → (n9 ≤ k) → zG X 0 0 [((a 0), .inr (4, [.ref (a 1), .ref (a 3), .ref (a 5), .ref (a 6), .int (zb (tK S'))])), ((a 1), .inr (2, [.ref (a 2), .int (nI (rU S'))])), ((a 2), .inl (X.2.1.2.2.1, 12, .inl (rO S'))), ((a 3), .inr (2, [.ref (a 4), .int (nI (cU S'))])), ((a 4), .inl (X.2.1.2.2.1, 8, .inl (cO S'))), ((a 5), .inl (X.2.1.2.2.1, 96, .inl (bS S'))), ((a 6), .inr (0, [.ref (a 7), .int (nI (mK S'))])), ((a 7), .inl (X.2.1.2.2.1, 360, .inl (fA S')))] [some (.ref (a 0)), some (.int (nI x)), some (.int (nI n9)), some (.int (nI k))] [] 4 := by
    intro dd
    induction dd using Nat.strongRecOn with
    | _ dd ih4 =>
    intro k S' n9 hdd hk hS' hn hok hmk hnb
    obtain ⟨hur2, huc2, hM2⟩ := id hok
    refine z_iload_n C 3 dX4_acceptWhole_4 rfl rfl ?_
    refine z_aload_n C 0 dX4_acceptWhole_5 rfl rfl ?_
    refine z_get C fX4_acceptWhole_30 0 dX4_acceptWhole_6 rfl rfl ?_
    refine z_get C fX4_acceptWhole_128 6 dX4_acceptWhole_9 rfl rfl ?_
    refine z_ncmp_ge C 41 dX4_acceptWhole_12 (by decide) (by omega) (by omega) (fun h_1 => ?_) (fun h_1 => ?_)
    · refine z_aload_n C 0 dX4_acceptWhole_41 rfl rfl ?_
      refine z_iload_n C 1 dX4_acceptWhole_42 rfl rfl ?_
      refine z_callVv (wn := [((a 0), .inr (4, [.ref (a 1), .ref (a 3), .ref (a 5), .ref (a 6), .int (zb (tK (zAA S' x)))])), ((a 1), .inr (2, [.ref (a 2), .int (nI (rU (zAA S' x)))])), ((a 2), .inl (X.2.1.2.2.1, 12, .inl (rO (zAA S' x)))), ((a 3), .inr (2, [.ref (a 4), .int (nI (cU (zAA S' x)))])), ((a 4), .inl (X.2.1.2.2.1, 8, .inl (cO (zAA S' x)))), ((a 5), .inl (X.2.1.2.2.1, 96, .inl (bS (zAA S' x)))), ((a 6), .inr (0, [.ref (a 7), .int (nI (mK (zAA S' x)))])), ((a 7), .inl (X.2.1.2.2.1, 360, .inl (fA (zAA S' x))))]) C kX4_acceptAlone gX4_acceptWhole_X4_acceptAlone (mX4_acceptAlone X.2.1 a S' x hok (by first | assumption | omega)) dX4_acceptWhole_43 [0, 1, 2, 3, 4, 5, 6, 7] [] 0 rfl rfl nd_0_1_2_3_4_5_6_7 rfl rfl rfl (by decide) (by decide) (Nat.le_of_ble_eq_true rfl) rfl rfl ?_
      refine z_iload_n C 2 dX4_acceptWhole_46 rfl rfl ?_
      refine z_iconst C (nI 1) dX4_acceptWhole_47 (by decide) ?_
      refine z_iadd C dX4_acceptWhole_48 ?_
      refine z_top (y := nI (n9 + 1)) (nI_add _ _) ?_
      exact z_iret C N dX4_acceptWhole_49 (by rw [show S' = (zAL S x (mK S)).1 by rw [hS', show k = mK S by omega]] <;> rfl) (by rw [hn, show k = mK S by omega]; rfl)
    · refine z_aload_n C 0 dX4_acceptWhole_15 rfl rfl ?_
      refine z_get C fX4_acceptWhole_30 0 dX4_acceptWhole_16 rfl rfl ?_
      refine z_iload_n C 1 dX4_acceptWhole_19 rfl rfl ?_
      refine z_iload_n C 3 dX4_acceptWhole_20 rfl rfl ?_
      refine z_callVr C kX0_rests gX4_acceptWhole_X0_rests (mX0_rests X.2.1 (a 6) (a 7) (fA S') (mK S') x k hM2 (by first | assumption | omega) h_1) dX4_acceptWhole_21 [6, 7] [] 6 rfl nd_6_7 rfl rfl rfl (by decide) (by decide) (Nat.le_of_ble_eq_true rfl) rfl ?_
      refine z_bif_eq C 35 dX4_acceptWhole_24 (by decide) (fun h_2 => ?_) (fun h_2 => ?_)
      · refine z_iinc C (nI (k + 1)) dX4_acceptWhole_35 rfl (zi_1 _) ?_
        refine z_goto C 4 dX4_acceptWhole_38 (by decide) ?_
        exact ih4 (mK S - (k + 1)) (by omega) (k + 1) S' n9 rfl (by omega) (by subst hS' hn; simp [zAL, h_1, h_2]) (by subst hS' hn; simp [zAL, h_1, h_2]) (hok) (hmk) (by omega)
      · refine z_aload_n C 0 dX4_acceptWhole_27 rfl rfl ?_
        refine z_iload_n C 3 dX4_acceptWhole_28 rfl rfl ?_
        refine z_callVv (wn := [((a 0), .inr (4, [.ref (a 1), .ref (a 3), .ref (a 5), .ref (a 6), .int (zb (tK (zAA S' k)))])), ((a 1), .inr (2, [.ref (a 2), .int (nI (rU (zAA S' k)))])), ((a 2), .inl (X.2.1.2.2.1, 12, .inl (rO (zAA S' k)))), ((a 3), .inr (2, [.ref (a 4), .int (nI (cU (zAA S' k)))])), ((a 4), .inl (X.2.1.2.2.1, 8, .inl (cO (zAA S' k)))), ((a 5), .inl (X.2.1.2.2.1, 96, .inl (bS (zAA S' k)))), ((a 6), .inr (0, [.ref (a 7), .int (nI (mK (zAA S' k)))])), ((a 7), .inl (X.2.1.2.2.1, 360, .inl (fA (zAA S' k))))]) C kX4_acceptAlone gX4_acceptWhole_X4_acceptAlone (mX4_acceptAlone X.2.1 a S' k hok h_1) dX4_acceptWhole_29 [0, 1, 2, 3, 4, 5, 6, 7] [] 0 rfl rfl nd_0_1_2_3_4_5_6_7 rfl rfl rfl (by decide) (by decide) (Nat.le_of_ble_eq_true rfl) rfl rfl ?_
        refine z_iinc C (nI (n9 + 1)) dX4_acceptWhole_32 rfl (zi_1 _) ?_
        refine z_iinc C (nI (k + 1)) dX4_acceptWhole_35 rfl (zi_1 _) ?_
        refine z_goto C 4 dX4_acceptWhole_38 (by decide) ?_
        exact ih4 (mK S - (k + 1)) (by omega) (k + 1) (zAA S' k) (n9 + 1) rfl (by omega) (by subst hS' hn; simp [zAL, h_1, h_2]) (by subst hS' hn; simp [zAL, h_1, h_2]) (okS_AA hok) ((mK_AA _ _).trans hmk) (by omega)
  exact hL4 _ 0 S 0 rfl (by omega) (rfl) (rfl) (hS) (rfl) (by omega)

