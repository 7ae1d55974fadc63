set_option maxHeartbeats 400000 in
set_option maxRecDepth 100000 in
theorem mX6_settle_mn0 (E : zE) (a : Nat → Nat) (kp ty pl : Nat) (gd : Bool) (od : Nat) (s t : zMs) (Q : Nat → zMs)  (hO : okM (nU s) (nS s) (nM s) (nK s)) (hk4 : kp ≤ 4) (hz : zf (mFo (nZ s) (nY s) (-1)) (nM s) < 0) : zM E yX6_settle wsX6_settle 5 [.ref (a 0), .int (-1), .int (nI 0)] [((a 0), .inr (6, [.ref (a 1), .ref (a 2), .ref (a 3), .int (nI kp), .int (nI ty), .ref (a 4), .int (nI pl), .int (zb gd), .int (nI od), .ref (a 5)])), ((a 1), .inl (E.2.2.1, 512, .inl (zMr s))), ((a 2), .inl (E.2.2.1, 512, .inl (zMr t))), ((a 3), .inl (E.2.2.1, 2048, .inl (zHi Q)))] [((a 0), .inr (6, [.ref (a 1), .ref (a 2), .ref (a 3), .int (nI kp), .int (nI ty), .ref (a 4), .int (nI pl), .int (zb gd), .int (nI od), .ref (a 5)])), ((a 1), .inl (E.2.2.1, 512, .inl (zMr s))), ((a 2), .inl (E.2.2.1, 512, .inl (zMr t))), ((a 3), .inl (E.2.2.1, 2048, .inl (zHi Q)))] (some (.int (-4))) := by
  refine zM.of kX6_settle (Nat.le_of_ble_eq_true rfl) rfl [some (.ref (a 0)), some (.int (-1)), some (.int (nI 0)), none] rfl (Nat.le_of_ble_eq_true rfl) ?_
  intro X eX C N
  subst eX
  obtain ⟨hu0, hu1, hM, hk1, hk2, hk3⟩ := id hO
  refine z_iload_n C 1 dX6_settle_0 rfl rfl ?_
  refine z_iconst C (-1) dX6_settle_1 (by decide) ?_
  refine z_icmp_eq_t C 14 dX6_settle_2 (by decide) (by decide) ?_
  refine z_aload_n C 0 dX6_settle_14 rfl rfl ?_
  refine z_iload_n C 1 dX6_settle_15 rfl rfl ?_
  refine z_callVr C kX6_firstOf gX6_settle_X6_firstOf (mX6_firstOf X.2.1 a kp ty pl gd od (nU s) (nS s) (nN s) (nX s) (nM s) (nT s) (nB s) (nK s) (nY s) (nZ s) (nR s) (nC s) (nV s) (-1) hO) dX6_settle_16 [0, 1] [] 0 rfl nd_0_1 rfl rfl rfl (by decide) (by decide) (Nat.le_of_ble_eq_true rfl) rfl ?_
  refine z_if_ge_f C 25 dX6_settle_19 (by decide) (Int32.not_le.mpr hz) ?_
  refine z_bipush C (-4) dX6_settle_22 (by decide) ?_
  exact z_iret C N dX6_settle_24 (rfl) (rfl)

set_option maxHeartbeats 400000 in
set_option maxRecDepth 100000 in
theorem mX6_settle_m0 (E : zE) (a : Nat → Nat) (kp ty pl : Nat) (gd : Bool) (od : Nat) (s t : zMs) (Q : Nat → zMs)  (hO : okM (nU s) (nS s) (nM s) (nK s)) (hk4 : kp ≤ 4) (hz : ¬ zf (mFo (nZ s) (nY s) (-1)) (nM s) < 0) (hS : ∀ k, k ≤ nM s → okM (nU (mSL s (-1) false k).1) (nS (mSL s (-1) false k).1) (nM (mSL s (-1) false k).1) (nK (mSL s (-1) false k).1) ∧ (k < nM s → mFo (nZ (mSL s (-1) false k).1) (nY (mSL s (-1) false k).1) (-1) k = true → lnX (nK (mSL s (-1) false k).1) (nR (mSL s (-1) false k).1) (nC (mSL s (-1) false k).1) (nS (mSL s (-1) false k).1) (nN (mSL s (-1) false k).1) (nU (mSL s (-1) false k).1) k)) : zM E yX6_settle wsX6_settle 5 [.ref (a 0), .int (-1), .int (nI 0)] [((a 0), .inr (6, [.ref (a 1), .ref (a 2), .ref (a 3), .int (nI kp), .int (nI ty), .ref (a 4), .int (nI pl), .int (zb gd), .int (nI od), .ref (a 5)])), ((a 1), .inl (E.2.2.1, 512, .inl (zMr s))), ((a 2), .inl (E.2.2.1, 512, .inl (zMr t))), ((a 3), .inl (E.2.2.1, 2048, .inl (zHi Q)))] [((a 0), .inr (6, [.ref (a 1), .ref (a 2), .ref (a 3), .int (nI (mHk (nI ((mSL s (-1) false (nM s)).2)) kp)), .int (nI ty), .ref (a 4), .int (nI pl), .int (zb gd), .int (nI od), .ref (a 5)])), ((a 1), .inl (E.2.2.1, 512, .inl (zMr ((mSL s (-1) false (nM s)).1)))), ((a 2), .inl (E.2.2.1, 512, .inl (zMr s))), ((a 3), .inl (E.2.2.1, 2048, .inl (zHi (mHq (nI ((mSL s (-1) false (nM s)).2)) Q kp s))))] (some (.int (nI ((mSL s (-1) false (nM s)).2)))) := by
  refine zM.of kX6_settle (Nat.le_of_ble_eq_true rfl) rfl [some (.ref (a 0)), some (.int (-1)), some (.int (nI 0)), none] rfl (Nat.le_of_ble_eq_true rfl) ?_
  intro X eX C N
  subst eX
  obtain ⟨hu0, hu1, hM, hk1, hk2, hk3⟩ := id hO
  refine z_iload_n C 1 dX6_settle_0 rfl rfl ?_
  refine z_iconst C (-1) dX6_settle_1 (by decide) ?_
  refine z_icmp_eq_t C 14 dX6_settle_2 (by decide) (by decide) ?_
  refine z_aload_n C 0 dX6_settle_14 rfl rfl ?_
  refine z_iload_n C 1 dX6_settle_15 rfl rfl ?_
  refine z_callVr C kX6_firstOf gX6_settle_X6_firstOf (mX6_firstOf X.2.1 a kp ty pl gd od (nU s) (nS s) (nN s) (nX s) (nM s) (nT s) (nB s) (nK s) (nY s) (nZ s) (nR s) (nC s) (nV s) (-1) hO) dX6_settle_16 [0, 1] [] 0 rfl nd_0_1 rfl rfl rfl (by decide) (by decide) (Nat.le_of_ble_eq_true rfl) rfl ?_
  refine z_if_ge_t C 25 dX6_settle_19 (by decide) (Int32.not_lt.mp hz) ?_
  refine z_aload_n C 0 dX6_settle_25 rfl rfl ?_
  refine z_callVv (wn := [((a 0), .inr (6, [.ref (a 1), .ref (a 2), .ref (a 3), .int (nI kp), .int (nI ty), .ref (a 4), .int (nI pl), .int (zb gd), .int (nI od), .ref (a 5)])), ((a 1), .inl (X.2.1.2.2.1, 512, .inl (zMr s))), ((a 2), .inl (X.2.1.2.2.1, 512, .inl (zMr s))), ((a 3), .inl (X.2.1.2.2.1, 2048, .inl (zHi Q)))]) C kX6_begin gX6_settle_X6_begin (mX6_begin X.2.1 a kp ty pl gd od s t ) dX6_settle_26 [0, 1, 2] [] 0 rfl rfl nd_0_1_2 rfl rfl rfl (by decide) (by decide) (Nat.le_of_ble_eq_true rfl) rfl rfl ?_
  refine z_iconst C (nI 0) dX6_settle_29 (by decide) ?_
  refine z_istore_n C 3 dX6_settle_30 rfl (Nat.le_of_ble_eq_true rfl) ?_
  have hL31 : ∀ (dd : Nat) (k : Nat) (s' : zMs) (n9 : Nat), nM s - k = dd → (k ≤ nM s) → (s' = (mSL s (-1) false k).1) → (n9 = (mSL s (-1) false k).2) → (∀ j, j < k → mFo (nZ s') (nY s') (-1) j = false) → zG X 0 0 [((a 0), .inr (6, [.ref (a 1), .ref (a 2), .ref (a 3), .int (nI kp), .int (nI ty), .ref (a 4), .int (nI pl), .int (zb gd), .int (nI od), .ref (a 5)])), ((a 1), .inl (X.2.1.2.2.1, 512, .inl (zMr s'))), ((a 2), .inl (X.2.1.2.2.1, 512, .inl (zMr s))), ((a 3), .inl (X.2.1.2.2.1, 2048, .inl (zHi Q)))] [some (.ref (a 0)), some (.int (-1)), some (.int (nI 0)), some (.int (nI n9))] [] 31 := by
    intro dd
    induction dd using Nat.strongRecOn with
    | _ dd ih31 =>
    intro k s' n9 hdd hk hs' hn hno
    have hO9 : okM (nU s') (nS s') (nM s') (nK s') := by rw [hs']; exact (hS k hk).1
    have hM9 : nM s' = nM s := by rw [hs']; exact nM_SL s (-1) false k
    refine z_aload_n C 0 dX6_settle_31 rfl rfl ?_
    refine z_iload_n C 1 dX6_settle_32 rfl rfl ?_
    refine z_callVr C kX6_firstOf gX6_settle_X6_firstOf (mX6_firstOf X.2.1 a kp ty pl gd od (nU s') (nS s') (nN s') (nX s') (nM s') (nT s') (nB s') (nK s') (nY s') (nZ s') (nR s') (nC s') (nV s') (-1) hO9) dX6_settle_33 [0, 1] [] 0 rfl nd_0_1 rfl rfl rfl (by decide) (by decide) (Nat.le_of_ble_eq_true rfl) rfl ?_
    refine z_if_lt C 70 dX6_settle_36 (by decide) (fun h_1 => ?_) (fun h_1 => ?_)
    · have hq9 : mSL s (-1) false (nM s) = mSL s (-1) false k := mSL_to hk (fun j hj => by rw [← hs']; exact zf_ng (by omega) (by rw [← hM9]; exact h_1) j hj)
      refine z_aload_n C 0 dX6_settle_70 rfl rfl ?_
      refine z_iload_n C 3 dX6_settle_71 rfl rfl ?_
      refine z_callV (wn := [((a 0), .inr (6, [.ref (a 1), .ref (a 2), .ref (a 3), .int (nI (mHk (nI n9) kp)), .int (nI ty), .ref (a 4), .int (nI pl), .int (zb gd), .int (nI od), .ref (a 5)])), ((a 1), .inl (X.2.1.2.2.1, 512, .inl (zMr s'))), ((a 2), .inl (X.2.1.2.2.1, 512, .inl (zMr s))), ((a 3), .inl (X.2.1.2.2.1, 2048, .inl (zHi (mHq (nI n9) Q kp s))))]) C kX6_done gX6_settle_X6_done (mX6_done X.2.1 a kp ty pl gd od s Q (nI n9) hk4) dX6_settle_72 [0, 2, 3] [] 0 rfl rfl nd_0_2_3 rfl rfl rfl (by decide) (by decide) (Nat.le_of_ble_eq_true rfl) rfl rfl ?_
      exact z_iret C N dX6_settle_75 (by rw [hq9, ← hn, ← hs'] <;> rfl) (by rw [hq9, ← hn])
    · refine z_iload_n C 3 dX6_settle_39 rfl rfl ?_
      refine z_iload_n C 2 dX6_settle_40 rfl rfl ?_
      refine z_nif_eq_t C 56 dX6_settle_41 (by decide) (by omega) (by omega) ?_
      refine z_aload_n C 0 dX6_settle_56 rfl rfl ?_
      refine z_aload_n C 0 dX6_settle_57 rfl rfl ?_
      refine z_iload_n C 1 dX6_settle_58 rfl rfl ?_
      refine z_callVr C kX6_firstOf gX6_settle_X6_firstOf (mX6_firstOf X.2.1 a kp ty pl gd od (nU s') (nS s') (nN s') (nX s') (nM s') (nT s') (nB s') (nK s') (nY s') (nZ s') (nR s') (nC s') (nV s') (-1) hO9) dX6_settle_59 [0, 1] [.ref (a 0), .int (nI n9)] 0 rfl nd_0_1 rfl rfl rfl (by decide) (by decide) (Nat.le_of_ble_eq_true rfl) rfl ?_
      have hf9 : (zix (mFo (nZ s') (nY s') (-1)) (nM s)) < nM s := zf_nn (by omega) (by rw [← hM9]; exact h_1)
      have hk8 : k ≤ (zix (mFo (nZ s') (nY s') (-1)) (nM s)) := (Nat.lt_or_ge (zix (mFo (nZ s') (nY s') (-1)) (nM s)) k).elim (fun q => absurd (zix_p hf9) (by rw [hno _ q]; decide)) id
      refine z_top (y := nI (zix (mFo (nZ s') (nY s') (-1)) (nM s))) (by rw [hM9]; exact zf_ix (by omega) hf9) ?_
      refine z_callV (wn := [((a 0), .inr (6, [.ref (a 1), .ref (a 2), .ref (a 3), .int (nI kp), .int (nI ty), .ref (a 4), .int (nI pl), .int (zb gd), .int (nI od), .ref (a 5)])), ((a 1), .inl (X.2.1.2.2.1, 512, .inl (zMr (mRW s' (zix (mFo (nZ s') (nY s') (-1)) (nM s)))))), ((a 2), .inl (X.2.1.2.2.1, 512, .inl (zMr s))), ((a 3), .inl (X.2.1.2.2.1, 2048, .inl (zHi Q)))]) C kX6_rejectWith gX6_settle_X6_rejectWith (mX6_rejectWith X.2.1 a kp ty pl gd od s' (zix (mFo (nZ s') (nY s') (-1)) (nM s)) hO9 ((by rw [hM9]; exact hf9)) ((show lnX (nK s') (nR s') (nC s') (nS s') (nN s') (nU s') (zix (mFo (nZ s') (nY s') (-1)) (nM s)) from by subst hs'; have h7 := mSL_fx hno hf9; have h6 := (hS _ (Nat.le_of_lt hf9)).2 hf9 h7.2; rw [h7.1] at h6; exact h6))) dX6_settle_62 [0, 1] [.int (nI n9)] 0 rfl rfl nd_0_1 rfl rfl rfl (by decide) (by decide) (Nat.le_of_ble_eq_true rfl) rfl rfl ?_
      have hg_2 : mRWn s' (zix (mFo (nZ s') (nY s') (-1)) (nM s)) ≤ nM s' + 1 := Nat.succ_le_succ (zc_le _ _)
      refine z_iadd C dX6_settle_65 ?_
      refine z_top (y := nI (n9 + (mRWn s' (zix (mFo (nZ s') (nY s') (-1)) (nM s))))) (nI_add _ _) ?_
      refine z_istore_n C 3 dX6_settle_66 rfl (Nat.le_of_ble_eq_true rfl) ?_
      refine z_goto C 31 dX6_settle_67 (by decide) ?_
      exact ih31 (nM s - ((zix (mFo (nZ s') (nY s') (-1)) (nM s)) + 1)) (by omega) ((zix (mFo (nZ s') (nY s') (-1)) (nM s)) + 1) (mRW s' (zix (mFo (nZ s') (nY s') (-1)) (nM s))) (n9 + (mRWn s' (zix (mFo (nZ s') (nY s') (-1)) (nM s)))) rfl (by omega) (by subst hs' hn; exact (congrArg Prod.fst (mSL_fr hno hf9)).symm) (by subst hs' hn; exact (congrArg Prod.snd (mSL_fr hno hf9)).symm) (mFo_RW (fun j hj => zix_ff j hj))
  exact hL31 _ 0 s 0 rfl (by omega) (rfl) (rfl) (fun j h => absurd h (Nat.not_lt_zero j))

set_option maxHeartbeats 400000 in
set_option maxRecDepth 100000 in
theorem mX6_settle_an1 (E : zE) (a : Nat → Nat) (kp ty pl : Nat) (gd : Bool) (od : Nat) (s t : zMs) (Q : Nat → zMs) (au : Nat) (hO : okM (nU s) (nS s) (nM s) (nK s)) (hk4 : kp ≤ 4) (hau : au < 4) (hz : zf (mFo (nZ s) (nY s) (nI au)) (nM s) < 0) : zM E yX6_settle wsX6_settle 5 [.ref (a 0), .int (nI au), .int (nI 1)] [((a 0), .inr (6, [.ref (a 1), .ref (a 2), .ref (a 3), .int (nI kp), .int (nI ty), .ref (a 4), .int (nI pl), .int (zb gd), .int (nI od), .ref (a 5)])), ((a 1), .inl (E.2.2.1, 512, .inl (zMr s))), ((a 2), .inl (E.2.2.1, 512, .inl (zMr t))), ((a 3), .inl (E.2.2.1, 2048, .inl (zHi Q)))] [((a 0), .inr (6, [.ref (a 1), .ref (a 2), .ref (a 3), .int (nI kp), .int (nI ty), .ref (a 4), .int (nI pl), .int (zb gd), .int (nI od), .ref (a 5)])), ((a 1), .inl (E.2.2.1, 512, .inl (zMr s))), ((a 2), .inl (E.2.2.1, 512, .inl (zMr t))), ((a 3), .inl (E.2.2.1, 2048, .inl (zHi Q)))] (some (.int (-4))) := by
  refine zM.of kX6_settle (Nat.le_of_ble_eq_true rfl) rfl [some (.ref (a 0)), some (.int (nI au)), some (.int (nI 1)), none] rfl (Nat.le_of_ble_eq_true rfl) ?_
  intro X eX C N
  subst eX
  obtain ⟨hu0, hu1, hM, hk1, hk2, hk3⟩ := id hO
  refine z_iload_n C 1 dX6_settle_0 rfl rfl ?_
  refine z_iconst C (-1) dX6_settle_1 (by decide) ?_
  refine z_icmp_eq_f C 14 dX6_settle_2 (by decide) (nI_m1 (by omega)) ?_
  refine z_iload_n C 1 dX6_settle_5 rfl rfl ?_
  refine z_callS C kX6_noAuthor gX6_settle_X6_noAuthor (mX6_noAuthor_y X.2.1 au hau) dX6_settle_6 [] rfl (by decide) (by decide) (Nat.le_of_ble_eq_true rfl) rfl ?_
  refine z_bif_eq_t C 14 dX6_settle_9 (by decide) rfl ?_
  refine z_aload_n C 0 dX6_settle_14 rfl rfl ?_
  refine z_iload_n C 1 dX6_settle_15 rfl rfl ?_
  refine z_callVr C kX6_firstOf gX6_settle_X6_firstOf (mX6_firstOf X.2.1 a kp ty pl gd od (nU s) (nS s) (nN s) (nX s) (nM s) (nT s) (nB s) (nK s) (nY s) (nZ s) (nR s) (nC s) (nV s) (nI au) hO) dX6_settle_16 [0, 1] [] 0 rfl nd_0_1 rfl rfl rfl (by decide) (by decide) (Nat.le_of_ble_eq_true rfl) rfl ?_
  refine z_if_ge_f C 25 dX6_settle_19 (by decide) (Int32.not_le.mpr hz) ?_
  refine z_bipush C (-4) dX6_settle_22 (by decide) ?_
  exact z_iret C N dX6_settle_24 (rfl) (rfl)

set_option maxHeartbeats 400000 in
set_option maxRecDepth 100000 in
theorem mX6_settle_a1 (E : zE) (a : Nat → Nat) (kp ty pl : Nat) (gd : Bool) (od : Nat) (s t : zMs) (Q : Nat → zMs) (au : Nat) (hO : okM (nU s) (nS s) (nM s) (nK s)) (hk4 : kp ≤ 4) (hau : au < 4) (hz : ¬ zf (mFo (nZ s) (nY s) (nI au)) (nM s) < 0) (hS : ∀ k, k ≤ nM s → okM (nU (mSL s (nI au) true k).1) (nS (mSL s (nI au) true k).1) (nM (mSL s (nI au) true k).1) (nK (mSL s (nI au) true k).1) ∧ (k < nM s → mFo (nZ (mSL s (nI au) true k).1) (nY (mSL s (nI au) true k).1) (nI au) k = true → gAW (mSL s (nI au) true k).1 k)) : zM E yX6_settle wsX6_settle 5 [.ref (a 0), .int (nI au), .int (nI 1)] [((a 0), .inr (6, [.ref (a 1), .ref (a 2), .ref (a 3), .int (nI kp), .int (nI ty), .ref (a 4), .int (nI pl), .int (zb gd), .int (nI od), .ref (a 5)])), ((a 1), .inl (E.2.2.1, 512, .inl (zMr s))), ((a 2), .inl (E.2.2.1, 512, .inl (zMr t))), ((a 3), .inl (E.2.2.1, 2048, .inl (zHi Q)))] [((a 0), .inr (6, [.ref (a 1), .ref (a 2), .ref (a 3), .int (nI (mHk (nI ((mSL s (nI au) true (nM s)).2)) kp)), .int (nI ty), .ref (a 4), .int (nI pl), .int (zb gd), .int (nI od), .ref (a 5)])), ((a 1), .inl (E.2.2.1, 512, .inl (zMr ((mSL s (nI au) true (nM s)).1)))), ((a 2), .inl (E.2.2.1, 512, .inl (zMr s))), ((a 3), .inl (E.2.2.1, 2048, .inl (zHi (mHq (nI ((mSL s (nI au) true (nM s)).2)) Q kp s))))] (some (.int (nI ((mSL s (nI au) true (nM s)).2)))) := by
  refine zM.of kX6_settle (Nat.le_of_ble_eq_true rfl) rfl [some (.ref (a 0)), some (.int (nI au)), some (.int (nI 1)), none] rfl (Nat.le_of_ble_eq_true rfl) ?_
  intro X eX C N
  subst eX
  obtain ⟨hu0, hu1, hM, hk1, hk2, hk3⟩ := id hO
  refine z_iload_n C 1 dX6_settle_0 rfl rfl ?_
  refine z_iconst C (-1) dX6_settle_1 (by decide) ?_
  refine z_icmp_eq_f C 14 dX6_settle_2 (by decide) (nI_m1 (by omega)) ?_
  refine z_iload_n C 1 dX6_settle_5 rfl rfl ?_
  refine z_callS C kX6_noAuthor gX6_settle_X6_noAuthor (mX6_noAuthor_y X.2.1 au hau) dX6_settle_6 [] rfl (by decide) (by decide) (Nat.le_of_ble_eq_true rfl) rfl ?_
  refine z_bif_eq_t C 14 dX6_settle_9 (by decide) rfl ?_
  refine z_aload_n C 0 dX6_settle_14 rfl rfl ?_
  refine z_iload_n C 1 dX6_settle_15 rfl rfl ?_
  refine z_callVr C kX6_firstOf gX6_settle_X6_firstOf (mX6_firstOf X.2.1 a kp ty pl gd od (nU s) (nS s) (nN s) (nX s) (nM s) (nT s) (nB s) (nK s) (nY s) (nZ s) (nR s) (nC s) (nV s) (nI au) hO) dX6_settle_16 [0, 1] [] 0 rfl nd_0_1 rfl rfl rfl (by decide) (by decide) (Nat.le_of_ble_eq_true rfl) rfl ?_
  refine z_if_ge_t C 25 dX6_settle_19 (by decide) (Int32.not_lt.mp hz) ?_
  refine z_aload_n C 0 dX6_settle_25 rfl rfl ?_
  refine z_callVv (wn := [((a 0), .inr (6, [.ref (a 1), .ref (a 2), .ref (a 3), .int (nI kp), .int (nI ty), .ref (a 4), .int (nI pl), .int (zb gd), .int (nI od), .ref (a 5)])), ((a 1), .inl (X.2.1.2.2.1, 512, .inl (zMr s))), ((a 2), .inl (X.2.1.2.2.1, 512, .inl (zMr s))), ((a 3), .inl (X.2.1.2.2.1, 2048, .inl (zHi Q)))]) C kX6_begin gX6_settle_X6_begin (mX6_begin X.2.1 a kp ty pl gd od s t ) dX6_settle_26 [0, 1, 2] [] 0 rfl rfl nd_0_1_2 rfl rfl rfl (by decide) (by decide) (Nat.le_of_ble_eq_true rfl) rfl rfl ?_
  refine z_iconst C (nI 0) dX6_settle_29 (by decide) ?_
  refine z_istore_n C 3 dX6_settle_30 rfl (Nat.le_of_ble_eq_true rfl) ?_
  have hL31 : ∀ (dd : Nat) (k : Nat) (s' : zMs) (n9 : Nat), nM s - k = dd → (k ≤ nM s) → (s' = (mSL s (nI au) true k).1) → (n9 = (mSL s (nI au) true k).2) → (∀ j, j < k → mFo (nZ s') (nY s') (nI au) j = false) → zG X 0 0 [((a 0), .inr (6, [.ref (a 1), .ref (a 2), .ref (a 3), .int (nI kp), .int (nI ty), .ref (a 4), .int (nI pl), .int (zb gd), .int (nI od), .ref (a 5)])), ((a 1), .inl (X.2.1.2.2.1, 512, .inl (zMr s'))), ((a 2), .inl (X.2.1.2.2.1, 512, .inl (zMr s))), ((a 3), .inl (X.2.1.2.2.1, 2048, .inl (zHi Q)))] [some (.ref (a 0)), some (.int (nI au)), some (.int (nI 1)), some (.int (nI n9))] [] 31 := by
    intro dd
    induction dd using Nat.strongRecOn with
    | _ dd ih31 =>
    intro k s' n9 hdd hk hs' hn hno
    have hO9 : okM (nU s') (nS s') (nM s') (nK s') := by rw [hs']; exact (hS k hk).1
    have hM9 : nM s' = nM s := by rw [hs']; exact nM_SL s (nI au) true k
    refine z_aload_n C 0 dX6_settle_31 rfl rfl ?_
    refine z_iload_n C 1 dX6_settle_32 rfl rfl ?_
    refine z_callVr C kX6_firstOf gX6_settle_X6_firstOf (mX6_firstOf X.2.1 a kp ty pl gd od (nU s') (nS s') (nN s') (nX s') (nM s') (nT s') (nB s') (nK s') (nY s') (nZ s') (nR s') (nC s') (nV s') (nI au) hO9) dX6_settle_33 [0, 1] [] 0 rfl nd_0_1 rfl rfl rfl (by decide) (by decide) (Nat.le_of_ble_eq_true rfl) rfl ?_
    refine z_if_lt C 70 dX6_settle_36 (by decide) (fun h_1 => ?_) (fun h_1 => ?_)
    · have hq9 : mSL s (nI au) true (nM s) = mSL s (nI au) true k := mSL_to hk (fun j hj => by rw [← hs']; exact zf_ng (by omega) (by rw [← hM9]; exact h_1) j hj)
      refine z_aload_n C 0 dX6_settle_70 rfl rfl ?_
      refine z_iload_n C 3 dX6_settle_71 rfl rfl ?_
      refine z_callV (wn := [((a 0), .inr (6, [.ref (a 1), .ref (a 2), .ref (a 3), .int (nI (mHk (nI n9) kp)), .int (nI ty), .ref (a 4), .int (nI pl), .int (zb gd), .int (nI od), .ref (a 5)])), ((a 1), .inl (X.2.1.2.2.1, 512, .inl (zMr s'))), ((a 2), .inl (X.2.1.2.2.1, 512, .inl (zMr s))), ((a 3), .inl (X.2.1.2.2.1, 2048, .inl (zHi (mHq (nI n9) Q kp s))))]) C kX6_done gX6_settle_X6_done (mX6_done X.2.1 a kp ty pl gd od s Q (nI n9) hk4) dX6_settle_72 [0, 2, 3] [] 0 rfl rfl nd_0_2_3 rfl rfl rfl (by decide) (by decide) (Nat.le_of_ble_eq_true rfl) rfl rfl ?_
      exact z_iret C N dX6_settle_75 (by rw [hq9, ← hn, ← hs'] <;> rfl) (by rw [hq9, ← hn])
    · refine z_iload_n C 3 dX6_settle_39 rfl rfl ?_
      refine z_iload_n C 2 dX6_settle_40 rfl rfl ?_
      refine z_nif_eq_f C 56 dX6_settle_41 (by decide) (by omega) (by omega) ?_
      refine z_aload_n C 0 dX6_settle_44 rfl rfl ?_
      refine z_aload_n C 0 dX6_settle_45 rfl rfl ?_
      refine z_iload_n C 1 dX6_settle_46 rfl rfl ?_
      refine z_callVr C kX6_firstOf gX6_settle_X6_firstOf (mX6_firstOf X.2.1 a kp ty pl gd od (nU s') (nS s') (nN s') (nX s') (nM s') (nT s') (nB s') (nK s') (nY s') (nZ s') (nR s') (nC s') (nV s') (nI au) hO9) dX6_settle_47 [0, 1] [.ref (a 0), .int (nI n9)] 0 rfl nd_0_1 rfl rfl rfl (by decide) (by decide) (Nat.le_of_ble_eq_true rfl) rfl ?_
      have hf9 : (zix (mFo (nZ s') (nY s') (nI au)) (nM s)) < nM s := zf_nn (by omega) (by rw [← hM9]; exact h_1)
      have hk8 : k ≤ (zix (mFo (nZ s') (nY s') (nI au)) (nM s)) := (Nat.lt_or_ge (zix (mFo (nZ s') (nY s') (nI au)) (nM s)) k).elim (fun q => absurd (zix_p hf9) (by rw [hno _ q]; decide)) id
      refine z_top (y := nI (zix (mFo (nZ s') (nY s') (nI au)) (nM s))) (by rw [hM9]; exact zf_ix (by omega) hf9) ?_
      refine z_callV (wn := [((a 0), .inr (6, [.ref (a 1), .ref (a 2), .ref (a 3), .int (nI kp), .int (nI ty), .ref (a 4), .int (nI pl), .int (zb gd), .int (nI od), .ref (a 5)])), ((a 1), .inl (X.2.1.2.2.1, 512, .inl (zMr (mAW s' (zix (mFo (nZ s') (nY s') (nI au)) (nM s)))))), ((a 2), .inl (X.2.1.2.2.1, 512, .inl (zMr s))), ((a 3), .inl (X.2.1.2.2.1, 2048, .inl (zHi Q)))]) C kX6_acceptWith gX6_settle_X6_acceptWith (mX6_acceptWith X.2.1 a kp ty pl gd od s' (zix (mFo (nZ s') (nY s') (nI au)) (nM s)) hO9 ((by rw [hM9]; exact hf9)) ((show gAW s' (zix (mFo (nZ s') (nY s') (nI au)) (nM s)) from by subst hs'; have h7 := mSL_fx hno hf9; have h6 := (hS _ (Nat.le_of_lt hf9)).2 hf9 h7.2; rw [h7.1] at h6; exact h6).1) ((show gAW s' (zix (mFo (nZ s') (nY s') (nI au)) (nM s)) from by subst hs'; have h7 := mSL_fx hno hf9; have h6 := (hS _ (Nat.le_of_lt hf9)).2 hf9 h7.2; rw [h7.1] at h6; exact h6).2)) dX6_settle_50 [0, 1] [.int (nI n9)] 0 rfl rfl nd_0_1 rfl rfl rfl (by decide) (by decide) (Nat.le_of_ble_eq_true rfl) rfl rfl ?_
      have hg_2 : mAWn s' (zix (mFo (nZ s') (nY s') (nI au)) (nM s)) ≤ nM s' + 1 := mAL_le _ _ _
      refine z_goto C 65 dX6_settle_53 (by decide) ?_
      refine z_iadd C dX6_settle_65 ?_
      refine z_top (y := nI (n9 + (mAWn s' (zix (mFo (nZ s') (nY s') (nI au)) (nM s))))) (nI_add _ _) ?_
      refine z_istore_n C 3 dX6_settle_66 rfl (Nat.le_of_ble_eq_true rfl) ?_
      refine z_goto C 31 dX6_settle_67 (by decide) ?_
      exact ih31 (nM s - ((zix (mFo (nZ s') (nY s') (nI au)) (nM s)) + 1)) (by omega) ((zix (mFo (nZ s') (nY s') (nI au)) (nM s)) + 1) (mAW s' (zix (mFo (nZ s') (nY s') (nI au)) (nM s))) (n9 + (mAWn s' (zix (mFo (nZ s') (nY s') (nI au)) (nM s)))) rfl (by omega) (by subst hs' hn; exact (congrArg Prod.fst (mSL_fa hno hf9)).symm) (by subst hs' hn; exact (congrArg Prod.snd (mSL_fa hno hf9)).symm) (mFo_AW (fun j hj => zix_ff j hj))
  exact hL31 _ 0 s 0 rfl (by omega) (rfl) (rfl) (fun j h => absurd h (Nat.not_lt_zero j))

set_option maxHeartbeats 400000 in
set_option maxRecDepth 100000 in
theorem mX6_settle_an0 (E : zE) (a : Nat → Nat) (kp ty pl : Nat) (gd : Bool) (od : Nat) (s t : zMs) (Q : Nat → zMs) (au : Nat) (hO : okM (nU s) (nS s) (nM s) (nK s)) (hk4 : kp ≤ 4) (hau : au < 4) (hz : zf (mFo (nZ s) (nY s) (nI au)) (nM s) < 0) : zM E yX6_settle wsX6_settle 5 [.ref (a 0), .int (nI au), .int (nI 0)] [((a 0), .inr (6, [.ref (a 1), .ref (a 2), .ref (a 3), .int (nI kp), .int (nI ty), .ref (a 4), .int (nI pl), .int (zb gd), .int (nI od), .ref (a 5)])), ((a 1), .inl (E.2.2.1, 512, .inl (zMr s))), ((a 2), .inl (E.2.2.1, 512, .inl (zMr t))), ((a 3), .inl (E.2.2.1, 2048, .inl (zHi Q)))] [((a 0), .inr (6, [.ref (a 1), .ref (a 2), .ref (a 3), .int (nI kp), .int (nI ty), .ref (a 4), .int (nI pl), .int (zb gd), .int (nI od), .ref (a 5)])), ((a 1), .inl (E.2.2.1, 512, .inl (zMr s))), ((a 2), .inl (E.2.2.1, 512, .inl (zMr t))), ((a 3), .inl (E.2.2.1, 2048, .inl (zHi Q)))] (some (.int (-4))) := by
  refine zM.of kX6_settle (Nat.le_of_ble_eq_true rfl) rfl [some (.ref (a 0)), some (.int (nI au)), some (.int (nI 0)), none] rfl (Nat.le_of_ble_eq_true rfl) ?_
  intro X eX C N
  subst eX
  obtain ⟨hu0, hu1, hM, hk1, hk2, hk3⟩ := id hO
  refine z_iload_n C 1 dX6_settle_0 rfl rfl ?_
  refine z_iconst C (-1) dX6_settle_1 (by decide) ?_
  refine z_icmp_eq_f C 14 dX6_settle_2 (by decide) (nI_m1 (by omega)) ?_
  refine z_iload_n C 1 dX6_settle_5 rfl rfl ?_
  refine z_callS C kX6_noAuthor gX6_settle_X6_noAuthor (mX6_noAuthor_y X.2.1 au hau) dX6_settle_6 [] rfl (by decide) (by decide) (Nat.le_of_ble_eq_true rfl) rfl ?_
  refine z_bif_eq_t C 14 dX6_settle_9 (by decide) rfl ?_
  refine z_aload_n C 0 dX6_settle_14 rfl rfl ?_
  refine z_iload_n C 1 dX6_settle_15 rfl rfl ?_
  refine z_callVr C kX6_firstOf gX6_settle_X6_firstOf (mX6_firstOf X.2.1 a kp ty pl gd od (nU s) (nS s) (nN s) (nX s) (nM s) (nT s) (nB s) (nK s) (nY s) (nZ s) (nR s) (nC s) (nV s) (nI au) hO) dX6_settle_16 [0, 1] [] 0 rfl nd_0_1 rfl rfl rfl (by decide) (by decide) (Nat.le_of_ble_eq_true rfl) rfl ?_
  refine z_if_ge_f C 25 dX6_settle_19 (by decide) (Int32.not_le.mpr hz) ?_
  refine z_bipush C (-4) dX6_settle_22 (by decide) ?_
  exact z_iret C N dX6_settle_24 (rfl) (rfl)

set_option maxHeartbeats 400000 in
set_option maxRecDepth 100000 in
theorem mX6_settle_a0 (E : zE) (a : Nat → Nat) (kp ty pl : Nat) (gd : Bool) (od : Nat) (s t : zMs) (Q : Nat → zMs) (au : Nat) (hO : okM (nU s) (nS s) (nM s) (nK s)) (hk4 : kp ≤ 4) (hau : au < 4) (hz : ¬ zf (mFo (nZ s) (nY s) (nI au)) (nM s) < 0) (hS : ∀ k, k ≤ nM s → okM (nU (mSL s (nI au) false k).1) (nS (mSL s (nI au) false k).1) (nM (mSL s (nI au) false k).1) (nK (mSL s (nI au) false k).1) ∧ (k < nM s → mFo (nZ (mSL s (nI au) false k).1) (nY (mSL s (nI au) false k).1) (nI au) k = true → lnX (nK (mSL s (nI au) false k).1) (nR (mSL s (nI au) false k).1) (nC (mSL s (nI au) false k).1) (nS (mSL s (nI au) false k).1) (nN (mSL s (nI au) false k).1) (nU (mSL s (nI au) false k).1) k)) : zM E yX6_settle wsX6_settle 5 [.ref (a 0), .int (nI au), .int (nI 0)] [((a 0), .inr (6, [.ref (a 1), .ref (a 2), .ref (a 3), .int (nI kp), .int (nI ty), .ref (a 4), .int (nI pl), .int (zb gd), .int (nI od), .ref (a 5)])), ((a 1), .inl (E.2.2.1, 512, .inl (zMr s))), ((a 2), .inl (E.2.2.1, 512, .inl (zMr t))), ((a 3), .inl (E.2.2.1, 2048, .inl (zHi Q)))] [((a 0), .inr (6, [.ref (a 1), .ref (a 2), .ref (a 3), .int (nI (mHk (nI ((mSL s (nI au) false (nM s)).2)) kp)), .int (nI ty), .ref (a 4), .int (nI pl), .int (zb gd), .int (nI od), .ref (a 5)])), ((a 1), .inl (E.2.2.1, 512, .inl (zMr ((mSL s (nI au) false (nM s)).1)))), ((a 2), .inl (E.2.2.1, 512, .inl (zMr s))), ((a 3), .inl (E.2.2.1, 2048, .inl (zHi (mHq (nI ((mSL s (nI au) false (nM s)).2)) Q kp s))))] (some (.int (nI ((mSL s (nI au) false (nM s)).2)))) := by
  refine zM.of kX6_settle (Nat.le_of_ble_eq_true rfl) rfl [some (.ref (a 0)), some (.int (nI au)), some (.int (nI 0)), none] rfl (Nat.le_of_ble_eq_true rfl) ?_
  intro X eX C N
  subst eX
  obtain ⟨hu0, hu1, hM, hk1, hk2, hk3⟩ := id hO
  refine z_iload_n C 1 dX6_settle_0 rfl rfl ?_
  refine z_iconst C (-1) dX6_settle_1 (by decide) ?_
  refine z_icmp_eq_f C 14 dX6_settle_2 (by decide) (nI_m1 (by omega)) ?_
  refine z_iload_n C 1 dX6_settle_5 rfl rfl ?_
  refine z_callS C kX6_noAuthor gX6_settle_X6_noAuthor (mX6_noAuthor_y X.2.1 au hau) dX6_settle_6 [] rfl (by decide) (by decide) (Nat.le_of_ble_eq_true rfl) rfl ?_
  refine z_bif_eq_t C 14 dX6_settle_9 (by decide) rfl ?_
  refine z_aload_n C 0 dX6_settle_14 rfl rfl ?_
  refine z_iload_n C 1 dX6_settle_15 rfl rfl ?_
  refine z_callVr C kX6_firstOf gX6_settle_X6_firstOf (mX6_firstOf X.2.1 a kp ty pl gd od (nU s) (nS s) (nN s) (nX s) (nM s) (nT s) (nB s) (nK s) (nY s) (nZ s) (nR s) (nC s) (nV s) (nI au) hO) dX6_settle_16 [0, 1] [] 0 rfl nd_0_1 rfl rfl rfl (by decide) (by decide) (Nat.le_of_ble_eq_true rfl) rfl ?_
  refine z_if_ge_t C 25 dX6_settle_19 (by decide) (Int32.not_lt.mp hz) ?_
  refine z_aload_n C 0 dX6_settle_25 rfl rfl ?_
  refine z_callVv (wn := [((a 0), .inr (6, [.ref (a 1), .ref (a 2), .ref (a 3), .int (nI kp), .int (nI ty), .ref (a 4), .int (nI pl), .int (zb gd), .int (nI od), .ref (a 5)])), ((a 1), .inl (X.2.1.2.2.1, 512, .inl (zMr s))), ((a 2), .inl (X.2.1.2.2.1, 512, .inl (zMr s))), ((a 3), .inl (X.2.1.2.2.1, 2048, .inl (zHi Q)))]) C kX6_begin gX6_settle_X6_begin (mX6_begin X.2.1 a kp ty pl gd od s t ) dX6_settle_26 [0, 1, 2] [] 0 rfl rfl nd_0_1_2 rfl rfl rfl (by decide) (by decide) (Nat.le_of_ble_eq_true rfl) rfl rfl ?_
  refine z_iconst C (nI 0) dX6_settle_29 (by decide) ?_
  refine z_istore_n C 3 dX6_settle_30 rfl (Nat.le_of_ble_eq_true rfl) ?_
  have hL31 : ∀ (dd : Nat) (k : Nat) (s' : zMs) (n9 : Nat), nM s - k = dd → (k ≤ nM s) → (s' = (mSL s (nI au) false k).1) → (n9 = (mSL s (nI au) false k).2) → (∀ j, j < k → mFo (nZ s') (nY s') (nI au) j = false) → zG X 0 0 [((a 0), .inr (6, [.ref (a 1), .ref (a 2), .ref (a 3), .int (nI kp), .int (nI ty), .ref (a 4), .int (nI pl), .int (zb gd), .int (nI od), .ref (a 5)])), ((a 1), .inl (X.2.1.2.2.1, 512, .inl (zMr s'))), ((a 2), .inl (X.2.1.2.2.1, 512, .inl (zMr s))), ((a 3), .inl (X.2.1.2.2.1, 2048, .inl (zHi Q)))] [some (.ref (a 0)), some (.int (nI au)), some (.int (nI 0)), some (.int (nI n9))] [] 31 := by
    intro dd
    induction dd using Nat.strongRecOn with
    | _ dd ih31 =>
    intro k s' n9 hdd hk hs' hn hno
    have hO9 : okM (nU s') (nS s') (nM s') (nK s') := by rw [hs']; exact (hS k hk).1
    have hM9 : nM s' = nM s := by rw [hs']; exact nM_SL s (nI au) false k
    refine z_aload_n C 0 dX6_settle_31 rfl rfl ?_
    refine z_iload_n C 1 dX6_settle_32 rfl rfl ?_
    refine z_callVr C kX6_firstOf gX6_settle_X6_firstOf (mX6_firstOf X.2.1 a kp ty pl gd od (nU s') (nS s') (nN s') (nX s') (nM s') (nT s') (nB s') (nK s') (nY s') (nZ s') (nR s') (nC s') (nV s') (nI au) hO9) dX6_settle_33 [0, 1] [] 0 rfl nd_0_1 rfl rfl rfl (by decide) (by decide) (Nat.le_of_ble_eq_true rfl) rfl ?_
    refine z_if_lt C 70 dX6_settle_36 (by decide) (fun h_1 => ?_) (fun h_1 => ?_)
    · have hq9 : mSL s (nI au) false (nM s) = mSL s (nI au) false k := mSL_to hk (fun j hj => by rw [← hs']; exact zf_ng (by omega) (by rw [← hM9]; exact h_1) j hj)
      refine z_aload_n C 0 dX6_settle_70 rfl rfl ?_
      refine z_iload_n C 3 dX6_settle_71 rfl rfl ?_
      refine z_callV (wn := [((a 0), .inr (6, [.ref (a 1), .ref (a 2), .ref (a 3), .int (nI (mHk (nI n9) kp)), .int (nI ty), .ref (a 4), .int (nI pl), .int (zb gd), .int (nI od), .ref (a 5)])), ((a 1), .inl (X.2.1.2.2.1, 512, .inl (zMr s'))), ((a 2), .inl (X.2.1.2.2.1, 512, .inl (zMr s))), ((a 3), .inl (X.2.1.2.2.1, 2048, .inl (zHi (mHq (nI n9) Q kp s))))]) C kX6_done gX6_settle_X6_done (mX6_done X.2.1 a kp ty pl gd od s Q (nI n9) hk4) dX6_settle_72 [0, 2, 3] [] 0 rfl rfl nd_0_2_3 rfl rfl rfl (by decide) (by decide) (Nat.le_of_ble_eq_true rfl) rfl rfl ?_
      exact z_iret C N dX6_settle_75 (by rw [hq9, ← hn, ← hs'] <;> rfl) (by rw [hq9, ← hn])
    · refine z_iload_n C 3 dX6_settle_39 rfl rfl ?_
      refine z_iload_n C 2 dX6_settle_40 rfl rfl ?_
      refine z_nif_eq_t C 56 dX6_settle_41 (by decide) (by omega) (by omega) ?_
      refine z_aload_n C 0 dX6_settle_56 rfl rfl ?_
      refine z_aload_n C 0 dX6_settle_57 rfl rfl ?_
      refine z_iload_n C 1 dX6_settle_58 rfl rfl ?_
      refine z_callVr C kX6_firstOf gX6_settle_X6_firstOf (mX6_firstOf X.2.1 a kp ty pl gd od (nU s') (nS s') (nN s') (nX s') (nM s') (nT s') (nB s') (nK s') (nY s') (nZ s') (nR s') (nC s') (nV s') (nI au) hO9) dX6_settle_59 [0, 1] [.ref (a 0), .int (nI n9)] 0 rfl nd_0_1 rfl rfl rfl (by decide) (by decide) (Nat.le_of_ble_eq_true rfl) rfl ?_
      have hf9 : (zix (mFo (nZ s') (nY s') (nI au)) (nM s)) < nM s := zf_nn (by omega) (by rw [← hM9]; exact h_1)
      have hk8 : k ≤ (zix (mFo (nZ s') (nY s') (nI au)) (nM s)) := (Nat.lt_or_ge (zix (mFo (nZ s') (nY s') (nI au)) (nM s)) k).elim (fun q => absurd (zix_p hf9) (by rw [hno _ q]; decide)) id
      refine z_top (y := nI (zix (mFo (nZ s') (nY s') (nI au)) (nM s))) (by rw [hM9]; exact zf_ix (by omega) hf9) ?_
      refine z_callV (wn := [((a 0), .inr (6, [.ref (a 1), .ref (a 2), .ref (a 3), .int (nI kp), .int (nI ty), .ref (a 4), .int (nI pl), .int (zb gd), .int (nI od), .ref (a 5)])), ((a 1), .inl (X.2.1.2.2.1, 512, .inl (zMr (mRW s' (zix (mFo (nZ s') (nY s') (nI au)) (nM s)))))), ((a 2), .inl (X.2.1.2.2.1, 512, .inl (zMr s))), ((a 3), .inl (X.2.1.2.2.1, 2048, .inl (zHi Q)))]) C kX6_rejectWith gX6_settle_X6_rejectWith (mX6_rejectWith X.2.1 a kp ty pl gd od s' (zix (mFo (nZ s') (nY s') (nI au)) (nM s)) hO9 ((by rw [hM9]; exact hf9)) ((show lnX (nK s') (nR s') (nC s') (nS s') (nN s') (nU s') (zix (mFo (nZ s') (nY s') (nI au)) (nM s)) from by subst hs'; have h7 := mSL_fx hno hf9; have h6 := (hS _ (Nat.le_of_lt hf9)).2 hf9 h7.2; rw [h7.1] at h6; exact h6))) dX6_settle_62 [0, 1] [.int (nI n9)] 0 rfl rfl nd_0_1 rfl rfl rfl (by decide) (by decide) (Nat.le_of_ble_eq_true rfl) rfl rfl ?_
      have hg_2 : mRWn s' (zix (mFo (nZ s') (nY s') (nI au)) (nM s)) ≤ nM s' + 1 := Nat.succ_le_succ (zc_le _ _)
      refine z_iadd C dX6_settle_65 ?_
      refine z_top (y := nI (n9 + (mRWn s' (zix (mFo (nZ s') (nY s') (nI au)) (nM s))))) (nI_add _ _) ?_
      refine z_istore_n C 3 dX6_settle_66 rfl (Nat.le_of_ble_eq_true rfl) ?_
      refine z_goto C 31 dX6_settle_67 (by decide) ?_
      exact ih31 (nM s - ((zix (mFo (nZ s') (nY s') (nI au)) (nM s)) + 1)) (by omega) ((zix (mFo (nZ s') (nY s') (nI au)) (nM s)) + 1) (mRW s' (zix (mFo (nZ s') (nY s') (nI au)) (nM s))) (n9 + (mRWn s' (zix (mFo (nZ s') (nY s') (nI au)) (nM s)))) rfl (by omega) (by subst hs' hn; exact (congrArg Prod.fst (mSL_fr hno hf9)).symm) (by subst hs' hn; exact (congrArg Prod.snd (mSL_fr hno hf9)).symm) (mFo_RW (fun j hj => zix_ff j hj))
  exact hL31 _ 0 s 0 rfl (by omega) (rfl) (rfl) (fun j h => absurd h (Nat.not_lt_zero j))
