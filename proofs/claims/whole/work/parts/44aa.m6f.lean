theorem kX6_insert : zY yX6_insert wsX6_insert cX6_insert 4 (some .int) 3 := ⟨⟨_, rfl⟩, ⟨by decide +kernel, by decide +kernel, by decide +kernel⟩, by decide +kernel⟩
theorem nd_0_1_2 : va_nd [0, 1, 2] = true := by decide +kernel
theorem nd_0_2_3 : va_nd [0, 2, 3] = true := by decide +kernel
set_option maxHeartbeats 400000 in
set_option maxRecDepth 100000 in
theorem mX6_insert (E : zE) (a : Nat → Nat) (kp ty pl : Nat) (gd : Bool) (od : Nat) (s t : zMs) (Q : Nat → zMs) (au ax p : Int32) (hO : okM (nU s) (nS s) (nM s) (nK s)) (hk4 : kp ≤ 4) : zM E yX6_insert wsX6_insert 4 [.ref (a 0), .int au, .int ax, .int p] [((a 0), .inr (6, [.ref (a 1), .ref (a 2), .ref (a 3), .int (nI kp), .int (nI ty), .ref (a 4), .int (nI pl), .int (zb gd), .int (nI od), .ref (a 5)])), ((a 1), .inl (E.2.2.1, 512, .inl (zMr s))), ((a 2), .inl (E.2.2.1, 512, .inl (zMr t))), ((a 3), .inl (E.2.2.1, 2048, .inl (zHi Q)))] [((a 0), .inr (6, [.ref (a 1), .ref (a 2), .ref (a 3), .int (nI (mHk ((mIns s au ax p).1) kp)), .int (nI ty), .ref (a 4), .int (nI pl), .int (zb gd), .int (nI od), .ref (a 5)])), ((a 1), .inl (E.2.2.1, 512, .inl (zMr ((mIns s au ax p).2)))), ((a 2), .inl (E.2.2.1, 512, .inl (zMr s))), ((a 3), .inl (E.2.2.1, 2048, .inl (zHi (mHq ((mIns s au ax p).1) Q kp s))))] (some (.int ((mIns s au ax p).1))) := by
  refine zM.of kX6_insert (Nat.le_of_ble_eq_true rfl) rfl [some (.ref (a 0)), some (.int au), some (.int ax), some (.int p)] rfl (Nat.le_of_ble_eq_true rfl) ?_
  intro X eX C N
  subst eX
  obtain ⟨hu0, hu1, hM, hk1, hk2, hk3⟩ := id hO
  refine z_aload_n C 0 dX6_insert_0 rfl rfl ?_
  refine z_callVv (wn := [((a 0), .inr (6, [.ref (a 1), .ref (a 2), .ref (a 3), .int (nI kp), .int (nI ty), .ref (a 4), .int (nI pl), .int (zb gd), .int (nI od), .ref (a 5)])), ((a 1), .inl (X.2.1.2.2.1, 512, .inl (zMr s))), ((a 2), .inl (X.2.1.2.2.1, 512, .inl (zMr s))), ((a 3), .inl (X.2.1.2.2.1, 2048, .inl (zHi Q)))]) C kX6_begin gX6_insert_X6_begin (mX6_begin X.2.1 a kp ty pl gd od s t ) dX6_insert_1 [0, 1, 2] [] 0 rfl rfl nd_0_1_2 rfl rfl rfl (by decide) (by decide) (Nat.le_of_ble_eq_true rfl) rfl rfl ?_
  refine z_aload_n C 0 dX6_insert_4 rfl rfl ?_
  refine z_aload_n C 0 dX6_insert_5 rfl rfl ?_
  refine z_iload_n C 1 dX6_insert_6 rfl rfl ?_
  refine z_iload_n C 2 dX6_insert_7 rfl rfl ?_
  refine z_iload_n C 3 dX6_insert_8 rfl rfl ?_
  refine z_callV (wn := [((a 0), .inr (6, [.ref (a 1), .ref (a 2), .ref (a 3), .int (nI kp), .int (nI ty), .ref (a 4), .int (nI pl), .int (zb gd), .int (nI od), .ref (a 5)])), ((a 1), .inl (X.2.1.2.2.1, 512, .inl (zMr ((mIns s au ax p).2)))), ((a 2), .inl (X.2.1.2.2.1, 512, .inl (zMr s))), ((a 3), .inl (X.2.1.2.2.1, 2048, .inl (zHi Q)))]) C kX6_doInsert gX6_insert_X6_doInsert (mX6_doInsert X.2.1 a kp ty pl gd od s au ax p hO) dX6_insert_9 [0, 1] [.ref (a 0)] 0 rfl rfl nd_0_1 rfl rfl rfl (by decide) (by decide) (Nat.le_of_ble_eq_true rfl) rfl rfl ?_
  refine z_callV (wn := [((a 0), .inr (6, [.ref (a 1), .ref (a 2), .ref (a 3), .int (nI (mHk ((mIns s au ax p).1) kp)), .int (nI ty), .ref (a 4), .int (nI pl), .int (zb gd), .int (nI od), .ref (a 5)])), ((a 1), .inl (X.2.1.2.2.1, 512, .inl (zMr ((mIns s au ax p).2)))), ((a 2), .inl (X.2.1.2.2.1, 512, .inl (zMr s))), ((a 3), .inl (X.2.1.2.2.1, 2048, .inl (zHi (mHq ((mIns s au ax p).1) Q kp s))))]) C kX6_done gX6_insert_X6_done (mX6_done X.2.1 a kp ty pl gd od s Q ((mIns s au ax p).1) hk4) dX6_insert_12 [0, 2, 3] [] 0 rfl rfl nd_0_2_3 rfl rfl rfl (by decide) (by decide) (Nat.le_of_ble_eq_true rfl) rfl rfl ?_
  exact z_iret C N dX6_insert_15 (rfl) (rfl)

theorem kX6_remove : zY yX6_remove wsX6_remove cX6_remove 4 (some .int) 3 := ⟨⟨_, rfl⟩, ⟨by decide +kernel, by decide +kernel, by decide +kernel⟩, by decide +kernel⟩
set_option maxHeartbeats 400000 in
set_option maxRecDepth 100000 in
theorem mX6_remove (E : zE) (a : Nat → Nat) (kp ty pl : Nat) (gd : Bool) (od : Nat) (s t : zMs) (Q : Nat → zMs) (au ax p : Int32) (hO : okM (nU s) (nS s) (nM s) (nK s)) (hk4 : kp ≤ 4) : zM E yX6_remove wsX6_remove 6 [.ref (a 0), .int au, .int ax, .int p] [((a 0), .inr (6, [.ref (a 1), .ref (a 2), .ref (a 3), .int (nI kp), .int (nI ty), .ref (a 4), .int (nI pl), .int (zb gd), .int (nI od), .ref (a 5)])), ((a 1), .inl (E.2.2.1, 512, .inl (zMr s))), ((a 2), .inl (E.2.2.1, 512, .inl (zMr t))), ((a 3), .inl (E.2.2.1, 2048, .inl (zHi Q)))] [((a 0), .inr (6, [.ref (a 1), .ref (a 2), .ref (a 3), .int (nI (mHk ((mRem s au ax p).1) kp)), .int (nI ty), .ref (a 4), .int (nI pl), .int (zb gd), .int (nI od), .ref (a 5)])), ((a 1), .inl (E.2.2.1, 512, .inl (zMr ((mRem s au ax p).2)))), ((a 2), .inl (E.2.2.1, 512, .inl (zMr s))), ((a 3), .inl (E.2.2.1, 2048, .inl (zHi (mHq ((mRem s au ax p).1) Q kp s))))] (some (.int ((mRem s au ax p).1))) := by
  refine zM.of kX6_remove (Nat.le_of_ble_eq_true rfl) rfl [some (.ref (a 0)), some (.int au), some (.int ax), some (.int p)] rfl (Nat.le_of_ble_eq_true rfl) ?_
  intro X eX C N
  subst eX
  obtain ⟨hu0, hu1, hM, hk1, hk2, hk3⟩ := id hO
  refine z_aload_n C 0 dX6_remove_0 rfl rfl ?_
  refine z_callVv (wn := [((a 0), .inr (6, [.ref (a 1), .ref (a 2), .ref (a 3), .int (nI kp), .int (nI ty), .ref (a 4), .int (nI pl), .int (zb gd), .int (nI od), .ref (a 5)])), ((a 1), .inl (X.2.1.2.2.1, 512, .inl (zMr s))), ((a 2), .inl (X.2.1.2.2.1, 512, .inl (zMr s))), ((a 3), .inl (X.2.1.2.2.1, 2048, .inl (zHi Q)))]) C kX6_begin gX6_remove_X6_begin (mX6_begin X.2.1 a kp ty pl gd od s t ) dX6_remove_1 [0, 1, 2] [] 0 rfl rfl nd_0_1_2 rfl rfl rfl (by decide) (by decide) (Nat.le_of_ble_eq_true rfl) rfl rfl ?_
  refine z_aload_n C 0 dX6_remove_4 rfl rfl ?_
  refine z_aload_n C 0 dX6_remove_5 rfl rfl ?_
  refine z_iload_n C 1 dX6_remove_6 rfl rfl ?_
  refine z_iload_n C 2 dX6_remove_7 rfl rfl ?_
  refine z_iload_n C 3 dX6_remove_8 rfl rfl ?_
  refine z_callV (wn := [((a 0), .inr (6, [.ref (a 1), .ref (a 2), .ref (a 3), .int (nI kp), .int (nI ty), .ref (a 4), .int (nI pl), .int (zb gd), .int (nI od), .ref (a 5)])), ((a 1), .inl (X.2.1.2.2.1, 512, .inl (zMr ((mRem s au ax p).2)))), ((a 2), .inl (X.2.1.2.2.1, 512, .inl (zMr s))), ((a 3), .inl (X.2.1.2.2.1, 2048, .inl (zHi Q)))]) C kX6_doRemove gX6_remove_X6_doRemove (mX6_doRemove X.2.1 a kp ty pl gd od s au ax p hO) dX6_remove_9 [0, 1] [.ref (a 0)] 0 rfl rfl nd_0_1 rfl rfl rfl (by decide) (by decide) (Nat.le_of_ble_eq_true rfl) rfl rfl ?_
  refine z_callV (wn := [((a 0), .inr (6, [.ref (a 1), .ref (a 2), .ref (a 3), .int (nI (mHk ((mRem s au ax p).1) kp)), .int (nI ty), .ref (a 4), .int (nI pl), .int (zb gd), .int (nI od), .ref (a 5)])), ((a 1), .inl (X.2.1.2.2.1, 512, .inl (zMr ((mRem s au ax p).2)))), ((a 2), .inl (X.2.1.2.2.1, 512, .inl (zMr s))), ((a 3), .inl (X.2.1.2.2.1, 2048, .inl (zHi (mHq ((mRem s au ax p).1) Q kp s))))]) C kX6_done gX6_remove_X6_done (mX6_done X.2.1 a kp ty pl gd od s Q ((mRem s au ax p).1) hk4) dX6_remove_12 [0, 2, 3] [] 0 rfl rfl nd_0_2_3 rfl rfl rfl (by decide) (by decide) (Nat.le_of_ble_eq_true rfl) rfl rfl ?_
  exact z_iret C N dX6_remove_15 (rfl) (rfl)

theorem kX6_set : zY yX6_set wsX6_set cX6_set 5 (some .int) 4 := ⟨⟨_, rfl⟩, ⟨by decide +kernel, by decide +kernel, by decide +kernel⟩, by decide +kernel⟩
set_option maxHeartbeats 400000 in
set_option maxRecDepth 100000 in
theorem mX6_set (E : zE) (a : Nat → Nat) (kp ty pl : Nat) (gd : Bool) (od : Nat) (s t : zMs) (Q : Nat → zMs) (au r c v : Int32) (hO : okM (nU s) (nS s) (nM s) (nK s)) (hk4 : kp ≤ 4) (hW : nmM (nU s) (nS s) (nN s)) : zM E yX6_set wsX6_set 6 [.ref (a 0), .int au, .int r, .int c, .int v] [((a 0), .inr (6, [.ref (a 1), .ref (a 2), .ref (a 3), .int (nI kp), .int (nI ty), .ref (a 4), .int (nI pl), .int (zb gd), .int (nI od), .ref (a 5)])), ((a 1), .inl (E.2.2.1, 512, .inl (zMr s))), ((a 2), .inl (E.2.2.1, 512, .inl (zMr t))), ((a 3), .inl (E.2.2.1, 2048, .inl (zHi Q)))] [((a 0), .inr (6, [.ref (a 1), .ref (a 2), .ref (a 3), .int (nI (mHk ((mSet s au r c v).1) kp)), .int (nI ty), .ref (a 4), .int (nI pl), .int (zb gd), .int (nI od), .ref (a 5)])), ((a 1), .inl (E.2.2.1, 512, .inl (zMr ((mSet s au r c v).2)))), ((a 2), .inl (E.2.2.1, 512, .inl (zMr s))), ((a 3), .inl (E.2.2.1, 2048, .inl (zHi (mHq ((mSet s au r c v).1) Q kp s))))] (some (.int ((mSet s au r c v).1))) := by
  refine zM.of kX6_set (Nat.le_of_ble_eq_true rfl) rfl [some (.ref (a 0)), some (.int au), some (.int r), some (.int c), some (.int v)] rfl (Nat.le_of_ble_eq_true rfl) ?_
  intro X eX C N
  subst eX
  obtain ⟨hu0, hu1, hM, hk1, hk2, hk3⟩ := id hO
  refine z_aload_n C 0 dX6_set_0 rfl rfl ?_
  refine z_callVv (wn := [((a 0), .inr (6, [.ref (a 1), .ref (a 2), .ref (a 3), .int (nI kp), .int (nI ty), .ref (a 4), .int (nI pl), .int (zb gd), .int (nI od), .ref (a 5)])), ((a 1), .inl (X.2.1.2.2.1, 512, .inl (zMr s))), ((a 2), .inl (X.2.1.2.2.1, 512, .inl (zMr s))), ((a 3), .inl (X.2.1.2.2.1, 2048, .inl (zHi Q)))]) C kX6_begin gX6_set_X6_begin (mX6_begin X.2.1 a kp ty pl gd od s t ) dX6_set_1 [0, 1, 2] [] 0 rfl rfl nd_0_1_2 rfl rfl rfl (by decide) (by decide) (Nat.le_of_ble_eq_true rfl) rfl rfl ?_
  refine z_aload_n C 0 dX6_set_4 rfl rfl ?_
  refine z_aload_n C 0 dX6_set_5 rfl rfl ?_
  refine z_iload_n C 1 dX6_set_6 rfl rfl ?_
  refine z_iload_n C 2 dX6_set_7 rfl rfl ?_
  refine z_iload_n C 3 dX6_set_8 rfl rfl ?_
  refine z_iload C dX6_set_9 rfl ?_
  refine z_callV (wn := [((a 0), .inr (6, [.ref (a 1), .ref (a 2), .ref (a 3), .int (nI kp), .int (nI ty), .ref (a 4), .int (nI pl), .int (zb gd), .int (nI od), .ref (a 5)])), ((a 1), .inl (X.2.1.2.2.1, 512, .inl (zMr ((mSet s au r c v).2)))), ((a 2), .inl (X.2.1.2.2.1, 512, .inl (zMr s))), ((a 3), .inl (X.2.1.2.2.1, 2048, .inl (zHi Q)))]) C kX6_doSet gX6_set_X6_doSet (mX6_doSet X.2.1 a kp ty pl gd od s au r c v hO hW) dX6_set_11 [0, 1] [.ref (a 0)] 0 rfl rfl nd_0_1 rfl rfl rfl (by decide) (by decide) (Nat.le_of_ble_eq_true rfl) rfl rfl ?_
  refine z_callV (wn := [((a 0), .inr (6, [.ref (a 1), .ref (a 2), .ref (a 3), .int (nI (mHk ((mSet s au r c v).1) kp)), .int (nI ty), .ref (a 4), .int (nI pl), .int (zb gd), .int (nI od), .ref (a 5)])), ((a 1), .inl (X.2.1.2.2.1, 512, .inl (zMr ((mSet s au r c v).2)))), ((a 2), .inl (X.2.1.2.2.1, 512, .inl (zMr s))), ((a 3), .inl (X.2.1.2.2.1, 2048, .inl (zHi (mHq ((mSet s au r c v).1) Q kp s))))]) C kX6_done gX6_set_X6_done (mX6_done X.2.1 a kp ty pl gd od s Q ((mSet s au r c v).1) hk4) dX6_set_14 [0, 2, 3] [] 0 rfl rfl nd_0_2_3 rfl rfl rfl (by decide) (by decide) (Nat.le_of_ble_eq_true rfl) rfl rfl ?_
  exact z_iret C N dX6_set_17 (rfl) (rfl)

theorem kX6_track : zY yX6_track wsX6_track cX6_track 3 (some .int) 1 := ⟨⟨_, rfl⟩, ⟨by decide +kernel, by decide +kernel, by decide +kernel⟩, by decide +kernel⟩
theorem fX6_track_7 : zF wsX6_track RX6 7 6 0 RX6 TX6 10 := ⟨by decide +kernel, rfl, by decide, by decide +kernel, rfl⟩
set_option maxHeartbeats 400000 in
set_option maxRecDepth 100000 in
theorem mX6_track_1s (E : zE) (a : Nat → Nat) (kp ty pl : Nat) (gd : Bool) (od : Nat) (s t : zMs) (Q : Nat → zMs)  (hO : okM (nU s) (nS s) (nM s) (nK s)) (hk4 : kp ≤ 4) (hs : zb (nT s) = nI 1) : zM E yX6_track wsX6_track 3 [.ref (a 0), .int (nI 1)] [((a 0), .inr (6, [.ref (a 1), .ref (a 2), .ref (a 3), .int (nI kp), .int (nI ty), .ref (a 4), .int (nI pl), .int (zb gd), .int (nI od), .ref (a 5)])), ((a 1), .inl (E.2.2.1, 512, .inl (zMr s))), ((a 2), .inl (E.2.2.1, 512, .inl (zMr t))), ((a 3), .inl (E.2.2.1, 2048, .inl (zHi Q)))] [((a 0), .inr (6, [.ref (a 1), .ref (a 2), .ref (a 3), .int (nI kp), .int (nI ty), .ref (a 4), .int (nI pl), .int (zb gd), .int (nI od), .ref (a 5)])), ((a 1), .inl (E.2.2.1, 512, .inl (zMr s))), ((a 2), .inl (E.2.2.1, 512, .inl (zMr t))), ((a 3), .inl (E.2.2.1, 2048, .inl (zHi Q)))] (some (.int (-4))) := by
  refine zM.of kX6_track (Nat.le_of_ble_eq_true rfl) rfl [some (.ref (a 0)), some (.int (nI 1)), none] rfl (Nat.le_of_ble_eq_true rfl) ?_
  intro X eX C N
  subst eX
  obtain ⟨hu0, hu1, hM, hk1, hk2, hk3⟩ := id hO
  refine z_iload_n C 1 dX6_track_0 rfl rfl ?_
  refine z_nif_eq_f C 8 dX6_track_1 (by decide) (by omega) (by omega) ?_
  refine z_iconst C (nI 1) dX6_track_4 (by decide) ?_
  refine z_goto C 9 dX6_track_5 (by decide) ?_
  refine z_istore_n C 2 dX6_track_9 rfl (Nat.le_of_ble_eq_true rfl) ?_
  refine z_aload_n C 0 dX6_track_10 rfl rfl ?_
  refine z_get C fX6_track_7 0 dX6_track_11 rfl rfl ?_
  refine z_bipush C (nI 52) dX6_track_14 (by decide) ?_
  refine z_ialdN C 1 dX6_track_16 rfl (by omega) (by decide) ?_
  refine z_top (y := zb (nT s)) (zMr_T) ?_
  refine z_iload_n C 2 dX6_track_17 rfl rfl ?_
  refine z_icmp_ne_f C 24 dX6_track_18 (by decide) hs ?_
  refine z_bipush C (-4) dX6_track_21 (by decide) ?_
  exact z_iret C N dX6_track_23 (rfl) (rfl)

set_option maxHeartbeats 400000 in
set_option maxRecDepth 100000 in
theorem mX6_track_1 (E : zE) (a : Nat → Nat) (kp ty pl : Nat) (gd : Bool) (od : Nat) (s t : zMs) (Q : Nat → zMs)  (hO : okM (nU s) (nS s) (nM s) (nK s)) (hk4 : kp ≤ 4) (hs : ¬ zb (nT s) = nI 1) : zM E yX6_track wsX6_track 3 [.ref (a 0), .int (nI 1)] [((a 0), .inr (6, [.ref (a 1), .ref (a 2), .ref (a 3), .int (nI kp), .int (nI ty), .ref (a 4), .int (nI pl), .int (zb gd), .int (nI od), .ref (a 5)])), ((a 1), .inl (E.2.2.1, 512, .inl (zMr s))), ((a 2), .inl (E.2.2.1, 512, .inl (zMr t))), ((a 3), .inl (E.2.2.1, 2048, .inl (zHi Q)))] [((a 0), .inr (6, [.ref (a 1), .ref (a 2), .ref (a 3), .int (nI (mHk (nI (zc (mP0 (nZ s)) (nM s))) kp)), .int (nI ty), .ref (a 4), .int (nI pl), .int (zb gd), .int (nI od), .ref (a 5)])), ((a 1), .inl (E.2.2.1, 512, .inl (mRow (nU s) (nS s) (nN s) (nX s) (nM s) true (nB s) (nK s) (nY s) (nZ s) (nR s) (nC s) (nV s)))), ((a 2), .inl (E.2.2.1, 512, .inl (zMr s))), ((a 3), .inl (E.2.2.1, 2048, .inl (zHi (mHq (nI (zc (mP0 (nZ s)) (nM s))) Q kp s))))] (some (.int (nI (zc (mP0 (nZ s)) (nM s))))) := by
  refine zM.of kX6_track (Nat.le_of_ble_eq_true rfl) rfl [some (.ref (a 0)), some (.int (nI 1)), none] rfl (Nat.le_of_ble_eq_true rfl) ?_
  intro X eX C N
  subst eX
  obtain ⟨hu0, hu1, hM, hk1, hk2, hk3⟩ := id hO
  refine z_iload_n C 1 dX6_track_0 rfl rfl ?_
  refine z_nif_eq_f C 8 dX6_track_1 (by decide) (by omega) (by omega) ?_
  refine z_iconst C (nI 1) dX6_track_4 (by decide) ?_
  refine z_goto C 9 dX6_track_5 (by decide) ?_
  refine z_istore_n C 2 dX6_track_9 rfl (Nat.le_of_ble_eq_true rfl) ?_
  refine z_aload_n C 0 dX6_track_10 rfl rfl ?_
  refine z_get C fX6_track_7 0 dX6_track_11 rfl rfl ?_
  refine z_bipush C (nI 52) dX6_track_14 (by decide) ?_
  refine z_ialdN C 1 dX6_track_16 rfl (by omega) (by decide) ?_
  refine z_top (y := zb (nT s)) (zMr_T) ?_
  refine z_iload_n C 2 dX6_track_17 rfl rfl ?_
  refine z_icmp_ne_t C 24 dX6_track_18 (by decide) hs ?_
  refine z_aload_n C 0 dX6_track_24 rfl rfl ?_
  refine z_callVv (wn := [((a 0), .inr (6, [.ref (a 1), .ref (a 2), .ref (a 3), .int (nI kp), .int (nI ty), .ref (a 4), .int (nI pl), .int (zb gd), .int (nI od), .ref (a 5)])), ((a 1), .inl (X.2.1.2.2.1, 512, .inl (zMr s))), ((a 2), .inl (X.2.1.2.2.1, 512, .inl (zMr s))), ((a 3), .inl (X.2.1.2.2.1, 2048, .inl (zHi Q)))]) C kX6_begin gX6_track_X6_begin (mX6_begin X.2.1 a kp ty pl gd od s t ) dX6_track_25 [0, 1, 2] [] 0 rfl rfl nd_0_1_2 rfl rfl rfl (by decide) (by decide) (Nat.le_of_ble_eq_true rfl) rfl rfl ?_
  refine z_aload_n C 0 dX6_track_28 rfl rfl ?_
  refine z_get C fX6_track_7 0 dX6_track_29 rfl rfl ?_
  refine z_bipush C (nI 52) dX6_track_32 (by decide) ?_
  refine z_iload_n C 2 dX6_track_34 rfl rfl ?_
  refine z_iastR C 1 dX6_track_35 rfl (by omega) (by decide) (f' := mRow (nU s) (nS s) (nN s) (nX s) (nM s) true (nB s) (nK s) (nY s) (nZ s) (nR s) (nC s) (nV s)) (zMw_T (v := true)) ?_
  refine z_aload_n C 0 dX6_track_36 rfl rfl ?_
  refine z_aload_n C 0 dX6_track_37 rfl rfl ?_
  refine z_callVr C kX6_pendingOnes gX6_track_X6_pendingOnes (mX6_pendingOnes X.2.1 a kp ty pl gd od (nU s) (nS s) (nN s) (nX s) (nM s) true (nB s) (nK s) (nY s) (nZ s) (nR s) (nC s) (nV s) hO) dX6_track_38 [0, 1] [.ref (a 0)] 0 rfl nd_0_1 rfl rfl rfl (by decide) (by decide) (Nat.le_of_ble_eq_true rfl) rfl ?_
  refine z_top (y := nI (zc (mP0 (nZ s)) (nM s))) rfl ?_
  refine z_callV (wn := [((a 0), .inr (6, [.ref (a 1), .ref (a 2), .ref (a 3), .int (nI (mHk (nI (zc (mP0 (nZ s)) (nM s))) kp)), .int (nI ty), .ref (a 4), .int (nI pl), .int (zb gd), .int (nI od), .ref (a 5)])), ((a 1), .inl (X.2.1.2.2.1, 512, .inl (mRow (nU s) (nS s) (nN s) (nX s) (nM s) true (nB s) (nK s) (nY s) (nZ s) (nR s) (nC s) (nV s)))), ((a 2), .inl (X.2.1.2.2.1, 512, .inl (zMr s))), ((a 3), .inl (X.2.1.2.2.1, 2048, .inl (zHi (mHq (nI (zc (mP0 (nZ s)) (nM s))) Q kp s))))]) C kX6_done gX6_track_X6_done (mX6_done X.2.1 a kp ty pl gd od s Q (nI (zc (mP0 (nZ s)) (nM s))) hk4) dX6_track_41 [0, 2, 3] [] 0 rfl rfl nd_0_2_3 rfl rfl rfl (by decide) (by decide) (Nat.le_of_ble_eq_true rfl) rfl rfl ?_
  exact z_iret C N dX6_track_44 (rfl) (rfl)

set_option maxHeartbeats 400000 in
set_option maxRecDepth 100000 in
theorem mX6_track_0s (E : zE) (a : Nat → Nat) (kp ty pl : Nat) (gd : Bool) (od : Nat) (s t : zMs) (Q : Nat → zMs)  (hO : okM (nU s) (nS s) (nM s) (nK s)) (hk4 : kp ≤ 4) (hs : zb (nT s) = nI 0) : zM E yX6_track wsX6_track 3 [.ref (a 0), .int (nI 0)] [((a 0), .inr (6, [.ref (a 1), .ref (a 2), .ref (a 3), .int (nI kp), .int (nI ty), .ref (a 4), .int (nI pl), .int (zb gd), .int (nI od), .ref (a 5)])), ((a 1), .inl (E.2.2.1, 512, .inl (zMr s))), ((a 2), .inl (E.2.2.1, 512, .inl (zMr t))), ((a 3), .inl (E.2.2.1, 2048, .inl (zHi Q)))] [((a 0), .inr (6, [.ref (a 1), .ref (a 2), .ref (a 3), .int (nI kp), .int (nI ty), .ref (a 4), .int (nI pl), .int (zb gd), .int (nI od), .ref (a 5)])), ((a 1), .inl (E.2.2.1, 512, .inl (zMr s))), ((a 2), .inl (E.2.2.1, 512, .inl (zMr t))), ((a 3), .inl (E.2.2.1, 2048, .inl (zHi Q)))] (some (.int (-4))) := by
  refine zM.of kX6_track (Nat.le_of_ble_eq_true rfl) rfl [some (.ref (a 0)), some (.int (nI 0)), none] rfl (Nat.le_of_ble_eq_true rfl) ?_
  intro X eX C N
  subst eX
  obtain ⟨hu0, hu1, hM, hk1, hk2, hk3⟩ := id hO
  refine z_iload_n C 1 dX6_track_0 rfl rfl ?_
  refine z_nif_eq_t C 8 dX6_track_1 (by decide) (by omega) (by omega) ?_
  refine z_iconst C (nI 0) dX6_track_8 (by decide) ?_
  refine z_istore_n C 2 dX6_track_9 rfl (Nat.le_of_ble_eq_true rfl) ?_
  refine z_aload_n C 0 dX6_track_10 rfl rfl ?_
  refine z_get C fX6_track_7 0 dX6_track_11 rfl rfl ?_
  refine z_bipush C (nI 52) dX6_track_14 (by decide) ?_
  refine z_ialdN C 1 dX6_track_16 rfl (by omega) (by decide) ?_
  refine z_top (y := zb (nT s)) (zMr_T) ?_
  refine z_iload_n C 2 dX6_track_17 rfl rfl ?_
  refine z_icmp_ne_f C 24 dX6_track_18 (by decide) hs ?_
  refine z_bipush C (-4) dX6_track_21 (by decide) ?_
  exact z_iret C N dX6_track_23 (rfl) (rfl)

set_option maxHeartbeats 400000 in
set_option maxRecDepth 100000 in
theorem mX6_track_0 (E : zE) (a : Nat → Nat) (kp ty pl : Nat) (gd : Bool) (od : Nat) (s t : zMs) (Q : Nat → zMs)  (hO : okM (nU s) (nS s) (nM s) (nK s)) (hk4 : kp ≤ 4) (hs : ¬ zb (nT s) = nI 0) : zM E yX6_track wsX6_track 3 [.ref (a 0), .int (nI 0)] [((a 0), .inr (6, [.ref (a 1), .ref (a 2), .ref (a 3), .int (nI kp), .int (nI ty), .ref (a 4), .int (nI pl), .int (zb gd), .int (nI od), .ref (a 5)])), ((a 1), .inl (E.2.2.1, 512, .inl (zMr s))), ((a 2), .inl (E.2.2.1, 512, .inl (zMr t))), ((a 3), .inl (E.2.2.1, 2048, .inl (zHi Q)))] [((a 0), .inr (6, [.ref (a 1), .ref (a 2), .ref (a 3), .int (nI (mHk (nI (zc (mP0 (nZ s)) (nM s))) kp)), .int (nI ty), .ref (a 4), .int (nI pl), .int (zb gd), .int (nI od), .ref (a 5)])), ((a 1), .inl (E.2.2.1, 512, .inl (mRow (nU s) (nS s) (nN s) (nX s) (nM s) false (nB s) (nK s) (nY s) (nZ s) (nR s) (nC s) (nV s)))), ((a 2), .inl (E.2.2.1, 512, .inl (zMr s))), ((a 3), .inl (E.2.2.1, 2048, .inl (zHi (mHq (nI (zc (mP0 (nZ s)) (nM s))) Q kp s))))] (some (.int (nI (zc (mP0 (nZ s)) (nM s))))) := by
  refine zM.of kX6_track (Nat.le_of_ble_eq_true rfl) rfl [some (.ref (a 0)), some (.int (nI 0)), none] rfl (Nat.le_of_ble_eq_true rfl) ?_
  intro X eX C N
  subst eX
  obtain ⟨hu0, hu1, hM, hk1, hk2, hk3⟩ := id hO
  refine z_iload_n C 1 dX6_track_0 rfl rfl ?_
  refine z_nif_eq_t C 8 dX6_track_1 (by decide) (by omega) (by omega) ?_
  refine z_iconst C (nI 0) dX6_track_8 (by decide) ?_
  refine z_istore_n C 2 dX6_track_9 rfl (Nat.le_of_ble_eq_true rfl) ?_
  refine z_aload_n C 0 dX6_track_10 rfl rfl ?_
  refine z_get C fX6_track_7 0 dX6_track_11 rfl rfl ?_
  refine z_bipush C (nI 52) dX6_track_14 (by decide) ?_
  refine z_ialdN C 1 dX6_track_16 rfl (by omega) (by decide) ?_
  refine z_top (y := zb (nT s)) (zMr_T) ?_
  refine z_iload_n C 2 dX6_track_17 rfl rfl ?_
  refine z_icmp_ne_t C 24 dX6_track_18 (by decide) hs ?_
  refine z_aload_n C 0 dX6_track_24 rfl rfl ?_
  refine z_callVv (wn := [((a 0), .inr (6, [.ref (a 1), .ref (a 2), .ref (a 3), .int (nI kp), .int (nI ty), .ref (a 4), .int (nI pl), .int (zb gd), .int (nI od), .ref (a 5)])), ((a 1), .inl (X.2.1.2.2.1, 512, .inl (zMr s))), ((a 2), .inl (X.2.1.2.2.1, 512, .inl (zMr s))), ((a 3), .inl (X.2.1.2.2.1, 2048, .inl (zHi Q)))]) C kX6_begin gX6_track_X6_begin (mX6_begin X.2.1 a kp ty pl gd od s t ) dX6_track_25 [0, 1, 2] [] 0 rfl rfl nd_0_1_2 rfl rfl rfl (by decide) (by decide) (Nat.le_of_ble_eq_true rfl) rfl rfl ?_
  refine z_aload_n C 0 dX6_track_28 rfl rfl ?_
  refine z_get C fX6_track_7 0 dX6_track_29 rfl rfl ?_
  refine z_bipush C (nI 52) dX6_track_32 (by decide) ?_
  refine z_iload_n C 2 dX6_track_34 rfl rfl ?_
  refine z_iastR C 1 dX6_track_35 rfl (by omega) (by decide) (f' := mRow (nU s) (nS s) (nN s) (nX s) (nM s) false (nB s) (nK s) (nY s) (nZ s) (nR s) (nC s) (nV s)) (zMw_T (v := false)) ?_
  refine z_aload_n C 0 dX6_track_36 rfl rfl ?_
  refine z_aload_n C 0 dX6_track_37 rfl rfl ?_
  refine z_callVr C kX6_pendingOnes gX6_track_X6_pendingOnes (mX6_pendingOnes X.2.1 a kp ty pl gd od (nU s) (nS s) (nN s) (nX s) (nM s) false (nB s) (nK s) (nY s) (nZ s) (nR s) (nC s) (nV s) hO) dX6_track_38 [0, 1] [.ref (a 0)] 0 rfl nd_0_1 rfl rfl rfl (by decide) (by decide) (Nat.le_of_ble_eq_true rfl) rfl ?_
  refine z_top (y := nI (zc (mP0 (nZ s)) (nM s))) rfl ?_
  refine z_callV (wn := [((a 0), .inr (6, [.ref (a 1), .ref (a 2), .ref (a 3), .int (nI (mHk (nI (zc (mP0 (nZ s)) (nM s))) kp)), .int (nI ty), .ref (a 4), .int (nI pl), .int (zb gd), .int (nI od), .ref (a 5)])), ((a 1), .inl (X.2.1.2.2.1, 512, .inl (mRow (nU s) (nS s) (nN s) (nX s) (nM s) false (nB s) (nK s) (nY s) (nZ s) (nR s) (nC s) (nV s)))), ((a 2), .inl (X.2.1.2.2.1, 512, .inl (zMr s))), ((a 3), .inl (X.2.1.2.2.1, 2048, .inl (zHi (mHq (nI (zc (mP0 (nZ s)) (nM s))) Q kp s))))]) C kX6_done gX6_track_X6_done (mX6_done X.2.1 a kp ty pl gd od s Q (nI (zc (mP0 (nZ s)) (nM s))) hk4) dX6_track_41 [0, 2, 3] [] 0 rfl rfl nd_0_2_3 rfl rfl rfl (by decide) (by decide) (Nat.le_of_ble_eq_true rfl) rfl rfl ?_
  exact z_iret C N dX6_track_44 (rfl) (rfl)

theorem kX6_settled : zY yX6_settled wsX6_settled cX6_settled 3 (some .int) 2 := ⟨⟨_, rfl⟩, ⟨by decide +kernel, by decide +kernel, by decide +kernel⟩, by decide +kernel⟩
set_option maxHeartbeats 400000 in
set_option maxRecDepth 100000 in
theorem mX6_settled_b1 (E : zE) (a : Nat → Nat) (kp ty pl : Nat) (gd : Bool) (od : Nat) (s t : zMs) (Q : Nat → zMs) (x : Int32) (hO : okM (nU s) (nS s) (nM s) (nK s)) (hk4 : kp ≤ 4) (hx : x < 0 ∨ (¬ x < 0 ∧ nI (nM s) ≤ x)) : zM E yX6_settled wsX6_settled 5 [.ref (a 0), .int x, .int (nI 1)] [((a 0), .inr (6, [.ref (a 1), .ref (a 2), .ref (a 3), .int (nI kp), .int (nI ty), .ref (a 4), .int (nI pl), .int (zb gd), .int (nI od), .ref (a 5)])), ((a 1), .inl (E.2.2.1, 512, .inl (zMr s))), ((a 2), .inl (E.2.2.1, 512, .inl (zMr t))), ((a 3), .inl (E.2.2.1, 2048, .inl (zHi Q)))] [((a 0), .inr (6, [.ref (a 1), .ref (a 2), .ref (a 3), .int (nI kp), .int (nI ty), .ref (a 4), .int (nI pl), .int (zb gd), .int (nI od), .ref (a 5)])), ((a 1), .inl (E.2.2.1, 512, .inl (zMr s))), ((a 2), .inl (E.2.2.1, 512, .inl (zMr t))), ((a 3), .inl (E.2.2.1, 2048, .inl (zHi Q)))] (some (.int (-1))) := by
  refine zM.of kX6_settled (Nat.le_of_ble_eq_true rfl) rfl [some (.ref (a 0)), some (.int x), some (.int (nI 1))] rfl (Nat.le_of_ble_eq_true rfl) ?_
  intro X eX C N
  subst eX
  obtain ⟨hu0, hu1, hM, hk1, hk2, hk3⟩ := id hO
  refine z_aload_n C 0 dX6_settled_0 rfl rfl ?_
  refine z_iload_n C 1 dX6_settled_1 rfl rfl ?_
  refine z_callVr C kX6_noChange gX6_settled_X6_noChange (mX6_noChange_n X.2.1 a kp ty pl gd od (nU s) (nS s) (nN s) (nX s) (nM s) (nT s) (nB s) (nK s) (nY s) (nZ s) (nR s) (nC s) (nV s) x hO hx) dX6_settled_2 [0, 1] [] 0 rfl nd_0_1 rfl rfl rfl (by decide) (by decide) (Nat.le_of_ble_eq_true rfl) rfl ?_
  refine z_bif_eq_f C 10 dX6_settled_5 (by decide) rfl ?_
  refine z_iconst C (-1) dX6_settled_8 (by decide) ?_
  exact z_iret C N dX6_settled_9 (rfl) (rfl)

set_option maxHeartbeats 400000 in
set_option maxRecDepth 100000 in
theorem mX6_settled_n1 (E : zE) (a : Nat → Nat) (kp ty pl : Nat) (gd : Bool) (od : Nat) (s t : zMs) (Q : Nat → zMs) (x : Nat) (hO : okM (nU s) (nS s) (nM s) (nK s)) (hk4 : kp ≤ 4) (hx : x < nM s) (hp : ¬ nZ s x = 0) : zM E yX6_settled wsX6_settled 5 [.ref (a 0), .int (nI x), .int (nI 1)] [((a 0), .inr (6, [.ref (a 1), .ref (a 2), .ref (a 3), .int (nI kp), .int (nI ty), .ref (a 4), .int (nI pl), .int (zb gd), .int (nI od), .ref (a 5)])), ((a 1), .inl (E.2.2.1, 512, .inl (zMr s))), ((a 2), .inl (E.2.2.1, 512, .inl (zMr t))), ((a 3), .inl (E.2.2.1, 2048, .inl (zHi Q)))] [((a 0), .inr (6, [.ref (a 1), .ref (a 2), .ref (a 3), .int (nI kp), .int (nI ty), .ref (a 4), .int (nI pl), .int (zb gd), .int (nI od), .ref (a 5)])), ((a 1), .inl (E.2.2.1, 512, .inl (zMr s))), ((a 2), .inl (E.2.2.1, 512, .inl (zMr t))), ((a 3), .inl (E.2.2.1, 2048, .inl (zHi Q)))] (some (.int (-4))) := by
  refine zM.of kX6_settled (Nat.le_of_ble_eq_true rfl) rfl [some (.ref (a 0)), some (.int (nI x)), some (.int (nI 1))] rfl (Nat.le_of_ble_eq_true rfl) ?_
  intro X eX C N
  subst eX
  obtain ⟨hu0, hu1, hM, hk1, hk2, hk3⟩ := id hO
  refine z_aload_n C 0 dX6_settled_0 rfl rfl ?_
  refine z_iload_n C 1 dX6_settled_1 rfl rfl ?_
  refine z_callVr C kX6_noChange gX6_settled_X6_noChange (mX6_noChange_y X.2.1 a kp ty pl gd od (nU s) (nS s) (nN s) (nX s) (nM s) (nT s) (nB s) (nK s) (nY s) (nZ s) (nR s) (nC s) (nV s) x hO hx) dX6_settled_2 [0, 1] [] 0 rfl nd_0_1 rfl rfl rfl (by decide) (by decide) (Nat.le_of_ble_eq_true rfl) rfl ?_
  refine z_bif_eq_t C 10 dX6_settled_5 (by decide) rfl ?_
  refine z_aload_n C 0 dX6_settled_10 rfl rfl ?_
  refine z_iload_n C 1 dX6_settled_11 rfl rfl ?_
  refine z_callVr C kX6_isPending gX6_settled_X6_isPending (mX6_isPending X.2.1 a kp ty pl gd od (nU s) (nS s) (nN s) (nX s) (nM s) (nT s) (nB s) (nK s) (nY s) (nZ s) (nR s) (nC s) (nV s) x (by first | assumption | omega)) dX6_settled_12 [0, 1] [] 0 rfl nd_0_1 rfl rfl rfl (by decide) (by decide) (Nat.le_of_ble_eq_true rfl) rfl ?_
  refine z_bif_ne_f C 21 dX6_settled_15 (by decide) (decide_eq_false hp) ?_
  refine z_bipush C (-4) dX6_settled_18 (by decide) ?_
  exact z_iret C N dX6_settled_20 (rfl) (rfl)

set_option maxHeartbeats 400000 in
set_option maxRecDepth 100000 in
theorem mX6_settled_1 (E : zE) (a : Nat → Nat) (kp ty pl : Nat) (gd : Bool) (od : Nat) (s t : zMs) (Q : Nat → zMs) (x : Nat) (hO : okM (nU s) (nS s) (nM s) (nK s)) (hk4 : kp ≤ 4) (hx : x < nM s) (hp : nZ s x = 0) (hg : gAW s x) : zM E yX6_settled wsX6_settled 5 [.ref (a 0), .int (nI x), .int (nI 1)] [((a 0), .inr (6, [.ref (a 1), .ref (a 2), .ref (a 3), .int (nI kp), .int (nI ty), .ref (a 4), .int (nI pl), .int (zb gd), .int (nI od), .ref (a 5)])), ((a 1), .inl (E.2.2.1, 512, .inl (zMr s))), ((a 2), .inl (E.2.2.1, 512, .inl (zMr t))), ((a 3), .inl (E.2.2.1, 2048, .inl (zHi Q)))] [((a 0), .inr (6, [.ref (a 1), .ref (a 2), .ref (a 3), .int (nI (mHk (nI (mAWn s x)) kp)), .int (nI ty), .ref (a 4), .int (nI pl), .int (zb gd), .int (nI od), .ref (a 5)])), ((a 1), .inl (E.2.2.1, 512, .inl (zMr (mAW s x)))), ((a 2), .inl (E.2.2.1, 512, .inl (zMr s))), ((a 3), .inl (E.2.2.1, 2048, .inl (zHi (mHq (nI (mAWn s x)) Q kp s))))] (some (.int (nI (mAWn s x)))) := by
  refine zM.of kX6_settled (Nat.le_of_ble_eq_true rfl) rfl [some (.ref (a 0)), some (.int (nI x)), some (.int (nI 1))] rfl (Nat.le_of_ble_eq_true rfl) ?_
  intro X eX C N
  subst eX
  obtain ⟨hu0, hu1, hM, hk1, hk2, hk3⟩ := id hO
  refine z_aload_n C 0 dX6_settled_0 rfl rfl ?_
  refine z_iload_n C 1 dX6_settled_1 rfl rfl ?_
  refine z_callVr C kX6_noChange gX6_settled_X6_noChange (mX6_noChange_y X.2.1 a kp ty pl gd od (nU s) (nS s) (nN s) (nX s) (nM s) (nT s) (nB s) (nK s) (nY s) (nZ s) (nR s) (nC s) (nV s) x hO hx) dX6_settled_2 [0, 1] [] 0 rfl nd_0_1 rfl rfl rfl (by decide) (by decide) (Nat.le_of_ble_eq_true rfl) rfl ?_
  refine z_bif_eq_t C 10 dX6_settled_5 (by decide) rfl ?_
  refine z_aload_n C 0 dX6_settled_10 rfl rfl ?_
  refine z_iload_n C 1 dX6_settled_11 rfl rfl ?_
  refine z_callVr C kX6_isPending gX6_settled_X6_isPending (mX6_isPending X.2.1 a kp ty pl gd od (nU s) (nS s) (nN s) (nX s) (nM s) (nT s) (nB s) (nK s) (nY s) (nZ s) (nR s) (nC s) (nV s) x (by first | assumption | omega)) dX6_settled_12 [0, 1] [] 0 rfl nd_0_1 rfl rfl rfl (by decide) (by decide) (Nat.le_of_ble_eq_true rfl) rfl ?_
  refine z_bif_ne_t C 21 dX6_settled_15 (by decide) (decide_eq_true (by omega)) ?_
  refine z_aload_n C 0 dX6_settled_21 rfl rfl ?_
  refine z_callVv (wn := [((a 0), .inr (6, [.ref (a 1), .ref (a 2), .ref (a 3), .int (nI kp), .int (nI ty), .ref (a 4), .int (nI pl), .int (zb gd), .int (nI od), .ref (a 5)])), ((a 1), .inl (X.2.1.2.2.1, 512, .inl (zMr s))), ((a 2), .inl (X.2.1.2.2.1, 512, .inl (zMr s))), ((a 3), .inl (X.2.1.2.2.1, 2048, .inl (zHi Q)))]) C kX6_begin gX6_settled_X6_begin (mX6_begin X.2.1 a kp ty pl gd od s t ) dX6_settled_22 [0, 1, 2] [] 0 rfl rfl nd_0_1_2 rfl rfl rfl (by decide) (by decide) (Nat.le_of_ble_eq_true rfl) rfl rfl ?_
  refine z_aload_n C 0 dX6_settled_25 rfl rfl ?_
  refine z_iload_n C 2 dX6_settled_26 rfl rfl ?_
  refine z_nif_eq_f C 38 dX6_settled_27 (by decide) (by omega) (by omega) ?_
  refine z_aload_n C 0 dX6_settled_30 rfl rfl ?_
  refine z_iload_n C 1 dX6_settled_31 rfl rfl ?_
  refine z_callV (wn := [((a 0), .inr (6, [.ref (a 1), .ref (a 2), .ref (a 3), .int (nI kp), .int (nI ty), .ref (a 4), .int (nI pl), .int (zb gd), .int (nI od), .ref (a 5)])), ((a 1), .inl (X.2.1.2.2.1, 512, .inl (zMr (mAW s x)))), ((a 2), .inl (X.2.1.2.2.1, 512, .inl (zMr s))), ((a 3), .inl (X.2.1.2.2.1, 2048, .inl (zHi Q)))]) C kX6_acceptWith gX6_settled_X6_acceptWith (mX6_acceptWith X.2.1 a kp ty pl gd od s x hO hx (hg.1) (hg.2)) dX6_settled_32 [0, 1] [.ref (a 0)] 0 rfl rfl nd_0_1 rfl rfl rfl (by decide) (by decide) (Nat.le_of_ble_eq_true rfl) rfl rfl ?_
  have hg_1 : mAWn s x ≤ nM s + 1 := mAL_le _ _ _
  refine z_goto C 43 dX6_settled_35 (by decide) ?_
  refine z_callV (wn := [((a 0), .inr (6, [.ref (a 1), .ref (a 2), .ref (a 3), .int (nI (mHk (nI (mAWn s x)) kp)), .int (nI ty), .ref (a 4), .int (nI pl), .int (zb gd), .int (nI od), .ref (a 5)])), ((a 1), .inl (X.2.1.2.2.1, 512, .inl (zMr (mAW s x)))), ((a 2), .inl (X.2.1.2.2.1, 512, .inl (zMr s))), ((a 3), .inl (X.2.1.2.2.1, 2048, .inl (zHi (mHq (nI (mAWn s x)) Q kp s))))]) C kX6_done gX6_settled_X6_done (mX6_done X.2.1 a kp ty pl gd od s Q (nI (mAWn s x)) hk4) dX6_settled_43 [0, 2, 3] [] 0 rfl rfl nd_0_2_3 rfl rfl rfl (by decide) (by decide) (Nat.le_of_ble_eq_true rfl) rfl rfl ?_
  exact z_iret C N dX6_settled_46 (rfl) (rfl)

theorem kX6_accept : zY yX6_accept wsX6_accept cX6_accept 2 (some .int) 1 := ⟨⟨_, rfl⟩, ⟨by decide +kernel, by decide +kernel, by decide +kernel⟩, by decide +kernel⟩
theorem nd_0_1_2_3 : va_nd [0, 1, 2, 3] = true := by decide +kernel
set_option maxHeartbeats 400000 in
set_option maxRecDepth 100000 in
theorem mX6_accept_b (E : zE) (a : Nat → Nat) (kp ty pl : Nat) (gd : Bool) (od : Nat) (s t : zMs) (Q : Nat → zMs) (x : Int32) (hO : okM (nU s) (nS s) (nM s) (nK s)) (hk4 : kp ≤ 4) (hx : x < 0 ∨ (¬ x < 0 ∧ nI (nM s) ≤ x)) : zM E yX6_accept wsX6_accept 6 [.ref (a 0), .int x] [((a 0), .inr (6, [.ref (a 1), .ref (a 2), .ref (a 3), .int (nI kp), .int (nI ty), .ref (a 4), .int (nI pl), .int (zb gd), .int (nI od), .ref (a 5)])), ((a 1), .inl (E.2.2.1, 512, .inl (zMr s))), ((a 2), .inl (E.2.2.1, 512, .inl (zMr t))), ((a 3), .inl (E.2.2.1, 2048, .inl (zHi Q)))] [((a 0), .inr (6, [.ref (a 1), .ref (a 2), .ref (a 3), .int (nI kp), .int (nI ty), .ref (a 4), .int (nI pl), .int (zb gd), .int (nI od), .ref (a 5)])), ((a 1), .inl (E.2.2.1, 512, .inl (zMr s))), ((a 2), .inl (E.2.2.1, 512, .inl (zMr t))), ((a 3), .inl (E.2.2.1, 2048, .inl (zHi Q)))] (some (.int (-1))) := by
  refine zM.of kX6_accept (Nat.le_of_ble_eq_true rfl) rfl [some (.ref (a 0)), some (.int x)] rfl (Nat.le_of_ble_eq_true rfl) ?_
  intro X eX C N
  subst eX
  obtain ⟨hu0, hu1, hM, hk1, hk2, hk3⟩ := id hO
  refine z_aload_n C 0 dX6_accept_0 rfl rfl ?_
  refine z_iload_n C 1 dX6_accept_1 rfl rfl ?_
  refine z_iconst C (nI 1) dX6_accept_2 (by decide) ?_
  refine z_callVr C kX6_settled gX6_accept_X6_settled (mX6_settled_b1 X.2.1 a kp ty pl gd od s t Q x hO hk4 hx) dX6_accept_3 [0, 1, 2, 3] [] 0 rfl nd_0_1_2_3 rfl rfl rfl (by decide) (by decide) (Nat.le_of_ble_eq_true rfl) rfl ?_
  exact z_iret C N dX6_accept_6 (rfl) (rfl)

set_option maxHeartbeats 400000 in
set_option maxRecDepth 100000 in
theorem mX6_accept_n (E : zE) (a : Nat → Nat) (kp ty pl : Nat) (gd : Bool) (od : Nat) (s t : zMs) (Q : Nat → zMs) (x : Nat) (hO : okM (nU s) (nS s) (nM s) (nK s)) (hk4 : kp ≤ 4) (hx : x < nM s) (hp : ¬ nZ s x = 0) : zM E yX6_accept wsX6_accept 6 [.ref (a 0), .int (nI x)] [((a 0), .inr (6, [.ref (a 1), .ref (a 2), .ref (a 3), .int (nI kp), .int (nI ty), .ref (a 4), .int (nI pl), .int (zb gd), .int (nI od), .ref (a 5)])), ((a 1), .inl (E.2.2.1, 512, .inl (zMr s))), ((a 2), .inl (E.2.2.1, 512, .inl (zMr t))), ((a 3), .inl (E.2.2.1, 2048, .inl (zHi Q)))] [((a 0), .inr (6, [.ref (a 1), .ref (a 2), .ref (a 3), .int (nI kp), .int (nI ty), .ref (a 4), .int (nI pl), .int (zb gd), .int (nI od), .ref (a 5)])), ((a 1), .inl (E.2.2.1, 512, .inl (zMr s))), ((a 2), .inl (E.2.2.1, 512, .inl (zMr t))), ((a 3), .inl (E.2.2.1, 2048, .inl (zHi Q)))] (some (.int (-4))) := by
  refine zM.of kX6_accept (Nat.le_of_ble_eq_true rfl) rfl [some (.ref (a 0)), some (.int (nI x))] rfl (Nat.le_of_ble_eq_true rfl) ?_
  intro X eX C N
  subst eX
  obtain ⟨hu0, hu1, hM, hk1, hk2, hk3⟩ := id hO
  refine z_aload_n C 0 dX6_accept_0 rfl rfl ?_
  refine z_iload_n C 1 dX6_accept_1 rfl rfl ?_
  refine z_iconst C (nI 1) dX6_accept_2 (by decide) ?_
  refine z_callVr C kX6_settled gX6_accept_X6_settled (mX6_settled_n1 X.2.1 a kp ty pl gd od s t Q x hO hk4 hx hp) dX6_accept_3 [0, 1, 2, 3] [] 0 rfl nd_0_1_2_3 rfl rfl rfl (by decide) (by decide) (Nat.le_of_ble_eq_true rfl) rfl ?_
  exact z_iret C N dX6_accept_6 (rfl) (rfl)

set_option maxHeartbeats 400000 in
set_option maxRecDepth 100000 in
theorem mX6_accept (E : zE) (a : Nat → Nat) (kp ty pl : Nat) (gd : Bool) (od : Nat) (s t : zMs) (Q : Nat → zMs) (x : Nat) (hO : okM (nU s) (nS s) (nM s) (nK s)) (hk4 : kp ≤ 4) (hx : x < nM s) (hp : nZ s x = 0) (hg : gAW s x) : zM E yX6_accept wsX6_accept 6 [.ref (a 0), .int (nI x)] [((a 0), .inr (6, [.ref (a 1), .ref (a 2), .ref (a 3), .int (nI kp), .int (nI ty), .ref (a 4), .int (nI pl), .int (zb gd), .int (nI od), .ref (a 5)])), ((a 1), .inl (E.2.2.1, 512, .inl (zMr s))), ((a 2), .inl (E.2.2.1, 512, .inl (zMr t))), ((a 3), .inl (E.2.2.1, 2048, .inl (zHi Q)))] [((a 0), .inr (6, [.ref (a 1), .ref (a 2), .ref (a 3), .int (nI (mHk (nI (mAWn s x)) kp)), .int (nI ty), .ref (a 4), .int (nI pl), .int (zb gd), .int (nI od), .ref (a 5)])), ((a 1), .inl (E.2.2.1, 512, .inl (zMr (mAW s x)))), ((a 2), .inl (E.2.2.1, 512, .inl (zMr s))), ((a 3), .inl (E.2.2.1, 2048, .inl (zHi (mHq (nI (mAWn s x)) Q kp s))))] (some (.int (nI (mAWn s x)))) := by
  refine zM.of kX6_accept (Nat.le_of_ble_eq_true rfl) rfl [some (.ref (a 0)), some (.int (nI x))] rfl (Nat.le_of_ble_eq_true rfl) ?_
  intro X eX C N
  subst eX
  obtain ⟨hu0, hu1, hM, hk1, hk2, hk3⟩ := id hO
  refine z_aload_n C 0 dX6_accept_0 rfl rfl ?_
  refine z_iload_n C 1 dX6_accept_1 rfl rfl ?_
  refine z_iconst C (nI 1) dX6_accept_2 (by decide) ?_
  refine z_callV (wn := [((a 0), .inr (6, [.ref (a 1), .ref (a 2), .ref (a 3), .int (nI (mHk (nI (mAWn s x)) kp)), .int (nI ty), .ref (a 4), .int (nI pl), .int (zb gd), .int (nI od), .ref (a 5)])), ((a 1), .inl (X.2.1.2.2.1, 512, .inl (zMr (mAW s x)))), ((a 2), .inl (X.2.1.2.2.1, 512, .inl (zMr s))), ((a 3), .inl (X.2.1.2.2.1, 2048, .inl (zHi (mHq (nI (mAWn s x)) Q kp s))))]) C kX6_settled gX6_accept_X6_settled (mX6_settled_1 X.2.1 a kp ty pl gd od s t Q x hO hk4 hx hp hg) dX6_accept_3 [0, 1, 2, 3] [] 0 rfl rfl nd_0_1_2_3 rfl rfl rfl (by decide) (by decide) (Nat.le_of_ble_eq_true rfl) rfl rfl ?_
  exact z_iret C N dX6_accept_6 (rfl) (rfl)

set_option maxHeartbeats 400000 in
set_option maxRecDepth 100000 in
theorem mX6_settled_b0 (E : zE) (a : Nat → Nat) (kp ty pl : Nat) (gd : Bool) (od : Nat) (s t : zMs) (Q : Nat → zMs) (x : Int32) (hO : okM (nU s) (nS s) (nM s) (nK s)) (hk4 : kp ≤ 4) (hx : x < 0 ∨ (¬ x < 0 ∧ nI (nM s) ≤ x)) : zM E yX6_settled wsX6_settled 5 [.ref (a 0), .int x, .int (nI 0)] [((a 0), .inr (6, [.ref (a 1), .ref (a 2), .ref (a 3), .int (nI kp), .int (nI ty), .ref (a 4), .int (nI pl), .int (zb gd), .int (nI od), .ref (a 5)])), ((a 1), .inl (E.2.2.1, 512, .inl (zMr s))), ((a 2), .inl (E.2.2.1, 512, .inl (zMr t))), ((a 3), .inl (E.2.2.1, 2048, .inl (zHi Q)))] [((a 0), .inr (6, [.ref (a 1), .ref (a 2), .ref (a 3), .int (nI kp), .int (nI ty), .ref (a 4), .int (nI pl), .int (zb gd), .int (nI od), .ref (a 5)])), ((a 1), .inl (E.2.2.1, 512, .inl (zMr s))), ((a 2), .inl (E.2.2.1, 512, .inl (zMr t))), ((a 3), .inl (E.2.2.1, 2048, .inl (zHi Q)))] (some (.int (-1))) := by
  refine zM.of kX6_settled (Nat.le_of_ble_eq_true rfl) rfl [some (.ref (a 0)), some (.int x), some (.int (nI 0))] rfl (Nat.le_of_ble_eq_true rfl) ?_
  intro X eX C N
  subst eX
  obtain ⟨hu0, hu1, hM, hk1, hk2, hk3⟩ := id hO
  refine z_aload_n C 0 dX6_settled_0 rfl rfl ?_
  refine z_iload_n C 1 dX6_settled_1 rfl rfl ?_
  refine z_callVr C kX6_noChange gX6_settled_X6_noChange (mX6_noChange_n X.2.1 a kp ty pl gd od (nU s) (nS s) (nN s) (nX s) (nM s) (nT s) (nB s) (nK s) (nY s) (nZ s) (nR s) (nC s) (nV s) x hO hx) dX6_settled_2 [0, 1] [] 0 rfl nd_0_1 rfl rfl rfl (by decide) (by decide) (Nat.le_of_ble_eq_true rfl) rfl ?_
  refine z_bif_eq_f C 10 dX6_settled_5 (by decide) rfl ?_
  refine z_iconst C (-1) dX6_settled_8 (by decide) ?_
  exact z_iret C N dX6_settled_9 (rfl) (rfl)

set_option maxHeartbeats 400000 in
set_option maxRecDepth 100000 in
theorem mX6_settled_n0 (E : zE) (a : Nat → Nat) (kp ty pl : Nat) (gd : Bool) (od : Nat) (s t : zMs) (Q : Nat → zMs) (x : Nat) (hO : okM (nU s) (nS s) (nM s) (nK s)) (hk4 : kp ≤ 4) (hx : x < nM s) (hp : ¬ nZ s x = 0) : zM E yX6_settled wsX6_settled 5 [.ref (a 0), .int (nI x), .int (nI 0)] [((a 0), .inr (6, [.ref (a 1), .ref (a 2), .ref (a 3), .int (nI kp), .int (nI ty), .ref (a 4), .int (nI pl), .int (zb gd), .int (nI od), .ref (a 5)])), ((a 1), .inl (E.2.2.1, 512, .inl (zMr s))), ((a 2), .inl (E.2.2.1, 512, .inl (zMr t))), ((a 3), .inl (E.2.2.1, 2048, .inl (zHi Q)))] [((a 0), .inr (6, [.ref (a 1), .ref (a 2), .ref (a 3), .int (nI kp), .int (nI ty), .ref (a 4), .int (nI pl), .int (zb gd), .int (nI od), .ref (a 5)])), ((a 1), .inl (E.2.2.1, 512, .inl (zMr s))), ((a 2), .inl (E.2.2.1, 512, .inl (zMr t))), ((a 3), .inl (E.2.2.1, 2048, .inl (zHi Q)))] (some (.int (-4))) := by
  refine zM.of kX6_settled (Nat.le_of_ble_eq_true rfl) rfl [some (.ref (a 0)), some (.int (nI x)), some (.int (nI 0))] rfl (Nat.le_of_ble_eq_true rfl) ?_
  intro X eX C N
  subst eX
  obtain ⟨hu0, hu1, hM, hk1, hk2, hk3⟩ := id hO
  refine z_aload_n C 0 dX6_settled_0 rfl rfl ?_
  refine z_iload_n C 1 dX6_settled_1 rfl rfl ?_
  refine z_callVr C kX6_noChange gX6_settled_X6_noChange (mX6_noChange_y X.2.1 a kp ty pl gd od (nU s) (nS s) (nN s) (nX s) (nM s) (nT s) (nB s) (nK s) (nY s) (nZ s) (nR s) (nC s) (nV s) x hO hx) dX6_settled_2 [0, 1] [] 0 rfl nd_0_1 rfl rfl rfl (by decide) (by decide) (Nat.le_of_ble_eq_true rfl) rfl ?_
  refine z_bif_eq_t C 10 dX6_settled_5 (by decide) rfl ?_
  refine z_aload_n C 0 dX6_settled_10 rfl rfl ?_
  refine z_iload_n C 1 dX6_settled_11 rfl rfl ?_
  refine z_callVr C kX6_isPending gX6_settled_X6_isPending (mX6_isPending X.2.1 a kp ty pl gd od (nU s) (nS s) (nN s) (nX s) (nM s) (nT s) (nB s) (nK s) (nY s) (nZ s) (nR s) (nC s) (nV s) x (by first | assumption | omega)) dX6_settled_12 [0, 1] [] 0 rfl nd_0_1 rfl rfl rfl (by decide) (by decide) (Nat.le_of_ble_eq_true rfl) rfl ?_
  refine z_bif_ne_f C 21 dX6_settled_15 (by decide) (decide_eq_false hp) ?_
  refine z_bipush C (-4) dX6_settled_18 (by decide) ?_
  exact z_iret C N dX6_settled_20 (rfl) (rfl)

set_option maxHeartbeats 400000 in
set_option maxRecDepth 100000 in
theorem mX6_settled_0 (E : zE) (a : Nat → Nat) (kp ty pl : Nat) (gd : Bool) (od : Nat) (s t : zMs) (Q : Nat → zMs) (x : Nat) (hO : okM (nU s) (nS s) (nM s) (nK s)) (hk4 : kp ≤ 4) (hx : x < nM s) (hp : nZ s x = 0) (hg : lnX (nK s) (nR s) (nC s) (nS s) (nN s) (nU s) x) : zM E yX6_settled wsX6_settled 5 [.ref (a 0), .int (nI x), .int (nI 0)] [((a 0), .inr (6, [.ref (a 1), .ref (a 2), .ref (a 3), .int (nI kp), .int (nI ty), .ref (a 4), .int (nI pl), .int (zb gd), .int (nI od), .ref (a 5)])), ((a 1), .inl (E.2.2.1, 512, .inl (zMr s))), ((a 2), .inl (E.2.2.1, 512, .inl (zMr t))), ((a 3), .inl (E.2.2.1, 2048, .inl (zHi Q)))] [((a 0), .inr (6, [.ref (a 1), .ref (a 2), .ref (a 3), .int (nI (mHk (nI (mRWn s x)) kp)), .int (nI ty), .ref (a 4), .int (nI pl), .int (zb gd), .int (nI od), .ref (a 5)])), ((a 1), .inl (E.2.2.1, 512, .inl (zMr (mRW s x)))), ((a 2), .inl (E.2.2.1, 512, .inl (zMr s))), ((a 3), .inl (E.2.2.1, 2048, .inl (zHi (mHq (nI (mRWn s x)) Q kp s))))] (some (.int (nI (mRWn s x)))) := by
  refine zM.of kX6_settled (Nat.le_of_ble_eq_true rfl) rfl [some (.ref (a 0)), some (.int (nI x)), some (.int (nI 0))] rfl (Nat.le_of_ble_eq_true rfl) ?_
  intro X eX C N
  subst eX
  obtain ⟨hu0, hu1, hM, hk1, hk2, hk3⟩ := id hO
  refine z_aload_n C 0 dX6_settled_0 rfl rfl ?_
  refine z_iload_n C 1 dX6_settled_1 rfl rfl ?_
  refine z_callVr C kX6_noChange gX6_settled_X6_noChange (mX6_noChange_y X.2.1 a kp ty pl gd od (nU s) (nS s) (nN s) (nX s) (nM s) (nT s) (nB s) (nK s) (nY s) (nZ s) (nR s) (nC s) (nV s) x hO hx) dX6_settled_2 [0, 1] [] 0 rfl nd_0_1 rfl rfl rfl (by decide) (by decide) (Nat.le_of_ble_eq_true rfl) rfl ?_
  refine z_bif_eq_t C 10 dX6_settled_5 (by decide) rfl ?_
  refine z_aload_n C 0 dX6_settled_10 rfl rfl ?_
  refine z_iload_n C 1 dX6_settled_11 rfl rfl ?_
  refine z_callVr C kX6_isPending gX6_settled_X6_isPending (mX6_isPending X.2.1 a kp ty pl gd od (nU s) (nS s) (nN s) (nX s) (nM s) (nT s) (nB s) (nK s) (nY s) (nZ s) (nR s) (nC s) (nV s) x (by first | assumption | omega)) dX6_settled_12 [0, 1] [] 0 rfl nd_0_1 rfl rfl rfl (by decide) (by decide) (Nat.le_of_ble_eq_true rfl) rfl ?_
  refine z_bif_ne_t C 21 dX6_settled_15 (by decide) (decide_eq_true (by omega)) ?_
  refine z_aload_n C 0 dX6_settled_21 rfl rfl ?_
  refine z_callVv (wn := [((a 0), .inr (6, [.ref (a 1), .ref (a 2), .ref (a 3), .int (nI kp), .int (nI ty), .ref (a 4), .int (nI pl), .int (zb gd), .int (nI od), .ref (a 5)])), ((a 1), .inl (X.2.1.2.2.1, 512, .inl (zMr s))), ((a 2), .inl (X.2.1.2.2.1, 512, .inl (zMr s))), ((a 3), .inl (X.2.1.2.2.1, 2048, .inl (zHi Q)))]) C kX6_begin gX6_settled_X6_begin (mX6_begin X.2.1 a kp ty pl gd od s t ) dX6_settled_22 [0, 1, 2] [] 0 rfl rfl nd_0_1_2 rfl rfl rfl (by decide) (by decide) (Nat.le_of_ble_eq_true rfl) rfl rfl ?_
  refine z_aload_n C 0 dX6_settled_25 rfl rfl ?_
  refine z_iload_n C 2 dX6_settled_26 rfl rfl ?_
  refine z_nif_eq_t C 38 dX6_settled_27 (by decide) (by omega) (by omega) ?_
  refine z_aload_n C 0 dX6_settled_38 rfl rfl ?_
  refine z_iload_n C 1 dX6_settled_39 rfl rfl ?_
  refine z_callV (wn := [((a 0), .inr (6, [.ref (a 1), .ref (a 2), .ref (a 3), .int (nI kp), .int (nI ty), .ref (a 4), .int (nI pl), .int (zb gd), .int (nI od), .ref (a 5)])), ((a 1), .inl (X.2.1.2.2.1, 512, .inl (zMr (mRW s x)))), ((a 2), .inl (X.2.1.2.2.1, 512, .inl (zMr s))), ((a 3), .inl (X.2.1.2.2.1, 2048, .inl (zHi Q)))]) C kX6_rejectWith gX6_settled_X6_rejectWith (mX6_rejectWith X.2.1 a kp ty pl gd od s x hO hx (hg)) dX6_settled_40 [0, 1] [.ref (a 0)] 0 rfl rfl nd_0_1 rfl rfl rfl (by decide) (by decide) (Nat.le_of_ble_eq_true rfl) rfl rfl ?_
  have hg_1 : mRWn s x ≤ nM s + 1 := Nat.succ_le_succ (zc_le _ _)
  refine z_callV (wn := [((a 0), .inr (6, [.ref (a 1), .ref (a 2), .ref (a 3), .int (nI (mHk (nI (mRWn s x)) kp)), .int (nI ty), .ref (a 4), .int (nI pl), .int (zb gd), .int (nI od), .ref (a 5)])), ((a 1), .inl (X.2.1.2.2.1, 512, .inl (zMr (mRW s x)))), ((a 2), .inl (X.2.1.2.2.1, 512, .inl (zMr s))), ((a 3), .inl (X.2.1.2.2.1, 2048, .inl (zHi (mHq (nI (mRWn s x)) Q kp s))))]) C kX6_done gX6_settled_X6_done (mX6_done X.2.1 a kp ty pl gd od s Q (nI (mRWn s x)) hk4) dX6_settled_43 [0, 2, 3] [] 0 rfl rfl nd_0_2_3 rfl rfl rfl (by decide) (by decide) (Nat.le_of_ble_eq_true rfl) rfl rfl ?_
  exact z_iret C N dX6_settled_46 (rfl) (rfl)

theorem kX6_reject : zY yX6_reject wsX6_reject cX6_reject 2 (some .int) 1 := ⟨⟨_, rfl⟩, ⟨by decide +kernel, by decide +kernel, by decide +kernel⟩, by decide +kernel⟩
set_option maxHeartbeats 400000 in
set_option maxRecDepth 100000 in
theorem mX6_reject_b (E : zE) (a : Nat → Nat) (kp ty pl : Nat) (gd : Bool) (od : Nat) (s t : zMs) (Q : Nat → zMs) (x : Int32) (hO : okM (nU s) (nS s) (nM s) (nK s)) (hk4 : kp ≤ 4) (hx : x < 0 ∨ (¬ x < 0 ∧ nI (nM s) ≤ x)) : zM E yX6_reject wsX6_reject 6 [.ref (a 0), .int x] [((a 0), .inr (6, [.ref (a 1), .ref (a 2), .ref (a 3), .int (nI kp), .int (nI ty), .ref (a 4), .int (nI pl), .int (zb gd), .int (nI od), .ref (a 5)])), ((a 1), .inl (E.2.2.1, 512, .inl (zMr s))), ((a 2), .inl (E.2.2.1, 512, .inl (zMr t))), ((a 3), .inl (E.2.2.1, 2048, .inl (zHi Q)))] [((a 0), .inr (6, [.ref (a 1), .ref (a 2), .ref (a 3), .int (nI kp), .int (nI ty), .ref (a 4), .int (nI pl), .int (zb gd), .int (nI od), .ref (a 5)])), ((a 1), .inl (E.2.2.1, 512, .inl (zMr s))), ((a 2), .inl (E.2.2.1, 512, .inl (zMr t))), ((a 3), .inl (E.2.2.1, 2048, .inl (zHi Q)))] (some (.int (-1))) := by
  refine zM.of kX6_reject (Nat.le_of_ble_eq_true rfl) rfl [some (.ref (a 0)), some (.int x)] rfl (Nat.le_of_ble_eq_true rfl) ?_
  intro X eX C N
  subst eX
  obtain ⟨hu0, hu1, hM, hk1, hk2, hk3⟩ := id hO
  refine z_aload_n C 0 dX6_reject_0 rfl rfl ?_
  refine z_iload_n C 1 dX6_reject_1 rfl rfl ?_
  refine z_iconst C (nI 0) dX6_reject_2 (by decide) ?_
  refine z_callVr C kX6_settled gX6_reject_X6_settled (mX6_settled_b0 X.2.1 a kp ty pl gd od s t Q x hO hk4 hx) dX6_reject_3 [0, 1, 2, 3] [] 0 rfl nd_0_1_2_3 rfl rfl rfl (by decide) (by decide) (Nat.le_of_ble_eq_true rfl) rfl ?_
  exact z_iret C N dX6_reject_6 (rfl) (rfl)

set_option maxHeartbeats 400000 in
set_option maxRecDepth 100000 in
theorem mX6_reject_n (E : zE) (a : Nat → Nat) (kp ty pl : Nat) (gd : Bool) (od : Nat) (s t : zMs) (Q : Nat → zMs) (x : Nat) (hO : okM (nU s) (nS s) (nM s) (nK s)) (hk4 : kp ≤ 4) (hx : x < nM s) (hp : ¬ nZ s x = 0) : zM E yX6_reject wsX6_reject 6 [.ref (a 0), .int (nI x)] [((a 0), .inr (6, [.ref (a 1), .ref (a 2), .ref (a 3), .int (nI kp), .int (nI ty), .ref (a 4), .int (nI pl), .int (zb gd), .int (nI od), .ref (a 5)])), ((a 1), .inl (E.2.2.1, 512, .inl (zMr s))), ((a 2), .inl (E.2.2.1, 512, .inl (zMr t))), ((a 3), .inl (E.2.2.1, 2048, .inl (zHi Q)))] [((a 0), .inr (6, [.ref (a 1), .ref (a 2), .ref (a 3), .int (nI kp), .int (nI ty), .ref (a 4), .int (nI pl), .int (zb gd), .int (nI od), .ref (a 5)])), ((a 1), .inl (E.2.2.1, 512, .inl (zMr s))), ((a 2), .inl (E.2.2.1, 512, .inl (zMr t))), ((a 3), .inl (E.2.2.1, 2048, .inl (zHi Q)))] (some (.int (-4))) := by
  refine zM.of kX6_reject (Nat.le_of_ble_eq_true rfl) rfl [some (.ref (a 0)), some (.int (nI x))] rfl (Nat.le_of_ble_eq_true rfl) ?_
  intro X eX C N
  subst eX
  obtain ⟨hu0, hu1, hM, hk1, hk2, hk3⟩ := id hO
  refine z_aload_n C 0 dX6_reject_0 rfl rfl ?_
  refine z_iload_n C 1 dX6_reject_1 rfl rfl ?_
  refine z_iconst C (nI 0) dX6_reject_2 (by decide) ?_
  refine z_callVr C kX6_settled gX6_reject_X6_settled (mX6_settled_n0 X.2.1 a kp ty pl gd od s t Q x hO hk4 hx hp) dX6_reject_3 [0, 1, 2, 3] [] 0 rfl nd_0_1_2_3 rfl rfl rfl (by decide) (by decide) (Nat.le_of_ble_eq_true rfl) rfl ?_
  exact z_iret C N dX6_reject_6 (rfl) (rfl)

set_option maxHeartbeats 400000 in
set_option maxRecDepth 100000 in
theorem mX6_reject (E : zE) (a : Nat → Nat) (kp ty pl : Nat) (gd : Bool) (od : Nat) (s t : zMs) (Q : Nat → zMs) (x : Nat) (hO : okM (nU s) (nS s) (nM s) (nK s)) (hk4 : kp ≤ 4) (hx : x < nM s) (hp : nZ s x = 0) (hg : lnX (nK s) (nR s) (nC s) (nS s) (nN s) (nU s) x) : zM E yX6_reject wsX6_reject 6 [.ref (a 0), .int (nI x)] [((a 0), .inr (6, [.ref (a 1), .ref (a 2), .ref (a 3), .int (nI kp), .int (nI ty), .ref (a 4), .int (nI pl), .int (zb gd), .int (nI od), .ref (a 5)])), ((a 1), .inl (E.2.2.1, 512, .inl (zMr s))), ((a 2), .inl (E.2.2.1, 512, .inl (zMr t))), ((a 3), .inl (E.2.2.1, 2048, .inl (zHi Q)))] [((a 0), .inr (6, [.ref (a 1), .ref (a 2), .ref (a 3), .int (nI (mHk (nI (mRWn s x)) kp)), .int (nI ty), .ref (a 4), .int (nI pl), .int (zb gd), .int (nI od), .ref (a 5)])), ((a 1), .inl (E.2.2.1, 512, .inl (zMr (mRW s x)))), ((a 2), .inl (E.2.2.1, 512, .inl (zMr s))), ((a 3), .inl (E.2.2.1, 2048, .inl (zHi (mHq (nI (mRWn s x)) Q kp s))))] (some (.int (nI (mRWn s x)))) := by
  refine zM.of kX6_reject (Nat.le_of_ble_eq_true rfl) rfl [some (.ref (a 0)), some (.int (nI x))] rfl (Nat.le_of_ble_eq_true rfl) ?_
  intro X eX C N
  subst eX
  obtain ⟨hu0, hu1, hM, hk1, hk2, hk3⟩ := id hO
  refine z_aload_n C 0 dX6_reject_0 rfl rfl ?_
  refine z_iload_n C 1 dX6_reject_1 rfl rfl ?_
  refine z_iconst C (nI 0) dX6_reject_2 (by decide) ?_
  refine z_callV (wn := [((a 0), .inr (6, [.ref (a 1), .ref (a 2), .ref (a 3), .int (nI (mHk (nI (mRWn s x)) kp)), .int (nI ty), .ref (a 4), .int (nI pl), .int (zb gd), .int (nI od), .ref (a 5)])), ((a 1), .inl (X.2.1.2.2.1, 512, .inl (zMr (mRW s x)))), ((a 2), .inl (X.2.1.2.2.1, 512, .inl (zMr s))), ((a 3), .inl (X.2.1.2.2.1, 2048, .inl (zHi (mHq (nI (mRWn s x)) Q kp s))))]) C kX6_settled gX6_reject_X6_settled (mX6_settled_0 X.2.1 a kp ty pl gd od s t Q x hO hk4 hx hp hg) dX6_reject_3 [0, 1, 2, 3] [] 0 rfl rfl nd_0_1_2_3 rfl rfl rfl (by decide) (by decide) (Nat.le_of_ble_eq_true rfl) rfl rfl ?_
  exact z_iret C N dX6_reject_6 (rfl) (rfl)

theorem kX6_undo : zY yX6_undo wsX6_undo cX6_undo 2 (some .int) 0 := ⟨⟨_, rfl⟩, ⟨by decide +kernel, by decide +kernel, by decide +kernel⟩, by decide +kernel⟩
theorem fX6_undo_26 : zF wsX6_undo RX6 26 6 3 RX6 TX6 10 := ⟨by decide +kernel, rfl, by decide, by decide +kernel, rfl⟩
set_option maxHeartbeats 400000 in
set_option maxRecDepth 100000 in
theorem mX6_undo_0 (E : zE) (a : Nat → Nat) (kp ty pl : Nat) (gd : Bool) (od : Nat) (s t : zMs) (Q : Nat → zMs)  (hO : okM (nU s) (nS s) (nM s) (nK s)) (hk4 : kp ≤ 4) (hk0 : kp = 0) : zM E yX6_undo wsX6_undo 0 [.ref (a 0)] [((a 0), .inr (6, [.ref (a 1), .ref (a 2), .ref (a 3), .int (nI kp), .int (nI ty), .ref (a 4), .int (nI pl), .int (zb gd), .int (nI od), .ref (a 5)])), ((a 1), .inl (E.2.2.1, 512, .inl (zMr s))), ((a 2), .inl (E.2.2.1, 512, .inl (zMr t))), ((a 3), .inl (E.2.2.1, 2048, .inl (zHi Q)))] [((a 0), .inr (6, [.ref (a 1), .ref (a 2), .ref (a 3), .int (nI kp), .int (nI ty), .ref (a 4), .int (nI pl), .int (zb gd), .int (nI od), .ref (a 5)])), ((a 1), .inl (E.2.2.1, 512, .inl (zMr s))), ((a 2), .inl (E.2.2.1, 512, .inl (zMr t))), ((a 3), .inl (E.2.2.1, 2048, .inl (zHi Q)))] (some (.int (-5))) := by
  refine zM.of kX6_undo (Nat.le_of_ble_eq_true rfl) rfl [some (.ref (a 0)), none] rfl (Nat.le_of_ble_eq_true rfl) ?_
  intro X eX C N
  subst eX
  obtain ⟨hu0, hu1, hM, hk1, hk2, hk3⟩ := id hO
  refine z_aload_n C 0 dX6_undo_0 rfl rfl ?_
  refine z_get C fX6_undo_26 0 dX6_undo_1 rfl rfl ?_
  refine z_nif_ne_f C 10 dX6_undo_4 (by decide) (by omega) (by omega) ?_
  refine z_bipush C (-5) dX6_undo_7 (by decide) ?_
  exact z_iret C N dX6_undo_9 (rfl) (rfl)

theorem fX6_undo_7 : zF wsX6_undo RX6 7 6 0 RX6 TX6 10 := ⟨by decide +kernel, rfl, by decide, by decide +kernel, rfl⟩
theorem fX6_undo_16 : zF wsX6_undo RX6 16 6 2 RX6 TX6 10 := ⟨by decide +kernel, rfl, by decide, by decide +kernel, rfl⟩
set_option maxHeartbeats 4000000 in
set_option maxRecDepth 100000 in
theorem mX6_undo (E : zE) (a : Nat → Nat) (v ty pl : Nat) (gd : Bool) (od : Nat) (s t : zMs) (Q : Nat → zMs)  (hv : v < 4) : zM E yX6_undo wsX6_undo 0 [.ref (a 0)] [((a 0), .inr (6, [.ref (a 1), .ref (a 2), .ref (a 3), .int (nI (v + 1)), .int (nI ty), .ref (a 4), .int (nI pl), .int (zb gd), .int (nI od), .ref (a 5)])), ((a 1), .inl (E.2.2.1, 512, .inl (zMr s))), ((a 2), .inl (E.2.2.1, 512, .inl (zMr t))), ((a 3), .inl (E.2.2.1, 2048, .inl (zHi Q)))] [((a 0), .inr (6, [.ref (a 1), .ref (a 2), .ref (a 3), .int (nI v), .int (nI ty), .ref (a 4), .int (nI pl), .int (zb gd), .int (nI od), .ref (a 5)])), ((a 1), .inl (E.2.2.1, 512, .inl (zMr (Q v)))), ((a 2), .inl (E.2.2.1, 512, .inl (zMr t))), ((a 3), .inl (E.2.2.1, 2048, .inl (zHi Q)))] (some (.int (nI v))) := by
  refine zM.of kX6_undo (Nat.le_of_ble_eq_true rfl) rfl [some (.ref (a 0)), none] rfl (Nat.le_of_ble_eq_true rfl) ?_
  intro X eX C N
  subst eX
  refine z_aload_n C 0 dX6_undo_0 rfl rfl ?_
  refine z_get C fX6_undo_26 0 dX6_undo_1 rfl rfl ?_
  refine z_nif_ne_t C 10 dX6_undo_4 (by decide) (by omega) (by omega) ?_
  refine z_aload_n C 0 dX6_undo_10 rfl rfl ?_
  refine z_dup C dX6_undo_11 rfl ?_
  refine z_get C fX6_undo_26 0 dX6_undo_12 rfl rfl ?_
  refine z_iconst C (nI 1) dX6_undo_15 (by decide) ?_
  refine z_isub C dX6_undo_16 ?_
  refine z_top (y := nI v) ((pk_sub (by omega)).trans (congrArg nI (by omega))) ?_
  refine z_put C fX6_undo_26 ftX6_3 0 dX6_undo_17 rfl rfl rfl (Nat.le_of_ble_eq_true rfl) ?_
  refine z_iconst C (nI 0) dX6_undo_20 (by decide) ?_
  refine z_istore_n C 1 dX6_undo_21 rfl (Nat.le_of_ble_eq_true rfl) ?_
  have hL22 : ∀ (dd : Nat) (k : Nat) (f' : Nat → Int32), 512 - k = dd → (k ≤ 512) → (f' = mCp (zMr (Q v)) (zMr s) 0 k) → zG X 0 0 [((a 0), .inr (6, [.ref (a 1), .ref (a 2), .ref (a 3), .int (nI v), .int (nI ty), .ref (a 4), .int (nI pl), .int (zb gd), .int (nI od), .ref (a 5)])), ((a 1), .inl (X.2.1.2.2.1, 512, .inl f')), ((a 2), .inl (X.2.1.2.2.1, 512, .inl (zMr t))), ((a 3), .inl (X.2.1.2.2.1, 2048, .inl (zHi Q)))] [some (.ref (a 0)), some (.int (nI k))] [] 22 := by
    intro dd
    induction dd using Nat.strongRecOn with
    | _ dd ih22 =>
    intro k f' hdd hk hf
    refine z_iload_n C 1 dX6_undo_22 rfl rfl ?_
    refine z_sipush C (nI 512) dX6_undo_23 (by decide) ?_
    refine z_ncmp_ge C 56 dX6_undo_26 (by decide) (by omega) (by omega) (fun h_1 => ?_) (fun h_1 => ?_)
    · refine z_aload_n C 0 dX6_undo_56 rfl rfl ?_
      refine z_get C fX6_undo_26 0 dX6_undo_57 rfl rfl ?_
      exact z_iret C N dX6_undo_60 (by rw [hf, show k = 512 by omega, mCp_row] <;> rfl) (rfl)
    · refine z_aload_n C 0 dX6_undo_29 rfl rfl ?_
      refine z_get C fX6_undo_7 0 dX6_undo_30 rfl rfl ?_
      refine z_iload_n C 1 dX6_undo_33 rfl rfl ?_
      refine z_aload_n C 0 dX6_undo_34 rfl rfl ?_
      refine z_get C fX6_undo_16 0 dX6_undo_35 rfl rfl ?_
      refine z_sipush C (nI 512) dX6_undo_38 (by decide) ?_
      refine z_aload_n C 0 dX6_undo_41 rfl rfl ?_
      refine z_get C fX6_undo_26 0 dX6_undo_42 rfl rfl ?_
      refine z_imul C dX6_undo_45 ?_
      refine z_top (y := nI (512 * v)) (pk_mul _ _) ?_
      refine z_iload_n C 1 dX6_undo_46 rfl rfl ?_
      refine z_iadd C dX6_undo_47 ?_
      refine z_top (y := nI ((512 * v) + k)) (nI_add _ _) ?_
      refine z_ialdN C 3 dX6_undo_48 rfl (by omega) (by decide) ?_
      refine z_iastN C 1 dX6_undo_49 rfl (by omega) (by decide) ?_
      refine z_iinc C (nI (k + 1)) dX6_undo_50 rfl (zi_1 _) ?_
      refine z_goto C 22 dX6_undo_53 (by decide) ?_
      exact ih22 (512 - (k + 1)) (by omega) (k + 1) (upd f' k ((zHi Q) ((512 * v) + k))) rfl (by omega) (by subst hf; rw [zHi_at _ (by omega)]; exact mCp_s0)
  exact hL22 _ 0 (zMr s) rfl (by omega) ((mCp_0 _ _ _).symm)

theorem kX6_settle : zY yX6_settle wsX6_settle cX6_settle 4 (some .int) 2 := ⟨⟨_, rfl⟩, ⟨by decide +kernel, by decide +kernel, by decide +kernel⟩, by decide +kernel⟩
set_option maxHeartbeats 400000 in
set_option maxRecDepth 100000 in
theorem mX6_settle_b1 (E : zE) (a : Nat → Nat) (kp ty pl : Nat) (gd : Bool) (od : Nat) (s t : zMs) (Q : Nat → zMs) (au : Int32) (hO : okM (nU s) (nS s) (nM s) (nK s)) (hk4 : kp ≤ 4) (hx : au < 0 ∨ (¬ au < 0 ∧ nI 4 ≤ au)) (hm : ¬ au = -1) : zM E yX6_settle wsX6_settle 5 [.ref (a 0), .int au, .int (nI 1)] [((a 0), .inr (6, [.ref (a 1), .ref (a 2), .ref (a 3), .int (nI kp), .int (nI ty), .ref (a 4), .int (nI pl), .int (zb gd), .int (nI od), .ref (a 5)])), ((a 1), .inl (E.2.2.1, 512, .inl (zMr s))), ((a 2), .inl (E.2.2.1, 512, .inl (zMr t))), ((a 3), .inl (E.2.2.1, 2048, .inl (zHi Q)))] [((a 0), .inr (6, [.ref (a 1), .ref (a 2), .ref (a 3), .int (nI kp), .int (nI ty), .ref (a 4), .int (nI pl), .int (zb gd), .int (nI od), .ref (a 5)])), ((a 1), .inl (E.2.2.1, 512, .inl (zMr s))), ((a 2), .inl (E.2.2.1, 512, .inl (zMr t))), ((a 3), .inl (E.2.2.1, 2048, .inl (zHi Q)))] (some (.int (-1))) := by
  refine zM.of kX6_settle (Nat.le_of_ble_eq_true rfl) rfl [some (.ref (a 0)), some (.int au), some (.int (nI 1)), none] rfl (Nat.le_of_ble_eq_true rfl) ?_
  intro X eX C N
  subst eX
  obtain ⟨hu0, hu1, hM, hk1, hk2, hk3⟩ := id hO
  refine z_iload_n C 1 dX6_settle_0 rfl rfl ?_
  refine z_iconst C (-1) dX6_settle_1 (by decide) ?_
  refine z_icmp_eq_f C 14 dX6_settle_2 (by decide) hm ?_
  refine z_iload_n C 1 dX6_settle_5 rfl rfl ?_
  refine z_callS C kX6_noAuthor gX6_settle_X6_noAuthor (mX6_noAuthor_n X.2.1 au hx) dX6_settle_6 [] rfl (by decide) (by decide) (Nat.le_of_ble_eq_true rfl) rfl ?_
  refine z_bif_eq_f C 14 dX6_settle_9 (by decide) rfl ?_
  refine z_iconst C (-1) dX6_settle_12 (by decide) ?_
  exact z_iret C N dX6_settle_13 (rfl) (rfl)

set_option maxHeartbeats 400000 in
set_option maxRecDepth 100000 in
theorem mX6_settle_b0 (E : zE) (a : Nat → Nat) (kp ty pl : Nat) (gd : Bool) (od : Nat) (s t : zMs) (Q : Nat → zMs) (au : Int32) (hO : okM (nU s) (nS s) (nM s) (nK s)) (hk4 : kp ≤ 4) (hx : au < 0 ∨ (¬ au < 0 ∧ nI 4 ≤ au)) (hm : ¬ au = -1) : zM E yX6_settle wsX6_settle 5 [.ref (a 0), .int au, .int (nI 0)] [((a 0), .inr (6, [.ref (a 1), .ref (a 2), .ref (a 3), .int (nI kp), .int (nI ty), .ref (a 4), .int (nI pl), .int (zb gd), .int (nI od), .ref (a 5)])), ((a 1), .inl (E.2.2.1, 512, .inl (zMr s))), ((a 2), .inl (E.2.2.1, 512, .inl (zMr t))), ((a 3), .inl (E.2.2.1, 2048, .inl (zHi Q)))] [((a 0), .inr (6, [.ref (a 1), .ref (a 2), .ref (a 3), .int (nI kp), .int (nI ty), .ref (a 4), .int (nI pl), .int (zb gd), .int (nI od), .ref (a 5)])), ((a 1), .inl (E.2.2.1, 512, .inl (zMr s))), ((a 2), .inl (E.2.2.1, 512, .inl (zMr t))), ((a 3), .inl (E.2.2.1, 2048, .inl (zHi Q)))] (some (.int (-1))) := by
  refine zM.of kX6_settle (Nat.le_of_ble_eq_true rfl) rfl [some (.ref (a 0)), some (.int au), some (.int (nI 0)), none] rfl (Nat.le_of_ble_eq_true rfl) ?_
  intro X eX C N
  subst eX
  obtain ⟨hu0, hu1, hM, hk1, hk2, hk3⟩ := id hO
  refine z_iload_n C 1 dX6_settle_0 rfl rfl ?_
  refine z_iconst C (-1) dX6_settle_1 (by decide) ?_
  refine z_icmp_eq_f C 14 dX6_settle_2 (by decide) hm ?_
  refine z_iload_n C 1 dX6_settle_5 rfl rfl ?_
  refine z_callS C kX6_noAuthor gX6_settle_X6_noAuthor (mX6_noAuthor_n X.2.1 au hx) dX6_settle_6 [] rfl (by decide) (by decide) (Nat.le_of_ble_eq_true rfl) rfl ?_
  refine z_bif_eq_f C 14 dX6_settle_9 (by decide) rfl ?_
  refine z_iconst C (-1) dX6_settle_12 (by decide) ?_
  exact z_iret C N dX6_settle_13 (rfl) (rfl)

set_option maxHeartbeats 400000 in
set_option maxRecDepth 100000 in
theorem mX6_settle_mn1 (E : zE) (a : Nat → Nat) (kp ty pl : Nat) (gd : Bool) (od : Nat) (s t : zMs) (Q : Nat → zMs)  (hO : okM (nU s) (nS s) (nM s) (nK s)) (hk4 : kp ≤ 4) (hz : zf (mFo (nZ s) (nY s) (-1)) (nM s) < 0) : zM E yX6_settle wsX6_settle 5 [.ref (a 0), .int (-1), .int (nI 1)] [((a 0), .inr (6, [.ref (a 1), .ref (a 2), .ref (a 3), .int (nI kp), .int (nI ty), .ref (a 4), .int (nI pl), .int (zb gd), .int (nI od), .ref (a 5)])), ((a 1), .inl (E.2.2.1, 512, .inl (zMr s))), ((a 2), .inl (E.2.2.1, 512, .inl (zMr t))), ((a 3), .inl (E.2.2.1, 2048, .inl (zHi Q)))] [((a 0), .inr (6, [.ref (a 1), .ref (a 2), .ref (a 3), .int (nI kp), .int (nI ty), .ref (a 4), .int (nI pl), .int (zb gd), .int (nI od), .ref (a 5)])), ((a 1), .inl (E.2.2.1, 512, .inl (zMr s))), ((a 2), .inl (E.2.2.1, 512, .inl (zMr t))), ((a 3), .inl (E.2.2.1, 2048, .inl (zHi Q)))] (some (.int (-4))) := by
  refine zM.of kX6_settle (Nat.le_of_ble_eq_true rfl) rfl [some (.ref (a 0)), some (.int (-1)), some (.int (nI 1)), none] rfl (Nat.le_of_ble_eq_true rfl) ?_
  intro X eX C N
  subst eX
  obtain ⟨hu0, hu1, hM, hk1, hk2, hk3⟩ := id hO
  refine z_iload_n C 1 dX6_settle_0 rfl rfl ?_
  refine z_iconst C (-1) dX6_settle_1 (by decide) ?_
  refine z_icmp_eq_t C 14 dX6_settle_2 (by decide) (by decide) ?_
  refine z_aload_n C 0 dX6_settle_14 rfl rfl ?_
  refine z_iload_n C 1 dX6_settle_15 rfl rfl ?_
  refine z_callVr C kX6_firstOf gX6_settle_X6_firstOf (mX6_firstOf X.2.1 a kp ty pl gd od (nU s) (nS s) (nN s) (nX s) (nM s) (nT s) (nB s) (nK s) (nY s) (nZ s) (nR s) (nC s) (nV s) (-1) hO) dX6_settle_16 [0, 1] [] 0 rfl nd_0_1 rfl rfl rfl (by decide) (by decide) (Nat.le_of_ble_eq_true rfl) rfl ?_
  refine z_if_ge_f C 25 dX6_settle_19 (by decide) (Int32.not_le.mpr hz) ?_
  refine z_bipush C (-4) dX6_settle_22 (by decide) ?_
  exact z_iret C N dX6_settle_24 (rfl) (rfl)

set_option maxHeartbeats 400000 in
set_option maxRecDepth 100000 in
theorem mX6_settle_m1 (E : zE) (a : Nat → Nat) (kp ty pl : Nat) (gd : Bool) (od : Nat) (s t : zMs) (Q : Nat → zMs)  (hO : okM (nU s) (nS s) (nM s) (nK s)) (hk4 : kp ≤ 4) (hz : ¬ zf (mFo (nZ s) (nY s) (-1)) (nM s) < 0) (hS : ∀ k, k ≤ nM s → okM (nU (mSL s (-1) true k).1) (nS (mSL s (-1) true k).1) (nM (mSL s (-1) true k).1) (nK (mSL s (-1) true k).1) ∧ (k < nM s → mFo (nZ (mSL s (-1) true k).1) (nY (mSL s (-1) true k).1) (-1) k = true → gAW (mSL s (-1) true k).1 k)) : zM E yX6_settle wsX6_settle 5 [.ref (a 0), .int (-1), .int (nI 1)] [((a 0), .inr (6, [.ref (a 1), .ref (a 2), .ref (a 3), .int (nI kp), .int (nI ty), .ref (a 4), .int (nI pl), .int (zb gd), .int (nI od), .ref (a 5)])), ((a 1), .inl (E.2.2.1, 512, .inl (zMr s))), ((a 2), .inl (E.2.2.1, 512, .inl (zMr t))), ((a 3), .inl (E.2.2.1, 2048, .inl (zHi Q)))] [((a 0), .inr (6, [.ref (a 1), .ref (a 2), .ref (a 3), .int (nI (mHk (nI ((mSL s (-1) true (nM s)).2)) kp)), .int (nI ty), .ref (a 4), .int (nI pl), .int (zb gd), .int (nI od), .ref (a 5)])), ((a 1), .inl (E.2.2.1, 512, .inl (zMr ((mSL s (-1) true (nM s)).1)))), ((a 2), .inl (E.2.2.1, 512, .inl (zMr s))), ((a 3), .inl (E.2.2.1, 2048, .inl (zHi (mHq (nI ((mSL s (-1) true (nM s)).2)) Q kp s))))] (some (.int (nI ((mSL s (-1) true (nM s)).2)))) := by
  refine zM.of kX6_settle (Nat.le_of_ble_eq_true rfl) rfl [some (.ref (a 0)), some (.int (-1)), some (.int (nI 1)), none] rfl (Nat.le_of_ble_eq_true rfl) ?_
  intro X eX C N
  subst eX
  obtain ⟨hu0, hu1, hM, hk1, hk2, hk3⟩ := id hO
  refine z_iload_n C 1 dX6_settle_0 rfl rfl ?_
  refine z_iconst C (-1) dX6_settle_1 (by decide) ?_
  refine z_icmp_eq_t C 14 dX6_settle_2 (by decide) (by decide) ?_
  refine z_aload_n C 0 dX6_settle_14 rfl rfl ?_
  refine z_iload_n C 1 dX6_settle_15 rfl rfl ?_
  refine z_callVr C kX6_firstOf gX6_settle_X6_firstOf (mX6_firstOf X.2.1 a kp ty pl gd od (nU s) (nS s) (nN s) (nX s) (nM s) (nT s) (nB s) (nK s) (nY s) (nZ s) (nR s) (nC s) (nV s) (-1) hO) dX6_settle_16 [0, 1] [] 0 rfl nd_0_1 rfl rfl rfl (by decide) (by decide) (Nat.le_of_ble_eq_true rfl) rfl ?_
  refine z_if_ge_t C 25 dX6_settle_19 (by decide) (Int32.not_lt.mp hz) ?_
  refine z_aload_n C 0 dX6_settle_25 rfl rfl ?_
  refine z_callVv (wn := [((a 0), .inr (6, [.ref (a 1), .ref (a 2), .ref (a 3), .int (nI kp), .int (nI ty), .ref (a 4), .int (nI pl), .int (zb gd), .int (nI od), .ref (a 5)])), ((a 1), .inl (X.2.1.2.2.1, 512, .inl (zMr s))), ((a 2), .inl (X.2.1.2.2.1, 512, .inl (zMr s))), ((a 3), .inl (X.2.1.2.2.1, 2048, .inl (zHi Q)))]) C kX6_begin gX6_settle_X6_begin (mX6_begin X.2.1 a kp ty pl gd od s t ) dX6_settle_26 [0, 1, 2] [] 0 rfl rfl nd_0_1_2 rfl rfl rfl (by decide) (by decide) (Nat.le_of_ble_eq_true rfl) rfl rfl ?_
  refine z_iconst C (nI 0) dX6_settle_29 (by decide) ?_
  refine z_istore_n C 3 dX6_settle_30 rfl (Nat.le_of_ble_eq_true rfl) ?_
  have hL31 : ∀ (dd : Nat) (k : Nat) (s' : zMs) (n9 : Nat), nM s - k = dd → (k ≤ nM s) → (s' = (mSL s (-1) true k).1) → (n9 = (mSL s (-1) true k).2) → (∀ j, j < k → mFo (nZ s') (nY s') (-1) j = false) → zG X 0 0 [((a 0), .inr (6, [.ref (a 1), .ref (a 2), .ref (a 3), .int (nI kp), .int (nI ty), .ref (a 4), .int (nI pl), .int (zb gd), .int (nI od), .ref (a 5)])), ((a 1), .inl (X.2.1.2.2.1, 512, .inl (zMr s'))), ((a 2), .inl (X.2.1.2.2.1, 512, .inl (zMr s))), ((a 3), .inl (X.2.1.2.2.1, 2048, .inl (zHi Q)))] [some (.ref (a 0)), some (.int (-1)), some (.int (nI 1)), some (.int (nI n9))] [] 31 := by
    intro dd
    induction dd using Nat.strongRecOn with
    | _ dd ih31 =>
    intro k s' n9 hdd hk hs' hn hno
    have hO9 : okM (nU s') (nS s') (nM s') (nK s') := by rw [hs']; exact (hS k hk).1
    have hM9 : nM s' = nM s := by rw [hs']; exact nM_SL s (-1) true k
    refine z_aload_n C 0 dX6_settle_31 rfl rfl ?_
    refine z_iload_n C 1 dX6_settle_32 rfl rfl ?_
    refine z_callVr C kX6_firstOf gX6_settle_X6_firstOf (mX6_firstOf X.2.1 a kp ty pl gd od (nU s') (nS s') (nN s') (nX s') (nM s') (nT s') (nB s') (nK s') (nY s') (nZ s') (nR s') (nC s') (nV s') (-1) hO9) dX6_settle_33 [0, 1] [] 0 rfl nd_0_1 rfl rfl rfl (by decide) (by decide) (Nat.le_of_ble_eq_true rfl) rfl ?_
    refine z_if_lt C 70 dX6_settle_36 (by decide) (fun h_1 => ?_) (fun h_1 => ?_)
    · have hq9 : mSL s (-1) true (nM s) = mSL s (-1) true k := mSL_to hk (fun j hj => by rw [← hs']; exact zf_ng (by omega) (by rw [← hM9]; exact h_1) j hj)
      refine z_aload_n C 0 dX6_settle_70 rfl rfl ?_
      refine z_iload_n C 3 dX6_settle_71 rfl rfl ?_
      refine z_callV (wn := [((a 0), .inr (6, [.ref (a 1), .ref (a 2), .ref (a 3), .int (nI (mHk (nI n9) kp)), .int (nI ty), .ref (a 4), .int (nI pl), .int (zb gd), .int (nI od), .ref (a 5)])), ((a 1), .inl (X.2.1.2.2.1, 512, .inl (zMr s'))), ((a 2), .inl (X.2.1.2.2.1, 512, .inl (zMr s))), ((a 3), .inl (X.2.1.2.2.1, 2048, .inl (zHi (mHq (nI n9) Q kp s))))]) C kX6_done gX6_settle_X6_done (mX6_done X.2.1 a kp ty pl gd od s Q (nI n9) hk4) dX6_settle_72 [0, 2, 3] [] 0 rfl rfl nd_0_2_3 rfl rfl rfl (by decide) (by decide) (Nat.le_of_ble_eq_true rfl) rfl rfl ?_
      exact z_iret C N dX6_settle_75 (by rw [hq9, ← hn, ← hs'] <;> rfl) (by rw [hq9, ← hn])
    · refine z_iload_n C 3 dX6_settle_39 rfl rfl ?_
      refine z_iload_n C 2 dX6_settle_40 rfl rfl ?_
      refine z_nif_eq_f C 56 dX6_settle_41 (by decide) (by omega) (by omega) ?_
      refine z_aload_n C 0 dX6_settle_44 rfl rfl ?_
      refine z_aload_n C 0 dX6_settle_45 rfl rfl ?_
      refine z_iload_n C 1 dX6_settle_46 rfl rfl ?_
      refine z_callVr C kX6_firstOf gX6_settle_X6_firstOf (mX6_firstOf X.2.1 a kp ty pl gd od (nU s') (nS s') (nN s') (nX s') (nM s') (nT s') (nB s') (nK s') (nY s') (nZ s') (nR s') (nC s') (nV s') (-1) hO9) dX6_settle_47 [0, 1] [.ref (a 0), .int (nI n9)] 0 rfl nd_0_1 rfl rfl rfl (by decide) (by decide) (Nat.le_of_ble_eq_true rfl) rfl ?_
      have hf9 : (zix (mFo (nZ s') (nY s') (-1)) (nM s)) < nM s := zf_nn (by omega) (by rw [← hM9]; exact h_1)
      have hk8 : k ≤ (zix (mFo (nZ s') (nY s') (-1)) (nM s)) := (Nat.lt_or_ge (zix (mFo (nZ s') (nY s') (-1)) (nM s)) k).elim (fun q => absurd (zix_p hf9) (by rw [hno _ q]; decide)) id
      refine z_top (y := nI (zix (mFo (nZ s') (nY s') (-1)) (nM s))) (by rw [hM9]; exact zf_ix (by omega) hf9) ?_
      refine z_callV (wn := [((a 0), .inr (6, [.ref (a 1), .ref (a 2), .ref (a 3), .int (nI kp), .int (nI ty), .ref (a 4), .int (nI pl), .int (zb gd), .int (nI od), .ref (a 5)])), ((a 1), .inl (X.2.1.2.2.1, 512, .inl (zMr (mAW s' (zix (mFo (nZ s') (nY s') (-1)) (nM s)))))), ((a 2), .inl (X.2.1.2.2.1, 512, .inl (zMr s))), ((a 3), .inl (X.2.1.2.2.1, 2048, .inl (zHi Q)))]) C kX6_acceptWith gX6_settle_X6_acceptWith (mX6_acceptWith X.2.1 a kp ty pl gd od s' (zix (mFo (nZ s') (nY s') (-1)) (nM s)) hO9 ((by rw [hM9]; exact hf9)) ((show gAW s' (zix (mFo (nZ s') (nY s') (-1)) (nM s)) from by subst hs'; have h7 := mSL_fx hno hf9; have h6 := (hS _ (Nat.le_of_lt hf9)).2 hf9 h7.2; rw [h7.1] at h6; exact h6).1) ((show gAW s' (zix (mFo (nZ s') (nY s') (-1)) (nM s)) from by subst hs'; have h7 := mSL_fx hno hf9; have h6 := (hS _ (Nat.le_of_lt hf9)).2 hf9 h7.2; rw [h7.1] at h6; exact h6).2)) dX6_settle_50 [0, 1] [.int (nI n9)] 0 rfl rfl nd_0_1 rfl rfl rfl (by decide) (by decide) (Nat.le_of_ble_eq_true rfl) rfl rfl ?_
      have hg_2 : mAWn s' (zix (mFo (nZ s') (nY s') (-1)) (nM s)) ≤ nM s' + 1 := mAL_le _ _ _
      refine z_goto C 65 dX6_settle_53 (by decide) ?_
      refine z_iadd C dX6_settle_65 ?_
      refine z_top (y := nI (n9 + (mAWn s' (zix (mFo (nZ s') (nY s') (-1)) (nM s))))) (nI_add _ _) ?_
      refine z_istore_n C 3 dX6_settle_66 rfl (Nat.le_of_ble_eq_true rfl) ?_
      refine z_goto C 31 dX6_settle_67 (by decide) ?_
      exact ih31 (nM s - ((zix (mFo (nZ s') (nY s') (-1)) (nM s)) + 1)) (by omega) ((zix (mFo (nZ s') (nY s') (-1)) (nM s)) + 1) (mAW s' (zix (mFo (nZ s') (nY s') (-1)) (nM s))) (n9 + (mAWn s' (zix (mFo (nZ s') (nY s') (-1)) (nM s)))) rfl (by omega) (by subst hs' hn; exact (congrArg Prod.fst (mSL_fa hno hf9)).symm) (by subst hs' hn; exact (congrArg Prod.snd (mSL_fa hno hf9)).symm) (mFo_AW (fun j hj => zix_ff j hj))
  exact hL31 _ 0 s 0 rfl (by omega) (rfl) (rfl) (fun j h => absurd h (Nat.not_lt_zero j))

