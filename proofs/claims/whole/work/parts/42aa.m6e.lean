set_option maxHeartbeats 400000 in
set_option maxRecDepth 100000 in
theorem mX6_doInsert_0 (E : zE) (a : Nat → Nat) (kp ty pl : Nat) (gd : Bool) (od : Nat) (s : zMs) (au : Nat) (p : Int32) (hO : okM (nU s) (nS s) (nM s) (nK s)) (hau : au < 4) : zM E yX6_doInsert wsX6_doInsert 3 [.ref (a 0), .int (nI au), .int (nI 0), .int p] [((a 0), .inr (6, [.ref (a 1), .ref (a 2), .ref (a 3), .int (nI kp), .int (nI ty), .ref (a 4), .int (nI pl), .int (zb gd), .int (nI od), .ref (a 5)])), ((a 1), .inl (E.2.2.1, 512, .inl (zMr s)))] [((a 0), .inr (6, [.ref (a 1), .ref (a 2), .ref (a 3), .int (nI kp), .int (nI ty), .ref (a 4), .int (nI pl), .int (zb gd), .int (nI od), .ref (a 5)])), ((a 1), .inl (E.2.2.1, 512, .inl (zMr ((mInsR s (nI au) p).2))))] (some (.int (mInsR s (nI au) p).1)) := by
  obtain ⟨hu0, hu1, hM, -, -, -⟩ := id hO
  by_cases h3 : p < 0 ∨ nI (nU s 0) < p
  · rw [show mInsR s (nI au) p = (-2, s) from if_pos h3]
    exact mX6_doInsert_0b E a kp ty pl gd od (nU s) (nS s) (nN s) (nX s) (nM s) (nT s) (nB s) (nK s) (nY s) (nZ s) (nR s) (nC s) (nV s) au p hO hau (z_or h3)
  · obtain ⟨j, hj, e⟩ := z_natle (by omega) h3
    subst e
    by_cases h4 : 12 ≤ nU s 0
    · rw [show mInsR s (nI au) (nI j) = (-3, s) by rw [mInsR, if_neg h3, if_pos (Or.inl h4)]]
      exact mX6_doInsert_0f1 E a kp ty pl gd od (nU s) (nS s) (nN s) (nX s) (nM s) (nT s) (nB s) (nK s) (nY s) (nZ s) (nR s) (nC s) (nV s) au j hO hau hj (by omega)
    · by_cases h5 : nT s = true
      · by_cases h6 : 60 ≤ nM s
        · rw [show mInsR s (nI au) (nI j) = (-3, s) by rw [mInsR, if_neg h3, if_pos (Or.inr ⟨h5, h6⟩)]]
          exact mX6_doInsert_0f2 E a kp ty pl gd od (nU s) (nS s) (nN s) (nX s) (nM s) (nT s) (nB s) (nK s) (nY s) (nZ s) (nR s) (nC s) (nV s) au j hO hau hj (by omega) h5 (by omega)
        · rw [show mInsR s (nI au) (nI j) = (nI (nM s), mNew (mPut s 0 j) (nI 0) (nI au) (nI (nX s)) (-5) (nI 0)) by rw [mInsR, if_neg h3, if_neg (by rintro (z | z); exact h4 z; exact h6 z.2), if_pos h5, nI_clamp (by omega)]]
          exact mX6_doInsert_0t E a kp ty pl gd od (nU s) (nS s) (nN s) (nX s) (nM s) (nT s) (nB s) (nK s) (nY s) (nZ s) (nR s) (nC s) (nV s) au j hO hau hj (by omega) h5 (by omega)
      · rw [show mInsR s (nI au) (nI j) = (nI 1000, mPut s 0 j) by rw [mInsR, if_neg h3, if_neg (by rintro (z | z); exact h4 z; exact h5 z.1), if_neg h5, nI_clamp (by omega)]]
        exact mX6_doInsert_0u E a kp ty pl gd od (nU s) (nS s) (nN s) (nX s) (nM s) (nT s) (nB s) (nK s) (nY s) (nZ s) (nR s) (nC s) (nV s) au j hO hau hj (by omega) (by simpa using h5)

set_option maxHeartbeats 400000 in
set_option maxRecDepth 100000 in
theorem mX6_doInsert_1 (E : zE) (a : Nat → Nat) (kp ty pl : Nat) (gd : Bool) (od : Nat) (s : zMs) (au : Nat) (p : Int32) (hO : okM (nU s) (nS s) (nM s) (nK s)) (hau : au < 4) : zM E yX6_doInsert wsX6_doInsert 3 [.ref (a 0), .int (nI au), .int (nI 1), .int p] [((a 0), .inr (6, [.ref (a 1), .ref (a 2), .ref (a 3), .int (nI kp), .int (nI ty), .ref (a 4), .int (nI pl), .int (zb gd), .int (nI od), .ref (a 5)])), ((a 1), .inl (E.2.2.1, 512, .inl (zMr s)))] [((a 0), .inr (6, [.ref (a 1), .ref (a 2), .ref (a 3), .int (nI kp), .int (nI ty), .ref (a 4), .int (nI pl), .int (zb gd), .int (nI od), .ref (a 5)])), ((a 1), .inl (E.2.2.1, 512, .inl (zMr ((mInsC s (nI au) p).2))))] (some (.int (mInsC s (nI au) p).1)) := by
  obtain ⟨hu0, hu1, hM, -, -, -⟩ := id hO
  by_cases h3 : p < 0 ∨ nI (nU s 1) < p
  · rw [show mInsC s (nI au) p = (-2, s) from if_pos h3]
    exact mX6_doInsert_1b E a kp ty pl gd od (nU s) (nS s) (nN s) (nX s) (nM s) (nT s) (nB s) (nK s) (nY s) (nZ s) (nR s) (nC s) (nV s) au p hO hau (z_or h3)
  · obtain ⟨j, hj, e⟩ := z_natle (by omega) h3
    subst e
    by_cases h4 : 8 ≤ nU s 1
    · rw [show mInsC s (nI au) (nI j) = (-3, s) by rw [mInsC, if_neg h3, if_pos (Or.inl h4)]]
      exact mX6_doInsert_1f1 E a kp ty pl gd od (nU s) (nS s) (nN s) (nX s) (nM s) (nT s) (nB s) (nK s) (nY s) (nZ s) (nR s) (nC s) (nV s) au j hO hau hj (by omega)
    · by_cases h5 : nT s = true
      · by_cases h6 : 60 ≤ nM s
        · rw [show mInsC s (nI au) (nI j) = (-3, s) by rw [mInsC, if_neg h3, if_pos (Or.inr ⟨h5, h6⟩)]]
          exact mX6_doInsert_1f2 E a kp ty pl gd od (nU s) (nS s) (nN s) (nX s) (nM s) (nT s) (nB s) (nK s) (nY s) (nZ s) (nR s) (nC s) (nV s) au j hO hau hj (by omega) h5 (by omega)
        · rw [show mInsC s (nI au) (nI j) = (nI (nM s), mNew (mPut s 1 j) (nI 2) (nI au) (-5) (nI (nX s)) (nI 0)) by rw [mInsC, if_neg h3, if_neg (by rintro (z | z); exact h4 z; exact h6 z.2), if_pos h5, nI_clamp (by omega)]]
          exact mX6_doInsert_1t E a kp ty pl gd od (nU s) (nS s) (nN s) (nX s) (nM s) (nT s) (nB s) (nK s) (nY s) (nZ s) (nR s) (nC s) (nV s) au j hO hau hj (by omega) h5 (by omega)
      · rw [show mInsC s (nI au) (nI j) = (nI 1000, mPut s 1 j) by rw [mInsC, if_neg h3, if_neg (by rintro (z | z); exact h4 z; exact h5 z.1), if_neg h5, nI_clamp (by omega)]]
        exact mX6_doInsert_1u E a kp ty pl gd od (nU s) (nS s) (nN s) (nX s) (nM s) (nT s) (nB s) (nK s) (nY s) (nZ s) (nR s) (nC s) (nV s) au j hO hau hj (by omega) (by simpa using h5)

set_option maxHeartbeats 400000 in
set_option maxRecDepth 100000 in
theorem mX6_doInsert (E : zE) (a : Nat → Nat) (kp ty pl : Nat) (gd : Bool) (od : Nat) (s : zMs) (au ax p : Int32) (hO : okM (nU s) (nS s) (nM s) (nK s)) : zM E yX6_doInsert wsX6_doInsert 3 [.ref (a 0), .int au, .int ax, .int p] [((a 0), .inr (6, [.ref (a 1), .ref (a 2), .ref (a 3), .int (nI kp), .int (nI ty), .ref (a 4), .int (nI pl), .int (zb gd), .int (nI od), .ref (a 5)])), ((a 1), .inl (E.2.2.1, 512, .inl (zMr s)))] [((a 0), .inr (6, [.ref (a 1), .ref (a 2), .ref (a 3), .int (nI kp), .int (nI ty), .ref (a 4), .int (nI pl), .int (zb gd), .int (nI od), .ref (a 5)])), ((a 1), .inl (E.2.2.1, 512, .inl (zMr ((mIns s au ax p).2))))] (some (.int (mIns s au ax p).1)) := by
  by_cases h1 : au < 0 ∨ nI 4 ≤ au
  · rw [show mIns s au ax p = (-1, s) from if_pos h1]
    exact mX6_doInsert_b1 E a kp ty pl gd od (nU s) (nS s) (nN s) (nX s) (nM s) (nT s) (nB s) (nK s) (nY s) (nZ s) (nR s) (nC s) (nV s) au ax p hO (z_or h1)
  · obtain ⟨u, hu, e⟩ := z_nat (n := 4) (by decide) (fun q => h1 (Or.inl q)) (fun q => h1 (Or.inr q))
    subst e
    by_cases h2 : ax = 0
    · have e0 : ax = nI 0 := h2.trans nI_0.symm
      subst e0
      rw [show mIns s (nI u) (nI 0) p = mInsR s (nI u) p by rw [mIns, if_neg h1, if_pos h2]]
      exact mX6_doInsert_0 E a kp ty pl gd od s u p hO hu
    · by_cases h3 : ax = nI 1
      · subst h3
        rw [show mIns s (nI u) (nI 1) p = mInsC s (nI u) p by rw [mIns, if_neg h1, if_neg h2, if_pos rfl]]
        exact mX6_doInsert_1 E a kp ty pl gd od s u p hO hu
      · rw [show mIns s (nI u) ax p = (-1, s) by rw [mIns, if_neg h1, if_neg h2, if_neg h3]]
        exact mX6_doInsert_b2 E a kp ty pl gd od (nU s) (nS s) (nN s) (nX s) (nM s) (nT s) (nB s) (nK s) (nY s) (nZ s) (nR s) (nC s) (nV s) u ax p hO hu (z_ax2 h2 h3)

set_option maxHeartbeats 400000 in
set_option maxRecDepth 100000 in
theorem mX6_doRemove_0 (E : zE) (a : Nat → Nat) (kp ty pl : Nat) (gd : Bool) (od : Nat) (s : zMs) (au j : Nat) (hO : okM (nU s) (nS s) (nM s) (nK s)) (hau : au < 4) (hj : j < nU s 0) : zM E yX6_doRemove wsX6_doRemove 5 [.ref (a 0), .int (nI au), .int (nI 0), .int (nI j)] [((a 0), .inr (6, [.ref (a 1), .ref (a 2), .ref (a 3), .int (nI kp), .int (nI ty), .ref (a 4), .int (nI pl), .int (zb gd), .int (nI od), .ref (a 5)])), ((a 1), .inl (E.2.2.1, 512, .inl (zMr s)))] [((a 0), .inr (6, [.ref (a 1), .ref (a 2), .ref (a 3), .int (nI kp), .int (nI ty), .ref (a 4), .int (nI pl), .int (zb gd), .int (nI od), .ref (a 5)])), ((a 1), .inl (E.2.2.1, 512, .inl (zMr ((mRemRj s (nI au) j).2))))] (some (.int (mRemRj s (nI au) j).1)) := by
  obtain ⟨hu0, hu1, hM, -, -, -⟩ := id hO
  by_cases h1 : nT s = false
  · rw [show mRemRj s (nI au) j = (nI 1000, mTk (mDs s (nI 0) (mN (nS s) (nN s) 0 j) false) 0 j) from if_pos h1]
    exact mX6_doRemove_0u E a kp ty pl gd od (nU s) (nS s) (nN s) (nX s) (nM s) (nT s) (nB s) (nK s) (nY s) (nZ s) (nR s) (nC s) (nV s) au j hO hau hj h1
  · have h1' : nT s = true := by simpa using h1
    by_cases h2 : mDm (nZ s) (nK s) (nR s) (nC s) (nS s) (nN s) (nM s) 0 j = true
    · rw [show mRemRj s (nI au) j = (-4, s) by rw [mRemRj, if_neg h1, if_pos h2]]
      exact mX6_doRemove_0d E a kp ty pl gd od (nU s) (nS s) (nN s) (nX s) (nM s) (nT s) (nB s) (nK s) (nY s) (nZ s) (nR s) (nC s) (nV s) au j hO hau hj h1' h2
    · have h2' : mDm (nZ s) (nK s) (nR s) (nC s) (nS s) (nN s) (nM s) 0 j = false := by simpa using h2
      by_cases h3 : zix (mLn (nZ s) (nK s) (nR s) (nC s) 0 (mN (nS s) (nN s) 0 j)) (nM s) < nM s ∧ nY s (zix (mLn (nZ s) (nK s) (nR s) (nC s) 0 (mN (nS s) (nN s) 0 j)) (nM s)) = nI au
      · rw [show mRemRj s (nI au) j = (nI (zix (mLn (nZ s) (nK s) (nR s) (nC s) 0 (mN (nS s) (nN s) 0 j)) (nM s)), mTk (mDs s (nI 0) (mN (nS s) (nN s) 0 j) false) 0 j) by rw [mRemRj, if_neg h1, if_neg h2, if_pos h3]]
        exact mX6_doRemove_0o E a kp ty pl gd od (nU s) (nS s) (nN s) (nX s) (nM s) (nT s) (nB s) (nK s) (nY s) (nZ s) (nR s) (nC s) (nV s) au j _ hO hau hj h1' h2' (zf_ix (by omega) h3.1) h3.1 h3.2
      · by_cases h4 : 60 ≤ nM s
        · rw [show mRemRj s (nI au) j = (-3, s) by rw [mRemRj, if_neg h1, if_neg h2, if_neg h3, if_pos h4]]
          by_cases h5 : zix (mLn (nZ s) (nK s) (nR s) (nC s) 0 (mN (nS s) (nN s) 0 j)) (nM s) < nM s
          · exact mX6_doRemove_0mf E a kp ty pl gd od (nU s) (nS s) (nN s) (nX s) (nM s) (nT s) (nB s) (nK s) (nY s) (nZ s) (nR s) (nC s) (nV s) au j _ hO hau hj h1' h2' (zf_ix (by omega) h5) h5 (fun z => h3 ⟨h5, z⟩) (by omega)
          · exact mX6_doRemove_0nf E a kp ty pl gd od (nU s) (nS s) (nN s) (nX s) (nM s) (nT s) (nB s) (nK s) (nY s) (nZ s) (nR s) (nC s) (nV s) au j hO hau hj h1' h2' (by rw [show mIn (nZ s) (nK s) (nR s) (nC s) (nS s) (nN s) (nM s) 0 j = -5 from zf_nix (by omega) h5]; decide) (by omega)
        · rw [show mRemRj s (nI au) j = (nI (nM s), mNew s (nI 1) (nI au) (mN (nS s) (nN s) 0 j) (-5) (nI 0)) by rw [mRemRj, if_neg h1, if_neg h2, if_neg h3, if_neg h4]]
          by_cases h5 : zix (mLn (nZ s) (nK s) (nR s) (nC s) 0 (mN (nS s) (nN s) 0 j)) (nM s) < nM s
          · exact mX6_doRemove_0mt E a kp ty pl gd od (nU s) (nS s) (nN s) (nX s) (nM s) (nT s) (nB s) (nK s) (nY s) (nZ s) (nR s) (nC s) (nV s) au j _ hO hau hj h1' h2' (zf_ix (by omega) h5) h5 (fun z => h3 ⟨h5, z⟩) (by omega)
          · exact mX6_doRemove_0nt E a kp ty pl gd od (nU s) (nS s) (nN s) (nX s) (nM s) (nT s) (nB s) (nK s) (nY s) (nZ s) (nR s) (nC s) (nV s) au j hO hau hj h1' h2' (by rw [show mIn (nZ s) (nK s) (nR s) (nC s) (nS s) (nN s) (nM s) 0 j = -5 from zf_nix (by omega) h5]; decide) (by omega)

set_option maxHeartbeats 400000 in
set_option maxRecDepth 100000 in
theorem mX6_doRemove_1 (E : zE) (a : Nat → Nat) (kp ty pl : Nat) (gd : Bool) (od : Nat) (s : zMs) (au j : Nat) (hO : okM (nU s) (nS s) (nM s) (nK s)) (hau : au < 4) (hj : j < nU s 1) : zM E yX6_doRemove wsX6_doRemove 5 [.ref (a 0), .int (nI au), .int (nI 1), .int (nI j)] [((a 0), .inr (6, [.ref (a 1), .ref (a 2), .ref (a 3), .int (nI kp), .int (nI ty), .ref (a 4), .int (nI pl), .int (zb gd), .int (nI od), .ref (a 5)])), ((a 1), .inl (E.2.2.1, 512, .inl (zMr s)))] [((a 0), .inr (6, [.ref (a 1), .ref (a 2), .ref (a 3), .int (nI kp), .int (nI ty), .ref (a 4), .int (nI pl), .int (zb gd), .int (nI od), .ref (a 5)])), ((a 1), .inl (E.2.2.1, 512, .inl (zMr ((mRemCj s (nI au) j).2))))] (some (.int (mRemCj s (nI au) j).1)) := by
  obtain ⟨hu0, hu1, hM, -, -, -⟩ := id hO
  by_cases h1 : nT s = false
  · rw [show mRemCj s (nI au) j = (nI 1000, mTk (mDs s (nI 1) (mN (nS s) (nN s) 1 j) false) 1 j) from if_pos h1]
    exact mX6_doRemove_1u E a kp ty pl gd od (nU s) (nS s) (nN s) (nX s) (nM s) (nT s) (nB s) (nK s) (nY s) (nZ s) (nR s) (nC s) (nV s) au j hO hau hj h1
  · have h1' : nT s = true := by simpa using h1
    by_cases h2 : mDm (nZ s) (nK s) (nR s) (nC s) (nS s) (nN s) (nM s) 1 j = true
    · rw [show mRemCj s (nI au) j = (-4, s) by rw [mRemCj, if_neg h1, if_pos h2]]
      exact mX6_doRemove_1d E a kp ty pl gd od (nU s) (nS s) (nN s) (nX s) (nM s) (nT s) (nB s) (nK s) (nY s) (nZ s) (nR s) (nC s) (nV s) au j hO hau hj h1' h2
    · have h2' : mDm (nZ s) (nK s) (nR s) (nC s) (nS s) (nN s) (nM s) 1 j = false := by simpa using h2
      by_cases h3 : zix (mLn (nZ s) (nK s) (nR s) (nC s) 2 (mN (nS s) (nN s) 1 j)) (nM s) < nM s ∧ nY s (zix (mLn (nZ s) (nK s) (nR s) (nC s) 2 (mN (nS s) (nN s) 1 j)) (nM s)) = nI au
      · rw [show mRemCj s (nI au) j = (nI (zix (mLn (nZ s) (nK s) (nR s) (nC s) 2 (mN (nS s) (nN s) 1 j)) (nM s)), mTk (mDs s (nI 1) (mN (nS s) (nN s) 1 j) false) 1 j) by rw [mRemCj, if_neg h1, if_neg h2, if_pos h3]]
        exact mX6_doRemove_1o E a kp ty pl gd od (nU s) (nS s) (nN s) (nX s) (nM s) (nT s) (nB s) (nK s) (nY s) (nZ s) (nR s) (nC s) (nV s) au j _ hO hau hj h1' h2' (zf_ix (by omega) h3.1) h3.1 h3.2
      · by_cases h4 : 60 ≤ nM s
        · rw [show mRemCj s (nI au) j = (-3, s) by rw [mRemCj, if_neg h1, if_neg h2, if_neg h3, if_pos h4]]
          by_cases h5 : zix (mLn (nZ s) (nK s) (nR s) (nC s) 2 (mN (nS s) (nN s) 1 j)) (nM s) < nM s
          · exact mX6_doRemove_1mf E a kp ty pl gd od (nU s) (nS s) (nN s) (nX s) (nM s) (nT s) (nB s) (nK s) (nY s) (nZ s) (nR s) (nC s) (nV s) au j _ hO hau hj h1' h2' (zf_ix (by omega) h5) h5 (fun z => h3 ⟨h5, z⟩) (by omega)
          · exact mX6_doRemove_1nf E a kp ty pl gd od (nU s) (nS s) (nN s) (nX s) (nM s) (nT s) (nB s) (nK s) (nY s) (nZ s) (nR s) (nC s) (nV s) au j hO hau hj h1' h2' (by rw [show mIn (nZ s) (nK s) (nR s) (nC s) (nS s) (nN s) (nM s) 1 j = -5 from zf_nix (by omega) h5]; decide) (by omega)
        · rw [show mRemCj s (nI au) j = (nI (nM s), mNew s (nI 3) (nI au) (-5) (mN (nS s) (nN s) 1 j) (nI 0)) by rw [mRemCj, if_neg h1, if_neg h2, if_neg h3, if_neg h4]]
          by_cases h5 : zix (mLn (nZ s) (nK s) (nR s) (nC s) 2 (mN (nS s) (nN s) 1 j)) (nM s) < nM s
          · exact mX6_doRemove_1mt E a kp ty pl gd od (nU s) (nS s) (nN s) (nX s) (nM s) (nT s) (nB s) (nK s) (nY s) (nZ s) (nR s) (nC s) (nV s) au j _ hO hau hj h1' h2' (zf_ix (by omega) h5) h5 (fun z => h3 ⟨h5, z⟩) (by omega)
          · exact mX6_doRemove_1nt E a kp ty pl gd od (nU s) (nS s) (nN s) (nX s) (nM s) (nT s) (nB s) (nK s) (nY s) (nZ s) (nR s) (nC s) (nV s) au j hO hau hj h1' h2' (by rw [show mIn (nZ s) (nK s) (nR s) (nC s) (nS s) (nN s) (nM s) 1 j = -5 from zf_nix (by omega) h5]; decide) (by omega)

set_option maxHeartbeats 400000 in
set_option maxRecDepth 100000 in
theorem mX6_doRemove (E : zE) (a : Nat → Nat) (kp ty pl : Nat) (gd : Bool) (od : Nat) (s : zMs) (au ax p : Int32) (hO : okM (nU s) (nS s) (nM s) (nK s)) : zM E yX6_doRemove wsX6_doRemove 5 [.ref (a 0), .int au, .int ax, .int p] [((a 0), .inr (6, [.ref (a 1), .ref (a 2), .ref (a 3), .int (nI kp), .int (nI ty), .ref (a 4), .int (nI pl), .int (zb gd), .int (nI od), .ref (a 5)])), ((a 1), .inl (E.2.2.1, 512, .inl (zMr s)))] [((a 0), .inr (6, [.ref (a 1), .ref (a 2), .ref (a 3), .int (nI kp), .int (nI ty), .ref (a 4), .int (nI pl), .int (zb gd), .int (nI od), .ref (a 5)])), ((a 1), .inl (E.2.2.1, 512, .inl (zMr ((mRem s au ax p).2))))] (some (.int (mRem s au ax p).1)) := by
  obtain ⟨hu0, hu1, hM, -, -, -⟩ := id hO
  by_cases h1 : au < 0 ∨ nI 4 ≤ au
  · rw [show mRem s au ax p = (-1, s) from if_pos h1]
    exact mX6_doRemove_b1 E a kp ty pl gd od (nU s) (nS s) (nN s) (nX s) (nM s) (nT s) (nB s) (nK s) (nY s) (nZ s) (nR s) (nC s) (nV s) au ax p hO (z_or h1)
  · obtain ⟨u, hu, e⟩ := z_nat (n := 4) (by decide) (fun q => h1 (Or.inl q)) (fun q => h1 (Or.inr q))
    subst e
    by_cases h2 : ax = 0
    · have e0 : ax = nI 0 := h2.trans nI_0.symm; subst e0
      by_cases h4 : p < 0 ∨ nI (nU s 0) ≤ p
      · rw [show mRem s (nI u) (nI 0) p = (-1, s) by rw [mRem, if_neg h1, if_pos h2, if_pos h4]]
        exact mX6_doRemove_0b E a kp ty pl gd od (nU s) (nS s) (nN s) (nX s) (nM s) (nT s) (nB s) (nK s) (nY s) (nZ s) (nR s) (nC s) (nV s) u p hO hu (z_or h4)
      · obtain ⟨j, hj, e⟩ := z_nat (n := nU s 0) (by omega) (fun q => h4 (Or.inl q)) (fun q => h4 (Or.inr q))
        subst e
        rw [show mRem s (nI u) (nI 0) (nI j) = mRemRj s (nI u) j by rw [mRem, if_neg h1, if_pos h2, if_neg h4, nI_clamp (by omega)]]
        exact mX6_doRemove_0 E a kp ty pl gd od s u j hO hu hj
    · by_cases h3 : ax = nI 1
      · subst h3
        by_cases h4 : p < 0 ∨ nI (nU s 1) ≤ p
        · rw [show mRem s (nI u) (nI 1) p = (-1, s) by rw [mRem, if_neg h1, if_neg h2, if_pos rfl, if_pos h4]]
          exact mX6_doRemove_1b E a kp ty pl gd od (nU s) (nS s) (nN s) (nX s) (nM s) (nT s) (nB s) (nK s) (nY s) (nZ s) (nR s) (nC s) (nV s) u p hO hu (z_or h4)
        · obtain ⟨j, hj, e⟩ := z_nat (n := nU s 1) (by omega) (fun q => h4 (Or.inl q)) (fun q => h4 (Or.inr q))
          subst e
          rw [show mRem s (nI u) (nI 1) (nI j) = mRemCj s (nI u) j by rw [mRem, if_neg h1, if_neg h2, if_pos rfl, if_neg h4, nI_clamp (by omega)]]
          exact mX6_doRemove_1 E a kp ty pl gd od s u j hO hu hj
      · rw [show mRem s (nI u) ax p = (-1, s) by rw [mRem, if_neg h1, if_neg h2, if_neg h3]]
        exact mX6_doRemove_b2 E a kp ty pl gd od (nU s) (nS s) (nN s) (nX s) (nM s) (nT s) (nB s) (nK s) (nY s) (nZ s) (nR s) (nC s) (nV s) u ax p hO hu (z_ax2 h2 h3)

set_option maxHeartbeats 400000 in
set_option maxRecDepth 100000 in
theorem mX6_doSet_ij (E : zE) (a : Nat → Nat) (kp ty pl : Nat) (gd : Bool) (od : Nat) (s : zMs) (au i j : Nat) (v : Int32) (hO : okM (nU s) (nS s) (nM s) (nK s)) (hW : nmM (nU s) (nS s) (nN s)) (hau : au < 4) (hi : i < nU s 0) (hj : j < nU s 1) : zM E yX6_doSet wsX6_doSet 5 [.ref (a 0), .int (nI au), .int (nI i), .int (nI j), .int v] [((a 0), .inr (6, [.ref (a 1), .ref (a 2), .ref (a 3), .int (nI kp), .int (nI ty), .ref (a 4), .int (nI pl), .int (zb gd), .int (nI od), .ref (a 5)])), ((a 1), .inl (E.2.2.1, 512, .inl (zMr s)))] [((a 0), .inr (6, [.ref (a 1), .ref (a 2), .ref (a 3), .int (nI kp), .int (nI ty), .ref (a 4), .int (nI pl), .int (zb gd), .int (nI od), .ref (a 5)])), ((a 1), .inl (E.2.2.1, 512, .inl (zMr ((mSetij s (nI au) i j v).2))))] (some (.int (mSetij s (nI au) i j v).1)) := by
  obtain ⟨hu0, hu1, hM, -, -, -⟩ := id hO
  by_cases h1 : v < 0 ∨ nI 9999 < v
  · rw [show mSetij s (nI au) i j v = (-2, s) from if_pos h1]
    exact mX6_doSet_b4 E a kp ty pl gd od (nU s) (nS s) (nN s) (nX s) (nM s) (nT s) (nB s) (nK s) (nY s) (nZ s) (nR s) (nC s) (nV s) au i j v hO hW hau hi hj (z_or h1)
  · obtain ⟨v, hv, e⟩ := z_natle (by decide) h1
    subst e
    by_cases h2 : mDm (nZ s) (nK s) (nR s) (nC s) (nS s) (nN s) (nM s) 0 i = true
    · rw [show mSetij s (nI au) i j (nI v) = (-4, s) by rw [mSetij, if_neg h1, if_pos (Or.inl h2)]]
      exact mX6_doSet_n1 E a kp ty pl gd od (nU s) (nS s) (nN s) (nX s) (nM s) (nT s) (nB s) (nK s) (nY s) (nZ s) (nR s) (nC s) (nV s) au i j v hO hW hau hi hj hv h2
    · by_cases h3 : mDm (nZ s) (nK s) (nR s) (nC s) (nS s) (nN s) (nM s) 1 j = true
      · rw [show mSetij s (nI au) i j (nI v) = (-4, s) by rw [mSetij, if_neg h1, if_pos (Or.inr (Or.inl h3))]]
        exact mX6_doSet_n2 E a kp ty pl gd od (nU s) (nS s) (nN s) (nX s) (nM s) (nT s) (nB s) (nK s) (nY s) (nZ s) (nR s) (nC s) (nV s) au i j v hO hW hau hi hj hv (by simpa using h2) h3
      · have h2' : mDm (nZ s) (nK s) (nR s) (nC s) (nS s) (nN s) (nM s) 0 i = false := by simpa using h2
        have h3' : mDm (nZ s) (nK s) (nR s) (nC s) (nS s) (nN s) (nM s) 1 j = false := by simpa using h3
        by_cases h4 : mVB (nZ s) (nK s) (nR s) (nC s) (nB s) (nS s) (nV s) (nM s) (mN (nS s) (nN s) 0 i) (mN (nS s) (nN s) 1 j) i j = nI v
        · rw [show mSetij s (nI au) i j (nI v) = (-4, s) by rw [mSetij, if_neg h1, if_pos (Or.inr (Or.inr h4))]]
          exact mX6_doSet_n3 E a kp ty pl gd od (nU s) (nS s) (nN s) (nX s) (nM s) (nT s) (nB s) (nK s) (nY s) (nZ s) (nR s) (nC s) (nV s) au i j v hO hW hau hi hj hv h2' h3' h4
        · have hn : ¬ (mDm (nZ s) (nK s) (nR s) (nC s) (nS s) (nN s) (nM s) 0 i = true ∨ mDm (nZ s) (nK s) (nR s) (nC s) (nS s) (nN s) (nM s) 1 j = true ∨ mVB (nZ s) (nK s) (nR s) (nC s) (nB s) (nS s) (nV s) (nM s) (mN (nS s) (nN s) 0 i) (mN (nS s) (nN s) 1 j) i j = nI v) := by
            rintro (z | z | z)
            · exact h2 z
            · exact h3 z
            · exact h4 z
          by_cases h5 : nT s = false
          · rw [show mSetij s (nI au) i j (nI v) = (nI 1000, mBs (mwZ s (mMk (nZ s) (mSt (nZ s) (nK s) (nR s) (nC s) (mN (nS s) (nN s) 0 i) (mN (nS s) (nN s) 1 j)) (nI 3) (nM s))) i j (nI v)) by rw [mSetij, if_neg h1, if_neg hn, if_pos h5]]
            exact mX6_doSet_u E a kp ty pl gd od (nU s) (nS s) (nN s) (nX s) (nM s) (nT s) (nB s) (nK s) (nY s) (nZ s) (nR s) (nC s) (nV s) au i j v hO hW hau hi hj hv h2' h3' h4 h5
          · have h5' : nT s = true := by simpa using h5
            cases hz : zgo (mSt (nZ s) (nK s) (nR s) (nC s) (mN (nS s) (nN s) 0 i) (mN (nS s) (nN s) 1 j)) (nM s) with
            | none =>
              have hz2 := zg_none hz
              rw [show mSetij s (nI au) i j (nI v) = mSetN s (nI au) i j (nI v) by rw [mSetij, if_neg h1, if_neg hn, if_neg h5, hz]]
              by_cases h6 : 60 ≤ nM s
              · rw [show mSetN s (nI au) i j (nI v) = (-3, s) from if_pos h6]
                exact mX6_doSet_nf E a kp ty pl gd od (nU s) (nS s) (nN s) (nX s) (nM s) (nT s) (nB s) (nK s) (nY s) (nZ s) (nR s) (nC s) (nV s) au i j v hO hW hau hi hj hv h2' h3' h4 h5' hz2 (by omega)
              · rw [show mSetN s (nI au) i j (nI v) = (nI (nM s), mNew s (nI 4) (nI au) (mN (nS s) (nN s) 0 i) (mN (nS s) (nN s) 1 j) (nI v)) from if_neg h6]
                exact mX6_doSet_nt E a kp ty pl gd od (nU s) (nS s) (nN s) (nX s) (nM s) (nT s) (nB s) (nK s) (nY s) (nZ s) (nR s) (nC s) (nV s) au i j v hO hW hau hi hj hv h2' h3' h4 h5' hz2 (by omega)
            | some k =>
              have hz2 := zg_some hz
              have hk : k < nM s := zgo_lt hz
              by_cases h7 : nY s k = nI au
              · by_cases h8 : mVB (nZ s) (nK s) (nR s) (nC s) (nB s) (nS s) (nV s) k (mN (nS s) (nN s) 0 i) (mN (nS s) (nN s) 1 j) i j = nI v
                · rw [show mSetij s (nI au) i j (nI v) = (nI k, mwV (mwZ s (upd (nZ s) k (nI 3))) (upd (nV s) k (nI v))) by rw [mSetij, if_neg h1, if_neg hn, if_neg h5, hz]; simp only [h7, h8, if_true]]
                  exact mX6_doSet_d E a kp ty pl gd od (nU s) (nS s) (nN s) (nX s) (nM s) (nT s) (nB s) (nK s) (nY s) (nZ s) (nR s) (nC s) (nV s) au i j v k hO hW hau hi hj hv h2' h3' h4 h5' hz2 hk h7 h8
                · rw [show mSetij s (nI au) i j (nI v) = (nI k, mwV (mwZ s (upd (nZ s) k (nI 0))) (upd (nV s) k (nI v))) by rw [mSetij, if_neg h1, if_neg hn, if_neg h5, hz]; simp only [h7, h8, if_true, if_false]]
                  exact mX6_doSet_v E a kp ty pl gd od (nU s) (nS s) (nN s) (nX s) (nM s) (nT s) (nB s) (nK s) (nY s) (nZ s) (nR s) (nC s) (nV s) au i j v k hO hW hau hi hj hv h2' h3' h4 h5' hz2 hk h7 h8
              · rw [show mSetij s (nI au) i j (nI v) = mSetN s (nI au) i j (nI v) by rw [mSetij, if_neg h1, if_neg hn, if_neg h5, hz]; simp only [h7, if_false]]
                by_cases h6 : 60 ≤ nM s
                · rw [show mSetN s (nI au) i j (nI v) = (-3, s) from if_pos h6]
                  exact mX6_doSet_mf E a kp ty pl gd od (nU s) (nS s) (nN s) (nX s) (nM s) (nT s) (nB s) (nK s) (nY s) (nZ s) (nR s) (nC s) (nV s) au i j v k hO hW hau hi hj hv h2' h3' h4 h5' hz2 hk h7 (by omega)
                · rw [show mSetN s (nI au) i j (nI v) = (nI (nM s), mNew s (nI 4) (nI au) (mN (nS s) (nN s) 0 i) (mN (nS s) (nN s) 1 j) (nI v)) from if_neg h6]
                  exact mX6_doSet_mt E a kp ty pl gd od (nU s) (nS s) (nN s) (nX s) (nM s) (nT s) (nB s) (nK s) (nY s) (nZ s) (nR s) (nC s) (nV s) au i j v k hO hW hau hi hj hv h2' h3' h4 h5' hz2 hk h7 (by omega)
set_option maxHeartbeats 400000 in
set_option maxRecDepth 100000 in
theorem mX6_doSet (E : zE) (a : Nat → Nat) (kp ty pl : Nat) (gd : Bool) (od : Nat) (s : zMs) (au r c v : Int32) (hO : okM (nU s) (nS s) (nM s) (nK s)) (hW : nmM (nU s) (nS s) (nN s)) : zM E yX6_doSet wsX6_doSet 5 [.ref (a 0), .int au, .int r, .int c, .int v] [((a 0), .inr (6, [.ref (a 1), .ref (a 2), .ref (a 3), .int (nI kp), .int (nI ty), .ref (a 4), .int (nI pl), .int (zb gd), .int (nI od), .ref (a 5)])), ((a 1), .inl (E.2.2.1, 512, .inl (zMr s)))] [((a 0), .inr (6, [.ref (a 1), .ref (a 2), .ref (a 3), .int (nI kp), .int (nI ty), .ref (a 4), .int (nI pl), .int (zb gd), .int (nI od), .ref (a 5)])), ((a 1), .inl (E.2.2.1, 512, .inl (zMr ((mSet s au r c v).2))))] (some (.int (mSet s au r c v).1)) := by
  obtain ⟨hu0, hu1, hM, -, -, -⟩ := id hO
  by_cases h1 : au < 0 ∨ nI 4 ≤ au
  · rw [show mSet s au r c v = (-1, s) from if_pos h1]
    exact mX6_doSet_b1 E a kp ty pl gd od (nU s) (nS s) (nN s) (nX s) (nM s) (nT s) (nB s) (nK s) (nY s) (nZ s) (nR s) (nC s) (nV s) au r c v hO (z_or h1)
  · obtain ⟨u, hu, e⟩ := z_nat (n := 4) (by decide) (fun q => h1 (Or.inl q)) (fun q => h1 (Or.inr q))
    subst e
    by_cases h2 : r < 0 ∨ nI (nU s 0) ≤ r
    · rw [show mSet s (nI u) r c v = (-1, s) by rw [mSet, if_neg h1, if_pos h2]]
      exact mX6_doSet_b2 E a kp ty pl gd od (nU s) (nS s) (nN s) (nX s) (nM s) (nT s) (nB s) (nK s) (nY s) (nZ s) (nR s) (nC s) (nV s) u r c v hO hu (z_or h2)
    · obtain ⟨i, hi, e⟩ := z_nat (n := nU s 0) (by omega) (fun q => h2 (Or.inl q)) (fun q => h2 (Or.inr q))
      subst e
      by_cases h3 : c < 0 ∨ nI (nU s 1) ≤ c
      · rw [show mSet s (nI u) (nI i) c v = (-1, s) by rw [mSet, if_neg h1, if_neg h2, if_pos h3]]
        exact mX6_doSet_b3 E a kp ty pl gd od (nU s) (nS s) (nN s) (nX s) (nM s) (nT s) (nB s) (nK s) (nY s) (nZ s) (nR s) (nC s) (nV s) u i c v hO hu hi (z_or h3)
      · obtain ⟨j, hj, e⟩ := z_nat (n := nU s 1) (by omega) (fun q => h3 (Or.inl q)) (fun q => h3 (Or.inr q))
        subst e
        rw [show mSet s (nI u) (nI i) (nI j) v = mSetij s (nI u) i j v by rw [mSet, if_neg h1, if_neg h2, if_neg h3, nI_clamp (by omega), nI_clamp (by omega)]]
        exact mX6_doSet_ij E a kp ty pl gd od s u i j v hO hW hu hi hj

set_option maxHeartbeats 400000 in
set_option maxRecDepth 100000 in
theorem mX6_rejectWith (E : zE) (a : Nat → Nat) (kp ty pl : Nat) (gd : Bool) (od : Nat) (s : zMs) (x : Nat) (hO : okM (nU s) (nS s) (nM s) (nK s)) (hx : x < nM s) (hL : lnX (nK s) (nR s) (nC s) (nS s) (nN s) (nU s) x) : zM E yX6_rejectWith wsX6_rejectWith 4 [.ref (a 0), .int (nI x)] [((a 0), .inr (6, [.ref (a 1), .ref (a 2), .ref (a 3), .int (nI kp), .int (nI ty), .ref (a 4), .int (nI pl), .int (zb gd), .int (nI od), .ref (a 5)])), ((a 1), .inl (E.2.2.1, 512, .inl (zMr s)))] [((a 0), .inr (6, [.ref (a 1), .ref (a 2), .ref (a 3), .int (nI kp), .int (nI ty), .ref (a 4), .int (nI pl), .int (zb gd), .int (nI od), .ref (a 5)])), ((a 1), .inl (E.2.2.1, 512, .inl (zMr (mRW s x))))] (some (.int (nI (mRWn s x)))) := by
  rcases hO.2.2.2.2.2 x hx with h | h | h | h | h
  · rw [show mRW s x = mTk (mR1 s x) 0 (mpx (nS s) (nN s) (nU s) 0 (nR s x)) by simp [mRW, h, nI_eq]]
    exact mX6_rejectWith_0 E a kp ty pl gd od (nU s) (nS s) (nN s) (nX s) (nM s) (nT s) (nB s) (nK s) (nY s) (nZ s) (nR s) (nC s) (nV s) x hO hx h (hL.1 (by simp [h]))
  · rw [show mRW s x = mR1 s x by simp [mRW, h, nI_eq]]
    exact mX6_rejectWith_1 E a kp ty pl gd od (nU s) (nS s) (nN s) (nX s) (nM s) (nT s) (nB s) (nK s) (nY s) (nZ s) (nR s) (nC s) (nV s) x hO hx (by rw [h]; decide) (by rw [h]; decide)
  · rw [show mRW s x = mTk (mR1 s x) 1 (mpx (nS s) (nN s) (nU s) 1 (nC s x)) by simp [mRW, h, nI_eq]]
    exact mX6_rejectWith_2 E a kp ty pl gd od (nU s) (nS s) (nN s) (nX s) (nM s) (nT s) (nB s) (nK s) (nY s) (nZ s) (nR s) (nC s) (nV s) x hO hx h (hL.2 (by simp [h]))
  · rw [show mRW s x = mR1 s x by simp [mRW, h, nI_eq]]
    exact mX6_rejectWith_1 E a kp ty pl gd od (nU s) (nS s) (nN s) (nX s) (nM s) (nT s) (nB s) (nK s) (nY s) (nZ s) (nR s) (nC s) (nV s) x hO hx (by rw [h]; decide) (by rw [h]; decide)
  · rw [show mRW s x = mR1 s x by simp [mRW, h, nI_eq]]
    exact mX6_rejectWith_1 E a kp ty pl gd od (nU s) (nS s) (nN s) (nX s) (nM s) (nT s) (nB s) (nK s) (nY s) (nZ s) (nR s) (nC s) (nV s) x hO hx (by rw [h]; decide) (by rw [h]; decide)

theorem kX6_firstOf : zY yX6_firstOf wsX6_firstOf cX6_firstOf 3 (some .int) 1 := ⟨⟨_, rfl⟩, ⟨by decide +kernel, by decide +kernel, by decide +kernel⟩, by decide +kernel⟩
theorem fX6_firstOf_7 : zF wsX6_firstOf RX6 7 6 0 RX6 TX6 10 := ⟨by decide +kernel, rfl, by decide, by decide +kernel, rfl⟩
set_option maxHeartbeats 400000 in
set_option maxRecDepth 100000 in
theorem mX6_firstOf (E : zE) (a : Nat → Nat) (kp ty pl : Nat) (gd : Bool) (od : Nat) (vU vS : Nat → Nat) (vN : Nat → Int32) (vX vM : Nat) (vT : Bool) (vB vK vY vZ vR vC vV : Nat → Int32) (au : Int32) (hO : okM vU vS vM vK) : zM E yX6_firstOf wsX6_firstOf 2 [.ref (a 0), .int au] [((a 0), .inr (6, [.ref (a 1), .ref (a 2), .ref (a 3), .int (nI kp), .int (nI ty), .ref (a 4), .int (nI pl), .int (zb gd), .int (nI od), .ref (a 5)])), ((a 1), .inl (E.2.2.1, 512, .inl (mRow vU vS vN vX vM vT vB vK vY vZ vR vC vV)))] [((a 0), .inr (6, [.ref (a 1), .ref (a 2), .ref (a 3), .int (nI kp), .int (nI ty), .ref (a 4), .int (nI pl), .int (zb gd), .int (nI od), .ref (a 5)])), ((a 1), .inl (E.2.2.1, 512, .inl (mRow vU vS vN vX vM vT vB vK vY vZ vR vC vV)))] (some (.int (zf (mFo vZ vY au) (vM)))) := by
  refine zM.of kX6_firstOf (Nat.le_of_ble_eq_true rfl) rfl [some (.ref (a 0)), some (.int au), none] rfl (Nat.le_of_ble_eq_true rfl) ?_
  intro X eX C N
  subst eX
  obtain ⟨hu0, hu1, hM, hk1, hk2, hk3⟩ := id hO
  refine z_iconst C (nI 0) dX6_firstOf_0 (by decide) ?_
  refine z_istore_n C 2 dX6_firstOf_1 rfl (Nat.le_of_ble_eq_true rfl) ?_
  have hL2 : ∀ (dd : Nat) (k : Nat), vM - k = dd → (k ≤ vM) → (∀ j, j < k → (mFo vZ vY au) j = false) → zG X 0 0 [((a 0), .inr (6, [.ref (a 1), .ref (a 2), .ref (a 3), .int (nI kp), .int (nI ty), .ref (a 4), .int (nI pl), .int (zb gd), .int (nI od), .ref (a 5)])), ((a 1), .inl (X.2.1.2.2.1, 512, .inl (mRow vU vS vN vX vM vT vB vK vY vZ vR vC vV)))] [some (.ref (a 0)), some (.int au), some (.int (nI k))] [] 2 := by
    intro dd
    induction dd using Nat.strongRecOn with
    | _ dd ih2 =>
    intro k hdd hk hf
    refine z_iload_n C 2 dX6_firstOf_2 rfl rfl ?_
    refine z_aload_n C 0 dX6_firstOf_3 rfl rfl ?_
    refine z_get C fX6_firstOf_7 0 dX6_firstOf_4 rfl rfl ?_
    refine z_bipush C (nI 51) dX6_firstOf_7 (by decide) ?_
    refine z_ialdN C 1 dX6_firstOf_9 rfl (by omega) (by decide) ?_
    refine z_top (y := nI (vM)) (zMr_M) ?_
    refine z_ncmp_ge C 45 dX6_firstOf_10 (by decide) (by omega) (by omega) (fun h_1 => ?_) (fun h_1 => ?_)
    · refine z_bipush C (-5) dX6_firstOf_45 (by decide) ?_
      exact z_iret C N dX6_firstOf_47 (rfl) (by rw [zf_no (fun j hj => hf j (by omega))])
    · refine z_aload_n C 0 dX6_firstOf_13 rfl rfl ?_
      refine z_iload_n C 2 dX6_firstOf_14 rfl rfl ?_
      refine z_callVr C kX6_isPending gX6_firstOf_X6_isPending (mX6_isPending X.2.1 a kp ty pl gd od vU vS vN vX vM vT vB vK vY vZ vR vC vV k (by first | assumption | omega)) dX6_firstOf_15 [0, 1] [] 0 rfl nd_0_1 rfl rfl rfl (by decide) (by decide) (Nat.le_of_ble_eq_true rfl) rfl ?_
      refine z_bif_eq C 39 dX6_firstOf_18 (by decide) (fun h_2 => ?_) (fun h_2 => ?_)
      · refine z_iinc C (nI (k + 1)) dX6_firstOf_39 rfl (zi_1 _) ?_
        refine z_goto C 2 dX6_firstOf_42 (by decide) ?_
        exact ih2 (vM - (k + 1)) (by omega) (k + 1) rfl (by omega) (lt_s hf (by simp [mFo, nI_eq, zz_0, zz_0s, h_1, of_decide_eq_false h_2, h_2]))
      · refine z_iload_n C 1 dX6_firstOf_21 rfl rfl ?_
        refine z_if_lt C 37 dX6_firstOf_22 (by decide) (fun h_3 => ?_) (fun h_3 => ?_)
        · refine z_iload_n C 2 dX6_firstOf_37 rfl rfl ?_
          exact z_iret C N dX6_firstOf_38 (rfl) (by rw [zf_at (k := k) (by omega) (by simp [mFo, nI_eq, zz_0, zz_0s, h_1, of_decide_eq_true h_2, h_2, h_3]) hf (by omega)])
        · refine z_aload_n C 0 dX6_firstOf_25 rfl rfl ?_
          refine z_iload_n C 2 dX6_firstOf_26 rfl rfl ?_
          refine z_sipush C (nI 209) dX6_firstOf_27 (by decide) ?_
          refine z_callVr C kX6_of gX6_firstOf_X6_of (mX6_of_Y X.2.1 a kp ty pl gd od vU vS vN vX vM vT vB vK vY vZ vR vC vV k (by first | assumption | omega)) dX6_firstOf_30 [0, 1] [] 0 rfl nd_0_1 rfl rfl rfl (by decide) (by decide) (Nat.le_of_ble_eq_true rfl) rfl ?_
          refine z_iload_n C 1 dX6_firstOf_33 rfl rfl ?_
          refine z_icmp_ne C 39 dX6_firstOf_34 (by decide) (fun h_4 => ?_) (fun h_4 => ?_)
          · refine z_iinc C (nI (k + 1)) dX6_firstOf_39 rfl (zi_1 _) ?_
            refine z_goto C 2 dX6_firstOf_42 (by decide) ?_
            exact ih2 (vM - (k + 1)) (by omega) (k + 1) rfl (by omega) (lt_s hf (by simp [mFo, nI_eq, zz_0, zz_0s, h_1, of_decide_eq_true h_2, h_2, Int32.not_lt.mp h_3, h_3, h_4]))
          · refine z_iload_n C 2 dX6_firstOf_37 rfl rfl ?_
            exact z_iret C N dX6_firstOf_38 (rfl) (by rw [zf_at (k := k) (by omega) (by simp [mFo, nI_eq, zz_0, zz_0s, h_1, of_decide_eq_true h_2, h_2, Int32.not_lt.mp h_3, h_3, h_4]) hf (by omega)])
  exact hL2 _ 0 rfl (by omega) (fun j h => absurd h (Nat.not_lt_zero j))

theorem kX6_begin : zY yX6_begin wsX6_begin cX6_begin 2 none 0 := ⟨⟨_, rfl⟩, ⟨by decide +kernel, by decide +kernel, by decide +kernel⟩, by decide +kernel⟩
theorem fX6_begin_13 : zF wsX6_begin RX6 13 6 1 RX6 TX6 10 := ⟨by decide +kernel, rfl, by decide, by decide +kernel, rfl⟩
theorem fX6_begin_7 : zF wsX6_begin RX6 7 6 0 RX6 TX6 10 := ⟨by decide +kernel, rfl, by decide, by decide +kernel, rfl⟩
set_option maxHeartbeats 4000000 in
set_option maxRecDepth 100000 in
theorem mX6_begin (E : zE) (a : Nat → Nat) (kp ty pl : Nat) (gd : Bool) (od : Nat) (s t : zMs)   : zM E yX6_begin wsX6_begin 0 [.ref (a 0)] [((a 0), .inr (6, [.ref (a 1), .ref (a 2), .ref (a 3), .int (nI kp), .int (nI ty), .ref (a 4), .int (nI pl), .int (zb gd), .int (nI od), .ref (a 5)])), ((a 1), .inl (E.2.2.1, 512, .inl (zMr s))), ((a 2), .inl (E.2.2.1, 512, .inl (zMr t)))] [((a 0), .inr (6, [.ref (a 1), .ref (a 2), .ref (a 3), .int (nI kp), .int (nI ty), .ref (a 4), .int (nI pl), .int (zb gd), .int (nI od), .ref (a 5)])), ((a 1), .inl (E.2.2.1, 512, .inl (zMr s))), ((a 2), .inl (E.2.2.1, 512, .inl (zMr s)))] none := by
  refine zM.of kX6_begin (Nat.le_of_ble_eq_true rfl) rfl [some (.ref (a 0)), none] rfl (Nat.le_of_ble_eq_true rfl) ?_
  intro X eX C N
  subst eX
  refine z_iconst C (nI 0) dX6_begin_0 (by decide) ?_
  refine z_istore_n C 1 dX6_begin_1 rfl (Nat.le_of_ble_eq_true rfl) ?_
  have hL2 : ∀ (dd : Nat) (k : Nat) (f' : Nat → Int32), 512 - k = dd → (k ≤ 512) → (f' = mCp (zMr s) (zMr t) 0 k) → zG X 0 0 [((a 0), .inr (6, [.ref (a 1), .ref (a 2), .ref (a 3), .int (nI kp), .int (nI ty), .ref (a 4), .int (nI pl), .int (zb gd), .int (nI od), .ref (a 5)])), ((a 1), .inl (X.2.1.2.2.1, 512, .inl (zMr s))), ((a 2), .inl (X.2.1.2.2.1, 512, .inl f'))] [some (.ref (a 0)), some (.int (nI k))] [] 2 := by
    intro dd
    induction dd using Nat.strongRecOn with
    | _ dd ih2 =>
    intro k f' hdd hk hf
    refine z_iload_n C 1 dX6_begin_2 rfl rfl ?_
    refine z_sipush C (nI 512) dX6_begin_3 (by decide) ?_
    refine z_ncmp_ge C 27 dX6_begin_6 (by decide) (by omega) (by omega) (fun h_1 => ?_) (fun h_1 => ?_)
    · exact z_vret C N dX6_begin_27 (by rw [hf, show k = 512 by omega, mCp_row] <;> rfl)
    · refine z_aload_n C 0 dX6_begin_9 rfl rfl ?_
      refine z_get C fX6_begin_13 0 dX6_begin_10 rfl rfl ?_
      refine z_iload_n C 1 dX6_begin_13 rfl rfl ?_
      refine z_aload_n C 0 dX6_begin_14 rfl rfl ?_
      refine z_get C fX6_begin_7 0 dX6_begin_15 rfl rfl ?_
      refine z_iload_n C 1 dX6_begin_18 rfl rfl ?_
      refine z_ialdN C 1 dX6_begin_19 rfl (by omega) (by decide) ?_
      refine z_iastN C 2 dX6_begin_20 rfl (by omega) (by decide) ?_
      refine z_iinc C (nI (k + 1)) dX6_begin_21 rfl (zi_1 _) ?_
      refine z_goto C 2 dX6_begin_24 (by decide) ?_
      exact ih2 (512 - (k + 1)) (by omega) (k + 1) (upd f' k ((zMr s) k)) rfl (by omega) (by subst hf; exact mCp_s0)
  exact hL2 _ 0 (zMr t) rfl (by omega) ((mCp_0 _ _ _).symm)

theorem kX6_done : zY yX6_done wsX6_done cX6_done 3 (some .int) 1 := ⟨⟨_, rfl⟩, ⟨by decide +kernel, by decide +kernel, by decide +kernel⟩, by decide +kernel⟩
set_option maxHeartbeats 4000000 in
set_option maxRecDepth 100000 in
theorem mX6_done_n (E : zE) (a : Nat → Nat) (kp ty pl : Nat) (gd : Bool) (od : Nat) (t : zMs) (Q : Nat → zMs) (x : Int32) (hx : x < 0) : zM E yX6_done wsX6_done 0 [.ref (a 0), .int x] [((a 0), .inr (6, [.ref (a 1), .ref (a 2), .ref (a 3), .int (nI kp), .int (nI ty), .ref (a 4), .int (nI pl), .int (zb gd), .int (nI od), .ref (a 5)])), ((a 2), .inl (E.2.2.1, 512, .inl (zMr t))), ((a 3), .inl (E.2.2.1, 2048, .inl (zHi Q)))] [((a 0), .inr (6, [.ref (a 1), .ref (a 2), .ref (a 3), .int (nI kp), .int (nI ty), .ref (a 4), .int (nI pl), .int (zb gd), .int (nI od), .ref (a 5)])), ((a 2), .inl (E.2.2.1, 512, .inl (zMr t))), ((a 3), .inl (E.2.2.1, 2048, .inl (zHi Q)))] (some (.int x)) := by
  refine zM.of kX6_done (Nat.le_of_ble_eq_true rfl) rfl [some (.ref (a 0)), some (.int x), none] rfl (Nat.le_of_ble_eq_true rfl) ?_
  intro X eX C N
  subst eX
  refine z_iload_n C 1 dX6_done_0 rfl rfl ?_
  refine z_if_ge_f C 6 dX6_done_1 (by decide) (Int32.not_le.mpr hx) ?_
  refine z_iload_n C 1 dX6_done_4 rfl rfl ?_
  exact z_iret C N dX6_done_5 (rfl) (rfl)

theorem fX6_done_26 : zF wsX6_done RX6 26 6 3 RX6 TX6 10 := ⟨by decide +kernel, rfl, by decide, by decide +kernel, rfl⟩
theorem ftX6_3 : zFt 3 10 TX6 tyX6 false := ⟨tyX6_ok, nmX6, rfl⟩
theorem fX6_done_16 : zF wsX6_done RX6 16 6 2 RX6 TX6 10 := ⟨by decide +kernel, rfl, by decide, by decide +kernel, rfl⟩
theorem fX6_done_13 : zF wsX6_done RX6 13 6 1 RX6 TX6 10 := ⟨by decide +kernel, rfl, by decide, by decide +kernel, rfl⟩
set_option maxHeartbeats 4000000 in
set_option maxRecDepth 100000 in
theorem mX6_done_k (E : zE) (a : Nat → Nat) (kp ty pl : Nat) (gd : Bool) (od : Nat) (t : zMs) (Q : Nat → zMs) (x : Int32) (hx : ¬ x < 0) (hk : kp < 4) : zM E yX6_done wsX6_done 0 [.ref (a 0), .int x] [((a 0), .inr (6, [.ref (a 1), .ref (a 2), .ref (a 3), .int (nI kp), .int (nI ty), .ref (a 4), .int (nI pl), .int (zb gd), .int (nI od), .ref (a 5)])), ((a 2), .inl (E.2.2.1, 512, .inl (zMr t))), ((a 3), .inl (E.2.2.1, 2048, .inl (zHi Q)))] [((a 0), .inr (6, [.ref (a 1), .ref (a 2), .ref (a 3), .int (nI (kp + 1)), .int (nI ty), .ref (a 4), .int (nI pl), .int (zb gd), .int (nI od), .ref (a 5)])), ((a 2), .inl (E.2.2.1, 512, .inl (zMr t))), ((a 3), .inl (E.2.2.1, 2048, .inl (zHi (mQs Q kp t))))] (some (.int x)) := by
  refine zM.of kX6_done (Nat.le_of_ble_eq_true rfl) rfl [some (.ref (a 0)), some (.int x), none] rfl (Nat.le_of_ble_eq_true rfl) ?_
  intro X eX C N
  subst eX
  refine z_iload_n C 1 dX6_done_0 rfl rfl ?_
  refine z_if_ge_t C 6 dX6_done_1 (by decide) (Int32.not_lt.mp hx) ?_
  refine z_aload_n C 0 dX6_done_6 rfl rfl ?_
  refine z_get C fX6_done_26 0 dX6_done_7 rfl rfl ?_
  refine z_iconst C (nI 4) dX6_done_10 (by decide) ?_
  refine z_ncmp_ne_t C 60 dX6_done_11 (by decide) (by omega) (by omega) (by omega) ?_
  refine z_iconst C (nI 0) dX6_done_60 (by decide) ?_
  refine z_istore_n C 2 dX6_done_61 rfl (Nat.le_of_ble_eq_true rfl) ?_
  have hL62 : ∀ (dd : Nat) (m : Nat) (g' : Nat → Int32), 512 - m = dd → (m ≤ 512) → (g' = mCp (zMr t) (zHi Q) (512 * kp) m) → zG X 0 0 [((a 0), .inr (6, [.ref (a 1), .ref (a 2), .ref (a 3), .int (nI kp), .int (nI ty), .ref (a 4), .int (nI pl), .int (zb gd), .int (nI od), .ref (a 5)])), ((a 2), .inl (X.2.1.2.2.1, 512, .inl (zMr t))), ((a 3), .inl (X.2.1.2.2.1, 2048, .inl g'))] [some (.ref (a 0)), some (.int x), some (.int (nI m))] [] 62 := by
    intro dd
    induction dd using Nat.strongRecOn with
    | _ dd ih62 =>
    intro m g' hdd hm hg
    refine z_iload_n C 2 dX6_done_62 rfl rfl ?_
    refine z_sipush C (nI 512) dX6_done_63 (by decide) ?_
    refine z_ncmp_ge C 96 dX6_done_66 (by decide) (by omega) (by omega) (fun h_1 => ?_) (fun h_1 => ?_)
    · refine z_aload_n C 0 dX6_done_96 rfl rfl ?_
      refine z_dup C dX6_done_97 rfl ?_
      refine z_get C fX6_done_26 0 dX6_done_98 rfl rfl ?_
      refine z_iconst C (nI 1) dX6_done_101 (by decide) ?_
      refine z_iadd C dX6_done_102 ?_
      refine z_top (y := nI (kp + 1)) (nI_add _ _) ?_
      refine z_put C fX6_done_26 ftX6_3 0 dX6_done_103 rfl rfl rfl (Nat.le_of_ble_eq_true rfl) ?_
      refine z_iload_n C 1 dX6_done_106 rfl rfl ?_
      exact z_iret C N dX6_done_107 (by rw [hg, show m = 512 by omega, mCp_hist] <;> rfl) (rfl)
    · refine z_aload_n C 0 dX6_done_69 rfl rfl ?_
      refine z_get C fX6_done_16 0 dX6_done_70 rfl rfl ?_
      refine z_sipush C (nI 512) dX6_done_73 (by decide) ?_
      refine z_aload_n C 0 dX6_done_76 rfl rfl ?_
      refine z_get C fX6_done_26 0 dX6_done_77 rfl rfl ?_
      refine z_imul C dX6_done_80 ?_
      refine z_top (y := nI (512 * kp)) (pk_mul _ _) ?_
      refine z_iload_n C 2 dX6_done_81 rfl rfl ?_
      refine z_iadd C dX6_done_82 ?_
      refine z_top (y := nI ((512 * kp) + m)) (nI_add _ _) ?_
      refine z_aload_n C 0 dX6_done_83 rfl rfl ?_
      refine z_get C fX6_done_13 0 dX6_done_84 rfl rfl ?_
      refine z_iload_n C 2 dX6_done_87 rfl rfl ?_
      refine z_ialdN C 1 dX6_done_88 rfl (by omega) (by decide) ?_
      refine z_iastN C 2 dX6_done_89 rfl (by omega) (by decide) ?_
      refine z_iinc C (nI (m + 1)) dX6_done_90 rfl (zi_1 _) ?_
      refine z_goto C 62 dX6_done_93 (by decide) ?_
      exact ih62 (512 - (m + 1)) (by omega) (m + 1) (upd g' ((512 * kp) + m) ((zMr t) m)) rfl (by omega) (by subst hg; exact mCp_s)
  exact hL62 _ 0 (zHi Q) rfl (by omega) ((mCp_0 _ _ _).symm)

set_option maxHeartbeats 4000000 in
set_option maxRecDepth 100000 in
theorem mX6_done_4 (E : zE) (a : Nat → Nat) (ty pl : Nat) (gd : Bool) (od : Nat) (t : zMs) (Q : Nat → zMs) (x : Int32) (hx : ¬ x < 0) : zM E yX6_done wsX6_done 0 [.ref (a 0), .int x] [((a 0), .inr (6, [.ref (a 1), .ref (a 2), .ref (a 3), .int (nI 4), .int (nI ty), .ref (a 4), .int (nI pl), .int (zb gd), .int (nI od), .ref (a 5)])), ((a 2), .inl (E.2.2.1, 512, .inl (zMr t))), ((a 3), .inl (E.2.2.1, 2048, .inl (zHi Q)))] [((a 0), .inr (6, [.ref (a 1), .ref (a 2), .ref (a 3), .int (nI 4), .int (nI ty), .ref (a 4), .int (nI pl), .int (zb gd), .int (nI od), .ref (a 5)])), ((a 2), .inl (E.2.2.1, 512, .inl (zMr t))), ((a 3), .inl (E.2.2.1, 2048, .inl (zHi (mQs (mQd Q) 3 t))))] (some (.int x)) := by
  refine zM.of kX6_done (Nat.le_of_ble_eq_true rfl) rfl [some (.ref (a 0)), some (.int x), none] rfl (Nat.le_of_ble_eq_true rfl) ?_
  intro X eX C N
  subst eX
  refine z_iload_n C 1 dX6_done_0 rfl rfl ?_
  refine z_if_ge_t C 6 dX6_done_1 (by decide) (Int32.not_lt.mp hx) ?_
  refine z_aload_n C 0 dX6_done_6 rfl rfl ?_
  refine z_get C fX6_done_26 0 dX6_done_7 rfl rfl ?_
  refine z_iconst C (nI 4) dX6_done_10 (by decide) ?_
  refine z_ncmp_ne_f C 60 dX6_done_11 (by decide) (by omega) (by omega) (by omega) ?_
  refine z_aload_n C 0 dX6_done_14 rfl rfl ?_
  refine z_dup C dX6_done_15 rfl ?_
  refine z_get C fX6_done_26 0 dX6_done_16 rfl rfl ?_
  refine z_iconst C (nI 1) dX6_done_19 (by decide) ?_
  refine z_isub C dX6_done_20 ?_
  refine z_top (y := nI 3) ((pk_sub (by omega)).trans (congrArg nI (by omega))) ?_
  refine z_put C fX6_done_26 ftX6_3 0 dX6_done_21 rfl rfl rfl (Nat.le_of_ble_eq_true rfl) ?_
  refine z_iconst C (nI 0) dX6_done_24 (by decide) ?_
  refine z_istore_n C 2 dX6_done_25 rfl (Nat.le_of_ble_eq_true rfl) ?_
  have hL26 : ∀ (dd : Nat) (k : Nat) (f' : Nat → Int32), 1536 - k = dd → (k ≤ 1536) → (f' = mSh Q k) → zG X 0 0 [((a 0), .inr (6, [.ref (a 1), .ref (a 2), .ref (a 3), .int (nI 3), .int (nI ty), .ref (a 4), .int (nI pl), .int (zb gd), .int (nI od), .ref (a 5)])), ((a 2), .inl (X.2.1.2.2.1, 512, .inl (zMr t))), ((a 3), .inl (X.2.1.2.2.1, 2048, .inl f'))] [some (.ref (a 0)), some (.int x), some (.int (nI k))] [] 26 := by
    intro dd
    induction dd using Nat.strongRecOn with
    | _ dd ih26 =>
    intro k f' hdd hk hf
    refine z_iload_n C 2 dX6_done_26 rfl rfl ?_
    refine z_sipush C (nI 512) dX6_done_27 (by decide) ?_
    refine z_aload_n C 0 dX6_done_30 rfl rfl ?_
    refine z_get C fX6_done_26 0 dX6_done_31 rfl rfl ?_
    refine z_imul C dX6_done_34 ?_
    refine z_top (y := nI 1536) (pk_mul _ _) ?_
    refine z_ncmp_ge C 60 dX6_done_35 (by decide) (by omega) (by omega) (fun h_1 => ?_) (fun h_1 => ?_)
    · refine z_cv (ws' := [((a 0), .inr (6, [.ref (a 1), .ref (a 2), .ref (a 3), .int (nI 3), .int (nI ty), .ref (a 4), .int (nI pl), .int (zb gd), .int (nI od), .ref (a 5)])), ((a 2), .inl (X.2.1.2.2.1, 512, .inl (zMr t))), ((a 3), .inl (X.2.1.2.2.1, 2048, .inl (zHi (mQd Q))))]) (by rw [hf, show k = 1536 by omega, mSh_d] <;> rfl) rfl rfl ?_
      refine z_iconst C (nI 0) dX6_done_60 (by decide) ?_
      refine z_istore_n C 2 dX6_done_61 rfl (Nat.le_of_ble_eq_true rfl) ?_
      have hL62 : ∀ (dd : Nat) (m : Nat) (g' : Nat → Int32), 512 - m = dd → (m ≤ 512) → (g' = mCp (zMr t) (zHi (mQd Q)) (1536) m) → zG X 0 0 [((a 0), .inr (6, [.ref (a 1), .ref (a 2), .ref (a 3), .int (nI 3), .int (nI ty), .ref (a 4), .int (nI pl), .int (zb gd), .int (nI od), .ref (a 5)])), ((a 2), .inl (X.2.1.2.2.1, 512, .inl (zMr t))), ((a 3), .inl (X.2.1.2.2.1, 2048, .inl g'))] [some (.ref (a 0)), some (.int x), some (.int (nI m))] [] 62 := by
        intro dd
        induction dd using Nat.strongRecOn with
        | _ dd ih62 =>
        intro m g' hdd hm hg
        refine z_iload_n C 2 dX6_done_62 rfl rfl ?_
        refine z_sipush C (nI 512) dX6_done_63 (by decide) ?_
        refine z_ncmp_ge C 96 dX6_done_66 (by decide) (by omega) (by omega) (fun h_2 => ?_) (fun h_2 => ?_)
        · refine z_aload_n C 0 dX6_done_96 rfl rfl ?_
          refine z_dup C dX6_done_97 rfl ?_
          refine z_get C fX6_done_26 0 dX6_done_98 rfl rfl ?_
          refine z_iconst C (nI 1) dX6_done_101 (by decide) ?_
          refine z_iadd C dX6_done_102 ?_
          refine z_top (y := nI 4) (nI_add _ _) ?_
          refine z_put C fX6_done_26 ftX6_3 0 dX6_done_103 rfl rfl rfl (Nat.le_of_ble_eq_true rfl) ?_
          refine z_iload_n C 1 dX6_done_106 rfl rfl ?_
          exact z_iret C N dX6_done_107 (by rw [hg, show m = 512 by omega, show (1536 : Nat) = 512 * 3 from rfl, mCp_hist] <;> rfl) (rfl)
        · refine z_aload_n C 0 dX6_done_69 rfl rfl ?_
          refine z_get C fX6_done_16 0 dX6_done_70 rfl rfl ?_
          refine z_sipush C (nI 512) dX6_done_73 (by decide) ?_
          refine z_aload_n C 0 dX6_done_76 rfl rfl ?_
          refine z_get C fX6_done_26 0 dX6_done_77 rfl rfl ?_
          refine z_imul C dX6_done_80 ?_
          refine z_top (y := nI 1536) (pk_mul _ _) ?_
          refine z_iload_n C 2 dX6_done_81 rfl rfl ?_
          refine z_iadd C dX6_done_82 ?_
          refine z_top (y := nI (1536 + m)) (nI_add _ _) ?_
          refine z_aload_n C 0 dX6_done_83 rfl rfl ?_
          refine z_get C fX6_done_13 0 dX6_done_84 rfl rfl ?_
          refine z_iload_n C 2 dX6_done_87 rfl rfl ?_
          refine z_ialdN C 1 dX6_done_88 rfl (by omega) (by decide) ?_
          refine z_iastN C 2 dX6_done_89 rfl (by omega) (by decide) ?_
          refine z_iinc C (nI (m + 1)) dX6_done_90 rfl (zi_1 _) ?_
          refine z_goto C 62 dX6_done_93 (by decide) ?_
          exact ih62 (512 - (m + 1)) (by omega) (m + 1) (upd g' (1536 + m) ((zMr t) m)) rfl (by omega) (by subst hg; exact mCp_s)
      exact hL62 _ 0 (zHi (mQd Q)) rfl (by omega) ((mCp_0 _ _ _).symm)
    · refine z_aload_n C 0 dX6_done_38 rfl rfl ?_
      refine z_get C fX6_done_16 0 dX6_done_39 rfl rfl ?_
      refine z_iload_n C 2 dX6_done_42 rfl rfl ?_
      refine z_aload_n C 0 dX6_done_43 rfl rfl ?_
      refine z_get C fX6_done_16 0 dX6_done_44 rfl rfl ?_
      refine z_iload_n C 2 dX6_done_47 rfl rfl ?_
      refine z_sipush C (nI 512) dX6_done_48 (by decide) ?_
      refine z_iadd C dX6_done_51 ?_
      refine z_top (y := nI (k + 512)) (nI_add _ _) ?_
      refine z_ialdN C 2 dX6_done_52 rfl (by omega) (by decide) ?_
      refine z_iastN C 2 dX6_done_53 rfl (by omega) (by decide) ?_
      refine z_iinc C (nI (k + 1)) dX6_done_54 rfl (zi_1 _) ?_
      refine z_goto C 26 dX6_done_57 (by decide) ?_
      exact ih26 (1536 - (k + 1)) (by omega) (k + 1) (upd f' k (f' (k + 512))) rfl (by omega) (by subst hf; exact mSh_s)
  exact hL26 _ 0 (zHi Q) rfl (by omega) ((mSh_0 _).symm)

set_option maxHeartbeats 400000 in
set_option maxRecDepth 100000 in
theorem mX6_done (E : zE) (a : Nat → Nat) (kp ty pl : Nat) (gd : Bool) (od : Nat) (t : zMs) (Q : Nat → zMs) (x : Int32) (hk : kp ≤ 4) : zM E yX6_done wsX6_done 0 [.ref (a 0), .int x] [((a 0), .inr (6, [.ref (a 1), .ref (a 2), .ref (a 3), .int (nI kp), .int (nI ty), .ref (a 4), .int (nI pl), .int (zb gd), .int (nI od), .ref (a 5)])), ((a 2), .inl (E.2.2.1, 512, .inl (zMr t))), ((a 3), .inl (E.2.2.1, 2048, .inl (zHi Q)))] [((a 0), .inr (6, [.ref (a 1), .ref (a 2), .ref (a 3), .int (nI (mHk x kp)), .int (nI ty), .ref (a 4), .int (nI pl), .int (zb gd), .int (nI od), .ref (a 5)])), ((a 2), .inl (E.2.2.1, 512, .inl (zMr t))), ((a 3), .inl (E.2.2.1, 2048, .inl (zHi (mHq x Q kp t))))] (some (.int x)) := by
  by_cases hx : x < 0
  · rw [show mHk x kp = kp from if_pos hx, show mHq x Q kp t = Q from if_pos hx]
    exact mX6_done_n E a kp ty pl gd od t Q x hx
  · by_cases h4 : kp = 4
    · rw [show mHk x kp = 4 by rw [mHk, if_neg hx, if_pos h4], show mHq x Q kp t = mQs (mQd Q) 3 t by rw [mHq, if_neg hx, if_pos h4]]
      subst h4
      exact mX6_done_4 E a ty pl gd od t Q x hx
    · rw [show mHk x kp = kp + 1 by rw [mHk, if_neg hx, if_neg h4], show mHq x Q kp t = mQs Q kp t by rw [mHq, if_neg hx, if_neg h4]]
      exact mX6_done_k E a kp ty pl gd od t Q x hx (by omega)
