/-! removing, on both sides -/
theorem RR_NewRmR {S : zSt} {s : zMs} {B j : Nat} {au : Int32} (h : RR S s B) (hB31 : B < 2147483640) (hj : j < rU S) (hm : mK S < 60) (hf : zf (pLn (fA S) (nI 1) 3 (rO S j)) (mK S) < 0) : RR (zNew S (nI 1) au (rO S j) (-5) (-5)) (mNew s (nI 1) au (mN (nS s) (nN s) 0 j) (-5) (nI 0)) B := by
  have h8 := h.1.1.1
  have hU : nU s 0 = rU S := h.2.1.1
  have hU2 : nU s 1 = cU S := h.2.1.2.1
  have hN := h.2.2.2.2.2.2.1
  have key := inj_iff (f := rO S) (m := mN (nS s) (nN s) 0) (u := rU S) (j := j) hj rfl rfl (fun i k hi hk => h.2.2.2.2.1.1.2 i k (by have := h8.1; have := h8.2.1; omega) (by have := h8.1; have := h8.2.1; omega)) (fun i k hi hk => h.1.2.2.1.1 i k (by rw [hU]; exact hi) (by rw [hU]; exact hk))
  have ex : ∃ p, p < rU S ∧ rO S j = rO S p := ⟨j, hj, rfl⟩
  have m5o : ∀ p, p < cU S → ((-5 : Int32) = cO S p ↔ (-5 : Int32) = mN (nS s) (nN s) 1 p) := by
    intro p hp
    obtain ⟨v, hv, ev⟩ := hN.2.2.1 p (by rw [hU2]; exact hp)
    have hb := hN.1
    exact ⟨fun q => absurd q (RO_m5 h.2.2.2.2.1.2 (by decide) (by have := h8.1; have := h8.2.1; omega)), fun q => absurd (ev.symm.trans q.symm) (nI_m5n (by omega))⟩
  have nx : ∃ v, v < nX s ∧ mN (nS s) (nN s) 0 j = nI v := hN.2.1 j (by rw [hU]; exact hj)
  refine RR_New h hm (Or.inr (Or.inl rfl)) ⟨key, Or.inr ex⟩ ⟨m5o, Or.inl rfl⟩ ⟨fun e => absurd e (by decide), fun _ => rfl⟩ ⟨Or.inr nx, Or.inl rfl⟩ ⟨fun k => absurd k (by decide), fun _ => ⟨rfl, rfl⟩, fun _ => ex, fun k => absurd k (by decide)⟩ (fun y hy hz h3 h4 => ⟨fun e => ?_, fun z => absurd z.1 (by decide), fun z => absurd z.1 (by decide)⟩)
  exfalso
  have := zf_ng (by have := h8.2.2; omega) hf y hy
  unfold pLn at this
  rw [hz, ← e, h3, decide_eq_true rfl, decide_eq_true rfl, decide_eq_true rfl] at this
  cases this
theorem RR_dsR {S : zSt} {s : zMs} {B j : Nat} (h : RR S s B) (hj : j < rU S) : ∀ x, x < mK S → mMk (nZ s) (mDp (nZ s) (nK s) (nR s) (nC s) (nI 0) (mN (nS s) (nN s) 0 j) false) (nI 3) (nM s) x = zLv (fA S) 3 (rO S j) (mK S) (6 * x + 2) := by
  intro x hx
  obtain ⟨k1, -, k3, -, -, k6⟩ := h.2.2.1 x hx
  have hX := (h.2.2.2.1.1 x hx).1 j hj
  have hP := h.2.2.2.2.2.2.2.1 x hx
  have hp : mDp (nZ s) (nK s) (nR s) (nC s) (nI 0) (mN (nS s) (nN s) 0 j) false x = true ↔ (fA S (6 * x + 3) = rO S j ∧ fA S (6 * x + 2) = 0) := by
    unfold mDp mAt
    rw [k3, k1, if_pos (c := nI 0 = 0) nI_0]
    by_cases c : fA S (6 * x + 3) = rO S j
    · have c2 := hX.mp c
      have kk : fA S (6 * x) = nI 4 ∨ fA S (6 * x) / nI 2 = nI 0 := by
        rcases k6 with e | e | e | e | e
        · exact Or.inr (by rw [e]; decide)
        · exact Or.inr (by rw [e]; decide)
        · exact absurd ((hP.1 (Or.inl e)).1.symm.trans c) (RO_m5 h.2.2.2.2.1.1 (by decide) (by have := h.1.1.1.1; omega))
        · exact absurd ((hP.1 (Or.inr e)).1.symm.trans c) (RO_m5 h.2.2.2.2.1.1 (by decide) (by have := h.1.1.1.1; omega))
        · exact Or.inl e
      rw [decide_eq_true c2]
      constructor
      · intro z
        refine ⟨c, ?_⟩
        by_cases d : fA S (6 * x + 2) = 0
        · exact d
        · rw [decide_eq_false d] at z
          simp at z
      · intro z
        rw [decide_eq_true z.2]
        simp only [Bool.true_and, Bool.and_true, Bool.not_false, Bool.true_or, Bool.or_eq_true, decide_eq_true_eq]
        exact kk
    · constructor
      · intro z
        rw [decide_eq_false (fun q => c (hX.mpr q))] at z
        simp at z
      · intro z
        exact absurd z.1 c
  rw [zLv_2 hx (by decide)]
  simp only [mMk]
  by_cases q : fA S (6 * x + 3) = rO S j ∧ fA S (6 * x + 2) = 0
  · rw [if_pos ⟨by rw [h.2.1.2.2.1]; exact hx, hp.mpr q⟩, if_pos q]
  · rw [if_neg (fun z => q (hp.mp z.2)), if_neg q, k3]
theorem RR_RemR {S : zSt} {s : zMs} {B j : Nat} {au : Int32} (h : RR S s B) (hB31 : B < 2147483640) (hj : j < rU S) : (zRemRj S au j).1 = (mRemRj s au j).1 ∧ RR (zRemRj S au j).2 (mRemRj s au j).2 B := by
  have e2 := h.2.1.2.2.1
  have e3 := h.2.1.2.2.2
  have h8 := h.1.1.1
  have hU : nU s 0 = rU S := h.2.1.1
  have eI : zix (mLn (nZ s) (nK s) (nR s) (nC s) 0 (mN (nS s) (nN s) 0 j)) (mK S) = zix (pLn (fA S) (nI 0) 3 (rO S j)) (mK S) := zix_cg (fun x hx => (RR_Lr h (by decide) hj hx).symm)
  have eR : mDm (nZ s) (nK s) (nR s) (nC s) (nS s) (nN s) (nM s) 0 j = !decide (zf (pLn (fA S) (nI 1) 3 (rO S j)) (mK S) < 0) := congrArg (fun z => !decide (z < 0)) (RR_rRm h hj).symm
  have dr : RR (zDrR S (rO S j)) (mTk (mDs s (nI 0) (mN (nS s) (nN s) 0 j) false) 0 j) B := RR_DrR h hj (RR_dsR h hj)
  unfold zRemRj mRemRj
  rw [eR, e3, e2, eI]
  by_cases c1 : tK S = false
  · rw [if_pos c1, if_pos c1]; exact ⟨rfl, dr⟩
  · rw [if_neg c1, if_neg c1]
    by_cases c2 : zf (pLn (fA S) (nI 1) 3 (rO S j)) (mK S) < 0
    · rw [if_neg (fun z => z c2), if_neg (c := (!decide (zf (pLn (fA S) (nI 1) 3 (rO S j)) (mK S) < 0)) = true) (by rw [decide_eq_true c2]; decide)]
      by_cases c3 : zix (pLn (fA S) (nI 0) 3 (rO S j)) (mK S) < mK S
      · have ky := (h.2.2.1 _ c3).2.1
        rw [ky]
        by_cases c4 : fA S (6 * zix (pLn (fA S) (nI 0) 3 (rO S j)) (mK S) + 1) = au
        · rw [if_pos ⟨c3, c4⟩, if_pos ⟨c3, c4⟩]; exact ⟨rfl, dr⟩
        · have c6 : ¬ (zix (pLn (fA S) (nI 0) 3 (rO S j)) (mK S) < mK S ∧ fA S (6 * zix (pLn (fA S) (nI 0) 3 (rO S j)) (mK S) + 1) = au) := fun z => c4 z.2
          rw [if_neg c6, if_neg c6]
          by_cases c5 : 60 ≤ mK S
          · rw [if_pos c5, if_pos c5]; exact ⟨rfl, h⟩
          · rw [if_neg c5, if_neg c5]; exact ⟨rfl, RR_NewRmR h hB31 hj (by omega) c2⟩
      · have c6 : ¬ (zix (pLn (fA S) (nI 0) 3 (rO S j)) (mK S) < mK S ∧ fA S (6 * zix (pLn (fA S) (nI 0) 3 (rO S j)) (mK S) + 1) = au) := fun z => c3 z.1
        have c7 : ¬ (zix (pLn (fA S) (nI 0) 3 (rO S j)) (mK S) < mK S ∧ nY s (zix (pLn (fA S) (nI 0) 3 (rO S j)) (mK S)) = au) := fun z => c3 z.1
        rw [if_neg c6, if_neg c7]
        by_cases c5 : 60 ≤ mK S
        · rw [if_pos c5, if_pos c5]; exact ⟨rfl, h⟩
        · rw [if_neg c5, if_neg c5]; exact ⟨rfl, RR_NewRmR h hB31 hj (by omega) c2⟩
    · rw [if_pos c2, if_pos (c := (!decide (zf (pLn (fA S) (nI 1) 3 (rO S j)) (mK S) < 0)) = true) (by rw [decide_eq_false c2]; rfl)]; exact ⟨rfl, h⟩
theorem RR_NewRmC {S : zSt} {s : zMs} {B j : Nat} {au : Int32} (h : RR S s B) (hB31 : B < 2147483640) (hj : j < cU S) (hm : mK S < 60) (hf : zf (pLn (fA S) (nI 3) 4 (cO S j)) (mK S) < 0) : RR (zNew S (nI 3) au (-5) (cO S j) (-5)) (mNew s (nI 3) au (-5) (mN (nS s) (nN s) 1 j) (nI 0)) B := by
  have h8 := h.1.1.1
  have hU : nU s 1 = cU S := h.2.1.2.1
  have hU2 : nU s 0 = rU S := h.2.1.1
  have hN := h.2.2.2.2.2.2.1
  have key := inj_iff (f := cO S) (m := mN (nS s) (nN s) 1) (u := cU S) (j := j) hj rfl rfl (fun i k hi hk => h.2.2.2.2.1.2.2 i k (by have := h8.1; have := h8.2.1; omega) (by have := h8.1; have := h8.2.1; omega)) (fun i k hi hk => h.1.2.2.1.2 i k (by rw [hU]; exact hi) (by rw [hU]; exact hk))
  have ex : ∃ p, p < cU S ∧ cO S j = cO S p := ⟨j, hj, rfl⟩
  have m5o : ∀ p, p < rU S → ((-5 : Int32) = rO S p ↔ (-5 : Int32) = mN (nS s) (nN s) 0 p) := by
    intro p hp
    obtain ⟨v, hv, ev⟩ := hN.2.1 p (by rw [hU2]; exact hp)
    have hb := hN.1
    exact ⟨fun q => absurd q (RO_m5 h.2.2.2.2.1.1 (by decide) (by have := h8.1; have := h8.2.1; omega)), fun q => absurd (ev.symm.trans q.symm) (nI_m5n (by omega))⟩
  have nx : ∃ v, v < nX s ∧ mN (nS s) (nN s) 1 j = nI v := hN.2.2.1 j (by rw [hU]; exact hj)
  refine RR_New h hm (Or.inr (Or.inr (Or.inr (Or.inl rfl)))) ⟨m5o, Or.inl rfl⟩ ⟨key, Or.inr ex⟩ ⟨fun e => absurd e (by decide), fun _ => rfl⟩ ⟨Or.inl rfl, Or.inr nx⟩ ⟨fun _ => ⟨rfl, rfl⟩, fun k => absurd k (by decide), fun k => absurd k (by decide), fun _ => ex⟩ (fun y hy hz h3 h4 => ⟨fun e => ?_, fun z => absurd z.1 (by decide), fun z => absurd z.1 (by decide)⟩)
  exfalso
  have := zf_ng (by have := h8.2.2; omega) hf y hy
  unfold pLn at this
  rw [hz, ← e, h4, decide_eq_true rfl, decide_eq_true rfl, decide_eq_true rfl] at this
  cases this
theorem RR_dsC {S : zSt} {s : zMs} {B j : Nat} (h : RR S s B) (hj : j < cU S) : ∀ x, x < mK S → mMk (nZ s) (mDp (nZ s) (nK s) (nR s) (nC s) (nI 1) (mN (nS s) (nN s) 1 j) false) (nI 3) (nM s) x = zLv (fA S) 4 (cO S j) (mK S) (6 * x + 2) := by
  intro x hx
  obtain ⟨k1, -, k3, -, -, k6⟩ := h.2.2.1 x hx
  have hX := (h.2.2.2.1.2 x hx).1 j hj
  have hP := h.2.2.2.2.2.2.2.1 x hx
  have hp : mDp (nZ s) (nK s) (nR s) (nC s) (nI 1) (mN (nS s) (nN s) 1 j) false x = true ↔ (fA S (6 * x + 4) = cO S j ∧ fA S (6 * x + 2) = 0) := by
    unfold mDp mAt
    rw [k3, k1, if_neg (c := nI 1 = 0) (by decide)]
    by_cases c : fA S (6 * x + 4) = cO S j
    · have c2 := hX.mp c
      have kk : fA S (6 * x) = nI 4 ∨ fA S (6 * x) / nI 2 = nI 1 := by
        rcases k6 with e | e | e | e | e
        · exact absurd ((hP.2.1 (Or.inl e)).1.symm.trans c) (RO_m5 h.2.2.2.2.1.2 (by decide) (by have := h.1.1.1.2.1; omega))
        · exact absurd ((hP.2.1 (Or.inr e)).1.symm.trans c) (RO_m5 h.2.2.2.2.1.2 (by decide) (by have := h.1.1.1.2.1; omega))
        · exact Or.inr (by rw [e]; decide)
        · exact Or.inr (by rw [e]; decide)
        · exact Or.inl e
      rw [decide_eq_true c2]
      constructor
      · intro z
        refine ⟨c, ?_⟩
        by_cases d : fA S (6 * x + 2) = 0
        · exact d
        · rw [decide_eq_false d] at z
          simp at z
      · intro z
        rw [decide_eq_true z.2]
        simp only [Bool.true_and, Bool.and_true, Bool.not_false, Bool.true_or, Bool.or_eq_true, decide_eq_true_eq]
        exact kk
    · constructor
      · intro z
        rw [decide_eq_false (fun q => c (hX.mpr q))] at z
        simp at z
      · intro z
        exact absurd z.1 c
  rw [zLv_2 hx (by decide)]
  simp only [mMk]
  by_cases q : fA S (6 * x + 4) = cO S j ∧ fA S (6 * x + 2) = 0
  · rw [if_pos ⟨by rw [h.2.1.2.2.1]; exact hx, hp.mpr q⟩, if_pos q]
  · rw [if_neg (fun z => q (hp.mp z.2)), if_neg q, k3]
theorem RR_RemC {S : zSt} {s : zMs} {B j : Nat} {au : Int32} (h : RR S s B) (hB31 : B < 2147483640) (hj : j < cU S) : (zRemCj S au j).1 = (mRemCj s au j).1 ∧ RR (zRemCj S au j).2 (mRemCj s au j).2 B := by
  have e2 := h.2.1.2.2.1
  have e3 := h.2.1.2.2.2
  have h8 := h.1.1.1
  have hU : nU s 1 = cU S := h.2.1.2.1
  have eI : zix (mLn (nZ s) (nK s) (nR s) (nC s) 2 (mN (nS s) (nN s) 1 j)) (mK S) = zix (pLn (fA S) (nI 2) 4 (cO S j)) (mK S) := zix_cg (fun x hx => (RR_Lc h (by decide) hj hx).symm)
  have eR : mDm (nZ s) (nK s) (nR s) (nC s) (nS s) (nN s) (nM s) 1 j = !decide (zf (pLn (fA S) (nI 3) 4 (cO S j)) (mK S) < 0) := congrArg (fun z => !decide (z < 0)) (RR_cRm h hj).symm
  have dr : RR (zDrC S (cO S j)) (mTk (mDs s (nI 1) (mN (nS s) (nN s) 1 j) false) 1 j) B := RR_DrC h hj (RR_dsC h hj)
  unfold zRemCj mRemCj
  rw [eR, e3, e2, eI]
  by_cases c1 : tK S = false
  · rw [if_pos c1, if_pos c1]; exact ⟨rfl, dr⟩
  · rw [if_neg c1, if_neg c1]
    by_cases c2 : zf (pLn (fA S) (nI 3) 4 (cO S j)) (mK S) < 0
    · rw [if_neg (fun z => z c2), if_neg (c := (!decide (zf (pLn (fA S) (nI 3) 4 (cO S j)) (mK S) < 0)) = true) (by rw [decide_eq_true c2]; decide)]
      by_cases c3 : zix (pLn (fA S) (nI 2) 4 (cO S j)) (mK S) < mK S
      · have ky := (h.2.2.1 _ c3).2.1
        rw [ky]
        by_cases c4 : fA S (6 * zix (pLn (fA S) (nI 2) 4 (cO S j)) (mK S) + 1) = au
        · rw [if_pos ⟨c3, c4⟩, if_pos ⟨c3, c4⟩]; exact ⟨rfl, dr⟩
        · have c6 : ¬ (zix (pLn (fA S) (nI 2) 4 (cO S j)) (mK S) < mK S ∧ fA S (6 * zix (pLn (fA S) (nI 2) 4 (cO S j)) (mK S) + 1) = au) := fun z => c4 z.2
          rw [if_neg c6, if_neg c6]
          by_cases c5 : 60 ≤ mK S
          · rw [if_pos c5, if_pos c5]; exact ⟨rfl, h⟩
          · rw [if_neg c5, if_neg c5]; exact ⟨rfl, RR_NewRmC h hB31 hj (by omega) c2⟩
      · have c6 : ¬ (zix (pLn (fA S) (nI 2) 4 (cO S j)) (mK S) < mK S ∧ fA S (6 * zix (pLn (fA S) (nI 2) 4 (cO S j)) (mK S) + 1) = au) := fun z => c3 z.1
        have c7 : ¬ (zix (pLn (fA S) (nI 2) 4 (cO S j)) (mK S) < mK S ∧ nY s (zix (pLn (fA S) (nI 2) 4 (cO S j)) (mK S)) = au) := fun z => c3 z.1
        rw [if_neg c6, if_neg c7]
        by_cases c5 : 60 ≤ mK S
        · rw [if_pos c5, if_pos c5]; exact ⟨rfl, h⟩
        · rw [if_neg c5, if_neg c5]; exact ⟨rfl, RR_NewRmC h hB31 hj (by omega) c2⟩
    · rw [if_pos c2, if_pos (c := (!decide (zf (pLn (fA S) (nI 3) 4 (cO S j)) (mK S) < 0)) = true) (by rw [decide_eq_false c2]; rfl)]; exact ⟨rfl, h⟩
theorem RR_Rem {S : zSt} {s : zMs} {B : Nat} {au ax pl : Int32} (h : RR S s B) (hB31 : B < 2147483640) : (zRem S au ax pl).1 = (mRem s au ax pl).1 ∧ RR (zRem S au ax pl).2 (mRem s au ax pl).2 B := by
  have e0 := h.2.1.1
  have e1 := h.2.1.2.1
  have h8 := h.1.1.1
  unfold zRem mRem
  rw [e0, e1]
  split
  · exact ⟨rfl, h⟩
  · split
    · split
      · exact ⟨rfl, h⟩
      · rename_i c
        obtain ⟨j, hj, e⟩ := z_nat (n := rU S) (by have := h8.1; omega) (fun q => c (Or.inl q)) (fun q => c (Or.inr q))
        rw [e, nI_clamp (by have := h8.1; omega)]
        exact RR_RemR h hB31 hj
    · split
      · split
        · exact ⟨rfl, h⟩
        · rename_i c
          obtain ⟨j, hj, e⟩ := z_nat (n := cU S) (by have := h8.2.1; omega) (fun q => c (Or.inl q)) (fun q => c (Or.inr q))
          rw [e, nI_clamp (by have := h8.2.1; omega)]
          exact RR_RemC h hB31 hj
      · exact ⟨rfl, h⟩
