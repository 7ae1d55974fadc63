/-! the model: settling, and what it tells -/
theorem zf_nn {p : Nat → Bool} {n : Nat} (hn : n < 2147483648) (h : ¬ zf p n < 0) : zix p n < n := by
  by_cases q : zix p n < n
  · exact q
  · rw [zf_nix hn q] at h; exact absurd (by decide) h
theorem zf_ng {p : Nat → Bool} {n : Nat} (hn : n < 2147483648) (h : zf p n < 0) : ∀ j, j < n → p j = false := by
  intro j hj
  refine zix_ff (n := n) j ?_
  by_cases q : zix p n < n
  · rw [zf_ix hn q] at h; exact absurd h (nI_pos (by omega))
  · have := zix_le p n; omega
def gAW (s : zMs) (x : Nat) : Prop := (∀ k, k ≤ nM s → okM (nU (mAL s x k).1) (nS (mAL s x k).1) (nM (mAL s x k).1) (nK (mAL s x k).1) ∧ (k < nM s → mrs (nZ (mAL s x k).1) (nK (mAL s x k).1) (nR (mAL s x k).1) (nC (mAL s x k).1) x k = true → lnX (nK (mAL s x k).1) (nR (mAL s x k).1) (nC (mAL s x k).1) (nS (mAL s x k).1) (nN (mAL s x k).1) (nU (mAL s x k).1) k)) ∧ lnX (nK (mAL s x (nM s)).1) (nR (mAL s x (nM s)).1) (nC (mAL s x (nM s)).1) (nS (mAL s x (nM s)).1) (nN (mAL s x (nM s)).1) (nU (mAL s x (nM s)).1) x
theorem mSL_fx {s : zMs} {au : Int32} {b : Bool} {k M : Nat} (hno : ∀ j, j < k → mFo (nZ (mSL s au b k).1) (nY (mSL s au b k).1) au j = false) (hf : zix (mFo (nZ (mSL s au b k).1) (nY (mSL s au b k).1) au) M < M) : mSL s au b (zix (mFo (nZ (mSL s au b k).1) (nY (mSL s au b k).1) au) M) = mSL s au b k ∧ mFo (nZ ((mSL s au b (zix (mFo (nZ (mSL s au b k).1) (nY (mSL s au b k).1) au) M)).1)) (nY ((mSL s au b (zix (mFo (nZ (mSL s au b k).1) (nY (mSL s au b k).1) au) M)).1)) au (zix (mFo (nZ (mSL s au b k).1) (nY (mSL s au b k).1) au) M) = true := by
  have h1 := zix_p hf
  have hk : k ≤ zix (mFo (nZ (mSL s au b k).1) (nY (mSL s au b k).1) au) M := by
    rcases Nat.lt_or_ge (zix (mFo (nZ (mSL s au b k).1) (nY (mSL s au b k).1) au) M) k with q | q
    · rw [hno _ q] at h1; cases h1
    · exact q
  have h2 := mSL_to (s := s) (au := au) (b := b) hk (fun j hj => zix_ff j hj)
  exact ⟨h2, by rw [h2]; exact h1⟩
theorem mSL_fa {s : zMs} {au : Int32} {k M : Nat} (hno : ∀ j, j < k → mFo (nZ (mSL s au true k).1) (nY (mSL s au true k).1) au j = false) (hf : zix (mFo (nZ (mSL s au true k).1) (nY (mSL s au true k).1) au) M < M) : mSL s au true (zix (mFo (nZ (mSL s au true k).1) (nY (mSL s au true k).1) au) M + 1) = (mAW (mSL s au true k).1 (zix (mFo (nZ (mSL s au true k).1) (nY (mSL s au true k).1) au) M), (mSL s au true k).2 + mAWn (mSL s au true k).1 (zix (mFo (nZ (mSL s au true k).1) (nY (mSL s au true k).1) au) M)) := by
  obtain ⟨h1, h2⟩ := mSL_fx hno hf
  rw [mSL_a h2 rfl, h1]
theorem mSL_fr {s : zMs} {au : Int32} {k M : Nat} (hno : ∀ j, j < k → mFo (nZ (mSL s au false k).1) (nY (mSL s au false k).1) au j = false) (hf : zix (mFo (nZ (mSL s au false k).1) (nY (mSL s au false k).1) au) M < M) : mSL s au false (zix (mFo (nZ (mSL s au false k).1) (nY (mSL s au false k).1) au) M + 1) = (mRW (mSL s au false k).1 (zix (mFo (nZ (mSL s au false k).1) (nY (mSL s au false k).1) au) M), (mSL s au false k).2 + mRWn (mSL s au false k).1 (zix (mFo (nZ (mSL s au false k).1) (nY (mSL s au false k).1) au) M)) := by
  obtain ⟨h1, h2⟩ := mSL_fx hno hf
  rw [mSL_r h2 rfl, h1]
theorem nM_SL (s : zMs) (au : Int32) (b : Bool) : ∀ k, nM (mSL s au b k).1 = nM s
  | 0 => rfl
  | k + 1 => by
    simp only [mSL]
    split
    · split
      · exact (nM_AW _ _).trans (nM_SL s au b k)
      · exact (nM_RW _ _).trans (nM_SL s au b k)
    · exact nM_SL s au b k
def mVw (vZ : Nat → Int32) (vK : Nat → Int32) (vR : Nat → Int32) (vC : Nat → Int32) (vS : Nat → Nat) (vN : Nat → Int32) (vM : Nat) (v ax p : Nat) : Bool := if v = 0 then true else if v = 1 then !mDm vZ vK vR vC vS vN vM ax p else !mNw vZ vK vR vC vS vN vM ax p
def mPi (vZ : Nat → Int32) (vK : Nat → Int32) (vR : Nat → Int32) (vC : Nat → Int32) (vS : Nat → Nat) (vN : Nat → Int32) (vM : Nat) (v ax p : Nat) : Int32 := if mVw vZ vK vR vC vS vN vM v ax p = true then nI (zc (fun q => mVw vZ vK vR vC vS vN vM v ax q) p) else -5
def mVv (vZ : Nat → Int32) (vK : Nat → Int32) (vR : Nat → Int32) (vC : Nat → Int32) (vS : Nat → Nat) (vN : Nat → Int32) (vM : Nat) (vB : Nat → Int32) (vV : Nat → Int32) (v r c : Nat) : Int32 := if v = 2 then mB vB vS r c else mVB vZ vK vR vC vB vS vV (vM) (mN vS vN 0 r) (mN vS vN 1 c) r c
def mPlR (vR : Nat → Int32) (vS : Nat → Nat) (vN : Nat → Int32) (vU : Nat → Nat) (x : Nat) : Int32 := if vR x < 0 then -5 else mPl vS vN vU 0 (vR x)
def mPlC (vC : Nat → Int32) (vS : Nat → Nat) (vN : Nat → Int32) (vU : Nat → Nat) (x : Nat) : Int32 := if vC x < 0 then -5 else mPl vS vN vU 1 (vC x)
def mRA (vK : Nat → Int32) (vR : Nat → Int32) (vC : Nat → Int32) (vS : Nat → Nat) (vN : Nat → Int32) (vU : Nat → Nat) (x y : Nat) : Bool := if ¬ vK x / nI 2 = vK y / nI 2 then decide (vK x / nI 2 < vK y / nI 2)
  else if ¬ mPlR vR vS vN vU x = mPlR vR vS vN vU y then decide (mPlR vR vS vN vU x < mPlR vR vS vN vU y)
  else if ¬ mPlC vC vS vN vU x = mPlC vC vS vN vU y then decide (mPlC vC vS vN vU x < mPlC vC vS vN vU y) else decide (x < y)
def mAh (vZ : Nat → Int32) (vK : Nat → Int32) (vR : Nat → Int32) (vC : Nat → Int32) (vS : Nat → Nat) (vN : Nat → Int32) (vU : Nat → Nat) (vM : Nat) (x : Nat) : Nat := zc (fun y => decide (vZ y = 0) && (!decide (y = x) && mRA vK vR vC vS vN vU y x)) (vM)
theorem z_o14 {x : Int32} (h : x < 0 ∨ (¬ x < 0 ∧ nI 11 ≤ x)) : x < nI 1 ∨ (¬ x < nI 1 ∧ nI 4 < x) := by
  rcases h with h | ⟨h0, h1⟩
  · have h2 := Int32.lt_iff_toInt_lt.mp h
    exact Or.inl (Int32.lt_iff_toInt_lt.mpr (by rw [show (nI 1).toInt = 1 by decide]; rw [show (0 : Int32).toInt = 0 by decide] at h2; omega))
  · have h2 := Int32.le_iff_toInt_le.mp h1
    rw [show (nI 11).toInt = 11 by decide] at h2
    exact Or.inr ⟨fun q => by have h3 := Int32.lt_iff_toInt_lt.mp q; rw [show (nI 1).toInt = 1 by decide] at h3; omega, Int32.lt_iff_toInt_lt.mpr (by rw [show (nI 4).toInt = 4 by decide]; omega)⟩
theorem z_ob {x : Int32} {n j : Nat} (hn : n < 100000) (h : x < 0 ∨ (¬ x < 0 ∧ nI n ≤ x)) (hj : j < n) : ¬ x = nI j := by
  intro e
  subst e
  rcases h with h | ⟨-, h⟩
  · exact nI_pos (by omega) h
  · exact absurd ((nI_leI (by omega) (by omega)).mp h) (by omega)
