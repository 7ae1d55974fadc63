/-! the model: acts on its row -/
noncomputable def mPut (s : zMs) (ax j : Nat) : zMs := ((zUpN (nU s) ax ((nU s) ax + 1)), (mPuS (nU s) (nS s) ax j), (mPuN (nU s) (nS s) (nN s) (nX s) ax), ((nX s) + 1), (nM s), (nT s), (mClr (nB s) (mCx (mPuS (nU s) (nS s) ax j) ax j) ((nU s) (1 - ax))), (nK s), (nY s), (nZ s), (nR s), (nC s), (nV s))
noncomputable def mTk (s : zMs) (ax j : Nat) : zMs := ((zUpN (nU s) ax ((nU s) ax - 1)), (mClL (nS s) (12 * ax) j ((nU s) ax - 1)), (nN s), (nX s), (nM s), (nT s), (nB s), (nK s), (nY s), (nZ s), (nR s), (nC s), (nV s))
noncomputable def mNew (s : zMs) (kd au r c v : Int32) : zMs := ((nU s), (nS s), (nN s), (nX s), ((nM s) + 1), (nT s), (nB s), (upd (nK s) (nM s) kd), (upd (nY s) (nM s) au), (upd (nZ s) (nM s) (nI 0)), (upd (nR s) (nM s) r), (upd (nC s) (nM s) c), (upd (nV s) (nM s) v))
noncomputable def mDs (s : zMs) (ax nm : Int32) (b : Bool) : zMs := ((nU s), (nS s), (nN s), (nX s), (nM s), (nT s), (nB s), (nK s), (nY s), (mMk (nZ s) (mDp (nZ s) (nK s) (nR s) (nC s) ax nm b) (nI 3) (nM s)), (nR s), (nC s), (nV s))
noncomputable def mA1 (s : zMs) (x : Nat) : zMs := ((nU s), (nS s), (nN s), (nX s), (nM s), (nT s), (nB s), (nK s), (nY s), (upd (nZ s) x (nI 1)), (nR s), (nC s), (nV s))
noncomputable def mR1 (s : zMs) (x : Nat) : zMs := ((nU s), (nS s), (nN s), (nX s), (nM s), (nT s), (nB s), (nK s), (nY s), (upd (mMk (nZ s) (fun y => mrs (nZ s) (nK s) (nR s) (nC s) y x) (nI 2) (nM s)) x (nI 2)), (nR s), (nC s), (nV s))
noncomputable def mBs (s : zMs) (i j : Nat) (v : Int32) : zMs := ((nU s), (nS s), (nN s), (nX s), (nM s), (nT s), (upd (nB s) (8 * mS (nS s) 0 i + mS (nS s) 1 j) v), (nK s), (nY s), (nZ s), (nR s), (nC s), (nV s))
def mwU (s : zMs) (f : Nat → Nat) : zMs := (f, nS s, nN s, nX s, nM s, nT s, nB s, nK s, nY s, nZ s, nR s, nC s, nV s)
def mwS (s : zMs) (f : Nat → Nat) : zMs := (nU s, f, nN s, nX s, nM s, nT s, nB s, nK s, nY s, nZ s, nR s, nC s, nV s)
def mwN (s : zMs) (f : Nat → Int32) : zMs := (nU s, nS s, f, nX s, nM s, nT s, nB s, nK s, nY s, nZ s, nR s, nC s, nV s)
def mwX (s : zMs) (f : Nat) : zMs := (nU s, nS s, nN s, f, nM s, nT s, nB s, nK s, nY s, nZ s, nR s, nC s, nV s)
def mwM (s : zMs) (f : Nat) : zMs := (nU s, nS s, nN s, nX s, f, nT s, nB s, nK s, nY s, nZ s, nR s, nC s, nV s)
def mwT (s : zMs) (f : Bool) : zMs := (nU s, nS s, nN s, nX s, nM s, f, nB s, nK s, nY s, nZ s, nR s, nC s, nV s)
def mwB (s : zMs) (f : Nat → Int32) : zMs := (nU s, nS s, nN s, nX s, nM s, nT s, f, nK s, nY s, nZ s, nR s, nC s, nV s)
def mwK (s : zMs) (f : Nat → Int32) : zMs := (nU s, nS s, nN s, nX s, nM s, nT s, nB s, f, nY s, nZ s, nR s, nC s, nV s)
def mwY (s : zMs) (f : Nat → Int32) : zMs := (nU s, nS s, nN s, nX s, nM s, nT s, nB s, nK s, f, nZ s, nR s, nC s, nV s)
def mwZ (s : zMs) (f : Nat → Int32) : zMs := (nU s, nS s, nN s, nX s, nM s, nT s, nB s, nK s, nY s, f, nR s, nC s, nV s)
def mwR (s : zMs) (f : Nat → Int32) : zMs := (nU s, nS s, nN s, nX s, nM s, nT s, nB s, nK s, nY s, nZ s, f, nC s, nV s)
def mwC (s : zMs) (f : Nat → Int32) : zMs := (nU s, nS s, nN s, nX s, nM s, nT s, nB s, nK s, nY s, nZ s, nR s, f, nV s)
def mwV (s : zMs) (f : Nat → Int32) : zMs := (nU s, nS s, nN s, nX s, nM s, nT s, nB s, nK s, nY s, nZ s, nR s, nC s, f)
def mpx (vS : Nat → Nat) (vN : Nat → Int32) (vU : Nat → Nat) (ax : Nat) (nm : Int32) : Nat := zix (mPE vS vN ax nm) (vU ax)
theorem mPl_x {vS : Nat → Nat} {vN : Nat → Int32} {vU : Nat → Nat} {ax : Nat} {nm : Int32} (hu : vU ax ≤ 12) (h : mpx vS vN vU ax nm < vU ax) : mPl vS vN vU ax nm = nI (mpx vS vN vU ax nm) := zf_ix (by omega) h
theorem mpx_at {vS : Nat → Nat} {vN : Nat → Int32} {vU : Nat → Nat} {ax i : Nat} {nm : Int32} (hu : vU ax ≤ 12) (h : mPl vS vN vU ax nm = nI i) (hi : i < vU ax) : mpx vS vN vU ax nm = i := by
  by_cases q : mpx vS vN vU ax nm < vU ax
  · rw [mPl_x hu q] at h
    exact (nI_eq (by omega) (by omega)).mp h
  · rw [show mPl vS vN vU ax nm = -5 from zf_nix (by omega) q] at h
    exact absurd h.symm (nI_m5 (by omega))
/-- the lines of a change are there -/
def lnX (vK : Nat → Int32) (vR : Nat → Int32) (vC : Nat → Int32) (vS : Nat → Nat) (vN : Nat → Int32) (vU : Nat → Nat) (x : Nat) : Prop := ((vK x = nI 4 ∨ vK x = nI 0 ∨ vK x = nI 1) → mpx vS vN vU 0 (vR x) < vU 0) ∧ ((vK x = nI 4 ∨ vK x = nI 2 ∨ vK x = nI 3) → mpx vS vN vU 1 (vC x) < vU 1)
def mFo (vZ : Nat → Int32) (vY : Nat → Int32) (au : Int32) : Nat → Bool := fun x => decide (vZ x = 0) && (decide (au < 0) || decide (vY x = au))
noncomputable def mAA (s : zMs) (x : Nat) : zMs :=
  if nK s x = nI 4 then mBs (mA1 s x) (mpx (nS s) (nN s) (nU s) 0 (nR s x)) (mpx (nS s) (nN s) (nU s) 1 (nC s x)) (nV s x)
  else if nK s x = nI 1 then mTk (mDs (mA1 s x) (nI 0) (nR s x) true) 0 (mpx (nS s) (nN s) (nU s) 0 (nR s x))
  else if nK s x = nI 3 then mTk (mDs (mA1 s x) (nI 1) (nC s x) true) 1 (mpx (nS s) (nN s) (nU s) 1 (nC s x))
  else mA1 s x
noncomputable def mAL (s : zMs) (x : Nat) : Nat → zMs × Nat
  | 0 => (s, 1)
  | k + 1 => if mrs (nZ (mAL s x k).1) (nK (mAL s x k).1) (nR (mAL s x k).1) (nC (mAL s x k).1) x k = true then (mAA (mAL s x k).1 k, (mAL s x k).2 + 1) else mAL s x k
theorem mAL_y {s : zMs} {x k : Nat} (h : mrs (nZ (mAL s x k).1) (nK (mAL s x k).1) (nR (mAL s x k).1) (nC (mAL s x k).1) x k = true) : mAL s x (k + 1) = (mAA (mAL s x k).1 k, (mAL s x k).2 + 1) := if_pos h
theorem mAL_n {s : zMs} {x k : Nat} (h : mrs (nZ (mAL s x k).1) (nK (mAL s x k).1) (nR (mAL s x k).1) (nC (mAL s x k).1) x k = false) : mAL s x (k + 1) = mAL s x k := if_neg (by rw [h]; decide)
noncomputable def mAW (s : zMs) (x : Nat) : zMs := mAA (mAL s x (nM s)).1 x
noncomputable def mAWn (s : zMs) (x : Nat) : Nat := (mAL s x (nM s)).2
noncomputable def mRW (s : zMs) (x : Nat) : zMs :=
  if nK s x = nI 0 then mTk (mR1 s x) 0 (mpx (nS s) (nN s) (nU s) 0 (nR s x)) else if nK s x = nI 2 then mTk (mR1 s x) 1 (mpx (nS s) (nN s) (nU s) 1 (nC s x)) else mR1 s x
noncomputable def mRWn (s : zMs) (x : Nat) : Nat := zc (fun y => mrs (nZ s) (nK s) (nR s) (nC s) y x) (nM s) + 1
theorem nM_AA (s : zMs) (x : Nat) : nM (mAA s x) = nM s := by
  unfold mAA
  split
  · rfl
  · split
    · rfl
    · split <;> rfl
theorem nM_AL (s : zMs) (x : Nat) : ∀ k, nM (mAL s x k).1 = nM s
  | 0 => rfl
  | k + 1 => by
    simp only [mAL]
    split
    · rw [show nM (mAA (mAL s x k).1 k, (mAL s x k).2 + 1).1 = nM (mAL s x k).1 from nM_AA _ _, nM_AL s x k]
    · exact nM_AL s x k
theorem mAL_le (s : zMs) (x : Nat) : ∀ k, (mAL s x k).2 ≤ k + 1
  | 0 => Nat.le_refl _
  | k + 1 => by
    have := mAL_le s x k
    simp only [mAL]
    split
    · simp only; omega
    · omega
theorem nM_AW (s : zMs) (x : Nat) : nM (mAW s x) = nM s := (nM_AA _ _).trans (nM_AL s x _)
theorem nM_RW (s : zMs) (x : Nat) : nM (mRW s x) = nM s := by
  unfold mRW
  split
  · rfl
  · split <;> rfl
/-- the states of the changes from k on that p holds at are set to v -/
def mMd (f : Nat → Int32) (p : Nat → Bool) (v : Int32) (m k : Nat) : Nat → Int32 := fun i => if k ≤ i ∧ i < m ∧ p i = true then v else f i
theorem mMd_m (f : Nat → Int32) (p : Nat → Bool) (v : Int32) (m : Nat) : mMd f p v m m = f := by
  funext i
  simp only [mMd]
  rw [if_neg (fun q => by omega)]
theorem mMd_0 (f : Nat → Int32) (p : Nat → Bool) (v : Int32) (m : Nat) : mMd f p v m 0 = mMk f p v m := by
  funext i
  simp only [mMd, mMk, Nat.zero_le, true_and]
theorem mMd_lt {f : Nat → Int32} {p : Nat → Bool} {v : Int32} {m k i : Nat} (h : i < k) : mMd f p v m k i = f i := by
  simp only [mMd]
  rw [if_neg (fun q => by omega)]
theorem mMd_np {f : Nat → Int32} {p : Nat → Bool} {v : Int32} {m k i : Nat} (h : p i = false) : mMd f p v m k i = f i := by
  simp only [mMd]
  rw [if_neg (fun q => by rw [h] at q; exact absurd q.2.2 (by decide))]
theorem mMd_n {f : Nat → Int32} {p : Nat → Bool} {v : Int32} {m k : Nat} (h : p k = false) : mMd f p v m (k + 1) = mMd f p v m k := by
  funext i
  simp only [mMd]
  by_cases hk : i = k
  · rw [hk, h]; simp
  · simp only [show (k + 1 ≤ i) ↔ (k ≤ i) from ⟨fun q => by omega, fun q => by omega⟩]
theorem mMd_y {f : Nat → Int32} {p : Nat → Bool} {v : Int32} {m k : Nat} (hm : k < m) (h : p k = true) : upd (mMd f p v m (k + 1)) k v = mMd f p v m k := by
  funext i
  simp only [mMd, upd]
  by_cases hk : i = k
  · rw [if_pos hk, if_pos ⟨by omega, by omega, by rw [hk]; exact h⟩]
  · rw [if_neg hk]
    simp only [show (k + 1 ≤ i) ↔ (k ≤ i) from ⟨fun q => by omega, fun q => by omega⟩]
theorem mrs_self {vZ : Nat → Int32} {vK : Nat → Int32} {vR : Nat → Int32} {vC : Nat → Int32} (x : Nat) : mrs vZ vK vR vC x x = false := if_pos (Or.inl rfl)
theorem mrs_Z {vZ : Nat → Int32} {vK : Nat → Int32} {vR : Nat → Int32} {vC : Nat → Int32} {z : Nat → Int32} {x y : Nat} (hx : z x = vZ x) (hy : z y = vZ y) : mrs z vK vR vC x y = mrs vZ vK vR vC x y := by
  unfold mrs
  rw [hx, hy, show mSt z vK vR vC (vR x) (vC x) y = mSt vZ vK vR vC (vR x) (vC x) y by unfold mSt; rw [hy]]
theorem mrs_Md {vZ : Nat → Int32} {vK : Nat → Int32} {vR : Nat → Int32} {vC : Nat → Int32} {v : Int32} {k x m : Nat} : mrs (mMd (vZ) (fun y => mrs vZ vK vR vC y x) v m (k + 1)) vK vR vC k x = mrs vZ vK vR vC k x := mrs_Z (mMd_lt (by omega)) (mMd_np (mrs_self x))
theorem zc_s {p : Nat → Bool} {k : Nat} : zc p (k + 1) = zc p k + (if p k then 1 else 0) := by
  cases h : p k with
  | true => rw [zc_y h]; rfl
  | false => rw [zc_n h]; rfl
noncomputable def mSL (s : zMs) (au : Int32) (b : Bool) : Nat → zMs × Nat
  | 0 => (s, 0)
  | k + 1 => if mFo (nZ (mSL s au b k).1) (nY (mSL s au b k).1) au k = true then (if b = true then (mAW (mSL s au b k).1 k, (mSL s au b k).2 + mAWn (mSL s au b k).1 k) else (mRW (mSL s au b k).1 k, (mSL s au b k).2 + mRWn (mSL s au b k).1 k)) else mSL s au b k
theorem mSL_n {s : zMs} {au : Int32} {b : Bool} {k : Nat} (h : mFo (nZ (mSL s au b k).1) (nY (mSL s au b k).1) au k = false) : mSL s au b (k + 1) = mSL s au b k := if_neg (by rw [h]; decide)
theorem mSL_a {s : zMs} {au : Int32} {b : Bool} {k : Nat} (h : mFo (nZ (mSL s au b k).1) (nY (mSL s au b k).1) au k = true) (hb : b = true) : mSL s au b (k + 1) = (mAW (mSL s au b k).1 k, (mSL s au b k).2 + mAWn (mSL s au b k).1 k) := (if_pos h).trans (if_pos hb)
theorem mSL_r {s : zMs} {au : Int32} {b : Bool} {k : Nat} (h : mFo (nZ (mSL s au b k).1) (nY (mSL s au b k).1) au k = true) (hb : b = false) : mSL s au b (k + 1) = (mRW (mSL s au b k).1 k, (mSL s au b k).2 + mRWn (mSL s au b k).1 k) := (if_pos h).trans (if_neg (by rw [hb]; decide))
/-- nothing chosen between: the same state -/
theorem mSL_to {s : zMs} {au : Int32} {b : Bool} {k : Nat} : ∀ {m : Nat}, k ≤ m → (∀ j, j < m → mFo (nZ (mSL s au b k).1) (nY (mSL s au b k).1) au j = false) → mSL s au b m = mSL s au b k
  | 0, h, _ => by rw [show k = 0 by omega]
  | m + 1, h, hf => by
    rcases Nat.lt_or_ge m k with q | q
    · rw [show k = m + 1 by omega]
    · have ih := mSL_to (s := s) (au := au) (b := b) q (fun j hj => hf j (by omega))
      rw [mSL_n (by rw [ih]; exact hf m (by omega)), ih]
/-- acceptance never makes a change pending, and leaves the authors -/
theorem mMk_z {f : Nat → Int32} {p : Nat → Bool} {v : Int32} {k i : Nat} (hv : ¬ v = 0) (h : mMk f p v k i = 0) : f i = 0 := by
  simp only [mMk] at h
  split at h
  · exact absurd h hv
  · exact h
theorem upd_z {f : Nat → Int32} {v : Int32} {k i : Nat} (hv : ¬ v = 0) (h : upd f k v i = 0) : f i = 0 ∧ i ≠ k := by
  simp only [upd] at h
  split at h
  · exact absurd h hv
  · rename_i q; exact ⟨h, q⟩
theorem zz1 : ¬ nI 1 = 0 := by decide
theorem zz2 : ¬ nI 2 = 0 := by decide
theorem zz3 : ¬ nI 3 = 0 := by decide
theorem mAA_Z {s : zMs} {x i : Nat} (h : nZ (mAA s x) i = 0) : nZ s i = 0 ∧ i ≠ x := by
  unfold mAA at h
  split at h
  · exact upd_z zz1 h
  · split at h
    · exact upd_z zz1 (mMk_z zz3 h)
    · split at h
      · exact upd_z zz1 (mMk_z zz3 h)
      · exact upd_z zz1 h
theorem mAA_Y (s : zMs) (x : Nat) : nY (mAA s x) = nY s := by
  unfold mAA
  split
  · rfl
  · split
    · rfl
    · split <;> rfl
theorem mAL_Z {s : zMs} {x i : Nat} : ∀ {k : Nat}, nZ (mAL s x k).1 i = 0 → nZ s i = 0
  | 0, h => h
  | k + 1, h => by
    simp only [mAL] at h
    split at h
    · exact mAL_Z (mAA_Z h).1
    · exact mAL_Z h
theorem mAL_Y (s : zMs) (x : Nat) : ∀ k, nY (mAL s x k).1 = nY s
  | 0 => rfl
  | k + 1 => by
    simp only [mAL]
    split
    · exact (mAA_Y _ _).trans (mAL_Y s x k)
    · exact mAL_Y s x k
theorem mAW_Z {s : zMs} {x i : Nat} (h : nZ (mAW s x) i = 0) : nZ s i = 0 ∧ i ≠ x := ⟨mAL_Z (mAA_Z h).1, (mAA_Z h).2⟩
theorem mAW_Y (s : zMs) (x : Nat) : nY (mAW s x) = nY s := (mAA_Y _ _).trans (mAL_Y s x _)
theorem mRW_Z {s : zMs} {x i : Nat} (h : nZ (mRW s x) i = 0) : nZ s i = 0 ∧ i ≠ x := by
  have key : nZ (mR1 s x) i = 0 → nZ s i = 0 ∧ i ≠ x := fun h => ⟨mMk_z zz2 (upd_z zz2 h).1, (upd_z zz2 h).2⟩
  unfold mRW at h
  split at h
  · exact key h
  · split at h
    · exact key h
    · exact key h
theorem mRW_Y (s : zMs) (x : Nat) : nY (mRW s x) = nY s := by
  unfold mRW
  split
  · rfl
  · split <;> rfl
theorem mFo_AW {s : zMs} {au : Int32} {x : Nat} (hf : ∀ j, j < x → mFo (nZ s) (nY s) au j = false) : ∀ j, j < x + 1 → mFo (nZ (mAW s x)) (nY (mAW s x)) au j = false := by
  intro j hj
  unfold mFo
  by_cases h : nZ (mAW s x) j = 0
  · have h2 := mAW_Z h
    have h3 := hf j (by omega)
    unfold mFo at h3
    rw [h2.1] at h3
    rw [mAW_Y, h]
    simpa using h3
  · simp [h]
theorem mFo_RW {s : zMs} {au : Int32} {x : Nat} (hf : ∀ j, j < x → mFo (nZ s) (nY s) au j = false) : ∀ j, j < x + 1 → mFo (nZ (mRW s x)) (nY (mRW s x)) au j = false := by
  intro j hj
  unfold mFo
  by_cases h : nZ (mRW s x) j = 0
  · have h2 := mRW_Z h
    have h3 := hf j (by omega)
    unfold mFo at h3
    rw [h2.1] at h3
    rw [mRW_Y, h]
    simpa using h3
  · simp [h]
theorem zix_ff {p : Nat → Bool} : ∀ {n : Nat}, ∀ j, j < zix p n → p j = false
  | 0, j, h => by simp [zix] at h
  | n + 1, j, h => by
    simp only [zix] at h
    split at h
    · exact zix_ff j h
    · rename_i z
      have hz := zix_le p n
      split at h
      · exact zix_ff (n := n) j (by omega)
      · rename_i z2
        rcases Nat.lt_or_ge j n with q | q
        · exact zix_ff (n := n) j (by omega)
        · rw [show j = n by omega]; simpa using z2
