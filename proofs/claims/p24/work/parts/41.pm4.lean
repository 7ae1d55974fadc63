/-! the model: what inserting, removing, setting answer, and the row behind them -/
noncomputable def mInsR (s : zMs) (au pl : Int32) : Int32 × zMs :=
  if pl < 0 ∨ nI (nU s 0) < pl then (-2, s)
  else if 12 ≤ nU s 0 ∨ (nT s = true ∧ 60 ≤ nM s) then (-3, s)
  else if nT s = true then (nI (nM s), mNew (mPut s 0 pl.toNatClampNeg) (nI 0) au (nI (nX s)) (-5) (nI 0))
  else (nI 1000, mPut s 0 pl.toNatClampNeg)
noncomputable def mInsC (s : zMs) (au pl : Int32) : Int32 × zMs :=
  if pl < 0 ∨ nI (nU s 1) < pl then (-2, s)
  else if 8 ≤ nU s 1 ∨ (nT s = true ∧ 60 ≤ nM s) then (-3, s)
  else if nT s = true then (nI (nM s), mNew (mPut s 1 pl.toNatClampNeg) (nI 2) au (-5) (nI (nX s)) (nI 0))
  else (nI 1000, mPut s 1 pl.toNatClampNeg)
noncomputable def mIns (s : zMs) (au ax pl : Int32) : Int32 × zMs :=
  if au < 0 ∨ nI 4 ≤ au then (-1, s) else if ax = 0 then mInsR s au pl else if ax = nI 1 then mInsC s au pl else (-1, s)
noncomputable def mRemRj (s : zMs) (au : Int32) (j : Nat) : Int32 × zMs :=
  if nT s = false then (nI 1000, mTk (mDs s (nI 0) (mN (nS s) (nN s) 0 j) false) 0 j)
  else if mDm (nZ s) (nK s) (nR s) (nC s) (nS s) (nN s) (nM s) 0 j = true then (-4, s)
  else if zix (mLn (nZ s) (nK s) (nR s) (nC s) 0 (mN (nS s) (nN s) 0 j)) (nM s) < nM s ∧ nY s (zix (mLn (nZ s) (nK s) (nR s) (nC s) 0 (mN (nS s) (nN s) 0 j)) (nM s)) = au then (nI (zix (mLn (nZ s) (nK s) (nR s) (nC s) 0 (mN (nS s) (nN s) 0 j)) (nM s)), mTk (mDs s (nI 0) (mN (nS s) (nN s) 0 j) false) 0 j)
  else if 60 ≤ nM s then (-3, s) else (nI (nM s), mNew s (nI 1) au (mN (nS s) (nN s) 0 j) (-5) (nI 0))
noncomputable def mRemCj (s : zMs) (au : Int32) (j : Nat) : Int32 × zMs :=
  if nT s = false then (nI 1000, mTk (mDs s (nI 1) (mN (nS s) (nN s) 1 j) false) 1 j)
  else if mDm (nZ s) (nK s) (nR s) (nC s) (nS s) (nN s) (nM s) 1 j = true then (-4, s)
  else if zix (mLn (nZ s) (nK s) (nR s) (nC s) 2 (mN (nS s) (nN s) 1 j)) (nM s) < nM s ∧ nY s (zix (mLn (nZ s) (nK s) (nR s) (nC s) 2 (mN (nS s) (nN s) 1 j)) (nM s)) = au then (nI (zix (mLn (nZ s) (nK s) (nR s) (nC s) 2 (mN (nS s) (nN s) 1 j)) (nM s)), mTk (mDs s (nI 1) (mN (nS s) (nN s) 1 j) false) 1 j)
  else if 60 ≤ nM s then (-3, s) else (nI (nM s), mNew s (nI 3) au (-5) (mN (nS s) (nN s) 1 j) (nI 0))
noncomputable def mRem (s : zMs) (au ax pl : Int32) : Int32 × zMs :=
  if au < 0 ∨ nI 4 ≤ au then (-1, s)
  else if ax = 0 then (if pl < 0 ∨ nI (nU s 0) ≤ pl then (-1, s) else mRemRj s au pl.toNatClampNeg)
  else if ax = nI 1 then (if pl < 0 ∨ nI (nU s 1) ≤ pl then (-1, s) else mRemCj s au pl.toNatClampNeg)
  else (-1, s)
noncomputable def mSetN (s : zMs) (au : Int32) (i j : Nat) (v : Int32) : Int32 × zMs := if 60 ≤ nM s then (-3, s) else (nI (nM s), mNew s (nI 4) au (mN (nS s) (nN s) 0 i) (mN (nS s) (nN s) 1 j) v)
noncomputable def mSetij (s : zMs) (au : Int32) (i j : Nat) (v : Int32) : Int32 × zMs :=
  if v < 0 ∨ nI 9999 < v then (-2, s)
  else if mDm (nZ s) (nK s) (nR s) (nC s) (nS s) (nN s) (nM s) 0 i = true ∨ mDm (nZ s) (nK s) (nR s) (nC s) (nS s) (nN s) (nM s) 1 j = true ∨ mVB (nZ s) (nK s) (nR s) (nC s) (nB s) (nS s) (nV s) (nM s) (mN (nS s) (nN s) 0 i) (mN (nS s) (nN s) 1 j) i j = v then (-4, s)
  else if nT s = false then (nI 1000, mBs (mwZ s (mMk (nZ s) (mSt (nZ s) (nK s) (nR s) (nC s) (mN (nS s) (nN s) 0 i) (mN (nS s) (nN s) 1 j)) (nI 3) (nM s))) i j v)
  else match zgo (mSt (nZ s) (nK s) (nR s) (nC s) (mN (nS s) (nN s) 0 i) (mN (nS s) (nN s) 1 j)) (nM s) with
    | none => mSetN s au i j v
    | some k => if nY s k = au then (if mVB (nZ s) (nK s) (nR s) (nC s) (nB s) (nS s) (nV s) k (mN (nS s) (nN s) 0 i) (mN (nS s) (nN s) 1 j) i j = v then (nI k, mwV (mwZ s (upd (nZ s) k (nI 3))) (upd (nV s) k v)) else (nI k, mwV (mwZ s (upd (nZ s) k (nI 0))) (upd (nV s) k v))) else mSetN s au i j v
noncomputable def mSet (s : zMs) (au r c v : Int32) : Int32 × zMs :=
  if au < 0 ∨ nI 4 ≤ au then (-1, s) else if r < 0 ∨ nI (nU s 0) ≤ r then (-1, s) else if c < 0 ∨ nI (nU s 1) ≤ c then (-1, s)
  else mSetij s au r.toNatClampNeg c.toNatClampNeg v
/-! the model's history: four rows, one behind another -/
noncomputable def zHi (Q : Nat → zMs) : Nat → Int32 := fun i => zMr (Q (i / 512)) (i % 512)
def mQs (Q : Nat → zMs) (k : Nat) (s : zMs) : Nat → zMs := fun i => if i = k then s else Q i
def mQd (Q : Nat → zMs) : Nat → zMs := fun i => if i < 3 then Q (i + 1) else Q i
/-- the first k places of a row (of the history) copied -/
def mCp (f g : Nat → Int32) (b k : Nat) : Nat → Int32 := fun i => if b ≤ i ∧ i < b + k then f (i - b) else g i
theorem mCp_0 (f g : Nat → Int32) (b : Nat) : mCp f g b 0 = g := by
  funext i
  simp only [mCp]
  rw [if_neg (by omega)]
theorem mCp_s {f g : Nat → Int32} {b k : Nat} : upd (mCp f g b k) (b + k) (f k) = mCp f g b (k + 1) := by
  funext i
  simp only [mCp, upd]
  by_cases h : i = b + k
  · rw [if_pos h, if_pos (by omega), h, Nat.add_sub_cancel_left]
  · rw [if_neg h]
    by_cases q : b ≤ i ∧ i < b + k
    · rw [if_pos q, if_pos (by omega)]
    · rw [if_neg q, if_neg (by omega)]
theorem mCp_s0 {f g : Nat → Int32} {k : Nat} : upd (mCp f g 0 k) k (f k) = mCp f g 0 (k + 1) := by
  have h := mCp_s (f := f) (g := g) (b := 0) (k := k)
  rwa [Nat.zero_add] at h
theorem mCp_row (s t : zMs) : mCp (zMr s) (zMr t) 0 512 = zMr s := by
  funext i
  simp only [mCp]
  by_cases h : i < 512
  · rw [if_pos (by omega), Nat.sub_zero]
  · rw [if_neg (by omega), zMr_big t (by omega), zMr_big s (by omega)]
theorem mCp_hist (s : zMs) (Q : Nat → zMs) (k : Nat) : mCp (zMr s) (zHi Q) (512 * k) 512 = zHi (mQs Q k s) := by
  funext i
  simp only [mCp, zHi, mQs]
  by_cases h : i / 512 = k
  · rw [if_pos (by omega), if_pos h, show i - 512 * k = i % 512 by omega]
  · rw [if_neg (by omega), if_neg h]
theorem zHi_at (Q : Nat → zMs) {k j : Nat} (h : j < 512) : zHi Q (512 * k + j) = zMr (Q k) j := by
  simp only [zHi]
  rw [show (512 * k + j) / 512 = k by omega, show (512 * k + j) % 512 = j by omega]
noncomputable def mSh (Q : Nat → zMs) (k : Nat) : Nat → Int32 := fun i => if i < k then zHi Q (i + 512) else zHi Q i
theorem mSh_0 (Q : Nat → zMs) : mSh Q 0 = zHi Q := by
  funext i
  simp only [mSh]
  rw [if_neg (by omega)]
theorem mSh_s {Q : Nat → zMs} {k : Nat} : upd (mSh Q k) k (mSh Q k (k + 512)) = mSh Q (k + 1) := by
  funext i
  simp only [mSh, upd]
  rw [if_neg (c := k + 512 < k) (by omega)]
  by_cases h : i = k
  · rw [if_pos h, if_pos (by omega), h]
  · rw [if_neg h]
    by_cases q : i < k
    · rw [if_pos q, if_pos (by omega)]
    · rw [if_neg q, if_neg (by omega)]
theorem mSh_d (Q : Nat → zMs) : mSh Q 1536 = zHi (mQd Q) := by
  funext i
  simp only [mSh, zHi, mQd]
  by_cases h : i < 1536
  · rw [if_pos h, if_pos (by omega), show (i + 512) / 512 = i / 512 + 1 by omega, show (i + 512) % 512 = i % 512 by omega]
  · rw [if_neg h, if_neg (by omega)]
/-- the history behind an act -/
def mHq (x : Int32) (Q : Nat → zMs) (k : Nat) (s : zMs) : Nat → zMs := if x < 0 then Q else if k = 4 then mQs (mQd Q) 3 s else mQs Q k s
def mHk (x : Int32) (k : Nat) : Nat := if x < 0 then k else if k = 4 then 4 else k + 1
