/-! the model's row as one value -/
def zSeg (lo n : Nat) (f r : Nat → Int32) : Nat → Int32 := fun i => if lo ≤ i ∧ i < lo + n then f (i - lo) else r i
theorem zSeg_at {lo n a : Nat} {f r : Nat → Int32} (h : a < n) : zSeg lo n f r (lo + a) = f a := by
  unfold zSeg
  rw [if_pos (by omega), show lo + a - lo = a by omega]
theorem zSeg_no {lo n i : Nat} {f r : Nat → Int32} (h : i < lo ∨ lo + n ≤ i) : zSeg lo n f r i = r i := by
  unfold zSeg
  rw [if_neg (by omega)]
theorem zSeg_upd {lo n a : Nat} {f r : Nat → Int32} {v : Int32} (h : a < n) : upd (zSeg lo n f r) (lo + a) v = zSeg lo n (upd f a v) r := by
  funext i
  simp only [upd, zSeg]
  by_cases e : i = lo + a
  · rw [if_pos e, if_pos (by omega), if_pos (by omega)]
  · rw [if_neg e]
    by_cases q : lo ≤ i ∧ i < lo + n
    · rw [if_pos q, if_pos q, if_neg (by omega)]
    · rw [if_neg q, if_neg q]
theorem zSeg_updN {lo n i : Nat} {f r : Nat → Int32} {v : Int32} (h : i < lo ∨ lo + n ≤ i) : upd (zSeg lo n f r) i v = zSeg lo n f (upd r i v) := by
  funext j
  simp only [upd, zSeg]
  by_cases e : j = i
  · rw [if_pos e, if_neg (by omega), if_pos e]
  · rw [if_neg e]
    by_cases q : lo ≤ j ∧ j < lo + n
    · rw [if_pos q, if_pos q]
    · rw [if_neg q, if_neg q, if_neg e]
abbrev zMs : Type := (Nat → Nat) × (Nat → Nat) × (Nat → Int32) × Nat × Nat × Bool × (Nat → Int32) × (Nat → Int32) × (Nat → Int32) × (Nat → Int32) × (Nat → Int32) × (Nat → Int32) × (Nat → Int32)
def nU (s : zMs) : Nat → Nat := s.1
def nS (s : zMs) : Nat → Nat := s.2.1
def nN (s : zMs) : Nat → Int32 := s.2.2.1
def nX (s : zMs) : Nat := s.2.2.2.1
def nM (s : zMs) : Nat := s.2.2.2.2.1
def nT (s : zMs) : Bool := s.2.2.2.2.2.1
def nB (s : zMs) : Nat → Int32 := s.2.2.2.2.2.2.1
def nK (s : zMs) : Nat → Int32 := s.2.2.2.2.2.2.2.1
def nY (s : zMs) : Nat → Int32 := s.2.2.2.2.2.2.2.2.1
def nZ (s : zMs) : Nat → Int32 := s.2.2.2.2.2.2.2.2.2.1
def nR (s : zMs) : Nat → Int32 := s.2.2.2.2.2.2.2.2.2.2.1
def nC (s : zMs) : Nat → Int32 := s.2.2.2.2.2.2.2.2.2.2.2.1
def nV (s : zMs) : Nat → Int32 := s.2.2.2.2.2.2.2.2.2.2.2.2
/-- the row's content: its parts, in their order -/
def zMr (s : zMs) : Nat → Int32 := zSeg 0 2 (fun j => nI (nU s j)) (zSeg 2 24 (fun j => nI (nS s j)) (zSeg 26 24 (nN s) (zSeg 50 1 (fun _ => nI (nX s)) (zSeg 51 1 (fun _ => nI (nM s)) (zSeg 52 1 (fun _ => zb (nT s)) (zSeg 53 96 (nB s) (zSeg 149 60 (nK s) (zSeg 209 60 (nY s) (zSeg 269 60 (nZ s) (zSeg 329 60 (nR s) (zSeg 389 60 (nC s) (zSeg 449 60 (nV s) (fun _ => 0)))))))))))))
theorem zMr_U (s : zMs) {j : Nat} (h : j < 2) : zMr s (0 + j) = nI (nU s j) := by rw [zMr, zSeg_at h]
theorem zMr_S (s : zMs) {j : Nat} (h : j < 24) : zMr s (2 + j) = nI (nS s j) := by rw [zMr, zSeg_no (by omega), zSeg_at h]
theorem zMr_N (s : zMs) {j : Nat} (h : j < 24) : zMr s (26 + j) = nN s j := by rw [zMr, zSeg_no (by omega), zSeg_no (by omega), zSeg_at h]
theorem zMr_X (s : zMs) : zMr s 50 = nI (nX s) := by rw [zMr, zSeg_no (by omega), zSeg_no (by omega), zSeg_no (by omega), show (50 : Nat) = 50 + 0 from rfl, zSeg_at (by decide)]
theorem zMr_M (s : zMs) : zMr s 51 = nI (nM s) := by rw [zMr, zSeg_no (by omega), zSeg_no (by omega), zSeg_no (by omega), zSeg_no (by omega), show (51 : Nat) = 51 + 0 from rfl, zSeg_at (by decide)]
theorem zMr_T (s : zMs) : zMr s 52 = zb (nT s) := by rw [zMr, zSeg_no (by omega), zSeg_no (by omega), zSeg_no (by omega), zSeg_no (by omega), zSeg_no (by omega), show (52 : Nat) = 52 + 0 from rfl, zSeg_at (by decide)]
theorem zMr_B (s : zMs) {j : Nat} (h : j < 96) : zMr s (53 + j) = nB s j := by rw [zMr, zSeg_no (by omega), zSeg_no (by omega), zSeg_no (by omega), zSeg_no (by omega), zSeg_no (by omega), zSeg_no (by omega), zSeg_at h]
theorem zMr_K (s : zMs) {j : Nat} (h : j < 60) : zMr s (149 + j) = nK s j := by rw [zMr, zSeg_no (by omega), zSeg_no (by omega), zSeg_no (by omega), zSeg_no (by omega), zSeg_no (by omega), zSeg_no (by omega), zSeg_no (by omega), zSeg_at h]
theorem zMr_Y (s : zMs) {j : Nat} (h : j < 60) : zMr s (209 + j) = nY s j := by rw [zMr, zSeg_no (by omega), zSeg_no (by omega), zSeg_no (by omega), zSeg_no (by omega), zSeg_no (by omega), zSeg_no (by omega), zSeg_no (by omega), zSeg_no (by omega), zSeg_at h]
theorem zMr_Z (s : zMs) {j : Nat} (h : j < 60) : zMr s (269 + j) = nZ s j := by rw [zMr, zSeg_no (by omega), zSeg_no (by omega), zSeg_no (by omega), zSeg_no (by omega), zSeg_no (by omega), zSeg_no (by omega), zSeg_no (by omega), zSeg_no (by omega), zSeg_no (by omega), zSeg_at h]
theorem zMr_R (s : zMs) {j : Nat} (h : j < 60) : zMr s (329 + j) = nR s j := by rw [zMr, zSeg_no (by omega), zSeg_no (by omega), zSeg_no (by omega), zSeg_no (by omega), zSeg_no (by omega), zSeg_no (by omega), zSeg_no (by omega), zSeg_no (by omega), zSeg_no (by omega), zSeg_no (by omega), zSeg_at h]
theorem zMr_C (s : zMs) {j : Nat} (h : j < 60) : zMr s (389 + j) = nC s j := by rw [zMr, zSeg_no (by omega), zSeg_no (by omega), zSeg_no (by omega), zSeg_no (by omega), zSeg_no (by omega), zSeg_no (by omega), zSeg_no (by omega), zSeg_no (by omega), zSeg_no (by omega), zSeg_no (by omega), zSeg_no (by omega), zSeg_at h]
theorem zMr_V (s : zMs) {j : Nat} (h : j < 60) : zMr s (449 + j) = nV s j := by rw [zMr, zSeg_no (by omega), zSeg_no (by omega), zSeg_no (by omega), zSeg_no (by omega), zSeg_no (by omega), zSeg_no (by omega), zSeg_no (by omega), zSeg_no (by omega), zSeg_no (by omega), zSeg_no (by omega), zSeg_no (by omega), zSeg_no (by omega), zSeg_at h]
theorem zMr_big (s : zMs) {j : Nat} (h : 509 ≤ j) : zMr s j = 0 := by rw [zMr, zSeg_no (by omega), zSeg_no (by omega), zSeg_no (by omega), zSeg_no (by omega), zSeg_no (by omega), zSeg_no (by omega), zSeg_no (by omega), zSeg_no (by omega), zSeg_no (by omega), zSeg_no (by omega), zSeg_no (by omega), zSeg_no (by omega), zSeg_no (by omega)]
def mwU (s : zMs) (f : Nat → Nat) : zMs := (f, nS s, nN s, nX s, nM s, nT s, nB s, nK s, nY s, nZ s, nR s, nC s, nV s)
def mwS (s : zMs) (f : Nat → Nat) : zMs := (nU s, f, nN s, nX s, nM s, nT s, nB s, nK s, nY s, nZ s, nR s, nC s, nV s)
def mwN (s : zMs) (f : Nat → Int32) : zMs := (nU s, nS s, f, nX s, nM s, nT s, nB s, nK s, nY s, nZ s, nR s, nC s, nV s)
def mwX (s : zMs) (f : Nat) : zMs := (nU s, nS s, nN s, f, nM s, nT s, nB s, nK s, nY s, nZ s, nR s, nC s, nV s)
def mwM (s : zMs) (f : Nat) : zMs := (nU s, nS s, nN s, nX s, f, nT s, nB s, nK s, nY s, nZ s, nR s, nC s, nV s)
def mwT (s : zMs) (f : Bool) : zMs := (nU s, nS s, nN s, nX s, nM s, f, nB s, nK s, nY s, nZ s, nR s, nC s, nV s)
def mwB (s : zMs) (f : Nat → Int32) : zMs := (nU s, nS s, nN s, nX s, nM s, nT s, f, nK s, nY s, nZ s, nR s, nC s, nV s)
def mwK (s : zMs) (f : Nat → Int32) : zMs := (nU s, nS s, nN s, nX s, nM s, nT s, nB s, f, nY s, nZ s, nR s, nC s, nV s)
def mwY (s : zMs) (f : Nat → Int32) : zMs := (nU s, nS s, nN s, nX s, nM s, nT s, nB s, nK s, f, nZ s, nR s, nC s, nV s)
def mwZ (s : zMs) (f : Nat → Int32) : zMs := (nU s, nS s, nN s, nX s, nM s, nT s, nB s, nK s, nY s, f, nR s, nC s, nV s)
def mwR (s : zMs) (f : Nat → Int32) : zMs := (nU s, nS s, nN s, nX s, nM s, nT s, nB s, nK s, nY s, nZ s, f, nC s, nV s)
def mwC (s : zMs) (f : Nat → Int32) : zMs := (nU s, nS s, nN s, nX s, nM s, nT s, nB s, nK s, nY s, nZ s, nR s, f, nV s)
def mwV (s : zMs) (f : Nat → Int32) : zMs := (nU s, nS s, nN s, nX s, nM s, nT s, nB s, nK s, nY s, nZ s, nR s, nC s, f)
theorem zMw_U (s : zMs) {j v : Nat} (h : j < 2) : upd (zMr s) (0 + j) (nI v) = zMr (mwU s (zUpN (nU s) j v)) := by
  rw [zMr, zSeg_upd h, zUpN_e]
  rfl
theorem zMw_S (s : zMs) {j v : Nat} (h : j < 24) : upd (zMr s) (2 + j) (nI v) = zMr (mwS s (zUpN (nS s) j v)) := by
  rw [zMr, zSeg_updN (by omega), zSeg_upd h, zUpN_e]
  rfl
theorem zMw_N (s : zMs) {j : Nat} {v : Int32} (h : j < 24) : upd (zMr s) (26 + j) v = zMr (mwN s (upd (nN s) j v)) := by
  rw [zMr, zSeg_updN (by omega), zSeg_updN (by omega), zSeg_upd h]
  rfl
theorem zMw_X (s : zMs) {v : Nat} : upd (zMr s) 50 (nI v) = zMr (mwX s v) := by
  rw [show (50 : Nat) = 50 + 0 from rfl, zMr, zSeg_updN (by omega), zSeg_updN (by omega), zSeg_updN (by omega), zSeg_upd (by decide)]
  rw [show ∀ r : Nat → Int32, ∀ f : Nat → Int32, zSeg 50 1 (upd f 0 (nI v)) r = zSeg 50 1 (fun _ => nI v) r from fun r f => by funext i; simp only [zSeg, upd]; by_cases e : 50 ≤ i ∧ i < 50 + 1; rw [if_pos e, if_pos e, if_pos (by omega)]; rw [if_neg e, if_neg e]]
  rfl
theorem zMw_M (s : zMs) {v : Nat} : upd (zMr s) 51 (nI v) = zMr (mwM s v) := by
  rw [show (51 : Nat) = 51 + 0 from rfl, zMr, zSeg_updN (by omega), zSeg_updN (by omega), zSeg_updN (by omega), zSeg_updN (by omega), zSeg_upd (by decide)]
  rw [show ∀ r : Nat → Int32, ∀ f : Nat → Int32, zSeg 51 1 (upd f 0 (nI v)) r = zSeg 51 1 (fun _ => nI v) r from fun r f => by funext i; simp only [zSeg, upd]; by_cases e : 51 ≤ i ∧ i < 51 + 1; rw [if_pos e, if_pos e, if_pos (by omega)]; rw [if_neg e, if_neg e]]
  rfl
theorem zMw_T (s : zMs) {v : Bool} : upd (zMr s) 52 (zb v) = zMr (mwT s v) := by
  rw [show (52 : Nat) = 52 + 0 from rfl, zMr, zSeg_updN (by omega), zSeg_updN (by omega), zSeg_updN (by omega), zSeg_updN (by omega), zSeg_updN (by omega), zSeg_upd (by decide)]
  rw [show ∀ r : Nat → Int32, ∀ f : Nat → Int32, zSeg 52 1 (upd f 0 (zb v)) r = zSeg 52 1 (fun _ => zb v) r from fun r f => by funext i; simp only [zSeg, upd]; by_cases e : 52 ≤ i ∧ i < 52 + 1; rw [if_pos e, if_pos e, if_pos (by omega)]; rw [if_neg e, if_neg e]]
  rfl
theorem zMw_B (s : zMs) {j : Nat} {v : Int32} (h : j < 96) : upd (zMr s) (53 + j) v = zMr (mwB s (upd (nB s) j v)) := by
  rw [zMr, zSeg_updN (by omega), zSeg_updN (by omega), zSeg_updN (by omega), zSeg_updN (by omega), zSeg_updN (by omega), zSeg_updN (by omega), zSeg_upd h]
  rfl
theorem zMw_K (s : zMs) {j : Nat} {v : Int32} (h : j < 60) : upd (zMr s) (149 + j) v = zMr (mwK s (upd (nK s) j v)) := by
  rw [zMr, zSeg_updN (by omega), zSeg_updN (by omega), zSeg_updN (by omega), zSeg_updN (by omega), zSeg_updN (by omega), zSeg_updN (by omega), zSeg_updN (by omega), zSeg_upd h]
  rfl
theorem zMw_Y (s : zMs) {j : Nat} {v : Int32} (h : j < 60) : upd (zMr s) (209 + j) v = zMr (mwY s (upd (nY s) j v)) := by
  rw [zMr, zSeg_updN (by omega), zSeg_updN (by omega), zSeg_updN (by omega), zSeg_updN (by omega), zSeg_updN (by omega), zSeg_updN (by omega), zSeg_updN (by omega), zSeg_updN (by omega), zSeg_upd h]
  rfl
theorem zMw_Z (s : zMs) {j : Nat} {v : Int32} (h : j < 60) : upd (zMr s) (269 + j) v = zMr (mwZ s (upd (nZ s) j v)) := by
  rw [zMr, zSeg_updN (by omega), zSeg_updN (by omega), zSeg_updN (by omega), zSeg_updN (by omega), zSeg_updN (by omega), zSeg_updN (by omega), zSeg_updN (by omega), zSeg_updN (by omega), zSeg_updN (by omega), zSeg_upd h]
  rfl
theorem zMw_R (s : zMs) {j : Nat} {v : Int32} (h : j < 60) : upd (zMr s) (329 + j) v = zMr (mwR s (upd (nR s) j v)) := by
  rw [zMr, zSeg_updN (by omega), zSeg_updN (by omega), zSeg_updN (by omega), zSeg_updN (by omega), zSeg_updN (by omega), zSeg_updN (by omega), zSeg_updN (by omega), zSeg_updN (by omega), zSeg_updN (by omega), zSeg_updN (by omega), zSeg_upd h]
  rfl
theorem zMw_C (s : zMs) {j : Nat} {v : Int32} (h : j < 60) : upd (zMr s) (389 + j) v = zMr (mwC s (upd (nC s) j v)) := by
  rw [zMr, zSeg_updN (by omega), zSeg_updN (by omega), zSeg_updN (by omega), zSeg_updN (by omega), zSeg_updN (by omega), zSeg_updN (by omega), zSeg_updN (by omega), zSeg_updN (by omega), zSeg_updN (by omega), zSeg_updN (by omega), zSeg_updN (by omega), zSeg_upd h]
  rfl
theorem zMw_V (s : zMs) {j : Nat} {v : Int32} (h : j < 60) : upd (zMr s) (449 + j) v = zMr (mwV s (upd (nV s) j v)) := by
  rw [zMr, zSeg_updN (by omega), zSeg_updN (by omega), zSeg_updN (by omega), zSeg_updN (by omega), zSeg_updN (by omega), zSeg_updN (by omega), zSeg_updN (by omega), zSeg_updN (by omega), zSeg_updN (by omega), zSeg_updN (by omega), zSeg_updN (by omega), zSeg_updN (by omega), zSeg_upd h]
  rfl
/-! the model's lines and changes -/
def mS (s : zMs) (ax p : Nat) : Nat := nS s (12 * ax + p)
def mN (s : zMs) (ax p : Nat) : Int32 := nN s (12 * ax + mS s ax p)
def mLn (s : zMs) (kd : Nat) (nm : Int32) : Nat → Bool := fun x => decide (nZ s x = 0) && (decide (nK s x = nI kd) && decide ((if kd < 2 then nR s x else nC s x) = nm))
def mIn (s : zMs) (ax p : Nat) : Int32 := zf (mLn s (2 * ax) (mN s ax p)) (nM s)
def mRm (s : zMs) (ax p : Nat) : Int32 := zf (mLn s (2 * ax + 1) (mN s ax p)) (nM s)
def mNw (s : zMs) (ax p : Nat) : Bool := !decide (mIn s ax p < 0)
def mDm (s : zMs) (ax p : Nat) : Bool := !decide (mRm s ax p < 0)
def mSt (s : zMs) (r c : Int32) : Nat → Bool := fun x => decide (nZ s x = 0) && (decide (nK s x = nI 4) && (decide (nR s x = r) && decide (nC s x = c)))
def mPE (s : zMs) (ax : Nat) (nm : Int32) : Nat → Bool := fun p => decide (mN s ax p = nm)
def mPl (s : zMs) (ax : Nat) (nm : Int32) : Int32 := zf (mPE s ax nm) (nU s ax)
def mB (s : zMs) (i j : Nat) : Int32 := nB s (8 * mS s 0 i + mS s 1 j)
def mVB (s : zMs) (n : Nat) (r c : Int32) (i j : Nat) : Int32 := match zgo (mSt s r c) n with
  | none => mB s i j
  | some x => nV s x
def mAt (s : zMs) (x : Nat) (ax nm : Int32) : Bool := (decide (nK s x = nI 4) || decide (nK s x / nI 2 = ax)) && decide ((if ax = 0 then nR s x else nC s x) = nm)
def mMk (f : Nat → Int32) (p : Nat → Bool) (v : Int32) (k : Nat) : Nat → Int32 := fun i => if i < k ∧ p i = true then v else f i
theorem mMk_0 (f : Nat → Int32) (p : Nat → Bool) (v : Int32) : mMk f p v 0 = f := by funext i; simp [mMk]
theorem mMk_ge {f : Nat → Int32} {p : Nat → Bool} {v : Int32} {k i : Nat} (h : k ≤ i) : mMk f p v k i = f i := by
  simp only [mMk]
  rw [if_neg (fun q => by omega)]
theorem mMk_n {f : Nat → Int32} {p : Nat → Bool} {v : Int32} {k : Nat} (h : p k = false) : mMk f p v (k + 1) = mMk f p v k := by
  funext i
  simp only [mMk]
  by_cases hk : i = k
  · rw [hk, h]; simp
  · simp only [show (i < k + 1) ↔ (i < k) from ⟨fun q => by omega, fun q => by omega⟩]
theorem mMk_y {f : Nat → Int32} {p : Nat → Bool} {v : Int32} {k : Nat} (h : p k = true) : mMk f p v (k + 1) = upd (mMk f p v k) k v := by
  funext i
  simp only [mMk, upd]
  by_cases hk : i = k
  · rw [if_pos hk, if_pos ⟨by omega, by rw [hk]; exact h⟩]
  · rw [if_neg hk]
    simp only [show (i < k + 1) ↔ (i < k) from ⟨fun q => by omega, fun q => by omega⟩]
theorem upd_id (f : Nat → Int32) (k : Nat) : upd f k (f k) = f := by
  funext i
  simp only [upd]
  split
  · rename_i h; rw [h]
  · rfl
def mDp (s : zMs) (ax nm : Int32) (b : Bool) : Nat → Bool := fun x => decide (nZ s x = 0) && (mAt s x ax nm && (!b || decide (nK s x = nI 4)))
def mDs (s : zMs) (ax nm : Int32) (b : Bool) : zMs := mwZ s (mMk (nZ s) (mDp s ax nm b) (nI 3) (nM s))
def mrs (s : zMs) (x y : Nat) : Bool := if x = y ∨ ¬ nZ s x = 0 ∨ ¬ nZ s y = 0 then false
  else if nK s y = nI 4 then decide (nK s x = nI 4) && (decide (y < x) && mSt s (nR s x) (nC s x) y)
  else if nK s y - nK s y / nI 2 * nI 2 = nI 1 then false
  else (decide (nK s x = nI 4) || decide (nK s x = nK s y + nI 1)) && mAt s x (nK s y / nI 2) (if nK s y = 0 then nR s y else nC s y)
def mP0 (s : zMs) : Nat → Bool := fun x => decide (nZ s x = 0)
/-- the bounds that the model's row keeps -/
def okM (s : zMs) : Prop := nU s 0 ≤ 12 ∧ nU s 1 ≤ 8 ∧ nM s ≤ 60 ∧ (∀ p, nS s p < 12) ∧ (∀ p, nS s (12 + p) < 8) ∧ (∀ x, x < nM s → nK s x = nI 0 ∨ nK s x = nI 1 ∨ nK s x = nI 2 ∨ nK s x = nI 3 ∨ nK s x = nI 4)
theorem okM_r {s : zMs} (h : okM s) (p : Nat) : mS s 0 p < 12 := by have := h.2.2.2.1 (12 * 0 + p); exact this
theorem okM_c {s : zMs} (h : okM s) (p : Nat) : mS s 1 p < 8 := h.2.2.2.2.1 p
theorem z_m1lt {M : Nat} {x : Int32} (hM : M < 100000) (h : nI M ≤ x) : nI M + (-1) < x := by
  have h2 := Int32.le_iff_toInt_le.mp h
  rw [nI_toInt (by omega)] at h2
  rw [Int32.lt_iff_toInt_lt]
  cases M with
  | zero => rw [show (nI 0 + (-1) : Int32).toInt = -1 by decide]; omega
  | succ k => rw [show nI (k + 1) + (-1) = nI k from pk_m1 k, nI_toInt (by omega)]; omega
theorem z_lt1 {n : Nat} {x : Int32} (hn : n < 100000) (h : x < 0 ∨ (¬ x < 0 ∧ nI (n + 1) ≤ x)) : x < 0 ∨ (¬ x < 0 ∧ nI n < x) := by
  rcases h with h | ⟨h1, h2⟩
  · exact Or.inl h
  · refine Or.inr ⟨h1, ?_⟩
    have h3 := Int32.le_iff_toInt_le.mp h2
    rw [nI_toInt (by omega)] at h3
    rw [Int32.lt_iff_toInt_lt, nI_toInt (by omega)]
    omega
