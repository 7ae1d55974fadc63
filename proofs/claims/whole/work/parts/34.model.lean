/-! the model's row as one value -/
def zSeg (lo n : Nat) (f r : Nat → Int32) : Nat → Int32 := fun i => if lo ≤ i ∧ i < lo + n then f (i - lo) else r i
theorem zSeg_at {lo n a : Nat} {f r : Nat → Int32} (h : a < n) : zSeg lo n f r (lo + a) = f a := by
  unfold zSeg
  rw [if_pos (by omega), show lo + a - lo = a by omega]
theorem zSeg_no {lo n i : Nat} {f r : Nat → Int32} (h : i < lo ∨ lo + n ≤ i) : zSeg lo n f r i = r i := by
  unfold zSeg
  rw [if_neg (by omega)]
theorem zSeg_upd {lo n a : Nat} {f r : Nat → Int32} {v : Int32} (h : a < n) : upd (zSeg lo n f r) (lo + a) v = zSeg lo n (upd f a v) r := by
  funext i
  simp only [upd, zSeg]
  by_cases e : i = lo + a
  · rw [if_pos e, if_pos (by omega), if_pos (by omega)]
  · rw [if_neg e]
    by_cases q : lo ≤ i ∧ i < lo + n
    · rw [if_pos q, if_pos q, if_neg (by omega)]
    · rw [if_neg q, if_neg q]
theorem zSeg_updN {lo n i : Nat} {f r : Nat → Int32} {v : Int32} (h : i < lo ∨ lo + n ≤ i) : upd (zSeg lo n f r) i v = zSeg lo n f (upd r i v) := by
  funext j
  simp only [upd, zSeg]
  by_cases e : j = i
  · rw [if_pos e, if_neg (by omega), if_pos e]
  · rw [if_neg e]
    by_cases q : lo ≤ j ∧ j < lo + n
    · rw [if_pos q, if_pos q]
    · rw [if_neg q, if_neg q, if_neg e]
abbrev zMs : Type := (Nat → Nat) × (Nat → Nat) × (Nat → Nat) × Nat × Nat × Bool × (Nat → Int32) × (Nat → Int32) × (Nat → Int32) × (Nat → Int32) × (Nat → Int32) × (Nat → Int32) × (Nat → Int32)
def nU (s : zMs) : Nat → Nat := s.1
def nS (s : zMs) : Nat → Nat := s.2.1
def nN (s : zMs) : Nat → Nat := s.2.2.1
def nX (s : zMs) : Nat := s.2.2.2.1
def nM (s : zMs) : Nat := s.2.2.2.2.1
def nT (s : zMs) : Bool := s.2.2.2.2.2.1
def nB (s : zMs) : Nat → Int32 := s.2.2.2.2.2.2.1
def nK (s : zMs) : Nat → Int32 := s.2.2.2.2.2.2.2.1
def nY (s : zMs) : Nat → Int32 := s.2.2.2.2.2.2.2.2.1
def nZ (s : zMs) : Nat → Int32 := s.2.2.2.2.2.2.2.2.2.1
def nR (s : zMs) : Nat → Int32 := s.2.2.2.2.2.2.2.2.2.2.1
def nC (s : zMs) : Nat → Int32 := s.2.2.2.2.2.2.2.2.2.2.2.1
def nV (s : zMs) : Nat → Int32 := s.2.2.2.2.2.2.2.2.2.2.2.2
/-- the row's content: its parts, in their order -/
def zMr (s : zMs) : Nat → Int32 := zSeg 0 2 (fun j => nI (nU s j)) (zSeg 2 24 (fun j => nI (nS s j)) (zSeg 26 24 (fun j => nI (nN s j)) (zSeg 50 1 (fun _ => nI (nX s)) (zSeg 51 1 (fun _ => nI (nM s)) (zSeg 52 1 (fun _ => zb (nT s)) (zSeg 53 96 (nB s) (zSeg 149 60 (nK s) (zSeg 209 60 (nY s) (zSeg 269 60 (nZ s) (zSeg 329 60 (nR s) (zSeg 389 60 (nC s) (zSeg 449 60 (nV s) (fun _ => 0)))))))))))))
theorem zMr_U (s : zMs) {j : Nat} (h : j < 2) : zMr s (0 + j) = nI (nU s j) := by rw [zMr, zSeg_at h]
theorem zMr_S (s : zMs) {j : Nat} (h : j < 24) : zMr s (2 + j) = nI (nS s j) := by rw [zMr, zSeg_no (by omega), zSeg_at h]
theorem zMr_N (s : zMs) {j : Nat} (h : j < 24) : zMr s (26 + j) = nI (nN s j) := by rw [zMr, zSeg_no (by omega), zSeg_no (by omega), zSeg_at h]
theorem zMr_X (s : zMs) : zMr s 50 = nI (nX s) := by rw [zMr, zSeg_no (by omega), zSeg_no (by omega), zSeg_no (by omega), show (50 : Nat) = 50 + 0 from rfl, zSeg_at (by decide)]
theorem zMr_M (s : zMs) : zMr s 51 = nI (nM s) := by rw [zMr, zSeg_no (by omega), zSeg_no (by omega), zSeg_no (by omega), zSeg_no (by omega), show (51 : Nat) = 51 + 0 from rfl, zSeg_at (by decide)]
theorem zMr_T (s : zMs) : zMr s 52 = zb (nT s) := by rw [zMr, zSeg_no (by omega), zSeg_no (by omega), zSeg_no (by omega), zSeg_no (by omega), zSeg_no (by omega), show (52 : Nat) = 52 + 0 from rfl, zSeg_at (by decide)]
theorem zMr_B (s : zMs) {j : Nat} (h : j < 96) : zMr s (53 + j) = nB s j := by rw [zMr, zSeg_no (by omega), zSeg_no (by omega), zSeg_no (by omega), zSeg_no (by omega), zSeg_no (by omega), zSeg_no (by omega), zSeg_at h]
theorem zMr_K (s : zMs) {j : Nat} (h : j < 60) : zMr s (149 + j) = nK s j := by rw [zMr, zSeg_no (by omega), zSeg_no (by omega), zSeg_no (by omega), zSeg_no (by omega), zSeg_no (by omega), zSeg_no (by omega), zSeg_no (by omega), zSeg_at h]
theorem zMr_Y (s : zMs) {j : Nat} (h : j < 60) : zMr s (209 + j) = nY s j := by rw [zMr, zSeg_no (by omega), zSeg_no (by omega), zSeg_no (by omega), zSeg_no (by omega), zSeg_no (by omega), zSeg_no (by omega), zSeg_no (by omega), zSeg_no (by omega), zSeg_at h]
theorem zMr_Z (s : zMs) {j : Nat} (h : j < 60) : zMr s (269 + j) = nZ s j := by rw [zMr, zSeg_no (by omega), zSeg_no (by omega), zSeg_no (by omega), zSeg_no (by omega), zSeg_no (by omega), zSeg_no (by omega), zSeg_no (by omega), zSeg_no (by omega), zSeg_no (by omega), zSeg_at h]
theorem zMr_R (s : zMs) {j : Nat} (h : j < 60) : zMr s (329 + j) = nR s j := by rw [zMr, zSeg_no (by omega), zSeg_no (by omega), zSeg_no (by omega), zSeg_no (by omega), zSeg_no (by omega), zSeg_no (by omega), zSeg_no (by omega), zSeg_no (by omega), zSeg_no (by omega), zSeg_no (by omega), zSeg_at h]
theorem zMr_C (s : zMs) {j : Nat} (h : j < 60) : zMr s (389 + j) = nC s j := by rw [zMr, zSeg_no (by omega), zSeg_no (by omega), zSeg_no (by omega), zSeg_no (by omega), zSeg_no (by omega), zSeg_no (by omega), zSeg_no (by omega), zSeg_no (by omega), zSeg_no (by omega), zSeg_no (by omega), zSeg_no (by omega), zSeg_at h]
theorem zMr_V (s : zMs) {j : Nat} (h : j < 60) : zMr s (449 + j) = nV s j := by rw [zMr, zSeg_no (by omega), zSeg_no (by omega), zSeg_no (by omega), zSeg_no (by omega), zSeg_no (by omega), zSeg_no (by omega), zSeg_no (by omega), zSeg_no (by omega), zSeg_no (by omega), zSeg_no (by omega), zSeg_no (by omega), zSeg_no (by omega), zSeg_at h]
def nUs (s : zMs) (j v : Nat) : zMs := (zUpN (nU s) j v, nS s, nN s, nX s, nM s, nT s, nB s, nK s, nY s, nZ s, nR s, nC s, nV s)
def nSs (s : zMs) (j v : Nat) : zMs := (nU s, zUpN (nS s) j v, nN s, nX s, nM s, nT s, nB s, nK s, nY s, nZ s, nR s, nC s, nV s)
def nNs (s : zMs) (j v : Nat) : zMs := (nU s, nS s, zUpN (nN s) j v, nX s, nM s, nT s, nB s, nK s, nY s, nZ s, nR s, nC s, nV s)
def nXs (s : zMs) (v : Nat) : zMs := (nU s, nS s, nN s, v, nM s, nT s, nB s, nK s, nY s, nZ s, nR s, nC s, nV s)
def nMs (s : zMs) (v : Nat) : zMs := (nU s, nS s, nN s, nX s, v, nT s, nB s, nK s, nY s, nZ s, nR s, nC s, nV s)
def nTs (s : zMs) (v : Bool) : zMs := (nU s, nS s, nN s, nX s, nM s, v, nB s, nK s, nY s, nZ s, nR s, nC s, nV s)
def nBs (s : zMs) (j : Nat) (v : Int32) : zMs := (nU s, nS s, nN s, nX s, nM s, nT s, upd (nB s) j v, nK s, nY s, nZ s, nR s, nC s, nV s)
def nKs (s : zMs) (j : Nat) (v : Int32) : zMs := (nU s, nS s, nN s, nX s, nM s, nT s, nB s, upd (nK s) j v, nY s, nZ s, nR s, nC s, nV s)
def nYs (s : zMs) (j : Nat) (v : Int32) : zMs := (nU s, nS s, nN s, nX s, nM s, nT s, nB s, nK s, upd (nY s) j v, nZ s, nR s, nC s, nV s)
def nZs (s : zMs) (j : Nat) (v : Int32) : zMs := (nU s, nS s, nN s, nX s, nM s, nT s, nB s, nK s, nY s, upd (nZ s) j v, nR s, nC s, nV s)
def nRs (s : zMs) (j : Nat) (v : Int32) : zMs := (nU s, nS s, nN s, nX s, nM s, nT s, nB s, nK s, nY s, nZ s, upd (nR s) j v, nC s, nV s)
def nCs (s : zMs) (j : Nat) (v : Int32) : zMs := (nU s, nS s, nN s, nX s, nM s, nT s, nB s, nK s, nY s, nZ s, nR s, upd (nC s) j v, nV s)
def nVs (s : zMs) (j : Nat) (v : Int32) : zMs := (nU s, nS s, nN s, nX s, nM s, nT s, nB s, nK s, nY s, nZ s, nR s, nC s, upd (nV s) j v)
theorem zMw_U (s : zMs) {j v : Nat} (h : j < 2) : upd (zMr s) (0 + j) (nI v) = zMr (nUs s j v) := by
  rw [zMr, zSeg_upd h, zUpN_e]
  rfl
theorem zMw_S (s : zMs) {j v : Nat} (h : j < 24) : upd (zMr s) (2 + j) (nI v) = zMr (nSs s j v) := by
  rw [zMr, zSeg_updN (by omega), zSeg_upd h, zUpN_e]
  rfl
theorem zMw_N (s : zMs) {j v : Nat} (h : j < 24) : upd (zMr s) (26 + j) (nI v) = zMr (nNs s j v) := by
  rw [zMr, zSeg_updN (by omega), zSeg_updN (by omega), zSeg_upd h, zUpN_e]
  rfl
theorem zMw_X (s : zMs) {v : Nat} : upd (zMr s) 50 (nI v) = zMr (nXs s v) := by
  rw [show (50 : Nat) = 50 + 0 from rfl, zMr, zSeg_updN (by omega), zSeg_updN (by omega), zSeg_updN (by omega), zSeg_upd (by decide)]
  rw [show ∀ r : Nat → Int32, ∀ f : Nat → Int32, zSeg 50 1 (upd f 0 (nI v)) r = zSeg 50 1 (fun _ => nI v) r from fun r f => by funext i; simp only [zSeg, upd]; by_cases e : 50 ≤ i ∧ i < 50 + 1; rw [if_pos e, if_pos e, if_pos (by omega)]; rw [if_neg e, if_neg e]]
  rfl
theorem zMw_M (s : zMs) {v : Nat} : upd (zMr s) 51 (nI v) = zMr (nMs s v) := by
  rw [show (51 : Nat) = 51 + 0 from rfl, zMr, zSeg_updN (by omega), zSeg_updN (by omega), zSeg_updN (by omega), zSeg_updN (by omega), zSeg_upd (by decide)]
  rw [show ∀ r : Nat → Int32, ∀ f : Nat → Int32, zSeg 51 1 (upd f 0 (nI v)) r = zSeg 51 1 (fun _ => nI v) r from fun r f => by funext i; simp only [zSeg, upd]; by_cases e : 51 ≤ i ∧ i < 51 + 1; rw [if_pos e, if_pos e, if_pos (by omega)]; rw [if_neg e, if_neg e]]
  rfl
theorem zMw_T (s : zMs) {v : Bool} : upd (zMr s) 52 (zb v) = zMr (nTs s v) := by
  rw [show (52 : Nat) = 52 + 0 from rfl, zMr, zSeg_updN (by omega), zSeg_updN (by omega), zSeg_updN (by omega), zSeg_updN (by omega), zSeg_updN (by omega), zSeg_upd (by decide)]
  rw [show ∀ r : Nat → Int32, ∀ f : Nat → Int32, zSeg 52 1 (upd f 0 (zb v)) r = zSeg 52 1 (fun _ => zb v) r from fun r f => by funext i; simp only [zSeg, upd]; by_cases e : 52 ≤ i ∧ i < 52 + 1; rw [if_pos e, if_pos e, if_pos (by omega)]; rw [if_neg e, if_neg e]]
  rfl
theorem zMw_B (s : zMs) {j : Nat} {v : Int32} (h : j < 96) : upd (zMr s) (53 + j) v = zMr (nBs s j v) := by
  rw [zMr, zSeg_updN (by omega), zSeg_updN (by omega), zSeg_updN (by omega), zSeg_updN (by omega), zSeg_updN (by omega), zSeg_updN (by omega), zSeg_upd h]
  rfl
theorem zMw_K (s : zMs) {j : Nat} {v : Int32} (h : j < 60) : upd (zMr s) (149 + j) v = zMr (nKs s j v) := by
  rw [zMr, zSeg_updN (by omega), zSeg_updN (by omega), zSeg_updN (by omega), zSeg_updN (by omega), zSeg_updN (by omega), zSeg_updN (by omega), zSeg_updN (by omega), zSeg_upd h]
  rfl
theorem zMw_Y (s : zMs) {j : Nat} {v : Int32} (h : j < 60) : upd (zMr s) (209 + j) v = zMr (nYs s j v) := by
  rw [zMr, zSeg_updN (by omega), zSeg_updN (by omega), zSeg_updN (by omega), zSeg_updN (by omega), zSeg_updN (by omega), zSeg_updN (by omega), zSeg_updN (by omega), zSeg_updN (by omega), zSeg_upd h]
  rfl
theorem zMw_Z (s : zMs) {j : Nat} {v : Int32} (h : j < 60) : upd (zMr s) (269 + j) v = zMr (nZs s j v) := by
  rw [zMr, zSeg_updN (by omega), zSeg_updN (by omega), zSeg_updN (by omega), zSeg_updN (by omega), zSeg_updN (by omega), zSeg_updN (by omega), zSeg_updN (by omega), zSeg_updN (by omega), zSeg_updN (by omega), zSeg_upd h]
  rfl
theorem zMw_R (s : zMs) {j : Nat} {v : Int32} (h : j < 60) : upd (zMr s) (329 + j) v = zMr (nRs s j v) := by
  rw [zMr, zSeg_updN (by omega), zSeg_updN (by omega), zSeg_updN (by omega), zSeg_updN (by omega), zSeg_updN (by omega), zSeg_updN (by omega), zSeg_updN (by omega), zSeg_updN (by omega), zSeg_updN (by omega), zSeg_updN (by omega), zSeg_upd h]
  rfl
theorem zMw_C (s : zMs) {j : Nat} {v : Int32} (h : j < 60) : upd (zMr s) (389 + j) v = zMr (nCs s j v) := by
  rw [zMr, zSeg_updN (by omega), zSeg_updN (by omega), zSeg_updN (by omega), zSeg_updN (by omega), zSeg_updN (by omega), zSeg_updN (by omega), zSeg_updN (by omega), zSeg_updN (by omega), zSeg_updN (by omega), zSeg_updN (by omega), zSeg_updN (by omega), zSeg_upd h]
  rfl
theorem zMw_V (s : zMs) {j : Nat} {v : Int32} (h : j < 60) : upd (zMr s) (449 + j) v = zMr (nVs s j v) := by
  rw [zMr, zSeg_updN (by omega), zSeg_updN (by omega), zSeg_updN (by omega), zSeg_updN (by omega), zSeg_updN (by omega), zSeg_updN (by omega), zSeg_updN (by omega), zSeg_updN (by omega), zSeg_updN (by omega), zSeg_updN (by omega), zSeg_updN (by omega), zSeg_updN (by omega), zSeg_upd h]
  rfl
