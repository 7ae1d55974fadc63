/-! the model's row as one value -/
def zSeg (lo n : Nat) (f r : Nat → Int32) : Nat → Int32 := fun i => if lo ≤ i ∧ i < lo + n then f (i - lo) else r i
theorem zSeg_at {lo n a : Nat} {f r : Nat → Int32} (h : a < n) : zSeg lo n f r (lo + a) = f a := by
  unfold zSeg
  rw [if_pos (by omega), show lo + a - lo = a by omega]
theorem zSeg_no {lo n i : Nat} {f r : Nat → Int32} (h : i < lo ∨ lo + n ≤ i) : zSeg lo n f r i = r i := by
  unfold zSeg
  rw [if_neg (by omega)]
theorem zSeg_upd {lo n a : Nat} {f r : Nat → Int32} {v : Int32} (h : a < n) : upd (zSeg lo n f r) (lo + a) v = zSeg lo n (upd f a v) r := by
  funext i
  simp only [upd, zSeg]
  by_cases e : i = lo + a
  · rw [if_pos e, if_pos (by omega), if_pos (by omega)]
  · rw [if_neg e]
    by_cases q : lo ≤ i ∧ i < lo + n
    · rw [if_pos q, if_pos q, if_neg (by omega)]
    · rw [if_neg q, if_neg q]
theorem zSeg_updN {lo n i : Nat} {f r : Nat → Int32} {v : Int32} (h : i < lo ∨ lo + n ≤ i) : upd (zSeg lo n f r) i v = zSeg lo n f (upd r i v) := by
  funext j
  simp only [upd, zSeg]
  by_cases e : j = i
  · rw [if_pos e, if_neg (by omega), if_pos e]
  · rw [if_neg e]
    by_cases q : lo ≤ j ∧ j < lo + n
    · rw [if_pos q, if_pos q]
    · rw [if_neg q, if_neg q, if_neg e]
/-- the row's content: its parts, in their order -/
theorem mRow_ne : Nonempty { f : (Nat → Nat) → (Nat → Nat) → (Nat → Int32) → Nat → Nat → Bool → (Nat → Int32) → (Nat → Int32) → (Nat → Int32) → (Nat → Int32) → (Nat → Int32) → (Nat → Int32) → (Nat → Int32) → Nat → Int32 // f = fun U9 S9 N9 X9 M9 T9 B9 K9 Y9 Z9 R9 C9 V9 => (zSeg 0 2 (fun j => nI (U9 j)) (zSeg 2 24 (fun j => nI (S9 j)) (zSeg 26 24 N9 (zSeg 50 1 (fun _ => nI X9) (zSeg 51 1 (fun _ => nI M9) (zSeg 52 1 (fun _ => zb T9) (zSeg 53 96 B9 (zSeg 149 60 K9 (zSeg 209 60 Y9 (zSeg 269 60 Z9 (zSeg 329 60 R9 (zSeg 389 60 C9 (zSeg 449 60 V9 (fun _ => 0))))))))))))) : Nat → Int32) } := ⟨⟨_, rfl⟩⟩
noncomputable def mRow9 : { f : (Nat → Nat) → (Nat → Nat) → (Nat → Int32) → Nat → Nat → Bool → (Nat → Int32) → (Nat → Int32) → (Nat → Int32) → (Nat → Int32) → (Nat → Int32) → (Nat → Int32) → (Nat → Int32) → Nat → Int32 // f = fun U9 S9 N9 X9 M9 T9 B9 K9 Y9 Z9 R9 C9 V9 => (zSeg 0 2 (fun j => nI (U9 j)) (zSeg 2 24 (fun j => nI (S9 j)) (zSeg 26 24 N9 (zSeg 50 1 (fun _ => nI X9) (zSeg 51 1 (fun _ => nI M9) (zSeg 52 1 (fun _ => zb T9) (zSeg 53 96 B9 (zSeg 149 60 K9 (zSeg 209 60 Y9 (zSeg 269 60 Z9 (zSeg 329 60 R9 (zSeg 389 60 C9 (zSeg 449 60 V9 (fun _ => 0))))))))))))) : Nat → Int32) } := Classical.choice mRow_ne
noncomputable def mRow (U9 : Nat → Nat) (S9 : Nat → Nat) (N9 : Nat → Int32) (X9 : Nat) (M9 : Nat) (T9 : Bool) (B9 : Nat → Int32) (K9 : Nat → Int32) (Y9 : Nat → Int32) (Z9 : Nat → Int32) (R9 : Nat → Int32) (C9 : Nat → Int32) (V9 : Nat → Int32) : Nat → Int32 := mRow9.1 U9 S9 N9 X9 M9 T9 B9 K9 Y9 Z9 R9 C9 V9
theorem mRow_d (U9 : Nat → Nat) (S9 : Nat → Nat) (N9 : Nat → Int32) (X9 : Nat) (M9 : Nat) (T9 : Bool) (B9 : Nat → Int32) (K9 : Nat → Int32) (Y9 : Nat → Int32) (Z9 : Nat → Int32) (R9 : Nat → Int32) (C9 : Nat → Int32) (V9 : Nat → Int32) : mRow U9 S9 N9 X9 M9 T9 B9 K9 Y9 Z9 R9 C9 V9 = zSeg 0 2 (fun j => nI (U9 j)) (zSeg 2 24 (fun j => nI (S9 j)) (zSeg 26 24 N9 (zSeg 50 1 (fun _ => nI X9) (zSeg 51 1 (fun _ => nI M9) (zSeg 52 1 (fun _ => zb T9) (zSeg 53 96 B9 (zSeg 149 60 K9 (zSeg 209 60 Y9 (zSeg 269 60 Z9 (zSeg 329 60 R9 (zSeg 389 60 C9 (zSeg 449 60 V9 (fun _ => 0))))))))))))) := by
  show mRow9.1 U9 S9 N9 X9 M9 T9 B9 K9 Y9 Z9 R9 C9 V9 = _
  rw [mRow9.2]
theorem zMr_U {U9 : Nat → Nat} {S9 : Nat → Nat} {N9 : Nat → Int32} {X9 : Nat} {M9 : Nat} {T9 : Bool} {B9 : Nat → Int32} {K9 : Nat → Int32} {Y9 : Nat → Int32} {Z9 : Nat → Int32} {R9 : Nat → Int32} {C9 : Nat → Int32} {V9 : Nat → Int32} {j : Nat} (h : j < 2) : mRow U9 S9 N9 X9 M9 T9 B9 K9 Y9 Z9 R9 C9 V9 (0 + j) = nI (U9 j) := by rw [mRow_d, zSeg_at h]
theorem zMr_S {U9 : Nat → Nat} {S9 : Nat → Nat} {N9 : Nat → Int32} {X9 : Nat} {M9 : Nat} {T9 : Bool} {B9 : Nat → Int32} {K9 : Nat → Int32} {Y9 : Nat → Int32} {Z9 : Nat → Int32} {R9 : Nat → Int32} {C9 : Nat → Int32} {V9 : Nat → Int32} {j : Nat} (h : j < 24) : mRow U9 S9 N9 X9 M9 T9 B9 K9 Y9 Z9 R9 C9 V9 (2 + j) = nI (S9 j) := by rw [mRow_d, zSeg_no (by omega), zSeg_at h]
theorem zMr_N {U9 : Nat → Nat} {S9 : Nat → Nat} {N9 : Nat → Int32} {X9 : Nat} {M9 : Nat} {T9 : Bool} {B9 : Nat → Int32} {K9 : Nat → Int32} {Y9 : Nat → Int32} {Z9 : Nat → Int32} {R9 : Nat → Int32} {C9 : Nat → Int32} {V9 : Nat → Int32} {j : Nat} (h : j < 24) : mRow U9 S9 N9 X9 M9 T9 B9 K9 Y9 Z9 R9 C9 V9 (26 + j) = N9 j := by rw [mRow_d, zSeg_no (by omega), zSeg_no (by omega), zSeg_at h]
theorem zMr_X {U9 : Nat → Nat} {S9 : Nat → Nat} {N9 : Nat → Int32} {X9 : Nat} {M9 : Nat} {T9 : Bool} {B9 : Nat → Int32} {K9 : Nat → Int32} {Y9 : Nat → Int32} {Z9 : Nat → Int32} {R9 : Nat → Int32} {C9 : Nat → Int32} {V9 : Nat → Int32} : mRow U9 S9 N9 X9 M9 T9 B9 K9 Y9 Z9 R9 C9 V9 50 = nI X9 := by rw [mRow_d, zSeg_no (by omega), zSeg_no (by omega), zSeg_no (by omega), show (50 : Nat) = 50 + 0 from rfl, zSeg_at (by decide)]
theorem zMr_M {U9 : Nat → Nat} {S9 : Nat → Nat} {N9 : Nat → Int32} {X9 : Nat} {M9 : Nat} {T9 : Bool} {B9 : Nat → Int32} {K9 : Nat → Int32} {Y9 : Nat → Int32} {Z9 : Nat → Int32} {R9 : Nat → Int32} {C9 : Nat → Int32} {V9 : Nat → Int32} : mRow U9 S9 N9 X9 M9 T9 B9 K9 Y9 Z9 R9 C9 V9 51 = nI M9 := by rw [mRow_d, zSeg_no (by omega), zSeg_no (by omega), zSeg_no (by omega), zSeg_no (by omega), show (51 : Nat) = 51 + 0 from rfl, zSeg_at (by decide)]
theorem zMr_T {U9 : Nat → Nat} {S9 : Nat → Nat} {N9 : Nat → Int32} {X9 : Nat} {M9 : Nat} {T9 : Bool} {B9 : Nat → Int32} {K9 : Nat → Int32} {Y9 : Nat → Int32} {Z9 : Nat → Int32} {R9 : Nat → Int32} {C9 : Nat → Int32} {V9 : Nat → Int32} : mRow U9 S9 N9 X9 M9 T9 B9 K9 Y9 Z9 R9 C9 V9 52 = zb T9 := by rw [mRow_d, zSeg_no (by omega), zSeg_no (by omega), zSeg_no (by omega), zSeg_no (by omega), zSeg_no (by omega), show (52 : Nat) = 52 + 0 from rfl, zSeg_at (by decide)]
theorem zMr_B {U9 : Nat → Nat} {S9 : Nat → Nat} {N9 : Nat → Int32} {X9 : Nat} {M9 : Nat} {T9 : Bool} {B9 : Nat → Int32} {K9 : Nat → Int32} {Y9 : Nat → Int32} {Z9 : Nat → Int32} {R9 : Nat → Int32} {C9 : Nat → Int32} {V9 : Nat → Int32} {j : Nat} (h : j < 96) : mRow U9 S9 N9 X9 M9 T9 B9 K9 Y9 Z9 R9 C9 V9 (53 + j) = B9 j := by rw [mRow_d, zSeg_no (by omega), zSeg_no (by omega), zSeg_no (by omega), zSeg_no (by omega), zSeg_no (by omega), zSeg_no (by omega), zSeg_at h]
theorem zMr_K {U9 : Nat → Nat} {S9 : Nat → Nat} {N9 : Nat → Int32} {X9 : Nat} {M9 : Nat} {T9 : Bool} {B9 : Nat → Int32} {K9 : Nat → Int32} {Y9 : Nat → Int32} {Z9 : Nat → Int32} {R9 : Nat → Int32} {C9 : Nat → Int32} {V9 : Nat → Int32} {j : Nat} (h : j < 60) : mRow U9 S9 N9 X9 M9 T9 B9 K9 Y9 Z9 R9 C9 V9 (149 + j) = K9 j := by rw [mRow_d, zSeg_no (by omega), zSeg_no (by omega), zSeg_no (by omega), zSeg_no (by omega), zSeg_no (by omega), zSeg_no (by omega), zSeg_no (by omega), zSeg_at h]
theorem zMr_Y {U9 : Nat → Nat} {S9 : Nat → Nat} {N9 : Nat → Int32} {X9 : Nat} {M9 : Nat} {T9 : Bool} {B9 : Nat → Int32} {K9 : Nat → Int32} {Y9 : Nat → Int32} {Z9 : Nat → Int32} {R9 : Nat → Int32} {C9 : Nat → Int32} {V9 : Nat → Int32} {j : Nat} (h : j < 60) : mRow U9 S9 N9 X9 M9 T9 B9 K9 Y9 Z9 R9 C9 V9 (209 + j) = Y9 j := by rw [mRow_d, zSeg_no (by omega), zSeg_no (by omega), zSeg_no (by omega), zSeg_no (by omega), zSeg_no (by omega), zSeg_no (by omega), zSeg_no (by omega), zSeg_no (by omega), zSeg_at h]
theorem zMr_Z {U9 : Nat → Nat} {S9 : Nat → Nat} {N9 : Nat → Int32} {X9 : Nat} {M9 : Nat} {T9 : Bool} {B9 : Nat → Int32} {K9 : Nat → Int32} {Y9 : Nat → Int32} {Z9 : Nat → Int32} {R9 : Nat → Int32} {C9 : Nat → Int32} {V9 : Nat → Int32} {j : Nat} (h : j < 60) : mRow U9 S9 N9 X9 M9 T9 B9 K9 Y9 Z9 R9 C9 V9 (269 + j) = Z9 j := by rw [mRow_d, zSeg_no (by omega), zSeg_no (by omega), zSeg_no (by omega), zSeg_no (by omega), zSeg_no (by omega), zSeg_no (by omega), zSeg_no (by omega), zSeg_no (by omega), zSeg_no (by omega), zSeg_at h]
theorem zMr_R {U9 : Nat → Nat} {S9 : Nat → Nat} {N9 : Nat → Int32} {X9 : Nat} {M9 : Nat} {T9 : Bool} {B9 : Nat → Int32} {K9 : Nat → Int32} {Y9 : Nat → Int32} {Z9 : Nat → Int32} {R9 : Nat → Int32} {C9 : Nat → Int32} {V9 : Nat → Int32} {j : Nat} (h : j < 60) : mRow U9 S9 N9 X9 M9 T9 B9 K9 Y9 Z9 R9 C9 V9 (329 + j) = R9 j := by rw [mRow_d, zSeg_no (by omega), zSeg_no (by omega), zSeg_no (by omega), zSeg_no (by omega), zSeg_no (by omega), zSeg_no (by omega), zSeg_no (by omega), zSeg_no (by omega), zSeg_no (by omega), zSeg_no (by omega), zSeg_at h]
theorem zMr_C {U9 : Nat → Nat} {S9 : Nat → Nat} {N9 : Nat → Int32} {X9 : Nat} {M9 : Nat} {T9 : Bool} {B9 : Nat → Int32} {K9 : Nat → Int32} {Y9 : Nat → Int32} {Z9 : Nat → Int32} {R9 : Nat → Int32} {C9 : Nat → Int32} {V9 : Nat → Int32} {j : Nat} (h : j < 60) : mRow U9 S9 N9 X9 M9 T9 B9 K9 Y9 Z9 R9 C9 V9 (389 + j) = C9 j := by rw [mRow_d, zSeg_no (by omega), zSeg_no (by omega), zSeg_no (by omega), zSeg_no (by omega), zSeg_no (by omega), zSeg_no (by omega), zSeg_no (by omega), zSeg_no (by omega), zSeg_no (by omega), zSeg_no (by omega), zSeg_no (by omega), zSeg_at h]
theorem zMr_V {U9 : Nat → Nat} {S9 : Nat → Nat} {N9 : Nat → Int32} {X9 : Nat} {M9 : Nat} {T9 : Bool} {B9 : Nat → Int32} {K9 : Nat → Int32} {Y9 : Nat → Int32} {Z9 : Nat → Int32} {R9 : Nat → Int32} {C9 : Nat → Int32} {V9 : Nat → Int32} {j : Nat} (h : j < 60) : mRow U9 S9 N9 X9 M9 T9 B9 K9 Y9 Z9 R9 C9 V9 (449 + j) = V9 j := by rw [mRow_d, zSeg_no (by omega), zSeg_no (by omega), zSeg_no (by omega), zSeg_no (by omega), zSeg_no (by omega), zSeg_no (by omega), zSeg_no (by omega), zSeg_no (by omega), zSeg_no (by omega), zSeg_no (by omega), zSeg_no (by omega), zSeg_no (by omega), zSeg_at h]
theorem mRow_big {U9 : Nat → Nat} {S9 : Nat → Nat} {N9 : Nat → Int32} {X9 : Nat} {M9 : Nat} {T9 : Bool} {B9 : Nat → Int32} {K9 : Nat → Int32} {Y9 : Nat → Int32} {Z9 : Nat → Int32} {R9 : Nat → Int32} {C9 : Nat → Int32} {V9 : Nat → Int32} {j : Nat} (h : 509 ≤ j) : mRow U9 S9 N9 X9 M9 T9 B9 K9 Y9 Z9 R9 C9 V9 j = 0 := by rw [mRow_d, zSeg_no (by omega), zSeg_no (by omega), zSeg_no (by omega), zSeg_no (by omega), zSeg_no (by omega), zSeg_no (by omega), zSeg_no (by omega), zSeg_no (by omega), zSeg_no (by omega), zSeg_no (by omega), zSeg_no (by omega), zSeg_no (by omega), zSeg_no (by omega)]
theorem zMw_U {U9 : Nat → Nat} {S9 : Nat → Nat} {N9 : Nat → Int32} {X9 : Nat} {M9 : Nat} {T9 : Bool} {B9 : Nat → Int32} {K9 : Nat → Int32} {Y9 : Nat → Int32} {Z9 : Nat → Int32} {R9 : Nat → Int32} {C9 : Nat → Int32} {V9 : Nat → Int32} {j v : Nat} (h : j < 2) : upd (mRow U9 S9 N9 X9 M9 T9 B9 K9 Y9 Z9 R9 C9 V9) (0 + j) (nI v) = mRow (zUpN U9 j v) S9 N9 X9 M9 T9 B9 K9 Y9 Z9 R9 C9 V9 := by
  rw [mRow_d, zSeg_upd h, zUpN_e]
  rw [mRow_d]
theorem zMw_S {U9 : Nat → Nat} {S9 : Nat → Nat} {N9 : Nat → Int32} {X9 : Nat} {M9 : Nat} {T9 : Bool} {B9 : Nat → Int32} {K9 : Nat → Int32} {Y9 : Nat → Int32} {Z9 : Nat → Int32} {R9 : Nat → Int32} {C9 : Nat → Int32} {V9 : Nat → Int32} {j v : Nat} (h : j < 24) : upd (mRow U9 S9 N9 X9 M9 T9 B9 K9 Y9 Z9 R9 C9 V9) (2 + j) (nI v) = mRow U9 (zUpN S9 j v) N9 X9 M9 T9 B9 K9 Y9 Z9 R9 C9 V9 := by
  rw [mRow_d, zSeg_updN (by omega), zSeg_upd h, zUpN_e]
  rw [mRow_d]
theorem zMw_N {U9 : Nat → Nat} {S9 : Nat → Nat} {N9 : Nat → Int32} {X9 : Nat} {M9 : Nat} {T9 : Bool} {B9 : Nat → Int32} {K9 : Nat → Int32} {Y9 : Nat → Int32} {Z9 : Nat → Int32} {R9 : Nat → Int32} {C9 : Nat → Int32} {V9 : Nat → Int32} {j : Nat} {v : Int32} (h : j < 24) : upd (mRow U9 S9 N9 X9 M9 T9 B9 K9 Y9 Z9 R9 C9 V9) (26 + j) v = mRow U9 S9 (upd N9 j v) X9 M9 T9 B9 K9 Y9 Z9 R9 C9 V9 := by
  rw [mRow_d, zSeg_updN (by omega), zSeg_updN (by omega), zSeg_upd h]
  rw [mRow_d]
theorem zMw_X {U9 : Nat → Nat} {S9 : Nat → Nat} {N9 : Nat → Int32} {X9 : Nat} {M9 : Nat} {T9 : Bool} {B9 : Nat → Int32} {K9 : Nat → Int32} {Y9 : Nat → Int32} {Z9 : Nat → Int32} {R9 : Nat → Int32} {C9 : Nat → Int32} {V9 : Nat → Int32} {v : Nat} : upd (mRow U9 S9 N9 X9 M9 T9 B9 K9 Y9 Z9 R9 C9 V9) 50 (nI v) = mRow U9 S9 N9 v M9 T9 B9 K9 Y9 Z9 R9 C9 V9 := by
  rw [show (50 : Nat) = 50 + 0 from rfl, mRow_d, zSeg_updN (by omega), zSeg_updN (by omega), zSeg_updN (by omega), zSeg_upd (by decide)]
  rw [show ∀ r : Nat → Int32, ∀ f : Nat → Int32, zSeg 50 1 (upd f 0 (nI v)) r = zSeg 50 1 (fun _ => nI v) r from fun r f => by funext i; simp only [zSeg, upd]; by_cases e : 50 ≤ i ∧ i < 50 + 1; rw [if_pos e, if_pos e, if_pos (by omega)]; rw [if_neg e, if_neg e]]
  rw [mRow_d]
theorem zMw_M {U9 : Nat → Nat} {S9 : Nat → Nat} {N9 : Nat → Int32} {X9 : Nat} {M9 : Nat} {T9 : Bool} {B9 : Nat → Int32} {K9 : Nat → Int32} {Y9 : Nat → Int32} {Z9 : Nat → Int32} {R9 : Nat → Int32} {C9 : Nat → Int32} {V9 : Nat → Int32} {v : Nat} : upd (mRow U9 S9 N9 X9 M9 T9 B9 K9 Y9 Z9 R9 C9 V9) 51 (nI v) = mRow U9 S9 N9 X9 v T9 B9 K9 Y9 Z9 R9 C9 V9 := by
  rw [show (51 : Nat) = 51 + 0 from rfl, mRow_d, zSeg_updN (by omega), zSeg_updN (by omega), zSeg_updN (by omega), zSeg_updN (by omega), zSeg_upd (by decide)]
  rw [show ∀ r : Nat → Int32, ∀ f : Nat → Int32, zSeg 51 1 (upd f 0 (nI v)) r = zSeg 51 1 (fun _ => nI v) r from fun r f => by funext i; simp only [zSeg, upd]; by_cases e : 51 ≤ i ∧ i < 51 + 1; rw [if_pos e, if_pos e, if_pos (by omega)]; rw [if_neg e, if_neg e]]
  rw [mRow_d]
theorem zMw_T {U9 : Nat → Nat} {S9 : Nat → Nat} {N9 : Nat → Int32} {X9 : Nat} {M9 : Nat} {T9 : Bool} {B9 : Nat → Int32} {K9 : Nat → Int32} {Y9 : Nat → Int32} {Z9 : Nat → Int32} {R9 : Nat → Int32} {C9 : Nat → Int32} {V9 : Nat → Int32} {v : Bool} : upd (mRow U9 S9 N9 X9 M9 T9 B9 K9 Y9 Z9 R9 C9 V9) 52 (zb v) = mRow U9 S9 N9 X9 M9 v B9 K9 Y9 Z9 R9 C9 V9 := by
  rw [show (52 : Nat) = 52 + 0 from rfl, mRow_d, zSeg_updN (by omega), zSeg_updN (by omega), zSeg_updN (by omega), zSeg_updN (by omega), zSeg_updN (by omega), zSeg_upd (by decide)]
  rw [show ∀ r : Nat → Int32, ∀ f : Nat → Int32, zSeg 52 1 (upd f 0 (zb v)) r = zSeg 52 1 (fun _ => zb v) r from fun r f => by funext i; simp only [zSeg, upd]; by_cases e : 52 ≤ i ∧ i < 52 + 1; rw [if_pos e, if_pos e, if_pos (by omega)]; rw [if_neg e, if_neg e]]
  rw [mRow_d]
theorem zMw_B {U9 : Nat → Nat} {S9 : Nat → Nat} {N9 : Nat → Int32} {X9 : Nat} {M9 : Nat} {T9 : Bool} {B9 : Nat → Int32} {K9 : Nat → Int32} {Y9 : Nat → Int32} {Z9 : Nat → Int32} {R9 : Nat → Int32} {C9 : Nat → Int32} {V9 : Nat → Int32} {j : Nat} {v : Int32} (h : j < 96) : upd (mRow U9 S9 N9 X9 M9 T9 B9 K9 Y9 Z9 R9 C9 V9) (53 + j) v = mRow U9 S9 N9 X9 M9 T9 (upd B9 j v) K9 Y9 Z9 R9 C9 V9 := by
  rw [mRow_d, zSeg_updN (by omega), zSeg_updN (by omega), zSeg_updN (by omega), zSeg_updN (by omega), zSeg_updN (by omega), zSeg_updN (by omega), zSeg_upd h]
  rw [mRow_d]
theorem zMw_K {U9 : Nat → Nat} {S9 : Nat → Nat} {N9 : Nat → Int32} {X9 : Nat} {M9 : Nat} {T9 : Bool} {B9 : Nat → Int32} {K9 : Nat → Int32} {Y9 : Nat → Int32} {Z9 : Nat → Int32} {R9 : Nat → Int32} {C9 : Nat → Int32} {V9 : Nat → Int32} {j : Nat} {v : Int32} (h : j < 60) : upd (mRow U9 S9 N9 X9 M9 T9 B9 K9 Y9 Z9 R9 C9 V9) (149 + j) v = mRow U9 S9 N9 X9 M9 T9 B9 (upd K9 j v) Y9 Z9 R9 C9 V9 := by
  rw [mRow_d, zSeg_updN (by omega), zSeg_updN (by omega), zSeg_updN (by omega), zSeg_updN (by omega), zSeg_updN (by omega), zSeg_updN (by omega), zSeg_updN (by omega), zSeg_upd h]
  rw [mRow_d]
theorem zMw_Y {U9 : Nat → Nat} {S9 : Nat → Nat} {N9 : Nat → Int32} {X9 : Nat} {M9 : Nat} {T9 : Bool} {B9 : Nat → Int32} {K9 : Nat → Int32} {Y9 : Nat → Int32} {Z9 : Nat → Int32} {R9 : Nat → Int32} {C9 : Nat → Int32} {V9 : Nat → Int32} {j : Nat} {v : Int32} (h : j < 60) : upd (mRow U9 S9 N9 X9 M9 T9 B9 K9 Y9 Z9 R9 C9 V9) (209 + j) v = mRow U9 S9 N9 X9 M9 T9 B9 K9 (upd Y9 j v) Z9 R9 C9 V9 := by
  rw [mRow_d, zSeg_updN (by omega), zSeg_updN (by omega), zSeg_updN (by omega), zSeg_updN (by omega), zSeg_updN (by omega), zSeg_updN (by omega), zSeg_updN (by omega), zSeg_updN (by omega), zSeg_upd h]
  rw [mRow_d]
theorem zMw_Z {U9 : Nat → Nat} {S9 : Nat → Nat} {N9 : Nat → Int32} {X9 : Nat} {M9 : Nat} {T9 : Bool} {B9 : Nat → Int32} {K9 : Nat → Int32} {Y9 : Nat → Int32} {Z9 : Nat → Int32} {R9 : Nat → Int32} {C9 : Nat → Int32} {V9 : Nat → Int32} {j : Nat} {v : Int32} (h : j < 60) : upd (mRow U9 S9 N9 X9 M9 T9 B9 K9 Y9 Z9 R9 C9 V9) (269 + j) v = mRow U9 S9 N9 X9 M9 T9 B9 K9 Y9 (upd Z9 j v) R9 C9 V9 := by
  rw [mRow_d, zSeg_updN (by omega), zSeg_updN (by omega), zSeg_updN (by omega), zSeg_updN (by omega), zSeg_updN (by omega), zSeg_updN (by omega), zSeg_updN (by omega), zSeg_updN (by omega), zSeg_updN (by omega), zSeg_upd h]
  rw [mRow_d]
theorem zMw_R {U9 : Nat → Nat} {S9 : Nat → Nat} {N9 : Nat → Int32} {X9 : Nat} {M9 : Nat} {T9 : Bool} {B9 : Nat → Int32} {K9 : Nat → Int32} {Y9 : Nat → Int32} {Z9 : Nat → Int32} {R9 : Nat → Int32} {C9 : Nat → Int32} {V9 : Nat → Int32} {j : Nat} {v : Int32} (h : j < 60) : upd (mRow U9 S9 N9 X9 M9 T9 B9 K9 Y9 Z9 R9 C9 V9) (329 + j) v = mRow U9 S9 N9 X9 M9 T9 B9 K9 Y9 Z9 (upd R9 j v) C9 V9 := by
  rw [mRow_d, zSeg_updN (by omega), zSeg_updN (by omega), zSeg_updN (by omega), zSeg_updN (by omega), zSeg_updN (by omega), zSeg_updN (by omega), zSeg_updN (by omega), zSeg_updN (by omega), zSeg_updN (by omega), zSeg_updN (by omega), zSeg_upd h]
  rw [mRow_d]
theorem zMw_C {U9 : Nat → Nat} {S9 : Nat → Nat} {N9 : Nat → Int32} {X9 : Nat} {M9 : Nat} {T9 : Bool} {B9 : Nat → Int32} {K9 : Nat → Int32} {Y9 : Nat → Int32} {Z9 : Nat → Int32} {R9 : Nat → Int32} {C9 : Nat → Int32} {V9 : Nat → Int32} {j : Nat} {v : Int32} (h : j < 60) : upd (mRow U9 S9 N9 X9 M9 T9 B9 K9 Y9 Z9 R9 C9 V9) (389 + j) v = mRow U9 S9 N9 X9 M9 T9 B9 K9 Y9 Z9 R9 (upd C9 j v) V9 := by
  rw [mRow_d, zSeg_updN (by omega), zSeg_updN (by omega), zSeg_updN (by omega), zSeg_updN (by omega), zSeg_updN (by omega), zSeg_updN (by omega), zSeg_updN (by omega), zSeg_updN (by omega), zSeg_updN (by omega), zSeg_updN (by omega), zSeg_updN (by omega), zSeg_upd h]
  rw [mRow_d]
theorem zMw_V {U9 : Nat → Nat} {S9 : Nat → Nat} {N9 : Nat → Int32} {X9 : Nat} {M9 : Nat} {T9 : Bool} {B9 : Nat → Int32} {K9 : Nat → Int32} {Y9 : Nat → Int32} {Z9 : Nat → Int32} {R9 : Nat → Int32} {C9 : Nat → Int32} {V9 : Nat → Int32} {j : Nat} {v : Int32} (h : j < 60) : upd (mRow U9 S9 N9 X9 M9 T9 B9 K9 Y9 Z9 R9 C9 V9) (449 + j) v = mRow U9 S9 N9 X9 M9 T9 B9 K9 Y9 Z9 R9 C9 (upd V9 j v) := by
  rw [mRow_d, zSeg_updN (by omega), zSeg_updN (by omega), zSeg_updN (by omega), zSeg_updN (by omega), zSeg_updN (by omega), zSeg_updN (by omega), zSeg_updN (by omega), zSeg_updN (by omega), zSeg_updN (by omega), zSeg_updN (by omega), zSeg_updN (by omega), zSeg_updN (by omega), zSeg_upd h]
  rw [mRow_d]
theorem z_iastR {X : zX} {k n : Nat} {cc : ByteArray} {own : String} {Ts : List Cond} {d : Nat} {ws : va_W} {lv : List (Option Value)} {st : List Value} {pc : Nat} (C : zC X k n cc own Ts d) (q0 : Nat) {a N i : Nat} {f f' : Nat → Int32} {x : Int32} (hd : decode cc pc = .ok (.iastore, 1)) (he : ws[q0]? = some (a, .inl (X.2.1.2.2.1, N, .inl f))) (hi : i < N) (hN : N < 2147483648) (hf : upd f i x = f') (kk : zG X k n (ws.set q0 (a, .inl (X.2.1.2.2.1, N, .inl f'))) lv st (pc + 1)) : zG X k n ws lv (.int x :: .int (nI i) :: .ref a :: st) pc := z_iastN C q0 hd he hi hN (by rw [hf]; exact kk)
abbrev zMs : Type := (Nat → Nat) × (Nat → Nat) × (Nat → Int32) × Nat × Nat × Bool × (Nat → Int32) × (Nat → Int32) × (Nat → Int32) × (Nat → Int32) × (Nat → Int32) × (Nat → Int32) × (Nat → Int32)
def nU (s : zMs) : Nat → Nat := s.1
def nS (s : zMs) : Nat → Nat := s.2.1
def nN (s : zMs) : Nat → Int32 := s.2.2.1
def nX (s : zMs) : Nat := s.2.2.2.1
def nM (s : zMs) : Nat := s.2.2.2.2.1
def nT (s : zMs) : Bool := s.2.2.2.2.2.1
def nB (s : zMs) : Nat → Int32 := s.2.2.2.2.2.2.1
def nK (s : zMs) : Nat → Int32 := s.2.2.2.2.2.2.2.1
def nY (s : zMs) : Nat → Int32 := s.2.2.2.2.2.2.2.2.1
def nZ (s : zMs) : Nat → Int32 := s.2.2.2.2.2.2.2.2.2.1
def nR (s : zMs) : Nat → Int32 := s.2.2.2.2.2.2.2.2.2.2.1
def nC (s : zMs) : Nat → Int32 := s.2.2.2.2.2.2.2.2.2.2.2.1
def nV (s : zMs) : Nat → Int32 := s.2.2.2.2.2.2.2.2.2.2.2.2
noncomputable def zMr (s : zMs) : Nat → Int32 := mRow (nU s) (nS s) (nN s) (nX s) (nM s) (nT s) (nB s) (nK s) (nY s) (nZ s) (nR s) (nC s) (nV s)
theorem zMr_big (s : zMs) {j : Nat} (h : 509 ≤ j) : zMr s j = 0 := mRow_big h
/-! the model's lines and changes -/
def mS (vS : Nat → Nat) (ax p : Nat) : Nat := vS (12 * ax + p)
def mN (vS : Nat → Nat) (vN : Nat → Int32) (ax p : Nat) : Int32 := vN (12 * ax + mS vS ax p)
def mLn (vZ : Nat → Int32) (vK : Nat → Int32) (vR : Nat → Int32) (vC : Nat → Int32) (kd : Nat) (nm : Int32) : Nat → Bool := fun x => decide (vZ x = 0) && (decide (vK x = nI kd) && decide ((if kd < 2 then vR x else vC x) = nm))
def mIn (vZ : Nat → Int32) (vK : Nat → Int32) (vR : Nat → Int32) (vC : Nat → Int32) (vS : Nat → Nat) (vN : Nat → Int32) (vM : Nat) (ax p : Nat) : Int32 := zf (mLn vZ vK vR vC (2 * ax) (mN vS vN ax p)) (vM)
def mRm (vZ : Nat → Int32) (vK : Nat → Int32) (vR : Nat → Int32) (vC : Nat → Int32) (vS : Nat → Nat) (vN : Nat → Int32) (vM : Nat) (ax p : Nat) : Int32 := zf (mLn vZ vK vR vC (2 * ax + 1) (mN vS vN ax p)) (vM)
def mNw (vZ : Nat → Int32) (vK : Nat → Int32) (vR : Nat → Int32) (vC : Nat → Int32) (vS : Nat → Nat) (vN : Nat → Int32) (vM : Nat) (ax p : Nat) : Bool := !decide (mIn vZ vK vR vC vS vN vM ax p < 0)
def mDm (vZ : Nat → Int32) (vK : Nat → Int32) (vR : Nat → Int32) (vC : Nat → Int32) (vS : Nat → Nat) (vN : Nat → Int32) (vM : Nat) (ax p : Nat) : Bool := !decide (mRm vZ vK vR vC vS vN vM ax p < 0)
def mSt (vZ : Nat → Int32) (vK : Nat → Int32) (vR : Nat → Int32) (vC : Nat → Int32) (r c : Int32) : Nat → Bool := fun x => decide (vZ x = 0) && (decide (vK x = nI 4) && (decide (vR x = r) && decide (vC x = c)))
def mPE (vS : Nat → Nat) (vN : Nat → Int32) (ax : Nat) (nm : Int32) : Nat → Bool := fun p => decide (mN vS vN ax p = nm)
def mPl (vS : Nat → Nat) (vN : Nat → Int32) (vU : Nat → Nat) (ax : Nat) (nm : Int32) : Int32 := zf (mPE vS vN ax nm) (vU ax)
def mB (vB : Nat → Int32) (vS : Nat → Nat) (i j : Nat) : Int32 := vB (8 * mS vS 0 i + mS vS 1 j)
def mVB (vZ : Nat → Int32) (vK : Nat → Int32) (vR : Nat → Int32) (vC : Nat → Int32) (vB : Nat → Int32) (vS : Nat → Nat) (vV : Nat → Int32) (n : Nat) (r c : Int32) (i j : Nat) : Int32 := match zgo (mSt vZ vK vR vC r c) n with
  | none => mB vB vS i j
  | some x => vV x
def mAt (vK : Nat → Int32) (vR : Nat → Int32) (vC : Nat → Int32) (x : Nat) (ax nm : Int32) : Bool := (decide (vK x = nI 4) || decide (vK x / nI 2 = ax)) && decide ((if ax = 0 then vR x else vC x) = nm)
def mMk (f : Nat → Int32) (p : Nat → Bool) (v : Int32) (k : Nat) : Nat → Int32 := fun i => if i < k ∧ p i = true then v else f i
theorem mMk_0 (f : Nat → Int32) (p : Nat → Bool) (v : Int32) : mMk f p v 0 = f := by funext i; simp [mMk]
theorem mMk_ge {f : Nat → Int32} {p : Nat → Bool} {v : Int32} {k i : Nat} (h : k ≤ i) : mMk f p v k i = f i := by
  simp only [mMk]
  rw [if_neg (fun q => by omega)]
theorem mMk_n {f : Nat → Int32} {p : Nat → Bool} {v : Int32} {k : Nat} (h : p k = false) : mMk f p v (k + 1) = mMk f p v k := by
  funext i
  simp only [mMk]
  by_cases hk : i = k
  · rw [hk, h]; simp
  · simp only [show (i < k + 1) ↔ (i < k) from ⟨fun q => by omega, fun q => by omega⟩]
theorem mMk_y {f : Nat → Int32} {p : Nat → Bool} {v : Int32} {k : Nat} (h : p k = true) : mMk f p v (k + 1) = upd (mMk f p v k) k v := by
  funext i
  simp only [mMk, upd]
  by_cases hk : i = k
  · rw [if_pos hk, if_pos ⟨by omega, by rw [hk]; exact h⟩]
  · rw [if_neg hk]
    simp only [show (i < k + 1) ↔ (i < k) from ⟨fun q => by omega, fun q => by omega⟩]
theorem upd_id (f : Nat → Int32) (k : Nat) : upd f k (f k) = f := by
  funext i
  simp only [upd]
  split
  · rename_i h; rw [h]
  · rfl
def mDp (vZ : Nat → Int32) (vK : Nat → Int32) (vR : Nat → Int32) (vC : Nat → Int32) (ax nm : Int32) (b : Bool) : Nat → Bool := fun x => decide (vZ x = 0) && (mAt vK vR vC x ax nm && (!b || decide (vK x = nI 4)))
def mrs (vZ : Nat → Int32) (vK : Nat → Int32) (vR : Nat → Int32) (vC : Nat → Int32) (x y : Nat) : Bool := if x = y ∨ ¬ vZ x = 0 ∨ ¬ vZ y = 0 then false
  else if vK y = nI 4 then decide (vK x = nI 4) && (decide (y < x) && mSt vZ vK vR vC (vR x) (vC x) y)
  else if vK y - vK y / nI 2 * nI 2 = nI 1 then false
  else (decide (vK x = nI 4) || decide (vK x = vK y + nI 1)) && mAt vK vR vC x (vK y / nI 2) (if vK y = 0 then vR y else vC y)
def mP0 (vZ : Nat → Int32) : Nat → Bool := fun x => decide (vZ x = 0)
/-- the bounds that the model's row keeps -/
def okM (vU : Nat → Nat) (vS : Nat → Nat) (vM : Nat) (vK : Nat → Int32) : Prop := vU 0 ≤ 12 ∧ vU 1 ≤ 8 ∧ vM ≤ 60 ∧ (∀ p, vS p < 12) ∧ (∀ p, vS (12 + p) < 8) ∧ (∀ x, x < vM → vK x = nI 0 ∨ vK x = nI 1 ∨ vK x = nI 2 ∨ vK x = nI 3 ∨ vK x = nI 4)
theorem okM_r {vU : Nat → Nat} {vS : Nat → Nat} {vM : Nat} {vK : Nat → Int32} (h : okM vU vS vM vK) (p : Nat) : mS vS 0 p < 12 := by have := h.2.2.2.1 (12 * 0 + p); exact this
theorem okM_c {vU : Nat → Nat} {vS : Nat → Nat} {vM : Nat} {vK : Nat → Int32} (h : okM vU vS vM vK) (p : Nat) : mS vS 1 p < 8 := h.2.2.2.2.1 p

theorem z_m1lt {M : Nat} {x : Int32} (hM : M < 100000) (h : nI M ≤ x) : nI M + (-1) < x := by
  have h2 := Int32.le_iff_toInt_le.mp h
  rw [nI_toInt (by omega)] at h2
  rw [Int32.lt_iff_toInt_lt]
  cases M with
  | zero => rw [show (nI 0 + (-1) : Int32).toInt = -1 by decide]; omega
  | succ k => rw [show nI (k + 1) + (-1) = nI k from pk_m1 k, nI_toInt (by omega)]; omega
theorem z_lt1 {n : Nat} {x : Int32} (hn : n < 100000) (h : x < 0 ∨ (¬ x < 0 ∧ nI (n + 1) ≤ x)) : x < 0 ∨ (¬ x < 0 ∧ nI n < x) := by
  rcases h with h | ⟨h1, h2⟩
  · exact Or.inl h
  · refine Or.inr ⟨h1, ?_⟩
    have h3 := Int32.le_iff_toInt_le.mp h2
    rw [nI_toInt (by omega)] at h3
    rw [Int32.lt_iff_toInt_lt, nI_toInt (by omega)]
    omega
