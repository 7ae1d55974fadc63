/-! what the changes' rows say: g is the row of facts, six to a change -/
def pLn (g : Nat → Int32) (kd : Int32) (w : Nat) (sl : Int32) : Nat → Bool := fun j => decide (g (6 * j + 2) = 0) && (decide (g (6 * j) = kd) && decide (g (6 * j + w) = sl))
def pS (g : Nat → Int32) (r c : Int32) : Nat → Bool := fun j => decide (g (6 * j + 2) = 0) && (decide (g (6 * j) = nI 4) && (decide (g (6 * j + 3) = r) && decide (g (6 * j + 4) = c)))
def pK (p : Nat → Bool) (x : Int32) : Nat → Bool := fun j => p j && decide (nI (zc p j) = x)
def pSL (g : Nat → Int32) (w : Nat) (sl : Int32) : Nat → Bool := fun j => decide (g (6 * j) = nI 4) && (decide (g (6 * j + 2) = 0) && decide (g (6 * j + w) = sl))
def pIS (g : Nat → Int32) (au stt : Int32) : Nat → Bool := fun j => decide (g (6 * j + 2) = stt) && (decide (au = -1) || decide (g (6 * j + 1) = au))
def pPO (g : Nat → Int32) (kd : Int32) : Nat → Bool := fun j => decide (g (6 * j) = kd) && decide (g (6 * j + 2) = 0)
def zrs (g : Nat → Int32) (a b : Nat) : Bool := decide (g (6 * a + 2) = 0) && (decide (g (6 * b + 2) = 0) && (if g (6 * a) = nI 1 then decide (g (6 * b) = 0) && decide (g (6 * a + 3) = g (6 * b + 3)) else if g (6 * a) = nI 3 then decide (g (6 * b) = nI 2) && decide (g (6 * a + 4) = g (6 * b + 4)) else if g (6 * a) = nI 4 then (decide (g (6 * b) = 0) && decide (g (6 * a + 3) = g (6 * b + 3))) || ((decide (g (6 * b) = nI 2) && decide (g (6 * a + 4) = g (6 * b + 4))) || (decide (g (6 * b) = nI 4) && (decide (g (6 * a + 3) = g (6 * b + 3)) && (decide (g (6 * a + 4) = g (6 * b + 4)) && decide (b < a))))) else false))
def zAdd (g : Nat → Int32) (M : Nat) (kd au r c v : Int32) : Nat → Int32 := upd (upd (upd (upd (upd (upd g (6 * M) kd) (6 * M + 1) au) (6 * M + 2) (nI 0)) (6 * M + 3) r) (6 * M + 4) c) (6 * M + 5) v
/-- the state of the first k changes that p holds at is set to v -/
def zMk (g : Nat → Int32) (p : Nat → Bool) (v : Int32) (k : Nat) : Nat → Int32 := fun i => if i % 6 = 2 ∧ i / 6 < k ∧ p (i / 6) = true then v else g i
theorem zMk_0 (g : Nat → Int32) (p : Nat → Bool) (v : Int32) : zMk g p v 0 = g := by funext i; simp [zMk]
theorem zMk_n {g : Nat → Int32} {p : Nat → Bool} {v : Int32} {k : Nat} (h : p k = false) : zMk g p v (k + 1) = zMk g p v k := by
  funext i
  simp only [zMk]
  by_cases hk : i / 6 = k
  · rw [hk, h]; simp
  · simp only [show (i / 6 < k + 1) ↔ (i / 6 < k) from ⟨fun q => by omega, fun q => by omega⟩]
theorem zMk_y {g : Nat → Int32} {p : Nat → Bool} {v : Int32} {k : Nat} (h : p k = true) : zMk g p v (k + 1) = upd (zMk g p v k) (6 * k + 2) v := by
  funext i
  simp only [zMk, upd]
  by_cases hi : i = 6 * k + 2
  · rw [if_pos hi, if_pos ⟨by omega, by omega, by rw [show i / 6 = k by omega]; exact h⟩]
  · rw [if_neg hi]
    by_cases hk : i / 6 = k
    · rw [if_neg (fun q => hi (by omega)), if_neg (fun q => hi (by omega))]
    · simp only [show (i / 6 < k + 1) ↔ (i / 6 < k) from ⟨fun q => by omega, fun q => by omega⟩]
theorem zMk_ge {g : Nat → Int32} {p : Nat → Bool} {v : Int32} {k j w : Nat} (h : k ≤ j) (hw : w < 6) : zMk g p v k (6 * j + w) = g (6 * j + w) := by
  simp only [zMk]
  rw [if_neg (fun q => by omega)]
theorem zMk_g0 {g : Nat → Int32} {p : Nat → Bool} {v : Int32} {k j : Nat} (h : k ≤ j) : zMk g p v k (6 * j) = g (6 * j) := zMk_ge (w := 0) h (by decide)
/-- a line of slot sl is left (w: 3 rows, 4 columns), the first k changes done -/
def zLv (g : Nat → Int32) (w : Nat) (sl : Int32) (k : Nat) : Nat → Int32 := fun i => if i / 6 < k ∧ g (6 * (i / 6) + w) = sl then (if i % 6 = w then -5 else if i % 6 = 2 ∧ g i = 0 then nI 3 else g i) else g i
theorem zLv_0 (g : Nat → Int32) (w : Nat) (sl : Int32) : zLv g w sl 0 = g := by funext i; simp [zLv]
theorem zLv_ge {g : Nat → Int32} {w : Nat} {sl : Int32} {k j u : Nat} (h : k ≤ j) (hw : u < 6) : zLv g w sl k (6 * j + u) = g (6 * j + u) := by
  simp only [zLv]
  rw [if_neg (fun q => by omega)]
theorem zLv_n {g : Nat → Int32} {w : Nat} {sl : Int32} {k : Nat} (h : ¬ g (6 * k + w) = sl) : zLv g w sl (k + 1) = zLv g w sl k := by
  funext i
  simp only [zLv]
  by_cases hk : i / 6 = k
  · rw [hk, if_neg (fun q => h q.2), if_neg (fun q => h q.2)]
  · simp only [show (i / 6 < k + 1) ↔ (i / 6 < k) from ⟨fun q => by omega, fun q => by omega⟩]
theorem zLv_y {g : Nat → Int32} {w : Nat} {sl : Int32} {k : Nat} (hw : w < 6) (hw2 : w ≠ 2) (h : g (6 * k + w) = sl) (h2 : g (6 * k + 2) = 0) : zLv g w sl (k + 1) = upd (upd (zLv g w sl k) (6 * k + 2) (nI 3)) (6 * k + w) (-5) := by
  funext i
  simp only [zLv, upd]
  by_cases hk : i / 6 = k
  · rw [if_pos ⟨by omega, by rw [hk]; exact h⟩, if_neg (c := i / 6 < k ∧ _) (fun q => by omega)]
    by_cases h1 : i = 6 * k + w
    · rw [if_pos h1, if_pos (by omega)]
    · rw [if_neg h1, if_neg (by omega)]
      by_cases h3 : i = 6 * k + 2
      · rw [if_pos h3, if_pos ⟨by omega, by rw [h3]; exact h2⟩]
      · rw [if_neg h3, if_neg (fun q => h3 (by omega))]
  · rw [if_neg (c := i = 6 * k + w) (by omega), if_neg (c := i = 6 * k + 2) (by omega)]
    simp only [show (i / 6 < k + 1) ↔ (i / 6 < k) from ⟨fun q => by omega, fun q => by omega⟩]
theorem zLv_z {g : Nat → Int32} {w : Nat} {sl : Int32} {k : Nat} (hw : w < 6) (h : g (6 * k + w) = sl) (h2 : ¬ g (6 * k + 2) = 0) : zLv g w sl (k + 1) = upd (zLv g w sl k) (6 * k + w) (-5) := by
  funext i
  simp only [zLv, upd]
  by_cases hk : i / 6 = k
  · rw [if_pos ⟨by omega, by rw [hk]; exact h⟩, if_neg (c := i / 6 < k ∧ _) (fun q => by omega)]
    by_cases h1 : i = 6 * k + w
    · rw [if_pos h1, if_pos (by omega)]
    · rw [if_neg h1, if_neg (by omega), if_neg (fun q => h2 (by rw [show 6 * k + 2 = i by omega]; exact q.2))]
  · rw [if_neg (c := i = 6 * k + w) (by omega)]
    simp only [show (i / 6 < k + 1) ↔ (i / 6 < k) from ⟨fun q => by omega, fun q => by omega⟩]
