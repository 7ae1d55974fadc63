/-! class and model hold the same table: the relation, and what is told by both -/
theorem zf_cg {p q : Nat → Bool} : ∀ {n : Nat}, (∀ j, j < n → p j = q j) → zf p n = zf q n
  | 0, _ => rfl
  | n + 1, h => by rw [zf, zf, zf_cg (n := n) (fun j hj => h j (by omega)), h n (Nat.lt_succ_self n)]
theorem zc_cg {p q : Nat → Bool} : ∀ {n : Nat}, (∀ j, j < n → p j = q j) → zc p n = zc q n
  | 0, _ => rfl
  | n + 1, h => by rw [zc, zc, zc_cg (n := n) (fun j hj => h j (by omega)), h n (Nat.lt_succ_self n)]
theorem zgo_cg {p q : Nat → Bool} : ∀ {n : Nat}, (∀ j, j < n → p j = q j) → zgo p n = zgo q n
  | 0, _ => rfl
  | n + 1, h => by rw [zgo, zgo, zgo_cg (n := n) (fun j hj => h j (by omega)), h n (Nat.lt_succ_self n)]
theorem zix_cg {p q : Nat → Bool} : ∀ {n : Nat}, (∀ j, j < n → p j = q j) → zix p n = zix q n
  | 0, _ => rfl
  | n + 1, h => by rw [zix, zix, zix_cg (n := n) (fun j hj => h j (by omega)), h n (Nat.lt_succ_self n)]
theorem zu_cg {f g : Nat → Int32} : ∀ {n : Nat}, (∀ j, j < n → f j = g j) → zu f n = zu g n
  | 0, _ => rfl
  | n + 1, h => by rw [zu, zu, zu_cg (n := n) (fun j hj => h j (by omega)), h n (Nat.lt_succ_self n)]
theorem zgo_p {p : Nat → Bool} : ∀ {n k : Nat}, zgo p n = some k → p k = true
  | 0, k, h => by simp [zgo] at h
  | n + 1, k, h => by
    simp only [zgo] at h
    split at h
    · rename_i q; cases h; exact q
    · exact zgo_p h
/-- counts -/
def RC (S : zSt) (s : zMs) : Prop := nU s 0 = rU S ∧ nU s 1 = cU S ∧ nM s = mK S ∧ nT s = tK S
/-- changes: kinds, authors, states, values -/
def RK (S : zSt) (s : zMs) : Prop := ∀ x, x < mK S → nK s x = fA S (6 * x) ∧ nY s x = fA S (6 * x + 1) ∧ nZ s x = fA S (6 * x + 2) ∧ (fA S (6 * x) = nI 4 → nV s x = fA S (6 * x + 5)) ∧ (¬ fA S (6 * x) = nI 4 → fA S (6 * x + 5) = -5) ∧ kd5 (fA S (6 * x))
/-- the lines of changes on one axis: slots here, names there -/
def RX (M u : Nat) (f g : Nat → Int32) (w : Nat) (nm mn : Nat → Int32) : Prop := ∀ x, x < M → (∀ p, p < u → (g (6 * x + w) = f p ↔ nm x = mn p)) ∧ (g (6 * x + w) = -5 ∨ ∃ p, p < u ∧ g (6 * x + w) = f p)
/-- the slots in order: numbers, each once -/
def RO (f : Nat → Int32) (n : Nat) : Prop := (∀ j, j < n → ∃ k, k < n ∧ f j = nI k) ∧ ∀ i j, i < n → j < n → f i = f j → i = j
/-- base values -/
def RB (S : zSt) (s : zMs) : Prop := ∀ p q, p < rU S → q < cU S → zBa (bS S) (rO S p) (cO S q) = mB (nB s) (nS s) p q
/-- names: of lines, and of changes, are below the next one -/
def RN (s : zMs) (B : Nat) : Prop := nX s ≤ B ∧ (∀ p, p < nU s 0 → ∃ v, v < nX s ∧ mN (nS s) (nN s) 0 p = nI v) ∧ (∀ p, p < nU s 1 → ∃ v, v < nX s ∧ mN (nS s) (nN s) 1 p = nI v) ∧ ∀ x, x < nM s → (nR s x = -5 ∨ ∃ v, v < nX s ∧ nR s x = nI v) ∧ (nC s x = -5 ∨ ∃ v, v < nX s ∧ nC s x = nI v)
/-- kinds and lines: a change of a row has no column, and so on; pending ones have their lines -/
def RP (S : zSt) (s : zMs) : Prop := ∀ x, x < mK S →
  ((fA S (6 * x) = nI 2 ∨ fA S (6 * x) = nI 3) → fA S (6 * x + 3) = -5 ∧ nR s x = -5) ∧ ((fA S (6 * x) = nI 0 ∨ fA S (6 * x) = nI 1) → fA S (6 * x + 4) = -5 ∧ nC s x = -5) ∧
  (fA S (6 * x + 2) = 0 → (fA S (6 * x) = nI 0 ∨ fA S (6 * x) = nI 1 ∨ fA S (6 * x) = nI 4 → ∃ p, p < rU S ∧ fA S (6 * x + 3) = rO S p) ∧ (fA S (6 * x) = nI 2 ∨ fA S (6 * x) = nI 3 ∨ fA S (6 * x) = nI 4 → ∃ p, p < cU S ∧ fA S (6 * x + 4) = cO S p))
/-- one pending insertion and one pending removal of a line at most; the insertion is the elder -/
def RQ (S : zSt) : Prop := ∀ x y, x < mK S → y < mK S → fA S (6 * x + 2) = 0 → fA S (6 * y + 2) = 0 → fA S (6 * x + 3) = fA S (6 * y + 3) → fA S (6 * x + 4) = fA S (6 * y + 4) →
  (fA S (6 * x) = fA S (6 * y) → ¬ fA S (6 * x) = nI 4 → x = y) ∧ (fA S (6 * x) = nI 0 → fA S (6 * y) = nI 1 → x < y) ∧ (fA S (6 * x) = nI 2 → fA S (6 * y) = nI 3 → x < y)
def slM (s : zMs) : Prop := (∀ p q, p < nU s 0 → q < nU s 0 → mS (nS s) 0 p = mS (nS s) 0 q → p = q) ∧ (∀ p q, p < nU s 1 → q < nU s 1 → mS (nS s) 1 p = mS (nS s) 1 q → p = q)
/-- the relation -/
def RR (S : zSt) (s : zMs) (B : Nat) : Prop := (gS S ∧ okM (nU s) (nS s) (nM s) (nK s) ∧ nmM (nU s) (nS s) (nN s) ∧ slM s) ∧ RC S s ∧ RK S s ∧ (RX (mK S) (rU S) (rO S) (fA S) 3 (nR s) (mN (nS s) (nN s) 0) ∧ RX (mK S) (cU S) (cO S) (fA S) 4 (nC s) (mN (nS s) (nN s) 1)) ∧ (RO (rO S) 12 ∧ RO (cO S) 8) ∧ RB S s ∧ RN s B ∧ RP S s ∧ RQ S
theorem dec_iff {p q : Prop} [Decidable p] [Decidable q] (h : p ↔ q) : decide p = decide q := by
  by_cases hp : p
  · rw [decide_eq_true hp, decide_eq_true (h.mp hp)]
  · rw [decide_eq_false hp, decide_eq_false (fun z => hp (h.mpr z))]
theorem RR_Lr {S : zSt} {s : zMs} {B : Nat} (h : RR S s B) {kd p x : Nat} (hkd : kd < 2) (hp : p < rU S) (hx : x < mK S) : pLn (fA S) (nI kd) 3 (rO S p) x = mLn (nZ s) (nK s) (nR s) (nC s) kd (mN (nS s) (nN s) 0 p) x := by
  obtain ⟨-, -, hK, ⟨hX, -⟩, -⟩ := h
  obtain ⟨k1, -, k3, -⟩ := hK x hx
  unfold pLn mLn
  rw [k1, k3, if_pos hkd, dec_iff ((hX x hx).1 p hp)]
theorem RR_Lc {S : zSt} {s : zMs} {B : Nat} (h : RR S s B) {kd p x : Nat} (hkd : ¬ kd < 2) (hp : p < cU S) (hx : x < mK S) : pLn (fA S) (nI kd) 4 (cO S p) x = mLn (nZ s) (nK s) (nR s) (nC s) kd (mN (nS s) (nN s) 1 p) x := by
  obtain ⟨-, -, hK, ⟨-, hX⟩, -⟩ := h
  obtain ⟨k1, -, k3, -⟩ := hK x hx
  unfold pLn mLn
  rw [k1, k3, if_neg hkd, dec_iff ((hX x hx).1 p hp)]
def tIn (s : zMs) (ax p : Nat) : Int32 := mIn (nZ s) (nK s) (nR s) (nC s) (nS s) (nN s) (nM s) ax p
def tRm (s : zMs) (ax p : Nat) : Int32 := mRm (nZ s) (nK s) (nR s) (nC s) (nS s) (nN s) (nM s) ax p
theorem RR_rIn {S : zSt} {s : zMs} {B : Nat} (h : RR S s B) {p : Nat} (hp : p < rU S) : rIn S p = tIn s 0 p := by
  have hM := h.2.1.2.2.1
  unfold rIn tIn mIn
  rw [hM]
  exact zf_cg (fun x hx => RR_Lr h (by decide) hp hx)
theorem RR_rRm {S : zSt} {s : zMs} {B : Nat} (h : RR S s B) {p : Nat} (hp : p < rU S) : rRm S p = tRm s 0 p := by
  have hM := h.2.1.2.2.1
  unfold rRm tRm mRm
  rw [hM]
  exact zf_cg (fun x hx => RR_Lr h (by decide) hp hx)
theorem RR_cIn {S : zSt} {s : zMs} {B : Nat} (h : RR S s B) {p : Nat} (hp : p < cU S) : cIn S p = tIn s 1 p := by
  have hM := h.2.1.2.2.1
  unfold cIn tIn mIn
  rw [hM]
  exact zf_cg (fun x hx => RR_Lc h (by decide) hp hx)
theorem RR_cRm {S : zSt} {s : zMs} {B : Nat} (h : RR S s B) {p : Nat} (hp : p < cU S) : cRm S p = tRm s 1 p := by
  have hM := h.2.1.2.2.1
  unfold cRm tRm mRm
  rw [hM]
  exact zf_cg (fun x hx => RR_Lc h (by decide) hp hx)
/-- settings of a cell -/
theorem RR_S {S : zSt} {s : zMs} {B : Nat} (h : RR S s B) {i j x : Nat} (hi : i < rU S) (hj : j < cU S) (hx : x < mK S) : pS (fA S) (rO S i) (cO S j) x = mSt (nZ s) (nK s) (nR s) (nC s) (mN (nS s) (nN s) 0 i) (mN (nS s) (nN s) 1 j) x := by
  obtain ⟨-, -, hK, ⟨hX, hY⟩, -⟩ := h
  obtain ⟨k1, -, k3, -⟩ := hK x hx
  unfold pS mSt
  rw [k1, k3, dec_iff ((hX x hx).1 i hi), dec_iff ((hY x hx).1 j hj)]
/-- what a cell shows under a number -/
theorem RR_VU {S : zSt} {s : zMs} {B : Nat} (h : RR S s B) {i j n : Nat} (hi : i < rU S) (hj : j < cU S) : zVU (bS S) (fA S) (mK S) n (rO S i) (cO S j) = mVB (nZ s) (nK s) (nR s) (nC s) (nB s) (nS s) (nV s) (min n (mK S)) (mN (nS s) (nN s) 0 i) (mN (nS s) (nN s) 1 j) i j := by
  unfold zVU mVB
  have e : zgo (mSt (nZ s) (nK s) (nR s) (nC s) (mN (nS s) (nN s) 0 i) (mN (nS s) (nN s) 1 j)) (min n (mK S)) = zgo (pS (fA S) (rO S i) (cO S j)) (min n (mK S)) := zgo_cg (fun x hx => (RR_S h hi hj (by omega)).symm)
  rw [e]
  cases hz : zgo (pS (fA S) (rO S i) (cO S j)) (min n (mK S)) with
  | none => exact h.2.2.2.2.2.1 i j hi hj
  | some k =>
    have hk : k < mK S := by have := zgo_lt hz; omega
    have hp : pS (fA S) (rO S i) (cO S j) k = true := zgo_p hz
    simp only [pS, Bool.and_eq_true, decide_eq_true_eq] at hp
    exact ((h.2.2.1 k hk).2.2.2.1 hp.2.1).symm
