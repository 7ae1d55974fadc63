/-! a local forgotten -/
def zkl : List (Option Value) → Nat → List (Option Value)
  | [], _ => []
  | _ :: l, 0 => none :: l
  | a :: l, k + 1 => a :: zkl l k
theorem zkl_len : ∀ (lv : List (Option Value)) (i : Nat), (zkl lv i).length = lv.length
  | [], _ => rfl
  | _ :: _, 0 => rfl
  | _ :: l, i + 1 => by simp [zkl, zkl_len l i]
theorem zl_zkl : ∀ (lv : List (Option Value)) (i j : Nat) (v : Value), zl (zkl lv i) j = some v → zl lv j = some v
  | [], i, j, v, h => by simp [zkl, zl] at h
  | a :: l, 0, 0, v, h => by simp [zkl, zl] at h
  | a :: l, 0, j + 1, v, h => by simpa [zkl, zl] using h
  | a :: l, i + 1, 0, v, h => by simpa [zkl, zl] using h
  | a :: l, i + 1, j + 1, v, h => by
    simp only [zkl, zl] at h ⊢
    exact zl_zkl l i j v h
theorem z_kill {X : zX} {k n : Nat} {ws : va_W} {lv : List (Option Value)} {st : List Value} {pc : Nat} (i : Nat) (kk : zG X k n ws (zkl lv i) st pc) : zG X k n ws lv st pc := by
  obtain ⟨p, E, e, R, s, m, args, below, meth, c, Q, A, nL⟩ := X
  intro H locs ls hP hD hS hL
  exact kk H locs ls hP hD hS ⟨hL.1, hL.2.1, fun j v hj => hL.2.2.1 j v (zl_zkl lv i j v hj), by rw [zkl_len]; exact hL.2.2.2⟩
/-! many cells put back at once, place by place -/
def zlk : List Nat → va_W → Nat → Option (Nat × va_E)
  | i :: is, x :: xs, k => if i = k then some x else zlk is xs k
  | _, _, _ => none
def zpar (is : List Nat) (w1 : va_W) : Nat → va_W → va_W
  | _, [] => []
  | k, x :: ws => (zlk is w1 k).getD x :: zpar is w1 (k + 1) ws
theorem zlk_none : ∀ (is : List Nat) (w1 : va_W) (k : Nat), k ∉ is → zlk is w1 k = none
  | [], _, _, _ => by cases ‹va_W› <;> rfl
  | i :: is, [], k, _ => rfl
  | i :: is, x :: xs, k, h => by
    simp only [zlk]
    rw [if_neg (fun e => h (by rw [e]; exact List.mem_cons_self))]
    exact zlk_none is xs k (fun q => h (List.mem_cons_of_mem _ q))
theorem zpar_skip (is : List Nat) (xs : va_W) (i : Nat) (x : Nat × va_E) : ∀ (ws : va_W) (k : Nat), i < k → zpar (i :: is) (x :: xs) k ws = zpar is xs k ws
  | [], _, _ => rfl
  | y :: ws, k, h => by
    simp only [zpar, zlk]
    rw [if_neg (by omega), zpar_skip is xs i x ws (k + 1) (by omega)]
theorem zpar_set (is : List Nat) (xs : va_W) (x : Nat × va_E) : ∀ (ws : va_W) (k i : Nat), k + i ∉ is → zpar is xs k (ws.set i x) = zpar ((k + i) :: is) (x :: xs) k ws
  | [], _, _, _ => rfl
  | y :: ws, k, 0, h => by
    simp only [List.set_cons_zero, zpar, zlk, Nat.add_zero]
    rw [zlk_none is xs k (by simpa using h), if_pos trivial, zpar_skip is xs k x ws (k + 1) (by omega)]
    rfl
  | y :: ws, k, i + 1, h => by
    simp only [List.set_cons_succ, zpar, zlk]
    rw [if_neg (by omega), zpar_set is xs x ws (k + 1) i (by rw [show k + 1 + i = k + (i + 1) by omega]; exact h), show k + 1 + i = k + (i + 1) by omega]
theorem zput_par : ∀ {is : List Nat}, va_nd is = true → ∀ {w1 ws : va_W}, is.length = w1.length → zput ws is w1 = zpar is w1 0 ws
  | [], _, [], ws, _ => by
    have h : ∀ (k : Nat) (ws : va_W), zpar [] [] k ws = ws := by
      intro k ws
      induction ws generalizing k with
      | nil => rfl
      | cons y ws ih => simp only [zpar, zlk, Option.getD_none, ih]
    exact (h 0 ws).symm
  | [], _, x :: xs, ws, h => by simp at h
  | i :: is, _, [], ws, h => by simp at h
  | i :: is, hn, x :: xs, ws, h => by
    simp only [va_nd, Bool.and_eq_true, decide_eq_true_eq] at hn
    rw [zput, zput_par hn.2 (by simpa using h)]
    have := zpar_set is xs x ws 0 i (by simpa using hn.1)
    simpa using this
