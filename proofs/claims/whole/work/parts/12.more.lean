/-! a local forgotten -/
def zkl : List (Option Value) → Nat → List (Option Value)
  | [], _ => []
  | _ :: l, 0 => none :: l
  | a :: l, k + 1 => a :: zkl l k
theorem zkl_len : ∀ (lv : List (Option Value)) (i : Nat), (zkl lv i).length = lv.length
  | [], _ => rfl
  | _ :: _, 0 => rfl
  | _ :: l, i + 1 => by simp [zkl, zkl_len l i]
theorem zl_zkl : ∀ (lv : List (Option Value)) (i j : Nat) (v : Value), zl (zkl lv i) j = some v → zl lv j = some v
  | [], i, j, v, h => by simp [zkl, zl] at h
  | a :: l, 0, 0, v, h => by simp [zkl, zl] at h
  | a :: l, 0, j + 1, v, h => by simpa [zkl, zl] using h
  | a :: l, i + 1, 0, v, h => by simpa [zkl, zl] using h
  | a :: l, i + 1, j + 1, v, h => by
    simp only [zkl, zl] at h ⊢
    exact zl_zkl l i j v h
theorem z_kill {X : zX} {k n : Nat} {ws : va_W} {lv : List (Option Value)} {st : List Value} {pc : Nat} (i : Nat) (kk : zG X k n ws (zkl lv i) st pc) : zG X k n ws lv st pc := by
  obtain ⟨p, E, e, R, s, m, args, below, meth, c, Q, A, nL⟩ := X
  intro H locs ls hP hD hS hL
  exact kk H locs ls hP hD hS ⟨hL.1, hL.2.1, fun j v hj => hL.2.2.1 j v (zl_zkl lv i j v hj), by rw [zkl_len]; exact hL.2.2.2⟩
