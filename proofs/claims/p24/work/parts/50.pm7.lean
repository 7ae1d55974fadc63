/-! the model: all orders of a text, and a run of them -/
noncomputable def mOq (oo : Nat → Int32) (od : Nat) (a b c d : Int32) : Nat → Int32 := upd (upd (upd (upd oo (4 * od) a) ((4 * od) + 1) b) ((4 * od) + 2) c) ((4 * od) + 3) d
noncomputable def mOd (oo : Nat → Int32) (od : Nat) (a b : Int32) : Nat → Int32 := upd (upd oo (4 * od) a) ((4 * od) + 1) b
/-- one order from p on: where it ends, is it good, the row of orders -/
noncomputable def mRO (tx : Nat → Nat) (ty pl od : Nat) (oo : Nat → Int32) : Nat × Bool × (Nat → Int32) :=
  if zHe tx ty pl = 43 ∨ zHe tx ty pl = 45 then
    (if zHe tx ty (pl + 1) = 114 then ((zRn tx ty 2 (pl + 1 + 1)).2, zDg (zHe tx ty (pl + 1 + 1)), mOd oo od (nI (if zHe tx ty pl = 43 then 0 else 2)) (mNv tx ty 2 (pl + 1 + 1)))
     else if zHe tx ty (pl + 1) = 99 then ((zRn tx ty 2 (pl + 1 + 1)).2, zDg (zHe tx ty (pl + 1 + 1)), mOd oo od (nI (if zHe tx ty pl = 43 then 1 else 3)) (mNv tx ty 2 (pl + 1 + 1)))
     else (pl + 1, false, mOd oo od (nI (if zHe tx ty pl = 43 then 1 else 3)) (nI 0)))
  else if zDg (zHe tx ty pl) = false then ((zRn tx ty 2 pl).2, false, mOq oo od (nI 4) (mNv tx ty 2 pl) (nI 0) (nI 0))
  else if zHe tx ty (zRn tx ty 2 pl).2 = 46 then
    (if zDg (zHe tx ty ((zRn tx ty 2 pl).2 + 1)) = false then ((zRn tx ty 2 ((zRn tx ty 2 pl).2 + 1)).2, false, mOq oo od (nI 4) (mNv tx ty 2 pl) (mNv tx ty 2 ((zRn tx ty 2 pl).2 + 1)) (nI 0))
     else if zHe tx ty (zRn tx ty 2 ((zRn tx ty 2 pl).2 + 1)).2 = 61 then
       ((zRn tx ty 4 ((zRn tx ty 2 ((zRn tx ty 2 pl).2 + 1)).2 + 1)).2, zDg (zHe tx ty ((zRn tx ty 2 ((zRn tx ty 2 pl).2 + 1)).2 + 1)), mOq oo od (nI 4) (mNv tx ty 2 pl) (mNv tx ty 2 ((zRn tx ty 2 pl).2 + 1)) (mNv tx ty 4 ((zRn tx ty 2 ((zRn tx ty 2 pl).2 + 1)).2 + 1)))
     else ((zRn tx ty 2 ((zRn tx ty 2 pl).2 + 1)).2, false, mOq oo od (nI 4) (mNv tx ty 2 pl) (mNv tx ty 2 ((zRn tx ty 2 pl).2 + 1)) (nI 0)))
  else ((zRn tx ty 2 pl).2, false, mOq oo od (nI 4) (mNv tx ty 2 pl) (nI 0) (nI 0))
theorem zNL_ge (tx : Nat → Nat) (ln : Nat) : ∀ d p v, p ≤ (zNL tx ln d p v).2
  | 0, p, v => Nat.le_refl p
  | d + 1, p, v => by
    rw [zNL]
    split
    · have := zNL_ge tx ln d (p + 1) (10 * v + (zHe tx ln p - 48)); omega
    · exact Nat.le_refl p
theorem zRn_ge (tx : Nat → Nat) (ln m p : Nat) : p ≤ (zRn tx ln m p).2 := by
  rw [zRn_d]
  split
  · split
    · exact Nat.le_succ p
    · exact zNL_ge tx ln m p 0
  · exact Nat.le_refl p
theorem zRn_gt {tx : Nat → Nat} {ln m p : Nat} (h : zDg (zHe tx ln p) = true) : p + 1 ≤ (zRn tx ln (m + 1) p).2 := by
  rw [zRn_d, if_pos h]
  split
  · exact Nat.le_refl _
  · rw [zNL_y h]; exact zNL_ge tx ln m (p + 1) _
theorem mRO_le {tx : Nat → Nat} {ty pl od : Nat} {oo : Nat → Int32} (h : pl ≤ ty) : (mRO tx ty pl od oo).1 ≤ ty := by
  unfold mRO
  split
  · rename_i q
    have h1 : pl + 1 ≤ ty := zHe_lt tx (by omega)
    split
    · exact zRn_le (zHe_lt tx (by omega))
    · split
      · exact zRn_le (zHe_lt tx (by omega))
      · exact h1
  · split
    · exact zRn_le h
    · split
      · rename_i q
        have h1 := zHe_lt tx (ln := ty) (p := (zRn tx ty 2 pl).2) (by omega)
        split
        · exact zRn_le h1
        · split
          · exact zRn_le (zHe_lt tx (by omega))
          · exact zRn_le h1
      · exact zRn_le h
theorem mRO_ge (tx : Nat → Nat) (ty pl od : Nat) (oo : Nat → Int32) : pl ≤ (mRO tx ty pl od oo).1 := by
  unfold mRO
  have a := zRn_ge tx ty 2 (pl + 1 + 1)
  have b := zRn_ge tx ty 2 pl
  have c := zRn_ge tx ty 2 ((zRn tx ty 2 pl).2 + 1)
  have d := zRn_ge tx ty 4 ((zRn tx ty 2 ((zRn tx ty 2 pl).2 + 1)).2 + 1)
  split
  · split
    · simp only; omega
    · split
      · simp only; omega
      · simp only; omega
  · split
    · simp only; omega
    · split
      · split
        · simp only; omega
        · split
          · simp only; omega
          · simp only; omega
      · simp only; omega
theorem mRO_gt {tx : Nat → Nat} {ty pl od : Nat} {oo : Nat → Int32} (h : (mRO tx ty pl od oo).2.1 = true) : pl + 3 ≤ (mRO tx ty pl od oo).1 := by
  unfold mRO at h ⊢
  split at h
  · rename_i q
    rw [if_pos q]
    split at h
    · rename_i q2
      rw [if_pos q2]
      have := zRn_gt (ln := ty) (m := 1) h
      simp only; omega
    · rename_i q2
      rw [if_neg q2]
      split at h
      · rename_i q3
        rw [if_pos q3]
        have := zRn_gt (ln := ty) (m := 1) h
        simp only; omega
      · cases h
  · rename_i q
    rw [if_neg q]
    split at h
    · cases h
    · rename_i q1
      rw [if_neg q1]
      split at h
      · rename_i q2
        rw [if_pos q2]
        split at h
        · cases h
        · rename_i q3
          rw [if_neg q3]
          split at h
          · rename_i q4
            rw [if_pos q4]
            have a : pl + 1 ≤ (zRn tx ty 2 pl).2 := zRn_gt (ln := ty) (m := 1) (p := pl) (by simpa using q1)
            have b : (zRn tx ty 2 pl).2 + 1 + 1 ≤ (zRn tx ty 2 ((zRn tx ty 2 pl).2 + 1)).2 := zRn_gt (ln := ty) (m := 1) (p := (zRn tx ty 2 pl).2 + 1) (by simpa using q3)
            have c : (zRn tx ty 2 ((zRn tx ty 2 pl).2 + 1)).2 + 1 + 1 ≤ (zRn tx ty 4 ((zRn tx ty 2 ((zRn tx ty 2 pl).2 + 1)).2 + 1)).2 := zRn_gt (ln := ty) (m := 3) h
            simp only; omega
          · cases h
      · cases h
/-- the rest of the text: place, goodness, number of orders, their row -/
noncomputable def mRL (tx : Nat → Nat) (ty : Nat) : Nat → Nat → Bool → Nat → (Nat → Int32) → Nat × Bool × Nat × (Nat → Int32)
  | 0, pl, gd, od, oo => (pl, gd, od, oo)
  | d + 1, pl, gd, od, oo => if gd = true ∧ zHe tx ty pl = 32 then mRL tx ty d (mRO tx ty (pl + 1) od oo).1 (mRO tx ty (pl + 1) od oo).2.1 (od + 1) (mRO tx ty (pl + 1) od oo).2.2 else (pl, gd, od, oo)
theorem mRL_y {tx : Nat → Nat} {ty d pl od : Nat} {gd : Bool} {oo : Nat → Int32} (h1 : gd = true) (h2 : zHe tx ty pl = 32) : mRL tx ty (d + 1) pl gd od oo = mRL tx ty d (mRO tx ty (pl + 1) od oo).1 (mRO tx ty (pl + 1) od oo).2.1 (od + 1) (mRO tx ty (pl + 1) od oo).2.2 := by rw [mRL, if_pos ⟨h1, h2⟩]
theorem mRL_n {tx : Nat → Nat} {ty d pl od : Nat} {gd : Bool} {oo : Nat → Int32} (h : ¬ (gd = true ∧ zHe tx ty pl = 32)) : mRL tx ty d pl gd od oo = (pl, gd, od, oo) := by
  cases d with
  | zero => rw [mRL]
  | succ d => rw [mRL, if_neg h]
noncomputable def mRA9 (tx : Nat → Nat) (ty : Nat) (oo : Nat → Int32) : Nat × Bool × Nat × (Nat → Int32) := mRL tx ty 60 (mRO tx ty 0 0 oo).1 (mRO tx ty 0 0 oo).2.1 1 (mRO tx ty 0 0 oo).2.2
/-- the order at place k of the row, carried out -/
noncomputable def mOb (s : zMs) (au : Int32) (oo : Nat → Int32) (k : Nat) : Int32 × zMs :=
  if oo (4 * k) = nI 4 then mSet s au (oo (4 * k + 1)) (oo (4 * k + 2)) (oo (4 * k + 3))
  else if oo (4 * k) = nI 0 then mIns s au (nI 0) (oo (4 * k + 1)) else if oo (4 * k) = nI 1 then mIns s au (nI 1) (oo (4 * k + 1))
  else if oo (4 * k) = nI 2 then mRem s au (nI 0) (oo (4 * k + 1)) else mRem s au (nI 1) (oo (4 * k + 1))
noncomputable def mCO (s : zMs) (au : Int32) (oo : Nat → Int32) : Nat → zMs
  | 0 => s
  | k + 1 => (mOb (mCO s au oo k) au oo k).2
noncomputable def mCe (s : zMs) (au : Int32) (oo : Nat → Int32) : Nat → Bool := fun k => decide ((mOb (mCO s au oo k) au oo k).1 < 0)
noncomputable def mCn (s : zMs) (au : Int32) (oo : Nat → Int32) (od : Nat) : Nat := zix (mCe s au oo) od
noncomputable def mCs (s : zMs) (au : Int32) (oo : Nat → Int32) (od : Nat) : zMs := mCO s au oo (if mCn s au oo od < od then mCn s au oo od + 1 else od)
def kd5 (x : Int32) : Prop := x = nI 0 ∨ x = nI 1 ∨ x = nI 2 ∨ x = nI 3 ∨ x = nI 4
theorem upd_ne {f : Nat → Int32} {i j : Nat} {v : Int32} (h : j ≠ i) : upd f i v j = f j := by simp only [upd]; rw [if_neg h]
theorem upd_eq {f : Nat → Int32} {i : Nat} {v : Int32} : upd f i v i = v := by simp [upd]
theorem mOq_kd {oo : Nat → Int32} {od k : Nat} {a b c d : Int32} (h : ∀ k, k < od → kd5 (oo (4 * k))) (ha : kd5 a) (hk : k < od + 1) : kd5 (mOq oo od a b c d (4 * k)) := by
  unfold mOq
  rw [upd_ne (by omega), upd_ne (by omega), upd_ne (by omega)]
  rcases Nat.lt_or_ge k od with q | q
  · rw [upd_ne (by omega)]; exact h k q
  · rw [show k = od by omega, upd_eq]; exact ha
theorem mOd_kd {oo : Nat → Int32} {od k : Nat} {a b : Int32} (h : ∀ k, k < od → kd5 (oo (4 * k))) (ha : kd5 a) (hk : k < od + 1) : kd5 (mOd oo od a b (4 * k)) := by
  unfold mOd
  rw [upd_ne (by omega)]
  rcases Nat.lt_or_ge k od with q | q
  · rw [upd_ne (by omega)]; exact h k q
  · rw [show k = od by omega, upd_eq]; exact ha
theorem kd5_4 : kd5 (nI 4) := Or.inr (Or.inr (Or.inr (Or.inr rfl)))
theorem kd5_a (c : Prop) [Decidable c] : kd5 (nI (if c then 0 else 2)) := by
  split
  · exact Or.inl rfl
  · exact Or.inr (Or.inr (Or.inl rfl))
theorem kd5_b (c : Prop) [Decidable c] : kd5 (nI (if c then 1 else 3)) := by
  split
  · exact Or.inr (Or.inl rfl)
  · exact Or.inr (Or.inr (Or.inr (Or.inl rfl)))
theorem mRO_kd {tx : Nat → Nat} {ty pl od : Nat} {oo : Nat → Int32} (h : ∀ k, k < od → kd5 (oo (4 * k))) : ∀ k, k < od + 1 → kd5 ((mRO tx ty pl od oo).2.2 (4 * k)) := by
  intro k hk
  unfold mRO
  split
  · split
    · exact mOd_kd h (kd5_a _) hk
    · split
      · exact mOd_kd h (kd5_b _) hk
      · exact mOd_kd h (kd5_b _) hk
  · split
    · exact mOq_kd h kd5_4 hk
    · split
      · split
        · exact mOq_kd h kd5_4 hk
        · split
          · exact mOq_kd h kd5_4 hk
          · exact mOq_kd h kd5_4 hk
      · exact mOq_kd h kd5_4 hk
