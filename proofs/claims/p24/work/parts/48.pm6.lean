/-! the model: reading orders from the text -/
theorem zDg_f {c : Nat} (h : ¬ (48 ≤ c ∧ c ≤ 57)) : zDg c = false := by
  cases e : zDg c with
  | false => rfl
  | true => exact absurd (zDg_t e) h
theorem zDg_y {c : Nat} (h : 48 ≤ c ∧ c ≤ 57) : zDg c = true := by simp [zDg, h.1, h.2]
theorem zHe_in (tx : Nat → Nat) {ln p : Nat} (h : p < ln) : zHe tx ln p = tx p := by rw [zHe_d, if_pos h]
/-- the value that is kept of a number: 0 where there is none -/
noncomputable def mNv (tx : Nat → Nat) (ln d p : Nat) : Int32 := if zDg (zHe tx ln p) = true then (zRn tx ln d p).1 else nI 0
theorem zRn_n {tx : Nat → Nat} {ln m p : Nat} (h : zDg (zHe tx ln p) = false) : zRn tx ln m p = (-5, p) := by rw [zRn_d, if_neg (by rw [h]; decide)]
theorem zRn_0 {tx : Nat → Nat} {ln m p : Nat} (h : zHe tx ln p = 48) : zRn tx ln m p = (nI 0, p + 1) := by rw [zRn_d, if_pos (by rw [h]; decide), if_pos h]
theorem zRn_p {tx : Nat → Nat} {ln m p : Nat} (h : zDg (zHe tx ln p) = true) (h2 : zHe tx ln p ≠ 48) : zRn tx ln m p = (nI (zNL tx ln m p 0).1, (zNL tx ln m p 0).2) := by rw [zRn_d, if_pos h, if_neg h2]
theorem zNL_y {tx : Nat → Nat} {ln d p v : Nat} (h : zDg (zHe tx ln p) = true) : zNL tx ln (d + 1) p v = zNL tx ln d (p + 1) (10 * v + (zHe tx ln p - 48)) := by
  rw [zNL, if_pos h]
theorem zNL_n {tx : Nat → Nat} {ln d p v : Nat} (h : zDg (zHe tx ln p) = false) : zNL tx ln (d + 1) p v = (v, p) := by
  rw [zNL, if_neg (by rw [h]; decide)]
theorem zNL_z {tx : Nat → Nat} {ln p v : Nat} : zNL tx ln 0 p v = (v, p) := by rw [zNL]
