/-! the table's state as one value -/
abbrev zSt : Type := (Nat → Int32) × Nat × (Nat → Int32) × Nat × (Nat → Int32) × (Nat → Int32) × Nat × Bool
def rO (S : zSt) : Nat → Int32 := S.1
def rU (S : zSt) : Nat := S.2.1
def cO (S : zSt) : Nat → Int32 := S.2.2.1
def cU (S : zSt) : Nat := S.2.2.2.1
def bS (S : zSt) : Nat → Int32 := S.2.2.2.2.1
def fA (S : zSt) : Nat → Int32 := S.2.2.2.2.2.1
def mK (S : zSt) : Nat := S.2.2.2.2.2.2.1
def tK (S : zSt) : Bool := S.2.2.2.2.2.2.2
def okS (S : zSt) : Prop := rU S ≤ 12 ∧ cU S ≤ 8 ∧ mK S ≤ 60
def zsa (f : Nat → Int32) (u : Nat) (x : Int32) : Int32 := if x < 0 ∨ nI u ≤ x then -5 else f x.toNatClampNeg
def zInR (S : zSt) (j : Nat) : zSt := (zOp (rO S) (rU S) j, rU S + 1, cO S, cU S, zClR (bS S) (rO S (rU S)) 8, fA S, mK S, tK S)
def zInC (S : zSt) (j : Nat) : zSt := (rO S, rU S, zOp (cO S) (cU S) j, cU S + 1, zClC (bS S) (cO S (cU S)) 12, fA S, mK S, tK S)
def zNew (S : zSt) (kd au r c v : Int32) : zSt := (rO S, rU S, cO S, cU S, bS S, zAdd (fA S) (mK S) kd au r c v, mK S + 1, tK S)
def zDrR (S : zSt) (sl : Int32) : zSt := (zCl (rO S) (rU S) sl, zClu (rO S) (rU S) sl, cO S, cU S, bS S, zLv (fA S) 3 sl (mK S), mK S, tK S)
def zDrC (S : zSt) (sl : Int32) : zSt := (rO S, rU S, zCl (cO S) (cU S) sl, zClu (cO S) (cU S) sl, bS S, zLv (fA S) 4 sl (mK S), mK S, tK S)
def zFa (S : zSt) (g : Nat → Int32) : zSt := (rO S, rU S, cO S, cU S, bS S, g, mK S, tK S)
def zBs (S : zSt) (fb : Nat → Int32) : zSt := (rO S, rU S, cO S, cU S, fb, fA S, mK S, tK S)
theorem zClu_le (f : Nat → Int32) (u : Nat) (sl : Int32) : zClu f u sl ≤ u := by
  rw [zClu]
  split <;> omega
theorem okS_DrR {S : zSt} {sl : Int32} (h : okS S) : okS (zDrR S sl) := ⟨Nat.le_trans (zClu_le _ _ _) h.1, h.2⟩
theorem okS_DrC {S : zSt} {sl : Int32} (h : okS S) : okS (zDrC S sl) := ⟨h.1, Nat.le_trans (zClu_le _ _ _) h.2.1, h.2.2⟩
theorem okS_Fa {S : zSt} {g : Nat → Int32} (h : okS S) : okS (zFa S g) := h
theorem okS_Bs {S : zSt} {g : Nat → Int32} (h : okS S) : okS (zBs S g) := h
/-- one change accepted -/
def zA1 (S : zSt) (x : Nat) : zSt := zFa S (upd (fA S) (6 * x + 2) (nI 1))
def zAA (S : zSt) (x : Nat) : zSt :=
  if fA (zA1 S x) (6 * x) = nI 1 then zDrR (zA1 S x) (fA (zA1 S x) (6 * x + 3))
  else if fA (zA1 S x) (6 * x) = nI 3 then zDrC (zA1 S x) (fA (zA1 S x) (6 * x + 4))
  else if fA (zA1 S x) (6 * x) = nI 4 then zBs (zA1 S x) (zPb (bS S) (fA (zA1 S x) (6 * x + 3)) (fA (zA1 S x) (6 * x + 4)) (fA (zA1 S x) (6 * x + 5)))
  else zA1 S x
theorem okS_AA {S : zSt} {x : Nat} (h : okS S) : okS (zAA S x) := by
  have h1 : okS (zA1 S x) := h
  unfold zAA
  split
  · exact okS_DrR h1
  · split
    · exact okS_DrC h1
    · split
      · exact h1
      · exact h1
theorem mK_AA (S : zSt) (x : Nat) : mK (zAA S x) = mK S := by
  unfold zAA
  split
  · rfl
  · split
    · rfl
    · split <;> rfl
/-- the changes below k on which x rests, accepted one by one -/
def zAL (S : zSt) (x : Nat) : Nat → zSt × Nat
  | 0 => (S, 0)
  | k + 1 => if zrs (fA (zAL S x k).1) x k = true then (zAA (zAL S x k).1 k, (zAL S x k).2 + 1) else zAL S x k
theorem zAL_ok {S : zSt} {x : Nat} (h : okS S) : ∀ k, okS (zAL S x k).1 ∧ mK (zAL S x k).1 = mK S ∧ (zAL S x k).2 ≤ k
  | 0 => ⟨h, rfl, Nat.le_refl _⟩
  | k + 1 => by
    obtain ⟨h1, h2, h3⟩ := zAL_ok h k (x := x)
    simp only [zAL]
    split
    · exact ⟨okS_AA h1, (mK_AA _ _).trans h2, by simp only; omega⟩
    · exact ⟨h1, h2, by omega⟩
def zAW (S : zSt) (x : Nat) : zSt := zAA (zAL S x (mK S)).1 x
def zAWn (S : zSt) (x : Nat) : Nat := (zAL S x (mK S)).2 + 1
theorem zAW_ok {S : zSt} {x : Nat} (h : okS S) : okS (zAW S x) ∧ mK (zAW S x) = mK S ∧ zAWn S x ≤ mK S + 1 := ⟨okS_AA (zAL_ok h _).1, (mK_AA _ _).trans (zAL_ok h _).2.1, Nat.succ_le_succ (zAL_ok h _).2.2⟩
theorem zrs_self (g : Nat → Int32) (x : Nat) : zrs g x x = false := by
  unfold zrs
  cases h : decide (g (6 * x + 2) = 0) with
  | false => rfl
  | true =>
    simp only [Bool.true_and]
    split
    · rename_i e; rw [e]; rfl
    · split
      · rename_i e; rw [e]; rfl
      · split
        · rename_i e; rw [e]; simp [zz_0, nI_eq]
        · rfl
theorem zMk_nf {g : Nat → Int32} {p : Nat → Bool} {v : Int32} {k j w : Nat} (h : p j = false) (hw : w < 6) : zMk g p v k (6 * j + w) = g (6 * j + w) := by
  simp only [zMk]
  rw [if_neg]
  rintro ⟨-, -, h3⟩
  rw [show (6 * j + w) / 6 = j by omega, h] at h3
  cases h3
theorem zrs_mk {g : Nat → Int32} {v : Int32} {k n x : Nat} (h : k ≤ n) : zrs (zMk g (fun j => zrs g j x) v k) n x = zrs g n x := by
  have a : ∀ w, w < 6 → zMk g (fun j => zrs g j x) v k (6 * n + w) = g (6 * n + w) := fun w hw => zMk_ge h hw
  have b : ∀ w, w < 6 → zMk g (fun j => zrs g j x) v k (6 * x + w) = g (6 * x + w) := fun w hw => zMk_nf (zrs_self g x) hw
  have a0 := a 0 (by decide); have b0 := b 0 (by decide)
  simp only [Nat.add_zero] at a0 b0
  unfold zrs at a b a0 b0 ⊢
  rw [a 2 (by decide), b 2 (by decide), a0, b0, a 3 (by decide), b 3 (by decide), a 4 (by decide), b 4 (by decide)]
def zR1 (S : zSt) (x : Nat) : zSt := zFa S (upd (zMk (fA S) (fun j => zrs (fA S) j x) (nI 2) (mK S)) (6 * x + 2) (nI 2))
def zRW (S : zSt) (x : Nat) : zSt :=
  if fA (zR1 S x) (6 * x) = 0 then zDrR (zR1 S x) (fA (zR1 S x) (6 * x + 3))
  else if fA (zR1 S x) (6 * x) = nI 2 then zDrC (zR1 S x) (fA (zR1 S x) (6 * x + 4))
  else zR1 S x
def zRWn (S : zSt) (x : Nat) : Nat := zc (fun j => zrs (fA S) j x) (mK S) + 1
theorem zRW_ok {S : zSt} {x : Nat} (h : okS S) : okS (zRW S x) ∧ mK (zRW S x) = mK S ∧ zRWn S x ≤ mK S + 1 := by
  have h1 : okS (zR1 S x) := h
  have h3 : zRWn S x ≤ mK S + 1 := Nat.succ_le_succ (zc_le _ _)
  refine ⟨?_, ?_, h3⟩
  · unfold zRW
    split
    · exact okS_DrR h1
    · split
      · exact okS_DrC h1
      · exact h1
  · unfold zRW
    split
    · rfl
    · split <;> rfl
/-- the pending changes of an author below k, settled one by one -/
def zSL (S : zSt) (au : Int32) (b : Bool) : Nat → zSt × Nat
  | 0 => (S, 0)
  | k + 1 => if (decide (au = -1) || decide (fA (zSL S au b k).1 (6 * k + 1) = au)) && decide (fA (zSL S au b k).1 (6 * k + 2) = 0) then
      (if b = true then (zAW (zSL S au b k).1 k, (zSL S au b k).2 + zAWn (zSL S au b k).1 k) else (zRW (zSL S au b k).1 k, (zSL S au b k).2 + zRWn (zSL S au b k).1 k))
    else zSL S au b k
theorem zSL_ok {S : zSt} {au : Int32} {b : Bool} (h : okS S) : ∀ k, okS (zSL S au b k).1 ∧ mK (zSL S au b k).1 = mK S ∧ (zSL S au b k).2 ≤ k * 61
  | 0 => ⟨h, rfl, Nat.le_refl _⟩
  | k + 1 => by
    obtain ⟨h1, h2, h3⟩ := zSL_ok h k (au := au) (b := b)
    have h60 := h.2.2
    simp only [zSL]
    split
    · split
      · obtain ⟨a1, a2, a3⟩ := zAW_ok h1 (x := k)
        exact ⟨a1, a2.trans h2, by simp only; omega⟩
      · obtain ⟨a1, a2, a3⟩ := zRW_ok h1 (x := k)
        exact ⟨a1, a2.trans h2, by simp only; omega⟩
    · exact ⟨h1, h2, by omega⟩
def zSC (S : zSt) (au : Int32) (k : Nat) : Bool := (decide (au = -1) || decide (fA S (6 * k + 1) = au)) && decide (fA S (6 * k + 2) = 0)
theorem zSL_n {S : zSt} {au : Int32} {b : Bool} {k : Nat} (h : zSC (zSL S au b k).1 au k = false) : zSL S au b (k + 1) = zSL S au b k := by
  simp only [zSL]
  exact if_neg (by intro q; exact absurd (h.symm.trans q) (by decide))
theorem zSL_a {S : zSt} {au : Int32} {b : Bool} {k : Nat} (h : zSC (zSL S au b k).1 au k = true) (hb : b = true) : zSL S au b (k + 1) = (zAW (zSL S au b k).1 k, (zSL S au b k).2 + zAWn (zSL S au b k).1 k) := by
  simp only [zSL]
  exact (if_pos h).trans (if_pos hb)
theorem zSL_r {S : zSt} {au : Int32} {b : Bool} {k : Nat} (h : zSC (zSL S au b k).1 au k = true) (hb : b = false) : zSL S au b (k + 1) = (zRW (zSL S au b k).1 k, (zSL S au b k).2 + zRWn (zSL S au b k).1 k) := by
  simp only [zSL]
  exact (if_pos h).trans (if_neg (by rw [hb]; decide))
set_option maxHeartbeats 4000000 in
set_option maxRecDepth 100000 in
theorem mX2_slotAt (E : zE) (h0 h1 nn : Nat) (f : Nat → Int32) (u : Nat) (x : Int32) (hN : nn ≤ 12) (hu : u ≤ nn) : zM E yX2_slotAt wsX2_slotAt 0 [.ref h0, .int x] [(h0, .inr (2, [.ref h1, .int (nI u)])), (h1, .inl (E.2.2.1, nn, .inl f))] [(h0, .inr (2, [.ref h1, .int (nI u)])), (h1, .inl (E.2.2.1, nn, .inl f))] (some (.int (zsa f u x))) := by
  by_cases h0 : x < 0
  · rw [show zsa f u x = -5 by simp [zsa, h0]]
    exact mX2_slotAt_out E _ _ _ _ _ x hN hu (Or.inl h0)
  · by_cases h1 : nI u ≤ x
    · rw [show zsa f u x = -5 by simp [zsa, h1]]
      exact mX2_slotAt_out E _ _ _ _ _ x hN hu (Or.inr ⟨h0, h1⟩)
    · obtain ⟨q, hq, e⟩ := z_nat (by omega) h0 h1
      subst e
      rw [show zsa f u (nI q) = f q by simp only [zsa, h0, h1, false_or, if_false]; rw [nI_clamp (by omega)]]
      exact mX2_slotAt_in E _ _ _ _ _ q hN hu hq

set_option maxHeartbeats 4000000 in
set_option maxRecDepth 100000 in
theorem mX4_slotAt_bad (E : zE) (a : Nat → Nat) (fr : Nat → Int32) (ur : Nat) (fc : Nat → Int32) (uc : Nat) (fb g : Nat → Int32) (M : Nat) (tr : Bool) (ax x : Int32) (hur : ur ≤ 12) (huc : uc ≤ 8) (hM : M ≤ 60) (h0 : ¬ ax = 0) (h1 : ¬ ax = nI 1) : zM E yX4_slotAt wsX4_slotAt 1 [.ref (a 0), .int ax, .int x] [((a 0), .inr (4, [.ref (a 1), .ref (a 3), .ref (a 5), .ref (a 6), .int (zb tr)])), ((a 1), .inr (2, [.ref (a 2), .int (nI ur)])), ((a 2), .inl (E.2.2.1, 12, .inl fr)), ((a 3), .inr (2, [.ref (a 4), .int (nI uc)])), ((a 4), .inl (E.2.2.1, 8, .inl fc)), ((a 5), .inl (E.2.2.1, 96, .inl fb)), ((a 6), .inr (0, [.ref (a 7), .int (nI M)])), ((a 7), .inl (E.2.2.1, 360, .inl g))] [((a 0), .inr (4, [.ref (a 1), .ref (a 3), .ref (a 5), .ref (a 6), .int (zb tr)])), ((a 1), .inr (2, [.ref (a 2), .int (nI ur)])), ((a 2), .inl (E.2.2.1, 12, .inl fr)), ((a 3), .inr (2, [.ref (a 4), .int (nI uc)])), ((a 4), .inl (E.2.2.1, 8, .inl fc)), ((a 5), .inl (E.2.2.1, 96, .inl fb)), ((a 6), .inr (0, [.ref (a 7), .int (nI M)])), ((a 7), .inl (E.2.2.1, 360, .inl g))] (some (.int (-5))) := by
  refine zM.of kX4_slotAt (Nat.le_of_ble_eq_true rfl) rfl [some (.ref (a 0)), some (.int ax), some (.int x)] rfl (Nat.le_of_ble_eq_true rfl) ?_
  intro X eX C N
  subst eX
  refine z_iload_n C 1 dX4_slotAt_0 rfl rfl ?_
  refine z_callN C kX5_isAxis nst_X4_slotAt_49.1 gX4_slotAt_X5_isAxis_n49 nst_X4_slotAt_49.2.1 nst_X4_slotAt_49.2.2 (mX5_isAxis_bad X.2.1 ax h0 h1) dX4_slotAt_1 [] rfl (by decide) (by decide) (Nat.le_of_ble_eq_true rfl) rfl ?_
  refine z_bif_eq_t C 19 dX4_slotAt_4 (by decide) rfl ?_
  refine z_bipush C (-5) dX4_slotAt_19 (by decide) ?_
  exact z_iret C N dX4_slotAt_21 (rfl) (rfl)

set_option maxHeartbeats 4000000 in
set_option maxRecDepth 100000 in
theorem mX4_slotAt_rg (E : zE) (a : Nat → Nat) (fr : Nat → Int32) (ur : Nat) (fc : Nat → Int32) (uc : Nat) (fb g : Nat → Int32) (M : Nat) (tr : Bool) (x : Int32) (hur : ur ≤ 12) (huc : uc ≤ 8) (hM : M ≤ 60) : zM E yX4_slotAt wsX4_slotAt 1 [.ref (a 0), .int (nI 0), .int x] [((a 0), .inr (4, [.ref (a 1), .ref (a 3), .ref (a 5), .ref (a 6), .int (zb tr)])), ((a 1), .inr (2, [.ref (a 2), .int (nI ur)])), ((a 2), .inl (E.2.2.1, 12, .inl fr)), ((a 3), .inr (2, [.ref (a 4), .int (nI uc)])), ((a 4), .inl (E.2.2.1, 8, .inl fc)), ((a 5), .inl (E.2.2.1, 96, .inl fb)), ((a 6), .inr (0, [.ref (a 7), .int (nI M)])), ((a 7), .inl (E.2.2.1, 360, .inl g))] [((a 0), .inr (4, [.ref (a 1), .ref (a 3), .ref (a 5), .ref (a 6), .int (zb tr)])), ((a 1), .inr (2, [.ref (a 2), .int (nI ur)])), ((a 2), .inl (E.2.2.1, 12, .inl fr)), ((a 3), .inr (2, [.ref (a 4), .int (nI uc)])), ((a 4), .inl (E.2.2.1, 8, .inl fc)), ((a 5), .inl (E.2.2.1, 96, .inl fb)), ((a 6), .inr (0, [.ref (a 7), .int (nI M)])), ((a 7), .inl (E.2.2.1, 360, .inl g))] (some (.int (zsa fr ur x))) := by
  refine zM.of kX4_slotAt (Nat.le_of_ble_eq_true rfl) rfl [some (.ref (a 0)), some (.int (nI 0)), some (.int x)] rfl (Nat.le_of_ble_eq_true rfl) ?_
  intro X eX C N
  subst eX
  refine z_iload_n C 1 dX4_slotAt_0 rfl rfl ?_
  refine z_callN C kX5_isAxis nst_X4_slotAt_49.1 gX4_slotAt_X5_isAxis_n49 nst_X4_slotAt_49.2.1 nst_X4_slotAt_49.2.2 (mX5_isAxis_in X.2.1 0 (by first | assumption | omega)) dX4_slotAt_1 [] rfl (by decide) (by decide) (Nat.le_of_ble_eq_true rfl) rfl ?_
  refine z_bif_eq_f C 19 dX4_slotAt_4 (by decide) rfl ?_
  refine z_aload_n C 0 dX4_slotAt_7 rfl rfl ?_
  refine z_iload_n C 1 dX4_slotAt_8 rfl rfl ?_
  refine z_callVr C kX4_linesOf gX4_slotAt_X4_linesOf (mX4_linesOf_r X.2.1 a fr ur fc uc fb g M tr hur huc hM) dX4_slotAt_9 [0, 1, 2, 3, 4, 5, 6, 7] [] 0 rfl nd_0_1_2_3_4_5_6_7 rfl rfl rfl (by decide) (by decide) (Nat.le_of_ble_eq_true rfl) rfl ?_
  refine z_iload_n C 2 dX4_slotAt_12 rfl rfl ?_
  refine z_callVr C kX2_slotAt gX4_slotAt_X2_slotAt (mX2_slotAt X.2.1 (a 1) (a 2) 12 fr ur x (by first | assumption | omega) hur) dX4_slotAt_13 [1, 2] [] 1 rfl nd_1_2 rfl rfl rfl (by decide) (by decide) (Nat.le_of_ble_eq_true rfl) rfl ?_
  refine z_goto C 21 dX4_slotAt_16 (by decide) ?_
  exact z_iret C N dX4_slotAt_21 (rfl) (rfl)

set_option maxHeartbeats 4000000 in
set_option maxRecDepth 100000 in
theorem mX4_slotAt_cg (E : zE) (a : Nat → Nat) (fr : Nat → Int32) (ur : Nat) (fc : Nat → Int32) (uc : Nat) (fb g : Nat → Int32) (M : Nat) (tr : Bool) (x : Int32) (hur : ur ≤ 12) (huc : uc ≤ 8) (hM : M ≤ 60) : zM E yX4_slotAt wsX4_slotAt 1 [.ref (a 0), .int (nI 1), .int x] [((a 0), .inr (4, [.ref (a 1), .ref (a 3), .ref (a 5), .ref (a 6), .int (zb tr)])), ((a 1), .inr (2, [.ref (a 2), .int (nI ur)])), ((a 2), .inl (E.2.2.1, 12, .inl fr)), ((a 3), .inr (2, [.ref (a 4), .int (nI uc)])), ((a 4), .inl (E.2.2.1, 8, .inl fc)), ((a 5), .inl (E.2.2.1, 96, .inl fb)), ((a 6), .inr (0, [.ref (a 7), .int (nI M)])), ((a 7), .inl (E.2.2.1, 360, .inl g))] [((a 0), .inr (4, [.ref (a 1), .ref (a 3), .ref (a 5), .ref (a 6), .int (zb tr)])), ((a 1), .inr (2, [.ref (a 2), .int (nI ur)])), ((a 2), .inl (E.2.2.1, 12, .inl fr)), ((a 3), .inr (2, [.ref (a 4), .int (nI uc)])), ((a 4), .inl (E.2.2.1, 8, .inl fc)), ((a 5), .inl (E.2.2.1, 96, .inl fb)), ((a 6), .inr (0, [.ref (a 7), .int (nI M)])), ((a 7), .inl (E.2.2.1, 360, .inl g))] (some (.int (zsa fc uc x))) := by
  refine zM.of kX4_slotAt (Nat.le_of_ble_eq_true rfl) rfl [some (.ref (a 0)), some (.int (nI 1)), some (.int x)] rfl (Nat.le_of_ble_eq_true rfl) ?_
  intro X eX C N
  subst eX
  refine z_iload_n C 1 dX4_slotAt_0 rfl rfl ?_
  refine z_callN C kX5_isAxis nst_X4_slotAt_49.1 gX4_slotAt_X5_isAxis_n49 nst_X4_slotAt_49.2.1 nst_X4_slotAt_49.2.2 (mX5_isAxis_in X.2.1 1 (by first | assumption | omega)) dX4_slotAt_1 [] rfl (by decide) (by decide) (Nat.le_of_ble_eq_true rfl) rfl ?_
  refine z_bif_eq_f C 19 dX4_slotAt_4 (by decide) rfl ?_
  refine z_aload_n C 0 dX4_slotAt_7 rfl rfl ?_
  refine z_iload_n C 1 dX4_slotAt_8 rfl rfl ?_
  refine z_callVr C kX4_linesOf gX4_slotAt_X4_linesOf (mX4_linesOf_c X.2.1 a fr ur fc uc fb g M tr hur huc hM) dX4_slotAt_9 [0, 1, 2, 3, 4, 5, 6, 7] [] 0 rfl nd_0_1_2_3_4_5_6_7 rfl rfl rfl (by decide) (by decide) (Nat.le_of_ble_eq_true rfl) rfl ?_
  refine z_iload_n C 2 dX4_slotAt_12 rfl rfl ?_
  refine z_callVr C kX2_slotAt gX4_slotAt_X2_slotAt (mX2_slotAt X.2.1 (a 3) (a 4) 8 fc uc x (by first | assumption | omega) huc) dX4_slotAt_13 [3, 4] [] 3 rfl nd_3_4 rfl rfl rfl (by decide) (by decide) (Nat.le_of_ble_eq_true rfl) rfl ?_
  refine z_goto C 21 dX4_slotAt_16 (by decide) ?_
  exact z_iret C N dX4_slotAt_21 (rfl) (rfl)

def zSA (fr : Nat → Int32) (ur : Nat) (fc : Nat → Int32) (uc : Nat) (ax x : Int32) : Int32 := if ax = 0 then zsa fr ur x else if ax = nI 1 then zsa fc uc x else -5
set_option maxHeartbeats 4000000 in
set_option maxRecDepth 100000 in
theorem mX4_slotAt_g (E : zE) (a : Nat → Nat) (fr : Nat → Int32) (ur : Nat) (fc : Nat → Int32) (uc : Nat) (fb g : Nat → Int32) (M : Nat) (tr : Bool) (ax x : Int32) (hur : ur ≤ 12) (huc : uc ≤ 8) (hM : M ≤ 60) : zM E yX4_slotAt wsX4_slotAt 1 [.ref (a 0), .int ax, .int x] [((a 0), .inr (4, [.ref (a 1), .ref (a 3), .ref (a 5), .ref (a 6), .int (zb tr)])), ((a 1), .inr (2, [.ref (a 2), .int (nI ur)])), ((a 2), .inl (E.2.2.1, 12, .inl fr)), ((a 3), .inr (2, [.ref (a 4), .int (nI uc)])), ((a 4), .inl (E.2.2.1, 8, .inl fc)), ((a 5), .inl (E.2.2.1, 96, .inl fb)), ((a 6), .inr (0, [.ref (a 7), .int (nI M)])), ((a 7), .inl (E.2.2.1, 360, .inl g))] [((a 0), .inr (4, [.ref (a 1), .ref (a 3), .ref (a 5), .ref (a 6), .int (zb tr)])), ((a 1), .inr (2, [.ref (a 2), .int (nI ur)])), ((a 2), .inl (E.2.2.1, 12, .inl fr)), ((a 3), .inr (2, [.ref (a 4), .int (nI uc)])), ((a 4), .inl (E.2.2.1, 8, .inl fc)), ((a 5), .inl (E.2.2.1, 96, .inl fb)), ((a 6), .inr (0, [.ref (a 7), .int (nI M)])), ((a 7), .inl (E.2.2.1, 360, .inl g))] (some (.int (zSA fr ur fc uc ax x))) := by
  by_cases h0 : ax = 0
  · rw [show zSA fr ur fc uc ax x = zsa fr ur x by simp [zSA, h0], h0]
    exact mX4_slotAt_rg E _ _ _ _ _ _ _ _ _ x hur huc hM
  · by_cases h1 : ax = nI 1
    · rw [show zSA fr ur fc uc ax x = zsa fc uc x by simp [zSA, h1, zz_0], h1]
      exact mX4_slotAt_cg E _ _ _ _ _ _ _ _ _ x hur huc hM
    · rw [show zSA fr ur fc uc ax x = -5 by simp [zSA, h0, h1]]
      exact mX4_slotAt_bad E _ _ _ _ _ _ _ _ _ ax x hur huc hM h0 h1

theorem kX4_dropLine : zY yX4_dropLine wsX4_dropLine cX4_dropLine 3 none 2 := ⟨⟨_, rfl⟩, ⟨by decide +kernel, by decide +kernel, by decide +kernel⟩, by decide +kernel⟩
theorem fX4_dropLine_30 : zF wsX4_dropLine RX4 30 4 3 RX4 TX4 5 := ⟨by decide +kernel, rfl, by decide, by decide +kernel, rfl⟩
set_option maxHeartbeats 4000000 in
set_option maxRecDepth 100000 in
theorem mX4_dropLine_r (E : zE) (a : Nat → Nat) (S : zSt) (sl : Int32) (hS : okS S) : zM E yX4_dropLine wsX4_dropLine 4 [.ref (a 0), .int (nI 0), .int sl] [((a 0), .inr (4, [.ref (a 1), .ref (a 3), .ref (a 5), .ref (a 6), .int (zb (tK S))])), ((a 1), .inr (2, [.ref (a 2), .int (nI (rU S))])), ((a 2), .inl (E.2.2.1, 12, .inl (rO S))), ((a 3), .inr (2, [.ref (a 4), .int (nI (cU S))])), ((a 4), .inl (E.2.2.1, 8, .inl (cO S))), ((a 5), .inl (E.2.2.1, 96, .inl (bS S))), ((a 6), .inr (0, [.ref (a 7), .int (nI (mK S))])), ((a 7), .inl (E.2.2.1, 360, .inl (fA S)))] [((a 0), .inr (4, [.ref (a 1), .ref (a 3), .ref (a 5), .ref (a 6), .int (zb (tK (zDrR S sl)))])), ((a 1), .inr (2, [.ref (a 2), .int (nI (rU (zDrR S sl)))])), ((a 2), .inl (E.2.2.1, 12, .inl (rO (zDrR S sl)))), ((a 3), .inr (2, [.ref (a 4), .int (nI (cU (zDrR S sl)))])), ((a 4), .inl (E.2.2.1, 8, .inl (cO (zDrR S sl)))), ((a 5), .inl (E.2.2.1, 96, .inl (bS (zDrR S sl)))), ((a 6), .inr (0, [.ref (a 7), .int (nI (mK (zDrR S sl)))])), ((a 7), .inl (E.2.2.1, 360, .inl (fA (zDrR S sl))))] none := by
  refine zM.of kX4_dropLine (Nat.le_of_ble_eq_true rfl) rfl [some (.ref (a 0)), some (.int (nI 0)), some (.int sl)] rfl (Nat.le_of_ble_eq_true rfl) ?_
  intro X eX C N
  subst eX
  obtain ⟨hur, huc, hM⟩ := id hS
  refine z_aload_n C 0 dX4_dropLine_0 rfl rfl ?_
  refine z_get C fX4_dropLine_30 0 dX4_dropLine_1 rfl rfl ?_
  refine z_iload_n C 1 dX4_dropLine_4 rfl rfl ?_
  refine z_iload_n C 2 dX4_dropLine_5 rfl rfl ?_
  refine z_callVv (wn := [((a 0), .inr (4, [.ref (a 1), .ref (a 3), .ref (a 5), .ref (a 6), .int (zb (tK S))])), ((a 1), .inr (2, [.ref (a 2), .int (nI (rU S))])), ((a 2), .inl (X.2.1.2.2.1, 12, .inl (rO S))), ((a 3), .inr (2, [.ref (a 4), .int (nI (cU S))])), ((a 4), .inl (X.2.1.2.2.1, 8, .inl (cO S))), ((a 5), .inl (X.2.1.2.2.1, 96, .inl (bS S))), ((a 6), .inr (0, [.ref (a 7), .int (nI (mK S))])), ((a 7), .inl (X.2.1.2.2.1, 360, .inl (zLv (fA S) 3 sl (mK S))))]) C kX0_leaveLine gX4_dropLine_X0_leaveLine (mX0_leaveLine_r X.2.1 (a 6) (a 7) (fA S) (mK S) sl hM) dX4_dropLine_6 [6, 7] [] 6 rfl rfl nd_6_7 rfl rfl rfl (by decide) (by decide) (Nat.le_of_ble_eq_true rfl) rfl rfl ?_
  refine z_aload_n C 0 dX4_dropLine_9 rfl rfl ?_
  refine z_iload_n C 1 dX4_dropLine_10 rfl rfl ?_
  refine z_callVr C kX4_linesOf gX4_dropLine_X4_linesOf (mX4_linesOf_r X.2.1 a (rO S) (rU S) (cO S) (cU S) (bS S) (zLv (fA S) 3 sl (mK S)) (mK S) (tK S) hur huc hM) dX4_dropLine_11 [0, 1, 2, 3, 4, 5, 6, 7] [] 0 rfl nd_0_1_2_3_4_5_6_7 rfl rfl rfl (by decide) (by decide) (Nat.le_of_ble_eq_true rfl) rfl ?_
  refine z_iload_n C 2 dX4_dropLine_14 rfl rfl ?_
  refine z_callVv (wn := [((a 0), .inr (4, [.ref (a 1), .ref (a 3), .ref (a 5), .ref (a 6), .int (zb (tK S))])), ((a 1), .inr (2, [.ref (a 2), .int (nI (zClu (rO S) (rU S) sl))])), ((a 2), .inl (X.2.1.2.2.1, 12, .inl (zCl (rO S) (rU S) sl))), ((a 3), .inr (2, [.ref (a 4), .int (nI (cU S))])), ((a 4), .inl (X.2.1.2.2.1, 8, .inl (cO S))), ((a 5), .inl (X.2.1.2.2.1, 96, .inl (bS S))), ((a 6), .inr (0, [.ref (a 7), .int (nI (mK S))])), ((a 7), .inl (X.2.1.2.2.1, 360, .inl (zLv (fA S) 3 sl (mK S))))]) C kX2_close gX4_dropLine_X2_close (mX2_close X.2.1 (a 1) (a 2) 12 (rO S) (rU S) sl (by first | assumption | omega) hur) dX4_dropLine_15 [1, 2] [] 1 rfl rfl nd_1_2 rfl rfl rfl (by decide) (by decide) (Nat.le_of_ble_eq_true rfl) rfl rfl ?_
  exact z_vret C N dX4_dropLine_18 (rfl)

set_option maxHeartbeats 4000000 in
set_option maxRecDepth 100000 in
theorem mX4_dropLine_c (E : zE) (a : Nat → Nat) (S : zSt) (sl : Int32) (hS : okS S) : zM E yX4_dropLine wsX4_dropLine 4 [.ref (a 0), .int (nI 1), .int sl] [((a 0), .inr (4, [.ref (a 1), .ref (a 3), .ref (a 5), .ref (a 6), .int (zb (tK S))])), ((a 1), .inr (2, [.ref (a 2), .int (nI (rU S))])), ((a 2), .inl (E.2.2.1, 12, .inl (rO S))), ((a 3), .inr (2, [.ref (a 4), .int (nI (cU S))])), ((a 4), .inl (E.2.2.1, 8, .inl (cO S))), ((a 5), .inl (E.2.2.1, 96, .inl (bS S))), ((a 6), .inr (0, [.ref (a 7), .int (nI (mK S))])), ((a 7), .inl (E.2.2.1, 360, .inl (fA S)))] [((a 0), .inr (4, [.ref (a 1), .ref (a 3), .ref (a 5), .ref (a 6), .int (zb (tK (zDrC S sl)))])), ((a 1), .inr (2, [.ref (a 2), .int (nI (rU (zDrC S sl)))])), ((a 2), .inl (E.2.2.1, 12, .inl (rO (zDrC S sl)))), ((a 3), .inr (2, [.ref (a 4), .int (nI (cU (zDrC S sl)))])), ((a 4), .inl (E.2.2.1, 8, .inl (cO (zDrC S sl)))), ((a 5), .inl (E.2.2.1, 96, .inl (bS (zDrC S sl)))), ((a 6), .inr (0, [.ref (a 7), .int (nI (mK (zDrC S sl)))])), ((a 7), .inl (E.2.2.1, 360, .inl (fA (zDrC S sl))))] none := by
  refine zM.of kX4_dropLine (Nat.le_of_ble_eq_true rfl) rfl [some (.ref (a 0)), some (.int (nI 1)), some (.int sl)] rfl (Nat.le_of_ble_eq_true rfl) ?_
  intro X eX C N
  subst eX
  obtain ⟨hur, huc, hM⟩ := id hS
  refine z_aload_n C 0 dX4_dropLine_0 rfl rfl ?_
  refine z_get C fX4_dropLine_30 0 dX4_dropLine_1 rfl rfl ?_
  refine z_iload_n C 1 dX4_dropLine_4 rfl rfl ?_
  refine z_iload_n C 2 dX4_dropLine_5 rfl rfl ?_
  refine z_callVv (wn := [((a 0), .inr (4, [.ref (a 1), .ref (a 3), .ref (a 5), .ref (a 6), .int (zb (tK S))])), ((a 1), .inr (2, [.ref (a 2), .int (nI (rU S))])), ((a 2), .inl (X.2.1.2.2.1, 12, .inl (rO S))), ((a 3), .inr (2, [.ref (a 4), .int (nI (cU S))])), ((a 4), .inl (X.2.1.2.2.1, 8, .inl (cO S))), ((a 5), .inl (X.2.1.2.2.1, 96, .inl (bS S))), ((a 6), .inr (0, [.ref (a 7), .int (nI (mK S))])), ((a 7), .inl (X.2.1.2.2.1, 360, .inl (zLv (fA S) 4 sl (mK S))))]) C kX0_leaveLine gX4_dropLine_X0_leaveLine (mX0_leaveLine_c X.2.1 (a 6) (a 7) (fA S) (mK S) sl hM) dX4_dropLine_6 [6, 7] [] 6 rfl rfl nd_6_7 rfl rfl rfl (by decide) (by decide) (Nat.le_of_ble_eq_true rfl) rfl rfl ?_
  refine z_aload_n C 0 dX4_dropLine_9 rfl rfl ?_
  refine z_iload_n C 1 dX4_dropLine_10 rfl rfl ?_
  refine z_callVr C kX4_linesOf gX4_dropLine_X4_linesOf (mX4_linesOf_c X.2.1 a (rO S) (rU S) (cO S) (cU S) (bS S) (zLv (fA S) 4 sl (mK S)) (mK S) (tK S) hur huc hM) dX4_dropLine_11 [0, 1, 2, 3, 4, 5, 6, 7] [] 0 rfl nd_0_1_2_3_4_5_6_7 rfl rfl rfl (by decide) (by decide) (Nat.le_of_ble_eq_true rfl) rfl ?_
  refine z_iload_n C 2 dX4_dropLine_14 rfl rfl ?_
  refine z_callVv (wn := [((a 0), .inr (4, [.ref (a 1), .ref (a 3), .ref (a 5), .ref (a 6), .int (zb (tK S))])), ((a 1), .inr (2, [.ref (a 2), .int (nI (rU S))])), ((a 2), .inl (X.2.1.2.2.1, 12, .inl (rO S))), ((a 3), .inr (2, [.ref (a 4), .int (nI (zClu (cO S) (cU S) sl))])), ((a 4), .inl (X.2.1.2.2.1, 8, .inl (zCl (cO S) (cU S) sl))), ((a 5), .inl (X.2.1.2.2.1, 96, .inl (bS S))), ((a 6), .inr (0, [.ref (a 7), .int (nI (mK S))])), ((a 7), .inl (X.2.1.2.2.1, 360, .inl (zLv (fA S) 4 sl (mK S))))]) C kX2_close gX4_dropLine_X2_close (mX2_close X.2.1 (a 3) (a 4) 8 (cO S) (cU S) sl (by first | assumption | omega) huc) dX4_dropLine_15 [3, 4] [] 3 rfl rfl nd_3_4 rfl rfl rfl (by decide) (by decide) (Nat.le_of_ble_eq_true rfl) rfl rfl ?_
  exact z_vret C N dX4_dropLine_18 (rfl)

theorem kX4_insertLine : zY yX4_insertLine wsX4_insertLine cX4_insertLine 6 (some .int) 3 := ⟨⟨_, rfl⟩, ⟨by decide +kernel, by decide +kernel, by decide +kernel⟩, by decide +kernel⟩
theorem nst_X4_insertLine_61 : (RX4, 61, yX5_isAuthor, RX5) ∈ zNest ∧ Cond.initialized RX5 ∈ wsX4_insertLine ∧ Cond.static yX5_isAuthor ∈ wsX4_insertLine := ⟨by decide +kernel, by decide +kernel, by decide +kernel⟩
set_option maxHeartbeats 4000000 in
set_option maxRecDepth 100000 in
theorem mX4_insertLine_b1 (E : zE) (a : Nat → Nat) (S : zSt) (au ax pl : Int32) (hS : okS S) (hx : au < 0 ∨ (¬ au < 0 ∧ nI 4 ≤ au)) : zM E yX4_insertLine wsX4_insertLine 5 [.ref (a 0), .int au, .int ax, .int pl] [((a 0), .inr (4, [.ref (a 1), .ref (a 3), .ref (a 5), .ref (a 6), .int (zb (tK S))])), ((a 1), .inr (2, [.ref (a 2), .int (nI (rU S))])), ((a 2), .inl (E.2.2.1, 12, .inl (rO S))), ((a 3), .inr (2, [.ref (a 4), .int (nI (cU S))])), ((a 4), .inl (E.2.2.1, 8, .inl (cO S))), ((a 5), .inl (E.2.2.1, 96, .inl (bS S))), ((a 6), .inr (0, [.ref (a 7), .int (nI (mK S))])), ((a 7), .inl (E.2.2.1, 360, .inl (fA S)))] [((a 0), .inr (4, [.ref (a 1), .ref (a 3), .ref (a 5), .ref (a 6), .int (zb (tK S))])), ((a 1), .inr (2, [.ref (a 2), .int (nI (rU S))])), ((a 2), .inl (E.2.2.1, 12, .inl (rO S))), ((a 3), .inr (2, [.ref (a 4), .int (nI (cU S))])), ((a 4), .inl (E.2.2.1, 8, .inl (cO S))), ((a 5), .inl (E.2.2.1, 96, .inl (bS S))), ((a 6), .inr (0, [.ref (a 7), .int (nI (mK S))])), ((a 7), .inl (E.2.2.1, 360, .inl (fA S)))] (some (.int (-1))) := by
  refine zM.of kX4_insertLine (Nat.le_of_ble_eq_true rfl) rfl [some (.ref (a 0)), some (.int au), some (.int ax), some (.int pl), none, none] rfl (Nat.le_of_ble_eq_true rfl) ?_
  intro X eX C N
  subst eX
  obtain ⟨hur, huc, hM⟩ := id hS
  refine z_iload_n C 1 dX4_insertLine_0 rfl rfl ?_
  refine z_callN C kX5_isAuthor nst_X4_insertLine_61.1 gX4_insertLine_X5_isAuthor_n61 nst_X4_insertLine_61.2.1 nst_X4_insertLine_61.2.2 (mX5_isAuthor_bad X.2.1 au hx) dX4_insertLine_1 [] rfl (by decide) (by decide) (Nat.le_of_ble_eq_true rfl) rfl ?_
  refine z_bif_eq_t C 14 dX4_insertLine_4 (by decide) rfl ?_
  refine z_iconst C (-1) dX4_insertLine_14 (by decide) ?_
  exact z_iret C N dX4_insertLine_15 (rfl) (rfl)

theorem nst_X4_insertLine_49 : (RX4, 49, yX5_isAxis, RX5) ∈ zNest ∧ Cond.initialized RX5 ∈ wsX4_insertLine ∧ Cond.static yX5_isAxis ∈ wsX4_insertLine := ⟨by decide +kernel, by decide +kernel, by decide +kernel⟩
set_option maxHeartbeats 4000000 in
set_option maxRecDepth 100000 in
theorem mX4_insertLine_b2 (E : zE) (a : Nat → Nat) (S : zSt) (au : Nat) (ax pl : Int32) (hS : okS S) (hau : au < 4) (h0 : ¬ ax = 0) (h1 : ¬ ax = nI 1) : zM E yX4_insertLine wsX4_insertLine 5 [.ref (a 0), .int (nI au), .int ax, .int pl] [((a 0), .inr (4, [.ref (a 1), .ref (a 3), .ref (a 5), .ref (a 6), .int (zb (tK S))])), ((a 1), .inr (2, [.ref (a 2), .int (nI (rU S))])), ((a 2), .inl (E.2.2.1, 12, .inl (rO S))), ((a 3), .inr (2, [.ref (a 4), .int (nI (cU S))])), ((a 4), .inl (E.2.2.1, 8, .inl (cO S))), ((a 5), .inl (E.2.2.1, 96, .inl (bS S))), ((a 6), .inr (0, [.ref (a 7), .int (nI (mK S))])), ((a 7), .inl (E.2.2.1, 360, .inl (fA S)))] [((a 0), .inr (4, [.ref (a 1), .ref (a 3), .ref (a 5), .ref (a 6), .int (zb (tK S))])), ((a 1), .inr (2, [.ref (a 2), .int (nI (rU S))])), ((a 2), .inl (E.2.2.1, 12, .inl (rO S))), ((a 3), .inr (2, [.ref (a 4), .int (nI (cU S))])), ((a 4), .inl (E.2.2.1, 8, .inl (cO S))), ((a 5), .inl (E.2.2.1, 96, .inl (bS S))), ((a 6), .inr (0, [.ref (a 7), .int (nI (mK S))])), ((a 7), .inl (E.2.2.1, 360, .inl (fA S)))] (some (.int (-1))) := by
  refine zM.of kX4_insertLine (Nat.le_of_ble_eq_true rfl) rfl [some (.ref (a 0)), some (.int (nI au)), some (.int ax), some (.int pl), none, none] rfl (Nat.le_of_ble_eq_true rfl) ?_
  intro X eX C N
  subst eX
  obtain ⟨hur, huc, hM⟩ := id hS
  refine z_iload_n C 1 dX4_insertLine_0 rfl rfl ?_
  refine z_callN C kX5_isAuthor nst_X4_insertLine_61.1 gX4_insertLine_X5_isAuthor_n61 nst_X4_insertLine_61.2.1 nst_X4_insertLine_61.2.2 (mX5_isAuthor_in X.2.1 au hau) dX4_insertLine_1 [] rfl (by decide) (by decide) (Nat.le_of_ble_eq_true rfl) rfl ?_
  refine z_bif_eq_f C 14 dX4_insertLine_4 (by decide) rfl ?_
  refine z_iload_n C 2 dX4_insertLine_7 rfl rfl ?_
  refine z_callN C kX5_isAxis nst_X4_insertLine_49.1 gX4_insertLine_X5_isAxis_n49 nst_X4_insertLine_49.2.1 nst_X4_insertLine_49.2.2 (mX5_isAxis_bad X.2.1 ax h0 h1) dX4_insertLine_8 [] rfl (by decide) (by decide) (Nat.le_of_ble_eq_true rfl) rfl ?_
  refine z_bif_ne_f C 16 dX4_insertLine_11 (by decide) rfl ?_
  refine z_iconst C (-1) dX4_insertLine_14 (by decide) ?_
  exact z_iret C N dX4_insertLine_15 (rfl) (rfl)

theorem fX4_insertLine_64 : zF wsX4_insertLine RX4 64 2 1 RX2 TX2 2 := ⟨by decide +kernel, rfl, by decide, by decide +kernel, rfl⟩
set_option maxHeartbeats 4000000 in
set_option maxRecDepth 100000 in
theorem mX4_insertLine_rb (E : zE) (a : Nat → Nat) (S : zSt) (au : Nat) (pl : Int32) (hS : okS S) (hau : au < 4) (hx : pl < 0 ∨ (¬ pl < 0 ∧ nI (rU S) < pl)) : zM E yX4_insertLine wsX4_insertLine 5 [.ref (a 0), .int (nI au), .int (nI 0), .int pl] [((a 0), .inr (4, [.ref (a 1), .ref (a 3), .ref (a 5), .ref (a 6), .int (zb (tK S))])), ((a 1), .inr (2, [.ref (a 2), .int (nI (rU S))])), ((a 2), .inl (E.2.2.1, 12, .inl (rO S))), ((a 3), .inr (2, [.ref (a 4), .int (nI (cU S))])), ((a 4), .inl (E.2.2.1, 8, .inl (cO S))), ((a 5), .inl (E.2.2.1, 96, .inl (bS S))), ((a 6), .inr (0, [.ref (a 7), .int (nI (mK S))])), ((a 7), .inl (E.2.2.1, 360, .inl (fA S)))] [((a 0), .inr (4, [.ref (a 1), .ref (a 3), .ref (a 5), .ref (a 6), .int (zb (tK S))])), ((a 1), .inr (2, [.ref (a 2), .int (nI (rU S))])), ((a 2), .inl (E.2.2.1, 12, .inl (rO S))), ((a 3), .inr (2, [.ref (a 4), .int (nI (cU S))])), ((a 4), .inl (E.2.2.1, 8, .inl (cO S))), ((a 5), .inl (E.2.2.1, 96, .inl (bS S))), ((a 6), .inr (0, [.ref (a 7), .int (nI (mK S))])), ((a 7), .inl (E.2.2.1, 360, .inl (fA S)))] (some (.int (-2))) := by
  refine zM.of kX4_insertLine (Nat.le_of_ble_eq_true rfl) rfl [some (.ref (a 0)), some (.int (nI au)), some (.int (nI 0)), some (.int pl), none, none] rfl (Nat.le_of_ble_eq_true rfl) ?_
  intro X eX C N
  subst eX
  obtain ⟨hur, huc, hM⟩ := id hS
  rcases hx with hx | ⟨hx0, hx1⟩
  · refine z_iload_n C 1 dX4_insertLine_0 rfl rfl ?_
    refine z_callN C kX5_isAuthor nst_X4_insertLine_61.1 gX4_insertLine_X5_isAuthor_n61 nst_X4_insertLine_61.2.1 nst_X4_insertLine_61.2.2 (mX5_isAuthor_in X.2.1 au hau) dX4_insertLine_1 [] rfl (by decide) (by decide) (Nat.le_of_ble_eq_true rfl) rfl ?_
    refine z_bif_eq_f C 14 dX4_insertLine_4 (by decide) rfl ?_
    refine z_iload_n C 2 dX4_insertLine_7 rfl rfl ?_
    refine z_callN C kX5_isAxis nst_X4_insertLine_49.1 gX4_insertLine_X5_isAxis_n49 nst_X4_insertLine_49.2.1 nst_X4_insertLine_49.2.2 (mX5_isAxis_in X.2.1 0 (by first | assumption | omega)) dX4_insertLine_8 [] rfl (by decide) (by decide) (Nat.le_of_ble_eq_true rfl) rfl ?_
    refine z_bif_ne_t C 16 dX4_insertLine_11 (by decide) rfl ?_
    refine z_aload_n C 0 dX4_insertLine_16 rfl rfl ?_
    refine z_iload_n C 2 dX4_insertLine_17 rfl rfl ?_
    refine z_callVr C kX4_linesOf gX4_insertLine_X4_linesOf (mX4_linesOf_r X.2.1 a (rO S) (rU S) (cO S) (cU S) (bS S) (fA S) (mK S) (tK S) hur huc hM) dX4_insertLine_18 [0, 1, 2, 3, 4, 5, 6, 7] [] 0 rfl nd_0_1_2_3_4_5_6_7 rfl rfl rfl (by decide) (by decide) (Nat.le_of_ble_eq_true rfl) rfl ?_
    refine z_astore C dX4_insertLine_21 (Nat.le_of_ble_eq_true rfl) ?_
    refine z_iload_n C 3 dX4_insertLine_23 rfl rfl ?_
    refine z_if_lt_t C 36 dX4_insertLine_24 (by decide) hx ?_
    refine z_bipush C (-2) dX4_insertLine_36 (by decide) ?_
    exact z_iret C N dX4_insertLine_38 (rfl) (rfl)
  · refine z_iload_n C 1 dX4_insertLine_0 rfl rfl ?_
    refine z_callN C kX5_isAuthor nst_X4_insertLine_61.1 gX4_insertLine_X5_isAuthor_n61 nst_X4_insertLine_61.2.1 nst_X4_insertLine_61.2.2 (mX5_isAuthor_in X.2.1 au hau) dX4_insertLine_1 [] rfl (by decide) (by decide) (Nat.le_of_ble_eq_true rfl) rfl ?_
    refine z_bif_eq_f C 14 dX4_insertLine_4 (by decide) rfl ?_
    refine z_iload_n C 2 dX4_insertLine_7 rfl rfl ?_
    refine z_callN C kX5_isAxis nst_X4_insertLine_49.1 gX4_insertLine_X5_isAxis_n49 nst_X4_insertLine_49.2.1 nst_X4_insertLine_49.2.2 (mX5_isAxis_in X.2.1 0 (by first | assumption | omega)) dX4_insertLine_8 [] rfl (by decide) (by decide) (Nat.le_of_ble_eq_true rfl) rfl ?_
    refine z_bif_ne_t C 16 dX4_insertLine_11 (by decide) rfl ?_
    refine z_aload_n C 0 dX4_insertLine_16 rfl rfl ?_
    refine z_iload_n C 2 dX4_insertLine_17 rfl rfl ?_
    refine z_callVr C kX4_linesOf gX4_insertLine_X4_linesOf (mX4_linesOf_r X.2.1 a (rO S) (rU S) (cO S) (cU S) (bS S) (fA S) (mK S) (tK S) hur huc hM) dX4_insertLine_18 [0, 1, 2, 3, 4, 5, 6, 7] [] 0 rfl nd_0_1_2_3_4_5_6_7 rfl rfl rfl (by decide) (by decide) (Nat.le_of_ble_eq_true rfl) rfl ?_
    refine z_astore C dX4_insertLine_21 (Nat.le_of_ble_eq_true rfl) ?_
    refine z_iload_n C 3 dX4_insertLine_23 rfl rfl ?_
    refine z_if_lt_f C 36 dX4_insertLine_24 (by decide) hx0 ?_
    refine z_iload_n C 3 dX4_insertLine_27 rfl rfl ?_
    refine z_aload C dX4_insertLine_28 rfl ?_
    refine z_get C fX4_insertLine_64 1 dX4_insertLine_30 rfl rfl ?_
    refine z_icmp_le_f C 39 dX4_insertLine_33 (by decide) (Int32.not_le.mpr hx1) ?_
    refine z_bipush C (-2) dX4_insertLine_36 (by decide) ?_
    exact z_iret C N dX4_insertLine_38 (rfl) (rfl)

set_option maxHeartbeats 4000000 in
set_option maxRecDepth 100000 in
theorem mX4_insertLine_rf1 (E : zE) (a : Nat → Nat) (S : zSt) (au j : Nat) (hS : okS S) (hau : au < 4) (hj : j ≤ rU S) (hf : 12 ≤ rU S) : zM E yX4_insertLine wsX4_insertLine 5 [.ref (a 0), .int (nI au), .int (nI 0), .int (nI j)] [((a 0), .inr (4, [.ref (a 1), .ref (a 3), .ref (a 5), .ref (a 6), .int (zb (tK S))])), ((a 1), .inr (2, [.ref (a 2), .int (nI (rU S))])), ((a 2), .inl (E.2.2.1, 12, .inl (rO S))), ((a 3), .inr (2, [.ref (a 4), .int (nI (cU S))])), ((a 4), .inl (E.2.2.1, 8, .inl (cO S))), ((a 5), .inl (E.2.2.1, 96, .inl (bS S))), ((a 6), .inr (0, [.ref (a 7), .int (nI (mK S))])), ((a 7), .inl (E.2.2.1, 360, .inl (fA S)))] [((a 0), .inr (4, [.ref (a 1), .ref (a 3), .ref (a 5), .ref (a 6), .int (zb (tK S))])), ((a 1), .inr (2, [.ref (a 2), .int (nI (rU S))])), ((a 2), .inl (E.2.2.1, 12, .inl (rO S))), ((a 3), .inr (2, [.ref (a 4), .int (nI (cU S))])), ((a 4), .inl (E.2.2.1, 8, .inl (cO S))), ((a 5), .inl (E.2.2.1, 96, .inl (bS S))), ((a 6), .inr (0, [.ref (a 7), .int (nI (mK S))])), ((a 7), .inl (E.2.2.1, 360, .inl (fA S)))] (some (.int (-3))) := by
  refine zM.of kX4_insertLine (Nat.le_of_ble_eq_true rfl) rfl [some (.ref (a 0)), some (.int (nI au)), some (.int (nI 0)), some (.int (nI j)), none, none] rfl (Nat.le_of_ble_eq_true rfl) ?_
  intro X eX C N
  subst eX
  obtain ⟨hur, huc, hM⟩ := id hS
  refine z_iload_n C 1 dX4_insertLine_0 rfl rfl ?_
  refine z_callN C kX5_isAuthor nst_X4_insertLine_61.1 gX4_insertLine_X5_isAuthor_n61 nst_X4_insertLine_61.2.1 nst_X4_insertLine_61.2.2 (mX5_isAuthor_in X.2.1 au hau) dX4_insertLine_1 [] rfl (by decide) (by decide) (Nat.le_of_ble_eq_true rfl) rfl ?_
  refine z_bif_eq_f C 14 dX4_insertLine_4 (by decide) rfl ?_
  refine z_iload_n C 2 dX4_insertLine_7 rfl rfl ?_
  refine z_callN C kX5_isAxis nst_X4_insertLine_49.1 gX4_insertLine_X5_isAxis_n49 nst_X4_insertLine_49.2.1 nst_X4_insertLine_49.2.2 (mX5_isAxis_in X.2.1 0 (by first | assumption | omega)) dX4_insertLine_8 [] rfl (by decide) (by decide) (Nat.le_of_ble_eq_true rfl) rfl ?_
  refine z_bif_ne_t C 16 dX4_insertLine_11 (by decide) rfl ?_
  refine z_aload_n C 0 dX4_insertLine_16 rfl rfl ?_
  refine z_iload_n C 2 dX4_insertLine_17 rfl rfl ?_
  refine z_callVr C kX4_linesOf gX4_insertLine_X4_linesOf (mX4_linesOf_r X.2.1 a (rO S) (rU S) (cO S) (cU S) (bS S) (fA S) (mK S) (tK S) hur huc hM) dX4_insertLine_18 [0, 1, 2, 3, 4, 5, 6, 7] [] 0 rfl nd_0_1_2_3_4_5_6_7 rfl rfl rfl (by decide) (by decide) (Nat.le_of_ble_eq_true rfl) rfl ?_
  refine z_astore C dX4_insertLine_21 (Nat.le_of_ble_eq_true rfl) ?_
  refine z_iload_n C 3 dX4_insertLine_23 rfl rfl ?_
  refine z_nif_lt_f C 36 dX4_insertLine_24 (by decide) (by omega) (by trivial) ?_
  refine z_iload_n C 3 dX4_insertLine_27 rfl rfl ?_
  refine z_aload C dX4_insertLine_28 rfl ?_
  refine z_get C fX4_insertLine_64 1 dX4_insertLine_30 rfl rfl ?_
  refine z_ncmp_le_t C 39 dX4_insertLine_33 (by decide) (by omega) (by omega) (by omega) ?_
  refine z_aload C dX4_insertLine_39 rfl ?_
  refine z_callVr C kX2_isFull gX4_insertLine_X2_isFull (mX2_isFull X.2.1 (a 1) (a 2) 12 (rO S) (rU S) (by first | assumption | omega) hur) dX4_insertLine_41 [1, 2] [] 1 rfl nd_1_2 rfl rfl rfl (by decide) (by decide) (Nat.le_of_ble_eq_true rfl) rfl ?_
  refine z_bif_ne_t C 64 dX4_insertLine_44 (by decide) (decide_eq_true (by omega)) ?_
  refine z_bipush C (-3) dX4_insertLine_64 (by decide) ?_
  exact z_iret C N dX4_insertLine_66 (rfl) (rfl)

theorem fX4_insertLine_34 : zF wsX4_insertLine RX4 34 4 4 RX4 TX4 5 := ⟨by decide +kernel, rfl, by decide, by decide +kernel, rfl⟩
theorem fX4_insertLine_30 : zF wsX4_insertLine RX4 30 4 3 RX4 TX4 5 := ⟨by decide +kernel, rfl, by decide, by decide +kernel, rfl⟩
set_option maxHeartbeats 4000000 in
set_option maxRecDepth 100000 in
theorem mX4_insertLine_rf2 (E : zE) (a : Nat → Nat) (S : zSt) (au j : Nat) (hS : okS S) (hau : au < 4) (hj : j ≤ rU S) (hf : rU S < 12) (ht : tK S = true) (hf2 : 60 ≤ mK S) : zM E yX4_insertLine wsX4_insertLine 5 [.ref (a 0), .int (nI au), .int (nI 0), .int (nI j)] [((a 0), .inr (4, [.ref (a 1), .ref (a 3), .ref (a 5), .ref (a 6), .int (zb (tK S))])), ((a 1), .inr (2, [.ref (a 2), .int (nI (rU S))])), ((a 2), .inl (E.2.2.1, 12, .inl (rO S))), ((a 3), .inr (2, [.ref (a 4), .int (nI (cU S))])), ((a 4), .inl (E.2.2.1, 8, .inl (cO S))), ((a 5), .inl (E.2.2.1, 96, .inl (bS S))), ((a 6), .inr (0, [.ref (a 7), .int (nI (mK S))])), ((a 7), .inl (E.2.2.1, 360, .inl (fA S)))] [((a 0), .inr (4, [.ref (a 1), .ref (a 3), .ref (a 5), .ref (a 6), .int (zb (tK S))])), ((a 1), .inr (2, [.ref (a 2), .int (nI (rU S))])), ((a 2), .inl (E.2.2.1, 12, .inl (rO S))), ((a 3), .inr (2, [.ref (a 4), .int (nI (cU S))])), ((a 4), .inl (E.2.2.1, 8, .inl (cO S))), ((a 5), .inl (E.2.2.1, 96, .inl (bS S))), ((a 6), .inr (0, [.ref (a 7), .int (nI (mK S))])), ((a 7), .inl (E.2.2.1, 360, .inl (fA S)))] (some (.int (-3))) := by
  refine zM.of kX4_insertLine (Nat.le_of_ble_eq_true rfl) rfl [some (.ref (a 0)), some (.int (nI au)), some (.int (nI 0)), some (.int (nI j)), none, none] rfl (Nat.le_of_ble_eq_true rfl) ?_
  intro X eX C N
  subst eX
  obtain ⟨hur, huc, hM⟩ := id hS
  refine z_iload_n C 1 dX4_insertLine_0 rfl rfl ?_
  refine z_callN C kX5_isAuthor nst_X4_insertLine_61.1 gX4_insertLine_X5_isAuthor_n61 nst_X4_insertLine_61.2.1 nst_X4_insertLine_61.2.2 (mX5_isAuthor_in X.2.1 au hau) dX4_insertLine_1 [] rfl (by decide) (by decide) (Nat.le_of_ble_eq_true rfl) rfl ?_
  refine z_bif_eq_f C 14 dX4_insertLine_4 (by decide) rfl ?_
  refine z_iload_n C 2 dX4_insertLine_7 rfl rfl ?_
  refine z_callN C kX5_isAxis nst_X4_insertLine_49.1 gX4_insertLine_X5_isAxis_n49 nst_X4_insertLine_49.2.1 nst_X4_insertLine_49.2.2 (mX5_isAxis_in X.2.1 0 (by first | assumption | omega)) dX4_insertLine_8 [] rfl (by decide) (by decide) (Nat.le_of_ble_eq_true rfl) rfl ?_
  refine z_bif_ne_t C 16 dX4_insertLine_11 (by decide) rfl ?_
  refine z_aload_n C 0 dX4_insertLine_16 rfl rfl ?_
  refine z_iload_n C 2 dX4_insertLine_17 rfl rfl ?_
  refine z_callVr C kX4_linesOf gX4_insertLine_X4_linesOf (mX4_linesOf_r X.2.1 a (rO S) (rU S) (cO S) (cU S) (bS S) (fA S) (mK S) (tK S) hur huc hM) dX4_insertLine_18 [0, 1, 2, 3, 4, 5, 6, 7] [] 0 rfl nd_0_1_2_3_4_5_6_7 rfl rfl rfl (by decide) (by decide) (Nat.le_of_ble_eq_true rfl) rfl ?_
  refine z_astore C dX4_insertLine_21 (Nat.le_of_ble_eq_true rfl) ?_
  refine z_iload_n C 3 dX4_insertLine_23 rfl rfl ?_
  refine z_nif_lt_f C 36 dX4_insertLine_24 (by decide) (by omega) (by trivial) ?_
  refine z_iload_n C 3 dX4_insertLine_27 rfl rfl ?_
  refine z_aload C dX4_insertLine_28 rfl ?_
  refine z_get C fX4_insertLine_64 1 dX4_insertLine_30 rfl rfl ?_
  refine z_ncmp_le_t C 39 dX4_insertLine_33 (by decide) (by omega) (by omega) (by omega) ?_
  refine z_aload C dX4_insertLine_39 rfl ?_
  refine z_callVr C kX2_isFull gX4_insertLine_X2_isFull (mX2_isFull X.2.1 (a 1) (a 2) 12 (rO S) (rU S) (by first | assumption | omega) hur) dX4_insertLine_41 [1, 2] [] 1 rfl nd_1_2 rfl rfl rfl (by decide) (by decide) (Nat.le_of_ble_eq_true rfl) rfl ?_
  refine z_bif_ne_f C 64 dX4_insertLine_44 (by decide) (decide_eq_false (by omega)) ?_
  refine z_aload_n C 0 dX4_insertLine_47 rfl rfl ?_
  refine z_get C fX4_insertLine_34 0 dX4_insertLine_48 rfl rfl ?_
  refine z_bif_eq_f C 67 dX4_insertLine_51 (by decide) ht ?_
  refine z_aload_n C 0 dX4_insertLine_54 rfl rfl ?_
  refine z_get C fX4_insertLine_30 0 dX4_insertLine_55 rfl rfl ?_
  refine z_callVr C kX0_isFull gX4_insertLine_X0_isFull (mX0_isFull X.2.1 (a 6) (a 7) (fA S) (mK S) hM) dX4_insertLine_58 [6, 7] [] 6 rfl nd_6_7 rfl rfl rfl (by decide) (by decide) (Nat.le_of_ble_eq_true rfl) rfl ?_
  refine z_bif_eq_f C 67 dX4_insertLine_61 (by decide) (decide_eq_true (by omega)) ?_
  refine z_bipush C (-3) dX4_insertLine_64 (by decide) ?_
  exact z_iret C N dX4_insertLine_66 (rfl) (rfl)

set_option maxHeartbeats 4000000 in
set_option maxRecDepth 100000 in
theorem mX4_insertLine_ru (E : zE) (a : Nat → Nat) (S : zSt) (au j : Nat) (hS : okS S) (hau : au < 4) (hj : j ≤ rU S) (hf : rU S < 12) (ht : tK S = false) : zM E yX4_insertLine wsX4_insertLine 5 [.ref (a 0), .int (nI au), .int (nI 0), .int (nI j)] [((a 0), .inr (4, [.ref (a 1), .ref (a 3), .ref (a 5), .ref (a 6), .int (zb (tK S))])), ((a 1), .inr (2, [.ref (a 2), .int (nI (rU S))])), ((a 2), .inl (E.2.2.1, 12, .inl (rO S))), ((a 3), .inr (2, [.ref (a 4), .int (nI (cU S))])), ((a 4), .inl (E.2.2.1, 8, .inl (cO S))), ((a 5), .inl (E.2.2.1, 96, .inl (bS S))), ((a 6), .inr (0, [.ref (a 7), .int (nI (mK S))])), ((a 7), .inl (E.2.2.1, 360, .inl (fA S)))] [((a 0), .inr (4, [.ref (a 1), .ref (a 3), .ref (a 5), .ref (a 6), .int (zb (tK (zInR S j)))])), ((a 1), .inr (2, [.ref (a 2), .int (nI (rU (zInR S j)))])), ((a 2), .inl (E.2.2.1, 12, .inl (rO (zInR S j)))), ((a 3), .inr (2, [.ref (a 4), .int (nI (cU (zInR S j)))])), ((a 4), .inl (E.2.2.1, 8, .inl (cO (zInR S j)))), ((a 5), .inl (E.2.2.1, 96, .inl (bS (zInR S j)))), ((a 6), .inr (0, [.ref (a 7), .int (nI (mK (zInR S j)))])), ((a 7), .inl (E.2.2.1, 360, .inl (fA (zInR S j))))] (some (.int (nI 1000))) := by
  refine zM.of kX4_insertLine (Nat.le_of_ble_eq_true rfl) rfl [some (.ref (a 0)), some (.int (nI au)), some (.int (nI 0)), some (.int (nI j)), none, none] rfl (Nat.le_of_ble_eq_true rfl) ?_
  intro X eX C N
  subst eX
  obtain ⟨hur, huc, hM⟩ := id hS
  refine z_iload_n C 1 dX4_insertLine_0 rfl rfl ?_
  refine z_callN C kX5_isAuthor nst_X4_insertLine_61.1 gX4_insertLine_X5_isAuthor_n61 nst_X4_insertLine_61.2.1 nst_X4_insertLine_61.2.2 (mX5_isAuthor_in X.2.1 au hau) dX4_insertLine_1 [] rfl (by decide) (by decide) (Nat.le_of_ble_eq_true rfl) rfl ?_
  refine z_bif_eq_f C 14 dX4_insertLine_4 (by decide) rfl ?_
  refine z_iload_n C 2 dX4_insertLine_7 rfl rfl ?_
  refine z_callN C kX5_isAxis nst_X4_insertLine_49.1 gX4_insertLine_X5_isAxis_n49 nst_X4_insertLine_49.2.1 nst_X4_insertLine_49.2.2 (mX5_isAxis_in X.2.1 0 (by first | assumption | omega)) dX4_insertLine_8 [] rfl (by decide) (by decide) (Nat.le_of_ble_eq_true rfl) rfl ?_
  refine z_bif_ne_t C 16 dX4_insertLine_11 (by decide) rfl ?_
  refine z_aload_n C 0 dX4_insertLine_16 rfl rfl ?_
  refine z_iload_n C 2 dX4_insertLine_17 rfl rfl ?_
  refine z_callVr C kX4_linesOf gX4_insertLine_X4_linesOf (mX4_linesOf_r X.2.1 a (rO S) (rU S) (cO S) (cU S) (bS S) (fA S) (mK S) (tK S) hur huc hM) dX4_insertLine_18 [0, 1, 2, 3, 4, 5, 6, 7] [] 0 rfl nd_0_1_2_3_4_5_6_7 rfl rfl rfl (by decide) (by decide) (Nat.le_of_ble_eq_true rfl) rfl ?_
  refine z_astore C dX4_insertLine_21 (Nat.le_of_ble_eq_true rfl) ?_
  refine z_iload_n C 3 dX4_insertLine_23 rfl rfl ?_
  refine z_nif_lt_f C 36 dX4_insertLine_24 (by decide) (by omega) (by trivial) ?_
  refine z_iload_n C 3 dX4_insertLine_27 rfl rfl ?_
  refine z_aload C dX4_insertLine_28 rfl ?_
  refine z_get C fX4_insertLine_64 1 dX4_insertLine_30 rfl rfl ?_
  refine z_ncmp_le_t C 39 dX4_insertLine_33 (by decide) (by omega) (by omega) (by omega) ?_
  refine z_aload C dX4_insertLine_39 rfl ?_
  refine z_callVr C kX2_isFull gX4_insertLine_X2_isFull (mX2_isFull X.2.1 (a 1) (a 2) 12 (rO S) (rU S) (by first | assumption | omega) hur) dX4_insertLine_41 [1, 2] [] 1 rfl nd_1_2 rfl rfl rfl (by decide) (by decide) (Nat.le_of_ble_eq_true rfl) rfl ?_
  refine z_bif_ne_f C 64 dX4_insertLine_44 (by decide) (decide_eq_false (by omega)) ?_
  refine z_aload_n C 0 dX4_insertLine_47 rfl rfl ?_
  refine z_get C fX4_insertLine_34 0 dX4_insertLine_48 rfl rfl ?_
  refine z_bif_eq_t C 67 dX4_insertLine_51 (by decide) ht ?_
  refine z_aload C dX4_insertLine_67 rfl ?_
  refine z_iload_n C 3 dX4_insertLine_69 rfl rfl ?_
  refine z_callV (wn := [((a 0), .inr (4, [.ref (a 1), .ref (a 3), .ref (a 5), .ref (a 6), .int (zb (tK S))])), ((a 1), .inr (2, [.ref (a 2), .int (nI ((rU S) + 1))])), ((a 2), .inl (X.2.1.2.2.1, 12, .inl (zOp (rO S) (rU S) j))), ((a 3), .inr (2, [.ref (a 4), .int (nI (cU S))])), ((a 4), .inl (X.2.1.2.2.1, 8, .inl (cO S))), ((a 5), .inl (X.2.1.2.2.1, 96, .inl (bS S))), ((a 6), .inr (0, [.ref (a 7), .int (nI (mK S))])), ((a 7), .inl (X.2.1.2.2.1, 360, .inl (fA S)))]) C kX2_open gX4_insertLine_X2_open (mX2_open X.2.1 (a 1) (a 2) 12 (rO S) (rU S) j (by first | assumption | omega) hur hj hf) dX4_insertLine_70 [1, 2] [] 1 rfl rfl nd_1_2 rfl rfl rfl (by decide) (by decide) (Nat.le_of_ble_eq_true rfl) rfl rfl ?_
  refine z_istore C dX4_insertLine_73 (Nat.le_of_ble_eq_true rfl) ?_
  refine z_aload_n C 0 dX4_insertLine_75 rfl rfl ?_
  refine z_iload_n C 2 dX4_insertLine_76 rfl rfl ?_
  refine z_iload C dX4_insertLine_77 rfl ?_
  refine z_callVv (wn := [((a 0), .inr (4, [.ref (a 1), .ref (a 3), .ref (a 5), .ref (a 6), .int (zb (tK S))])), ((a 1), .inr (2, [.ref (a 2), .int (nI ((rU S) + 1))])), ((a 2), .inl (X.2.1.2.2.1, 12, .inl (zOp (rO S) (rU S) j))), ((a 3), .inr (2, [.ref (a 4), .int (nI (cU S))])), ((a 4), .inl (X.2.1.2.2.1, 8, .inl (cO S))), ((a 5), .inl (X.2.1.2.2.1, 96, .inl (zClR (bS S) ((rO S) (rU S)) 8))), ((a 6), .inr (0, [.ref (a 7), .int (nI (mK S))])), ((a 7), .inl (X.2.1.2.2.1, 360, .inl (fA S)))]) C kX4_clearCells gX4_insertLine_X4_clearCells (mX4_clearCells_r X.2.1 a (zOp (rO S) (rU S) j) ((rU S) + 1) (cO S) (cU S) (bS S) (fA S) (mK S) (tK S) ((rO S) (rU S)) (by first | assumption | omega) huc hM) dX4_insertLine_79 [0, 1, 2, 3, 4, 5, 6, 7] [] 0 rfl rfl nd_0_1_2_3_4_5_6_7 rfl rfl rfl (by decide) (by decide) (Nat.le_of_ble_eq_true rfl) rfl rfl ?_
  refine z_aload_n C 0 dX4_insertLine_82 rfl rfl ?_
  refine z_get C fX4_insertLine_34 0 dX4_insertLine_83 rfl rfl ?_
  refine z_bif_ne_f C 93 dX4_insertLine_86 (by decide) ht ?_
  refine z_sipush C (nI 1000) dX4_insertLine_89 (by decide) ?_
  exact z_iret C N dX4_insertLine_92 (rfl) (rfl)

set_option maxHeartbeats 4000000 in
set_option maxRecDepth 100000 in
theorem mX4_insertLine_rt (E : zE) (a : Nat → Nat) (S : zSt) (au j : Nat) (hS : okS S) (hau : au < 4) (hj : j ≤ rU S) (hf : rU S < 12) (ht : tK S = true) (hf2 : mK S < 60) : zM E yX4_insertLine wsX4_insertLine 5 [.ref (a 0), .int (nI au), .int (nI 0), .int (nI j)] [((a 0), .inr (4, [.ref (a 1), .ref (a 3), .ref (a 5), .ref (a 6), .int (zb (tK S))])), ((a 1), .inr (2, [.ref (a 2), .int (nI (rU S))])), ((a 2), .inl (E.2.2.1, 12, .inl (rO S))), ((a 3), .inr (2, [.ref (a 4), .int (nI (cU S))])), ((a 4), .inl (E.2.2.1, 8, .inl (cO S))), ((a 5), .inl (E.2.2.1, 96, .inl (bS S))), ((a 6), .inr (0, [.ref (a 7), .int (nI (mK S))])), ((a 7), .inl (E.2.2.1, 360, .inl (fA S)))] [((a 0), .inr (4, [.ref (a 1), .ref (a 3), .ref (a 5), .ref (a 6), .int (zb (tK (zNew (zInR S j) (nI 0) (nI au) (rO S (rU S)) (-5) (-5))))])), ((a 1), .inr (2, [.ref (a 2), .int (nI (rU (zNew (zInR S j) (nI 0) (nI au) (rO S (rU S)) (-5) (-5))))])), ((a 2), .inl (E.2.2.1, 12, .inl (rO (zNew (zInR S j) (nI 0) (nI au) (rO S (rU S)) (-5) (-5))))), ((a 3), .inr (2, [.ref (a 4), .int (nI (cU (zNew (zInR S j) (nI 0) (nI au) (rO S (rU S)) (-5) (-5))))])), ((a 4), .inl (E.2.2.1, 8, .inl (cO (zNew (zInR S j) (nI 0) (nI au) (rO S (rU S)) (-5) (-5))))), ((a 5), .inl (E.2.2.1, 96, .inl (bS (zNew (zInR S j) (nI 0) (nI au) (rO S (rU S)) (-5) (-5))))), ((a 6), .inr (0, [.ref (a 7), .int (nI (mK (zNew (zInR S j) (nI 0) (nI au) (rO S (rU S)) (-5) (-5))))])), ((a 7), .inl (E.2.2.1, 360, .inl (fA (zNew (zInR S j) (nI 0) (nI au) (rO S (rU S)) (-5) (-5)))))] (some (.int (nI (mK S)))) := by
  refine zM.of kX4_insertLine (Nat.le_of_ble_eq_true rfl) rfl [some (.ref (a 0)), some (.int (nI au)), some (.int (nI 0)), some (.int (nI j)), none, none] rfl (Nat.le_of_ble_eq_true rfl) ?_
  intro X eX C N
  subst eX
  obtain ⟨hur, huc, hM⟩ := id hS
  refine z_iload_n C 1 dX4_insertLine_0 rfl rfl ?_
  refine z_callN C kX5_isAuthor nst_X4_insertLine_61.1 gX4_insertLine_X5_isAuthor_n61 nst_X4_insertLine_61.2.1 nst_X4_insertLine_61.2.2 (mX5_isAuthor_in X.2.1 au hau) dX4_insertLine_1 [] rfl (by decide) (by decide) (Nat.le_of_ble_eq_true rfl) rfl ?_
  refine z_bif_eq_f C 14 dX4_insertLine_4 (by decide) rfl ?_
  refine z_iload_n C 2 dX4_insertLine_7 rfl rfl ?_
  refine z_callN C kX5_isAxis nst_X4_insertLine_49.1 gX4_insertLine_X5_isAxis_n49 nst_X4_insertLine_49.2.1 nst_X4_insertLine_49.2.2 (mX5_isAxis_in X.2.1 0 (by first | assumption | omega)) dX4_insertLine_8 [] rfl (by decide) (by decide) (Nat.le_of_ble_eq_true rfl) rfl ?_
  refine z_bif_ne_t C 16 dX4_insertLine_11 (by decide) rfl ?_
  refine z_aload_n C 0 dX4_insertLine_16 rfl rfl ?_
  refine z_iload_n C 2 dX4_insertLine_17 rfl rfl ?_
  refine z_callVr C kX4_linesOf gX4_insertLine_X4_linesOf (mX4_linesOf_r X.2.1 a (rO S) (rU S) (cO S) (cU S) (bS S) (fA S) (mK S) (tK S) hur huc hM) dX4_insertLine_18 [0, 1, 2, 3, 4, 5, 6, 7] [] 0 rfl nd_0_1_2_3_4_5_6_7 rfl rfl rfl (by decide) (by decide) (Nat.le_of_ble_eq_true rfl) rfl ?_
  refine z_astore C dX4_insertLine_21 (Nat.le_of_ble_eq_true rfl) ?_
  refine z_iload_n C 3 dX4_insertLine_23 rfl rfl ?_
  refine z_nif_lt_f C 36 dX4_insertLine_24 (by decide) (by omega) (by trivial) ?_
  refine z_iload_n C 3 dX4_insertLine_27 rfl rfl ?_
  refine z_aload C dX4_insertLine_28 rfl ?_
  refine z_get C fX4_insertLine_64 1 dX4_insertLine_30 rfl rfl ?_
  refine z_ncmp_le_t C 39 dX4_insertLine_33 (by decide) (by omega) (by omega) (by omega) ?_
  refine z_aload C dX4_insertLine_39 rfl ?_
  refine z_callVr C kX2_isFull gX4_insertLine_X2_isFull (mX2_isFull X.2.1 (a 1) (a 2) 12 (rO S) (rU S) (by first | assumption | omega) hur) dX4_insertLine_41 [1, 2] [] 1 rfl nd_1_2 rfl rfl rfl (by decide) (by decide) (Nat.le_of_ble_eq_true rfl) rfl ?_
  refine z_bif_ne_f C 64 dX4_insertLine_44 (by decide) (decide_eq_false (by omega)) ?_
  refine z_aload_n C 0 dX4_insertLine_47 rfl rfl ?_
  refine z_get C fX4_insertLine_34 0 dX4_insertLine_48 rfl rfl ?_
  refine z_bif_eq_f C 67 dX4_insertLine_51 (by decide) ht ?_
  refine z_aload_n C 0 dX4_insertLine_54 rfl rfl ?_
  refine z_get C fX4_insertLine_30 0 dX4_insertLine_55 rfl rfl ?_
  refine z_callVr C kX0_isFull gX4_insertLine_X0_isFull (mX0_isFull X.2.1 (a 6) (a 7) (fA S) (mK S) hM) dX4_insertLine_58 [6, 7] [] 6 rfl nd_6_7 rfl rfl rfl (by decide) (by decide) (Nat.le_of_ble_eq_true rfl) rfl ?_
  refine z_bif_eq_t C 67 dX4_insertLine_61 (by decide) (decide_eq_false (by omega)) ?_
  refine z_aload C dX4_insertLine_67 rfl ?_
  refine z_iload_n C 3 dX4_insertLine_69 rfl rfl ?_
  refine z_callV (wn := [((a 0), .inr (4, [.ref (a 1), .ref (a 3), .ref (a 5), .ref (a 6), .int (zb (tK S))])), ((a 1), .inr (2, [.ref (a 2), .int (nI ((rU S) + 1))])), ((a 2), .inl (X.2.1.2.2.1, 12, .inl (zOp (rO S) (rU S) j))), ((a 3), .inr (2, [.ref (a 4), .int (nI (cU S))])), ((a 4), .inl (X.2.1.2.2.1, 8, .inl (cO S))), ((a 5), .inl (X.2.1.2.2.1, 96, .inl (bS S))), ((a 6), .inr (0, [.ref (a 7), .int (nI (mK S))])), ((a 7), .inl (X.2.1.2.2.1, 360, .inl (fA S)))]) C kX2_open gX4_insertLine_X2_open (mX2_open X.2.1 (a 1) (a 2) 12 (rO S) (rU S) j (by first | assumption | omega) hur hj hf) dX4_insertLine_70 [1, 2] [] 1 rfl rfl nd_1_2 rfl rfl rfl (by decide) (by decide) (Nat.le_of_ble_eq_true rfl) rfl rfl ?_
  refine z_istore C dX4_insertLine_73 (Nat.le_of_ble_eq_true rfl) ?_
  refine z_aload_n C 0 dX4_insertLine_75 rfl rfl ?_
  refine z_iload_n C 2 dX4_insertLine_76 rfl rfl ?_
  refine z_iload C dX4_insertLine_77 rfl ?_
  refine z_callVv (wn := [((a 0), .inr (4, [.ref (a 1), .ref (a 3), .ref (a 5), .ref (a 6), .int (zb (tK S))])), ((a 1), .inr (2, [.ref (a 2), .int (nI ((rU S) + 1))])), ((a 2), .inl (X.2.1.2.2.1, 12, .inl (zOp (rO S) (rU S) j))), ((a 3), .inr (2, [.ref (a 4), .int (nI (cU S))])), ((a 4), .inl (X.2.1.2.2.1, 8, .inl (cO S))), ((a 5), .inl (X.2.1.2.2.1, 96, .inl (zClR (bS S) ((rO S) (rU S)) 8))), ((a 6), .inr (0, [.ref (a 7), .int (nI (mK S))])), ((a 7), .inl (X.2.1.2.2.1, 360, .inl (fA S)))]) C kX4_clearCells gX4_insertLine_X4_clearCells (mX4_clearCells_r X.2.1 a (zOp (rO S) (rU S) j) ((rU S) + 1) (cO S) (cU S) (bS S) (fA S) (mK S) (tK S) ((rO S) (rU S)) (by first | assumption | omega) huc hM) dX4_insertLine_79 [0, 1, 2, 3, 4, 5, 6, 7] [] 0 rfl rfl nd_0_1_2_3_4_5_6_7 rfl rfl rfl (by decide) (by decide) (Nat.le_of_ble_eq_true rfl) rfl rfl ?_
  refine z_aload_n C 0 dX4_insertLine_82 rfl rfl ?_
  refine z_get C fX4_insertLine_34 0 dX4_insertLine_83 rfl rfl ?_
  refine z_bif_ne_t C 93 dX4_insertLine_86 (by decide) ht ?_
  refine z_aload_n C 0 dX4_insertLine_93 rfl rfl ?_
  refine z_get C fX4_insertLine_30 0 dX4_insertLine_94 rfl rfl ?_
  refine z_iload_n C 2 dX4_insertLine_97 rfl rfl ?_
  refine z_nif_ne_f C 105 dX4_insertLine_98 (by decide) (by omega) (by omega) ?_
  refine z_iconst C (nI 0) dX4_insertLine_101 (by decide) ?_
  refine z_goto C 106 dX4_insertLine_102 (by decide) ?_
  refine z_iload_n C 1 dX4_insertLine_106 rfl rfl ?_
  refine z_iload C dX4_insertLine_107 rfl ?_
  refine z_callV (wn := [((a 0), .inr (4, [.ref (a 1), .ref (a 3), .ref (a 5), .ref (a 6), .int (zb (tK S))])), ((a 1), .inr (2, [.ref (a 2), .int (nI ((rU S) + 1))])), ((a 2), .inl (X.2.1.2.2.1, 12, .inl (zOp (rO S) (rU S) j))), ((a 3), .inr (2, [.ref (a 4), .int (nI (cU S))])), ((a 4), .inl (X.2.1.2.2.1, 8, .inl (cO S))), ((a 5), .inl (X.2.1.2.2.1, 96, .inl (zClR (bS S) ((rO S) (rU S)) 8))), ((a 6), .inr (0, [.ref (a 7), .int (nI ((mK S) + 1))])), ((a 7), .inl (X.2.1.2.2.1, 360, .inl (zAdd (fA S) (mK S) (nI 0) (nI au) ((rO S) (rU S)) (-5) (-5))))]) C kX0_addOfLine gX4_insertLine_X0_addOfLine (mX0_addOfLine_r X.2.1 (a 6) (a 7) (fA S) (mK S) 0 (nI au) ((rO S) (rU S)) hf2 (by first | assumption | omega)) dX4_insertLine_109 [6, 7] [] 6 rfl rfl nd_6_7 rfl rfl rfl (by decide) (by decide) (Nat.le_of_ble_eq_true rfl) rfl rfl ?_
  exact z_iret C N dX4_insertLine_112 (rfl) (rfl)

set_option maxHeartbeats 4000000 in
set_option maxRecDepth 100000 in
theorem mX4_insertLine_cb (E : zE) (a : Nat → Nat) (S : zSt) (au : Nat) (pl : Int32) (hS : okS S) (hau : au < 4) (hx : pl < 0 ∨ (¬ pl < 0 ∧ nI (cU S) < pl)) : zM E yX4_insertLine wsX4_insertLine 5 [.ref (a 0), .int (nI au), .int (nI 1), .int pl] [((a 0), .inr (4, [.ref (a 1), .ref (a 3), .ref (a 5), .ref (a 6), .int (zb (tK S))])), ((a 1), .inr (2, [.ref (a 2), .int (nI (rU S))])), ((a 2), .inl (E.2.2.1, 12, .inl (rO S))), ((a 3), .inr (2, [.ref (a 4), .int (nI (cU S))])), ((a 4), .inl (E.2.2.1, 8, .inl (cO S))), ((a 5), .inl (E.2.2.1, 96, .inl (bS S))), ((a 6), .inr (0, [.ref (a 7), .int (nI (mK S))])), ((a 7), .inl (E.2.2.1, 360, .inl (fA S)))] [((a 0), .inr (4, [.ref (a 1), .ref (a 3), .ref (a 5), .ref (a 6), .int (zb (tK S))])), ((a 1), .inr (2, [.ref (a 2), .int (nI (rU S))])), ((a 2), .inl (E.2.2.1, 12, .inl (rO S))), ((a 3), .inr (2, [.ref (a 4), .int (nI (cU S))])), ((a 4), .inl (E.2.2.1, 8, .inl (cO S))), ((a 5), .inl (E.2.2.1, 96, .inl (bS S))), ((a 6), .inr (0, [.ref (a 7), .int (nI (mK S))])), ((a 7), .inl (E.2.2.1, 360, .inl (fA S)))] (some (.int (-2))) := by
  refine zM.of kX4_insertLine (Nat.le_of_ble_eq_true rfl) rfl [some (.ref (a 0)), some (.int (nI au)), some (.int (nI 1)), some (.int pl), none, none] rfl (Nat.le_of_ble_eq_true rfl) ?_
  intro X eX C N
  subst eX
  obtain ⟨hur, huc, hM⟩ := id hS
  rcases hx with hx | ⟨hx0, hx1⟩
  · refine z_iload_n C 1 dX4_insertLine_0 rfl rfl ?_
    refine z_callN C kX5_isAuthor nst_X4_insertLine_61.1 gX4_insertLine_X5_isAuthor_n61 nst_X4_insertLine_61.2.1 nst_X4_insertLine_61.2.2 (mX5_isAuthor_in X.2.1 au hau) dX4_insertLine_1 [] rfl (by decide) (by decide) (Nat.le_of_ble_eq_true rfl) rfl ?_
    refine z_bif_eq_f C 14 dX4_insertLine_4 (by decide) rfl ?_
    refine z_iload_n C 2 dX4_insertLine_7 rfl rfl ?_
    refine z_callN C kX5_isAxis nst_X4_insertLine_49.1 gX4_insertLine_X5_isAxis_n49 nst_X4_insertLine_49.2.1 nst_X4_insertLine_49.2.2 (mX5_isAxis_in X.2.1 1 (by first | assumption | omega)) dX4_insertLine_8 [] rfl (by decide) (by decide) (Nat.le_of_ble_eq_true rfl) rfl ?_
    refine z_bif_ne_t C 16 dX4_insertLine_11 (by decide) rfl ?_
    refine z_aload_n C 0 dX4_insertLine_16 rfl rfl ?_
    refine z_iload_n C 2 dX4_insertLine_17 rfl rfl ?_
    refine z_callVr C kX4_linesOf gX4_insertLine_X4_linesOf (mX4_linesOf_c X.2.1 a (rO S) (rU S) (cO S) (cU S) (bS S) (fA S) (mK S) (tK S) hur huc hM) dX4_insertLine_18 [0, 1, 2, 3, 4, 5, 6, 7] [] 0 rfl nd_0_1_2_3_4_5_6_7 rfl rfl rfl (by decide) (by decide) (Nat.le_of_ble_eq_true rfl) rfl ?_
    refine z_astore C dX4_insertLine_21 (Nat.le_of_ble_eq_true rfl) ?_
    refine z_iload_n C 3 dX4_insertLine_23 rfl rfl ?_
    refine z_if_lt_t C 36 dX4_insertLine_24 (by decide) hx ?_
    refine z_bipush C (-2) dX4_insertLine_36 (by decide) ?_
    exact z_iret C N dX4_insertLine_38 (rfl) (rfl)
  · refine z_iload_n C 1 dX4_insertLine_0 rfl rfl ?_
    refine z_callN C kX5_isAuthor nst_X4_insertLine_61.1 gX4_insertLine_X5_isAuthor_n61 nst_X4_insertLine_61.2.1 nst_X4_insertLine_61.2.2 (mX5_isAuthor_in X.2.1 au hau) dX4_insertLine_1 [] rfl (by decide) (by decide) (Nat.le_of_ble_eq_true rfl) rfl ?_
    refine z_bif_eq_f C 14 dX4_insertLine_4 (by decide) rfl ?_
    refine z_iload_n C 2 dX4_insertLine_7 rfl rfl ?_
    refine z_callN C kX5_isAxis nst_X4_insertLine_49.1 gX4_insertLine_X5_isAxis_n49 nst_X4_insertLine_49.2.1 nst_X4_insertLine_49.2.2 (mX5_isAxis_in X.2.1 1 (by first | assumption | omega)) dX4_insertLine_8 [] rfl (by decide) (by decide) (Nat.le_of_ble_eq_true rfl) rfl ?_
    refine z_bif_ne_t C 16 dX4_insertLine_11 (by decide) rfl ?_
    refine z_aload_n C 0 dX4_insertLine_16 rfl rfl ?_
    refine z_iload_n C 2 dX4_insertLine_17 rfl rfl ?_
    refine z_callVr C kX4_linesOf gX4_insertLine_X4_linesOf (mX4_linesOf_c X.2.1 a (rO S) (rU S) (cO S) (cU S) (bS S) (fA S) (mK S) (tK S) hur huc hM) dX4_insertLine_18 [0, 1, 2, 3, 4, 5, 6, 7] [] 0 rfl nd_0_1_2_3_4_5_6_7 rfl rfl rfl (by decide) (by decide) (Nat.le_of_ble_eq_true rfl) rfl ?_
    refine z_astore C dX4_insertLine_21 (Nat.le_of_ble_eq_true rfl) ?_
    refine z_iload_n C 3 dX4_insertLine_23 rfl rfl ?_
    refine z_if_lt_f C 36 dX4_insertLine_24 (by decide) hx0 ?_
    refine z_iload_n C 3 dX4_insertLine_27 rfl rfl ?_
    refine z_aload C dX4_insertLine_28 rfl ?_
    refine z_get C fX4_insertLine_64 3 dX4_insertLine_30 rfl rfl ?_
    refine z_icmp_le_f C 39 dX4_insertLine_33 (by decide) (Int32.not_le.mpr hx1) ?_
    refine z_bipush C (-2) dX4_insertLine_36 (by decide) ?_
    exact z_iret C N dX4_insertLine_38 (rfl) (rfl)

set_option maxHeartbeats 4000000 in
set_option maxRecDepth 100000 in
theorem mX4_insertLine_cf1 (E : zE) (a : Nat → Nat) (S : zSt) (au j : Nat) (hS : okS S) (hau : au < 4) (hj : j ≤ cU S) (hf : 8 ≤ cU S) : zM E yX4_insertLine wsX4_insertLine 5 [.ref (a 0), .int (nI au), .int (nI 1), .int (nI j)] [((a 0), .inr (4, [.ref (a 1), .ref (a 3), .ref (a 5), .ref (a 6), .int (zb (tK S))])), ((a 1), .inr (2, [.ref (a 2), .int (nI (rU S))])), ((a 2), .inl (E.2.2.1, 12, .inl (rO S))), ((a 3), .inr (2, [.ref (a 4), .int (nI (cU S))])), ((a 4), .inl (E.2.2.1, 8, .inl (cO S))), ((a 5), .inl (E.2.2.1, 96, .inl (bS S))), ((a 6), .inr (0, [.ref (a 7), .int (nI (mK S))])), ((a 7), .inl (E.2.2.1, 360, .inl (fA S)))] [((a 0), .inr (4, [.ref (a 1), .ref (a 3), .ref (a 5), .ref (a 6), .int (zb (tK S))])), ((a 1), .inr (2, [.ref (a 2), .int (nI (rU S))])), ((a 2), .inl (E.2.2.1, 12, .inl (rO S))), ((a 3), .inr (2, [.ref (a 4), .int (nI (cU S))])), ((a 4), .inl (E.2.2.1, 8, .inl (cO S))), ((a 5), .inl (E.2.2.1, 96, .inl (bS S))), ((a 6), .inr (0, [.ref (a 7), .int (nI (mK S))])), ((a 7), .inl (E.2.2.1, 360, .inl (fA S)))] (some (.int (-3))) := by
  refine zM.of kX4_insertLine (Nat.le_of_ble_eq_true rfl) rfl [some (.ref (a 0)), some (.int (nI au)), some (.int (nI 1)), some (.int (nI j)), none, none] rfl (Nat.le_of_ble_eq_true rfl) ?_
  intro X eX C N
  subst eX
  obtain ⟨hur, huc, hM⟩ := id hS
  refine z_iload_n C 1 dX4_insertLine_0 rfl rfl ?_
  refine z_callN C kX5_isAuthor nst_X4_insertLine_61.1 gX4_insertLine_X5_isAuthor_n61 nst_X4_insertLine_61.2.1 nst_X4_insertLine_61.2.2 (mX5_isAuthor_in X.2.1 au hau) dX4_insertLine_1 [] rfl (by decide) (by decide) (Nat.le_of_ble_eq_true rfl) rfl ?_
  refine z_bif_eq_f C 14 dX4_insertLine_4 (by decide) rfl ?_
  refine z_iload_n C 2 dX4_insertLine_7 rfl rfl ?_
  refine z_callN C kX5_isAxis nst_X4_insertLine_49.1 gX4_insertLine_X5_isAxis_n49 nst_X4_insertLine_49.2.1 nst_X4_insertLine_49.2.2 (mX5_isAxis_in X.2.1 1 (by first | assumption | omega)) dX4_insertLine_8 [] rfl (by decide) (by decide) (Nat.le_of_ble_eq_true rfl) rfl ?_
  refine z_bif_ne_t C 16 dX4_insertLine_11 (by decide) rfl ?_
  refine z_aload_n C 0 dX4_insertLine_16 rfl rfl ?_
  refine z_iload_n C 2 dX4_insertLine_17 rfl rfl ?_
  refine z_callVr C kX4_linesOf gX4_insertLine_X4_linesOf (mX4_linesOf_c X.2.1 a (rO S) (rU S) (cO S) (cU S) (bS S) (fA S) (mK S) (tK S) hur huc hM) dX4_insertLine_18 [0, 1, 2, 3, 4, 5, 6, 7] [] 0 rfl nd_0_1_2_3_4_5_6_7 rfl rfl rfl (by decide) (by decide) (Nat.le_of_ble_eq_true rfl) rfl ?_
  refine z_astore C dX4_insertLine_21 (Nat.le_of_ble_eq_true rfl) ?_
  refine z_iload_n C 3 dX4_insertLine_23 rfl rfl ?_
  refine z_nif_lt_f C 36 dX4_insertLine_24 (by decide) (by omega) (by trivial) ?_
  refine z_iload_n C 3 dX4_insertLine_27 rfl rfl ?_
  refine z_aload C dX4_insertLine_28 rfl ?_
  refine z_get C fX4_insertLine_64 3 dX4_insertLine_30 rfl rfl ?_
  refine z_ncmp_le_t C 39 dX4_insertLine_33 (by decide) (by omega) (by omega) (by omega) ?_
  refine z_aload C dX4_insertLine_39 rfl ?_
  refine z_callVr C kX2_isFull gX4_insertLine_X2_isFull (mX2_isFull X.2.1 (a 3) (a 4) 8 (cO S) (cU S) (by first | assumption | omega) huc) dX4_insertLine_41 [3, 4] [] 3 rfl nd_3_4 rfl rfl rfl (by decide) (by decide) (Nat.le_of_ble_eq_true rfl) rfl ?_
  refine z_bif_ne_t C 64 dX4_insertLine_44 (by decide) (decide_eq_true (by omega)) ?_
  refine z_bipush C (-3) dX4_insertLine_64 (by decide) ?_
  exact z_iret C N dX4_insertLine_66 (rfl) (rfl)

set_option maxHeartbeats 4000000 in
set_option maxRecDepth 100000 in
theorem mX4_insertLine_cf2 (E : zE) (a : Nat → Nat) (S : zSt) (au j : Nat) (hS : okS S) (hau : au < 4) (hj : j ≤ cU S) (hf : cU S < 8) (ht : tK S = true) (hf2 : 60 ≤ mK S) : zM E yX4_insertLine wsX4_insertLine 5 [.ref (a 0), .int (nI au), .int (nI 1), .int (nI j)] [((a 0), .inr (4, [.ref (a 1), .ref (a 3), .ref (a 5), .ref (a 6), .int (zb (tK S))])), ((a 1), .inr (2, [.ref (a 2), .int (nI (rU S))])), ((a 2), .inl (E.2.2.1, 12, .inl (rO S))), ((a 3), .inr (2, [.ref (a 4), .int (nI (cU S))])), ((a 4), .inl (E.2.2.1, 8, .inl (cO S))), ((a 5), .inl (E.2.2.1, 96, .inl (bS S))), ((a 6), .inr (0, [.ref (a 7), .int (nI (mK S))])), ((a 7), .inl (E.2.2.1, 360, .inl (fA S)))] [((a 0), .inr (4, [.ref (a 1), .ref (a 3), .ref (a 5), .ref (a 6), .int (zb (tK S))])), ((a 1), .inr (2, [.ref (a 2), .int (nI (rU S))])), ((a 2), .inl (E.2.2.1, 12, .inl (rO S))), ((a 3), .inr (2, [.ref (a 4), .int (nI (cU S))])), ((a 4), .inl (E.2.2.1, 8, .inl (cO S))), ((a 5), .inl (E.2.2.1, 96, .inl (bS S))), ((a 6), .inr (0, [.ref (a 7), .int (nI (mK S))])), ((a 7), .inl (E.2.2.1, 360, .inl (fA S)))] (some (.int (-3))) := by
  refine zM.of kX4_insertLine (Nat.le_of_ble_eq_true rfl) rfl [some (.ref (a 0)), some (.int (nI au)), some (.int (nI 1)), some (.int (nI j)), none, none] rfl (Nat.le_of_ble_eq_true rfl) ?_
  intro X eX C N
  subst eX
  obtain ⟨hur, huc, hM⟩ := id hS
  refine z_iload_n C 1 dX4_insertLine_0 rfl rfl ?_
  refine z_callN C kX5_isAuthor nst_X4_insertLine_61.1 gX4_insertLine_X5_isAuthor_n61 nst_X4_insertLine_61.2.1 nst_X4_insertLine_61.2.2 (mX5_isAuthor_in X.2.1 au hau) dX4_insertLine_1 [] rfl (by decide) (by decide) (Nat.le_of_ble_eq_true rfl) rfl ?_
  refine z_bif_eq_f C 14 dX4_insertLine_4 (by decide) rfl ?_
  refine z_iload_n C 2 dX4_insertLine_7 rfl rfl ?_
  refine z_callN C kX5_isAxis nst_X4_insertLine_49.1 gX4_insertLine_X5_isAxis_n49 nst_X4_insertLine_49.2.1 nst_X4_insertLine_49.2.2 (mX5_isAxis_in X.2.1 1 (by first | assumption | omega)) dX4_insertLine_8 [] rfl (by decide) (by decide) (Nat.le_of_ble_eq_true rfl) rfl ?_
  refine z_bif_ne_t C 16 dX4_insertLine_11 (by decide) rfl ?_
  refine z_aload_n C 0 dX4_insertLine_16 rfl rfl ?_
  refine z_iload_n C 2 dX4_insertLine_17 rfl rfl ?_
  refine z_callVr C kX4_linesOf gX4_insertLine_X4_linesOf (mX4_linesOf_c X.2.1 a (rO S) (rU S) (cO S) (cU S) (bS S) (fA S) (mK S) (tK S) hur huc hM) dX4_insertLine_18 [0, 1, 2, 3, 4, 5, 6, 7] [] 0 rfl nd_0_1_2_3_4_5_6_7 rfl rfl rfl (by decide) (by decide) (Nat.le_of_ble_eq_true rfl) rfl ?_
  refine z_astore C dX4_insertLine_21 (Nat.le_of_ble_eq_true rfl) ?_
  refine z_iload_n C 3 dX4_insertLine_23 rfl rfl ?_
  refine z_nif_lt_f C 36 dX4_insertLine_24 (by decide) (by omega) (by trivial) ?_
  refine z_iload_n C 3 dX4_insertLine_27 rfl rfl ?_
  refine z_aload C dX4_insertLine_28 rfl ?_
  refine z_get C fX4_insertLine_64 3 dX4_insertLine_30 rfl rfl ?_
  refine z_ncmp_le_t C 39 dX4_insertLine_33 (by decide) (by omega) (by omega) (by omega) ?_
  refine z_aload C dX4_insertLine_39 rfl ?_
  refine z_callVr C kX2_isFull gX4_insertLine_X2_isFull (mX2_isFull X.2.1 (a 3) (a 4) 8 (cO S) (cU S) (by first | assumption | omega) huc) dX4_insertLine_41 [3, 4] [] 3 rfl nd_3_4 rfl rfl rfl (by decide) (by decide) (Nat.le_of_ble_eq_true rfl) rfl ?_
  refine z_bif_ne_f C 64 dX4_insertLine_44 (by decide) (decide_eq_false (by omega)) ?_
  refine z_aload_n C 0 dX4_insertLine_47 rfl rfl ?_
  refine z_get C fX4_insertLine_34 0 dX4_insertLine_48 rfl rfl ?_
  refine z_bif_eq_f C 67 dX4_insertLine_51 (by decide) ht ?_
  refine z_aload_n C 0 dX4_insertLine_54 rfl rfl ?_
  refine z_get C fX4_insertLine_30 0 dX4_insertLine_55 rfl rfl ?_
  refine z_callVr C kX0_isFull gX4_insertLine_X0_isFull (mX0_isFull X.2.1 (a 6) (a 7) (fA S) (mK S) hM) dX4_insertLine_58 [6, 7] [] 6 rfl nd_6_7 rfl rfl rfl (by decide) (by decide) (Nat.le_of_ble_eq_true rfl) rfl ?_
  refine z_bif_eq_f C 67 dX4_insertLine_61 (by decide) (decide_eq_true (by omega)) ?_
  refine z_bipush C (-3) dX4_insertLine_64 (by decide) ?_
  exact z_iret C N dX4_insertLine_66 (rfl) (rfl)

set_option maxHeartbeats 4000000 in
set_option maxRecDepth 100000 in
theorem mX4_insertLine_cu (E : zE) (a : Nat → Nat) (S : zSt) (au j : Nat) (hS : okS S) (hau : au < 4) (hj : j ≤ cU S) (hf : cU S < 8) (ht : tK S = false) : zM E yX4_insertLine wsX4_insertLine 5 [.ref (a 0), .int (nI au), .int (nI 1), .int (nI j)] [((a 0), .inr (4, [.ref (a 1), .ref (a 3), .ref (a 5), .ref (a 6), .int (zb (tK S))])), ((a 1), .inr (2, [.ref (a 2), .int (nI (rU S))])), ((a 2), .inl (E.2.2.1, 12, .inl (rO S))), ((a 3), .inr (2, [.ref (a 4), .int (nI (cU S))])), ((a 4), .inl (E.2.2.1, 8, .inl (cO S))), ((a 5), .inl (E.2.2.1, 96, .inl (bS S))), ((a 6), .inr (0, [.ref (a 7), .int (nI (mK S))])), ((a 7), .inl (E.2.2.1, 360, .inl (fA S)))] [((a 0), .inr (4, [.ref (a 1), .ref (a 3), .ref (a 5), .ref (a 6), .int (zb (tK (zInC S j)))])), ((a 1), .inr (2, [.ref (a 2), .int (nI (rU (zInC S j)))])), ((a 2), .inl (E.2.2.1, 12, .inl (rO (zInC S j)))), ((a 3), .inr (2, [.ref (a 4), .int (nI (cU (zInC S j)))])), ((a 4), .inl (E.2.2.1, 8, .inl (cO (zInC S j)))), ((a 5), .inl (E.2.2.1, 96, .inl (bS (zInC S j)))), ((a 6), .inr (0, [.ref (a 7), .int (nI (mK (zInC S j)))])), ((a 7), .inl (E.2.2.1, 360, .inl (fA (zInC S j))))] (some (.int (nI 1000))) := by
  refine zM.of kX4_insertLine (Nat.le_of_ble_eq_true rfl) rfl [some (.ref (a 0)), some (.int (nI au)), some (.int (nI 1)), some (.int (nI j)), none, none] rfl (Nat.le_of_ble_eq_true rfl) ?_
  intro X eX C N
  subst eX
  obtain ⟨hur, huc, hM⟩ := id hS
  refine z_iload_n C 1 dX4_insertLine_0 rfl rfl ?_
  refine z_callN C kX5_isAuthor nst_X4_insertLine_61.1 gX4_insertLine_X5_isAuthor_n61 nst_X4_insertLine_61.2.1 nst_X4_insertLine_61.2.2 (mX5_isAuthor_in X.2.1 au hau) dX4_insertLine_1 [] rfl (by decide) (by decide) (Nat.le_of_ble_eq_true rfl) rfl ?_
  refine z_bif_eq_f C 14 dX4_insertLine_4 (by decide) rfl ?_
  refine z_iload_n C 2 dX4_insertLine_7 rfl rfl ?_
  refine z_callN C kX5_isAxis nst_X4_insertLine_49.1 gX4_insertLine_X5_isAxis_n49 nst_X4_insertLine_49.2.1 nst_X4_insertLine_49.2.2 (mX5_isAxis_in X.2.1 1 (by first | assumption | omega)) dX4_insertLine_8 [] rfl (by decide) (by decide) (Nat.le_of_ble_eq_true rfl) rfl ?_
  refine z_bif_ne_t C 16 dX4_insertLine_11 (by decide) rfl ?_
  refine z_aload_n C 0 dX4_insertLine_16 rfl rfl ?_
  refine z_iload_n C 2 dX4_insertLine_17 rfl rfl ?_
  refine z_callVr C kX4_linesOf gX4_insertLine_X4_linesOf (mX4_linesOf_c X.2.1 a (rO S) (rU S) (cO S) (cU S) (bS S) (fA S) (mK S) (tK S) hur huc hM) dX4_insertLine_18 [0, 1, 2, 3, 4, 5, 6, 7] [] 0 rfl nd_0_1_2_3_4_5_6_7 rfl rfl rfl (by decide) (by decide) (Nat.le_of_ble_eq_true rfl) rfl ?_
  refine z_astore C dX4_insertLine_21 (Nat.le_of_ble_eq_true rfl) ?_
  refine z_iload_n C 3 dX4_insertLine_23 rfl rfl ?_
  refine z_nif_lt_f C 36 dX4_insertLine_24 (by decide) (by omega) (by trivial) ?_
  refine z_iload_n C 3 dX4_insertLine_27 rfl rfl ?_
  refine z_aload C dX4_insertLine_28 rfl ?_
  refine z_get C fX4_insertLine_64 3 dX4_insertLine_30 rfl rfl ?_
  refine z_ncmp_le_t C 39 dX4_insertLine_33 (by decide) (by omega) (by omega) (by omega) ?_
  refine z_aload C dX4_insertLine_39 rfl ?_
  refine z_callVr C kX2_isFull gX4_insertLine_X2_isFull (mX2_isFull X.2.1 (a 3) (a 4) 8 (cO S) (cU S) (by first | assumption | omega) huc) dX4_insertLine_41 [3, 4] [] 3 rfl nd_3_4 rfl rfl rfl (by decide) (by decide) (Nat.le_of_ble_eq_true rfl) rfl ?_
  refine z_bif_ne_f C 64 dX4_insertLine_44 (by decide) (decide_eq_false (by omega)) ?_
  refine z_aload_n C 0 dX4_insertLine_47 rfl rfl ?_
  refine z_get C fX4_insertLine_34 0 dX4_insertLine_48 rfl rfl ?_
  refine z_bif_eq_t C 67 dX4_insertLine_51 (by decide) ht ?_
  refine z_aload C dX4_insertLine_67 rfl ?_
  refine z_iload_n C 3 dX4_insertLine_69 rfl rfl ?_
  refine z_callV (wn := [((a 0), .inr (4, [.ref (a 1), .ref (a 3), .ref (a 5), .ref (a 6), .int (zb (tK S))])), ((a 1), .inr (2, [.ref (a 2), .int (nI (rU S))])), ((a 2), .inl (X.2.1.2.2.1, 12, .inl (rO S))), ((a 3), .inr (2, [.ref (a 4), .int (nI ((cU S) + 1))])), ((a 4), .inl (X.2.1.2.2.1, 8, .inl (zOp (cO S) (cU S) j))), ((a 5), .inl (X.2.1.2.2.1, 96, .inl (bS S))), ((a 6), .inr (0, [.ref (a 7), .int (nI (mK S))])), ((a 7), .inl (X.2.1.2.2.1, 360, .inl (fA S)))]) C kX2_open gX4_insertLine_X2_open (mX2_open X.2.1 (a 3) (a 4) 8 (cO S) (cU S) j (by first | assumption | omega) huc hj hf) dX4_insertLine_70 [3, 4] [] 3 rfl rfl nd_3_4 rfl rfl rfl (by decide) (by decide) (Nat.le_of_ble_eq_true rfl) rfl rfl ?_
  refine z_istore C dX4_insertLine_73 (Nat.le_of_ble_eq_true rfl) ?_
  refine z_aload_n C 0 dX4_insertLine_75 rfl rfl ?_
  refine z_iload_n C 2 dX4_insertLine_76 rfl rfl ?_
  refine z_iload C dX4_insertLine_77 rfl ?_
  refine z_callVv (wn := [((a 0), .inr (4, [.ref (a 1), .ref (a 3), .ref (a 5), .ref (a 6), .int (zb (tK S))])), ((a 1), .inr (2, [.ref (a 2), .int (nI (rU S))])), ((a 2), .inl (X.2.1.2.2.1, 12, .inl (rO S))), ((a 3), .inr (2, [.ref (a 4), .int (nI ((cU S) + 1))])), ((a 4), .inl (X.2.1.2.2.1, 8, .inl (zOp (cO S) (cU S) j))), ((a 5), .inl (X.2.1.2.2.1, 96, .inl (zClC (bS S) ((cO S) (cU S)) 12))), ((a 6), .inr (0, [.ref (a 7), .int (nI (mK S))])), ((a 7), .inl (X.2.1.2.2.1, 360, .inl (fA S)))]) C kX4_clearCells gX4_insertLine_X4_clearCells (mX4_clearCells_c X.2.1 a (rO S) (rU S) (zOp (cO S) (cU S) j) ((cU S) + 1) (bS S) (fA S) (mK S) (tK S) ((cO S) (cU S)) hur (by first | assumption | omega) hM) dX4_insertLine_79 [0, 1, 2, 3, 4, 5, 6, 7] [] 0 rfl rfl nd_0_1_2_3_4_5_6_7 rfl rfl rfl (by decide) (by decide) (Nat.le_of_ble_eq_true rfl) rfl rfl ?_
  refine z_aload_n C 0 dX4_insertLine_82 rfl rfl ?_
  refine z_get C fX4_insertLine_34 0 dX4_insertLine_83 rfl rfl ?_
  refine z_bif_ne_f C 93 dX4_insertLine_86 (by decide) ht ?_
  refine z_sipush C (nI 1000) dX4_insertLine_89 (by decide) ?_
  exact z_iret C N dX4_insertLine_92 (rfl) (rfl)

set_option maxHeartbeats 4000000 in
set_option maxRecDepth 100000 in
theorem mX4_insertLine_ct (E : zE) (a : Nat → Nat) (S : zSt) (au j : Nat) (hS : okS S) (hau : au < 4) (hj : j ≤ cU S) (hf : cU S < 8) (ht : tK S = true) (hf2 : mK S < 60) : zM E yX4_insertLine wsX4_insertLine 5 [.ref (a 0), .int (nI au), .int (nI 1), .int (nI j)] [((a 0), .inr (4, [.ref (a 1), .ref (a 3), .ref (a 5), .ref (a 6), .int (zb (tK S))])), ((a 1), .inr (2, [.ref (a 2), .int (nI (rU S))])), ((a 2), .inl (E.2.2.1, 12, .inl (rO S))), ((a 3), .inr (2, [.ref (a 4), .int (nI (cU S))])), ((a 4), .inl (E.2.2.1, 8, .inl (cO S))), ((a 5), .inl (E.2.2.1, 96, .inl (bS S))), ((a 6), .inr (0, [.ref (a 7), .int (nI (mK S))])), ((a 7), .inl (E.2.2.1, 360, .inl (fA S)))] [((a 0), .inr (4, [.ref (a 1), .ref (a 3), .ref (a 5), .ref (a 6), .int (zb (tK (zNew (zInC S j) (nI 2) (nI au) (-5) (cO S (cU S)) (-5))))])), ((a 1), .inr (2, [.ref (a 2), .int (nI (rU (zNew (zInC S j) (nI 2) (nI au) (-5) (cO S (cU S)) (-5))))])), ((a 2), .inl (E.2.2.1, 12, .inl (rO (zNew (zInC S j) (nI 2) (nI au) (-5) (cO S (cU S)) (-5))))), ((a 3), .inr (2, [.ref (a 4), .int (nI (cU (zNew (zInC S j) (nI 2) (nI au) (-5) (cO S (cU S)) (-5))))])), ((a 4), .inl (E.2.2.1, 8, .inl (cO (zNew (zInC S j) (nI 2) (nI au) (-5) (cO S (cU S)) (-5))))), ((a 5), .inl (E.2.2.1, 96, .inl (bS (zNew (zInC S j) (nI 2) (nI au) (-5) (cO S (cU S)) (-5))))), ((a 6), .inr (0, [.ref (a 7), .int (nI (mK (zNew (zInC S j) (nI 2) (nI au) (-5) (cO S (cU S)) (-5))))])), ((a 7), .inl (E.2.2.1, 360, .inl (fA (zNew (zInC S j) (nI 2) (nI au) (-5) (cO S (cU S)) (-5)))))] (some (.int (nI (mK S)))) := by
  refine zM.of kX4_insertLine (Nat.le_of_ble_eq_true rfl) rfl [some (.ref (a 0)), some (.int (nI au)), some (.int (nI 1)), some (.int (nI j)), none, none] rfl (Nat.le_of_ble_eq_true rfl) ?_
  intro X eX C N
  subst eX
  obtain ⟨hur, huc, hM⟩ := id hS
  refine z_iload_n C 1 dX4_insertLine_0 rfl rfl ?_
  refine z_callN C kX5_isAuthor nst_X4_insertLine_61.1 gX4_insertLine_X5_isAuthor_n61 nst_X4_insertLine_61.2.1 nst_X4_insertLine_61.2.2 (mX5_isAuthor_in X.2.1 au hau) dX4_insertLine_1 [] rfl (by decide) (by decide) (Nat.le_of_ble_eq_true rfl) rfl ?_
  refine z_bif_eq_f C 14 dX4_insertLine_4 (by decide) rfl ?_
  refine z_iload_n C 2 dX4_insertLine_7 rfl rfl ?_
  refine z_callN C kX5_isAxis nst_X4_insertLine_49.1 gX4_insertLine_X5_isAxis_n49 nst_X4_insertLine_49.2.1 nst_X4_insertLine_49.2.2 (mX5_isAxis_in X.2.1 1 (by first | assumption | omega)) dX4_insertLine_8 [] rfl (by decide) (by decide) (Nat.le_of_ble_eq_true rfl) rfl ?_
  refine z_bif_ne_t C 16 dX4_insertLine_11 (by decide) rfl ?_
  refine z_aload_n C 0 dX4_insertLine_16 rfl rfl ?_
  refine z_iload_n C 2 dX4_insertLine_17 rfl rfl ?_
  refine z_callVr C kX4_linesOf gX4_insertLine_X4_linesOf (mX4_linesOf_c X.2.1 a (rO S) (rU S) (cO S) (cU S) (bS S) (fA S) (mK S) (tK S) hur huc hM) dX4_insertLine_18 [0, 1, 2, 3, 4, 5, 6, 7] [] 0 rfl nd_0_1_2_3_4_5_6_7 rfl rfl rfl (by decide) (by decide) (Nat.le_of_ble_eq_true rfl) rfl ?_
  refine z_astore C dX4_insertLine_21 (Nat.le_of_ble_eq_true rfl) ?_
  refine z_iload_n C 3 dX4_insertLine_23 rfl rfl ?_
  refine z_nif_lt_f C 36 dX4_insertLine_24 (by decide) (by omega) (by trivial) ?_
  refine z_iload_n C 3 dX4_insertLine_27 rfl rfl ?_
  refine z_aload C dX4_insertLine_28 rfl ?_
  refine z_get C fX4_insertLine_64 3 dX4_insertLine_30 rfl rfl ?_
  refine z_ncmp_le_t C 39 dX4_insertLine_33 (by decide) (by omega) (by omega) (by omega) ?_
  refine z_aload C dX4_insertLine_39 rfl ?_
  refine z_callVr C kX2_isFull gX4_insertLine_X2_isFull (mX2_isFull X.2.1 (a 3) (a 4) 8 (cO S) (cU S) (by first | assumption | omega) huc) dX4_insertLine_41 [3, 4] [] 3 rfl nd_3_4 rfl rfl rfl (by decide) (by decide) (Nat.le_of_ble_eq_true rfl) rfl ?_
  refine z_bif_ne_f C 64 dX4_insertLine_44 (by decide) (decide_eq_false (by omega)) ?_
  refine z_aload_n C 0 dX4_insertLine_47 rfl rfl ?_
  refine z_get C fX4_insertLine_34 0 dX4_insertLine_48 rfl rfl ?_
  refine z_bif_eq_f C 67 dX4_insertLine_51 (by decide) ht ?_
  refine z_aload_n C 0 dX4_insertLine_54 rfl rfl ?_
  refine z_get C fX4_insertLine_30 0 dX4_insertLine_55 rfl rfl ?_
  refine z_callVr C kX0_isFull gX4_insertLine_X0_isFull (mX0_isFull X.2.1 (a 6) (a 7) (fA S) (mK S) hM) dX4_insertLine_58 [6, 7] [] 6 rfl nd_6_7 rfl rfl rfl (by decide) (by decide) (Nat.le_of_ble_eq_true rfl) rfl ?_
  refine z_bif_eq_t C 67 dX4_insertLine_61 (by decide) (decide_eq_false (by omega)) ?_
  refine z_aload C dX4_insertLine_67 rfl ?_
  refine z_iload_n C 3 dX4_insertLine_69 rfl rfl ?_
  refine z_callV (wn := [((a 0), .inr (4, [.ref (a 1), .ref (a 3), .ref (a 5), .ref (a 6), .int (zb (tK S))])), ((a 1), .inr (2, [.ref (a 2), .int (nI (rU S))])), ((a 2), .inl (X.2.1.2.2.1, 12, .inl (rO S))), ((a 3), .inr (2, [.ref (a 4), .int (nI ((cU S) + 1))])), ((a 4), .inl (X.2.1.2.2.1, 8, .inl (zOp (cO S) (cU S) j))), ((a 5), .inl (X.2.1.2.2.1, 96, .inl (bS S))), ((a 6), .inr (0, [.ref (a 7), .int (nI (mK S))])), ((a 7), .inl (X.2.1.2.2.1, 360, .inl (fA S)))]) C kX2_open gX4_insertLine_X2_open (mX2_open X.2.1 (a 3) (a 4) 8 (cO S) (cU S) j (by first | assumption | omega) huc hj hf) dX4_insertLine_70 [3, 4] [] 3 rfl rfl nd_3_4 rfl rfl rfl (by decide) (by decide) (Nat.le_of_ble_eq_true rfl) rfl rfl ?_
  refine z_istore C dX4_insertLine_73 (Nat.le_of_ble_eq_true rfl) ?_
  refine z_aload_n C 0 dX4_insertLine_75 rfl rfl ?_
  refine z_iload_n C 2 dX4_insertLine_76 rfl rfl ?_
  refine z_iload C dX4_insertLine_77 rfl ?_
  refine z_callVv (wn := [((a 0), .inr (4, [.ref (a 1), .ref (a 3), .ref (a 5), .ref (a 6), .int (zb (tK S))])), ((a 1), .inr (2, [.ref (a 2), .int (nI (rU S))])), ((a 2), .inl (X.2.1.2.2.1, 12, .inl (rO S))), ((a 3), .inr (2, [.ref (a 4), .int (nI ((cU S) + 1))])), ((a 4), .inl (X.2.1.2.2.1, 8, .inl (zOp (cO S) (cU S) j))), ((a 5), .inl (X.2.1.2.2.1, 96, .inl (zClC (bS S) ((cO S) (cU S)) 12))), ((a 6), .inr (0, [.ref (a 7), .int (nI (mK S))])), ((a 7), .inl (X.2.1.2.2.1, 360, .inl (fA S)))]) C kX4_clearCells gX4_insertLine_X4_clearCells (mX4_clearCells_c X.2.1 a (rO S) (rU S) (zOp (cO S) (cU S) j) ((cU S) + 1) (bS S) (fA S) (mK S) (tK S) ((cO S) (cU S)) hur (by first | assumption | omega) hM) dX4_insertLine_79 [0, 1, 2, 3, 4, 5, 6, 7] [] 0 rfl rfl nd_0_1_2_3_4_5_6_7 rfl rfl rfl (by decide) (by decide) (Nat.le_of_ble_eq_true rfl) rfl rfl ?_
  refine z_aload_n C 0 dX4_insertLine_82 rfl rfl ?_
  refine z_get C fX4_insertLine_34 0 dX4_insertLine_83 rfl rfl ?_
  refine z_bif_ne_t C 93 dX4_insertLine_86 (by decide) ht ?_
  refine z_aload_n C 0 dX4_insertLine_93 rfl rfl ?_
  refine z_get C fX4_insertLine_30 0 dX4_insertLine_94 rfl rfl ?_
  refine z_iload_n C 2 dX4_insertLine_97 rfl rfl ?_
  refine z_nif_ne_t C 105 dX4_insertLine_98 (by decide) (by omega) (by omega) ?_
  refine z_iconst C (nI 2) dX4_insertLine_105 (by decide) ?_
  refine z_iload_n C 1 dX4_insertLine_106 rfl rfl ?_
  refine z_iload C dX4_insertLine_107 rfl ?_
  refine z_callV (wn := [((a 0), .inr (4, [.ref (a 1), .ref (a 3), .ref (a 5), .ref (a 6), .int (zb (tK S))])), ((a 1), .inr (2, [.ref (a 2), .int (nI (rU S))])), ((a 2), .inl (X.2.1.2.2.1, 12, .inl (rO S))), ((a 3), .inr (2, [.ref (a 4), .int (nI ((cU S) + 1))])), ((a 4), .inl (X.2.1.2.2.1, 8, .inl (zOp (cO S) (cU S) j))), ((a 5), .inl (X.2.1.2.2.1, 96, .inl (zClC (bS S) ((cO S) (cU S)) 12))), ((a 6), .inr (0, [.ref (a 7), .int (nI ((mK S) + 1))])), ((a 7), .inl (X.2.1.2.2.1, 360, .inl (zAdd (fA S) (mK S) (nI 2) (nI au) (-5) ((cO S) (cU S)) (-5))))]) C kX0_addOfLine gX4_insertLine_X0_addOfLine (mX0_addOfLine_c X.2.1 (a 6) (a 7) (fA S) (mK S) 2 (nI au) ((cO S) (cU S)) hf2 (by first | assumption | omega) (by first | assumption | omega)) dX4_insertLine_109 [6, 7] [] 6 rfl rfl nd_6_7 rfl rfl rfl (by decide) (by decide) (Nat.le_of_ble_eq_true rfl) rfl rfl ?_
  exact z_iret C N dX4_insertLine_112 (rfl) (rfl)

theorem kX4_removeLine : zY yX4_removeLine wsX4_removeLine cX4_removeLine 6 (some .int) 3 := ⟨⟨_, rfl⟩, ⟨by decide +kernel, by decide +kernel, by decide +kernel⟩, by decide +kernel⟩
theorem nst_X4_removeLine_61 : (RX4, 61, yX5_isAuthor, RX5) ∈ zNest ∧ Cond.initialized RX5 ∈ wsX4_removeLine ∧ Cond.static yX5_isAuthor ∈ wsX4_removeLine := ⟨by decide +kernel, by decide +kernel, by decide +kernel⟩
set_option maxHeartbeats 4000000 in
set_option maxRecDepth 100000 in
theorem mX4_removeLine_b1 (E : zE) (a : Nat → Nat) (S : zSt) (au ax pl : Int32) (hS : okS S) (hx : au < 0 ∨ (¬ au < 0 ∧ nI 4 ≤ au)) : zM E yX4_removeLine wsX4_removeLine 5 [.ref (a 0), .int au, .int ax, .int pl] [((a 0), .inr (4, [.ref (a 1), .ref (a 3), .ref (a 5), .ref (a 6), .int (zb (tK S))])), ((a 1), .inr (2, [.ref (a 2), .int (nI (rU S))])), ((a 2), .inl (E.2.2.1, 12, .inl (rO S))), ((a 3), .inr (2, [.ref (a 4), .int (nI (cU S))])), ((a 4), .inl (E.2.2.1, 8, .inl (cO S))), ((a 5), .inl (E.2.2.1, 96, .inl (bS S))), ((a 6), .inr (0, [.ref (a 7), .int (nI (mK S))])), ((a 7), .inl (E.2.2.1, 360, .inl (fA S)))] [((a 0), .inr (4, [.ref (a 1), .ref (a 3), .ref (a 5), .ref (a 6), .int (zb (tK S))])), ((a 1), .inr (2, [.ref (a 2), .int (nI (rU S))])), ((a 2), .inl (E.2.2.1, 12, .inl (rO S))), ((a 3), .inr (2, [.ref (a 4), .int (nI (cU S))])), ((a 4), .inl (E.2.2.1, 8, .inl (cO S))), ((a 5), .inl (E.2.2.1, 96, .inl (bS S))), ((a 6), .inr (0, [.ref (a 7), .int (nI (mK S))])), ((a 7), .inl (E.2.2.1, 360, .inl (fA S)))] (some (.int (-1))) := by
  refine zM.of kX4_removeLine (Nat.le_of_ble_eq_true rfl) rfl [some (.ref (a 0)), some (.int au), some (.int ax), some (.int pl), none, none] rfl (Nat.le_of_ble_eq_true rfl) ?_
  intro X eX C N
  subst eX
  obtain ⟨hur, huc, hM⟩ := id hS
  refine z_aload_n C 0 dX4_removeLine_0 rfl rfl ?_
  refine z_iload_n C 2 dX4_removeLine_1 rfl rfl ?_
  refine z_iload_n C 3 dX4_removeLine_2 rfl rfl ?_
  refine z_callVr C kX4_slotAt gX4_removeLine_X4_slotAt (mX4_slotAt_g X.2.1 a (rO S) (rU S) (cO S) (cU S) (bS S) (fA S) (mK S) (tK S) ax pl hur huc hM) dX4_removeLine_3 [0, 1, 2, 3, 4, 5, 6, 7] [] 0 rfl nd_0_1_2_3_4_5_6_7 rfl rfl rfl (by decide) (by decide) (Nat.le_of_ble_eq_true rfl) rfl ?_
  refine z_istore C dX4_removeLine_6 (Nat.le_of_ble_eq_true rfl) ?_
  refine z_iload_n C 1 dX4_removeLine_8 rfl rfl ?_
  refine z_callN C kX5_isAuthor nst_X4_removeLine_61.1 gX4_removeLine_X5_isAuthor_n61 nst_X4_removeLine_61.2.1 nst_X4_removeLine_61.2.2 (mX5_isAuthor_bad X.2.1 au hx) dX4_removeLine_9 [] rfl (by decide) (by decide) (Nat.le_of_ble_eq_true rfl) rfl ?_
  refine z_bif_eq_t C 20 dX4_removeLine_12 (by decide) rfl ?_
  refine z_iconst C (-1) dX4_removeLine_20 (by decide) ?_
  exact z_iret C N dX4_removeLine_21 (rfl) (rfl)

set_option maxHeartbeats 4000000 in
set_option maxRecDepth 100000 in
theorem mX4_removeLine_b2 (E : zE) (a : Nat → Nat) (S : zSt) (au : Nat) (ax pl : Int32) (hS : okS S) (hau : au < 4) (h0 : ¬ ax = 0) (h1 : ¬ ax = nI 1) : zM E yX4_removeLine wsX4_removeLine 5 [.ref (a 0), .int (nI au), .int ax, .int pl] [((a 0), .inr (4, [.ref (a 1), .ref (a 3), .ref (a 5), .ref (a 6), .int (zb (tK S))])), ((a 1), .inr (2, [.ref (a 2), .int (nI (rU S))])), ((a 2), .inl (E.2.2.1, 12, .inl (rO S))), ((a 3), .inr (2, [.ref (a 4), .int (nI (cU S))])), ((a 4), .inl (E.2.2.1, 8, .inl (cO S))), ((a 5), .inl (E.2.2.1, 96, .inl (bS S))), ((a 6), .inr (0, [.ref (a 7), .int (nI (mK S))])), ((a 7), .inl (E.2.2.1, 360, .inl (fA S)))] [((a 0), .inr (4, [.ref (a 1), .ref (a 3), .ref (a 5), .ref (a 6), .int (zb (tK S))])), ((a 1), .inr (2, [.ref (a 2), .int (nI (rU S))])), ((a 2), .inl (E.2.2.1, 12, .inl (rO S))), ((a 3), .inr (2, [.ref (a 4), .int (nI (cU S))])), ((a 4), .inl (E.2.2.1, 8, .inl (cO S))), ((a 5), .inl (E.2.2.1, 96, .inl (bS S))), ((a 6), .inr (0, [.ref (a 7), .int (nI (mK S))])), ((a 7), .inl (E.2.2.1, 360, .inl (fA S)))] (some (.int (-1))) := by
  refine zM.of kX4_removeLine (Nat.le_of_ble_eq_true rfl) rfl [some (.ref (a 0)), some (.int (nI au)), some (.int ax), some (.int pl), none, none] rfl (Nat.le_of_ble_eq_true rfl) ?_
  intro X eX C N
  subst eX
  obtain ⟨hur, huc, hM⟩ := id hS
  refine z_aload_n C 0 dX4_removeLine_0 rfl rfl ?_
  refine z_iload_n C 2 dX4_removeLine_1 rfl rfl ?_
  refine z_iload_n C 3 dX4_removeLine_2 rfl rfl ?_
  refine z_callVr C kX4_slotAt gX4_removeLine_X4_slotAt (mX4_slotAt_bad X.2.1 a (rO S) (rU S) (cO S) (cU S) (bS S) (fA S) (mK S) (tK S) ax pl hur huc hM h0 h1) dX4_removeLine_3 [0, 1, 2, 3, 4, 5, 6, 7] [] 0 rfl nd_0_1_2_3_4_5_6_7 rfl rfl rfl (by decide) (by decide) (Nat.le_of_ble_eq_true rfl) rfl ?_
  refine z_istore C dX4_removeLine_6 (Nat.le_of_ble_eq_true rfl) ?_
  refine z_iload_n C 1 dX4_removeLine_8 rfl rfl ?_
  refine z_callN C kX5_isAuthor nst_X4_removeLine_61.1 gX4_removeLine_X5_isAuthor_n61 nst_X4_removeLine_61.2.1 nst_X4_removeLine_61.2.2 (mX5_isAuthor_in X.2.1 au hau) dX4_removeLine_9 [] rfl (by decide) (by decide) (Nat.le_of_ble_eq_true rfl) rfl ?_
  refine z_bif_eq_f C 20 dX4_removeLine_12 (by decide) rfl ?_
  refine z_iload C dX4_removeLine_15 rfl ?_
  refine z_if_ge_f C 22 dX4_removeLine_17 (by decide) (by decide) ?_
  refine z_iconst C (-1) dX4_removeLine_20 (by decide) ?_
  exact z_iret C N dX4_removeLine_21 (rfl) (rfl)

set_option maxHeartbeats 4000000 in
set_option maxRecDepth 100000 in
theorem mX4_removeLine_rb (E : zE) (a : Nat → Nat) (S : zSt) (au : Nat) (pl : Int32) (hS : okS S) (hau : au < 4) (hx : pl < 0 ∨ (¬ pl < 0 ∧ nI (rU S) ≤ pl)) : zM E yX4_removeLine wsX4_removeLine 5 [.ref (a 0), .int (nI au), .int (nI 0), .int pl] [((a 0), .inr (4, [.ref (a 1), .ref (a 3), .ref (a 5), .ref (a 6), .int (zb (tK S))])), ((a 1), .inr (2, [.ref (a 2), .int (nI (rU S))])), ((a 2), .inl (E.2.2.1, 12, .inl (rO S))), ((a 3), .inr (2, [.ref (a 4), .int (nI (cU S))])), ((a 4), .inl (E.2.2.1, 8, .inl (cO S))), ((a 5), .inl (E.2.2.1, 96, .inl (bS S))), ((a 6), .inr (0, [.ref (a 7), .int (nI (mK S))])), ((a 7), .inl (E.2.2.1, 360, .inl (fA S)))] [((a 0), .inr (4, [.ref (a 1), .ref (a 3), .ref (a 5), .ref (a 6), .int (zb (tK S))])), ((a 1), .inr (2, [.ref (a 2), .int (nI (rU S))])), ((a 2), .inl (E.2.2.1, 12, .inl (rO S))), ((a 3), .inr (2, [.ref (a 4), .int (nI (cU S))])), ((a 4), .inl (E.2.2.1, 8, .inl (cO S))), ((a 5), .inl (E.2.2.1, 96, .inl (bS S))), ((a 6), .inr (0, [.ref (a 7), .int (nI (mK S))])), ((a 7), .inl (E.2.2.1, 360, .inl (fA S)))] (some (.int (-1))) := by
  refine zM.of kX4_removeLine (Nat.le_of_ble_eq_true rfl) rfl [some (.ref (a 0)), some (.int (nI au)), some (.int (nI 0)), some (.int pl), none, none] rfl (Nat.le_of_ble_eq_true rfl) ?_
  intro X eX C N
  subst eX
  obtain ⟨hur, huc, hM⟩ := id hS
  refine z_aload_n C 0 dX4_removeLine_0 rfl rfl ?_
  refine z_iload_n C 2 dX4_removeLine_1 rfl rfl ?_
  refine z_iload_n C 3 dX4_removeLine_2 rfl rfl ?_
  refine z_callVr C kX4_slotAt gX4_removeLine_X4_slotAt (mX4_slotAt_r_out X.2.1 a (rO S) (rU S) (cO S) (cU S) (bS S) (fA S) (mK S) (tK S) pl hur huc hM hx) dX4_removeLine_3 [0, 1, 2, 3, 4, 5, 6, 7] [] 0 rfl nd_0_1_2_3_4_5_6_7 rfl rfl rfl (by decide) (by decide) (Nat.le_of_ble_eq_true rfl) rfl ?_
  refine z_istore C dX4_removeLine_6 (Nat.le_of_ble_eq_true rfl) ?_
  refine z_iload_n C 1 dX4_removeLine_8 rfl rfl ?_
  refine z_callN C kX5_isAuthor nst_X4_removeLine_61.1 gX4_removeLine_X5_isAuthor_n61 nst_X4_removeLine_61.2.1 nst_X4_removeLine_61.2.2 (mX5_isAuthor_in X.2.1 au hau) dX4_removeLine_9 [] rfl (by decide) (by decide) (Nat.le_of_ble_eq_true rfl) rfl ?_
  refine z_bif_eq_f C 20 dX4_removeLine_12 (by decide) rfl ?_
  refine z_iload C dX4_removeLine_15 rfl ?_
  refine z_if_ge_f C 22 dX4_removeLine_17 (by decide) (by decide) ?_
  refine z_iconst C (-1) dX4_removeLine_20 (by decide) ?_
  exact z_iret C N dX4_removeLine_21 (rfl) (rfl)

theorem fX4_removeLine_34 : zF wsX4_removeLine RX4 34 4 4 RX4 TX4 5 := ⟨by decide +kernel, rfl, by decide, by decide +kernel, rfl⟩
set_option maxHeartbeats 4000000 in
set_option maxRecDepth 100000 in
theorem mX4_removeLine_ru (E : zE) (a : Nat → Nat) (S : zSt) (au j : Nat) (hS : okS S) (hau : au < 4) (hj : j < rU S) (hsl : ¬ (rO S) j < 0) (ht : tK S = false) : zM E yX4_removeLine wsX4_removeLine 5 [.ref (a 0), .int (nI au), .int (nI 0), .int (nI j)] [((a 0), .inr (4, [.ref (a 1), .ref (a 3), .ref (a 5), .ref (a 6), .int (zb (tK S))])), ((a 1), .inr (2, [.ref (a 2), .int (nI (rU S))])), ((a 2), .inl (E.2.2.1, 12, .inl (rO S))), ((a 3), .inr (2, [.ref (a 4), .int (nI (cU S))])), ((a 4), .inl (E.2.2.1, 8, .inl (cO S))), ((a 5), .inl (E.2.2.1, 96, .inl (bS S))), ((a 6), .inr (0, [.ref (a 7), .int (nI (mK S))])), ((a 7), .inl (E.2.2.1, 360, .inl (fA S)))] [((a 0), .inr (4, [.ref (a 1), .ref (a 3), .ref (a 5), .ref (a 6), .int (zb (tK (zDrR S ((rO S) j))))])), ((a 1), .inr (2, [.ref (a 2), .int (nI (rU (zDrR S ((rO S) j))))])), ((a 2), .inl (E.2.2.1, 12, .inl (rO (zDrR S ((rO S) j))))), ((a 3), .inr (2, [.ref (a 4), .int (nI (cU (zDrR S ((rO S) j))))])), ((a 4), .inl (E.2.2.1, 8, .inl (cO (zDrR S ((rO S) j))))), ((a 5), .inl (E.2.2.1, 96, .inl (bS (zDrR S ((rO S) j))))), ((a 6), .inr (0, [.ref (a 7), .int (nI (mK (zDrR S ((rO S) j))))])), ((a 7), .inl (E.2.2.1, 360, .inl (fA (zDrR S ((rO S) j)))))] (some (.int (nI 1000))) := by
  refine zM.of kX4_removeLine (Nat.le_of_ble_eq_true rfl) rfl [some (.ref (a 0)), some (.int (nI au)), some (.int (nI 0)), some (.int (nI j)), none, none] rfl (Nat.le_of_ble_eq_true rfl) ?_
  intro X eX C N
  subst eX
  obtain ⟨hur, huc, hM⟩ := id hS
  refine z_aload_n C 0 dX4_removeLine_0 rfl rfl ?_
  refine z_iload_n C 2 dX4_removeLine_1 rfl rfl ?_
  refine z_iload_n C 3 dX4_removeLine_2 rfl rfl ?_
  refine z_callVr C kX4_slotAt gX4_removeLine_X4_slotAt (mX4_slotAt_r_in X.2.1 a (rO S) (rU S) (cO S) (cU S) (bS S) (fA S) (mK S) (tK S) j hur huc hM hj) dX4_removeLine_3 [0, 1, 2, 3, 4, 5, 6, 7] [] 0 rfl nd_0_1_2_3_4_5_6_7 rfl rfl rfl (by decide) (by decide) (Nat.le_of_ble_eq_true rfl) rfl ?_
  refine z_istore C dX4_removeLine_6 (Nat.le_of_ble_eq_true rfl) ?_
  refine z_iload_n C 1 dX4_removeLine_8 rfl rfl ?_
  refine z_callN C kX5_isAuthor nst_X4_removeLine_61.1 gX4_removeLine_X5_isAuthor_n61 nst_X4_removeLine_61.2.1 nst_X4_removeLine_61.2.2 (mX5_isAuthor_in X.2.1 au hau) dX4_removeLine_9 [] rfl (by decide) (by decide) (Nat.le_of_ble_eq_true rfl) rfl ?_
  refine z_bif_eq_f C 20 dX4_removeLine_12 (by decide) rfl ?_
  refine z_iload C dX4_removeLine_15 rfl ?_
  refine z_if_ge_t C 22 dX4_removeLine_17 (by decide) (Int32.not_lt.mp hsl) ?_
  refine z_aload_n C 0 dX4_removeLine_22 rfl rfl ?_
  refine z_get C fX4_removeLine_34 0 dX4_removeLine_23 rfl rfl ?_
  refine z_bif_ne_f C 40 dX4_removeLine_26 (by decide) ht ?_
  refine z_aload_n C 0 dX4_removeLine_29 rfl rfl ?_
  refine z_iload_n C 2 dX4_removeLine_30 rfl rfl ?_
  refine z_iload C dX4_removeLine_31 rfl ?_
  refine z_callVv (wn := [((a 0), .inr (4, [.ref (a 1), .ref (a 3), .ref (a 5), .ref (a 6), .int (zb (tK (zDrR S ((rO S) j))))])), ((a 1), .inr (2, [.ref (a 2), .int (nI (rU (zDrR S ((rO S) j))))])), ((a 2), .inl (X.2.1.2.2.1, 12, .inl (rO (zDrR S ((rO S) j))))), ((a 3), .inr (2, [.ref (a 4), .int (nI (cU (zDrR S ((rO S) j))))])), ((a 4), .inl (X.2.1.2.2.1, 8, .inl (cO (zDrR S ((rO S) j))))), ((a 5), .inl (X.2.1.2.2.1, 96, .inl (bS (zDrR S ((rO S) j))))), ((a 6), .inr (0, [.ref (a 7), .int (nI (mK (zDrR S ((rO S) j))))])), ((a 7), .inl (X.2.1.2.2.1, 360, .inl (fA (zDrR S ((rO S) j)))))]) C kX4_dropLine gX4_removeLine_X4_dropLine (mX4_dropLine_r X.2.1 a S ((rO S) j) hS) dX4_removeLine_33 [0, 1, 2, 3, 4, 5, 6, 7] [] 0 rfl rfl nd_0_1_2_3_4_5_6_7 rfl rfl rfl (by decide) (by decide) (Nat.le_of_ble_eq_true rfl) rfl rfl ?_
  refine z_sipush C (nI 1000) dX4_removeLine_36 (by decide) ?_
  exact z_iret C N dX4_removeLine_39 (rfl) (rfl)

theorem fX4_removeLine_30 : zF wsX4_removeLine RX4 30 4 3 RX4 TX4 5 := ⟨by decide +kernel, rfl, by decide, by decide +kernel, rfl⟩
set_option maxHeartbeats 4000000 in
set_option maxRecDepth 100000 in
theorem mX4_removeLine_rd (E : zE) (a : Nat → Nat) (S : zSt) (au j : Nat) (hS : okS S) (hau : au < 4) (hj : j < rU S) (hsl : ¬ (rO S) j < 0) (ht : tK S = true) (hr : ¬ zf (pLn (fA S) (nI 1) 3 ((rO S) j)) (mK S) < 0) : zM E yX4_removeLine wsX4_removeLine 5 [.ref (a 0), .int (nI au), .int (nI 0), .int (nI j)] [((a 0), .inr (4, [.ref (a 1), .ref (a 3), .ref (a 5), .ref (a 6), .int (zb (tK S))])), ((a 1), .inr (2, [.ref (a 2), .int (nI (rU S))])), ((a 2), .inl (E.2.2.1, 12, .inl (rO S))), ((a 3), .inr (2, [.ref (a 4), .int (nI (cU S))])), ((a 4), .inl (E.2.2.1, 8, .inl (cO S))), ((a 5), .inl (E.2.2.1, 96, .inl (bS S))), ((a 6), .inr (0, [.ref (a 7), .int (nI (mK S))])), ((a 7), .inl (E.2.2.1, 360, .inl (fA S)))] [((a 0), .inr (4, [.ref (a 1), .ref (a 3), .ref (a 5), .ref (a 6), .int (zb (tK S))])), ((a 1), .inr (2, [.ref (a 2), .int (nI (rU S))])), ((a 2), .inl (E.2.2.1, 12, .inl (rO S))), ((a 3), .inr (2, [.ref (a 4), .int (nI (cU S))])), ((a 4), .inl (E.2.2.1, 8, .inl (cO S))), ((a 5), .inl (E.2.2.1, 96, .inl (bS S))), ((a 6), .inr (0, [.ref (a 7), .int (nI (mK S))])), ((a 7), .inl (E.2.2.1, 360, .inl (fA S)))] (some (.int (-4))) := by
  refine zM.of kX4_removeLine (Nat.le_of_ble_eq_true rfl) rfl [some (.ref (a 0)), some (.int (nI au)), some (.int (nI 0)), some (.int (nI j)), none, none] rfl (Nat.le_of_ble_eq_true rfl) ?_
  intro X eX C N
  subst eX
  obtain ⟨hur, huc, hM⟩ := id hS
  refine z_aload_n C 0 dX4_removeLine_0 rfl rfl ?_
  refine z_iload_n C 2 dX4_removeLine_1 rfl rfl ?_
  refine z_iload_n C 3 dX4_removeLine_2 rfl rfl ?_
  refine z_callVr C kX4_slotAt gX4_removeLine_X4_slotAt (mX4_slotAt_r_in X.2.1 a (rO S) (rU S) (cO S) (cU S) (bS S) (fA S) (mK S) (tK S) j hur huc hM hj) dX4_removeLine_3 [0, 1, 2, 3, 4, 5, 6, 7] [] 0 rfl nd_0_1_2_3_4_5_6_7 rfl rfl rfl (by decide) (by decide) (Nat.le_of_ble_eq_true rfl) rfl ?_
  refine z_istore C dX4_removeLine_6 (Nat.le_of_ble_eq_true rfl) ?_
  refine z_iload_n C 1 dX4_removeLine_8 rfl rfl ?_
  refine z_callN C kX5_isAuthor nst_X4_removeLine_61.1 gX4_removeLine_X5_isAuthor_n61 nst_X4_removeLine_61.2.1 nst_X4_removeLine_61.2.2 (mX5_isAuthor_in X.2.1 au hau) dX4_removeLine_9 [] rfl (by decide) (by decide) (Nat.le_of_ble_eq_true rfl) rfl ?_
  refine z_bif_eq_f C 20 dX4_removeLine_12 (by decide) rfl ?_
  refine z_iload C dX4_removeLine_15 rfl ?_
  refine z_if_ge_t C 22 dX4_removeLine_17 (by decide) (Int32.not_lt.mp hsl) ?_
  refine z_aload_n C 0 dX4_removeLine_22 rfl rfl ?_
  refine z_get C fX4_removeLine_34 0 dX4_removeLine_23 rfl rfl ?_
  refine z_bif_ne_t C 40 dX4_removeLine_26 (by decide) ht ?_
  refine z_aload_n C 0 dX4_removeLine_40 rfl rfl ?_
  refine z_get C fX4_removeLine_30 0 dX4_removeLine_41 rfl rfl ?_
  refine z_iload_n C 2 dX4_removeLine_44 rfl rfl ?_
  refine z_iload C dX4_removeLine_45 rfl ?_
  refine z_callVr C kX0_removalOf gX4_removeLine_X0_removalOf (mX0_removalOf_r X.2.1 (a 6) (a 7) (fA S) (mK S) ((rO S) j) hM) dX4_removeLine_47 [6, 7] [] 6 rfl nd_6_7 rfl rfl rfl (by decide) (by decide) (Nat.le_of_ble_eq_true rfl) rfl ?_
  refine z_if_lt_f C 56 dX4_removeLine_50 (by decide) hr ?_
  refine z_bipush C (-4) dX4_removeLine_53 (by decide) ?_
  exact z_iret C N dX4_removeLine_55 (rfl) (rfl)

set_option maxHeartbeats 4000000 in
set_option maxRecDepth 100000 in
theorem mX4_removeLine_ro (E : zE) (a : Nat → Nat) (S : zSt) (au j : Nat) (k : Nat) (hS : okS S) (hau : au < 4) (hj : j < rU S) (hsl : ¬ (rO S) j < 0) (ht : tK S = true) (hr : zf (pLn (fA S) (nI 1) 3 ((rO S) j)) (mK S) < 0) (hik : zf (pLn (fA S) (nI 0) 3 ((rO S) j)) (mK S) = nI k) (hk : k < mK S) (hby : fA S (6 * k + 1) = nI au) : zM E yX4_removeLine wsX4_removeLine 5 [.ref (a 0), .int (nI au), .int (nI 0), .int (nI j)] [((a 0), .inr (4, [.ref (a 1), .ref (a 3), .ref (a 5), .ref (a 6), .int (zb (tK S))])), ((a 1), .inr (2, [.ref (a 2), .int (nI (rU S))])), ((a 2), .inl (E.2.2.1, 12, .inl (rO S))), ((a 3), .inr (2, [.ref (a 4), .int (nI (cU S))])), ((a 4), .inl (E.2.2.1, 8, .inl (cO S))), ((a 5), .inl (E.2.2.1, 96, .inl (bS S))), ((a 6), .inr (0, [.ref (a 7), .int (nI (mK S))])), ((a 7), .inl (E.2.2.1, 360, .inl (fA S)))] [((a 0), .inr (4, [.ref (a 1), .ref (a 3), .ref (a 5), .ref (a 6), .int (zb (tK (zDrR S ((rO S) j))))])), ((a 1), .inr (2, [.ref (a 2), .int (nI (rU (zDrR S ((rO S) j))))])), ((a 2), .inl (E.2.2.1, 12, .inl (rO (zDrR S ((rO S) j))))), ((a 3), .inr (2, [.ref (a 4), .int (nI (cU (zDrR S ((rO S) j))))])), ((a 4), .inl (E.2.2.1, 8, .inl (cO (zDrR S ((rO S) j))))), ((a 5), .inl (E.2.2.1, 96, .inl (bS (zDrR S ((rO S) j))))), ((a 6), .inr (0, [.ref (a 7), .int (nI (mK (zDrR S ((rO S) j))))])), ((a 7), .inl (E.2.2.1, 360, .inl (fA (zDrR S ((rO S) j)))))] (some (.int (nI k))) := by
  refine zM.of kX4_removeLine (Nat.le_of_ble_eq_true rfl) rfl [some (.ref (a 0)), some (.int (nI au)), some (.int (nI 0)), some (.int (nI j)), none, none] rfl (Nat.le_of_ble_eq_true rfl) ?_
  intro X eX C N
  subst eX
  obtain ⟨hur, huc, hM⟩ := id hS
  refine z_aload_n C 0 dX4_removeLine_0 rfl rfl ?_
  refine z_iload_n C 2 dX4_removeLine_1 rfl rfl ?_
  refine z_iload_n C 3 dX4_removeLine_2 rfl rfl ?_
  refine z_callVr C kX4_slotAt gX4_removeLine_X4_slotAt (mX4_slotAt_r_in X.2.1 a (rO S) (rU S) (cO S) (cU S) (bS S) (fA S) (mK S) (tK S) j hur huc hM hj) dX4_removeLine_3 [0, 1, 2, 3, 4, 5, 6, 7] [] 0 rfl nd_0_1_2_3_4_5_6_7 rfl rfl rfl (by decide) (by decide) (Nat.le_of_ble_eq_true rfl) rfl ?_
  refine z_istore C dX4_removeLine_6 (Nat.le_of_ble_eq_true rfl) ?_
  refine z_iload_n C 1 dX4_removeLine_8 rfl rfl ?_
  refine z_callN C kX5_isAuthor nst_X4_removeLine_61.1 gX4_removeLine_X5_isAuthor_n61 nst_X4_removeLine_61.2.1 nst_X4_removeLine_61.2.2 (mX5_isAuthor_in X.2.1 au hau) dX4_removeLine_9 [] rfl (by decide) (by decide) (Nat.le_of_ble_eq_true rfl) rfl ?_
  refine z_bif_eq_f C 20 dX4_removeLine_12 (by decide) rfl ?_
  refine z_iload C dX4_removeLine_15 rfl ?_
  refine z_if_ge_t C 22 dX4_removeLine_17 (by decide) (Int32.not_lt.mp hsl) ?_
  refine z_aload_n C 0 dX4_removeLine_22 rfl rfl ?_
  refine z_get C fX4_removeLine_34 0 dX4_removeLine_23 rfl rfl ?_
  refine z_bif_ne_t C 40 dX4_removeLine_26 (by decide) ht ?_
  refine z_aload_n C 0 dX4_removeLine_40 rfl rfl ?_
  refine z_get C fX4_removeLine_30 0 dX4_removeLine_41 rfl rfl ?_
  refine z_iload_n C 2 dX4_removeLine_44 rfl rfl ?_
  refine z_iload C dX4_removeLine_45 rfl ?_
  refine z_callVr C kX0_removalOf gX4_removeLine_X0_removalOf (mX0_removalOf_r X.2.1 (a 6) (a 7) (fA S) (mK S) ((rO S) j) hM) dX4_removeLine_47 [6, 7] [] 6 rfl nd_6_7 rfl rfl rfl (by decide) (by decide) (Nat.le_of_ble_eq_true rfl) rfl ?_
  refine z_if_lt_t C 56 dX4_removeLine_50 (by decide) hr ?_
  refine z_aload_n C 0 dX4_removeLine_56 rfl rfl ?_
  refine z_get C fX4_removeLine_30 0 dX4_removeLine_57 rfl rfl ?_
  refine z_iload_n C 2 dX4_removeLine_60 rfl rfl ?_
  refine z_iload C dX4_removeLine_61 rfl ?_
  refine z_callVr C kX0_insertionOf gX4_removeLine_X0_insertionOf (mX0_insertionOf_r X.2.1 (a 6) (a 7) (fA S) (mK S) ((rO S) j) hM) dX4_removeLine_63 [6, 7] [] 6 rfl nd_6_7 rfl rfl rfl (by decide) (by decide) (Nat.le_of_ble_eq_true rfl) rfl ?_
  refine z_top (y := nI k) (hik) ?_
  refine z_istore C dX4_removeLine_66 (Nat.le_of_ble_eq_true rfl) ?_
  refine z_iload C dX4_removeLine_68 rfl ?_
  refine z_nif_lt_f C 97 dX4_removeLine_70 (by decide) (by omega) (by trivial) ?_
  refine z_aload_n C 0 dX4_removeLine_73 rfl rfl ?_
  refine z_get C fX4_removeLine_30 0 dX4_removeLine_74 rfl rfl ?_
  refine z_iload C dX4_removeLine_77 rfl ?_
  refine z_iconst C (nI 1) dX4_removeLine_79 (by decide) ?_
  refine z_callVr C kX0_fact gX4_removeLine_X0_fact (mX0_fact X.2.1 (a 6) (a 7) (fA S) (mK S) k 1 hM hk (by first | assumption | omega)) dX4_removeLine_80 [6, 7] [] 6 rfl nd_6_7 rfl rfl rfl (by decide) (by decide) (Nat.le_of_ble_eq_true rfl) rfl ?_
  refine z_iload_n C 1 dX4_removeLine_83 rfl rfl ?_
  refine z_icmp_ne_f C 97 dX4_removeLine_84 (by decide) hby ?_
  refine z_aload_n C 0 dX4_removeLine_87 rfl rfl ?_
  refine z_iload_n C 2 dX4_removeLine_88 rfl rfl ?_
  refine z_iload C dX4_removeLine_89 rfl ?_
  refine z_callVv (wn := [((a 0), .inr (4, [.ref (a 1), .ref (a 3), .ref (a 5), .ref (a 6), .int (zb (tK (zDrR S ((rO S) j))))])), ((a 1), .inr (2, [.ref (a 2), .int (nI (rU (zDrR S ((rO S) j))))])), ((a 2), .inl (X.2.1.2.2.1, 12, .inl (rO (zDrR S ((rO S) j))))), ((a 3), .inr (2, [.ref (a 4), .int (nI (cU (zDrR S ((rO S) j))))])), ((a 4), .inl (X.2.1.2.2.1, 8, .inl (cO (zDrR S ((rO S) j))))), ((a 5), .inl (X.2.1.2.2.1, 96, .inl (bS (zDrR S ((rO S) j))))), ((a 6), .inr (0, [.ref (a 7), .int (nI (mK (zDrR S ((rO S) j))))])), ((a 7), .inl (X.2.1.2.2.1, 360, .inl (fA (zDrR S ((rO S) j)))))]) C kX4_dropLine gX4_removeLine_X4_dropLine (mX4_dropLine_r X.2.1 a S ((rO S) j) hS) dX4_removeLine_91 [0, 1, 2, 3, 4, 5, 6, 7] [] 0 rfl rfl nd_0_1_2_3_4_5_6_7 rfl rfl rfl (by decide) (by decide) (Nat.le_of_ble_eq_true rfl) rfl rfl ?_
  refine z_iload C dX4_removeLine_94 rfl ?_
  exact z_iret C N dX4_removeLine_96 (rfl) (rfl)

set_option maxHeartbeats 4000000 in
set_option maxRecDepth 100000 in
theorem mX4_removeLine_rnf (E : zE) (a : Nat → Nat) (S : zSt) (au j : Nat) (hS : okS S) (hau : au < 4) (hj : j < rU S) (hsl : ¬ (rO S) j < 0) (ht : tK S = true) (hr : zf (pLn (fA S) (nI 1) 3 ((rO S) j)) (mK S) < 0) (hi : zf (pLn (fA S) (nI 0) 3 ((rO S) j)) (mK S) < 0) (hf : 60 ≤ mK S) : zM E yX4_removeLine wsX4_removeLine 5 [.ref (a 0), .int (nI au), .int (nI 0), .int (nI j)] [((a 0), .inr (4, [.ref (a 1), .ref (a 3), .ref (a 5), .ref (a 6), .int (zb (tK S))])), ((a 1), .inr (2, [.ref (a 2), .int (nI (rU S))])), ((a 2), .inl (E.2.2.1, 12, .inl (rO S))), ((a 3), .inr (2, [.ref (a 4), .int (nI (cU S))])), ((a 4), .inl (E.2.2.1, 8, .inl (cO S))), ((a 5), .inl (E.2.2.1, 96, .inl (bS S))), ((a 6), .inr (0, [.ref (a 7), .int (nI (mK S))])), ((a 7), .inl (E.2.2.1, 360, .inl (fA S)))] [((a 0), .inr (4, [.ref (a 1), .ref (a 3), .ref (a 5), .ref (a 6), .int (zb (tK S))])), ((a 1), .inr (2, [.ref (a 2), .int (nI (rU S))])), ((a 2), .inl (E.2.2.1, 12, .inl (rO S))), ((a 3), .inr (2, [.ref (a 4), .int (nI (cU S))])), ((a 4), .inl (E.2.2.1, 8, .inl (cO S))), ((a 5), .inl (E.2.2.1, 96, .inl (bS S))), ((a 6), .inr (0, [.ref (a 7), .int (nI (mK S))])), ((a 7), .inl (E.2.2.1, 360, .inl (fA S)))] (some (.int (-3))) := by
  refine zM.of kX4_removeLine (Nat.le_of_ble_eq_true rfl) rfl [some (.ref (a 0)), some (.int (nI au)), some (.int (nI 0)), some (.int (nI j)), none, none] rfl (Nat.le_of_ble_eq_true rfl) ?_
  intro X eX C N
  subst eX
  obtain ⟨hur, huc, hM⟩ := id hS
  refine z_aload_n C 0 dX4_removeLine_0 rfl rfl ?_
  refine z_iload_n C 2 dX4_removeLine_1 rfl rfl ?_
  refine z_iload_n C 3 dX4_removeLine_2 rfl rfl ?_
  refine z_callVr C kX4_slotAt gX4_removeLine_X4_slotAt (mX4_slotAt_r_in X.2.1 a (rO S) (rU S) (cO S) (cU S) (bS S) (fA S) (mK S) (tK S) j hur huc hM hj) dX4_removeLine_3 [0, 1, 2, 3, 4, 5, 6, 7] [] 0 rfl nd_0_1_2_3_4_5_6_7 rfl rfl rfl (by decide) (by decide) (Nat.le_of_ble_eq_true rfl) rfl ?_
  refine z_istore C dX4_removeLine_6 (Nat.le_of_ble_eq_true rfl) ?_
  refine z_iload_n C 1 dX4_removeLine_8 rfl rfl ?_
  refine z_callN C kX5_isAuthor nst_X4_removeLine_61.1 gX4_removeLine_X5_isAuthor_n61 nst_X4_removeLine_61.2.1 nst_X4_removeLine_61.2.2 (mX5_isAuthor_in X.2.1 au hau) dX4_removeLine_9 [] rfl (by decide) (by decide) (Nat.le_of_ble_eq_true rfl) rfl ?_
  refine z_bif_eq_f C 20 dX4_removeLine_12 (by decide) rfl ?_
  refine z_iload C dX4_removeLine_15 rfl ?_
  refine z_if_ge_t C 22 dX4_removeLine_17 (by decide) (Int32.not_lt.mp hsl) ?_
  refine z_aload_n C 0 dX4_removeLine_22 rfl rfl ?_
  refine z_get C fX4_removeLine_34 0 dX4_removeLine_23 rfl rfl ?_
  refine z_bif_ne_t C 40 dX4_removeLine_26 (by decide) ht ?_
  refine z_aload_n C 0 dX4_removeLine_40 rfl rfl ?_
  refine z_get C fX4_removeLine_30 0 dX4_removeLine_41 rfl rfl ?_
  refine z_iload_n C 2 dX4_removeLine_44 rfl rfl ?_
  refine z_iload C dX4_removeLine_45 rfl ?_
  refine z_callVr C kX0_removalOf gX4_removeLine_X0_removalOf (mX0_removalOf_r X.2.1 (a 6) (a 7) (fA S) (mK S) ((rO S) j) hM) dX4_removeLine_47 [6, 7] [] 6 rfl nd_6_7 rfl rfl rfl (by decide) (by decide) (Nat.le_of_ble_eq_true rfl) rfl ?_
  refine z_if_lt_t C 56 dX4_removeLine_50 (by decide) hr ?_
  refine z_aload_n C 0 dX4_removeLine_56 rfl rfl ?_
  refine z_get C fX4_removeLine_30 0 dX4_removeLine_57 rfl rfl ?_
  refine z_iload_n C 2 dX4_removeLine_60 rfl rfl ?_
  refine z_iload C dX4_removeLine_61 rfl ?_
  refine z_callVr C kX0_insertionOf gX4_removeLine_X0_insertionOf (mX0_insertionOf_r X.2.1 (a 6) (a 7) (fA S) (mK S) ((rO S) j) hM) dX4_removeLine_63 [6, 7] [] 6 rfl nd_6_7 rfl rfl rfl (by decide) (by decide) (Nat.le_of_ble_eq_true rfl) rfl ?_
  refine z_istore C dX4_removeLine_66 (Nat.le_of_ble_eq_true rfl) ?_
  refine z_iload C dX4_removeLine_68 rfl ?_
  refine z_if_lt_t C 97 dX4_removeLine_70 (by decide) hi ?_
  refine z_aload_n C 0 dX4_removeLine_97 rfl rfl ?_
  refine z_get C fX4_removeLine_30 0 dX4_removeLine_98 rfl rfl ?_
  refine z_iload_n C 2 dX4_removeLine_101 rfl rfl ?_
  refine z_nif_ne_f C 109 dX4_removeLine_102 (by decide) (by omega) (by omega) ?_
  refine z_iconst C (nI 1) dX4_removeLine_105 (by decide) ?_
  refine z_goto C 110 dX4_removeLine_106 (by decide) ?_
  refine z_iload_n C 1 dX4_removeLine_110 rfl rfl ?_
  refine z_iload C dX4_removeLine_111 rfl ?_
  refine z_callVr C kX0_addOfLine gX4_removeLine_X0_addOfLine (mX0_addOfLine_r_full X.2.1 (a 6) (a 7) (fA S) (mK S) 1 (nI au) ((rO S) j) (by first | assumption | omega) (by first | assumption | omega)) dX4_removeLine_113 [6, 7] [] 6 rfl nd_6_7 rfl rfl rfl (by decide) (by decide) (Nat.le_of_ble_eq_true rfl) rfl ?_
  exact z_iret C N dX4_removeLine_116 (rfl) (rfl)

set_option maxHeartbeats 4000000 in
set_option maxRecDepth 100000 in
theorem mX4_removeLine_rmf (E : zE) (a : Nat → Nat) (S : zSt) (au j : Nat) (k : Nat) (hS : okS S) (hau : au < 4) (hj : j < rU S) (hsl : ¬ (rO S) j < 0) (ht : tK S = true) (hr : zf (pLn (fA S) (nI 1) 3 ((rO S) j)) (mK S) < 0) (hik : zf (pLn (fA S) (nI 0) 3 ((rO S) j)) (mK S) = nI k) (hk : k < mK S) (hby : ¬ fA S (6 * k + 1) = nI au) (hf : 60 ≤ mK S) : zM E yX4_removeLine wsX4_removeLine 5 [.ref (a 0), .int (nI au), .int (nI 0), .int (nI j)] [((a 0), .inr (4, [.ref (a 1), .ref (a 3), .ref (a 5), .ref (a 6), .int (zb (tK S))])), ((a 1), .inr (2, [.ref (a 2), .int (nI (rU S))])), ((a 2), .inl (E.2.2.1, 12, .inl (rO S))), ((a 3), .inr (2, [.ref (a 4), .int (nI (cU S))])), ((a 4), .inl (E.2.2.1, 8, .inl (cO S))), ((a 5), .inl (E.2.2.1, 96, .inl (bS S))), ((a 6), .inr (0, [.ref (a 7), .int (nI (mK S))])), ((a 7), .inl (E.2.2.1, 360, .inl (fA S)))] [((a 0), .inr (4, [.ref (a 1), .ref (a 3), .ref (a 5), .ref (a 6), .int (zb (tK S))])), ((a 1), .inr (2, [.ref (a 2), .int (nI (rU S))])), ((a 2), .inl (E.2.2.1, 12, .inl (rO S))), ((a 3), .inr (2, [.ref (a 4), .int (nI (cU S))])), ((a 4), .inl (E.2.2.1, 8, .inl (cO S))), ((a 5), .inl (E.2.2.1, 96, .inl (bS S))), ((a 6), .inr (0, [.ref (a 7), .int (nI (mK S))])), ((a 7), .inl (E.2.2.1, 360, .inl (fA S)))] (some (.int (-3))) := by
  refine zM.of kX4_removeLine (Nat.le_of_ble_eq_true rfl) rfl [some (.ref (a 0)), some (.int (nI au)), some (.int (nI 0)), some (.int (nI j)), none, none] rfl (Nat.le_of_ble_eq_true rfl) ?_
  intro X eX C N
  subst eX
  obtain ⟨hur, huc, hM⟩ := id hS
  refine z_aload_n C 0 dX4_removeLine_0 rfl rfl ?_
  refine z_iload_n C 2 dX4_removeLine_1 rfl rfl ?_
  refine z_iload_n C 3 dX4_removeLine_2 rfl rfl ?_
  refine z_callVr C kX4_slotAt gX4_removeLine_X4_slotAt (mX4_slotAt_r_in X.2.1 a (rO S) (rU S) (cO S) (cU S) (bS S) (fA S) (mK S) (tK S) j hur huc hM hj) dX4_removeLine_3 [0, 1, 2, 3, 4, 5, 6, 7] [] 0 rfl nd_0_1_2_3_4_5_6_7 rfl rfl rfl (by decide) (by decide) (Nat.le_of_ble_eq_true rfl) rfl ?_
  refine z_istore C dX4_removeLine_6 (Nat.le_of_ble_eq_true rfl) ?_
  refine z_iload_n C 1 dX4_removeLine_8 rfl rfl ?_
  refine z_callN C kX5_isAuthor nst_X4_removeLine_61.1 gX4_removeLine_X5_isAuthor_n61 nst_X4_removeLine_61.2.1 nst_X4_removeLine_61.2.2 (mX5_isAuthor_in X.2.1 au hau) dX4_removeLine_9 [] rfl (by decide) (by decide) (Nat.le_of_ble_eq_true rfl) rfl ?_
  refine z_bif_eq_f C 20 dX4_removeLine_12 (by decide) rfl ?_
  refine z_iload C dX4_removeLine_15 rfl ?_
  refine z_if_ge_t C 22 dX4_removeLine_17 (by decide) (Int32.not_lt.mp hsl) ?_
  refine z_aload_n C 0 dX4_removeLine_22 rfl rfl ?_
  refine z_get C fX4_removeLine_34 0 dX4_removeLine_23 rfl rfl ?_
  refine z_bif_ne_t C 40 dX4_removeLine_26 (by decide) ht ?_
  refine z_aload_n C 0 dX4_removeLine_40 rfl rfl ?_
  refine z_get C fX4_removeLine_30 0 dX4_removeLine_41 rfl rfl ?_
  refine z_iload_n C 2 dX4_removeLine_44 rfl rfl ?_
  refine z_iload C dX4_removeLine_45 rfl ?_
  refine z_callVr C kX0_removalOf gX4_removeLine_X0_removalOf (mX0_removalOf_r X.2.1 (a 6) (a 7) (fA S) (mK S) ((rO S) j) hM) dX4_removeLine_47 [6, 7] [] 6 rfl nd_6_7 rfl rfl rfl (by decide) (by decide) (Nat.le_of_ble_eq_true rfl) rfl ?_
  refine z_if_lt_t C 56 dX4_removeLine_50 (by decide) hr ?_
  refine z_aload_n C 0 dX4_removeLine_56 rfl rfl ?_
  refine z_get C fX4_removeLine_30 0 dX4_removeLine_57 rfl rfl ?_
  refine z_iload_n C 2 dX4_removeLine_60 rfl rfl ?_
  refine z_iload C dX4_removeLine_61 rfl ?_
  refine z_callVr C kX0_insertionOf gX4_removeLine_X0_insertionOf (mX0_insertionOf_r X.2.1 (a 6) (a 7) (fA S) (mK S) ((rO S) j) hM) dX4_removeLine_63 [6, 7] [] 6 rfl nd_6_7 rfl rfl rfl (by decide) (by decide) (Nat.le_of_ble_eq_true rfl) rfl ?_
  refine z_top (y := nI k) (hik) ?_
  refine z_istore C dX4_removeLine_66 (Nat.le_of_ble_eq_true rfl) ?_
  refine z_iload C dX4_removeLine_68 rfl ?_
  refine z_nif_lt_f C 97 dX4_removeLine_70 (by decide) (by omega) (by trivial) ?_
  refine z_aload_n C 0 dX4_removeLine_73 rfl rfl ?_
  refine z_get C fX4_removeLine_30 0 dX4_removeLine_74 rfl rfl ?_
  refine z_iload C dX4_removeLine_77 rfl ?_
  refine z_iconst C (nI 1) dX4_removeLine_79 (by decide) ?_
  refine z_callVr C kX0_fact gX4_removeLine_X0_fact (mX0_fact X.2.1 (a 6) (a 7) (fA S) (mK S) k 1 hM hk (by first | assumption | omega)) dX4_removeLine_80 [6, 7] [] 6 rfl nd_6_7 rfl rfl rfl (by decide) (by decide) (Nat.le_of_ble_eq_true rfl) rfl ?_
  refine z_iload_n C 1 dX4_removeLine_83 rfl rfl ?_
  refine z_icmp_ne_t C 97 dX4_removeLine_84 (by decide) hby ?_
  refine z_aload_n C 0 dX4_removeLine_97 rfl rfl ?_
  refine z_get C fX4_removeLine_30 0 dX4_removeLine_98 rfl rfl ?_
  refine z_iload_n C 2 dX4_removeLine_101 rfl rfl ?_
  refine z_nif_ne_f C 109 dX4_removeLine_102 (by decide) (by omega) (by omega) ?_
  refine z_iconst C (nI 1) dX4_removeLine_105 (by decide) ?_
  refine z_goto C 110 dX4_removeLine_106 (by decide) ?_
  refine z_iload_n C 1 dX4_removeLine_110 rfl rfl ?_
  refine z_iload C dX4_removeLine_111 rfl ?_
  refine z_callVr C kX0_addOfLine gX4_removeLine_X0_addOfLine (mX0_addOfLine_r_full X.2.1 (a 6) (a 7) (fA S) (mK S) 1 (nI au) ((rO S) j) (by first | assumption | omega) (by first | assumption | omega)) dX4_removeLine_113 [6, 7] [] 6 rfl nd_6_7 rfl rfl rfl (by decide) (by decide) (Nat.le_of_ble_eq_true rfl) rfl ?_
  exact z_iret C N dX4_removeLine_116 (rfl) (rfl)

set_option maxHeartbeats 4000000 in
set_option maxRecDepth 100000 in
theorem mX4_removeLine_rnt (E : zE) (a : Nat → Nat) (S : zSt) (au j : Nat) (hS : okS S) (hau : au < 4) (hj : j < rU S) (hsl : ¬ (rO S) j < 0) (ht : tK S = true) (hr : zf (pLn (fA S) (nI 1) 3 ((rO S) j)) (mK S) < 0) (hi : zf (pLn (fA S) (nI 0) 3 ((rO S) j)) (mK S) < 0) (hf : mK S < 60) : zM E yX4_removeLine wsX4_removeLine 5 [.ref (a 0), .int (nI au), .int (nI 0), .int (nI j)] [((a 0), .inr (4, [.ref (a 1), .ref (a 3), .ref (a 5), .ref (a 6), .int (zb (tK S))])), ((a 1), .inr (2, [.ref (a 2), .int (nI (rU S))])), ((a 2), .inl (E.2.2.1, 12, .inl (rO S))), ((a 3), .inr (2, [.ref (a 4), .int (nI (cU S))])), ((a 4), .inl (E.2.2.1, 8, .inl (cO S))), ((a 5), .inl (E.2.2.1, 96, .inl (bS S))), ((a 6), .inr (0, [.ref (a 7), .int (nI (mK S))])), ((a 7), .inl (E.2.2.1, 360, .inl (fA S)))] [((a 0), .inr (4, [.ref (a 1), .ref (a 3), .ref (a 5), .ref (a 6), .int (zb (tK (zNew S (nI 1) (nI au) ((rO S) j) (-5) (-5))))])), ((a 1), .inr (2, [.ref (a 2), .int (nI (rU (zNew S (nI 1) (nI au) ((rO S) j) (-5) (-5))))])), ((a 2), .inl (E.2.2.1, 12, .inl (rO (zNew S (nI 1) (nI au) ((rO S) j) (-5) (-5))))), ((a 3), .inr (2, [.ref (a 4), .int (nI (cU (zNew S (nI 1) (nI au) ((rO S) j) (-5) (-5))))])), ((a 4), .inl (E.2.2.1, 8, .inl (cO (zNew S (nI 1) (nI au) ((rO S) j) (-5) (-5))))), ((a 5), .inl (E.2.2.1, 96, .inl (bS (zNew S (nI 1) (nI au) ((rO S) j) (-5) (-5))))), ((a 6), .inr (0, [.ref (a 7), .int (nI (mK (zNew S (nI 1) (nI au) ((rO S) j) (-5) (-5))))])), ((a 7), .inl (E.2.2.1, 360, .inl (fA (zNew S (nI 1) (nI au) ((rO S) j) (-5) (-5)))))] (some (.int (nI (mK S)))) := by
  refine zM.of kX4_removeLine (Nat.le_of_ble_eq_true rfl) rfl [some (.ref (a 0)), some (.int (nI au)), some (.int (nI 0)), some (.int (nI j)), none, none] rfl (Nat.le_of_ble_eq_true rfl) ?_
  intro X eX C N
  subst eX
  obtain ⟨hur, huc, hM⟩ := id hS
  refine z_aload_n C 0 dX4_removeLine_0 rfl rfl ?_
  refine z_iload_n C 2 dX4_removeLine_1 rfl rfl ?_
  refine z_iload_n C 3 dX4_removeLine_2 rfl rfl ?_
  refine z_callVr C kX4_slotAt gX4_removeLine_X4_slotAt (mX4_slotAt_r_in X.2.1 a (rO S) (rU S) (cO S) (cU S) (bS S) (fA S) (mK S) (tK S) j hur huc hM hj) dX4_removeLine_3 [0, 1, 2, 3, 4, 5, 6, 7] [] 0 rfl nd_0_1_2_3_4_5_6_7 rfl rfl rfl (by decide) (by decide) (Nat.le_of_ble_eq_true rfl) rfl ?_
  refine z_istore C dX4_removeLine_6 (Nat.le_of_ble_eq_true rfl) ?_
  refine z_iload_n C 1 dX4_removeLine_8 rfl rfl ?_
  refine z_callN C kX5_isAuthor nst_X4_removeLine_61.1 gX4_removeLine_X5_isAuthor_n61 nst_X4_removeLine_61.2.1 nst_X4_removeLine_61.2.2 (mX5_isAuthor_in X.2.1 au hau) dX4_removeLine_9 [] rfl (by decide) (by decide) (Nat.le_of_ble_eq_true rfl) rfl ?_
  refine z_bif_eq_f C 20 dX4_removeLine_12 (by decide) rfl ?_
  refine z_iload C dX4_removeLine_15 rfl ?_
  refine z_if_ge_t C 22 dX4_removeLine_17 (by decide) (Int32.not_lt.mp hsl) ?_
  refine z_aload_n C 0 dX4_removeLine_22 rfl rfl ?_
  refine z_get C fX4_removeLine_34 0 dX4_removeLine_23 rfl rfl ?_
  refine z_bif_ne_t C 40 dX4_removeLine_26 (by decide) ht ?_
  refine z_aload_n C 0 dX4_removeLine_40 rfl rfl ?_
  refine z_get C fX4_removeLine_30 0 dX4_removeLine_41 rfl rfl ?_
  refine z_iload_n C 2 dX4_removeLine_44 rfl rfl ?_
  refine z_iload C dX4_removeLine_45 rfl ?_
  refine z_callVr C kX0_removalOf gX4_removeLine_X0_removalOf (mX0_removalOf_r X.2.1 (a 6) (a 7) (fA S) (mK S) ((rO S) j) hM) dX4_removeLine_47 [6, 7] [] 6 rfl nd_6_7 rfl rfl rfl (by decide) (by decide) (Nat.le_of_ble_eq_true rfl) rfl ?_
  refine z_if_lt_t C 56 dX4_removeLine_50 (by decide) hr ?_
  refine z_aload_n C 0 dX4_removeLine_56 rfl rfl ?_
  refine z_get C fX4_removeLine_30 0 dX4_removeLine_57 rfl rfl ?_
  refine z_iload_n C 2 dX4_removeLine_60 rfl rfl ?_
  refine z_iload C dX4_removeLine_61 rfl ?_
  refine z_callVr C kX0_insertionOf gX4_removeLine_X0_insertionOf (mX0_insertionOf_r X.2.1 (a 6) (a 7) (fA S) (mK S) ((rO S) j) hM) dX4_removeLine_63 [6, 7] [] 6 rfl nd_6_7 rfl rfl rfl (by decide) (by decide) (Nat.le_of_ble_eq_true rfl) rfl ?_
  refine z_istore C dX4_removeLine_66 (Nat.le_of_ble_eq_true rfl) ?_
  refine z_iload C dX4_removeLine_68 rfl ?_
  refine z_if_lt_t C 97 dX4_removeLine_70 (by decide) hi ?_
  refine z_aload_n C 0 dX4_removeLine_97 rfl rfl ?_
  refine z_get C fX4_removeLine_30 0 dX4_removeLine_98 rfl rfl ?_
  refine z_iload_n C 2 dX4_removeLine_101 rfl rfl ?_
  refine z_nif_ne_f C 109 dX4_removeLine_102 (by decide) (by omega) (by omega) ?_
  refine z_iconst C (nI 1) dX4_removeLine_105 (by decide) ?_
  refine z_goto C 110 dX4_removeLine_106 (by decide) ?_
  refine z_iload_n C 1 dX4_removeLine_110 rfl rfl ?_
  refine z_iload C dX4_removeLine_111 rfl ?_
  refine z_callV (wn := [((a 0), .inr (4, [.ref (a 1), .ref (a 3), .ref (a 5), .ref (a 6), .int (zb (tK S))])), ((a 1), .inr (2, [.ref (a 2), .int (nI (rU S))])), ((a 2), .inl (X.2.1.2.2.1, 12, .inl (rO S))), ((a 3), .inr (2, [.ref (a 4), .int (nI (cU S))])), ((a 4), .inl (X.2.1.2.2.1, 8, .inl (cO S))), ((a 5), .inl (X.2.1.2.2.1, 96, .inl (bS S))), ((a 6), .inr (0, [.ref (a 7), .int (nI ((mK S) + 1))])), ((a 7), .inl (X.2.1.2.2.1, 360, .inl (zAdd (fA S) (mK S) (nI 1) (nI au) ((rO S) j) (-5) (-5))))]) C kX0_addOfLine gX4_removeLine_X0_addOfLine (mX0_addOfLine_r X.2.1 (a 6) (a 7) (fA S) (mK S) 1 (nI au) ((rO S) j) hf (by first | assumption | omega)) dX4_removeLine_113 [6, 7] [] 6 rfl rfl nd_6_7 rfl rfl rfl (by decide) (by decide) (Nat.le_of_ble_eq_true rfl) rfl rfl ?_
  exact z_iret C N dX4_removeLine_116 (rfl) (rfl)

set_option maxHeartbeats 4000000 in
set_option maxRecDepth 100000 in
theorem mX4_removeLine_rmt (E : zE) (a : Nat → Nat) (S : zSt) (au j : Nat) (k : Nat) (hS : okS S) (hau : au < 4) (hj : j < rU S) (hsl : ¬ (rO S) j < 0) (ht : tK S = true) (hr : zf (pLn (fA S) (nI 1) 3 ((rO S) j)) (mK S) < 0) (hik : zf (pLn (fA S) (nI 0) 3 ((rO S) j)) (mK S) = nI k) (hk : k < mK S) (hby : ¬ fA S (6 * k + 1) = nI au) (hf : mK S < 60) : zM E yX4_removeLine wsX4_removeLine 5 [.ref (a 0), .int (nI au), .int (nI 0), .int (nI j)] [((a 0), .inr (4, [.ref (a 1), .ref (a 3), .ref (a 5), .ref (a 6), .int (zb (tK S))])), ((a 1), .inr (2, [.ref (a 2), .int (nI (rU S))])), ((a 2), .inl (E.2.2.1, 12, .inl (rO S))), ((a 3), .inr (2, [.ref (a 4), .int (nI (cU S))])), ((a 4), .inl (E.2.2.1, 8, .inl (cO S))), ((a 5), .inl (E.2.2.1, 96, .inl (bS S))), ((a 6), .inr (0, [.ref (a 7), .int (nI (mK S))])), ((a 7), .inl (E.2.2.1, 360, .inl (fA S)))] [((a 0), .inr (4, [.ref (a 1), .ref (a 3), .ref (a 5), .ref (a 6), .int (zb (tK (zNew S (nI 1) (nI au) ((rO S) j) (-5) (-5))))])), ((a 1), .inr (2, [.ref (a 2), .int (nI (rU (zNew S (nI 1) (nI au) ((rO S) j) (-5) (-5))))])), ((a 2), .inl (E.2.2.1, 12, .inl (rO (zNew S (nI 1) (nI au) ((rO S) j) (-5) (-5))))), ((a 3), .inr (2, [.ref (a 4), .int (nI (cU (zNew S (nI 1) (nI au) ((rO S) j) (-5) (-5))))])), ((a 4), .inl (E.2.2.1, 8, .inl (cO (zNew S (nI 1) (nI au) ((rO S) j) (-5) (-5))))), ((a 5), .inl (E.2.2.1, 96, .inl (bS (zNew S (nI 1) (nI au) ((rO S) j) (-5) (-5))))), ((a 6), .inr (0, [.ref (a 7), .int (nI (mK (zNew S (nI 1) (nI au) ((rO S) j) (-5) (-5))))])), ((a 7), .inl (E.2.2.1, 360, .inl (fA (zNew S (nI 1) (nI au) ((rO S) j) (-5) (-5)))))] (some (.int (nI (mK S)))) := by
  refine zM.of kX4_removeLine (Nat.le_of_ble_eq_true rfl) rfl [some (.ref (a 0)), some (.int (nI au)), some (.int (nI 0)), some (.int (nI j)), none, none] rfl (Nat.le_of_ble_eq_true rfl) ?_
  intro X eX C N
  subst eX
  obtain ⟨hur, huc, hM⟩ := id hS
  refine z_aload_n C 0 dX4_removeLine_0 rfl rfl ?_
  refine z_iload_n C 2 dX4_removeLine_1 rfl rfl ?_
  refine z_iload_n C 3 dX4_removeLine_2 rfl rfl ?_
  refine z_callVr C kX4_slotAt gX4_removeLine_X4_slotAt (mX4_slotAt_r_in X.2.1 a (rO S) (rU S) (cO S) (cU S) (bS S) (fA S) (mK S) (tK S) j hur huc hM hj) dX4_removeLine_3 [0, 1, 2, 3, 4, 5, 6, 7] [] 0 rfl nd_0_1_2_3_4_5_6_7 rfl rfl rfl (by decide) (by decide) (Nat.le_of_ble_eq_true rfl) rfl ?_
  refine z_istore C dX4_removeLine_6 (Nat.le_of_ble_eq_true rfl) ?_
  refine z_iload_n C 1 dX4_removeLine_8 rfl rfl ?_
  refine z_callN C kX5_isAuthor nst_X4_removeLine_61.1 gX4_removeLine_X5_isAuthor_n61 nst_X4_removeLine_61.2.1 nst_X4_removeLine_61.2.2 (mX5_isAuthor_in X.2.1 au hau) dX4_removeLine_9 [] rfl (by decide) (by decide) (Nat.le_of_ble_eq_true rfl) rfl ?_
  refine z_bif_eq_f C 20 dX4_removeLine_12 (by decide) rfl ?_
  refine z_iload C dX4_removeLine_15 rfl ?_
  refine z_if_ge_t C 22 dX4_removeLine_17 (by decide) (Int32.not_lt.mp hsl) ?_
  refine z_aload_n C 0 dX4_removeLine_22 rfl rfl ?_
  refine z_get C fX4_removeLine_34 0 dX4_removeLine_23 rfl rfl ?_
  refine z_bif_ne_t C 40 dX4_removeLine_26 (by decide) ht ?_
  refine z_aload_n C 0 dX4_removeLine_40 rfl rfl ?_
  refine z_get C fX4_removeLine_30 0 dX4_removeLine_41 rfl rfl ?_
  refine z_iload_n C 2 dX4_removeLine_44 rfl rfl ?_
  refine z_iload C dX4_removeLine_45 rfl ?_
  refine z_callVr C kX0_removalOf gX4_removeLine_X0_removalOf (mX0_removalOf_r X.2.1 (a 6) (a 7) (fA S) (mK S) ((rO S) j) hM) dX4_removeLine_47 [6, 7] [] 6 rfl nd_6_7 rfl rfl rfl (by decide) (by decide) (Nat.le_of_ble_eq_true rfl) rfl ?_
  refine z_if_lt_t C 56 dX4_removeLine_50 (by decide) hr ?_
  refine z_aload_n C 0 dX4_removeLine_56 rfl rfl ?_
  refine z_get C fX4_removeLine_30 0 dX4_removeLine_57 rfl rfl ?_
  refine z_iload_n C 2 dX4_removeLine_60 rfl rfl ?_
  refine z_iload C dX4_removeLine_61 rfl ?_
  refine z_callVr C kX0_insertionOf gX4_removeLine_X0_insertionOf (mX0_insertionOf_r X.2.1 (a 6) (a 7) (fA S) (mK S) ((rO S) j) hM) dX4_removeLine_63 [6, 7] [] 6 rfl nd_6_7 rfl rfl rfl (by decide) (by decide) (Nat.le_of_ble_eq_true rfl) rfl ?_
  refine z_top (y := nI k) (hik) ?_
  refine z_istore C dX4_removeLine_66 (Nat.le_of_ble_eq_true rfl) ?_
  refine z_iload C dX4_removeLine_68 rfl ?_
  refine z_nif_lt_f C 97 dX4_removeLine_70 (by decide) (by omega) (by trivial) ?_
  refine z_aload_n C 0 dX4_removeLine_73 rfl rfl ?_
  refine z_get C fX4_removeLine_30 0 dX4_removeLine_74 rfl rfl ?_
  refine z_iload C dX4_removeLine_77 rfl ?_
  refine z_iconst C (nI 1) dX4_removeLine_79 (by decide) ?_
  refine z_callVr C kX0_fact gX4_removeLine_X0_fact (mX0_fact X.2.1 (a 6) (a 7) (fA S) (mK S) k 1 hM hk (by first | assumption | omega)) dX4_removeLine_80 [6, 7] [] 6 rfl nd_6_7 rfl rfl rfl (by decide) (by decide) (Nat.le_of_ble_eq_true rfl) rfl ?_
  refine z_iload_n C 1 dX4_removeLine_83 rfl rfl ?_
  refine z_icmp_ne_t C 97 dX4_removeLine_84 (by decide) hby ?_
  refine z_aload_n C 0 dX4_removeLine_97 rfl rfl ?_
  refine z_get C fX4_removeLine_30 0 dX4_removeLine_98 rfl rfl ?_
  refine z_iload_n C 2 dX4_removeLine_101 rfl rfl ?_
  refine z_nif_ne_f C 109 dX4_removeLine_102 (by decide) (by omega) (by omega) ?_
  refine z_iconst C (nI 1) dX4_removeLine_105 (by decide) ?_
  refine z_goto C 110 dX4_removeLine_106 (by decide) ?_
  refine z_iload_n C 1 dX4_removeLine_110 rfl rfl ?_
  refine z_iload C dX4_removeLine_111 rfl ?_
  refine z_callV (wn := [((a 0), .inr (4, [.ref (a 1), .ref (a 3), .ref (a 5), .ref (a 6), .int (zb (tK S))])), ((a 1), .inr (2, [.ref (a 2), .int (nI (rU S))])), ((a 2), .inl (X.2.1.2.2.1, 12, .inl (rO S))), ((a 3), .inr (2, [.ref (a 4), .int (nI (cU S))])), ((a 4), .inl (X.2.1.2.2.1, 8, .inl (cO S))), ((a 5), .inl (X.2.1.2.2.1, 96, .inl (bS S))), ((a 6), .inr (0, [.ref (a 7), .int (nI ((mK S) + 1))])), ((a 7), .inl (X.2.1.2.2.1, 360, .inl (zAdd (fA S) (mK S) (nI 1) (nI au) ((rO S) j) (-5) (-5))))]) C kX0_addOfLine gX4_removeLine_X0_addOfLine (mX0_addOfLine_r X.2.1 (a 6) (a 7) (fA S) (mK S) 1 (nI au) ((rO S) j) hf (by first | assumption | omega)) dX4_removeLine_113 [6, 7] [] 6 rfl rfl nd_6_7 rfl rfl rfl (by decide) (by decide) (Nat.le_of_ble_eq_true rfl) rfl rfl ?_
  exact z_iret C N dX4_removeLine_116 (rfl) (rfl)

set_option maxHeartbeats 4000000 in
set_option maxRecDepth 100000 in
theorem mX4_removeLine_cb (E : zE) (a : Nat → Nat) (S : zSt) (au : Nat) (pl : Int32) (hS : okS S) (hau : au < 4) (hx : pl < 0 ∨ (¬ pl < 0 ∧ nI (cU S) ≤ pl)) : zM E yX4_removeLine wsX4_removeLine 5 [.ref (a 0), .int (nI au), .int (nI 1), .int pl] [((a 0), .inr (4, [.ref (a 1), .ref (a 3), .ref (a 5), .ref (a 6), .int (zb (tK S))])), ((a 1), .inr (2, [.ref (a 2), .int (nI (rU S))])), ((a 2), .inl (E.2.2.1, 12, .inl (rO S))), ((a 3), .inr (2, [.ref (a 4), .int (nI (cU S))])), ((a 4), .inl (E.2.2.1, 8, .inl (cO S))), ((a 5), .inl (E.2.2.1, 96, .inl (bS S))), ((a 6), .inr (0, [.ref (a 7), .int (nI (mK S))])), ((a 7), .inl (E.2.2.1, 360, .inl (fA S)))] [((a 0), .inr (4, [.ref (a 1), .ref (a 3), .ref (a 5), .ref (a 6), .int (zb (tK S))])), ((a 1), .inr (2, [.ref (a 2), .int (nI (rU S))])), ((a 2), .inl (E.2.2.1, 12, .inl (rO S))), ((a 3), .inr (2, [.ref (a 4), .int (nI (cU S))])), ((a 4), .inl (E.2.2.1, 8, .inl (cO S))), ((a 5), .inl (E.2.2.1, 96, .inl (bS S))), ((a 6), .inr (0, [.ref (a 7), .int (nI (mK S))])), ((a 7), .inl (E.2.2.1, 360, .inl (fA S)))] (some (.int (-1))) := by
  refine zM.of kX4_removeLine (Nat.le_of_ble_eq_true rfl) rfl [some (.ref (a 0)), some (.int (nI au)), some (.int (nI 1)), some (.int pl), none, none] rfl (Nat.le_of_ble_eq_true rfl) ?_
  intro X eX C N
  subst eX
  obtain ⟨hur, huc, hM⟩ := id hS
  refine z_aload_n C 0 dX4_removeLine_0 rfl rfl ?_
  refine z_iload_n C 2 dX4_removeLine_1 rfl rfl ?_
  refine z_iload_n C 3 dX4_removeLine_2 rfl rfl ?_
  refine z_callVr C kX4_slotAt gX4_removeLine_X4_slotAt (mX4_slotAt_c_out X.2.1 a (rO S) (rU S) (cO S) (cU S) (bS S) (fA S) (mK S) (tK S) pl hur huc hM hx) dX4_removeLine_3 [0, 1, 2, 3, 4, 5, 6, 7] [] 0 rfl nd_0_1_2_3_4_5_6_7 rfl rfl rfl (by decide) (by decide) (Nat.le_of_ble_eq_true rfl) rfl ?_
  refine z_istore C dX4_removeLine_6 (Nat.le_of_ble_eq_true rfl) ?_
  refine z_iload_n C 1 dX4_removeLine_8 rfl rfl ?_
  refine z_callN C kX5_isAuthor nst_X4_removeLine_61.1 gX4_removeLine_X5_isAuthor_n61 nst_X4_removeLine_61.2.1 nst_X4_removeLine_61.2.2 (mX5_isAuthor_in X.2.1 au hau) dX4_removeLine_9 [] rfl (by decide) (by decide) (Nat.le_of_ble_eq_true rfl) rfl ?_
  refine z_bif_eq_f C 20 dX4_removeLine_12 (by decide) rfl ?_
  refine z_iload C dX4_removeLine_15 rfl ?_
  refine z_if_ge_f C 22 dX4_removeLine_17 (by decide) (by decide) ?_
  refine z_iconst C (-1) dX4_removeLine_20 (by decide) ?_
  exact z_iret C N dX4_removeLine_21 (rfl) (rfl)

set_option maxHeartbeats 4000000 in
set_option maxRecDepth 100000 in
theorem mX4_removeLine_cu (E : zE) (a : Nat → Nat) (S : zSt) (au j : Nat) (hS : okS S) (hau : au < 4) (hj : j < cU S) (hsl : ¬ (cO S) j < 0) (ht : tK S = false) : zM E yX4_removeLine wsX4_removeLine 5 [.ref (a 0), .int (nI au), .int (nI 1), .int (nI j)] [((a 0), .inr (4, [.ref (a 1), .ref (a 3), .ref (a 5), .ref (a 6), .int (zb (tK S))])), ((a 1), .inr (2, [.ref (a 2), .int (nI (rU S))])), ((a 2), .inl (E.2.2.1, 12, .inl (rO S))), ((a 3), .inr (2, [.ref (a 4), .int (nI (cU S))])), ((a 4), .inl (E.2.2.1, 8, .inl (cO S))), ((a 5), .inl (E.2.2.1, 96, .inl (bS S))), ((a 6), .inr (0, [.ref (a 7), .int (nI (mK S))])), ((a 7), .inl (E.2.2.1, 360, .inl (fA S)))] [((a 0), .inr (4, [.ref (a 1), .ref (a 3), .ref (a 5), .ref (a 6), .int (zb (tK (zDrC S ((cO S) j))))])), ((a 1), .inr (2, [.ref (a 2), .int (nI (rU (zDrC S ((cO S) j))))])), ((a 2), .inl (E.2.2.1, 12, .inl (rO (zDrC S ((cO S) j))))), ((a 3), .inr (2, [.ref (a 4), .int (nI (cU (zDrC S ((cO S) j))))])), ((a 4), .inl (E.2.2.1, 8, .inl (cO (zDrC S ((cO S) j))))), ((a 5), .inl (E.2.2.1, 96, .inl (bS (zDrC S ((cO S) j))))), ((a 6), .inr (0, [.ref (a 7), .int (nI (mK (zDrC S ((cO S) j))))])), ((a 7), .inl (E.2.2.1, 360, .inl (fA (zDrC S ((cO S) j)))))] (some (.int (nI 1000))) := by
  refine zM.of kX4_removeLine (Nat.le_of_ble_eq_true rfl) rfl [some (.ref (a 0)), some (.int (nI au)), some (.int (nI 1)), some (.int (nI j)), none, none] rfl (Nat.le_of_ble_eq_true rfl) ?_
  intro X eX C N
  subst eX
  obtain ⟨hur, huc, hM⟩ := id hS
  refine z_aload_n C 0 dX4_removeLine_0 rfl rfl ?_
  refine z_iload_n C 2 dX4_removeLine_1 rfl rfl ?_
  refine z_iload_n C 3 dX4_removeLine_2 rfl rfl ?_
  refine z_callVr C kX4_slotAt gX4_removeLine_X4_slotAt (mX4_slotAt_c_in X.2.1 a (rO S) (rU S) (cO S) (cU S) (bS S) (fA S) (mK S) (tK S) j hur huc hM hj) dX4_removeLine_3 [0, 1, 2, 3, 4, 5, 6, 7] [] 0 rfl nd_0_1_2_3_4_5_6_7 rfl rfl rfl (by decide) (by decide) (Nat.le_of_ble_eq_true rfl) rfl ?_
  refine z_istore C dX4_removeLine_6 (Nat.le_of_ble_eq_true rfl) ?_
  refine z_iload_n C 1 dX4_removeLine_8 rfl rfl ?_
  refine z_callN C kX5_isAuthor nst_X4_removeLine_61.1 gX4_removeLine_X5_isAuthor_n61 nst_X4_removeLine_61.2.1 nst_X4_removeLine_61.2.2 (mX5_isAuthor_in X.2.1 au hau) dX4_removeLine_9 [] rfl (by decide) (by decide) (Nat.le_of_ble_eq_true rfl) rfl ?_
  refine z_bif_eq_f C 20 dX4_removeLine_12 (by decide) rfl ?_
  refine z_iload C dX4_removeLine_15 rfl ?_
  refine z_if_ge_t C 22 dX4_removeLine_17 (by decide) (Int32.not_lt.mp hsl) ?_
  refine z_aload_n C 0 dX4_removeLine_22 rfl rfl ?_
  refine z_get C fX4_removeLine_34 0 dX4_removeLine_23 rfl rfl ?_
  refine z_bif_ne_f C 40 dX4_removeLine_26 (by decide) ht ?_
  refine z_aload_n C 0 dX4_removeLine_29 rfl rfl ?_
  refine z_iload_n C 2 dX4_removeLine_30 rfl rfl ?_
  refine z_iload C dX4_removeLine_31 rfl ?_
  refine z_callVv (wn := [((a 0), .inr (4, [.ref (a 1), .ref (a 3), .ref (a 5), .ref (a 6), .int (zb (tK (zDrC S ((cO S) j))))])), ((a 1), .inr (2, [.ref (a 2), .int (nI (rU (zDrC S ((cO S) j))))])), ((a 2), .inl (X.2.1.2.2.1, 12, .inl (rO (zDrC S ((cO S) j))))), ((a 3), .inr (2, [.ref (a 4), .int (nI (cU (zDrC S ((cO S) j))))])), ((a 4), .inl (X.2.1.2.2.1, 8, .inl (cO (zDrC S ((cO S) j))))), ((a 5), .inl (X.2.1.2.2.1, 96, .inl (bS (zDrC S ((cO S) j))))), ((a 6), .inr (0, [.ref (a 7), .int (nI (mK (zDrC S ((cO S) j))))])), ((a 7), .inl (X.2.1.2.2.1, 360, .inl (fA (zDrC S ((cO S) j)))))]) C kX4_dropLine gX4_removeLine_X4_dropLine (mX4_dropLine_c X.2.1 a S ((cO S) j) hS) dX4_removeLine_33 [0, 1, 2, 3, 4, 5, 6, 7] [] 0 rfl rfl nd_0_1_2_3_4_5_6_7 rfl rfl rfl (by decide) (by decide) (Nat.le_of_ble_eq_true rfl) rfl rfl ?_
  refine z_sipush C (nI 1000) dX4_removeLine_36 (by decide) ?_
  exact z_iret C N dX4_removeLine_39 (rfl) (rfl)

set_option maxHeartbeats 4000000 in
set_option maxRecDepth 100000 in
theorem mX4_removeLine_cd (E : zE) (a : Nat → Nat) (S : zSt) (au j : Nat) (hS : okS S) (hau : au < 4) (hj : j < cU S) (hsl : ¬ (cO S) j < 0) (ht : tK S = true) (hr : ¬ zf (pLn (fA S) (nI 3) 4 ((cO S) j)) (mK S) < 0) : zM E yX4_removeLine wsX4_removeLine 5 [.ref (a 0), .int (nI au), .int (nI 1), .int (nI j)] [((a 0), .inr (4, [.ref (a 1), .ref (a 3), .ref (a 5), .ref (a 6), .int (zb (tK S))])), ((a 1), .inr (2, [.ref (a 2), .int (nI (rU S))])), ((a 2), .inl (E.2.2.1, 12, .inl (rO S))), ((a 3), .inr (2, [.ref (a 4), .int (nI (cU S))])), ((a 4), .inl (E.2.2.1, 8, .inl (cO S))), ((a 5), .inl (E.2.2.1, 96, .inl (bS S))), ((a 6), .inr (0, [.ref (a 7), .int (nI (mK S))])), ((a 7), .inl (E.2.2.1, 360, .inl (fA S)))] [((a 0), .inr (4, [.ref (a 1), .ref (a 3), .ref (a 5), .ref (a 6), .int (zb (tK S))])), ((a 1), .inr (2, [.ref (a 2), .int (nI (rU S))])), ((a 2), .inl (E.2.2.1, 12, .inl (rO S))), ((a 3), .inr (2, [.ref (a 4), .int (nI (cU S))])), ((a 4), .inl (E.2.2.1, 8, .inl (cO S))), ((a 5), .inl (E.2.2.1, 96, .inl (bS S))), ((a 6), .inr (0, [.ref (a 7), .int (nI (mK S))])), ((a 7), .inl (E.2.2.1, 360, .inl (fA S)))] (some (.int (-4))) := by
  refine zM.of kX4_removeLine (Nat.le_of_ble_eq_true rfl) rfl [some (.ref (a 0)), some (.int (nI au)), some (.int (nI 1)), some (.int (nI j)), none, none] rfl (Nat.le_of_ble_eq_true rfl) ?_
  intro X eX C N
  subst eX
  obtain ⟨hur, huc, hM⟩ := id hS
  refine z_aload_n C 0 dX4_removeLine_0 rfl rfl ?_
  refine z_iload_n C 2 dX4_removeLine_1 rfl rfl ?_
  refine z_iload_n C 3 dX4_removeLine_2 rfl rfl ?_
  refine z_callVr C kX4_slotAt gX4_removeLine_X4_slotAt (mX4_slotAt_c_in X.2.1 a (rO S) (rU S) (cO S) (cU S) (bS S) (fA S) (mK S) (tK S) j hur huc hM hj) dX4_removeLine_3 [0, 1, 2, 3, 4, 5, 6, 7] [] 0 rfl nd_0_1_2_3_4_5_6_7 rfl rfl rfl (by decide) (by decide) (Nat.le_of_ble_eq_true rfl) rfl ?_
  refine z_istore C dX4_removeLine_6 (Nat.le_of_ble_eq_true rfl) ?_
  refine z_iload_n C 1 dX4_removeLine_8 rfl rfl ?_
  refine z_callN C kX5_isAuthor nst_X4_removeLine_61.1 gX4_removeLine_X5_isAuthor_n61 nst_X4_removeLine_61.2.1 nst_X4_removeLine_61.2.2 (mX5_isAuthor_in X.2.1 au hau) dX4_removeLine_9 [] rfl (by decide) (by decide) (Nat.le_of_ble_eq_true rfl) rfl ?_
  refine z_bif_eq_f C 20 dX4_removeLine_12 (by decide) rfl ?_
  refine z_iload C dX4_removeLine_15 rfl ?_
  refine z_if_ge_t C 22 dX4_removeLine_17 (by decide) (Int32.not_lt.mp hsl) ?_
  refine z_aload_n C 0 dX4_removeLine_22 rfl rfl ?_
  refine z_get C fX4_removeLine_34 0 dX4_removeLine_23 rfl rfl ?_
  refine z_bif_ne_t C 40 dX4_removeLine_26 (by decide) ht ?_
  refine z_aload_n C 0 dX4_removeLine_40 rfl rfl ?_
  refine z_get C fX4_removeLine_30 0 dX4_removeLine_41 rfl rfl ?_
  refine z_iload_n C 2 dX4_removeLine_44 rfl rfl ?_
  refine z_iload C dX4_removeLine_45 rfl ?_
  refine z_callVr C kX0_removalOf gX4_removeLine_X0_removalOf (mX0_removalOf_c X.2.1 (a 6) (a 7) (fA S) (mK S) ((cO S) j) hM) dX4_removeLine_47 [6, 7] [] 6 rfl nd_6_7 rfl rfl rfl (by decide) (by decide) (Nat.le_of_ble_eq_true rfl) rfl ?_
  refine z_if_lt_f C 56 dX4_removeLine_50 (by decide) hr ?_
  refine z_bipush C (-4) dX4_removeLine_53 (by decide) ?_
  exact z_iret C N dX4_removeLine_55 (rfl) (rfl)

set_option maxHeartbeats 4000000 in
set_option maxRecDepth 100000 in
theorem mX4_removeLine_co (E : zE) (a : Nat → Nat) (S : zSt) (au j : Nat) (k : Nat) (hS : okS S) (hau : au < 4) (hj : j < cU S) (hsl : ¬ (cO S) j < 0) (ht : tK S = true) (hr : zf (pLn (fA S) (nI 3) 4 ((cO S) j)) (mK S) < 0) (hik : zf (pLn (fA S) (nI 2) 4 ((cO S) j)) (mK S) = nI k) (hk : k < mK S) (hby : fA S (6 * k + 1) = nI au) : zM E yX4_removeLine wsX4_removeLine 5 [.ref (a 0), .int (nI au), .int (nI 1), .int (nI j)] [((a 0), .inr (4, [.ref (a 1), .ref (a 3), .ref (a 5), .ref (a 6), .int (zb (tK S))])), ((a 1), .inr (2, [.ref (a 2), .int (nI (rU S))])), ((a 2), .inl (E.2.2.1, 12, .inl (rO S))), ((a 3), .inr (2, [.ref (a 4), .int (nI (cU S))])), ((a 4), .inl (E.2.2.1, 8, .inl (cO S))), ((a 5), .inl (E.2.2.1, 96, .inl (bS S))), ((a 6), .inr (0, [.ref (a 7), .int (nI (mK S))])), ((a 7), .inl (E.2.2.1, 360, .inl (fA S)))] [((a 0), .inr (4, [.ref (a 1), .ref (a 3), .ref (a 5), .ref (a 6), .int (zb (tK (zDrC S ((cO S) j))))])), ((a 1), .inr (2, [.ref (a 2), .int (nI (rU (zDrC S ((cO S) j))))])), ((a 2), .inl (E.2.2.1, 12, .inl (rO (zDrC S ((cO S) j))))), ((a 3), .inr (2, [.ref (a 4), .int (nI (cU (zDrC S ((cO S) j))))])), ((a 4), .inl (E.2.2.1, 8, .inl (cO (zDrC S ((cO S) j))))), ((a 5), .inl (E.2.2.1, 96, .inl (bS (zDrC S ((cO S) j))))), ((a 6), .inr (0, [.ref (a 7), .int (nI (mK (zDrC S ((cO S) j))))])), ((a 7), .inl (E.2.2.1, 360, .inl (fA (zDrC S ((cO S) j)))))] (some (.int (nI k))) := by
  refine zM.of kX4_removeLine (Nat.le_of_ble_eq_true rfl) rfl [some (.ref (a 0)), some (.int (nI au)), some (.int (nI 1)), some (.int (nI j)), none, none] rfl (Nat.le_of_ble_eq_true rfl) ?_
  intro X eX C N
  subst eX
  obtain ⟨hur, huc, hM⟩ := id hS
  refine z_aload_n C 0 dX4_removeLine_0 rfl rfl ?_
  refine z_iload_n C 2 dX4_removeLine_1 rfl rfl ?_
  refine z_iload_n C 3 dX4_removeLine_2 rfl rfl ?_
  refine z_callVr C kX4_slotAt gX4_removeLine_X4_slotAt (mX4_slotAt_c_in X.2.1 a (rO S) (rU S) (cO S) (cU S) (bS S) (fA S) (mK S) (tK S) j hur huc hM hj) dX4_removeLine_3 [0, 1, 2, 3, 4, 5, 6, 7] [] 0 rfl nd_0_1_2_3_4_5_6_7 rfl rfl rfl (by decide) (by decide) (Nat.le_of_ble_eq_true rfl) rfl ?_
  refine z_istore C dX4_removeLine_6 (Nat.le_of_ble_eq_true rfl) ?_
  refine z_iload_n C 1 dX4_removeLine_8 rfl rfl ?_
  refine z_callN C kX5_isAuthor nst_X4_removeLine_61.1 gX4_removeLine_X5_isAuthor_n61 nst_X4_removeLine_61.2.1 nst_X4_removeLine_61.2.2 (mX5_isAuthor_in X.2.1 au hau) dX4_removeLine_9 [] rfl (by decide) (by decide) (Nat.le_of_ble_eq_true rfl) rfl ?_
  refine z_bif_eq_f C 20 dX4_removeLine_12 (by decide) rfl ?_
  refine z_iload C dX4_removeLine_15 rfl ?_
  refine z_if_ge_t C 22 dX4_removeLine_17 (by decide) (Int32.not_lt.mp hsl) ?_
  refine z_aload_n C 0 dX4_removeLine_22 rfl rfl ?_
  refine z_get C fX4_removeLine_34 0 dX4_removeLine_23 rfl rfl ?_
  refine z_bif_ne_t C 40 dX4_removeLine_26 (by decide) ht ?_
  refine z_aload_n C 0 dX4_removeLine_40 rfl rfl ?_
  refine z_get C fX4_removeLine_30 0 dX4_removeLine_41 rfl rfl ?_
  refine z_iload_n C 2 dX4_removeLine_44 rfl rfl ?_
  refine z_iload C dX4_removeLine_45 rfl ?_
  refine z_callVr C kX0_removalOf gX4_removeLine_X0_removalOf (mX0_removalOf_c X.2.1 (a 6) (a 7) (fA S) (mK S) ((cO S) j) hM) dX4_removeLine_47 [6, 7] [] 6 rfl nd_6_7 rfl rfl rfl (by decide) (by decide) (Nat.le_of_ble_eq_true rfl) rfl ?_
  refine z_if_lt_t C 56 dX4_removeLine_50 (by decide) hr ?_
  refine z_aload_n C 0 dX4_removeLine_56 rfl rfl ?_
  refine z_get C fX4_removeLine_30 0 dX4_removeLine_57 rfl rfl ?_
  refine z_iload_n C 2 dX4_removeLine_60 rfl rfl ?_
  refine z_iload C dX4_removeLine_61 rfl ?_
  refine z_callVr C kX0_insertionOf gX4_removeLine_X0_insertionOf (mX0_insertionOf_c X.2.1 (a 6) (a 7) (fA S) (mK S) ((cO S) j) hM) dX4_removeLine_63 [6, 7] [] 6 rfl nd_6_7 rfl rfl rfl (by decide) (by decide) (Nat.le_of_ble_eq_true rfl) rfl ?_
  refine z_top (y := nI k) (hik) ?_
  refine z_istore C dX4_removeLine_66 (Nat.le_of_ble_eq_true rfl) ?_
  refine z_iload C dX4_removeLine_68 rfl ?_
  refine z_nif_lt_f C 97 dX4_removeLine_70 (by decide) (by omega) (by trivial) ?_
  refine z_aload_n C 0 dX4_removeLine_73 rfl rfl ?_
  refine z_get C fX4_removeLine_30 0 dX4_removeLine_74 rfl rfl ?_
  refine z_iload C dX4_removeLine_77 rfl ?_
  refine z_iconst C (nI 1) dX4_removeLine_79 (by decide) ?_
  refine z_callVr C kX0_fact gX4_removeLine_X0_fact (mX0_fact X.2.1 (a 6) (a 7) (fA S) (mK S) k 1 hM hk (by first | assumption | omega)) dX4_removeLine_80 [6, 7] [] 6 rfl nd_6_7 rfl rfl rfl (by decide) (by decide) (Nat.le_of_ble_eq_true rfl) rfl ?_
  refine z_iload_n C 1 dX4_removeLine_83 rfl rfl ?_
  refine z_icmp_ne_f C 97 dX4_removeLine_84 (by decide) hby ?_
  refine z_aload_n C 0 dX4_removeLine_87 rfl rfl ?_
  refine z_iload_n C 2 dX4_removeLine_88 rfl rfl ?_
  refine z_iload C dX4_removeLine_89 rfl ?_
  refine z_callVv (wn := [((a 0), .inr (4, [.ref (a 1), .ref (a 3), .ref (a 5), .ref (a 6), .int (zb (tK (zDrC S ((cO S) j))))])), ((a 1), .inr (2, [.ref (a 2), .int (nI (rU (zDrC S ((cO S) j))))])), ((a 2), .inl (X.2.1.2.2.1, 12, .inl (rO (zDrC S ((cO S) j))))), ((a 3), .inr (2, [.ref (a 4), .int (nI (cU (zDrC S ((cO S) j))))])), ((a 4), .inl (X.2.1.2.2.1, 8, .inl (cO (zDrC S ((cO S) j))))), ((a 5), .inl (X.2.1.2.2.1, 96, .inl (bS (zDrC S ((cO S) j))))), ((a 6), .inr (0, [.ref (a 7), .int (nI (mK (zDrC S ((cO S) j))))])), ((a 7), .inl (X.2.1.2.2.1, 360, .inl (fA (zDrC S ((cO S) j)))))]) C kX4_dropLine gX4_removeLine_X4_dropLine (mX4_dropLine_c X.2.1 a S ((cO S) j) hS) dX4_removeLine_91 [0, 1, 2, 3, 4, 5, 6, 7] [] 0 rfl rfl nd_0_1_2_3_4_5_6_7 rfl rfl rfl (by decide) (by decide) (Nat.le_of_ble_eq_true rfl) rfl rfl ?_
  refine z_iload C dX4_removeLine_94 rfl ?_
  exact z_iret C N dX4_removeLine_96 (rfl) (rfl)

set_option maxHeartbeats 4000000 in
set_option maxRecDepth 100000 in
theorem mX4_removeLine_cnf (E : zE) (a : Nat → Nat) (S : zSt) (au j : Nat) (hS : okS S) (hau : au < 4) (hj : j < cU S) (hsl : ¬ (cO S) j < 0) (ht : tK S = true) (hr : zf (pLn (fA S) (nI 3) 4 ((cO S) j)) (mK S) < 0) (hi : zf (pLn (fA S) (nI 2) 4 ((cO S) j)) (mK S) < 0) (hf : 60 ≤ mK S) : zM E yX4_removeLine wsX4_removeLine 5 [.ref (a 0), .int (nI au), .int (nI 1), .int (nI j)] [((a 0), .inr (4, [.ref (a 1), .ref (a 3), .ref (a 5), .ref (a 6), .int (zb (tK S))])), ((a 1), .inr (2, [.ref (a 2), .int (nI (rU S))])), ((a 2), .inl (E.2.2.1, 12, .inl (rO S))), ((a 3), .inr (2, [.ref (a 4), .int (nI (cU S))])), ((a 4), .inl (E.2.2.1, 8, .inl (cO S))), ((a 5), .inl (E.2.2.1, 96, .inl (bS S))), ((a 6), .inr (0, [.ref (a 7), .int (nI (mK S))])), ((a 7), .inl (E.2.2.1, 360, .inl (fA S)))] [((a 0), .inr (4, [.ref (a 1), .ref (a 3), .ref (a 5), .ref (a 6), .int (zb (tK S))])), ((a 1), .inr (2, [.ref (a 2), .int (nI (rU S))])), ((a 2), .inl (E.2.2.1, 12, .inl (rO S))), ((a 3), .inr (2, [.ref (a 4), .int (nI (cU S))])), ((a 4), .inl (E.2.2.1, 8, .inl (cO S))), ((a 5), .inl (E.2.2.1, 96, .inl (bS S))), ((a 6), .inr (0, [.ref (a 7), .int (nI (mK S))])), ((a 7), .inl (E.2.2.1, 360, .inl (fA S)))] (some (.int (-3))) := by
  refine zM.of kX4_removeLine (Nat.le_of_ble_eq_true rfl) rfl [some (.ref (a 0)), some (.int (nI au)), some (.int (nI 1)), some (.int (nI j)), none, none] rfl (Nat.le_of_ble_eq_true rfl) ?_
  intro X eX C N
  subst eX
  obtain ⟨hur, huc, hM⟩ := id hS
  refine z_aload_n C 0 dX4_removeLine_0 rfl rfl ?_
  refine z_iload_n C 2 dX4_removeLine_1 rfl rfl ?_
  refine z_iload_n C 3 dX4_removeLine_2 rfl rfl ?_
  refine z_callVr C kX4_slotAt gX4_removeLine_X4_slotAt (mX4_slotAt_c_in X.2.1 a (rO S) (rU S) (cO S) (cU S) (bS S) (fA S) (mK S) (tK S) j hur huc hM hj) dX4_removeLine_3 [0, 1, 2, 3, 4, 5, 6, 7] [] 0 rfl nd_0_1_2_3_4_5_6_7 rfl rfl rfl (by decide) (by decide) (Nat.le_of_ble_eq_true rfl) rfl ?_
  refine z_istore C dX4_removeLine_6 (Nat.le_of_ble_eq_true rfl) ?_
  refine z_iload_n C 1 dX4_removeLine_8 rfl rfl ?_
  refine z_callN C kX5_isAuthor nst_X4_removeLine_61.1 gX4_removeLine_X5_isAuthor_n61 nst_X4_removeLine_61.2.1 nst_X4_removeLine_61.2.2 (mX5_isAuthor_in X.2.1 au hau) dX4_removeLine_9 [] rfl (by decide) (by decide) (Nat.le_of_ble_eq_true rfl) rfl ?_
  refine z_bif_eq_f C 20 dX4_removeLine_12 (by decide) rfl ?_
  refine z_iload C dX4_removeLine_15 rfl ?_
  refine z_if_ge_t C 22 dX4_removeLine_17 (by decide) (Int32.not_lt.mp hsl) ?_
  refine z_aload_n C 0 dX4_removeLine_22 rfl rfl ?_
  refine z_get C fX4_removeLine_34 0 dX4_removeLine_23 rfl rfl ?_
  refine z_bif_ne_t C 40 dX4_removeLine_26 (by decide) ht ?_
  refine z_aload_n C 0 dX4_removeLine_40 rfl rfl ?_
  refine z_get C fX4_removeLine_30 0 dX4_removeLine_41 rfl rfl ?_
  refine z_iload_n C 2 dX4_removeLine_44 rfl rfl ?_
  refine z_iload C dX4_removeLine_45 rfl ?_
  refine z_callVr C kX0_removalOf gX4_removeLine_X0_removalOf (mX0_removalOf_c X.2.1 (a 6) (a 7) (fA S) (mK S) ((cO S) j) hM) dX4_removeLine_47 [6, 7] [] 6 rfl nd_6_7 rfl rfl rfl (by decide) (by decide) (Nat.le_of_ble_eq_true rfl) rfl ?_
  refine z_if_lt_t C 56 dX4_removeLine_50 (by decide) hr ?_
  refine z_aload_n C 0 dX4_removeLine_56 rfl rfl ?_
  refine z_get C fX4_removeLine_30 0 dX4_removeLine_57 rfl rfl ?_
  refine z_iload_n C 2 dX4_removeLine_60 rfl rfl ?_
  refine z_iload C dX4_removeLine_61 rfl ?_
  refine z_callVr C kX0_insertionOf gX4_removeLine_X0_insertionOf (mX0_insertionOf_c X.2.1 (a 6) (a 7) (fA S) (mK S) ((cO S) j) hM) dX4_removeLine_63 [6, 7] [] 6 rfl nd_6_7 rfl rfl rfl (by decide) (by decide) (Nat.le_of_ble_eq_true rfl) rfl ?_
  refine z_istore C dX4_removeLine_66 (Nat.le_of_ble_eq_true rfl) ?_
  refine z_iload C dX4_removeLine_68 rfl ?_
  refine z_if_lt_t C 97 dX4_removeLine_70 (by decide) hi ?_
  refine z_aload_n C 0 dX4_removeLine_97 rfl rfl ?_
  refine z_get C fX4_removeLine_30 0 dX4_removeLine_98 rfl rfl ?_
  refine z_iload_n C 2 dX4_removeLine_101 rfl rfl ?_
  refine z_nif_ne_t C 109 dX4_removeLine_102 (by decide) (by omega) (by omega) ?_
  refine z_iconst C (nI 3) dX4_removeLine_109 (by decide) ?_
  refine z_iload_n C 1 dX4_removeLine_110 rfl rfl ?_
  refine z_iload C dX4_removeLine_111 rfl ?_
  refine z_callVr C kX0_addOfLine gX4_removeLine_X0_addOfLine (mX0_addOfLine_c_full X.2.1 (a 6) (a 7) (fA S) (mK S) 3 (nI au) ((cO S) j) (by first | assumption | omega) (by first | assumption | omega) (by first | assumption | omega)) dX4_removeLine_113 [6, 7] [] 6 rfl nd_6_7 rfl rfl rfl (by decide) (by decide) (Nat.le_of_ble_eq_true rfl) rfl ?_
  exact z_iret C N dX4_removeLine_116 (rfl) (rfl)

set_option maxHeartbeats 4000000 in
set_option maxRecDepth 100000 in
theorem mX4_removeLine_cmf (E : zE) (a : Nat → Nat) (S : zSt) (au j : Nat) (k : Nat) (hS : okS S) (hau : au < 4) (hj : j < cU S) (hsl : ¬ (cO S) j < 0) (ht : tK S = true) (hr : zf (pLn (fA S) (nI 3) 4 ((cO S) j)) (mK S) < 0) (hik : zf (pLn (fA S) (nI 2) 4 ((cO S) j)) (mK S) = nI k) (hk : k < mK S) (hby : ¬ fA S (6 * k + 1) = nI au) (hf : 60 ≤ mK S) : zM E yX4_removeLine wsX4_removeLine 5 [.ref (a 0), .int (nI au), .int (nI 1), .int (nI j)] [((a 0), .inr (4, [.ref (a 1), .ref (a 3), .ref (a 5), .ref (a 6), .int (zb (tK S))])), ((a 1), .inr (2, [.ref (a 2), .int (nI (rU S))])), ((a 2), .inl (E.2.2.1, 12, .inl (rO S))), ((a 3), .inr (2, [.ref (a 4), .int (nI (cU S))])), ((a 4), .inl (E.2.2.1, 8, .inl (cO S))), ((a 5), .inl (E.2.2.1, 96, .inl (bS S))), ((a 6), .inr (0, [.ref (a 7), .int (nI (mK S))])), ((a 7), .inl (E.2.2.1, 360, .inl (fA S)))] [((a 0), .inr (4, [.ref (a 1), .ref (a 3), .ref (a 5), .ref (a 6), .int (zb (tK S))])), ((a 1), .inr (2, [.ref (a 2), .int (nI (rU S))])), ((a 2), .inl (E.2.2.1, 12, .inl (rO S))), ((a 3), .inr (2, [.ref (a 4), .int (nI (cU S))])), ((a 4), .inl (E.2.2.1, 8, .inl (cO S))), ((a 5), .inl (E.2.2.1, 96, .inl (bS S))), ((a 6), .inr (0, [.ref (a 7), .int (nI (mK S))])), ((a 7), .inl (E.2.2.1, 360, .inl (fA S)))] (some (.int (-3))) := by
  refine zM.of kX4_removeLine (Nat.le_of_ble_eq_true rfl) rfl [some (.ref (a 0)), some (.int (nI au)), some (.int (nI 1)), some (.int (nI j)), none, none] rfl (Nat.le_of_ble_eq_true rfl) ?_
  intro X eX C N
  subst eX
  obtain ⟨hur, huc, hM⟩ := id hS
  refine z_aload_n C 0 dX4_removeLine_0 rfl rfl ?_
  refine z_iload_n C 2 dX4_removeLine_1 rfl rfl ?_
  refine z_iload_n C 3 dX4_removeLine_2 rfl rfl ?_
  refine z_callVr C kX4_slotAt gX4_removeLine_X4_slotAt (mX4_slotAt_c_in X.2.1 a (rO S) (rU S) (cO S) (cU S) (bS S) (fA S) (mK S) (tK S) j hur huc hM hj) dX4_removeLine_3 [0, 1, 2, 3, 4, 5, 6, 7] [] 0 rfl nd_0_1_2_3_4_5_6_7 rfl rfl rfl (by decide) (by decide) (Nat.le_of_ble_eq_true rfl) rfl ?_
  refine z_istore C dX4_removeLine_6 (Nat.le_of_ble_eq_true rfl) ?_
  refine z_iload_n C 1 dX4_removeLine_8 rfl rfl ?_
  refine z_callN C kX5_isAuthor nst_X4_removeLine_61.1 gX4_removeLine_X5_isAuthor_n61 nst_X4_removeLine_61.2.1 nst_X4_removeLine_61.2.2 (mX5_isAuthor_in X.2.1 au hau) dX4_removeLine_9 [] rfl (by decide) (by decide) (Nat.le_of_ble_eq_true rfl) rfl ?_
  refine z_bif_eq_f C 20 dX4_removeLine_12 (by decide) rfl ?_
  refine z_iload C dX4_removeLine_15 rfl ?_
  refine z_if_ge_t C 22 dX4_removeLine_17 (by decide) (Int32.not_lt.mp hsl) ?_
  refine z_aload_n C 0 dX4_removeLine_22 rfl rfl ?_
  refine z_get C fX4_removeLine_34 0 dX4_removeLine_23 rfl rfl ?_
  refine z_bif_ne_t C 40 dX4_removeLine_26 (by decide) ht ?_
  refine z_aload_n C 0 dX4_removeLine_40 rfl rfl ?_
  refine z_get C fX4_removeLine_30 0 dX4_removeLine_41 rfl rfl ?_
  refine z_iload_n C 2 dX4_removeLine_44 rfl rfl ?_
  refine z_iload C dX4_removeLine_45 rfl ?_
  refine z_callVr C kX0_removalOf gX4_removeLine_X0_removalOf (mX0_removalOf_c X.2.1 (a 6) (a 7) (fA S) (mK S) ((cO S) j) hM) dX4_removeLine_47 [6, 7] [] 6 rfl nd_6_7 rfl rfl rfl (by decide) (by decide) (Nat.le_of_ble_eq_true rfl) rfl ?_
  refine z_if_lt_t C 56 dX4_removeLine_50 (by decide) hr ?_
  refine z_aload_n C 0 dX4_removeLine_56 rfl rfl ?_
  refine z_get C fX4_removeLine_30 0 dX4_removeLine_57 rfl rfl ?_
  refine z_iload_n C 2 dX4_removeLine_60 rfl rfl ?_
  refine z_iload C dX4_removeLine_61 rfl ?_
  refine z_callVr C kX0_insertionOf gX4_removeLine_X0_insertionOf (mX0_insertionOf_c X.2.1 (a 6) (a 7) (fA S) (mK S) ((cO S) j) hM) dX4_removeLine_63 [6, 7] [] 6 rfl nd_6_7 rfl rfl rfl (by decide) (by decide) (Nat.le_of_ble_eq_true rfl) rfl ?_
  refine z_top (y := nI k) (hik) ?_
  refine z_istore C dX4_removeLine_66 (Nat.le_of_ble_eq_true rfl) ?_
  refine z_iload C dX4_removeLine_68 rfl ?_
  refine z_nif_lt_f C 97 dX4_removeLine_70 (by decide) (by omega) (by trivial) ?_
  refine z_aload_n C 0 dX4_removeLine_73 rfl rfl ?_
  refine z_get C fX4_removeLine_30 0 dX4_removeLine_74 rfl rfl ?_
  refine z_iload C dX4_removeLine_77 rfl ?_
  refine z_iconst C (nI 1) dX4_removeLine_79 (by decide) ?_
  refine z_callVr C kX0_fact gX4_removeLine_X0_fact (mX0_fact X.2.1 (a 6) (a 7) (fA S) (mK S) k 1 hM hk (by first | assumption | omega)) dX4_removeLine_80 [6, 7] [] 6 rfl nd_6_7 rfl rfl rfl (by decide) (by decide) (Nat.le_of_ble_eq_true rfl) rfl ?_
  refine z_iload_n C 1 dX4_removeLine_83 rfl rfl ?_
  refine z_icmp_ne_t C 97 dX4_removeLine_84 (by decide) hby ?_
  refine z_aload_n C 0 dX4_removeLine_97 rfl rfl ?_
  refine z_get C fX4_removeLine_30 0 dX4_removeLine_98 rfl rfl ?_
  refine z_iload_n C 2 dX4_removeLine_101 rfl rfl ?_
  refine z_nif_ne_t C 109 dX4_removeLine_102 (by decide) (by omega) (by omega) ?_
  refine z_iconst C (nI 3) dX4_removeLine_109 (by decide) ?_
  refine z_iload_n C 1 dX4_removeLine_110 rfl rfl ?_
  refine z_iload C dX4_removeLine_111 rfl ?_
  refine z_callVr C kX0_addOfLine gX4_removeLine_X0_addOfLine (mX0_addOfLine_c_full X.2.1 (a 6) (a 7) (fA S) (mK S) 3 (nI au) ((cO S) j) (by first | assumption | omega) (by first | assumption | omega) (by first | assumption | omega)) dX4_removeLine_113 [6, 7] [] 6 rfl nd_6_7 rfl rfl rfl (by decide) (by decide) (Nat.le_of_ble_eq_true rfl) rfl ?_
  exact z_iret C N dX4_removeLine_116 (rfl) (rfl)

set_option maxHeartbeats 4000000 in
set_option maxRecDepth 100000 in
theorem mX4_removeLine_cnt (E : zE) (a : Nat → Nat) (S : zSt) (au j : Nat) (hS : okS S) (hau : au < 4) (hj : j < cU S) (hsl : ¬ (cO S) j < 0) (ht : tK S = true) (hr : zf (pLn (fA S) (nI 3) 4 ((cO S) j)) (mK S) < 0) (hi : zf (pLn (fA S) (nI 2) 4 ((cO S) j)) (mK S) < 0) (hf : mK S < 60) : zM E yX4_removeLine wsX4_removeLine 5 [.ref (a 0), .int (nI au), .int (nI 1), .int (nI j)] [((a 0), .inr (4, [.ref (a 1), .ref (a 3), .ref (a 5), .ref (a 6), .int (zb (tK S))])), ((a 1), .inr (2, [.ref (a 2), .int (nI (rU S))])), ((a 2), .inl (E.2.2.1, 12, .inl (rO S))), ((a 3), .inr (2, [.ref (a 4), .int (nI (cU S))])), ((a 4), .inl (E.2.2.1, 8, .inl (cO S))), ((a 5), .inl (E.2.2.1, 96, .inl (bS S))), ((a 6), .inr (0, [.ref (a 7), .int (nI (mK S))])), ((a 7), .inl (E.2.2.1, 360, .inl (fA S)))] [((a 0), .inr (4, [.ref (a 1), .ref (a 3), .ref (a 5), .ref (a 6), .int (zb (tK (zNew S (nI 3) (nI au) (-5) ((cO S) j) (-5))))])), ((a 1), .inr (2, [.ref (a 2), .int (nI (rU (zNew S (nI 3) (nI au) (-5) ((cO S) j) (-5))))])), ((a 2), .inl (E.2.2.1, 12, .inl (rO (zNew S (nI 3) (nI au) (-5) ((cO S) j) (-5))))), ((a 3), .inr (2, [.ref (a 4), .int (nI (cU (zNew S (nI 3) (nI au) (-5) ((cO S) j) (-5))))])), ((a 4), .inl (E.2.2.1, 8, .inl (cO (zNew S (nI 3) (nI au) (-5) ((cO S) j) (-5))))), ((a 5), .inl (E.2.2.1, 96, .inl (bS (zNew S (nI 3) (nI au) (-5) ((cO S) j) (-5))))), ((a 6), .inr (0, [.ref (a 7), .int (nI (mK (zNew S (nI 3) (nI au) (-5) ((cO S) j) (-5))))])), ((a 7), .inl (E.2.2.1, 360, .inl (fA (zNew S (nI 3) (nI au) (-5) ((cO S) j) (-5)))))] (some (.int (nI (mK S)))) := by
  refine zM.of kX4_removeLine (Nat.le_of_ble_eq_true rfl) rfl [some (.ref (a 0)), some (.int (nI au)), some (.int (nI 1)), some (.int (nI j)), none, none] rfl (Nat.le_of_ble_eq_true rfl) ?_
  intro X eX C N
  subst eX
  obtain ⟨hur, huc, hM⟩ := id hS
  refine z_aload_n C 0 dX4_removeLine_0 rfl rfl ?_
  refine z_iload_n C 2 dX4_removeLine_1 rfl rfl ?_
  refine z_iload_n C 3 dX4_removeLine_2 rfl rfl ?_
  refine z_callVr C kX4_slotAt gX4_removeLine_X4_slotAt (mX4_slotAt_c_in X.2.1 a (rO S) (rU S) (cO S) (cU S) (bS S) (fA S) (mK S) (tK S) j hur huc hM hj) dX4_removeLine_3 [0, 1, 2, 3, 4, 5, 6, 7] [] 0 rfl nd_0_1_2_3_4_5_6_7 rfl rfl rfl (by decide) (by decide) (Nat.le_of_ble_eq_true rfl) rfl ?_
  refine z_istore C dX4_removeLine_6 (Nat.le_of_ble_eq_true rfl) ?_
  refine z_iload_n C 1 dX4_removeLine_8 rfl rfl ?_
  refine z_callN C kX5_isAuthor nst_X4_removeLine_61.1 gX4_removeLine_X5_isAuthor_n61 nst_X4_removeLine_61.2.1 nst_X4_removeLine_61.2.2 (mX5_isAuthor_in X.2.1 au hau) dX4_removeLine_9 [] rfl (by decide) (by decide) (Nat.le_of_ble_eq_true rfl) rfl ?_
  refine z_bif_eq_f C 20 dX4_removeLine_12 (by decide) rfl ?_
  refine z_iload C dX4_removeLine_15 rfl ?_
  refine z_if_ge_t C 22 dX4_removeLine_17 (by decide) (Int32.not_lt.mp hsl) ?_
  refine z_aload_n C 0 dX4_removeLine_22 rfl rfl ?_
  refine z_get C fX4_removeLine_34 0 dX4_removeLine_23 rfl rfl ?_
  refine z_bif_ne_t C 40 dX4_removeLine_26 (by decide) ht ?_
  refine z_aload_n C 0 dX4_removeLine_40 rfl rfl ?_
  refine z_get C fX4_removeLine_30 0 dX4_removeLine_41 rfl rfl ?_
  refine z_iload_n C 2 dX4_removeLine_44 rfl rfl ?_
  refine z_iload C dX4_removeLine_45 rfl ?_
  refine z_callVr C kX0_removalOf gX4_removeLine_X0_removalOf (mX0_removalOf_c X.2.1 (a 6) (a 7) (fA S) (mK S) ((cO S) j) hM) dX4_removeLine_47 [6, 7] [] 6 rfl nd_6_7 rfl rfl rfl (by decide) (by decide) (Nat.le_of_ble_eq_true rfl) rfl ?_
  refine z_if_lt_t C 56 dX4_removeLine_50 (by decide) hr ?_
  refine z_aload_n C 0 dX4_removeLine_56 rfl rfl ?_
  refine z_get C fX4_removeLine_30 0 dX4_removeLine_57 rfl rfl ?_
  refine z_iload_n C 2 dX4_removeLine_60 rfl rfl ?_
  refine z_iload C dX4_removeLine_61 rfl ?_
  refine z_callVr C kX0_insertionOf gX4_removeLine_X0_insertionOf (mX0_insertionOf_c X.2.1 (a 6) (a 7) (fA S) (mK S) ((cO S) j) hM) dX4_removeLine_63 [6, 7] [] 6 rfl nd_6_7 rfl rfl rfl (by decide) (by decide) (Nat.le_of_ble_eq_true rfl) rfl ?_
  refine z_istore C dX4_removeLine_66 (Nat.le_of_ble_eq_true rfl) ?_
  refine z_iload C dX4_removeLine_68 rfl ?_
  refine z_if_lt_t C 97 dX4_removeLine_70 (by decide) hi ?_
  refine z_aload_n C 0 dX4_removeLine_97 rfl rfl ?_
  refine z_get C fX4_removeLine_30 0 dX4_removeLine_98 rfl rfl ?_
  refine z_iload_n C 2 dX4_removeLine_101 rfl rfl ?_
  refine z_nif_ne_t C 109 dX4_removeLine_102 (by decide) (by omega) (by omega) ?_
  refine z_iconst C (nI 3) dX4_removeLine_109 (by decide) ?_
  refine z_iload_n C 1 dX4_removeLine_110 rfl rfl ?_
  refine z_iload C dX4_removeLine_111 rfl ?_
  refine z_callV (wn := [((a 0), .inr (4, [.ref (a 1), .ref (a 3), .ref (a 5), .ref (a 6), .int (zb (tK S))])), ((a 1), .inr (2, [.ref (a 2), .int (nI (rU S))])), ((a 2), .inl (X.2.1.2.2.1, 12, .inl (rO S))), ((a 3), .inr (2, [.ref (a 4), .int (nI (cU S))])), ((a 4), .inl (X.2.1.2.2.1, 8, .inl (cO S))), ((a 5), .inl (X.2.1.2.2.1, 96, .inl (bS S))), ((a 6), .inr (0, [.ref (a 7), .int (nI ((mK S) + 1))])), ((a 7), .inl (X.2.1.2.2.1, 360, .inl (zAdd (fA S) (mK S) (nI 3) (nI au) (-5) ((cO S) j) (-5))))]) C kX0_addOfLine gX4_removeLine_X0_addOfLine (mX0_addOfLine_c X.2.1 (a 6) (a 7) (fA S) (mK S) 3 (nI au) ((cO S) j) hf (by first | assumption | omega) (by first | assumption | omega)) dX4_removeLine_113 [6, 7] [] 6 rfl rfl nd_6_7 rfl rfl rfl (by decide) (by decide) (Nat.le_of_ble_eq_true rfl) rfl rfl ?_
  exact z_iret C N dX4_removeLine_116 (rfl) (rfl)

set_option maxHeartbeats 4000000 in
set_option maxRecDepth 100000 in
theorem mX4_removeLine_cmt (E : zE) (a : Nat → Nat) (S : zSt) (au j : Nat) (k : Nat) (hS : okS S) (hau : au < 4) (hj : j < cU S) (hsl : ¬ (cO S) j < 0) (ht : tK S = true) (hr : zf (pLn (fA S) (nI 3) 4 ((cO S) j)) (mK S) < 0) (hik : zf (pLn (fA S) (nI 2) 4 ((cO S) j)) (mK S) = nI k) (hk : k < mK S) (hby : ¬ fA S (6 * k + 1) = nI au) (hf : mK S < 60) : zM E yX4_removeLine wsX4_removeLine 5 [.ref (a 0), .int (nI au), .int (nI 1), .int (nI j)] [((a 0), .inr (4, [.ref (a 1), .ref (a 3), .ref (a 5), .ref (a 6), .int (zb (tK S))])), ((a 1), .inr (2, [.ref (a 2), .int (nI (rU S))])), ((a 2), .inl (E.2.2.1, 12, .inl (rO S))), ((a 3), .inr (2, [.ref (a 4), .int (nI (cU S))])), ((a 4), .inl (E.2.2.1, 8, .inl (cO S))), ((a 5), .inl (E.2.2.1, 96, .inl (bS S))), ((a 6), .inr (0, [.ref (a 7), .int (nI (mK S))])), ((a 7), .inl (E.2.2.1, 360, .inl (fA S)))] [((a 0), .inr (4, [.ref (a 1), .ref (a 3), .ref (a 5), .ref (a 6), .int (zb (tK (zNew S (nI 3) (nI au) (-5) ((cO S) j) (-5))))])), ((a 1), .inr (2, [.ref (a 2), .int (nI (rU (zNew S (nI 3) (nI au) (-5) ((cO S) j) (-5))))])), ((a 2), .inl (E.2.2.1, 12, .inl (rO (zNew S (nI 3) (nI au) (-5) ((cO S) j) (-5))))), ((a 3), .inr (2, [.ref (a 4), .int (nI (cU (zNew S (nI 3) (nI au) (-5) ((cO S) j) (-5))))])), ((a 4), .inl (E.2.2.1, 8, .inl (cO (zNew S (nI 3) (nI au) (-5) ((cO S) j) (-5))))), ((a 5), .inl (E.2.2.1, 96, .inl (bS (zNew S (nI 3) (nI au) (-5) ((cO S) j) (-5))))), ((a 6), .inr (0, [.ref (a 7), .int (nI (mK (zNew S (nI 3) (nI au) (-5) ((cO S) j) (-5))))])), ((a 7), .inl (E.2.2.1, 360, .inl (fA (zNew S (nI 3) (nI au) (-5) ((cO S) j) (-5)))))] (some (.int (nI (mK S)))) := by
  refine zM.of kX4_removeLine (Nat.le_of_ble_eq_true rfl) rfl [some (.ref (a 0)), some (.int (nI au)), some (.int (nI 1)), some (.int (nI j)), none, none] rfl (Nat.le_of_ble_eq_true rfl) ?_
  intro X eX C N
  subst eX
  obtain ⟨hur, huc, hM⟩ := id hS
  refine z_aload_n C 0 dX4_removeLine_0 rfl rfl ?_
  refine z_iload_n C 2 dX4_removeLine_1 rfl rfl ?_
  refine z_iload_n C 3 dX4_removeLine_2 rfl rfl ?_
  refine z_callVr C kX4_slotAt gX4_removeLine_X4_slotAt (mX4_slotAt_c_in X.2.1 a (rO S) (rU S) (cO S) (cU S) (bS S) (fA S) (mK S) (tK S) j hur huc hM hj) dX4_removeLine_3 [0, 1, 2, 3, 4, 5, 6, 7] [] 0 rfl nd_0_1_2_3_4_5_6_7 rfl rfl rfl (by decide) (by decide) (Nat.le_of_ble_eq_true rfl) rfl ?_
  refine z_istore C dX4_removeLine_6 (Nat.le_of_ble_eq_true rfl) ?_
  refine z_iload_n C 1 dX4_removeLine_8 rfl rfl ?_
  refine z_callN C kX5_isAuthor nst_X4_removeLine_61.1 gX4_removeLine_X5_isAuthor_n61 nst_X4_removeLine_61.2.1 nst_X4_removeLine_61.2.2 (mX5_isAuthor_in X.2.1 au hau) dX4_removeLine_9 [] rfl (by decide) (by decide) (Nat.le_of_ble_eq_true rfl) rfl ?_
  refine z_bif_eq_f C 20 dX4_removeLine_12 (by decide) rfl ?_
  refine z_iload C dX4_removeLine_15 rfl ?_
  refine z_if_ge_t C 22 dX4_removeLine_17 (by decide) (Int32.not_lt.mp hsl) ?_
  refine z_aload_n C 0 dX4_removeLine_22 rfl rfl ?_
  refine z_get C fX4_removeLine_34 0 dX4_removeLine_23 rfl rfl ?_
  refine z_bif_ne_t C 40 dX4_removeLine_26 (by decide) ht ?_
  refine z_aload_n C 0 dX4_removeLine_40 rfl rfl ?_
  refine z_get C fX4_removeLine_30 0 dX4_removeLine_41 rfl rfl ?_
  refine z_iload_n C 2 dX4_removeLine_44 rfl rfl ?_
  refine z_iload C dX4_removeLine_45 rfl ?_
  refine z_callVr C kX0_removalOf gX4_removeLine_X0_removalOf (mX0_removalOf_c X.2.1 (a 6) (a 7) (fA S) (mK S) ((cO S) j) hM) dX4_removeLine_47 [6, 7] [] 6 rfl nd_6_7 rfl rfl rfl (by decide) (by decide) (Nat.le_of_ble_eq_true rfl) rfl ?_
  refine z_if_lt_t C 56 dX4_removeLine_50 (by decide) hr ?_
  refine z_aload_n C 0 dX4_removeLine_56 rfl rfl ?_
  refine z_get C fX4_removeLine_30 0 dX4_removeLine_57 rfl rfl ?_
  refine z_iload_n C 2 dX4_removeLine_60 rfl rfl ?_
  refine z_iload C dX4_removeLine_61 rfl ?_
  refine z_callVr C kX0_insertionOf gX4_removeLine_X0_insertionOf (mX0_insertionOf_c X.2.1 (a 6) (a 7) (fA S) (mK S) ((cO S) j) hM) dX4_removeLine_63 [6, 7] [] 6 rfl nd_6_7 rfl rfl rfl (by decide) (by decide) (Nat.le_of_ble_eq_true rfl) rfl ?_
  refine z_top (y := nI k) (hik) ?_
  refine z_istore C dX4_removeLine_66 (Nat.le_of_ble_eq_true rfl) ?_
  refine z_iload C dX4_removeLine_68 rfl ?_
  refine z_nif_lt_f C 97 dX4_removeLine_70 (by decide) (by omega) (by trivial) ?_
  refine z_aload_n C 0 dX4_removeLine_73 rfl rfl ?_
  refine z_get C fX4_removeLine_30 0 dX4_removeLine_74 rfl rfl ?_
  refine z_iload C dX4_removeLine_77 rfl ?_
  refine z_iconst C (nI 1) dX4_removeLine_79 (by decide) ?_
  refine z_callVr C kX0_fact gX4_removeLine_X0_fact (mX0_fact X.2.1 (a 6) (a 7) (fA S) (mK S) k 1 hM hk (by first | assumption | omega)) dX4_removeLine_80 [6, 7] [] 6 rfl nd_6_7 rfl rfl rfl (by decide) (by decide) (Nat.le_of_ble_eq_true rfl) rfl ?_
  refine z_iload_n C 1 dX4_removeLine_83 rfl rfl ?_
  refine z_icmp_ne_t C 97 dX4_removeLine_84 (by decide) hby ?_
  refine z_aload_n C 0 dX4_removeLine_97 rfl rfl ?_
  refine z_get C fX4_removeLine_30 0 dX4_removeLine_98 rfl rfl ?_
  refine z_iload_n C 2 dX4_removeLine_101 rfl rfl ?_
  refine z_nif_ne_t C 109 dX4_removeLine_102 (by decide) (by omega) (by omega) ?_
  refine z_iconst C (nI 3) dX4_removeLine_109 (by decide) ?_
  refine z_iload_n C 1 dX4_removeLine_110 rfl rfl ?_
  refine z_iload C dX4_removeLine_111 rfl ?_
  refine z_callV (wn := [((a 0), .inr (4, [.ref (a 1), .ref (a 3), .ref (a 5), .ref (a 6), .int (zb (tK S))])), ((a 1), .inr (2, [.ref (a 2), .int (nI (rU S))])), ((a 2), .inl (X.2.1.2.2.1, 12, .inl (rO S))), ((a 3), .inr (2, [.ref (a 4), .int (nI (cU S))])), ((a 4), .inl (X.2.1.2.2.1, 8, .inl (cO S))), ((a 5), .inl (X.2.1.2.2.1, 96, .inl (bS S))), ((a 6), .inr (0, [.ref (a 7), .int (nI ((mK S) + 1))])), ((a 7), .inl (X.2.1.2.2.1, 360, .inl (zAdd (fA S) (mK S) (nI 3) (nI au) (-5) ((cO S) j) (-5))))]) C kX0_addOfLine gX4_removeLine_X0_addOfLine (mX0_addOfLine_c X.2.1 (a 6) (a 7) (fA S) (mK S) 3 (nI au) ((cO S) j) hf (by first | assumption | omega) (by first | assumption | omega)) dX4_removeLine_113 [6, 7] [] 6 rfl rfl nd_6_7 rfl rfl rfl (by decide) (by decide) (Nat.le_of_ble_eq_true rfl) rfl rfl ?_
  exact z_iret C N dX4_removeLine_116 (rfl) (rfl)

theorem kX4_setAgain : zY yX4_setAgain wsX4_setAgain cX4_setAgain 4 (some .int) 3 := ⟨⟨_, rfl⟩, ⟨by decide +kernel, by decide +kernel, by decide +kernel⟩, by decide +kernel⟩
theorem fX4_setAgain_30 : zF wsX4_setAgain RX4 30 4 3 RX4 TX4 5 := ⟨by decide +kernel, rfl, by decide, by decide +kernel, rfl⟩
set_option maxHeartbeats 4000000 in
set_option maxRecDepth 100000 in
theorem mX4_setAgain_d (E : zE) (a : Nat → Nat) (S : zSt) (k : Nat) (bl v : Int32) (hS : okS S) (hk : k < mK S) (hv : bl = v) : zM E yX4_setAgain wsX4_setAgain 2 [.ref (a 0), .int (nI k), .int bl, .int v] [((a 0), .inr (4, [.ref (a 1), .ref (a 3), .ref (a 5), .ref (a 6), .int (zb (tK S))])), ((a 1), .inr (2, [.ref (a 2), .int (nI (rU S))])), ((a 2), .inl (E.2.2.1, 12, .inl (rO S))), ((a 3), .inr (2, [.ref (a 4), .int (nI (cU S))])), ((a 4), .inl (E.2.2.1, 8, .inl (cO S))), ((a 5), .inl (E.2.2.1, 96, .inl (bS S))), ((a 6), .inr (0, [.ref (a 7), .int (nI (mK S))])), ((a 7), .inl (E.2.2.1, 360, .inl (fA S)))] [((a 0), .inr (4, [.ref (a 1), .ref (a 3), .ref (a 5), .ref (a 6), .int (zb (tK (zFa S (upd (upd (fA S) (6 * k + 2) (nI 3)) (6 * k + 5) v))))])), ((a 1), .inr (2, [.ref (a 2), .int (nI (rU (zFa S (upd (upd (fA S) (6 * k + 2) (nI 3)) (6 * k + 5) v))))])), ((a 2), .inl (E.2.2.1, 12, .inl (rO (zFa S (upd (upd (fA S) (6 * k + 2) (nI 3)) (6 * k + 5) v))))), ((a 3), .inr (2, [.ref (a 4), .int (nI (cU (zFa S (upd (upd (fA S) (6 * k + 2) (nI 3)) (6 * k + 5) v))))])), ((a 4), .inl (E.2.2.1, 8, .inl (cO (zFa S (upd (upd (fA S) (6 * k + 2) (nI 3)) (6 * k + 5) v))))), ((a 5), .inl (E.2.2.1, 96, .inl (bS (zFa S (upd (upd (fA S) (6 * k + 2) (nI 3)) (6 * k + 5) v))))), ((a 6), .inr (0, [.ref (a 7), .int (nI (mK (zFa S (upd (upd (fA S) (6 * k + 2) (nI 3)) (6 * k + 5) v))))])), ((a 7), .inl (E.2.2.1, 360, .inl (fA (zFa S (upd (upd (fA S) (6 * k + 2) (nI 3)) (6 * k + 5) v)))))] (some (.int (nI k))) := by
  refine zM.of kX4_setAgain (Nat.le_of_ble_eq_true rfl) rfl [some (.ref (a 0)), some (.int (nI k)), some (.int bl), some (.int v)] rfl (Nat.le_of_ble_eq_true rfl) ?_
  intro X eX C N
  subst eX
  obtain ⟨hur, huc, hM⟩ := id hS
  refine z_iload_n C 2 dX4_setAgain_0 rfl rfl ?_
  refine z_iload_n C 3 dX4_setAgain_1 rfl rfl ?_
  refine z_icmp_ne_f C 15 dX4_setAgain_2 (by decide) hv ?_
  refine z_aload_n C 0 dX4_setAgain_5 rfl rfl ?_
  refine z_get C fX4_setAgain_30 0 dX4_setAgain_6 rfl rfl ?_
  refine z_iload_n C 1 dX4_setAgain_9 rfl rfl ?_
  refine z_iconst C (nI 2) dX4_setAgain_10 (by decide) ?_
  refine z_iconst C (nI 3) dX4_setAgain_11 (by decide) ?_
  refine z_callVv (wn := [((a 0), .inr (4, [.ref (a 1), .ref (a 3), .ref (a 5), .ref (a 6), .int (zb (tK S))])), ((a 1), .inr (2, [.ref (a 2), .int (nI (rU S))])), ((a 2), .inl (X.2.1.2.2.1, 12, .inl (rO S))), ((a 3), .inr (2, [.ref (a 4), .int (nI (cU S))])), ((a 4), .inl (X.2.1.2.2.1, 8, .inl (cO S))), ((a 5), .inl (X.2.1.2.2.1, 96, .inl (bS S))), ((a 6), .inr (0, [.ref (a 7), .int (nI (mK S))])), ((a 7), .inl (X.2.1.2.2.1, 360, .inl (upd (fA S) (6 * k + 2) (nI 3))))]) C kX0_put gX4_setAgain_X0_put (mX0_put X.2.1 (a 6) (a 7) (fA S) (mK S) k 2 (nI 3) hM hk (by first | assumption | omega)) dX4_setAgain_12 [6, 7] [] 6 rfl rfl nd_6_7 rfl rfl rfl (by decide) (by decide) (Nat.le_of_ble_eq_true rfl) rfl rfl ?_
  refine z_aload_n C 0 dX4_setAgain_15 rfl rfl ?_
  refine z_get C fX4_setAgain_30 0 dX4_setAgain_16 rfl rfl ?_
  refine z_iload_n C 1 dX4_setAgain_19 rfl rfl ?_
  refine z_iconst C (nI 5) dX4_setAgain_20 (by decide) ?_
  refine z_iload_n C 3 dX4_setAgain_21 rfl rfl ?_
  refine z_callVv (wn := [((a 0), .inr (4, [.ref (a 1), .ref (a 3), .ref (a 5), .ref (a 6), .int (zb (tK S))])), ((a 1), .inr (2, [.ref (a 2), .int (nI (rU S))])), ((a 2), .inl (X.2.1.2.2.1, 12, .inl (rO S))), ((a 3), .inr (2, [.ref (a 4), .int (nI (cU S))])), ((a 4), .inl (X.2.1.2.2.1, 8, .inl (cO S))), ((a 5), .inl (X.2.1.2.2.1, 96, .inl (bS S))), ((a 6), .inr (0, [.ref (a 7), .int (nI (mK S))])), ((a 7), .inl (X.2.1.2.2.1, 360, .inl (upd (upd (fA S) (6 * k + 2) (nI 3)) (6 * k + 5) v)))]) C kX0_put gX4_setAgain_X0_put (mX0_put X.2.1 (a 6) (a 7) (upd (fA S) (6 * k + 2) (nI 3)) (mK S) k 5 v hM hk (by first | assumption | omega)) dX4_setAgain_22 [6, 7] [] 6 rfl rfl nd_6_7 rfl rfl rfl (by decide) (by decide) (Nat.le_of_ble_eq_true rfl) rfl rfl ?_
  refine z_iload_n C 1 dX4_setAgain_25 rfl rfl ?_
  exact z_iret C N dX4_setAgain_26 (rfl) (rfl)

set_option maxHeartbeats 4000000 in
set_option maxRecDepth 100000 in
theorem mX4_setAgain_v (E : zE) (a : Nat → Nat) (S : zSt) (k : Nat) (bl v : Int32) (hS : okS S) (hk : k < mK S) (hv : ¬ bl = v) : zM E yX4_setAgain wsX4_setAgain 2 [.ref (a 0), .int (nI k), .int bl, .int v] [((a 0), .inr (4, [.ref (a 1), .ref (a 3), .ref (a 5), .ref (a 6), .int (zb (tK S))])), ((a 1), .inr (2, [.ref (a 2), .int (nI (rU S))])), ((a 2), .inl (E.2.2.1, 12, .inl (rO S))), ((a 3), .inr (2, [.ref (a 4), .int (nI (cU S))])), ((a 4), .inl (E.2.2.1, 8, .inl (cO S))), ((a 5), .inl (E.2.2.1, 96, .inl (bS S))), ((a 6), .inr (0, [.ref (a 7), .int (nI (mK S))])), ((a 7), .inl (E.2.2.1, 360, .inl (fA S)))] [((a 0), .inr (4, [.ref (a 1), .ref (a 3), .ref (a 5), .ref (a 6), .int (zb (tK (zFa S (upd (fA S) (6 * k + 5) v))))])), ((a 1), .inr (2, [.ref (a 2), .int (nI (rU (zFa S (upd (fA S) (6 * k + 5) v))))])), ((a 2), .inl (E.2.2.1, 12, .inl (rO (zFa S (upd (fA S) (6 * k + 5) v))))), ((a 3), .inr (2, [.ref (a 4), .int (nI (cU (zFa S (upd (fA S) (6 * k + 5) v))))])), ((a 4), .inl (E.2.2.1, 8, .inl (cO (zFa S (upd (fA S) (6 * k + 5) v))))), ((a 5), .inl (E.2.2.1, 96, .inl (bS (zFa S (upd (fA S) (6 * k + 5) v))))), ((a 6), .inr (0, [.ref (a 7), .int (nI (mK (zFa S (upd (fA S) (6 * k + 5) v))))])), ((a 7), .inl (E.2.2.1, 360, .inl (fA (zFa S (upd (fA S) (6 * k + 5) v)))))] (some (.int (nI k))) := by
  refine zM.of kX4_setAgain (Nat.le_of_ble_eq_true rfl) rfl [some (.ref (a 0)), some (.int (nI k)), some (.int bl), some (.int v)] rfl (Nat.le_of_ble_eq_true rfl) ?_
  intro X eX C N
  subst eX
  obtain ⟨hur, huc, hM⟩ := id hS
  refine z_iload_n C 2 dX4_setAgain_0 rfl rfl ?_
  refine z_iload_n C 3 dX4_setAgain_1 rfl rfl ?_
  refine z_icmp_ne_t C 15 dX4_setAgain_2 (by decide) hv ?_
  refine z_aload_n C 0 dX4_setAgain_15 rfl rfl ?_
  refine z_get C fX4_setAgain_30 0 dX4_setAgain_16 rfl rfl ?_
  refine z_iload_n C 1 dX4_setAgain_19 rfl rfl ?_
  refine z_iconst C (nI 5) dX4_setAgain_20 (by decide) ?_
  refine z_iload_n C 3 dX4_setAgain_21 rfl rfl ?_
  refine z_callVv (wn := [((a 0), .inr (4, [.ref (a 1), .ref (a 3), .ref (a 5), .ref (a 6), .int (zb (tK S))])), ((a 1), .inr (2, [.ref (a 2), .int (nI (rU S))])), ((a 2), .inl (X.2.1.2.2.1, 12, .inl (rO S))), ((a 3), .inr (2, [.ref (a 4), .int (nI (cU S))])), ((a 4), .inl (X.2.1.2.2.1, 8, .inl (cO S))), ((a 5), .inl (X.2.1.2.2.1, 96, .inl (bS S))), ((a 6), .inr (0, [.ref (a 7), .int (nI (mK S))])), ((a 7), .inl (X.2.1.2.2.1, 360, .inl (upd (fA S) (6 * k + 5) v)))]) C kX0_put gX4_setAgain_X0_put (mX0_put X.2.1 (a 6) (a 7) (fA S) (mK S) k 5 v hM hk (by first | assumption | omega)) dX4_setAgain_22 [6, 7] [] 6 rfl rfl nd_6_7 rfl rfl rfl (by decide) (by decide) (Nat.le_of_ble_eq_true rfl) rfl rfl ?_
  refine z_iload_n C 1 dX4_setAgain_25 rfl rfl ?_
  exact z_iret C N dX4_setAgain_26 (rfl) (rfl)

theorem kX4_setCell : zY yX4_setCell wsX4_setCell cX4_setCell 8 (some .int) 4 := ⟨⟨_, rfl⟩, ⟨by decide +kernel, by decide +kernel, by decide +kernel⟩, by decide +kernel⟩
theorem fX4_setCell_14 : zF wsX4_setCell RX4 14 4 0 RX4 TX4 5 := ⟨by decide +kernel, rfl, by decide, by decide +kernel, rfl⟩
theorem fX4_setCell_20 : zF wsX4_setCell RX4 20 4 1 RX4 TX4 5 := ⟨by decide +kernel, rfl, by decide, by decide +kernel, rfl⟩
theorem nst_X4_setCell_61 : (RX4, 61, yX5_isAuthor, RX5) ∈ zNest ∧ Cond.initialized RX5 ∈ wsX4_setCell ∧ Cond.static yX5_isAuthor ∈ wsX4_setCell := ⟨by decide +kernel, by decide +kernel, by decide +kernel⟩
set_option maxHeartbeats 4000000 in
set_option maxRecDepth 100000 in
theorem mX4_setCell_b1 (E : zE) (a : Nat → Nat) (S : zSt) (au r c v : Int32) (hS : okS S) (hx : au < 0 ∨ (¬ au < 0 ∧ nI 4 ≤ au)) : zM E yX4_setCell wsX4_setCell 5 [.ref (a 0), .int au, .int r, .int c, .int v] [((a 0), .inr (4, [.ref (a 1), .ref (a 3), .ref (a 5), .ref (a 6), .int (zb (tK S))])), ((a 1), .inr (2, [.ref (a 2), .int (nI (rU S))])), ((a 2), .inl (E.2.2.1, 12, .inl (rO S))), ((a 3), .inr (2, [.ref (a 4), .int (nI (cU S))])), ((a 4), .inl (E.2.2.1, 8, .inl (cO S))), ((a 5), .inl (E.2.2.1, 96, .inl (bS S))), ((a 6), .inr (0, [.ref (a 7), .int (nI (mK S))])), ((a 7), .inl (E.2.2.1, 360, .inl (fA S)))] [((a 0), .inr (4, [.ref (a 1), .ref (a 3), .ref (a 5), .ref (a 6), .int (zb (tK S))])), ((a 1), .inr (2, [.ref (a 2), .int (nI (rU S))])), ((a 2), .inl (E.2.2.1, 12, .inl (rO S))), ((a 3), .inr (2, [.ref (a 4), .int (nI (cU S))])), ((a 4), .inl (E.2.2.1, 8, .inl (cO S))), ((a 5), .inl (E.2.2.1, 96, .inl (bS S))), ((a 6), .inr (0, [.ref (a 7), .int (nI (mK S))])), ((a 7), .inl (E.2.2.1, 360, .inl (fA S)))] (some (.int (-1))) := by
  refine zM.of kX4_setCell (Nat.le_of_ble_eq_true rfl) rfl [some (.ref (a 0)), some (.int au), some (.int r), some (.int c), some (.int v), none, none, none] rfl (Nat.le_of_ble_eq_true rfl) ?_
  intro X eX C N
  subst eX
  obtain ⟨hur, huc, hM⟩ := id hS
  refine z_aload_n C 0 dX4_setCell_0 rfl rfl ?_
  refine z_get C fX4_setCell_14 0 dX4_setCell_1 rfl rfl ?_
  refine z_iload_n C 2 dX4_setCell_4 rfl rfl ?_
  refine z_callVr C kX2_slotAt gX4_setCell_X2_slotAt (mX2_slotAt X.2.1 (a 1) (a 2) 12 (rO S) (rU S) r (by first | assumption | omega) hur) dX4_setCell_5 [1, 2] [] 1 rfl nd_1_2 rfl rfl rfl (by decide) (by decide) (Nat.le_of_ble_eq_true rfl) rfl ?_
  refine z_istore C dX4_setCell_8 (Nat.le_of_ble_eq_true rfl) ?_
  refine z_aload_n C 0 dX4_setCell_10 rfl rfl ?_
  refine z_get C fX4_setCell_20 0 dX4_setCell_11 rfl rfl ?_
  refine z_iload_n C 3 dX4_setCell_14 rfl rfl ?_
  refine z_callVr C kX2_slotAt gX4_setCell_X2_slotAt (mX2_slotAt X.2.1 (a 3) (a 4) 8 (cO S) (cU S) c (by first | assumption | omega) huc) dX4_setCell_15 [3, 4] [] 3 rfl nd_3_4 rfl rfl rfl (by decide) (by decide) (Nat.le_of_ble_eq_true rfl) rfl ?_
  refine z_istore C dX4_setCell_18 (Nat.le_of_ble_eq_true rfl) ?_
  refine z_iload_n C 1 dX4_setCell_20 rfl rfl ?_
  refine z_callN C kX5_isAuthor nst_X4_setCell_61.1 gX4_setCell_X5_isAuthor_n61 nst_X4_setCell_61.2.1 nst_X4_setCell_61.2.2 (mX5_isAuthor_bad X.2.1 au hx) dX4_setCell_21 [] rfl (by decide) (by decide) (Nat.le_of_ble_eq_true rfl) rfl ?_
  refine z_bif_eq_t C 37 dX4_setCell_24 (by decide) rfl ?_
  refine z_iconst C (-1) dX4_setCell_37 (by decide) ?_
  exact z_iret C N dX4_setCell_38 (rfl) (rfl)

set_option maxHeartbeats 4000000 in
set_option maxRecDepth 100000 in
theorem mX4_setCell_b2 (E : zE) (a : Nat → Nat) (S : zSt) (au : Nat) (r c v : Int32) (hS : okS S) (hau : au < 4) (hx : r < 0 ∨ (¬ r < 0 ∧ nI (rU S) ≤ r)) : zM E yX4_setCell wsX4_setCell 5 [.ref (a 0), .int (nI au), .int r, .int c, .int v] [((a 0), .inr (4, [.ref (a 1), .ref (a 3), .ref (a 5), .ref (a 6), .int (zb (tK S))])), ((a 1), .inr (2, [.ref (a 2), .int (nI (rU S))])), ((a 2), .inl (E.2.2.1, 12, .inl (rO S))), ((a 3), .inr (2, [.ref (a 4), .int (nI (cU S))])), ((a 4), .inl (E.2.2.1, 8, .inl (cO S))), ((a 5), .inl (E.2.2.1, 96, .inl (bS S))), ((a 6), .inr (0, [.ref (a 7), .int (nI (mK S))])), ((a 7), .inl (E.2.2.1, 360, .inl (fA S)))] [((a 0), .inr (4, [.ref (a 1), .ref (a 3), .ref (a 5), .ref (a 6), .int (zb (tK S))])), ((a 1), .inr (2, [.ref (a 2), .int (nI (rU S))])), ((a 2), .inl (E.2.2.1, 12, .inl (rO S))), ((a 3), .inr (2, [.ref (a 4), .int (nI (cU S))])), ((a 4), .inl (E.2.2.1, 8, .inl (cO S))), ((a 5), .inl (E.2.2.1, 96, .inl (bS S))), ((a 6), .inr (0, [.ref (a 7), .int (nI (mK S))])), ((a 7), .inl (E.2.2.1, 360, .inl (fA S)))] (some (.int (-1))) := by
  refine zM.of kX4_setCell (Nat.le_of_ble_eq_true rfl) rfl [some (.ref (a 0)), some (.int (nI au)), some (.int r), some (.int c), some (.int v), none, none, none] rfl (Nat.le_of_ble_eq_true rfl) ?_
  intro X eX C N
  subst eX
  obtain ⟨hur, huc, hM⟩ := id hS
  refine z_aload_n C 0 dX4_setCell_0 rfl rfl ?_
  refine z_get C fX4_setCell_14 0 dX4_setCell_1 rfl rfl ?_
  refine z_iload_n C 2 dX4_setCell_4 rfl rfl ?_
  refine z_callVr C kX2_slotAt gX4_setCell_X2_slotAt (mX2_slotAt_out X.2.1 (a 1) (a 2) 12 (rO S) (rU S) r (by first | assumption | omega) hur hx) dX4_setCell_5 [1, 2] [] 1 rfl nd_1_2 rfl rfl rfl (by decide) (by decide) (Nat.le_of_ble_eq_true rfl) rfl ?_
  refine z_istore C dX4_setCell_8 (Nat.le_of_ble_eq_true rfl) ?_
  refine z_aload_n C 0 dX4_setCell_10 rfl rfl ?_
  refine z_get C fX4_setCell_20 0 dX4_setCell_11 rfl rfl ?_
  refine z_iload_n C 3 dX4_setCell_14 rfl rfl ?_
  refine z_callVr C kX2_slotAt gX4_setCell_X2_slotAt (mX2_slotAt X.2.1 (a 3) (a 4) 8 (cO S) (cU S) c (by first | assumption | omega) huc) dX4_setCell_15 [3, 4] [] 3 rfl nd_3_4 rfl rfl rfl (by decide) (by decide) (Nat.le_of_ble_eq_true rfl) rfl ?_
  refine z_istore C dX4_setCell_18 (Nat.le_of_ble_eq_true rfl) ?_
  refine z_iload_n C 1 dX4_setCell_20 rfl rfl ?_
  refine z_callN C kX5_isAuthor nst_X4_setCell_61.1 gX4_setCell_X5_isAuthor_n61 nst_X4_setCell_61.2.1 nst_X4_setCell_61.2.2 (mX5_isAuthor_in X.2.1 au hau) dX4_setCell_21 [] rfl (by decide) (by decide) (Nat.le_of_ble_eq_true rfl) rfl ?_
  refine z_bif_eq_f C 37 dX4_setCell_24 (by decide) rfl ?_
  refine z_iload C dX4_setCell_27 rfl ?_
  refine z_if_lt_t C 37 dX4_setCell_29 (by decide) (by decide) ?_
  refine z_iconst C (-1) dX4_setCell_37 (by decide) ?_
  exact z_iret C N dX4_setCell_38 (rfl) (rfl)

set_option maxHeartbeats 4000000 in
set_option maxRecDepth 100000 in
theorem mX4_setCell_b3 (E : zE) (a : Nat → Nat) (S : zSt) (au i : Nat) (c v : Int32) (hS : okS S) (hau : au < 4) (hi : i < rU S) (hsl : ¬ rO S i < 0) (hx : c < 0 ∨ (¬ c < 0 ∧ nI (cU S) ≤ c)) : zM E yX4_setCell wsX4_setCell 5 [.ref (a 0), .int (nI au), .int (nI i), .int c, .int v] [((a 0), .inr (4, [.ref (a 1), .ref (a 3), .ref (a 5), .ref (a 6), .int (zb (tK S))])), ((a 1), .inr (2, [.ref (a 2), .int (nI (rU S))])), ((a 2), .inl (E.2.2.1, 12, .inl (rO S))), ((a 3), .inr (2, [.ref (a 4), .int (nI (cU S))])), ((a 4), .inl (E.2.2.1, 8, .inl (cO S))), ((a 5), .inl (E.2.2.1, 96, .inl (bS S))), ((a 6), .inr (0, [.ref (a 7), .int (nI (mK S))])), ((a 7), .inl (E.2.2.1, 360, .inl (fA S)))] [((a 0), .inr (4, [.ref (a 1), .ref (a 3), .ref (a 5), .ref (a 6), .int (zb (tK S))])), ((a 1), .inr (2, [.ref (a 2), .int (nI (rU S))])), ((a 2), .inl (E.2.2.1, 12, .inl (rO S))), ((a 3), .inr (2, [.ref (a 4), .int (nI (cU S))])), ((a 4), .inl (E.2.2.1, 8, .inl (cO S))), ((a 5), .inl (E.2.2.1, 96, .inl (bS S))), ((a 6), .inr (0, [.ref (a 7), .int (nI (mK S))])), ((a 7), .inl (E.2.2.1, 360, .inl (fA S)))] (some (.int (-1))) := by
  refine zM.of kX4_setCell (Nat.le_of_ble_eq_true rfl) rfl [some (.ref (a 0)), some (.int (nI au)), some (.int (nI i)), some (.int c), some (.int v), none, none, none] rfl (Nat.le_of_ble_eq_true rfl) ?_
  intro X eX C N
  subst eX
  obtain ⟨hur, huc, hM⟩ := id hS
  refine z_aload_n C 0 dX4_setCell_0 rfl rfl ?_
  refine z_get C fX4_setCell_14 0 dX4_setCell_1 rfl rfl ?_
  refine z_iload_n C 2 dX4_setCell_4 rfl rfl ?_
  refine z_callVr C kX2_slotAt gX4_setCell_X2_slotAt (mX2_slotAt_in X.2.1 (a 1) (a 2) 12 (rO S) (rU S) i (by first | assumption | omega) hur hi) dX4_setCell_5 [1, 2] [] 1 rfl nd_1_2 rfl rfl rfl (by decide) (by decide) (Nat.le_of_ble_eq_true rfl) rfl ?_
  refine z_istore C dX4_setCell_8 (Nat.le_of_ble_eq_true rfl) ?_
  refine z_aload_n C 0 dX4_setCell_10 rfl rfl ?_
  refine z_get C fX4_setCell_20 0 dX4_setCell_11 rfl rfl ?_
  refine z_iload_n C 3 dX4_setCell_14 rfl rfl ?_
  refine z_callVr C kX2_slotAt gX4_setCell_X2_slotAt (mX2_slotAt_out X.2.1 (a 3) (a 4) 8 (cO S) (cU S) c (by first | assumption | omega) huc hx) dX4_setCell_15 [3, 4] [] 3 rfl nd_3_4 rfl rfl rfl (by decide) (by decide) (Nat.le_of_ble_eq_true rfl) rfl ?_
  refine z_istore C dX4_setCell_18 (Nat.le_of_ble_eq_true rfl) ?_
  refine z_iload_n C 1 dX4_setCell_20 rfl rfl ?_
  refine z_callN C kX5_isAuthor nst_X4_setCell_61.1 gX4_setCell_X5_isAuthor_n61 nst_X4_setCell_61.2.1 nst_X4_setCell_61.2.2 (mX5_isAuthor_in X.2.1 au hau) dX4_setCell_21 [] rfl (by decide) (by decide) (Nat.le_of_ble_eq_true rfl) rfl ?_
  refine z_bif_eq_f C 37 dX4_setCell_24 (by decide) rfl ?_
  refine z_iload C dX4_setCell_27 rfl ?_
  refine z_if_lt_f C 37 dX4_setCell_29 (by decide) hsl ?_
  refine z_iload C dX4_setCell_32 rfl ?_
  refine z_if_ge_f C 39 dX4_setCell_34 (by decide) (by decide) ?_
  refine z_iconst C (-1) dX4_setCell_37 (by decide) ?_
  exact z_iret C N dX4_setCell_38 (rfl) (rfl)

set_option maxHeartbeats 4000000 in
set_option maxRecDepth 100000 in
theorem mX4_setCell_b4 (E : zE) (a : Nat → Nat) (S : zSt) (au i j : Nat) (v : Int32) (hS : okS S) (hau : au < 4) (hi : i < rU S) (hj : j < cU S) (hsl : ¬ rO S i < 0) (hsl2 : ¬ cO S j < 0) (hx : v < 0 ∨ (¬ v < 0 ∧ nI 9999 < v)) : zM E yX4_setCell wsX4_setCell 5 [.ref (a 0), .int (nI au), .int (nI i), .int (nI j), .int v] [((a 0), .inr (4, [.ref (a 1), .ref (a 3), .ref (a 5), .ref (a 6), .int (zb (tK S))])), ((a 1), .inr (2, [.ref (a 2), .int (nI (rU S))])), ((a 2), .inl (E.2.2.1, 12, .inl (rO S))), ((a 3), .inr (2, [.ref (a 4), .int (nI (cU S))])), ((a 4), .inl (E.2.2.1, 8, .inl (cO S))), ((a 5), .inl (E.2.2.1, 96, .inl (bS S))), ((a 6), .inr (0, [.ref (a 7), .int (nI (mK S))])), ((a 7), .inl (E.2.2.1, 360, .inl (fA S)))] [((a 0), .inr (4, [.ref (a 1), .ref (a 3), .ref (a 5), .ref (a 6), .int (zb (tK S))])), ((a 1), .inr (2, [.ref (a 2), .int (nI (rU S))])), ((a 2), .inl (E.2.2.1, 12, .inl (rO S))), ((a 3), .inr (2, [.ref (a 4), .int (nI (cU S))])), ((a 4), .inl (E.2.2.1, 8, .inl (cO S))), ((a 5), .inl (E.2.2.1, 96, .inl (bS S))), ((a 6), .inr (0, [.ref (a 7), .int (nI (mK S))])), ((a 7), .inl (E.2.2.1, 360, .inl (fA S)))] (some (.int (-2))) := by
  refine zM.of kX4_setCell (Nat.le_of_ble_eq_true rfl) rfl [some (.ref (a 0)), some (.int (nI au)), some (.int (nI i)), some (.int (nI j)), some (.int v), none, none, none] rfl (Nat.le_of_ble_eq_true rfl) ?_
  intro X eX C N
  subst eX
  obtain ⟨hur, huc, hM⟩ := id hS
  rcases hx with hx | ⟨hx0, hx1⟩
  · refine z_aload_n C 0 dX4_setCell_0 rfl rfl ?_
    refine z_get C fX4_setCell_14 0 dX4_setCell_1 rfl rfl ?_
    refine z_iload_n C 2 dX4_setCell_4 rfl rfl ?_
    refine z_callVr C kX2_slotAt gX4_setCell_X2_slotAt (mX2_slotAt_in X.2.1 (a 1) (a 2) 12 (rO S) (rU S) i (by first | assumption | omega) hur hi) dX4_setCell_5 [1, 2] [] 1 rfl nd_1_2 rfl rfl rfl (by decide) (by decide) (Nat.le_of_ble_eq_true rfl) rfl ?_
    refine z_istore C dX4_setCell_8 (Nat.le_of_ble_eq_true rfl) ?_
    refine z_aload_n C 0 dX4_setCell_10 rfl rfl ?_
    refine z_get C fX4_setCell_20 0 dX4_setCell_11 rfl rfl ?_
    refine z_iload_n C 3 dX4_setCell_14 rfl rfl ?_
    refine z_callVr C kX2_slotAt gX4_setCell_X2_slotAt (mX2_slotAt_in X.2.1 (a 3) (a 4) 8 (cO S) (cU S) j (by first | assumption | omega) huc hj) dX4_setCell_15 [3, 4] [] 3 rfl nd_3_4 rfl rfl rfl (by decide) (by decide) (Nat.le_of_ble_eq_true rfl) rfl ?_
    refine z_istore C dX4_setCell_18 (Nat.le_of_ble_eq_true rfl) ?_
    refine z_iload_n C 1 dX4_setCell_20 rfl rfl ?_
    refine z_callN C kX5_isAuthor nst_X4_setCell_61.1 gX4_setCell_X5_isAuthor_n61 nst_X4_setCell_61.2.1 nst_X4_setCell_61.2.2 (mX5_isAuthor_in X.2.1 au hau) dX4_setCell_21 [] rfl (by decide) (by decide) (Nat.le_of_ble_eq_true rfl) rfl ?_
    refine z_bif_eq_f C 37 dX4_setCell_24 (by decide) rfl ?_
    refine z_iload C dX4_setCell_27 rfl ?_
    refine z_if_lt_f C 37 dX4_setCell_29 (by decide) hsl ?_
    refine z_iload C dX4_setCell_32 rfl ?_
    refine z_if_ge_t C 39 dX4_setCell_34 (by decide) (Int32.not_lt.mp hsl2) ?_
    refine z_iload C dX4_setCell_39 rfl ?_
    refine z_if_lt_t C 52 dX4_setCell_41 (by decide) hx ?_
    refine z_bipush C (-2) dX4_setCell_52 (by decide) ?_
    exact z_iret C N dX4_setCell_54 (rfl) (rfl)
  · refine z_aload_n C 0 dX4_setCell_0 rfl rfl ?_
    refine z_get C fX4_setCell_14 0 dX4_setCell_1 rfl rfl ?_
    refine z_iload_n C 2 dX4_setCell_4 rfl rfl ?_
    refine z_callVr C kX2_slotAt gX4_setCell_X2_slotAt (mX2_slotAt_in X.2.1 (a 1) (a 2) 12 (rO S) (rU S) i (by first | assumption | omega) hur hi) dX4_setCell_5 [1, 2] [] 1 rfl nd_1_2 rfl rfl rfl (by decide) (by decide) (Nat.le_of_ble_eq_true rfl) rfl ?_
    refine z_istore C dX4_setCell_8 (Nat.le_of_ble_eq_true rfl) ?_
    refine z_aload_n C 0 dX4_setCell_10 rfl rfl ?_
    refine z_get C fX4_setCell_20 0 dX4_setCell_11 rfl rfl ?_
    refine z_iload_n C 3 dX4_setCell_14 rfl rfl ?_
    refine z_callVr C kX2_slotAt gX4_setCell_X2_slotAt (mX2_slotAt_in X.2.1 (a 3) (a 4) 8 (cO S) (cU S) j (by first | assumption | omega) huc hj) dX4_setCell_15 [3, 4] [] 3 rfl nd_3_4 rfl rfl rfl (by decide) (by decide) (Nat.le_of_ble_eq_true rfl) rfl ?_
    refine z_istore C dX4_setCell_18 (Nat.le_of_ble_eq_true rfl) ?_
    refine z_iload_n C 1 dX4_setCell_20 rfl rfl ?_
    refine z_callN C kX5_isAuthor nst_X4_setCell_61.1 gX4_setCell_X5_isAuthor_n61 nst_X4_setCell_61.2.1 nst_X4_setCell_61.2.2 (mX5_isAuthor_in X.2.1 au hau) dX4_setCell_21 [] rfl (by decide) (by decide) (Nat.le_of_ble_eq_true rfl) rfl ?_
    refine z_bif_eq_f C 37 dX4_setCell_24 (by decide) rfl ?_
    refine z_iload C dX4_setCell_27 rfl ?_
    refine z_if_lt_f C 37 dX4_setCell_29 (by decide) hsl ?_
    refine z_iload C dX4_setCell_32 rfl ?_
    refine z_if_ge_t C 39 dX4_setCell_34 (by decide) (Int32.not_lt.mp hsl2) ?_
    refine z_iload C dX4_setCell_39 rfl ?_
    refine z_if_lt_f C 52 dX4_setCell_41 (by decide) hx0 ?_
    refine z_iload C dX4_setCell_44 rfl ?_
    refine z_sipush C (nI 9999) dX4_setCell_46 (by decide) ?_
    refine z_icmp_le_f C 55 dX4_setCell_49 (by decide) (Int32.not_le.mpr hx1) ?_
    refine z_bipush C (-2) dX4_setCell_52 (by decide) ?_
    exact z_iret C N dX4_setCell_54 (rfl) (rfl)

theorem fX4_setCell_30 : zF wsX4_setCell RX4 30 4 3 RX4 TX4 5 := ⟨by decide +kernel, rfl, by decide, by decide +kernel, rfl⟩
set_option maxHeartbeats 4000000 in
set_option maxRecDepth 100000 in
theorem mX4_setCell_n1 (E : zE) (a : Nat → Nat) (S : zSt) (au i j : Nat) (v : Int32) (hS : okS S) (hau : au < 4) (hi : i < rU S) (hj : j < cU S) (hsl : ¬ rO S i < 0) (hsl2 : ¬ cO S j < 0) (hv0 : ¬ v < 0) (hv1 : ¬ nI 9999 < v) (hr : ¬ zf (pLn (fA S) (nI 1) 3 (rO S i)) (mK S) < 0) : zM E yX4_setCell wsX4_setCell 5 [.ref (a 0), .int (nI au), .int (nI i), .int (nI j), .int v] [((a 0), .inr (4, [.ref (a 1), .ref (a 3), .ref (a 5), .ref (a 6), .int (zb (tK S))])), ((a 1), .inr (2, [.ref (a 2), .int (nI (rU S))])), ((a 2), .inl (E.2.2.1, 12, .inl (rO S))), ((a 3), .inr (2, [.ref (a 4), .int (nI (cU S))])), ((a 4), .inl (E.2.2.1, 8, .inl (cO S))), ((a 5), .inl (E.2.2.1, 96, .inl (bS S))), ((a 6), .inr (0, [.ref (a 7), .int (nI (mK S))])), ((a 7), .inl (E.2.2.1, 360, .inl (fA S)))] [((a 0), .inr (4, [.ref (a 1), .ref (a 3), .ref (a 5), .ref (a 6), .int (zb (tK S))])), ((a 1), .inr (2, [.ref (a 2), .int (nI (rU S))])), ((a 2), .inl (E.2.2.1, 12, .inl (rO S))), ((a 3), .inr (2, [.ref (a 4), .int (nI (cU S))])), ((a 4), .inl (E.2.2.1, 8, .inl (cO S))), ((a 5), .inl (E.2.2.1, 96, .inl (bS S))), ((a 6), .inr (0, [.ref (a 7), .int (nI (mK S))])), ((a 7), .inl (E.2.2.1, 360, .inl (fA S)))] (some (.int (-4))) := by
  refine zM.of kX4_setCell (Nat.le_of_ble_eq_true rfl) rfl [some (.ref (a 0)), some (.int (nI au)), some (.int (nI i)), some (.int (nI j)), some (.int v), none, none, none] rfl (Nat.le_of_ble_eq_true rfl) ?_
  intro X eX C N
  subst eX
  obtain ⟨hur, huc, hM⟩ := id hS
  refine z_aload_n C 0 dX4_setCell_0 rfl rfl ?_
  refine z_get C fX4_setCell_14 0 dX4_setCell_1 rfl rfl ?_
  refine z_iload_n C 2 dX4_setCell_4 rfl rfl ?_
  refine z_callVr C kX2_slotAt gX4_setCell_X2_slotAt (mX2_slotAt_in X.2.1 (a 1) (a 2) 12 (rO S) (rU S) i (by first | assumption | omega) hur hi) dX4_setCell_5 [1, 2] [] 1 rfl nd_1_2 rfl rfl rfl (by decide) (by decide) (Nat.le_of_ble_eq_true rfl) rfl ?_
  refine z_istore C dX4_setCell_8 (Nat.le_of_ble_eq_true rfl) ?_
  refine z_aload_n C 0 dX4_setCell_10 rfl rfl ?_
  refine z_get C fX4_setCell_20 0 dX4_setCell_11 rfl rfl ?_
  refine z_iload_n C 3 dX4_setCell_14 rfl rfl ?_
  refine z_callVr C kX2_slotAt gX4_setCell_X2_slotAt (mX2_slotAt_in X.2.1 (a 3) (a 4) 8 (cO S) (cU S) j (by first | assumption | omega) huc hj) dX4_setCell_15 [3, 4] [] 3 rfl nd_3_4 rfl rfl rfl (by decide) (by decide) (Nat.le_of_ble_eq_true rfl) rfl ?_
  refine z_istore C dX4_setCell_18 (Nat.le_of_ble_eq_true rfl) ?_
  refine z_iload_n C 1 dX4_setCell_20 rfl rfl ?_
  refine z_callN C kX5_isAuthor nst_X4_setCell_61.1 gX4_setCell_X5_isAuthor_n61 nst_X4_setCell_61.2.1 nst_X4_setCell_61.2.2 (mX5_isAuthor_in X.2.1 au hau) dX4_setCell_21 [] rfl (by decide) (by decide) (Nat.le_of_ble_eq_true rfl) rfl ?_
  refine z_bif_eq_f C 37 dX4_setCell_24 (by decide) rfl ?_
  refine z_iload C dX4_setCell_27 rfl ?_
  refine z_if_lt_f C 37 dX4_setCell_29 (by decide) hsl ?_
  refine z_iload C dX4_setCell_32 rfl ?_
  refine z_if_ge_t C 39 dX4_setCell_34 (by decide) (Int32.not_lt.mp hsl2) ?_
  refine z_iload C dX4_setCell_39 rfl ?_
  refine z_if_lt_f C 52 dX4_setCell_41 (by decide) hv0 ?_
  refine z_iload C dX4_setCell_44 rfl ?_
  refine z_sipush C (nI 9999) dX4_setCell_46 (by decide) ?_
  refine z_icmp_le_t C 55 dX4_setCell_49 (by decide) (Int32.not_lt.mp hv1) ?_
  refine z_aload_n C 0 dX4_setCell_55 rfl rfl ?_
  refine z_get C fX4_setCell_30 0 dX4_setCell_56 rfl rfl ?_
  refine z_iconst C (nI 0) dX4_setCell_59 (by decide) ?_
  refine z_iload C dX4_setCell_60 rfl ?_
  refine z_callVr C kX0_removalOf gX4_setCell_X0_removalOf (mX0_removalOf_r X.2.1 (a 6) (a 7) (fA S) (mK S) ((rO S) i) hM) dX4_setCell_62 [6, 7] [] 6 rfl nd_6_7 rfl rfl rfl (by decide) (by decide) (Nat.le_of_ble_eq_true rfl) rfl ?_
  refine z_if_ge_t C 96 dX4_setCell_65 (by decide) (Int32.not_lt.mp hr) ?_
  refine z_bipush C (-4) dX4_setCell_96 (by decide) ?_
  exact z_iret C N dX4_setCell_98 (rfl) (rfl)

set_option maxHeartbeats 4000000 in
set_option maxRecDepth 100000 in
theorem mX4_setCell_n2 (E : zE) (a : Nat → Nat) (S : zSt) (au i j : Nat) (v : Int32) (hS : okS S) (hau : au < 4) (hi : i < rU S) (hj : j < cU S) (hsl : ¬ rO S i < 0) (hsl2 : ¬ cO S j < 0) (hv0 : ¬ v < 0) (hv1 : ¬ nI 9999 < v) (hr : zf (pLn (fA S) (nI 1) 3 (rO S i)) (mK S) < 0) (hc : ¬ zf (pLn (fA S) (nI 3) 4 (cO S j)) (mK S) < 0) : zM E yX4_setCell wsX4_setCell 5 [.ref (a 0), .int (nI au), .int (nI i), .int (nI j), .int v] [((a 0), .inr (4, [.ref (a 1), .ref (a 3), .ref (a 5), .ref (a 6), .int (zb (tK S))])), ((a 1), .inr (2, [.ref (a 2), .int (nI (rU S))])), ((a 2), .inl (E.2.2.1, 12, .inl (rO S))), ((a 3), .inr (2, [.ref (a 4), .int (nI (cU S))])), ((a 4), .inl (E.2.2.1, 8, .inl (cO S))), ((a 5), .inl (E.2.2.1, 96, .inl (bS S))), ((a 6), .inr (0, [.ref (a 7), .int (nI (mK S))])), ((a 7), .inl (E.2.2.1, 360, .inl (fA S)))] [((a 0), .inr (4, [.ref (a 1), .ref (a 3), .ref (a 5), .ref (a 6), .int (zb (tK S))])), ((a 1), .inr (2, [.ref (a 2), .int (nI (rU S))])), ((a 2), .inl (E.2.2.1, 12, .inl (rO S))), ((a 3), .inr (2, [.ref (a 4), .int (nI (cU S))])), ((a 4), .inl (E.2.2.1, 8, .inl (cO S))), ((a 5), .inl (E.2.2.1, 96, .inl (bS S))), ((a 6), .inr (0, [.ref (a 7), .int (nI (mK S))])), ((a 7), .inl (E.2.2.1, 360, .inl (fA S)))] (some (.int (-4))) := by
  refine zM.of kX4_setCell (Nat.le_of_ble_eq_true rfl) rfl [some (.ref (a 0)), some (.int (nI au)), some (.int (nI i)), some (.int (nI j)), some (.int v), none, none, none] rfl (Nat.le_of_ble_eq_true rfl) ?_
  intro X eX C N
  subst eX
  obtain ⟨hur, huc, hM⟩ := id hS
  refine z_aload_n C 0 dX4_setCell_0 rfl rfl ?_
  refine z_get C fX4_setCell_14 0 dX4_setCell_1 rfl rfl ?_
  refine z_iload_n C 2 dX4_setCell_4 rfl rfl ?_
  refine z_callVr C kX2_slotAt gX4_setCell_X2_slotAt (mX2_slotAt_in X.2.1 (a 1) (a 2) 12 (rO S) (rU S) i (by first | assumption | omega) hur hi) dX4_setCell_5 [1, 2] [] 1 rfl nd_1_2 rfl rfl rfl (by decide) (by decide) (Nat.le_of_ble_eq_true rfl) rfl ?_
  refine z_istore C dX4_setCell_8 (Nat.le_of_ble_eq_true rfl) ?_
  refine z_aload_n C 0 dX4_setCell_10 rfl rfl ?_
  refine z_get C fX4_setCell_20 0 dX4_setCell_11 rfl rfl ?_
  refine z_iload_n C 3 dX4_setCell_14 rfl rfl ?_
  refine z_callVr C kX2_slotAt gX4_setCell_X2_slotAt (mX2_slotAt_in X.2.1 (a 3) (a 4) 8 (cO S) (cU S) j (by first | assumption | omega) huc hj) dX4_setCell_15 [3, 4] [] 3 rfl nd_3_4 rfl rfl rfl (by decide) (by decide) (Nat.le_of_ble_eq_true rfl) rfl ?_
  refine z_istore C dX4_setCell_18 (Nat.le_of_ble_eq_true rfl) ?_
  refine z_iload_n C 1 dX4_setCell_20 rfl rfl ?_
  refine z_callN C kX5_isAuthor nst_X4_setCell_61.1 gX4_setCell_X5_isAuthor_n61 nst_X4_setCell_61.2.1 nst_X4_setCell_61.2.2 (mX5_isAuthor_in X.2.1 au hau) dX4_setCell_21 [] rfl (by decide) (by decide) (Nat.le_of_ble_eq_true rfl) rfl ?_
  refine z_bif_eq_f C 37 dX4_setCell_24 (by decide) rfl ?_
  refine z_iload C dX4_setCell_27 rfl ?_
  refine z_if_lt_f C 37 dX4_setCell_29 (by decide) hsl ?_
  refine z_iload C dX4_setCell_32 rfl ?_
  refine z_if_ge_t C 39 dX4_setCell_34 (by decide) (Int32.not_lt.mp hsl2) ?_
  refine z_iload C dX4_setCell_39 rfl ?_
  refine z_if_lt_f C 52 dX4_setCell_41 (by decide) hv0 ?_
  refine z_iload C dX4_setCell_44 rfl ?_
  refine z_sipush C (nI 9999) dX4_setCell_46 (by decide) ?_
  refine z_icmp_le_t C 55 dX4_setCell_49 (by decide) (Int32.not_lt.mp hv1) ?_
  refine z_aload_n C 0 dX4_setCell_55 rfl rfl ?_
  refine z_get C fX4_setCell_30 0 dX4_setCell_56 rfl rfl ?_
  refine z_iconst C (nI 0) dX4_setCell_59 (by decide) ?_
  refine z_iload C dX4_setCell_60 rfl ?_
  refine z_callVr C kX0_removalOf gX4_setCell_X0_removalOf (mX0_removalOf_r X.2.1 (a 6) (a 7) (fA S) (mK S) ((rO S) i) hM) dX4_setCell_62 [6, 7] [] 6 rfl nd_6_7 rfl rfl rfl (by decide) (by decide) (Nat.le_of_ble_eq_true rfl) rfl ?_
  refine z_if_ge_f C 96 dX4_setCell_65 (by decide) (Int32.not_le.mpr hr) ?_
  refine z_aload_n C 0 dX4_setCell_68 rfl rfl ?_
  refine z_get C fX4_setCell_30 0 dX4_setCell_69 rfl rfl ?_
  refine z_iconst C (nI 1) dX4_setCell_72 (by decide) ?_
  refine z_iload C dX4_setCell_73 rfl ?_
  refine z_callVr C kX0_removalOf gX4_setCell_X0_removalOf (mX0_removalOf_c X.2.1 (a 6) (a 7) (fA S) (mK S) ((cO S) j) hM) dX4_setCell_75 [6, 7] [] 6 rfl nd_6_7 rfl rfl rfl (by decide) (by decide) (Nat.le_of_ble_eq_true rfl) rfl ?_
  refine z_if_ge_t C 96 dX4_setCell_78 (by decide) (Int32.not_lt.mp hc) ?_
  refine z_bipush C (-4) dX4_setCell_96 (by decide) ?_
  exact z_iret C N dX4_setCell_98 (rfl) (rfl)

set_option maxHeartbeats 4000000 in
set_option maxRecDepth 100000 in
theorem mX4_setCell_n3 (E : zE) (a : Nat → Nat) (S : zSt) (au i j : Nat) (v : Int32) (hS : okS S) (hau : au < 4) (hi : i < rU S) (hj : j < cU S) (hsl : ¬ rO S i < 0) (hsl2 : ¬ cO S j < 0) (hv0 : ¬ v < 0) (hv1 : ¬ nI 9999 < v) (hr : zf (pLn (fA S) (nI 1) 3 (rO S i)) (mK S) < 0) (hc : zf (pLn (fA S) (nI 3) 4 (cO S j)) (mK S) < 0) (he : zVU (bS S) (fA S) (mK S) 60 (rO S i) (cO S j) = v) : zM E yX4_setCell wsX4_setCell 5 [.ref (a 0), .int (nI au), .int (nI i), .int (nI j), .int v] [((a 0), .inr (4, [.ref (a 1), .ref (a 3), .ref (a 5), .ref (a 6), .int (zb (tK S))])), ((a 1), .inr (2, [.ref (a 2), .int (nI (rU S))])), ((a 2), .inl (E.2.2.1, 12, .inl (rO S))), ((a 3), .inr (2, [.ref (a 4), .int (nI (cU S))])), ((a 4), .inl (E.2.2.1, 8, .inl (cO S))), ((a 5), .inl (E.2.2.1, 96, .inl (bS S))), ((a 6), .inr (0, [.ref (a 7), .int (nI (mK S))])), ((a 7), .inl (E.2.2.1, 360, .inl (fA S)))] [((a 0), .inr (4, [.ref (a 1), .ref (a 3), .ref (a 5), .ref (a 6), .int (zb (tK S))])), ((a 1), .inr (2, [.ref (a 2), .int (nI (rU S))])), ((a 2), .inl (E.2.2.1, 12, .inl (rO S))), ((a 3), .inr (2, [.ref (a 4), .int (nI (cU S))])), ((a 4), .inl (E.2.2.1, 8, .inl (cO S))), ((a 5), .inl (E.2.2.1, 96, .inl (bS S))), ((a 6), .inr (0, [.ref (a 7), .int (nI (mK S))])), ((a 7), .inl (E.2.2.1, 360, .inl (fA S)))] (some (.int (-4))) := by
  refine zM.of kX4_setCell (Nat.le_of_ble_eq_true rfl) rfl [some (.ref (a 0)), some (.int (nI au)), some (.int (nI i)), some (.int (nI j)), some (.int v), none, none, none] rfl (Nat.le_of_ble_eq_true rfl) ?_
  intro X eX C N
  subst eX
  obtain ⟨hur, huc, hM⟩ := id hS
  refine z_aload_n C 0 dX4_setCell_0 rfl rfl ?_
  refine z_get C fX4_setCell_14 0 dX4_setCell_1 rfl rfl ?_
  refine z_iload_n C 2 dX4_setCell_4 rfl rfl ?_
  refine z_callVr C kX2_slotAt gX4_setCell_X2_slotAt (mX2_slotAt_in X.2.1 (a 1) (a 2) 12 (rO S) (rU S) i (by first | assumption | omega) hur hi) dX4_setCell_5 [1, 2] [] 1 rfl nd_1_2 rfl rfl rfl (by decide) (by decide) (Nat.le_of_ble_eq_true rfl) rfl ?_
  refine z_istore C dX4_setCell_8 (Nat.le_of_ble_eq_true rfl) ?_
  refine z_aload_n C 0 dX4_setCell_10 rfl rfl ?_
  refine z_get C fX4_setCell_20 0 dX4_setCell_11 rfl rfl ?_
  refine z_iload_n C 3 dX4_setCell_14 rfl rfl ?_
  refine z_callVr C kX2_slotAt gX4_setCell_X2_slotAt (mX2_slotAt_in X.2.1 (a 3) (a 4) 8 (cO S) (cU S) j (by first | assumption | omega) huc hj) dX4_setCell_15 [3, 4] [] 3 rfl nd_3_4 rfl rfl rfl (by decide) (by decide) (Nat.le_of_ble_eq_true rfl) rfl ?_
  refine z_istore C dX4_setCell_18 (Nat.le_of_ble_eq_true rfl) ?_
  refine z_iload_n C 1 dX4_setCell_20 rfl rfl ?_
  refine z_callN C kX5_isAuthor nst_X4_setCell_61.1 gX4_setCell_X5_isAuthor_n61 nst_X4_setCell_61.2.1 nst_X4_setCell_61.2.2 (mX5_isAuthor_in X.2.1 au hau) dX4_setCell_21 [] rfl (by decide) (by decide) (Nat.le_of_ble_eq_true rfl) rfl ?_
  refine z_bif_eq_f C 37 dX4_setCell_24 (by decide) rfl ?_
  refine z_iload C dX4_setCell_27 rfl ?_
  refine z_if_lt_f C 37 dX4_setCell_29 (by decide) hsl ?_
  refine z_iload C dX4_setCell_32 rfl ?_
  refine z_if_ge_t C 39 dX4_setCell_34 (by decide) (Int32.not_lt.mp hsl2) ?_
  refine z_iload C dX4_setCell_39 rfl ?_
  refine z_if_lt_f C 52 dX4_setCell_41 (by decide) hv0 ?_
  refine z_iload C dX4_setCell_44 rfl ?_
  refine z_sipush C (nI 9999) dX4_setCell_46 (by decide) ?_
  refine z_icmp_le_t C 55 dX4_setCell_49 (by decide) (Int32.not_lt.mp hv1) ?_
  refine z_aload_n C 0 dX4_setCell_55 rfl rfl ?_
  refine z_get C fX4_setCell_30 0 dX4_setCell_56 rfl rfl ?_
  refine z_iconst C (nI 0) dX4_setCell_59 (by decide) ?_
  refine z_iload C dX4_setCell_60 rfl ?_
  refine z_callVr C kX0_removalOf gX4_setCell_X0_removalOf (mX0_removalOf_r X.2.1 (a 6) (a 7) (fA S) (mK S) ((rO S) i) hM) dX4_setCell_62 [6, 7] [] 6 rfl nd_6_7 rfl rfl rfl (by decide) (by decide) (Nat.le_of_ble_eq_true rfl) rfl ?_
  refine z_if_ge_f C 96 dX4_setCell_65 (by decide) (Int32.not_le.mpr hr) ?_
  refine z_aload_n C 0 dX4_setCell_68 rfl rfl ?_
  refine z_get C fX4_setCell_30 0 dX4_setCell_69 rfl rfl ?_
  refine z_iconst C (nI 1) dX4_setCell_72 (by decide) ?_
  refine z_iload C dX4_setCell_73 rfl ?_
  refine z_callVr C kX0_removalOf gX4_setCell_X0_removalOf (mX0_removalOf_c X.2.1 (a 6) (a 7) (fA S) (mK S) ((cO S) j) hM) dX4_setCell_75 [6, 7] [] 6 rfl nd_6_7 rfl rfl rfl (by decide) (by decide) (Nat.le_of_ble_eq_true rfl) rfl ?_
  refine z_if_ge_f C 96 dX4_setCell_78 (by decide) (Int32.not_le.mpr hc) ?_
  refine z_aload_n C 0 dX4_setCell_81 rfl rfl ?_
  refine z_bipush C (nI 60) dX4_setCell_82 (by decide) ?_
  refine z_iload C dX4_setCell_84 rfl ?_
  refine z_iload C dX4_setCell_86 rfl ?_
  refine z_callVr C kX4_valueUnder gX4_setCell_X4_valueUnder (mX4_valueUnder X.2.1 a (rO S) (rU S) (cO S) (cU S) (bS S) (fA S) (mK S) (tK S) 60 ((rO S) i) ((cO S) j) hur huc hM (by first | assumption | omega)) dX4_setCell_88 [0, 1, 2, 3, 4, 5, 6, 7] [] 0 rfl nd_0_1_2_3_4_5_6_7 rfl rfl rfl (by decide) (by decide) (Nat.le_of_ble_eq_true rfl) rfl ?_
  refine z_iload C dX4_setCell_91 rfl ?_
  refine z_icmp_ne_f C 99 dX4_setCell_93 (by decide) he ?_
  refine z_bipush C (-4) dX4_setCell_96 (by decide) ?_
  exact z_iret C N dX4_setCell_98 (rfl) (rfl)

theorem fX4_setCell_34 : zF wsX4_setCell RX4 34 4 4 RX4 TX4 5 := ⟨by decide +kernel, rfl, by decide, by decide +kernel, rfl⟩
set_option maxHeartbeats 4000000 in
set_option maxRecDepth 100000 in
theorem mX4_setCell_u (E : zE) (a : Nat → Nat) (S : zSt) (au i j : Nat) (v : Int32) (hS : okS S) (hau : au < 4) (hi : i < rU S) (hj : j < cU S) (hsl : ¬ rO S i < 0) (hsl2 : ¬ cO S j < 0) (hv0 : ¬ v < 0) (hv1 : ¬ nI 9999 < v) (hr : zf (pLn (fA S) (nI 1) 3 (rO S i)) (mK S) < 0) (hc : zf (pLn (fA S) (nI 3) 4 (cO S j)) (mK S) < 0) (he : ¬ zVU (bS S) (fA S) (mK S) 60 (rO S i) (cO S j) = v) (ht : tK S = false) : zM E yX4_setCell wsX4_setCell 5 [.ref (a 0), .int (nI au), .int (nI i), .int (nI j), .int v] [((a 0), .inr (4, [.ref (a 1), .ref (a 3), .ref (a 5), .ref (a 6), .int (zb (tK S))])), ((a 1), .inr (2, [.ref (a 2), .int (nI (rU S))])), ((a 2), .inl (E.2.2.1, 12, .inl (rO S))), ((a 3), .inr (2, [.ref (a 4), .int (nI (cU S))])), ((a 4), .inl (E.2.2.1, 8, .inl (cO S))), ((a 5), .inl (E.2.2.1, 96, .inl (bS S))), ((a 6), .inr (0, [.ref (a 7), .int (nI (mK S))])), ((a 7), .inl (E.2.2.1, 360, .inl (fA S)))] [((a 0), .inr (4, [.ref (a 1), .ref (a 3), .ref (a 5), .ref (a 6), .int (zb (tK (zBs (zFa S (zMk (fA S) (pS (fA S) (rO S i) (cO S j)) (nI 3) (mK S))) (zPb (bS S) (rO S i) (cO S j) v))))])), ((a 1), .inr (2, [.ref (a 2), .int (nI (rU (zBs (zFa S (zMk (fA S) (pS (fA S) (rO S i) (cO S j)) (nI 3) (mK S))) (zPb (bS S) (rO S i) (cO S j) v))))])), ((a 2), .inl (E.2.2.1, 12, .inl (rO (zBs (zFa S (zMk (fA S) (pS (fA S) (rO S i) (cO S j)) (nI 3) (mK S))) (zPb (bS S) (rO S i) (cO S j) v))))), ((a 3), .inr (2, [.ref (a 4), .int (nI (cU (zBs (zFa S (zMk (fA S) (pS (fA S) (rO S i) (cO S j)) (nI 3) (mK S))) (zPb (bS S) (rO S i) (cO S j) v))))])), ((a 4), .inl (E.2.2.1, 8, .inl (cO (zBs (zFa S (zMk (fA S) (pS (fA S) (rO S i) (cO S j)) (nI 3) (mK S))) (zPb (bS S) (rO S i) (cO S j) v))))), ((a 5), .inl (E.2.2.1, 96, .inl (bS (zBs (zFa S (zMk (fA S) (pS (fA S) (rO S i) (cO S j)) (nI 3) (mK S))) (zPb (bS S) (rO S i) (cO S j) v))))), ((a 6), .inr (0, [.ref (a 7), .int (nI (mK (zBs (zFa S (zMk (fA S) (pS (fA S) (rO S i) (cO S j)) (nI 3) (mK S))) (zPb (bS S) (rO S i) (cO S j) v))))])), ((a 7), .inl (E.2.2.1, 360, .inl (fA (zBs (zFa S (zMk (fA S) (pS (fA S) (rO S i) (cO S j)) (nI 3) (mK S))) (zPb (bS S) (rO S i) (cO S j) v)))))] (some (.int (nI 1000))) := by
  refine zM.of kX4_setCell (Nat.le_of_ble_eq_true rfl) rfl [some (.ref (a 0)), some (.int (nI au)), some (.int (nI i)), some (.int (nI j)), some (.int v), none, none, none] rfl (Nat.le_of_ble_eq_true rfl) ?_
  intro X eX C N
  subst eX
  obtain ⟨hur, huc, hM⟩ := id hS
  refine z_aload_n C 0 dX4_setCell_0 rfl rfl ?_
  refine z_get C fX4_setCell_14 0 dX4_setCell_1 rfl rfl ?_
  refine z_iload_n C 2 dX4_setCell_4 rfl rfl ?_
  refine z_callVr C kX2_slotAt gX4_setCell_X2_slotAt (mX2_slotAt_in X.2.1 (a 1) (a 2) 12 (rO S) (rU S) i (by first | assumption | omega) hur hi) dX4_setCell_5 [1, 2] [] 1 rfl nd_1_2 rfl rfl rfl (by decide) (by decide) (Nat.le_of_ble_eq_true rfl) rfl ?_
  refine z_istore C dX4_setCell_8 (Nat.le_of_ble_eq_true rfl) ?_
  refine z_aload_n C 0 dX4_setCell_10 rfl rfl ?_
  refine z_get C fX4_setCell_20 0 dX4_setCell_11 rfl rfl ?_
  refine z_iload_n C 3 dX4_setCell_14 rfl rfl ?_
  refine z_callVr C kX2_slotAt gX4_setCell_X2_slotAt (mX2_slotAt_in X.2.1 (a 3) (a 4) 8 (cO S) (cU S) j (by first | assumption | omega) huc hj) dX4_setCell_15 [3, 4] [] 3 rfl nd_3_4 rfl rfl rfl (by decide) (by decide) (Nat.le_of_ble_eq_true rfl) rfl ?_
  refine z_istore C dX4_setCell_18 (Nat.le_of_ble_eq_true rfl) ?_
  refine z_iload_n C 1 dX4_setCell_20 rfl rfl ?_
  refine z_callN C kX5_isAuthor nst_X4_setCell_61.1 gX4_setCell_X5_isAuthor_n61 nst_X4_setCell_61.2.1 nst_X4_setCell_61.2.2 (mX5_isAuthor_in X.2.1 au hau) dX4_setCell_21 [] rfl (by decide) (by decide) (Nat.le_of_ble_eq_true rfl) rfl ?_
  refine z_bif_eq_f C 37 dX4_setCell_24 (by decide) rfl ?_
  refine z_iload C dX4_setCell_27 rfl ?_
  refine z_if_lt_f C 37 dX4_setCell_29 (by decide) hsl ?_
  refine z_iload C dX4_setCell_32 rfl ?_
  refine z_if_ge_t C 39 dX4_setCell_34 (by decide) (Int32.not_lt.mp hsl2) ?_
  refine z_iload C dX4_setCell_39 rfl ?_
  refine z_if_lt_f C 52 dX4_setCell_41 (by decide) hv0 ?_
  refine z_iload C dX4_setCell_44 rfl ?_
  refine z_sipush C (nI 9999) dX4_setCell_46 (by decide) ?_
  refine z_icmp_le_t C 55 dX4_setCell_49 (by decide) (Int32.not_lt.mp hv1) ?_
  refine z_aload_n C 0 dX4_setCell_55 rfl rfl ?_
  refine z_get C fX4_setCell_30 0 dX4_setCell_56 rfl rfl ?_
  refine z_iconst C (nI 0) dX4_setCell_59 (by decide) ?_
  refine z_iload C dX4_setCell_60 rfl ?_
  refine z_callVr C kX0_removalOf gX4_setCell_X0_removalOf (mX0_removalOf_r X.2.1 (a 6) (a 7) (fA S) (mK S) ((rO S) i) hM) dX4_setCell_62 [6, 7] [] 6 rfl nd_6_7 rfl rfl rfl (by decide) (by decide) (Nat.le_of_ble_eq_true rfl) rfl ?_
  refine z_if_ge_f C 96 dX4_setCell_65 (by decide) (Int32.not_le.mpr hr) ?_
  refine z_aload_n C 0 dX4_setCell_68 rfl rfl ?_
  refine z_get C fX4_setCell_30 0 dX4_setCell_69 rfl rfl ?_
  refine z_iconst C (nI 1) dX4_setCell_72 (by decide) ?_
  refine z_iload C dX4_setCell_73 rfl ?_
  refine z_callVr C kX0_removalOf gX4_setCell_X0_removalOf (mX0_removalOf_c X.2.1 (a 6) (a 7) (fA S) (mK S) ((cO S) j) hM) dX4_setCell_75 [6, 7] [] 6 rfl nd_6_7 rfl rfl rfl (by decide) (by decide) (Nat.le_of_ble_eq_true rfl) rfl ?_
  refine z_if_ge_f C 96 dX4_setCell_78 (by decide) (Int32.not_le.mpr hc) ?_
  refine z_aload_n C 0 dX4_setCell_81 rfl rfl ?_
  refine z_bipush C (nI 60) dX4_setCell_82 (by decide) ?_
  refine z_iload C dX4_setCell_84 rfl ?_
  refine z_iload C dX4_setCell_86 rfl ?_
  refine z_callVr C kX4_valueUnder gX4_setCell_X4_valueUnder (mX4_valueUnder X.2.1 a (rO S) (rU S) (cO S) (cU S) (bS S) (fA S) (mK S) (tK S) 60 ((rO S) i) ((cO S) j) hur huc hM (by first | assumption | omega)) dX4_setCell_88 [0, 1, 2, 3, 4, 5, 6, 7] [] 0 rfl nd_0_1_2_3_4_5_6_7 rfl rfl rfl (by decide) (by decide) (Nat.le_of_ble_eq_true rfl) rfl ?_
  refine z_iload C dX4_setCell_91 rfl ?_
  refine z_icmp_ne_t C 99 dX4_setCell_93 (by decide) he ?_
  refine z_aload_n C 0 dX4_setCell_99 rfl rfl ?_
  refine z_get C fX4_setCell_34 0 dX4_setCell_100 rfl rfl ?_
  refine z_bif_ne_f C 131 dX4_setCell_103 (by decide) ht ?_
  refine z_aload_n C 0 dX4_setCell_106 rfl rfl ?_
  refine z_get C fX4_setCell_30 0 dX4_setCell_107 rfl rfl ?_
  refine z_iload C dX4_setCell_110 rfl ?_
  refine z_iload C dX4_setCell_112 rfl ?_
  refine z_callVv (wn := [((a 0), .inr (4, [.ref (a 1), .ref (a 3), .ref (a 5), .ref (a 6), .int (zb (tK S))])), ((a 1), .inr (2, [.ref (a 2), .int (nI (rU S))])), ((a 2), .inl (X.2.1.2.2.1, 12, .inl (rO S))), ((a 3), .inr (2, [.ref (a 4), .int (nI (cU S))])), ((a 4), .inl (X.2.1.2.2.1, 8, .inl (cO S))), ((a 5), .inl (X.2.1.2.2.1, 96, .inl (bS S))), ((a 6), .inr (0, [.ref (a 7), .int (nI (mK S))])), ((a 7), .inl (X.2.1.2.2.1, 360, .inl (zMk (fA S) (pS (fA S) ((rO S) i) ((cO S) j)) (nI 3) (mK S))))]) C kX0_dissolveCell gX4_setCell_X0_dissolveCell (mX0_dissolveCell X.2.1 (a 6) (a 7) (fA S) (mK S) ((rO S) i) ((cO S) j) hM) dX4_setCell_114 [6, 7] [] 6 rfl rfl nd_6_7 rfl rfl rfl (by decide) (by decide) (Nat.le_of_ble_eq_true rfl) rfl rfl ?_
  refine z_aload_n C 0 dX4_setCell_117 rfl rfl ?_
  refine z_iload C dX4_setCell_118 rfl ?_
  refine z_iload C dX4_setCell_120 rfl ?_
  refine z_iload C dX4_setCell_122 rfl ?_
  refine z_callVv (wn := [((a 0), .inr (4, [.ref (a 1), .ref (a 3), .ref (a 5), .ref (a 6), .int (zb (tK S))])), ((a 1), .inr (2, [.ref (a 2), .int (nI (rU S))])), ((a 2), .inl (X.2.1.2.2.1, 12, .inl (rO S))), ((a 3), .inr (2, [.ref (a 4), .int (nI (cU S))])), ((a 4), .inl (X.2.1.2.2.1, 8, .inl (cO S))), ((a 5), .inl (X.2.1.2.2.1, 96, .inl (zPb (bS S) ((rO S) i) ((cO S) j) v))), ((a 6), .inr (0, [.ref (a 7), .int (nI (mK S))])), ((a 7), .inl (X.2.1.2.2.1, 360, .inl (zMk (fA S) (pS (fA S) ((rO S) i) ((cO S) j)) (nI 3) (mK S))))]) C kX4_putBase gX4_setCell_X4_putBase (mX4_putBase X.2.1 a (rO S) (rU S) (cO S) (cU S) (bS S) (zMk (fA S) (pS (fA S) ((rO S) i) ((cO S) j)) (nI 3) (mK S)) (mK S) (tK S) ((rO S) i) ((cO S) j) v hur huc hM) dX4_setCell_124 [0, 1, 2, 3, 4, 5, 6, 7] [] 0 rfl rfl nd_0_1_2_3_4_5_6_7 rfl rfl rfl (by decide) (by decide) (Nat.le_of_ble_eq_true rfl) rfl rfl ?_
  refine z_sipush C (nI 1000) dX4_setCell_127 (by decide) ?_
  exact z_iret C N dX4_setCell_130 (rfl) (rfl)

set_option maxHeartbeats 4000000 in
set_option maxRecDepth 100000 in
theorem mX4_setCell_d (E : zE) (a : Nat → Nat) (S : zSt) (au i j : Nat) (v : Int32) (k : Nat) (hS : okS S) (hau : au < 4) (hi : i < rU S) (hj : j < cU S) (hsl : ¬ rO S i < 0) (hsl2 : ¬ cO S j < 0) (hv0 : ¬ v < 0) (hv1 : ¬ nI 9999 < v) (hr : zf (pLn (fA S) (nI 1) 3 (rO S i)) (mK S) < 0) (hc : zf (pLn (fA S) (nI 3) 4 (cO S j)) (mK S) < 0) (he : ¬ zVU (bS S) (fA S) (mK S) 60 (rO S i) (cO S j) = v) (ht : tK S = true) (hik : zg (pS (fA S) (rO S i) (cO S j)) (min 60 (mK S)) = nI k) (hk : k < mK S) (hby : fA S (6 * k + 1) = nI au) (hb : zVU (bS S) (fA S) (mK S) k (rO S i) (cO S j) = v) : zM E yX4_setCell wsX4_setCell 5 [.ref (a 0), .int (nI au), .int (nI i), .int (nI j), .int v] [((a 0), .inr (4, [.ref (a 1), .ref (a 3), .ref (a 5), .ref (a 6), .int (zb (tK S))])), ((a 1), .inr (2, [.ref (a 2), .int (nI (rU S))])), ((a 2), .inl (E.2.2.1, 12, .inl (rO S))), ((a 3), .inr (2, [.ref (a 4), .int (nI (cU S))])), ((a 4), .inl (E.2.2.1, 8, .inl (cO S))), ((a 5), .inl (E.2.2.1, 96, .inl (bS S))), ((a 6), .inr (0, [.ref (a 7), .int (nI (mK S))])), ((a 7), .inl (E.2.2.1, 360, .inl (fA S)))] [((a 0), .inr (4, [.ref (a 1), .ref (a 3), .ref (a 5), .ref (a 6), .int (zb (tK (zFa S (upd (upd (fA S) (6 * k + 2) (nI 3)) (6 * k + 5) v))))])), ((a 1), .inr (2, [.ref (a 2), .int (nI (rU (zFa S (upd (upd (fA S) (6 * k + 2) (nI 3)) (6 * k + 5) v))))])), ((a 2), .inl (E.2.2.1, 12, .inl (rO (zFa S (upd (upd (fA S) (6 * k + 2) (nI 3)) (6 * k + 5) v))))), ((a 3), .inr (2, [.ref (a 4), .int (nI (cU (zFa S (upd (upd (fA S) (6 * k + 2) (nI 3)) (6 * k + 5) v))))])), ((a 4), .inl (E.2.2.1, 8, .inl (cO (zFa S (upd (upd (fA S) (6 * k + 2) (nI 3)) (6 * k + 5) v))))), ((a 5), .inl (E.2.2.1, 96, .inl (bS (zFa S (upd (upd (fA S) (6 * k + 2) (nI 3)) (6 * k + 5) v))))), ((a 6), .inr (0, [.ref (a 7), .int (nI (mK (zFa S (upd (upd (fA S) (6 * k + 2) (nI 3)) (6 * k + 5) v))))])), ((a 7), .inl (E.2.2.1, 360, .inl (fA (zFa S (upd (upd (fA S) (6 * k + 2) (nI 3)) (6 * k + 5) v)))))] (some (.int (nI k))) := by
  refine zM.of kX4_setCell (Nat.le_of_ble_eq_true rfl) rfl [some (.ref (a 0)), some (.int (nI au)), some (.int (nI i)), some (.int (nI j)), some (.int v), none, none, none] rfl (Nat.le_of_ble_eq_true rfl) ?_
  intro X eX C N
  subst eX
  obtain ⟨hur, huc, hM⟩ := id hS
  refine z_aload_n C 0 dX4_setCell_0 rfl rfl ?_
  refine z_get C fX4_setCell_14 0 dX4_setCell_1 rfl rfl ?_
  refine z_iload_n C 2 dX4_setCell_4 rfl rfl ?_
  refine z_callVr C kX2_slotAt gX4_setCell_X2_slotAt (mX2_slotAt_in X.2.1 (a 1) (a 2) 12 (rO S) (rU S) i (by first | assumption | omega) hur hi) dX4_setCell_5 [1, 2] [] 1 rfl nd_1_2 rfl rfl rfl (by decide) (by decide) (Nat.le_of_ble_eq_true rfl) rfl ?_
  refine z_istore C dX4_setCell_8 (Nat.le_of_ble_eq_true rfl) ?_
  refine z_aload_n C 0 dX4_setCell_10 rfl rfl ?_
  refine z_get C fX4_setCell_20 0 dX4_setCell_11 rfl rfl ?_
  refine z_iload_n C 3 dX4_setCell_14 rfl rfl ?_
  refine z_callVr C kX2_slotAt gX4_setCell_X2_slotAt (mX2_slotAt_in X.2.1 (a 3) (a 4) 8 (cO S) (cU S) j (by first | assumption | omega) huc hj) dX4_setCell_15 [3, 4] [] 3 rfl nd_3_4 rfl rfl rfl (by decide) (by decide) (Nat.le_of_ble_eq_true rfl) rfl ?_
  refine z_istore C dX4_setCell_18 (Nat.le_of_ble_eq_true rfl) ?_
  refine z_iload_n C 1 dX4_setCell_20 rfl rfl ?_
  refine z_callN C kX5_isAuthor nst_X4_setCell_61.1 gX4_setCell_X5_isAuthor_n61 nst_X4_setCell_61.2.1 nst_X4_setCell_61.2.2 (mX5_isAuthor_in X.2.1 au hau) dX4_setCell_21 [] rfl (by decide) (by decide) (Nat.le_of_ble_eq_true rfl) rfl ?_
  refine z_bif_eq_f C 37 dX4_setCell_24 (by decide) rfl ?_
  refine z_iload C dX4_setCell_27 rfl ?_
  refine z_if_lt_f C 37 dX4_setCell_29 (by decide) hsl ?_
  refine z_iload C dX4_setCell_32 rfl ?_
  refine z_if_ge_t C 39 dX4_setCell_34 (by decide) (Int32.not_lt.mp hsl2) ?_
  refine z_iload C dX4_setCell_39 rfl ?_
  refine z_if_lt_f C 52 dX4_setCell_41 (by decide) hv0 ?_
  refine z_iload C dX4_setCell_44 rfl ?_
  refine z_sipush C (nI 9999) dX4_setCell_46 (by decide) ?_
  refine z_icmp_le_t C 55 dX4_setCell_49 (by decide) (Int32.not_lt.mp hv1) ?_
  refine z_aload_n C 0 dX4_setCell_55 rfl rfl ?_
  refine z_get C fX4_setCell_30 0 dX4_setCell_56 rfl rfl ?_
  refine z_iconst C (nI 0) dX4_setCell_59 (by decide) ?_
  refine z_iload C dX4_setCell_60 rfl ?_
  refine z_callVr C kX0_removalOf gX4_setCell_X0_removalOf (mX0_removalOf_r X.2.1 (a 6) (a 7) (fA S) (mK S) ((rO S) i) hM) dX4_setCell_62 [6, 7] [] 6 rfl nd_6_7 rfl rfl rfl (by decide) (by decide) (Nat.le_of_ble_eq_true rfl) rfl ?_
  refine z_if_ge_f C 96 dX4_setCell_65 (by decide) (Int32.not_le.mpr hr) ?_
  refine z_aload_n C 0 dX4_setCell_68 rfl rfl ?_
  refine z_get C fX4_setCell_30 0 dX4_setCell_69 rfl rfl ?_
  refine z_iconst C (nI 1) dX4_setCell_72 (by decide) ?_
  refine z_iload C dX4_setCell_73 rfl ?_
  refine z_callVr C kX0_removalOf gX4_setCell_X0_removalOf (mX0_removalOf_c X.2.1 (a 6) (a 7) (fA S) (mK S) ((cO S) j) hM) dX4_setCell_75 [6, 7] [] 6 rfl nd_6_7 rfl rfl rfl (by decide) (by decide) (Nat.le_of_ble_eq_true rfl) rfl ?_
  refine z_if_ge_f C 96 dX4_setCell_78 (by decide) (Int32.not_le.mpr hc) ?_
  refine z_aload_n C 0 dX4_setCell_81 rfl rfl ?_
  refine z_bipush C (nI 60) dX4_setCell_82 (by decide) ?_
  refine z_iload C dX4_setCell_84 rfl ?_
  refine z_iload C dX4_setCell_86 rfl ?_
  refine z_callVr C kX4_valueUnder gX4_setCell_X4_valueUnder (mX4_valueUnder X.2.1 a (rO S) (rU S) (cO S) (cU S) (bS S) (fA S) (mK S) (tK S) 60 ((rO S) i) ((cO S) j) hur huc hM (by first | assumption | omega)) dX4_setCell_88 [0, 1, 2, 3, 4, 5, 6, 7] [] 0 rfl nd_0_1_2_3_4_5_6_7 rfl rfl rfl (by decide) (by decide) (Nat.le_of_ble_eq_true rfl) rfl ?_
  refine z_iload C dX4_setCell_91 rfl ?_
  refine z_icmp_ne_t C 99 dX4_setCell_93 (by decide) he ?_
  refine z_aload_n C 0 dX4_setCell_99 rfl rfl ?_
  refine z_get C fX4_setCell_34 0 dX4_setCell_100 rfl rfl ?_
  refine z_bif_ne_t C 131 dX4_setCell_103 (by decide) ht ?_
  refine z_aload_n C 0 dX4_setCell_131 rfl rfl ?_
  refine z_get C fX4_setCell_30 0 dX4_setCell_132 rfl rfl ?_
  refine z_bipush C (nI 60) dX4_setCell_135 (by decide) ?_
  refine z_iload C dX4_setCell_137 rfl ?_
  refine z_iload C dX4_setCell_139 rfl ?_
  refine z_callVr C kX0_settingUnder gX4_setCell_X0_settingUnder (mX0_settingUnder X.2.1 (a 6) (a 7) (fA S) (mK S) 60 ((rO S) i) ((cO S) j) hM (by first | assumption | omega)) dX4_setCell_141 [6, 7] [] 6 rfl nd_6_7 rfl rfl rfl (by decide) (by decide) (Nat.le_of_ble_eq_true rfl) rfl ?_
  refine z_top (y := nI k) (hik) ?_
  refine z_istore C dX4_setCell_144 (Nat.le_of_ble_eq_true rfl) ?_
  refine z_iload C dX4_setCell_146 rfl ?_
  refine z_nif_lt_f C 184 dX4_setCell_148 (by decide) (by omega) (by trivial) ?_
  refine z_aload_n C 0 dX4_setCell_151 rfl rfl ?_
  refine z_get C fX4_setCell_30 0 dX4_setCell_152 rfl rfl ?_
  refine z_iload C dX4_setCell_155 rfl ?_
  refine z_iconst C (nI 1) dX4_setCell_157 (by decide) ?_
  refine z_callVr C kX0_fact gX4_setCell_X0_fact (mX0_fact X.2.1 (a 6) (a 7) (fA S) (mK S) k 1 hM hk (by first | assumption | omega)) dX4_setCell_158 [6, 7] [] 6 rfl nd_6_7 rfl rfl rfl (by decide) (by decide) (Nat.le_of_ble_eq_true rfl) rfl ?_
  refine z_iload_n C 1 dX4_setCell_161 rfl rfl ?_
  refine z_icmp_ne_f C 184 dX4_setCell_162 (by decide) hby ?_
  refine z_aload_n C 0 dX4_setCell_165 rfl rfl ?_
  refine z_iload C dX4_setCell_166 rfl ?_
  refine z_aload_n C 0 dX4_setCell_168 rfl rfl ?_
  refine z_iload C dX4_setCell_169 rfl ?_
  refine z_iload C dX4_setCell_171 rfl ?_
  refine z_iload C dX4_setCell_173 rfl ?_
  refine z_callVr C kX4_valueUnder gX4_setCell_X4_valueUnder (mX4_valueUnder X.2.1 a (rO S) (rU S) (cO S) (cU S) (bS S) (fA S) (mK S) (tK S) k ((rO S) i) ((cO S) j) hur huc hM (by first | assumption | omega)) dX4_setCell_175 [0, 1, 2, 3, 4, 5, 6, 7] [.int (nI k), .ref (a 0)] 0 rfl nd_0_1_2_3_4_5_6_7 rfl rfl rfl (by decide) (by decide) (Nat.le_of_ble_eq_true rfl) rfl ?_
  refine z_iload C dX4_setCell_178 rfl ?_
  refine z_callV (wn := [((a 0), .inr (4, [.ref (a 1), .ref (a 3), .ref (a 5), .ref (a 6), .int (zb (tK (zFa S (upd (upd (fA S) (6 * k + 2) (nI 3)) (6 * k + 5) v))))])), ((a 1), .inr (2, [.ref (a 2), .int (nI (rU (zFa S (upd (upd (fA S) (6 * k + 2) (nI 3)) (6 * k + 5) v))))])), ((a 2), .inl (X.2.1.2.2.1, 12, .inl (rO (zFa S (upd (upd (fA S) (6 * k + 2) (nI 3)) (6 * k + 5) v))))), ((a 3), .inr (2, [.ref (a 4), .int (nI (cU (zFa S (upd (upd (fA S) (6 * k + 2) (nI 3)) (6 * k + 5) v))))])), ((a 4), .inl (X.2.1.2.2.1, 8, .inl (cO (zFa S (upd (upd (fA S) (6 * k + 2) (nI 3)) (6 * k + 5) v))))), ((a 5), .inl (X.2.1.2.2.1, 96, .inl (bS (zFa S (upd (upd (fA S) (6 * k + 2) (nI 3)) (6 * k + 5) v))))), ((a 6), .inr (0, [.ref (a 7), .int (nI (mK (zFa S (upd (upd (fA S) (6 * k + 2) (nI 3)) (6 * k + 5) v))))])), ((a 7), .inl (X.2.1.2.2.1, 360, .inl (fA (zFa S (upd (upd (fA S) (6 * k + 2) (nI 3)) (6 * k + 5) v)))))]) C kX4_setAgain gX4_setCell_X4_setAgain (mX4_setAgain_d X.2.1 a S k (zVU (bS S) (fA S) (mK S) k ((rO S) i) ((cO S) j)) v hS hk hb) dX4_setCell_180 [0, 1, 2, 3, 4, 5, 6, 7] [] 0 rfl rfl nd_0_1_2_3_4_5_6_7 rfl rfl rfl (by decide) (by decide) (Nat.le_of_ble_eq_true rfl) rfl rfl ?_
  exact z_iret C N dX4_setCell_183 (rfl) (rfl)

set_option maxHeartbeats 4000000 in
set_option maxRecDepth 100000 in
theorem mX4_setCell_v (E : zE) (a : Nat → Nat) (S : zSt) (au i j : Nat) (v : Int32) (k : Nat) (hS : okS S) (hau : au < 4) (hi : i < rU S) (hj : j < cU S) (hsl : ¬ rO S i < 0) (hsl2 : ¬ cO S j < 0) (hv0 : ¬ v < 0) (hv1 : ¬ nI 9999 < v) (hr : zf (pLn (fA S) (nI 1) 3 (rO S i)) (mK S) < 0) (hc : zf (pLn (fA S) (nI 3) 4 (cO S j)) (mK S) < 0) (he : ¬ zVU (bS S) (fA S) (mK S) 60 (rO S i) (cO S j) = v) (ht : tK S = true) (hik : zg (pS (fA S) (rO S i) (cO S j)) (min 60 (mK S)) = nI k) (hk : k < mK S) (hby : fA S (6 * k + 1) = nI au) (hb : ¬ zVU (bS S) (fA S) (mK S) k (rO S i) (cO S j) = v) : zM E yX4_setCell wsX4_setCell 5 [.ref (a 0), .int (nI au), .int (nI i), .int (nI j), .int v] [((a 0), .inr (4, [.ref (a 1), .ref (a 3), .ref (a 5), .ref (a 6), .int (zb (tK S))])), ((a 1), .inr (2, [.ref (a 2), .int (nI (rU S))])), ((a 2), .inl (E.2.2.1, 12, .inl (rO S))), ((a 3), .inr (2, [.ref (a 4), .int (nI (cU S))])), ((a 4), .inl (E.2.2.1, 8, .inl (cO S))), ((a 5), .inl (E.2.2.1, 96, .inl (bS S))), ((a 6), .inr (0, [.ref (a 7), .int (nI (mK S))])), ((a 7), .inl (E.2.2.1, 360, .inl (fA S)))] [((a 0), .inr (4, [.ref (a 1), .ref (a 3), .ref (a 5), .ref (a 6), .int (zb (tK (zFa S (upd (fA S) (6 * k + 5) v))))])), ((a 1), .inr (2, [.ref (a 2), .int (nI (rU (zFa S (upd (fA S) (6 * k + 5) v))))])), ((a 2), .inl (E.2.2.1, 12, .inl (rO (zFa S (upd (fA S) (6 * k + 5) v))))), ((a 3), .inr (2, [.ref (a 4), .int (nI (cU (zFa S (upd (fA S) (6 * k + 5) v))))])), ((a 4), .inl (E.2.2.1, 8, .inl (cO (zFa S (upd (fA S) (6 * k + 5) v))))), ((a 5), .inl (E.2.2.1, 96, .inl (bS (zFa S (upd (fA S) (6 * k + 5) v))))), ((a 6), .inr (0, [.ref (a 7), .int (nI (mK (zFa S (upd (fA S) (6 * k + 5) v))))])), ((a 7), .inl (E.2.2.1, 360, .inl (fA (zFa S (upd (fA S) (6 * k + 5) v)))))] (some (.int (nI k))) := by
  refine zM.of kX4_setCell (Nat.le_of_ble_eq_true rfl) rfl [some (.ref (a 0)), some (.int (nI au)), some (.int (nI i)), some (.int (nI j)), some (.int v), none, none, none] rfl (Nat.le_of_ble_eq_true rfl) ?_
  intro X eX C N
  subst eX
  obtain ⟨hur, huc, hM⟩ := id hS
  refine z_aload_n C 0 dX4_setCell_0 rfl rfl ?_
  refine z_get C fX4_setCell_14 0 dX4_setCell_1 rfl rfl ?_
  refine z_iload_n C 2 dX4_setCell_4 rfl rfl ?_
  refine z_callVr C kX2_slotAt gX4_setCell_X2_slotAt (mX2_slotAt_in X.2.1 (a 1) (a 2) 12 (rO S) (rU S) i (by first | assumption | omega) hur hi) dX4_setCell_5 [1, 2] [] 1 rfl nd_1_2 rfl rfl rfl (by decide) (by decide) (Nat.le_of_ble_eq_true rfl) rfl ?_
  refine z_istore C dX4_setCell_8 (Nat.le_of_ble_eq_true rfl) ?_
  refine z_aload_n C 0 dX4_setCell_10 rfl rfl ?_
  refine z_get C fX4_setCell_20 0 dX4_setCell_11 rfl rfl ?_
  refine z_iload_n C 3 dX4_setCell_14 rfl rfl ?_
  refine z_callVr C kX2_slotAt gX4_setCell_X2_slotAt (mX2_slotAt_in X.2.1 (a 3) (a 4) 8 (cO S) (cU S) j (by first | assumption | omega) huc hj) dX4_setCell_15 [3, 4] [] 3 rfl nd_3_4 rfl rfl rfl (by decide) (by decide) (Nat.le_of_ble_eq_true rfl) rfl ?_
  refine z_istore C dX4_setCell_18 (Nat.le_of_ble_eq_true rfl) ?_
  refine z_iload_n C 1 dX4_setCell_20 rfl rfl ?_
  refine z_callN C kX5_isAuthor nst_X4_setCell_61.1 gX4_setCell_X5_isAuthor_n61 nst_X4_setCell_61.2.1 nst_X4_setCell_61.2.2 (mX5_isAuthor_in X.2.1 au hau) dX4_setCell_21 [] rfl (by decide) (by decide) (Nat.le_of_ble_eq_true rfl) rfl ?_
  refine z_bif_eq_f C 37 dX4_setCell_24 (by decide) rfl ?_
  refine z_iload C dX4_setCell_27 rfl ?_
  refine z_if_lt_f C 37 dX4_setCell_29 (by decide) hsl ?_
  refine z_iload C dX4_setCell_32 rfl ?_
  refine z_if_ge_t C 39 dX4_setCell_34 (by decide) (Int32.not_lt.mp hsl2) ?_
  refine z_iload C dX4_setCell_39 rfl ?_
  refine z_if_lt_f C 52 dX4_setCell_41 (by decide) hv0 ?_
  refine z_iload C dX4_setCell_44 rfl ?_
  refine z_sipush C (nI 9999) dX4_setCell_46 (by decide) ?_
  refine z_icmp_le_t C 55 dX4_setCell_49 (by decide) (Int32.not_lt.mp hv1) ?_
  refine z_aload_n C 0 dX4_setCell_55 rfl rfl ?_
  refine z_get C fX4_setCell_30 0 dX4_setCell_56 rfl rfl ?_
  refine z_iconst C (nI 0) dX4_setCell_59 (by decide) ?_
  refine z_iload C dX4_setCell_60 rfl ?_
  refine z_callVr C kX0_removalOf gX4_setCell_X0_removalOf (mX0_removalOf_r X.2.1 (a 6) (a 7) (fA S) (mK S) ((rO S) i) hM) dX4_setCell_62 [6, 7] [] 6 rfl nd_6_7 rfl rfl rfl (by decide) (by decide) (Nat.le_of_ble_eq_true rfl) rfl ?_
  refine z_if_ge_f C 96 dX4_setCell_65 (by decide) (Int32.not_le.mpr hr) ?_
  refine z_aload_n C 0 dX4_setCell_68 rfl rfl ?_
  refine z_get C fX4_setCell_30 0 dX4_setCell_69 rfl rfl ?_
  refine z_iconst C (nI 1) dX4_setCell_72 (by decide) ?_
  refine z_iload C dX4_setCell_73 rfl ?_
  refine z_callVr C kX0_removalOf gX4_setCell_X0_removalOf (mX0_removalOf_c X.2.1 (a 6) (a 7) (fA S) (mK S) ((cO S) j) hM) dX4_setCell_75 [6, 7] [] 6 rfl nd_6_7 rfl rfl rfl (by decide) (by decide) (Nat.le_of_ble_eq_true rfl) rfl ?_
  refine z_if_ge_f C 96 dX4_setCell_78 (by decide) (Int32.not_le.mpr hc) ?_
  refine z_aload_n C 0 dX4_setCell_81 rfl rfl ?_
  refine z_bipush C (nI 60) dX4_setCell_82 (by decide) ?_
  refine z_iload C dX4_setCell_84 rfl ?_
  refine z_iload C dX4_setCell_86 rfl ?_
  refine z_callVr C kX4_valueUnder gX4_setCell_X4_valueUnder (mX4_valueUnder X.2.1 a (rO S) (rU S) (cO S) (cU S) (bS S) (fA S) (mK S) (tK S) 60 ((rO S) i) ((cO S) j) hur huc hM (by first | assumption | omega)) dX4_setCell_88 [0, 1, 2, 3, 4, 5, 6, 7] [] 0 rfl nd_0_1_2_3_4_5_6_7 rfl rfl rfl (by decide) (by decide) (Nat.le_of_ble_eq_true rfl) rfl ?_
  refine z_iload C dX4_setCell_91 rfl ?_
  refine z_icmp_ne_t C 99 dX4_setCell_93 (by decide) he ?_
  refine z_aload_n C 0 dX4_setCell_99 rfl rfl ?_
  refine z_get C fX4_setCell_34 0 dX4_setCell_100 rfl rfl ?_
  refine z_bif_ne_t C 131 dX4_setCell_103 (by decide) ht ?_
  refine z_aload_n C 0 dX4_setCell_131 rfl rfl ?_
  refine z_get C fX4_setCell_30 0 dX4_setCell_132 rfl rfl ?_
  refine z_bipush C (nI 60) dX4_setCell_135 (by decide) ?_
  refine z_iload C dX4_setCell_137 rfl ?_
  refine z_iload C dX4_setCell_139 rfl ?_
  refine z_callVr C kX0_settingUnder gX4_setCell_X0_settingUnder (mX0_settingUnder X.2.1 (a 6) (a 7) (fA S) (mK S) 60 ((rO S) i) ((cO S) j) hM (by first | assumption | omega)) dX4_setCell_141 [6, 7] [] 6 rfl nd_6_7 rfl rfl rfl (by decide) (by decide) (Nat.le_of_ble_eq_true rfl) rfl ?_
  refine z_top (y := nI k) (hik) ?_
  refine z_istore C dX4_setCell_144 (Nat.le_of_ble_eq_true rfl) ?_
  refine z_iload C dX4_setCell_146 rfl ?_
  refine z_nif_lt_f C 184 dX4_setCell_148 (by decide) (by omega) (by trivial) ?_
  refine z_aload_n C 0 dX4_setCell_151 rfl rfl ?_
  refine z_get C fX4_setCell_30 0 dX4_setCell_152 rfl rfl ?_
  refine z_iload C dX4_setCell_155 rfl ?_
  refine z_iconst C (nI 1) dX4_setCell_157 (by decide) ?_
  refine z_callVr C kX0_fact gX4_setCell_X0_fact (mX0_fact X.2.1 (a 6) (a 7) (fA S) (mK S) k 1 hM hk (by first | assumption | omega)) dX4_setCell_158 [6, 7] [] 6 rfl nd_6_7 rfl rfl rfl (by decide) (by decide) (Nat.le_of_ble_eq_true rfl) rfl ?_
  refine z_iload_n C 1 dX4_setCell_161 rfl rfl ?_
  refine z_icmp_ne_f C 184 dX4_setCell_162 (by decide) hby ?_
  refine z_aload_n C 0 dX4_setCell_165 rfl rfl ?_
  refine z_iload C dX4_setCell_166 rfl ?_
  refine z_aload_n C 0 dX4_setCell_168 rfl rfl ?_
  refine z_iload C dX4_setCell_169 rfl ?_
  refine z_iload C dX4_setCell_171 rfl ?_
  refine z_iload C dX4_setCell_173 rfl ?_
  refine z_callVr C kX4_valueUnder gX4_setCell_X4_valueUnder (mX4_valueUnder X.2.1 a (rO S) (rU S) (cO S) (cU S) (bS S) (fA S) (mK S) (tK S) k ((rO S) i) ((cO S) j) hur huc hM (by first | assumption | omega)) dX4_setCell_175 [0, 1, 2, 3, 4, 5, 6, 7] [.int (nI k), .ref (a 0)] 0 rfl nd_0_1_2_3_4_5_6_7 rfl rfl rfl (by decide) (by decide) (Nat.le_of_ble_eq_true rfl) rfl ?_
  refine z_iload C dX4_setCell_178 rfl ?_
  refine z_callV (wn := [((a 0), .inr (4, [.ref (a 1), .ref (a 3), .ref (a 5), .ref (a 6), .int (zb (tK (zFa S (upd (fA S) (6 * k + 5) v))))])), ((a 1), .inr (2, [.ref (a 2), .int (nI (rU (zFa S (upd (fA S) (6 * k + 5) v))))])), ((a 2), .inl (X.2.1.2.2.1, 12, .inl (rO (zFa S (upd (fA S) (6 * k + 5) v))))), ((a 3), .inr (2, [.ref (a 4), .int (nI (cU (zFa S (upd (fA S) (6 * k + 5) v))))])), ((a 4), .inl (X.2.1.2.2.1, 8, .inl (cO (zFa S (upd (fA S) (6 * k + 5) v))))), ((a 5), .inl (X.2.1.2.2.1, 96, .inl (bS (zFa S (upd (fA S) (6 * k + 5) v))))), ((a 6), .inr (0, [.ref (a 7), .int (nI (mK (zFa S (upd (fA S) (6 * k + 5) v))))])), ((a 7), .inl (X.2.1.2.2.1, 360, .inl (fA (zFa S (upd (fA S) (6 * k + 5) v)))))]) C kX4_setAgain gX4_setCell_X4_setAgain (mX4_setAgain_v X.2.1 a S k (zVU (bS S) (fA S) (mK S) k ((rO S) i) ((cO S) j)) v hS hk hb) dX4_setCell_180 [0, 1, 2, 3, 4, 5, 6, 7] [] 0 rfl rfl nd_0_1_2_3_4_5_6_7 rfl rfl rfl (by decide) (by decide) (Nat.le_of_ble_eq_true rfl) rfl rfl ?_
  exact z_iret C N dX4_setCell_183 (rfl) (rfl)

set_option maxHeartbeats 4000000 in
set_option maxRecDepth 100000 in
theorem mX4_setCell_nf (E : zE) (a : Nat → Nat) (S : zSt) (au i j : Nat) (v : Int32) (hS : okS S) (hau : au < 4) (hi : i < rU S) (hj : j < cU S) (hsl : ¬ rO S i < 0) (hsl2 : ¬ cO S j < 0) (hv0 : ¬ v < 0) (hv1 : ¬ nI 9999 < v) (hr : zf (pLn (fA S) (nI 1) 3 (rO S i)) (mK S) < 0) (hc : zf (pLn (fA S) (nI 3) 4 (cO S j)) (mK S) < 0) (he : ¬ zVU (bS S) (fA S) (mK S) 60 (rO S i) (cO S j) = v) (ht : tK S = true) (hik : zg (pS (fA S) (rO S i) (cO S j)) (min 60 (mK S)) = -5) (hf : 60 ≤ mK S) : zM E yX4_setCell wsX4_setCell 5 [.ref (a 0), .int (nI au), .int (nI i), .int (nI j), .int v] [((a 0), .inr (4, [.ref (a 1), .ref (a 3), .ref (a 5), .ref (a 6), .int (zb (tK S))])), ((a 1), .inr (2, [.ref (a 2), .int (nI (rU S))])), ((a 2), .inl (E.2.2.1, 12, .inl (rO S))), ((a 3), .inr (2, [.ref (a 4), .int (nI (cU S))])), ((a 4), .inl (E.2.2.1, 8, .inl (cO S))), ((a 5), .inl (E.2.2.1, 96, .inl (bS S))), ((a 6), .inr (0, [.ref (a 7), .int (nI (mK S))])), ((a 7), .inl (E.2.2.1, 360, .inl (fA S)))] [((a 0), .inr (4, [.ref (a 1), .ref (a 3), .ref (a 5), .ref (a 6), .int (zb (tK S))])), ((a 1), .inr (2, [.ref (a 2), .int (nI (rU S))])), ((a 2), .inl (E.2.2.1, 12, .inl (rO S))), ((a 3), .inr (2, [.ref (a 4), .int (nI (cU S))])), ((a 4), .inl (E.2.2.1, 8, .inl (cO S))), ((a 5), .inl (E.2.2.1, 96, .inl (bS S))), ((a 6), .inr (0, [.ref (a 7), .int (nI (mK S))])), ((a 7), .inl (E.2.2.1, 360, .inl (fA S)))] (some (.int (-3))) := by
  refine zM.of kX4_setCell (Nat.le_of_ble_eq_true rfl) rfl [some (.ref (a 0)), some (.int (nI au)), some (.int (nI i)), some (.int (nI j)), some (.int v), none, none, none] rfl (Nat.le_of_ble_eq_true rfl) ?_
  intro X eX C N
  subst eX
  obtain ⟨hur, huc, hM⟩ := id hS
  refine z_aload_n C 0 dX4_setCell_0 rfl rfl ?_
  refine z_get C fX4_setCell_14 0 dX4_setCell_1 rfl rfl ?_
  refine z_iload_n C 2 dX4_setCell_4 rfl rfl ?_
  refine z_callVr C kX2_slotAt gX4_setCell_X2_slotAt (mX2_slotAt_in X.2.1 (a 1) (a 2) 12 (rO S) (rU S) i (by first | assumption | omega) hur hi) dX4_setCell_5 [1, 2] [] 1 rfl nd_1_2 rfl rfl rfl (by decide) (by decide) (Nat.le_of_ble_eq_true rfl) rfl ?_
  refine z_istore C dX4_setCell_8 (Nat.le_of_ble_eq_true rfl) ?_
  refine z_aload_n C 0 dX4_setCell_10 rfl rfl ?_
  refine z_get C fX4_setCell_20 0 dX4_setCell_11 rfl rfl ?_
  refine z_iload_n C 3 dX4_setCell_14 rfl rfl ?_
  refine z_callVr C kX2_slotAt gX4_setCell_X2_slotAt (mX2_slotAt_in X.2.1 (a 3) (a 4) 8 (cO S) (cU S) j (by first | assumption | omega) huc hj) dX4_setCell_15 [3, 4] [] 3 rfl nd_3_4 rfl rfl rfl (by decide) (by decide) (Nat.le_of_ble_eq_true rfl) rfl ?_
  refine z_istore C dX4_setCell_18 (Nat.le_of_ble_eq_true rfl) ?_
  refine z_iload_n C 1 dX4_setCell_20 rfl rfl ?_
  refine z_callN C kX5_isAuthor nst_X4_setCell_61.1 gX4_setCell_X5_isAuthor_n61 nst_X4_setCell_61.2.1 nst_X4_setCell_61.2.2 (mX5_isAuthor_in X.2.1 au hau) dX4_setCell_21 [] rfl (by decide) (by decide) (Nat.le_of_ble_eq_true rfl) rfl ?_
  refine z_bif_eq_f C 37 dX4_setCell_24 (by decide) rfl ?_
  refine z_iload C dX4_setCell_27 rfl ?_
  refine z_if_lt_f C 37 dX4_setCell_29 (by decide) hsl ?_
  refine z_iload C dX4_setCell_32 rfl ?_
  refine z_if_ge_t C 39 dX4_setCell_34 (by decide) (Int32.not_lt.mp hsl2) ?_
  refine z_iload C dX4_setCell_39 rfl ?_
  refine z_if_lt_f C 52 dX4_setCell_41 (by decide) hv0 ?_
  refine z_iload C dX4_setCell_44 rfl ?_
  refine z_sipush C (nI 9999) dX4_setCell_46 (by decide) ?_
  refine z_icmp_le_t C 55 dX4_setCell_49 (by decide) (Int32.not_lt.mp hv1) ?_
  refine z_aload_n C 0 dX4_setCell_55 rfl rfl ?_
  refine z_get C fX4_setCell_30 0 dX4_setCell_56 rfl rfl ?_
  refine z_iconst C (nI 0) dX4_setCell_59 (by decide) ?_
  refine z_iload C dX4_setCell_60 rfl ?_
  refine z_callVr C kX0_removalOf gX4_setCell_X0_removalOf (mX0_removalOf_r X.2.1 (a 6) (a 7) (fA S) (mK S) ((rO S) i) hM) dX4_setCell_62 [6, 7] [] 6 rfl nd_6_7 rfl rfl rfl (by decide) (by decide) (Nat.le_of_ble_eq_true rfl) rfl ?_
  refine z_if_ge_f C 96 dX4_setCell_65 (by decide) (Int32.not_le.mpr hr) ?_
  refine z_aload_n C 0 dX4_setCell_68 rfl rfl ?_
  refine z_get C fX4_setCell_30 0 dX4_setCell_69 rfl rfl ?_
  refine z_iconst C (nI 1) dX4_setCell_72 (by decide) ?_
  refine z_iload C dX4_setCell_73 rfl ?_
  refine z_callVr C kX0_removalOf gX4_setCell_X0_removalOf (mX0_removalOf_c X.2.1 (a 6) (a 7) (fA S) (mK S) ((cO S) j) hM) dX4_setCell_75 [6, 7] [] 6 rfl nd_6_7 rfl rfl rfl (by decide) (by decide) (Nat.le_of_ble_eq_true rfl) rfl ?_
  refine z_if_ge_f C 96 dX4_setCell_78 (by decide) (Int32.not_le.mpr hc) ?_
  refine z_aload_n C 0 dX4_setCell_81 rfl rfl ?_
  refine z_bipush C (nI 60) dX4_setCell_82 (by decide) ?_
  refine z_iload C dX4_setCell_84 rfl ?_
  refine z_iload C dX4_setCell_86 rfl ?_
  refine z_callVr C kX4_valueUnder gX4_setCell_X4_valueUnder (mX4_valueUnder X.2.1 a (rO S) (rU S) (cO S) (cU S) (bS S) (fA S) (mK S) (tK S) 60 ((rO S) i) ((cO S) j) hur huc hM (by first | assumption | omega)) dX4_setCell_88 [0, 1, 2, 3, 4, 5, 6, 7] [] 0 rfl nd_0_1_2_3_4_5_6_7 rfl rfl rfl (by decide) (by decide) (Nat.le_of_ble_eq_true rfl) rfl ?_
  refine z_iload C dX4_setCell_91 rfl ?_
  refine z_icmp_ne_t C 99 dX4_setCell_93 (by decide) he ?_
  refine z_aload_n C 0 dX4_setCell_99 rfl rfl ?_
  refine z_get C fX4_setCell_34 0 dX4_setCell_100 rfl rfl ?_
  refine z_bif_ne_t C 131 dX4_setCell_103 (by decide) ht ?_
  refine z_aload_n C 0 dX4_setCell_131 rfl rfl ?_
  refine z_get C fX4_setCell_30 0 dX4_setCell_132 rfl rfl ?_
  refine z_bipush C (nI 60) dX4_setCell_135 (by decide) ?_
  refine z_iload C dX4_setCell_137 rfl ?_
  refine z_iload C dX4_setCell_139 rfl ?_
  refine z_callVr C kX0_settingUnder gX4_setCell_X0_settingUnder (mX0_settingUnder X.2.1 (a 6) (a 7) (fA S) (mK S) 60 ((rO S) i) ((cO S) j) hM (by first | assumption | omega)) dX4_setCell_141 [6, 7] [] 6 rfl nd_6_7 rfl rfl rfl (by decide) (by decide) (Nat.le_of_ble_eq_true rfl) rfl ?_
  refine z_top (y := (-5)) (hik) ?_
  refine z_istore C dX4_setCell_144 (Nat.le_of_ble_eq_true rfl) ?_
  refine z_iload C dX4_setCell_146 rfl ?_
  refine z_if_lt_t C 184 dX4_setCell_148 (by decide) (by decide) ?_
  refine z_aload_n C 0 dX4_setCell_184 rfl rfl ?_
  refine z_get C fX4_setCell_30 0 dX4_setCell_185 rfl rfl ?_
  refine z_iconst C (nI 4) dX4_setCell_188 (by decide) ?_
  refine z_iload_n C 1 dX4_setCell_189 rfl rfl ?_
  refine z_iload C dX4_setCell_190 rfl ?_
  refine z_iload C dX4_setCell_192 rfl ?_
  refine z_iload C dX4_setCell_194 rfl ?_
  refine z_callVr C kX0_add gX4_setCell_X0_add (mX0_add_full X.2.1 (a 6) (a 7) (fA S) (mK S) (nI 4) (nI au) ((rO S) i) ((cO S) j) v (by first | assumption | omega)) dX4_setCell_196 [6, 7] [] 6 rfl nd_6_7 rfl rfl rfl (by decide) (by decide) (Nat.le_of_ble_eq_true rfl) rfl ?_
  exact z_iret C N dX4_setCell_199 (rfl) (rfl)

set_option maxHeartbeats 4000000 in
set_option maxRecDepth 100000 in
theorem mX4_setCell_mf (E : zE) (a : Nat → Nat) (S : zSt) (au i j : Nat) (v : Int32) (k : Nat) (hS : okS S) (hau : au < 4) (hi : i < rU S) (hj : j < cU S) (hsl : ¬ rO S i < 0) (hsl2 : ¬ cO S j < 0) (hv0 : ¬ v < 0) (hv1 : ¬ nI 9999 < v) (hr : zf (pLn (fA S) (nI 1) 3 (rO S i)) (mK S) < 0) (hc : zf (pLn (fA S) (nI 3) 4 (cO S j)) (mK S) < 0) (he : ¬ zVU (bS S) (fA S) (mK S) 60 (rO S i) (cO S j) = v) (ht : tK S = true) (hik : zg (pS (fA S) (rO S i) (cO S j)) (min 60 (mK S)) = nI k) (hk : k < mK S) (hby : ¬ fA S (6 * k + 1) = nI au) (hf : 60 ≤ mK S) : zM E yX4_setCell wsX4_setCell 5 [.ref (a 0), .int (nI au), .int (nI i), .int (nI j), .int v] [((a 0), .inr (4, [.ref (a 1), .ref (a 3), .ref (a 5), .ref (a 6), .int (zb (tK S))])), ((a 1), .inr (2, [.ref (a 2), .int (nI (rU S))])), ((a 2), .inl (E.2.2.1, 12, .inl (rO S))), ((a 3), .inr (2, [.ref (a 4), .int (nI (cU S))])), ((a 4), .inl (E.2.2.1, 8, .inl (cO S))), ((a 5), .inl (E.2.2.1, 96, .inl (bS S))), ((a 6), .inr (0, [.ref (a 7), .int (nI (mK S))])), ((a 7), .inl (E.2.2.1, 360, .inl (fA S)))] [((a 0), .inr (4, [.ref (a 1), .ref (a 3), .ref (a 5), .ref (a 6), .int (zb (tK S))])), ((a 1), .inr (2, [.ref (a 2), .int (nI (rU S))])), ((a 2), .inl (E.2.2.1, 12, .inl (rO S))), ((a 3), .inr (2, [.ref (a 4), .int (nI (cU S))])), ((a 4), .inl (E.2.2.1, 8, .inl (cO S))), ((a 5), .inl (E.2.2.1, 96, .inl (bS S))), ((a 6), .inr (0, [.ref (a 7), .int (nI (mK S))])), ((a 7), .inl (E.2.2.1, 360, .inl (fA S)))] (some (.int (-3))) := by
  refine zM.of kX4_setCell (Nat.le_of_ble_eq_true rfl) rfl [some (.ref (a 0)), some (.int (nI au)), some (.int (nI i)), some (.int (nI j)), some (.int v), none, none, none] rfl (Nat.le_of_ble_eq_true rfl) ?_
  intro X eX C N
  subst eX
  obtain ⟨hur, huc, hM⟩ := id hS
  refine z_aload_n C 0 dX4_setCell_0 rfl rfl ?_
  refine z_get C fX4_setCell_14 0 dX4_setCell_1 rfl rfl ?_
  refine z_iload_n C 2 dX4_setCell_4 rfl rfl ?_
  refine z_callVr C kX2_slotAt gX4_setCell_X2_slotAt (mX2_slotAt_in X.2.1 (a 1) (a 2) 12 (rO S) (rU S) i (by first | assumption | omega) hur hi) dX4_setCell_5 [1, 2] [] 1 rfl nd_1_2 rfl rfl rfl (by decide) (by decide) (Nat.le_of_ble_eq_true rfl) rfl ?_
  refine z_istore C dX4_setCell_8 (Nat.le_of_ble_eq_true rfl) ?_
  refine z_aload_n C 0 dX4_setCell_10 rfl rfl ?_
  refine z_get C fX4_setCell_20 0 dX4_setCell_11 rfl rfl ?_
  refine z_iload_n C 3 dX4_setCell_14 rfl rfl ?_
  refine z_callVr C kX2_slotAt gX4_setCell_X2_slotAt (mX2_slotAt_in X.2.1 (a 3) (a 4) 8 (cO S) (cU S) j (by first | assumption | omega) huc hj) dX4_setCell_15 [3, 4] [] 3 rfl nd_3_4 rfl rfl rfl (by decide) (by decide) (Nat.le_of_ble_eq_true rfl) rfl ?_
  refine z_istore C dX4_setCell_18 (Nat.le_of_ble_eq_true rfl) ?_
  refine z_iload_n C 1 dX4_setCell_20 rfl rfl ?_
  refine z_callN C kX5_isAuthor nst_X4_setCell_61.1 gX4_setCell_X5_isAuthor_n61 nst_X4_setCell_61.2.1 nst_X4_setCell_61.2.2 (mX5_isAuthor_in X.2.1 au hau) dX4_setCell_21 [] rfl (by decide) (by decide) (Nat.le_of_ble_eq_true rfl) rfl ?_
  refine z_bif_eq_f C 37 dX4_setCell_24 (by decide) rfl ?_
  refine z_iload C dX4_setCell_27 rfl ?_
  refine z_if_lt_f C 37 dX4_setCell_29 (by decide) hsl ?_
  refine z_iload C dX4_setCell_32 rfl ?_
  refine z_if_ge_t C 39 dX4_setCell_34 (by decide) (Int32.not_lt.mp hsl2) ?_
  refine z_iload C dX4_setCell_39 rfl ?_
  refine z_if_lt_f C 52 dX4_setCell_41 (by decide) hv0 ?_
  refine z_iload C dX4_setCell_44 rfl ?_
  refine z_sipush C (nI 9999) dX4_setCell_46 (by decide) ?_
  refine z_icmp_le_t C 55 dX4_setCell_49 (by decide) (Int32.not_lt.mp hv1) ?_
  refine z_aload_n C 0 dX4_setCell_55 rfl rfl ?_
  refine z_get C fX4_setCell_30 0 dX4_setCell_56 rfl rfl ?_
  refine z_iconst C (nI 0) dX4_setCell_59 (by decide) ?_
  refine z_iload C dX4_setCell_60 rfl ?_
  refine z_callVr C kX0_removalOf gX4_setCell_X0_removalOf (mX0_removalOf_r X.2.1 (a 6) (a 7) (fA S) (mK S) ((rO S) i) hM) dX4_setCell_62 [6, 7] [] 6 rfl nd_6_7 rfl rfl rfl (by decide) (by decide) (Nat.le_of_ble_eq_true rfl) rfl ?_
  refine z_if_ge_f C 96 dX4_setCell_65 (by decide) (Int32.not_le.mpr hr) ?_
  refine z_aload_n C 0 dX4_setCell_68 rfl rfl ?_
  refine z_get C fX4_setCell_30 0 dX4_setCell_69 rfl rfl ?_
  refine z_iconst C (nI 1) dX4_setCell_72 (by decide) ?_
  refine z_iload C dX4_setCell_73 rfl ?_
  refine z_callVr C kX0_removalOf gX4_setCell_X0_removalOf (mX0_removalOf_c X.2.1 (a 6) (a 7) (fA S) (mK S) ((cO S) j) hM) dX4_setCell_75 [6, 7] [] 6 rfl nd_6_7 rfl rfl rfl (by decide) (by decide) (Nat.le_of_ble_eq_true rfl) rfl ?_
  refine z_if_ge_f C 96 dX4_setCell_78 (by decide) (Int32.not_le.mpr hc) ?_
  refine z_aload_n C 0 dX4_setCell_81 rfl rfl ?_
  refine z_bipush C (nI 60) dX4_setCell_82 (by decide) ?_
  refine z_iload C dX4_setCell_84 rfl ?_
  refine z_iload C dX4_setCell_86 rfl ?_
  refine z_callVr C kX4_valueUnder gX4_setCell_X4_valueUnder (mX4_valueUnder X.2.1 a (rO S) (rU S) (cO S) (cU S) (bS S) (fA S) (mK S) (tK S) 60 ((rO S) i) ((cO S) j) hur huc hM (by first | assumption | omega)) dX4_setCell_88 [0, 1, 2, 3, 4, 5, 6, 7] [] 0 rfl nd_0_1_2_3_4_5_6_7 rfl rfl rfl (by decide) (by decide) (Nat.le_of_ble_eq_true rfl) rfl ?_
  refine z_iload C dX4_setCell_91 rfl ?_
  refine z_icmp_ne_t C 99 dX4_setCell_93 (by decide) he ?_
  refine z_aload_n C 0 dX4_setCell_99 rfl rfl ?_
  refine z_get C fX4_setCell_34 0 dX4_setCell_100 rfl rfl ?_
  refine z_bif_ne_t C 131 dX4_setCell_103 (by decide) ht ?_
  refine z_aload_n C 0 dX4_setCell_131 rfl rfl ?_
  refine z_get C fX4_setCell_30 0 dX4_setCell_132 rfl rfl ?_
  refine z_bipush C (nI 60) dX4_setCell_135 (by decide) ?_
  refine z_iload C dX4_setCell_137 rfl ?_
  refine z_iload C dX4_setCell_139 rfl ?_
  refine z_callVr C kX0_settingUnder gX4_setCell_X0_settingUnder (mX0_settingUnder X.2.1 (a 6) (a 7) (fA S) (mK S) 60 ((rO S) i) ((cO S) j) hM (by first | assumption | omega)) dX4_setCell_141 [6, 7] [] 6 rfl nd_6_7 rfl rfl rfl (by decide) (by decide) (Nat.le_of_ble_eq_true rfl) rfl ?_
  refine z_top (y := nI k) (hik) ?_
  refine z_istore C dX4_setCell_144 (Nat.le_of_ble_eq_true rfl) ?_
  refine z_iload C dX4_setCell_146 rfl ?_
  refine z_nif_lt_f C 184 dX4_setCell_148 (by decide) (by omega) (by trivial) ?_
  refine z_aload_n C 0 dX4_setCell_151 rfl rfl ?_
  refine z_get C fX4_setCell_30 0 dX4_setCell_152 rfl rfl ?_
  refine z_iload C dX4_setCell_155 rfl ?_
  refine z_iconst C (nI 1) dX4_setCell_157 (by decide) ?_
  refine z_callVr C kX0_fact gX4_setCell_X0_fact (mX0_fact X.2.1 (a 6) (a 7) (fA S) (mK S) k 1 hM hk (by first | assumption | omega)) dX4_setCell_158 [6, 7] [] 6 rfl nd_6_7 rfl rfl rfl (by decide) (by decide) (Nat.le_of_ble_eq_true rfl) rfl ?_
  refine z_iload_n C 1 dX4_setCell_161 rfl rfl ?_
  refine z_icmp_ne_t C 184 dX4_setCell_162 (by decide) hby ?_
  refine z_aload_n C 0 dX4_setCell_184 rfl rfl ?_
  refine z_get C fX4_setCell_30 0 dX4_setCell_185 rfl rfl ?_
  refine z_iconst C (nI 4) dX4_setCell_188 (by decide) ?_
  refine z_iload_n C 1 dX4_setCell_189 rfl rfl ?_
  refine z_iload C dX4_setCell_190 rfl ?_
  refine z_iload C dX4_setCell_192 rfl ?_
  refine z_iload C dX4_setCell_194 rfl ?_
  refine z_callVr C kX0_add gX4_setCell_X0_add (mX0_add_full X.2.1 (a 6) (a 7) (fA S) (mK S) (nI 4) (nI au) ((rO S) i) ((cO S) j) v (by first | assumption | omega)) dX4_setCell_196 [6, 7] [] 6 rfl nd_6_7 rfl rfl rfl (by decide) (by decide) (Nat.le_of_ble_eq_true rfl) rfl ?_
  exact z_iret C N dX4_setCell_199 (rfl) (rfl)

set_option maxHeartbeats 4000000 in
set_option maxRecDepth 100000 in
theorem mX4_setCell_nt (E : zE) (a : Nat → Nat) (S : zSt) (au i j : Nat) (v : Int32) (hS : okS S) (hau : au < 4) (hi : i < rU S) (hj : j < cU S) (hsl : ¬ rO S i < 0) (hsl2 : ¬ cO S j < 0) (hv0 : ¬ v < 0) (hv1 : ¬ nI 9999 < v) (hr : zf (pLn (fA S) (nI 1) 3 (rO S i)) (mK S) < 0) (hc : zf (pLn (fA S) (nI 3) 4 (cO S j)) (mK S) < 0) (he : ¬ zVU (bS S) (fA S) (mK S) 60 (rO S i) (cO S j) = v) (ht : tK S = true) (hik : zg (pS (fA S) (rO S i) (cO S j)) (min 60 (mK S)) = -5) (hf : mK S < 60) : zM E yX4_setCell wsX4_setCell 5 [.ref (a 0), .int (nI au), .int (nI i), .int (nI j), .int v] [((a 0), .inr (4, [.ref (a 1), .ref (a 3), .ref (a 5), .ref (a 6), .int (zb (tK S))])), ((a 1), .inr (2, [.ref (a 2), .int (nI (rU S))])), ((a 2), .inl (E.2.2.1, 12, .inl (rO S))), ((a 3), .inr (2, [.ref (a 4), .int (nI (cU S))])), ((a 4), .inl (E.2.2.1, 8, .inl (cO S))), ((a 5), .inl (E.2.2.1, 96, .inl (bS S))), ((a 6), .inr (0, [.ref (a 7), .int (nI (mK S))])), ((a 7), .inl (E.2.2.1, 360, .inl (fA S)))] [((a 0), .inr (4, [.ref (a 1), .ref (a 3), .ref (a 5), .ref (a 6), .int (zb (tK (zNew S (nI 4) (nI au) (rO S i) (cO S j) v)))])), ((a 1), .inr (2, [.ref (a 2), .int (nI (rU (zNew S (nI 4) (nI au) (rO S i) (cO S j) v)))])), ((a 2), .inl (E.2.2.1, 12, .inl (rO (zNew S (nI 4) (nI au) (rO S i) (cO S j) v)))), ((a 3), .inr (2, [.ref (a 4), .int (nI (cU (zNew S (nI 4) (nI au) (rO S i) (cO S j) v)))])), ((a 4), .inl (E.2.2.1, 8, .inl (cO (zNew S (nI 4) (nI au) (rO S i) (cO S j) v)))), ((a 5), .inl (E.2.2.1, 96, .inl (bS (zNew S (nI 4) (nI au) (rO S i) (cO S j) v)))), ((a 6), .inr (0, [.ref (a 7), .int (nI (mK (zNew S (nI 4) (nI au) (rO S i) (cO S j) v)))])), ((a 7), .inl (E.2.2.1, 360, .inl (fA (zNew S (nI 4) (nI au) (rO S i) (cO S j) v))))] (some (.int (nI (mK S)))) := by
  refine zM.of kX4_setCell (Nat.le_of_ble_eq_true rfl) rfl [some (.ref (a 0)), some (.int (nI au)), some (.int (nI i)), some (.int (nI j)), some (.int v), none, none, none] rfl (Nat.le_of_ble_eq_true rfl) ?_
  intro X eX C N
  subst eX
  obtain ⟨hur, huc, hM⟩ := id hS
  refine z_aload_n C 0 dX4_setCell_0 rfl rfl ?_
  refine z_get C fX4_setCell_14 0 dX4_setCell_1 rfl rfl ?_
  refine z_iload_n C 2 dX4_setCell_4 rfl rfl ?_
  refine z_callVr C kX2_slotAt gX4_setCell_X2_slotAt (mX2_slotAt_in X.2.1 (a 1) (a 2) 12 (rO S) (rU S) i (by first | assumption | omega) hur hi) dX4_setCell_5 [1, 2] [] 1 rfl nd_1_2 rfl rfl rfl (by decide) (by decide) (Nat.le_of_ble_eq_true rfl) rfl ?_
  refine z_istore C dX4_setCell_8 (Nat.le_of_ble_eq_true rfl) ?_
  refine z_aload_n C 0 dX4_setCell_10 rfl rfl ?_
  refine z_get C fX4_setCell_20 0 dX4_setCell_11 rfl rfl ?_
  refine z_iload_n C 3 dX4_setCell_14 rfl rfl ?_
  refine z_callVr C kX2_slotAt gX4_setCell_X2_slotAt (mX2_slotAt_in X.2.1 (a 3) (a 4) 8 (cO S) (cU S) j (by first | assumption | omega) huc hj) dX4_setCell_15 [3, 4] [] 3 rfl nd_3_4 rfl rfl rfl (by decide) (by decide) (Nat.le_of_ble_eq_true rfl) rfl ?_
  refine z_istore C dX4_setCell_18 (Nat.le_of_ble_eq_true rfl) ?_
  refine z_iload_n C 1 dX4_setCell_20 rfl rfl ?_
  refine z_callN C kX5_isAuthor nst_X4_setCell_61.1 gX4_setCell_X5_isAuthor_n61 nst_X4_setCell_61.2.1 nst_X4_setCell_61.2.2 (mX5_isAuthor_in X.2.1 au hau) dX4_setCell_21 [] rfl (by decide) (by decide) (Nat.le_of_ble_eq_true rfl) rfl ?_
  refine z_bif_eq_f C 37 dX4_setCell_24 (by decide) rfl ?_
  refine z_iload C dX4_setCell_27 rfl ?_
  refine z_if_lt_f C 37 dX4_setCell_29 (by decide) hsl ?_
  refine z_iload C dX4_setCell_32 rfl ?_
  refine z_if_ge_t C 39 dX4_setCell_34 (by decide) (Int32.not_lt.mp hsl2) ?_
  refine z_iload C dX4_setCell_39 rfl ?_
  refine z_if_lt_f C 52 dX4_setCell_41 (by decide) hv0 ?_
  refine z_iload C dX4_setCell_44 rfl ?_
  refine z_sipush C (nI 9999) dX4_setCell_46 (by decide) ?_
  refine z_icmp_le_t C 55 dX4_setCell_49 (by decide) (Int32.not_lt.mp hv1) ?_
  refine z_aload_n C 0 dX4_setCell_55 rfl rfl ?_
  refine z_get C fX4_setCell_30 0 dX4_setCell_56 rfl rfl ?_
  refine z_iconst C (nI 0) dX4_setCell_59 (by decide) ?_
  refine z_iload C dX4_setCell_60 rfl ?_
  refine z_callVr C kX0_removalOf gX4_setCell_X0_removalOf (mX0_removalOf_r X.2.1 (a 6) (a 7) (fA S) (mK S) ((rO S) i) hM) dX4_setCell_62 [6, 7] [] 6 rfl nd_6_7 rfl rfl rfl (by decide) (by decide) (Nat.le_of_ble_eq_true rfl) rfl ?_
  refine z_if_ge_f C 96 dX4_setCell_65 (by decide) (Int32.not_le.mpr hr) ?_
  refine z_aload_n C 0 dX4_setCell_68 rfl rfl ?_
  refine z_get C fX4_setCell_30 0 dX4_setCell_69 rfl rfl ?_
  refine z_iconst C (nI 1) dX4_setCell_72 (by decide) ?_
  refine z_iload C dX4_setCell_73 rfl ?_
  refine z_callVr C kX0_removalOf gX4_setCell_X0_removalOf (mX0_removalOf_c X.2.1 (a 6) (a 7) (fA S) (mK S) ((cO S) j) hM) dX4_setCell_75 [6, 7] [] 6 rfl nd_6_7 rfl rfl rfl (by decide) (by decide) (Nat.le_of_ble_eq_true rfl) rfl ?_
  refine z_if_ge_f C 96 dX4_setCell_78 (by decide) (Int32.not_le.mpr hc) ?_
  refine z_aload_n C 0 dX4_setCell_81 rfl rfl ?_
  refine z_bipush C (nI 60) dX4_setCell_82 (by decide) ?_
  refine z_iload C dX4_setCell_84 rfl ?_
  refine z_iload C dX4_setCell_86 rfl ?_
  refine z_callVr C kX4_valueUnder gX4_setCell_X4_valueUnder (mX4_valueUnder X.2.1 a (rO S) (rU S) (cO S) (cU S) (bS S) (fA S) (mK S) (tK S) 60 ((rO S) i) ((cO S) j) hur huc hM (by first | assumption | omega)) dX4_setCell_88 [0, 1, 2, 3, 4, 5, 6, 7] [] 0 rfl nd_0_1_2_3_4_5_6_7 rfl rfl rfl (by decide) (by decide) (Nat.le_of_ble_eq_true rfl) rfl ?_
  refine z_iload C dX4_setCell_91 rfl ?_
  refine z_icmp_ne_t C 99 dX4_setCell_93 (by decide) he ?_
  refine z_aload_n C 0 dX4_setCell_99 rfl rfl ?_
  refine z_get C fX4_setCell_34 0 dX4_setCell_100 rfl rfl ?_
  refine z_bif_ne_t C 131 dX4_setCell_103 (by decide) ht ?_
  refine z_aload_n C 0 dX4_setCell_131 rfl rfl ?_
  refine z_get C fX4_setCell_30 0 dX4_setCell_132 rfl rfl ?_
  refine z_bipush C (nI 60) dX4_setCell_135 (by decide) ?_
  refine z_iload C dX4_setCell_137 rfl ?_
  refine z_iload C dX4_setCell_139 rfl ?_
  refine z_callVr C kX0_settingUnder gX4_setCell_X0_settingUnder (mX0_settingUnder X.2.1 (a 6) (a 7) (fA S) (mK S) 60 ((rO S) i) ((cO S) j) hM (by first | assumption | omega)) dX4_setCell_141 [6, 7] [] 6 rfl nd_6_7 rfl rfl rfl (by decide) (by decide) (Nat.le_of_ble_eq_true rfl) rfl ?_
  refine z_top (y := (-5)) (hik) ?_
  refine z_istore C dX4_setCell_144 (Nat.le_of_ble_eq_true rfl) ?_
  refine z_iload C dX4_setCell_146 rfl ?_
  refine z_if_lt_t C 184 dX4_setCell_148 (by decide) (by decide) ?_
  refine z_aload_n C 0 dX4_setCell_184 rfl rfl ?_
  refine z_get C fX4_setCell_30 0 dX4_setCell_185 rfl rfl ?_
  refine z_iconst C (nI 4) dX4_setCell_188 (by decide) ?_
  refine z_iload_n C 1 dX4_setCell_189 rfl rfl ?_
  refine z_iload C dX4_setCell_190 rfl ?_
  refine z_iload C dX4_setCell_192 rfl ?_
  refine z_iload C dX4_setCell_194 rfl ?_
  refine z_callV (wn := [((a 0), .inr (4, [.ref (a 1), .ref (a 3), .ref (a 5), .ref (a 6), .int (zb (tK S))])), ((a 1), .inr (2, [.ref (a 2), .int (nI (rU S))])), ((a 2), .inl (X.2.1.2.2.1, 12, .inl (rO S))), ((a 3), .inr (2, [.ref (a 4), .int (nI (cU S))])), ((a 4), .inl (X.2.1.2.2.1, 8, .inl (cO S))), ((a 5), .inl (X.2.1.2.2.1, 96, .inl (bS S))), ((a 6), .inr (0, [.ref (a 7), .int (nI ((mK S) + 1))])), ((a 7), .inl (X.2.1.2.2.1, 360, .inl (zAdd (fA S) (mK S) (nI 4) (nI au) ((rO S) i) ((cO S) j) v)))]) C kX0_add gX4_setCell_X0_add (mX0_add X.2.1 (a 6) (a 7) (fA S) (mK S) (nI 4) (nI au) ((rO S) i) ((cO S) j) v hf) dX4_setCell_196 [6, 7] [] 6 rfl rfl nd_6_7 rfl rfl rfl (by decide) (by decide) (Nat.le_of_ble_eq_true rfl) rfl rfl ?_
  exact z_iret C N dX4_setCell_199 (rfl) (rfl)

set_option maxHeartbeats 4000000 in
set_option maxRecDepth 100000 in
theorem mX4_setCell_mt (E : zE) (a : Nat → Nat) (S : zSt) (au i j : Nat) (v : Int32) (k : Nat) (hS : okS S) (hau : au < 4) (hi : i < rU S) (hj : j < cU S) (hsl : ¬ rO S i < 0) (hsl2 : ¬ cO S j < 0) (hv0 : ¬ v < 0) (hv1 : ¬ nI 9999 < v) (hr : zf (pLn (fA S) (nI 1) 3 (rO S i)) (mK S) < 0) (hc : zf (pLn (fA S) (nI 3) 4 (cO S j)) (mK S) < 0) (he : ¬ zVU (bS S) (fA S) (mK S) 60 (rO S i) (cO S j) = v) (ht : tK S = true) (hik : zg (pS (fA S) (rO S i) (cO S j)) (min 60 (mK S)) = nI k) (hk : k < mK S) (hby : ¬ fA S (6 * k + 1) = nI au) (hf : mK S < 60) : zM E yX4_setCell wsX4_setCell 5 [.ref (a 0), .int (nI au), .int (nI i), .int (nI j), .int v] [((a 0), .inr (4, [.ref (a 1), .ref (a 3), .ref (a 5), .ref (a 6), .int (zb (tK S))])), ((a 1), .inr (2, [.ref (a 2), .int (nI (rU S))])), ((a 2), .inl (E.2.2.1, 12, .inl (rO S))), ((a 3), .inr (2, [.ref (a 4), .int (nI (cU S))])), ((a 4), .inl (E.2.2.1, 8, .inl (cO S))), ((a 5), .inl (E.2.2.1, 96, .inl (bS S))), ((a 6), .inr (0, [.ref (a 7), .int (nI (mK S))])), ((a 7), .inl (E.2.2.1, 360, .inl (fA S)))] [((a 0), .inr (4, [.ref (a 1), .ref (a 3), .ref (a 5), .ref (a 6), .int (zb (tK (zNew S (nI 4) (nI au) (rO S i) (cO S j) v)))])), ((a 1), .inr (2, [.ref (a 2), .int (nI (rU (zNew S (nI 4) (nI au) (rO S i) (cO S j) v)))])), ((a 2), .inl (E.2.2.1, 12, .inl (rO (zNew S (nI 4) (nI au) (rO S i) (cO S j) v)))), ((a 3), .inr (2, [.ref (a 4), .int (nI (cU (zNew S (nI 4) (nI au) (rO S i) (cO S j) v)))])), ((a 4), .inl (E.2.2.1, 8, .inl (cO (zNew S (nI 4) (nI au) (rO S i) (cO S j) v)))), ((a 5), .inl (E.2.2.1, 96, .inl (bS (zNew S (nI 4) (nI au) (rO S i) (cO S j) v)))), ((a 6), .inr (0, [.ref (a 7), .int (nI (mK (zNew S (nI 4) (nI au) (rO S i) (cO S j) v)))])), ((a 7), .inl (E.2.2.1, 360, .inl (fA (zNew S (nI 4) (nI au) (rO S i) (cO S j) v))))] (some (.int (nI (mK S)))) := by
  refine zM.of kX4_setCell (Nat.le_of_ble_eq_true rfl) rfl [some (.ref (a 0)), some (.int (nI au)), some (.int (nI i)), some (.int (nI j)), some (.int v), none, none, none] rfl (Nat.le_of_ble_eq_true rfl) ?_
  intro X eX C N
  subst eX
  obtain ⟨hur, huc, hM⟩ := id hS
  refine z_aload_n C 0 dX4_setCell_0 rfl rfl ?_
  refine z_get C fX4_setCell_14 0 dX4_setCell_1 rfl rfl ?_
  refine z_iload_n C 2 dX4_setCell_4 rfl rfl ?_
  refine z_callVr C kX2_slotAt gX4_setCell_X2_slotAt (mX2_slotAt_in X.2.1 (a 1) (a 2) 12 (rO S) (rU S) i (by first | assumption | omega) hur hi) dX4_setCell_5 [1, 2] [] 1 rfl nd_1_2 rfl rfl rfl (by decide) (by decide) (Nat.le_of_ble_eq_true rfl) rfl ?_
  refine z_istore C dX4_setCell_8 (Nat.le_of_ble_eq_true rfl) ?_
  refine z_aload_n C 0 dX4_setCell_10 rfl rfl ?_
  refine z_get C fX4_setCell_20 0 dX4_setCell_11 rfl rfl ?_
  refine z_iload_n C 3 dX4_setCell_14 rfl rfl ?_
  refine z_callVr C kX2_slotAt gX4_setCell_X2_slotAt (mX2_slotAt_in X.2.1 (a 3) (a 4) 8 (cO S) (cU S) j (by first | assumption | omega) huc hj) dX4_setCell_15 [3, 4] [] 3 rfl nd_3_4 rfl rfl rfl (by decide) (by decide) (Nat.le_of_ble_eq_true rfl) rfl ?_
  refine z_istore C dX4_setCell_18 (Nat.le_of_ble_eq_true rfl) ?_
  refine z_iload_n C 1 dX4_setCell_20 rfl rfl ?_
  refine z_callN C kX5_isAuthor nst_X4_setCell_61.1 gX4_setCell_X5_isAuthor_n61 nst_X4_setCell_61.2.1 nst_X4_setCell_61.2.2 (mX5_isAuthor_in X.2.1 au hau) dX4_setCell_21 [] rfl (by decide) (by decide) (Nat.le_of_ble_eq_true rfl) rfl ?_
  refine z_bif_eq_f C 37 dX4_setCell_24 (by decide) rfl ?_
  refine z_iload C dX4_setCell_27 rfl ?_
  refine z_if_lt_f C 37 dX4_setCell_29 (by decide) hsl ?_
  refine z_iload C dX4_setCell_32 rfl ?_
  refine z_if_ge_t C 39 dX4_setCell_34 (by decide) (Int32.not_lt.mp hsl2) ?_
  refine z_iload C dX4_setCell_39 rfl ?_
  refine z_if_lt_f C 52 dX4_setCell_41 (by decide) hv0 ?_
  refine z_iload C dX4_setCell_44 rfl ?_
  refine z_sipush C (nI 9999) dX4_setCell_46 (by decide) ?_
  refine z_icmp_le_t C 55 dX4_setCell_49 (by decide) (Int32.not_lt.mp hv1) ?_
  refine z_aload_n C 0 dX4_setCell_55 rfl rfl ?_
  refine z_get C fX4_setCell_30 0 dX4_setCell_56 rfl rfl ?_
  refine z_iconst C (nI 0) dX4_setCell_59 (by decide) ?_
  refine z_iload C dX4_setCell_60 rfl ?_
  refine z_callVr C kX0_removalOf gX4_setCell_X0_removalOf (mX0_removalOf_r X.2.1 (a 6) (a 7) (fA S) (mK S) ((rO S) i) hM) dX4_setCell_62 [6, 7] [] 6 rfl nd_6_7 rfl rfl rfl (by decide) (by decide) (Nat.le_of_ble_eq_true rfl) rfl ?_
  refine z_if_ge_f C 96 dX4_setCell_65 (by decide) (Int32.not_le.mpr hr) ?_
  refine z_aload_n C 0 dX4_setCell_68 rfl rfl ?_
  refine z_get C fX4_setCell_30 0 dX4_setCell_69 rfl rfl ?_
  refine z_iconst C (nI 1) dX4_setCell_72 (by decide) ?_
  refine z_iload C dX4_setCell_73 rfl ?_
  refine z_callVr C kX0_removalOf gX4_setCell_X0_removalOf (mX0_removalOf_c X.2.1 (a 6) (a 7) (fA S) (mK S) ((cO S) j) hM) dX4_setCell_75 [6, 7] [] 6 rfl nd_6_7 rfl rfl rfl (by decide) (by decide) (Nat.le_of_ble_eq_true rfl) rfl ?_
  refine z_if_ge_f C 96 dX4_setCell_78 (by decide) (Int32.not_le.mpr hc) ?_
  refine z_aload_n C 0 dX4_setCell_81 rfl rfl ?_
  refine z_bipush C (nI 60) dX4_setCell_82 (by decide) ?_
  refine z_iload C dX4_setCell_84 rfl ?_
  refine z_iload C dX4_setCell_86 rfl ?_
  refine z_callVr C kX4_valueUnder gX4_setCell_X4_valueUnder (mX4_valueUnder X.2.1 a (rO S) (rU S) (cO S) (cU S) (bS S) (fA S) (mK S) (tK S) 60 ((rO S) i) ((cO S) j) hur huc hM (by first | assumption | omega)) dX4_setCell_88 [0, 1, 2, 3, 4, 5, 6, 7] [] 0 rfl nd_0_1_2_3_4_5_6_7 rfl rfl rfl (by decide) (by decide) (Nat.le_of_ble_eq_true rfl) rfl ?_
  refine z_iload C dX4_setCell_91 rfl ?_
  refine z_icmp_ne_t C 99 dX4_setCell_93 (by decide) he ?_
  refine z_aload_n C 0 dX4_setCell_99 rfl rfl ?_
  refine z_get C fX4_setCell_34 0 dX4_setCell_100 rfl rfl ?_
  refine z_bif_ne_t C 131 dX4_setCell_103 (by decide) ht ?_
  refine z_aload_n C 0 dX4_setCell_131 rfl rfl ?_
  refine z_get C fX4_setCell_30 0 dX4_setCell_132 rfl rfl ?_
  refine z_bipush C (nI 60) dX4_setCell_135 (by decide) ?_
  refine z_iload C dX4_setCell_137 rfl ?_
  refine z_iload C dX4_setCell_139 rfl ?_
  refine z_callVr C kX0_settingUnder gX4_setCell_X0_settingUnder (mX0_settingUnder X.2.1 (a 6) (a 7) (fA S) (mK S) 60 ((rO S) i) ((cO S) j) hM (by first | assumption | omega)) dX4_setCell_141 [6, 7] [] 6 rfl nd_6_7 rfl rfl rfl (by decide) (by decide) (Nat.le_of_ble_eq_true rfl) rfl ?_
  refine z_top (y := nI k) (hik) ?_
  refine z_istore C dX4_setCell_144 (Nat.le_of_ble_eq_true rfl) ?_
  refine z_iload C dX4_setCell_146 rfl ?_
  refine z_nif_lt_f C 184 dX4_setCell_148 (by decide) (by omega) (by trivial) ?_
  refine z_aload_n C 0 dX4_setCell_151 rfl rfl ?_
  refine z_get C fX4_setCell_30 0 dX4_setCell_152 rfl rfl ?_
  refine z_iload C dX4_setCell_155 rfl ?_
  refine z_iconst C (nI 1) dX4_setCell_157 (by decide) ?_
  refine z_callVr C kX0_fact gX4_setCell_X0_fact (mX0_fact X.2.1 (a 6) (a 7) (fA S) (mK S) k 1 hM hk (by first | assumption | omega)) dX4_setCell_158 [6, 7] [] 6 rfl nd_6_7 rfl rfl rfl (by decide) (by decide) (Nat.le_of_ble_eq_true rfl) rfl ?_
  refine z_iload_n C 1 dX4_setCell_161 rfl rfl ?_
  refine z_icmp_ne_t C 184 dX4_setCell_162 (by decide) hby ?_
  refine z_aload_n C 0 dX4_setCell_184 rfl rfl ?_
  refine z_get C fX4_setCell_30 0 dX4_setCell_185 rfl rfl ?_
  refine z_iconst C (nI 4) dX4_setCell_188 (by decide) ?_
  refine z_iload_n C 1 dX4_setCell_189 rfl rfl ?_
  refine z_iload C dX4_setCell_190 rfl ?_
  refine z_iload C dX4_setCell_192 rfl ?_
  refine z_iload C dX4_setCell_194 rfl ?_
  refine z_callV (wn := [((a 0), .inr (4, [.ref (a 1), .ref (a 3), .ref (a 5), .ref (a 6), .int (zb (tK S))])), ((a 1), .inr (2, [.ref (a 2), .int (nI (rU S))])), ((a 2), .inl (X.2.1.2.2.1, 12, .inl (rO S))), ((a 3), .inr (2, [.ref (a 4), .int (nI (cU S))])), ((a 4), .inl (X.2.1.2.2.1, 8, .inl (cO S))), ((a 5), .inl (X.2.1.2.2.1, 96, .inl (bS S))), ((a 6), .inr (0, [.ref (a 7), .int (nI ((mK S) + 1))])), ((a 7), .inl (X.2.1.2.2.1, 360, .inl (zAdd (fA S) (mK S) (nI 4) (nI au) ((rO S) i) ((cO S) j) v)))]) C kX0_add gX4_setCell_X0_add (mX0_add X.2.1 (a 6) (a 7) (fA S) (mK S) (nI 4) (nI au) ((rO S) i) ((cO S) j) v hf) dX4_setCell_196 [6, 7] [] 6 rfl rfl nd_6_7 rfl rfl rfl (by decide) (by decide) (Nat.le_of_ble_eq_true rfl) rfl rfl ?_
  exact z_iret C N dX4_setCell_199 (rfl) (rfl)
