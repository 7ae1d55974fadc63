/-! the worlds that the law's calls see; the property's own words: lines by axis, settings, what is good -/
noncomputable def WAd (E : zE) (x0 h0 h1 w0 : Nat) (t : Nat → Nat) (r : Nat → Nat → Nat) (S : zSt) (o kp : Nat) (Q : Nat → zSt) : va_W := [(x0, .inr (5, [.ref (t 0), .ref h0, .ref w0])), ((t 0), .inr (4, [.ref (t 1), .ref (t 3), .ref (t 5), .ref (t 6), .int (zb (tK S))])), ((t 1), .inr (2, [.ref (t 2), .int (nI (rU S))])), ((t 2), .inl (E.2.2.1, 12, .inl (rO S))), ((t 3), .inr (2, [.ref (t 4), .int (nI (cU S))])), ((t 4), .inl (E.2.2.1, 8, .inl (cO S))), ((t 5), .inl (E.2.2.1, 96, .inl (bS S))), ((t 6), .inr (0, [.ref (t 7), .int (nI (mK S))])), ((t 7), .inl (E.2.2.1, 360, .inl (fA S))), (h0, .inr (1, [.ref h1, .int (nI o), .int (nI kp)])), (h1, .inl (E.2.2.2.2, 5, .inr (.inr (.inr (.inr (fun i9 => some (r i9 0))))))), (((r 0) 0), .inr (4, [.ref ((r 0) 1), .ref ((r 0) 3), .ref ((r 0) 5), .ref ((r 0) 6), .int (zb (tK (Q 0)))])), (((r 0) 1), .inr (2, [.ref ((r 0) 2), .int (nI (rU (Q 0)))])), (((r 0) 2), .inl (E.2.2.1, 12, .inl (rO (Q 0)))), (((r 0) 3), .inr (2, [.ref ((r 0) 4), .int (nI (cU (Q 0)))])), (((r 0) 4), .inl (E.2.2.1, 8, .inl (cO (Q 0)))), (((r 0) 5), .inl (E.2.2.1, 96, .inl (bS (Q 0)))), (((r 0) 6), .inr (0, [.ref ((r 0) 7), .int (nI (mK (Q 0)))])), (((r 0) 7), .inl (E.2.2.1, 360, .inl (fA (Q 0)))), (((r 1) 0), .inr (4, [.ref ((r 1) 1), .ref ((r 1) 3), .ref ((r 1) 5), .ref ((r 1) 6), .int (zb (tK (Q 1)))])), (((r 1) 1), .inr (2, [.ref ((r 1) 2), .int (nI (rU (Q 1)))])), (((r 1) 2), .inl (E.2.2.1, 12, .inl (rO (Q 1)))), (((r 1) 3), .inr (2, [.ref ((r 1) 4), .int (nI (cU (Q 1)))])), (((r 1) 4), .inl (E.2.2.1, 8, .inl (cO (Q 1)))), (((r 1) 5), .inl (E.2.2.1, 96, .inl (bS (Q 1)))), (((r 1) 6), .inr (0, [.ref ((r 1) 7), .int (nI (mK (Q 1)))])), (((r 1) 7), .inl (E.2.2.1, 360, .inl (fA (Q 1)))), (((r 2) 0), .inr (4, [.ref ((r 2) 1), .ref ((r 2) 3), .ref ((r 2) 5), .ref ((r 2) 6), .int (zb (tK (Q 2)))])), (((r 2) 1), .inr (2, [.ref ((r 2) 2), .int (nI (rU (Q 2)))])), (((r 2) 2), .inl (E.2.2.1, 12, .inl (rO (Q 2)))), (((r 2) 3), .inr (2, [.ref ((r 2) 4), .int (nI (cU (Q 2)))])), (((r 2) 4), .inl (E.2.2.1, 8, .inl (cO (Q 2)))), (((r 2) 5), .inl (E.2.2.1, 96, .inl (bS (Q 2)))), (((r 2) 6), .inr (0, [.ref ((r 2) 7), .int (nI (mK (Q 2)))])), (((r 2) 7), .inl (E.2.2.1, 360, .inl (fA (Q 2)))), (((r 3) 0), .inr (4, [.ref ((r 3) 1), .ref ((r 3) 3), .ref ((r 3) 5), .ref ((r 3) 6), .int (zb (tK (Q 3)))])), (((r 3) 1), .inr (2, [.ref ((r 3) 2), .int (nI (rU (Q 3)))])), (((r 3) 2), .inl (E.2.2.1, 12, .inl (rO (Q 3)))), (((r 3) 3), .inr (2, [.ref ((r 3) 4), .int (nI (cU (Q 3)))])), (((r 3) 4), .inl (E.2.2.1, 8, .inl (cO (Q 3)))), (((r 3) 5), .inl (E.2.2.1, 96, .inl (bS (Q 3)))), (((r 3) 6), .inr (0, [.ref ((r 3) 7), .int (nI (mK (Q 3)))])), (((r 3) 7), .inl (E.2.2.1, 360, .inl (fA (Q 3)))), (((r 4) 0), .inr (4, [.ref ((r 4) 1), .ref ((r 4) 3), .ref ((r 4) 5), .ref ((r 4) 6), .int (zb (tK (Q 4)))])), (((r 4) 1), .inr (2, [.ref ((r 4) 2), .int (nI (rU (Q 4)))])), (((r 4) 2), .inl (E.2.2.1, 12, .inl (rO (Q 4)))), (((r 4) 3), .inr (2, [.ref ((r 4) 4), .int (nI (cU (Q 4)))])), (((r 4) 4), .inl (E.2.2.1, 8, .inl (cO (Q 4)))), (((r 4) 5), .inl (E.2.2.1, 96, .inl (bS (Q 4)))), (((r 4) 6), .inr (0, [.ref ((r 4) 7), .int (nI (mK (Q 4)))])), (((r 4) 7), .inl (E.2.2.1, 360, .inl (fA (Q 4))))]
noncomputable def WRd (E : zE) (x0 h0 h1 w0 w1 : Nat) (t : Nat → Nat) (r : Nat → Nat → Nat) (S : zSt) (o kp : Nat) (Q : Nat → zSt) (tx : Nat → Nat) (ln : Nat) (s : zPs) : va_W := [(x0, .inr (5, [.ref (t 0), .ref h0, .ref w0])), ((t 0), .inr (4, [.ref (t 1), .ref (t 3), .ref (t 5), .ref (t 6), .int (zb (tK S))])), ((t 1), .inr (2, [.ref (t 2), .int (nI (rU S))])), ((t 2), .inl (E.2.2.1, 12, .inl (rO S))), ((t 3), .inr (2, [.ref (t 4), .int (nI (cU S))])), ((t 4), .inl (E.2.2.1, 8, .inl (cO S))), ((t 5), .inl (E.2.2.1, 96, .inl (bS S))), ((t 6), .inr (0, [.ref (t 7), .int (nI (mK S))])), ((t 7), .inl (E.2.2.1, 360, .inl (fA S))), (h0, .inr (1, [.ref h1, .int (nI o), .int (nI kp)])), (h1, .inl (E.2.2.2.2, 5, .inr (.inr (.inr (.inr (fun i9 => some (r i9 0))))))), (((r 0) 0), .inr (4, [.ref ((r 0) 1), .ref ((r 0) 3), .ref ((r 0) 5), .ref ((r 0) 6), .int (zb (tK (Q 0)))])), (((r 0) 1), .inr (2, [.ref ((r 0) 2), .int (nI (rU (Q 0)))])), (((r 0) 2), .inl (E.2.2.1, 12, .inl (rO (Q 0)))), (((r 0) 3), .inr (2, [.ref ((r 0) 4), .int (nI (cU (Q 0)))])), (((r 0) 4), .inl (E.2.2.1, 8, .inl (cO (Q 0)))), (((r 0) 5), .inl (E.2.2.1, 96, .inl (bS (Q 0)))), (((r 0) 6), .inr (0, [.ref ((r 0) 7), .int (nI (mK (Q 0)))])), (((r 0) 7), .inl (E.2.2.1, 360, .inl (fA (Q 0)))), (((r 1) 0), .inr (4, [.ref ((r 1) 1), .ref ((r 1) 3), .ref ((r 1) 5), .ref ((r 1) 6), .int (zb (tK (Q 1)))])), (((r 1) 1), .inr (2, [.ref ((r 1) 2), .int (nI (rU (Q 1)))])), (((r 1) 2), .inl (E.2.2.1, 12, .inl (rO (Q 1)))), (((r 1) 3), .inr (2, [.ref ((r 1) 4), .int (nI (cU (Q 1)))])), (((r 1) 4), .inl (E.2.2.1, 8, .inl (cO (Q 1)))), (((r 1) 5), .inl (E.2.2.1, 96, .inl (bS (Q 1)))), (((r 1) 6), .inr (0, [.ref ((r 1) 7), .int (nI (mK (Q 1)))])), (((r 1) 7), .inl (E.2.2.1, 360, .inl (fA (Q 1)))), (((r 2) 0), .inr (4, [.ref ((r 2) 1), .ref ((r 2) 3), .ref ((r 2) 5), .ref ((r 2) 6), .int (zb (tK (Q 2)))])), (((r 2) 1), .inr (2, [.ref ((r 2) 2), .int (nI (rU (Q 2)))])), (((r 2) 2), .inl (E.2.2.1, 12, .inl (rO (Q 2)))), (((r 2) 3), .inr (2, [.ref ((r 2) 4), .int (nI (cU (Q 2)))])), (((r 2) 4), .inl (E.2.2.1, 8, .inl (cO (Q 2)))), (((r 2) 5), .inl (E.2.2.1, 96, .inl (bS (Q 2)))), (((r 2) 6), .inr (0, [.ref ((r 2) 7), .int (nI (mK (Q 2)))])), (((r 2) 7), .inl (E.2.2.1, 360, .inl (fA (Q 2)))), (((r 3) 0), .inr (4, [.ref ((r 3) 1), .ref ((r 3) 3), .ref ((r 3) 5), .ref ((r 3) 6), .int (zb (tK (Q 3)))])), (((r 3) 1), .inr (2, [.ref ((r 3) 2), .int (nI (rU (Q 3)))])), (((r 3) 2), .inl (E.2.2.1, 12, .inl (rO (Q 3)))), (((r 3) 3), .inr (2, [.ref ((r 3) 4), .int (nI (cU (Q 3)))])), (((r 3) 4), .inl (E.2.2.1, 8, .inl (cO (Q 3)))), (((r 3) 5), .inl (E.2.2.1, 96, .inl (bS (Q 3)))), (((r 3) 6), .inr (0, [.ref ((r 3) 7), .int (nI (mK (Q 3)))])), (((r 3) 7), .inl (E.2.2.1, 360, .inl (fA (Q 3)))), (((r 4) 0), .inr (4, [.ref ((r 4) 1), .ref ((r 4) 3), .ref ((r 4) 5), .ref ((r 4) 6), .int (zb (tK (Q 4)))])), (((r 4) 1), .inr (2, [.ref ((r 4) 2), .int (nI (rU (Q 4)))])), (((r 4) 2), .inl (E.2.2.1, 12, .inl (rO (Q 4)))), (((r 4) 3), .inr (2, [.ref ((r 4) 4), .int (nI (cU (Q 4)))])), (((r 4) 4), .inl (E.2.2.1, 8, .inl (cO (Q 4)))), (((r 4) 5), .inl (E.2.2.1, 96, .inl (bS (Q 4)))), (((r 4) 6), .inr (0, [.ref ((r 4) 7), .int (nI (mK (Q 4)))])), (((r 4) 7), .inl (E.2.2.1, 360, .inl (fA (Q 4)))), (w0, .inr (3, [.ref w1, .int (nI ln), .int (nI (oP s)), .int (oS s), .int (oA s), .int (oL s), .int (oC s), .int (oV s)])), (w1, .inl (E.2.2.2.1, 60, .inl (fun j9 => nI (tx j9))))]
noncomputable def WTd (E : zE) (x0 h0 w0 : Nat) (t : Nat → Nat) (S : zSt) : va_W := [(x0, .inr (5, [.ref (t 0), .ref h0, .ref w0])), ((t 0), .inr (4, [.ref (t 1), .ref (t 3), .ref (t 5), .ref (t 6), .int (zb (tK S))])), ((t 1), .inr (2, [.ref (t 2), .int (nI (rU S))])), ((t 2), .inl (E.2.2.1, 12, .inl (rO S))), ((t 3), .inr (2, [.ref (t 4), .int (nI (cU S))])), ((t 4), .inl (E.2.2.1, 8, .inl (cO S))), ((t 5), .inl (E.2.2.1, 96, .inl (bS S))), ((t 6), .inr (0, [.ref (t 7), .int (nI (mK S))])), ((t 7), .inl (E.2.2.1, 360, .inl (fA S)))]
noncomputable def WXd (E : zE) (x0 t0 h0 w0 w1 : Nat) (tx : Nat → Nat) (ln : Nat) (s : zPs) : va_W := [(x0, .inr (5, [.ref t0, .ref h0, .ref w0])), (w0, .inr (3, [.ref w1, .int (nI ln), .int (nI (oP s)), .int (oS s), .int (oA s), .int (oL s), .int (oC s), .int (oV s)])), (w1, .inl (E.2.2.2.1, 60, .inl (fun j9 => nI (tx j9))))]
noncomputable def WCd (E : zE) (x0 h0 h1 w0 w1 : Nat) (t : Nat → Nat) (S : zSt) (o kp : Nat) (ln : Nat) (s : zPs) : va_W := [(x0, .inr (5, [.ref (t 0), .ref h0, .ref w0])), ((t 0), .inr (4, [.ref (t 1), .ref (t 3), .ref (t 5), .ref (t 6), .int (zb (tK S))])), ((t 1), .inr (2, [.ref (t 2), .int (nI (rU S))])), ((t 2), .inl (E.2.2.1, 12, .inl (rO S))), ((t 3), .inr (2, [.ref (t 4), .int (nI (cU S))])), ((t 4), .inl (E.2.2.1, 8, .inl (cO S))), ((t 5), .inl (E.2.2.1, 96, .inl (bS S))), ((t 6), .inr (0, [.ref (t 7), .int (nI (mK S))])), ((t 7), .inl (E.2.2.1, 360, .inl (fA S))), (h0, .inr (1, [.ref h1, .int (nI o), .int (nI kp)])), (w0, .inr (3, [.ref w1, .int (nI ln), .int (nI (oP s)), .int (oS s), .int (oA s), .int (oL s), .int (oC s), .int (oV s)]))]
def uU (S : zSt) (a : Nat) : Nat := if a = 0 then rU S else cU S
def oO (S : zSt) (a : Nat) : Nat → Int32 := if a = 0 then rO S else cO S
def pI (S : zSt) (a p : Nat) : Nat → Bool := pLn (fA S) (nI (2 * a)) (3 + a) (oO S a p)
def pR (S : zSt) (a p : Nat) : Nat → Bool := pLn (fA S) (nI (2 * a + 1)) (3 + a) (oO S a p)
def xI (S : zSt) (a p : Nat) : Nat := zix (pI S a p) (mK S)
def xR (S : zSt) (a p : Nat) : Nat := zix (pR S a p) (mK S)
def Nw (S : zSt) (a p : Nat) : Bool := decide (xI S a p < mK S)
def Dm (S : zSt) (a p : Nat) : Bool := decide (xR S a p < mK S)
def nNw (S : zSt) (a : Nat) : Nat → Bool := fun q => !Nw S a q
def nDm (S : zSt) (a : Nat) : Nat → Bool := fun q => !Dm S a q
def vL (S : zSt) (a p : Nat) (wh : Int32) : Int32 := if a = 0 then zLiR S p wh else zLiC S p wh
def nSt (S : zSt) (a p : Nat) : Nat := zc (pSL (fA S) (3 + a) (oO S a p)) (mK S)
def kN (S : zSt) (x : Nat) : Nat := (fA S (6 * x)).toNatClampNeg
def aN (S : zSt) (x : Nat) : Nat := (fA S (6 * x + 1)).toNatClampNeg
def sN (S : zSt) (x : Nat) : Nat := (fA S (6 * x + 2)).toNatClampNeg
def vN (S : zSt) (x : Nat) : Nat := (fA S (6 * x + 5)).toNatClampNeg
def lP (S : zSt) (a x : Nat) : Nat := pl1 (oO S a) (uU S a) (fA S (6 * x + (3 + a)))
def bN (S : zSt) (x : Nat) : Nat := (zVB (bS S) (fA S) (mK S) x).toNatClampNeg
/-- authors, states and values are what they may be -/
def VF (S : zSt) : Prop := (∀ x, x < mK S → (∃ a, a < 4 ∧ fA S (6 * x + 1) = nI a) ∧ (∃ z, z < 4 ∧ fA S (6 * x + 2) = nI z) ∧ (fA S (6 * x) = nI 4 → ∃ v, v < 10000 ∧ fA S (6 * x + 5) = nI v)) ∧ ∀ i, i < 96 → ∃ v, v < 10000 ∧ bS S i = nI v
def GG (S : zSt) (B : Nat) : Prop := (∃ s, RR S s B) ∧ VF S
theorem gg_S {S : zSt} {B : Nat} (h : GG S B) : gS S := by obtain ⟨⟨s, hR⟩, -⟩ := h; exact hR.1.1
theorem gg_M {S : zSt} {B : Nat} (h : GG S B) : mK S ≤ 60 := (gg_S h).1.2.2
theorem gg_u {S : zSt} {B : Nat} (h : GG S B) (a : Nat) : uU S a ≤ 12 := by
  have := (gg_S h).1
  unfold uU
  split
  · exact this.1
  · have := this.2.1; omega
theorem gg_u1 {S : zSt} {B : Nat} (h : GG S B) : uU S 1 ≤ 8 := (gg_S h).1.2.1
theorem ax2 {a : Nat} (ha : a < 2) : a = 0 ∨ a = 1 := by omega
theorem gg_OI {S : zSt} {B a : Nat} (h : GG S B) (ha : a < 2) : ∀ i j, i < uU S a → j < uU S a → oO S a i = oO S a j → i = j := by
  obtain ⟨⟨s, hR⟩, -⟩ := h
  rcases ax2 ha with e | e <;> subst e
  · exact RO_inj hR.2.2.2.2.1.1 hR.1.1.1.1
  · exact RO_inj hR.2.2.2.2.1.2 hR.1.1.1.2.1
theorem gg_O {S : zSt} {B a : Nat} (h : GG S B) (ha : a < 2) {j : Nat} (hj : j < uU S a) : ∃ k, k < 12 ∧ oO S a j = nI k := by
  obtain ⟨⟨s, hR⟩, -⟩ := h
  rcases ax2 ha with e | e <;> subst e
  · exact hR.2.2.2.2.1.1.1 j (Nat.lt_of_lt_of_le hj hR.1.1.1.1)
  · obtain ⟨k, hk, e⟩ := hR.2.2.2.2.1.2.1 j (Nat.lt_of_lt_of_le hj hR.1.1.1.2.1)
    exact ⟨k, by omega, e⟩
theorem gg_O5 {S : zSt} {B a : Nat} (h : GG S B) (ha : a < 2) {j : Nat} (hj : j < uU S a) : ¬ oO S a j = -5 := by
  obtain ⟨k, hk, e⟩ := gg_O h ha hj
  rw [e]; exact nI_m5n (by omega)
theorem gg_O0 {S : zSt} {B a : Nat} (h : GG S B) (ha : a < 2) {j : Nat} (hj : j < uU S a) : ¬ oO S a j < 0 := by
  obtain ⟨k, hk, e⟩ := gg_O h ha hj
  rw [e]; exact nI_pos (by omega)
theorem gg_k {S : zSt} {B x : Nat} (h : GG S B) (hx : x < mK S) : kd5 (fA S (6 * x)) := by
  obtain ⟨⟨s, hR⟩, -⟩ := h
  exact (hR.2.2.1 x hx).2.2.2.2.2
theorem gg_5 {S : zSt} {B x : Nat} (h : GG S B) (hx : x < mK S) (hk : ¬ fA S (6 * x) = nI 4) : fA S (6 * x + 5) = -5 := by
  obtain ⟨⟨s, hR⟩, -⟩ := h
  exact (hR.2.2.1 x hx).2.2.2.2.1 hk
theorem gg_P {S : zSt} {B a x : Nat} (h : GG S B) (ha : a < 2) (hx : x < mK S) (hp : fA S (6 * x + 2) = 0) (hk : fA S (6 * x) = nI (2 * a) ∨ fA S (6 * x) = nI (2 * a + 1) ∨ fA S (6 * x) = nI 4) : ∃ p, p < uU S a ∧ fA S (6 * x + (3 + a)) = oO S a p := by
  obtain ⟨⟨s, hR⟩, -⟩ := h
  have hP := (hR.2.2.2.2.2.2.2.1 x hx).2.2 hp
  rcases ax2 ha with e | e <;> subst e
  · exact hP.1 hk
  · exact hP.2 hk
theorem gg_N {S : zSt} {B a x : Nat} (h : GG S B) (ha : a < 2) (hx : x < mK S) (hk : fA S (6 * x) = nI (2 * a) ∨ fA S (6 * x) = nI (2 * a + 1)) : fA S (6 * x + (4 - a)) = -5 := by
  obtain ⟨⟨s, hR⟩, -⟩ := h
  have hP := hR.2.2.2.2.2.2.2.1 x hx
  rcases ax2 ha with e | e <;> subst e
  · exact (hP.2.1 hk).1
  · exact (hP.1 hk).1
theorem gg_W {S : zSt} {B a x : Nat} (h : GG S B) (ha : a < 2) (hx : x < mK S) : fA S (6 * x + (3 + a)) = -5 ∨ ∃ p, p < uU S a ∧ fA S (6 * x + (3 + a)) = oO S a p := by
  obtain ⟨⟨s, hR⟩, -⟩ := h
  rcases ax2 ha with e | e <;> subst e
  · exact (hR.2.2.2.1.1 x hx).2
  · exact (hR.2.2.2.1.2 x hx).2
theorem gg_Q {S : zSt} {B a x y : Nat} (h : GG S B) (ha : a < 2) (hx : x < mK S) (hy : y < mK S) (px : fA S (6 * x + 2) = 0) (py : fA S (6 * y + 2) = 0) (hk : fA S (6 * x) = nI (2 * a) ∨ fA S (6 * x) = nI (2 * a + 1)) (e : fA S (6 * x) = fA S (6 * y)) (hs : fA S (6 * x + (3 + a)) = fA S (6 * y + (3 + a))) : x = y := by
  have n1 := gg_N h ha hx hk
  have n2 := gg_N h ha hy (by rw [← e]; exact hk)
  obtain ⟨⟨s, hR⟩, -⟩ := h
  have hQ := hR.2.2.2.2.2.2.2.2 x y hx hy px py
  rcases ax2 ha with q | q <;> subst q
  · exact (hQ hs (n1.trans n2.symm)).1 e (by rcases hk with k | k <;> rw [k] <;> decide)
  · exact (hQ (n1.trans n2.symm) hs).1 e (by rcases hk with k | k <;> rw [k] <;> decide)
theorem gg_B {S : zSt} {B i j : Nat} (h : GG S B) (hi : i < uU S 0) (hj : j < uU S 1) : ∃ v, v < 10000 ∧ zBa (bS S) (rO S i) (cO S j) = nI v := by
  obtain ⟨⟨s, hR⟩, hV⟩ := h
  obtain ⟨k, hk, ek⟩ := hR.2.2.2.2.1.1.1 i (Nat.lt_of_lt_of_le hi hR.1.1.1.1)
  obtain ⟨l, hl, el⟩ := hR.2.2.2.2.1.2.1 j (Nat.lt_of_lt_of_le hj hR.1.1.1.2.1)
  rw [ek, el, zBa_in hk hl]
  exact hV.2 _ (by omega)
/-! the changes of a line -/
theorem Nw_t {S : zSt} {a p : Nat} (h : Nw S a p = true) : xI S a p < mK S ∧ fA S (6 * xI S a p + 2) = 0 ∧ fA S (6 * xI S a p) = nI (2 * a) ∧ fA S (6 * xI S a p + (3 + a)) = oO S a p := by
  have h1 : xI S a p < mK S := of_decide_eq_true h
  have h2 : pI S a p (xI S a p) = true := zix_p h1
  simp only [pI, pLn, Bool.and_eq_true, decide_eq_true_eq] at h2
  exact ⟨h1, h2⟩
theorem Dm_t {S : zSt} {a p : Nat} (h : Dm S a p = true) : xR S a p < mK S ∧ fA S (6 * xR S a p + 2) = 0 ∧ fA S (6 * xR S a p) = nI (2 * a + 1) ∧ fA S (6 * xR S a p + (3 + a)) = oO S a p := by
  have h1 : xR S a p < mK S := of_decide_eq_true h
  have h2 : pR S a p (xR S a p) = true := zix_p h1
  simp only [pR, pLn, Bool.and_eq_true, decide_eq_true_eq] at h2
  exact ⟨h1, h2⟩
theorem zix_nf {p : Nat → Bool} {n : Nat} (h : ¬ zix p n < n) {j : Nat} (hj : j < n) : p j = false := by
  have e : zix p n = n := by have := zix_le p n; omega
  exact zix_ff (n := n) j (by omega)
theorem Nw_f {S : zSt} {a p x : Nat} (h : Nw S a p = false) (hx : x < mK S) : pI S a p x = false := zix_nf (of_decide_eq_false h) hx
theorem Dm_f {S : zSt} {a p x : Nat} (h : Dm S a p = false) (hx : x < mK S) : pR S a p x = false := zix_nf (of_decide_eq_false h) hx
theorem Nw_y {S : zSt} {a p x : Nat} (hx : x < mK S) (h1 : fA S (6 * x + 2) = 0) (h2 : fA S (6 * x) = nI (2 * a)) (h3 : fA S (6 * x + (3 + a)) = oO S a p) : Nw S a p = true := by
  cases h : Nw S a p with
  | true => rfl
  | false =>
    have q := Nw_f h hx
    simp [pI, pLn, h1, h2, h3] at q
theorem Dm_y {S : zSt} {a p x : Nat} (hx : x < mK S) (h1 : fA S (6 * x + 2) = 0) (h2 : fA S (6 * x) = nI (2 * a + 1)) (h3 : fA S (6 * x + (3 + a)) = oO S a p) : Dm S a p = true := by
  cases h : Dm S a p with
  | true => rfl
  | false =>
    have q := Dm_f h hx
    simp [pR, pLn, h1, h2, h3] at q
theorem xI_e {S : zSt} {B a p x : Nat} (h : GG S B) (ha : a < 2) (hx : x < mK S) (h1 : fA S (6 * x + 2) = 0) (h2 : fA S (6 * x) = nI (2 * a)) (h3 : fA S (6 * x + (3 + a)) = oO S a p) : xI S a p = x := by
  obtain ⟨q1, q2, q3, q4⟩ := Nw_t (Nw_y hx h1 h2 h3)
  exact gg_Q h ha q1 hx q2 h1 (Or.inl q3) (q3.trans h2.symm) (q4.trans h3.symm)
theorem xR_e {S : zSt} {B a p x : Nat} (h : GG S B) (ha : a < 2) (hx : x < mK S) (h1 : fA S (6 * x + 2) = 0) (h2 : fA S (6 * x) = nI (2 * a + 1)) (h3 : fA S (6 * x + (3 + a)) = oO S a p) : xR S a p = x := by
  obtain ⟨q1, q2, q3, q4⟩ := Dm_t (Dm_y hx h1 h2 h3)
  exact gg_Q h ha q1 hx q2 h1 (Or.inr q3) (q3.trans h2.symm) (q4.trans h3.symm)
theorem xI_zf {S : zSt} {B a p : Nat} (h : GG S B) : zf (pI S a p) (mK S) = if Nw S a p = true then nI (xI S a p) else -5 := by
  have := gg_M h
  rw [zf_eq _ _ (by omega)]
  unfold Nw xI
  simp
theorem xR_zf {S : zSt} {B a p : Nat} (h : GG S B) : zf (pR S a p) (mK S) = if Dm S a p = true then nI (xR S a p) else -5 := by
  have := gg_M h
  rw [zf_eq _ _ (by omega)]
  unfold Dm xR
  simp
theorem m5_0 : (-5 : Int32) < 0 := by decide
theorem sh_I {S : zSt} {B a p : Nat} (h : GG S B) : decide (zf (pI S a p) (mK S) < 0) = !Nw S a p := by
  have := gg_M h
  rw [xI_zf h]
  cases e : Nw S a p with
  | true => rw [if_pos rfl, decide_eq_false (nI_pos (by have := (Nw_t e).1; omega))]; rfl
  | false => rw [if_neg (by decide), decide_eq_true m5_0]; rfl
theorem sh_R {S : zSt} {B a p : Nat} (h : GG S B) : decide (zf (pR S a p) (mK S) < 0) = !Dm S a p := by
  have := gg_M h
  rw [xR_zf h]
  cases e : Dm S a p with
  | true => rw [if_pos rfl, decide_eq_false (nI_pos (by have := (Dm_t e).1; omega))]; rfl
  | false => rw [if_neg (by decide), decide_eq_true m5_0]; rfl
/-- which lines a view shows -/
def vS (S : zSt) (v a p : Nat) : Bool := if v = 0 then true else if v = 1 then !Dm S a p else !Nw S a p
theorem rSh_v {S : zSt} {B v p : Nat} (h : GG S B) (hv : v < 3) : rSh S (nI v) p = vS S v 0 p := by
  rcases (show v = 0 ∨ v = 1 ∨ v = 2 by omega) with e | e | e <;> subst e
  · rfl
  · exact sh_R (a := 0) h
  · exact sh_I (a := 0) h
theorem cSh_v {S : zSt} {B v p : Nat} (h : GG S B) (hv : v < 3) : cSh S (nI v) p = vS S v 1 p := by
  rcases (show v = 0 ∨ v = 1 ∨ v = 2 by omega) with e | e | e <;> subst e
  · rfl
  · exact sh_R (a := 1) h
  · exact sh_I (a := 1) h
