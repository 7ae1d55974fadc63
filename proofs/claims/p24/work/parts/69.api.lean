/-! what the calls that tell answer, in the property's own words -/
theorem zsa_in {f : Nat → Int32} {u i : Nat} (hu : u < 100000) (hi : i < u) : zsa f u (nI i) = f i := by
  unfold zsa
  rw [if_neg, nI_clamp (by omega)]
  rintro (q | q)
  · exact nI_pos (by omega) q
  · exact absurd ((nI_leI (by omega) (by omega)).mp q) (by omega)
theorem zsa_u {f : Nat → Int32} {u i : Nat} (hu : i < 100000) (hi : u ≤ i) : zsa f u (nI i) = -5 := if_pos (Or.inr ((nI_leI (by omega) (by omega)).mpr hi))
theorem zsa_n {f : Nat → Int32} {u : Nat} : zsa f u (-1) = -5 := if_pos (Or.inl (by decide))
theorem zc_all {p : Nat → Bool} : ∀ {n : Nat}, (∀ j, j < n → p j = true) → zc p n = n
  | 0, _ => rfl
  | n + 1, h => by rw [zc_y (h n (Nat.lt_succ_self n)), zc_all (fun j hj => h j (by omega))]
theorem zc_mono {p : Nat → Bool} {i : Nat} : ∀ {j : Nat}, i ≤ j → zc p i ≤ zc p j
  | 0, h => by rw [show i = 0 by omega]; exact Nat.le_refl _
  | j + 1, h => by
    rcases Nat.lt_or_ge j i with q | q
    · rw [show i = j + 1 by omega]; exact Nat.le_refl _
    · have := zc_mono (p := p) q
      rw [zc_s]; omega
theorem zc_slt {p : Nat → Bool} {i j : Nat} (h : i < j) (hp : p i = true) : zc p i < zc p j := by
  have := zc_mono (p := p) (show i + 1 ≤ j from h)
  rw [zc_y hp] at this
  exact this
theorem pK_ex {p : Nat → Bool} : ∀ {M n : Nat}, n < zc p M → ∃ x, x < M ∧ p x = true ∧ zc p x = n
  | 0, n, h => absurd h (Nat.not_lt_zero n)
  | M + 1, n, h => by
    cases e : p M with
    | false =>
      rw [zc_n e] at h
      obtain ⟨x, hx, r⟩ := pK_ex h
      exact ⟨x, by omega, r⟩
    | true =>
      rw [zc_y e] at h
      rcases Nat.lt_or_ge n (zc p M) with q | q
      · obtain ⟨x, hx, r⟩ := pK_ex q
        exact ⟨x, by omega, r⟩
      · exact ⟨M, Nat.lt_succ_self M, e, by omega⟩
theorem pK_y {p : Nat → Bool} {x : Nat} (h : p x = true) : pK p (nI (zc p x)) x = true := by
  unfold pK
  rw [h, decide_eq_true rfl]; rfl
theorem pK_n {p : Nat → Bool} {x j : Nat} (hx : x < 100000) (hj : j < x) : pK p (nI (zc p x)) j = false := by
  unfold pK
  cases h : p j with
  | false => rfl
  | true =>
    have h1 := zc_slt hj h
    have h2 := zc_le p x
    rw [decide_eq_false (fun q => by have := (nI_eq (by omega) (by omega)).mp q; omega)]
    rfl
theorem pK_big {p : Nat → Bool} {n M j : Nat} (hM : M < 100000) (hn : n < 100000) (hj : j < M) (h : zc p M ≤ n) : pK p (nI n) j = false := by
  unfold pK
  cases e : p j with
  | false => rfl
  | true =>
    have h1 := zc_slt hj e
    have h2 := zc_le p M
    rw [decide_eq_false (fun q => by have := (nI_eq (by omega) (by omega)).mp q; omega)]
    rfl
theorem pK_m1 {p : Nat → Bool} {M j : Nat} (hM : M < 100000) (hj : j < M) : pK p (-1) j = false := by
  unfold pK
  have := zc_le p j
  rw [decide_eq_false (fun q => nI_pos (n := zc p j) (by omega) (by rw [q]; decide))]
  simp
theorem zix_pK {p : Nat → Bool} {n M : Nat} (hM : M < 100000) (h : n < zc p M) : zix (pK p (nI n)) M < M ∧ p (zix (pK p (nI n)) M) = true ∧ zc p (zix (pK p (nI n)) M) = n := by
  obtain ⟨x, hx, h1, h2⟩ := pK_ex h
  subst h2
  rw [zix_at (k := x) (pK_y h1) (fun j hj => pK_n (by omega) hj) hx]
  exact ⟨hx, h1, rfl⟩
theorem zat_pK {f : Nat → Int32} {p : Nat → Bool} {i u : Nat} (hu : u < 100000) (hi : i < u) (h : p i = true) : zat f (pK p (nI (zc p i))) u = f i := zat_at (pK_y h) (fun j hj => pK_n (by omega) hj) hi
/-! settings of a cell -/
def pX (S : zSt) (i j : Nat) : Nat → Bool := pS (fA S) (rO S i) (cO S j)
def kS (S : zSt) (i j : Nat) : Nat := zc (pX S i j) (mK S)
def sX (S : zSt) (i j n : Nat) : Nat := zix (pK (pX S i j) (nI n)) (mK S)
def cV (S : zSt) (i j : Nat) : Int32 := zVU (bS S) (fA S) (mK S) 60 (rO S i) (cO S j)
def bse (S : zSt) (i j : Nat) : Int32 := zBa (bS S) (rO S i) (cO S j)
def cnS (S : zSt) (k : Nat) : Nat := zc (pIS (fA S) (-1) (nI k)) (mK S)
def cnA (S : zSt) (a k : Nat) : Nat := zc (pIS (fA S) (nI a) (nI k)) (mK S)
def smV (S : zSt) (v : Nat) : Int32 := zTot (bS S) (fA S) (mK S) (nI v) (rO S) (rU S) (cO S) (cU S)
def sup (S : zSt) (x : Nat) : Nat → Bool := fun j => zrs (fA S) x j
def dpt (S : zSt) (x : Nat) : Nat → Bool := fun j => zrs (fA S) j x
theorem sX_t {S : zSt} {B i j n : Nat} (h : GG S B) (hn : n < kS S i j) : sX S i j n < mK S ∧ pX S i j (sX S i j n) = true ∧ zc (pX S i j) (sX S i j n) = n := zix_pK (by have := gg_M h; omega) hn
theorem pX_t {S : zSt} {i j x : Nat} (h : pX S i j x = true) : fA S (6 * x + 2) = 0 ∧ fA S (6 * x) = nI 4 ∧ fA S (6 * x + 3) = rO S i ∧ fA S (6 * x + 4) = cO S j := by
  simpa [pX, pS] using h
/-! the answers of single calls -/
theorem vL_0 {S : zSt} {B a p : Nat} (h : GG S B) (ha : a < 2) : vL S a p (nI 0) = if Nw S a p = true then nI (xI S a p) else -5 := by
  rw [← xI_zf h]
  rcases ax2 ha with e | e <;> subst e <;> rfl
theorem vL_1 {S : zSt} {B a p : Nat} (h : GG S B) (ha : a < 2) : vL S a p (nI 1) = if Dm S a p = true then nI (xR S a p) else -5 := by
  rw [← xR_zf h]
  rcases ax2 ha with e | e <;> subst e <;> rfl
theorem vS_1 (S : zSt) (a : Nat) : vS S 1 a = nDm S a := by funext p; rfl
theorem vS_2 (S : zSt) (a : Nat) : vS S 2 a = nNw S a := by funext p; rfl
theorem vL_v {S : zSt} {B a p v : Nat} (h : GG S B) (ha : a < 2) (hp : p < uU S a) (hv : v = 1 ∨ v = 2) : vL S a p (nI (v + 1)) = if vS S v a p = true then nI (zc (vS S v a) p) else -5 := by
  have hO := gg_OI h ha
  have pv : ∀ j, j < p → pE (oO S a) (oO S a p) j = false := fun i hi => by simp only [pE, decide_eq_false_iff_not]; exact fun e => absurd (hO i p (by omega) hp e) (by omega)
  rcases ax2 ha with e | e <;> subst e
  · have e1 : vL S 0 p (nI (v + 1)) = zpv (rO S) (rSh S (nI v)) (rU S) (rO S p) := by rcases hv with q | q <;> subst q <;> rfl
    rw [e1, zpv_at (f := rO S) (u := rU S) (sl := rO S p) (k := p) (by simp [pE]) pv hp, rSh_v h (by omega), zc_cg (n := p) (fun i hi => rSh_v (p := i) h (by omega))]
  · have e1 : vL S 1 p (nI (v + 1)) = zpv (cO S) (cSh S (nI v)) (cU S) (cO S p) := by rcases hv with q | q <;> subst q <;> rfl
    rw [e1, zpv_at (f := cO S) (u := cU S) (sl := cO S p) (k := p) (by simp [pE]) pv hp, cSh_v h (by omega), zc_cg (n := p) (fun i hi => cSh_v (p := i) h (by omega))]
theorem vL_2 {S : zSt} {B a p : Nat} (h : GG S B) (ha : a < 2) (hp : p < uU S a) : vL S a p (nI 2) = if Dm S a p = true then -5 else nI (zc (nDm S a) p) := by
  have := vL_v h ha hp (v := 1) (Or.inl rfl)
  rw [vS_1] at this
  rw [this]
  unfold nDm
  cases Dm S a p <;> rfl
theorem vL_3 {S : zSt} {B a p : Nat} (h : GG S B) (ha : a < 2) (hp : p < uU S a) : vL S a p (nI 3) = if Nw S a p = true then -5 else nI (zc (nNw S a) p) := by
  have := vL_v h ha hp (v := 2) (Or.inr rfl)
  rw [vS_2] at this
  rw [this]
  unfold nNw
  cases Nw S a p <;> rfl
theorem vL_4 {S : zSt} {a p : Nat} (ha : a < 2) : vL S a p (nI 4) = nI (nSt S a p) := by
  rcases ax2 ha with e | e <;> subst e <;> rfl
theorem vL_5 {S : zSt} {a p : Nat} (ha : a < 2) : vL S a p (nI 5) = -2 := by
  rcases ax2 ha with e | e <;> subst e <;> rfl
theorem kN_e {S : zSt} {B x : Nat} (h : GG S B) (hx : x < mK S) : fA S (6 * x) = nI (kN S x) ∧ kN S x < 5 := by
  unfold kN
  rcases gg_k h hx with e | e | e | e | e <;> rw [e, nI_clamp (by decide)] <;> exact ⟨rfl, by decide⟩
theorem kN_of {S : zSt} {x k : Nat} (hk : k < 100) (e : fA S (6 * x) = nI k) : kN S x = k := by unfold kN; rw [e, nI_clamp (by omega)]
theorem aN_e {S : zSt} {B x : Nat} (h : GG S B) (hx : x < mK S) : fA S (6 * x + 1) = nI (aN S x) ∧ aN S x < 4 := by
  obtain ⟨a, ha, e⟩ := (h.2.1 x hx).1
  unfold aN
  rw [e, nI_clamp (by omega)]
  exact ⟨rfl, ha⟩
theorem sN_e {S : zSt} {B x : Nat} (h : GG S B) (hx : x < mK S) : fA S (6 * x + 2) = nI (sN S x) ∧ sN S x < 4 := by
  obtain ⟨a, ha, e⟩ := (h.2.1 x hx).2.1
  unfold sN
  rw [e, nI_clamp (by omega)]
  exact ⟨rfl, ha⟩
theorem sN_0 {S : zSt} {B x : Nat} (h : GG S B) (hx : x < mK S) : fA S (6 * x + 2) = 0 ↔ sN S x = 0 := by
  obtain ⟨e, h4⟩ := sN_e h hx
  rw [e]
  exact zz_0 (by omega)
theorem sN_p {S : zSt} {x : Nat} (e : fA S (6 * x + 2) = 0) : sN S x = 0 := by unfold sN; rw [e]; decide
theorem vN_e {S : zSt} {B x : Nat} (h : GG S B) (hx : x < mK S) (hk : fA S (6 * x) = nI 4) : fA S (6 * x + 5) = nI (vN S x) ∧ vN S x < 10000 := by
  obtain ⟨a, ha, e⟩ := (h.2.1 x hx).2.2 hk
  unfold vN
  rw [e, nI_clamp (by omega)]
  exact ⟨rfl, ha⟩
theorem zf_lP {S : zSt} {B a x : Nat} (h : GG S B) (ha : a < 2) : zChg S x (nI (3 + a)) = eP (lP S a x) := by
  have e := pl1_e (f := oO S a) (u := uU S a) (sl := fA S (6 * x + (3 + a))) (by have := gg_u h a; omega)
  unfold lP
  rw [← e]
  rcases ax2 ha with q | q <;> subst q <;> rfl
theorem lP_at {S : zSt} {B a x p : Nat} (h : GG S B) (ha : a < 2) (hp : p < uU S a) (e : fA S (6 * x + (3 + a)) = oO S a p) : lP S a x = p + 1 := by
  unfold lP
  obtain ⟨⟨s, hR⟩, -⟩ := h
  rcases ax2 ha with q | q <;> subst q <;> rw [e]
  · exact pl1_at hR.2.2.2.2.1.1 hR.1.1.1.1 hp
  · exact pl1_at hR.2.2.2.2.1.2 hR.1.1.1.2.1 hp
theorem lP_no {S : zSt} {B a x : Nat} (h : GG S B) (ha : a < 2) (e : fA S (6 * x + (3 + a)) = -5) : lP S a x = 0 := by
  unfold lP
  obtain ⟨⟨s, hR⟩, -⟩ := h
  rcases ax2 ha with q | q <;> subst q <;> rw [e]
  · exact pl1_no hR.2.2.2.2.1.1 (by decide) hR.1.1.1.1
  · exact pl1_no hR.2.2.2.2.1.2 (by decide) hR.1.1.1.2.1
