/-! acts keep the relation: tracking, states and values of changes, base values, a new change -/
theorem RR_Tk {S : zSt} {s : zMs} {B : Nat} (h : RR S s B) (b : Bool) : RR (zTk S b) (mwT s b) B :=
  ⟨h.1, ⟨h.2.1.1, h.2.1.2.1, h.2.1.2.2.1, rfl⟩, h.2.2.1, h.2.2.2.1, h.2.2.2.2.1, h.2.2.2.2.2.1, h.2.2.2.2.2.2.1, h.2.2.2.2.2.2.2.1, h.2.2.2.2.2.2.2.2⟩
theorem RR_fa {S : zSt} {s : zMs} {B : Nat} {g' Z' V' : Nat → Int32} (h : RR S s B)
    (h1 : ∀ x, x < mK S → g' (6 * x) = fA S (6 * x) ∧ g' (6 * x + 1) = fA S (6 * x + 1) ∧ g' (6 * x + 3) = fA S (6 * x + 3) ∧ g' (6 * x + 4) = fA S (6 * x + 4))
    (h2 : ∀ x, x < mK S → Z' x = g' (6 * x + 2)) (h3 : ∀ x, x < mK S → g' (6 * x + 2) = 0 → fA S (6 * x + 2) = 0)
    (h4 : ∀ x, x < mK S → (fA S (6 * x) = nI 4 → V' x = g' (6 * x + 5)) ∧ (¬ fA S (6 * x) = nI 4 → g' (6 * x + 5) = -5)) :
    RR (zFa S g') (mwV (mwZ s Z') V') B := by
  obtain ⟨a, b, hK, ⟨hX, hY⟩, hO, hB, hN, hP, hQ⟩ := h
  refine ⟨a, b, ?_, ⟨?_, ?_⟩, hO, hB, hN, ?_, ?_⟩
  · intro x hx
    obtain ⟨k1, k2, k3, k4, k5, k6⟩ := hK x hx
    obtain ⟨e1, e2, -, -⟩ := h1 x hx
    show nK s x = g' (6 * x) ∧ nY s x = g' (6 * x + 1) ∧ Z' x = g' (6 * x + 2) ∧ (g' (6 * x) = nI 4 → V' x = g' (6 * x + 5)) ∧ (¬ g' (6 * x) = nI 4 → g' (6 * x + 5) = -5) ∧ kd5 (g' (6 * x))
    rw [e1, e2]
    exact ⟨k1, k2, h2 x hx, (h4 x hx).1, (h4 x hx).2, k6⟩
  · intro x hx
    show (∀ p, p < rU S → (g' (6 * x + 3) = rO S p ↔ nR s x = mN (nS s) (nN s) 0 p)) ∧ (g' (6 * x + 3) = -5 ∨ ∃ p, p < rU S ∧ g' (6 * x + 3) = rO S p)
    rw [(h1 x hx).2.2.1]
    exact hX x hx
  · intro x hx
    show (∀ p, p < cU S → (g' (6 * x + 4) = cO S p ↔ nC s x = mN (nS s) (nN s) 1 p)) ∧ (g' (6 * x + 4) = -5 ∨ ∃ p, p < cU S ∧ g' (6 * x + 4) = cO S p)
    rw [(h1 x hx).2.2.2]
    exact hY x hx
  · intro x hx
    obtain ⟨p1, p2, p3⟩ := hP x hx
    obtain ⟨e1, -, e3, e4⟩ := h1 x hx
    show ((g' (6 * x) = nI 2 ∨ g' (6 * x) = nI 3) → g' (6 * x + 3) = -5 ∧ nR s x = -5) ∧ ((g' (6 * x) = nI 0 ∨ g' (6 * x) = nI 1) → g' (6 * x + 4) = -5 ∧ nC s x = -5) ∧
      (g' (6 * x + 2) = 0 → (g' (6 * x) = nI 0 ∨ g' (6 * x) = nI 1 ∨ g' (6 * x) = nI 4 → ∃ p, p < rU S ∧ g' (6 * x + 3) = rO S p) ∧ (g' (6 * x) = nI 2 ∨ g' (6 * x) = nI 3 ∨ g' (6 * x) = nI 4 → ∃ p, p < cU S ∧ g' (6 * x + 4) = cO S p))
    rw [e1, e3, e4]
    exact ⟨p1, p2, fun q => p3 (h3 x hx q)⟩
  · intro x y hx hy
    obtain ⟨e1, -, e3, e4⟩ := h1 x hx
    obtain ⟨f1, -, f3, f4⟩ := h1 y hy
    show g' (6 * x + 2) = 0 → g' (6 * y + 2) = 0 → g' (6 * x + 3) = g' (6 * y + 3) → g' (6 * x + 4) = g' (6 * y + 4) → (g' (6 * x) = g' (6 * y) → ¬ g' (6 * x) = nI 4 → x = y) ∧ (g' (6 * x) = nI 0 → g' (6 * y) = nI 1 → x < y) ∧ (g' (6 * x) = nI 2 → g' (6 * y) = nI 3 → x < y)
    rw [e1, e3, e4, f1, f3, f4]
    exact fun q r => hQ x y hx hy (h3 x hx q) (h3 y hy r)
theorem RR_bs {S : zSt} {s : zMs} {B : Nat} {fb fm : Nat → Int32} (h : RR S s B) (h1 : ∀ p q, p < rU S → q < cU S → zBa fb (rO S p) (cO S q) = mB fm (nS s) p q) : RR (zBs S fb) (mwB s fm) B :=
  ⟨h.1, h.2.1, h.2.2.1, h.2.2.2.1, h.2.2.2.2.1, h1, h.2.2.2.2.2.2.1, h.2.2.2.2.2.2.2.1, h.2.2.2.2.2.2.2.2⟩
theorem zAdd_lt {g : Nat → Int32} {M i : Nat} {kd au r c v : Int32} (h : i < 6 * M) : zAdd g M kd au r c v i = g i := by
  unfold zAdd
  rw [upd_ne (by omega), upd_ne (by omega), upd_ne (by omega), upd_ne (by omega), upd_ne (by omega), upd_ne (by omega)]
theorem zAdd_M {g : Nat → Int32} {M : Nat} {kd au r c v : Int32} : zAdd g M kd au r c v (6 * M) = kd ∧ zAdd g M kd au r c v (6 * M + 1) = au ∧ zAdd g M kd au r c v (6 * M + 2) = nI 0 ∧ zAdd g M kd au r c v (6 * M + 3) = r ∧ zAdd g M kd au r c v (6 * M + 4) = c ∧ zAdd g M kd au r c v (6 * M + 5) = v := by
  unfold zAdd
  refine ⟨?_, ?_, ?_, ?_, ?_, upd_eq⟩
  · rw [upd_ne (by omega), upd_ne (by omega), upd_ne (by omega), upd_ne (by omega), upd_ne (by omega), upd_eq]
  · rw [upd_ne (by omega), upd_ne (by omega), upd_ne (by omega), upd_ne (by omega), upd_eq]
  · rw [upd_ne (by omega), upd_ne (by omega), upd_ne (by omega), upd_eq]
  · rw [upd_ne (by omega), upd_ne (by omega), upd_eq]
  · rw [upd_ne (by omega), upd_eq]
theorem RR_New {S : zSt} {s : zMs} {B : Nat} {kd au r c v rn cn v' : Int32} (h : RR S s B) (hm : mK S < 60) (hk : kd5 kd)
    (hr : (∀ p, p < rU S → (r = rO S p ↔ rn = mN (nS s) (nN s) 0 p)) ∧ (r = -5 ∨ ∃ p, p < rU S ∧ r = rO S p))
    (hc : (∀ p, p < cU S → (c = cO S p ↔ cn = mN (nS s) (nN s) 1 p)) ∧ (c = -5 ∨ ∃ p, p < cU S ∧ c = cO S p))
    (hv : (kd = nI 4 → v' = v) ∧ (¬ kd = nI 4 → v = -5))
    (hn : (rn = -5 ∨ ∃ w, w < nX s ∧ rn = nI w) ∧ (cn = -5 ∨ ∃ w, w < nX s ∧ cn = nI w))
    (hp : ((kd = nI 2 ∨ kd = nI 3) → r = -5 ∧ rn = -5) ∧ ((kd = nI 0 ∨ kd = nI 1) → c = -5 ∧ cn = -5) ∧ (kd = nI 0 ∨ kd = nI 1 ∨ kd = nI 4 → ∃ p, p < rU S ∧ r = rO S p) ∧ (kd = nI 2 ∨ kd = nI 3 ∨ kd = nI 4 → ∃ p, p < cU S ∧ c = cO S p))
    (hq : ∀ y, y < mK S → fA S (6 * y + 2) = 0 → fA S (6 * y + 3) = r → fA S (6 * y + 4) = c → (kd = fA S (6 * y) → kd = nI 4) ∧ ¬ (kd = nI 0 ∧ fA S (6 * y) = nI 1) ∧ ¬ (kd = nI 2 ∧ fA S (6 * y) = nI 3)) :
    RR (zNew S kd au r c v) (mNew s kd au rn cn v') B := by
  obtain ⟨⟨a1, a2, a3, a4⟩, b, hK, ⟨hX, hY⟩, hO, hB, hN, hP, hQ⟩ := h
  obtain ⟨b1, b2, b3, b4⟩ := b
  have lt : ∀ {x w}, x < mK S → w < 6 → zAdd (fA S) (mK S) kd au r c v (6 * x + w) = fA S (6 * x + w) := fun hx hw => zAdd_lt (by omega)
  have lt0 : ∀ {x}, x < mK S → zAdd (fA S) (mK S) kd au r c v (6 * x) = fA S (6 * x) := fun hx => zAdd_lt (by omega)
  obtain ⟨m0, m1, m2, m3, m4, m5⟩ := zAdd_M (g := fA S) (M := mK S) (kd := kd) (au := au) (r := r) (c := c) (v := v)
  have m2' : zAdd (fA S) (mK S) kd au r c v (6 * mK S + 2) = 0 := m2.trans nI_0
  have uN : ∀ (f : Nat → Int32) (w : Int32) {x}, x < mK S → upd f (nM s) w x = f x := fun f w x hx => upd_ne (by omega)
  have uM : ∀ (f : Nat → Int32) (w : Int32), upd f (nM s) w (mK S) = w := fun f w => by rw [b3]; exact upd_eq
  refine ⟨⟨gS_New a1 (by omega), okM_New a2 (by omega) hk, a3, a4⟩, ⟨b1, b2, congrArg (· + 1) b3, b4⟩, ?_, ⟨?_, ?_⟩, hO, hB, ⟨hN.1, hN.2.1, hN.2.2.1, ?_⟩, ?_, ?_⟩
  · intro x hx
    show upd (nK s) (nM s) kd x = zAdd (fA S) (mK S) kd au r c v (6 * x) ∧ upd (nY s) (nM s) au x = zAdd (fA S) (mK S) kd au r c v (6 * x + 1) ∧ upd (nZ s) (nM s) (nI 0) x = zAdd (fA S) (mK S) kd au r c v (6 * x + 2) ∧ (zAdd (fA S) (mK S) kd au r c v (6 * x) = nI 4 → upd (nV s) (nM s) v' x = zAdd (fA S) (mK S) kd au r c v (6 * x + 5)) ∧ (¬ zAdd (fA S) (mK S) kd au r c v (6 * x) = nI 4 → zAdd (fA S) (mK S) kd au r c v (6 * x + 5) = -5) ∧ kd5 (zAdd (fA S) (mK S) kd au r c v (6 * x))
    rcases Nat.lt_or_ge x (mK S) with q | q
    · rw [uN _ _ q, uN _ _ q, uN _ _ q, uN _ _ q, lt0 q, lt q (by decide), lt q (by decide), lt q (by decide)]
      exact hK x q
    · have e : x = mK S := by have : x < mK S + 1 := hx; omega
      subst e
      rw [uM, uM, uM, uM, m0, m1, m2, m5]
      exact ⟨rfl, rfl, rfl, hv.1, hv.2, hk⟩
  · intro x hx
    show (∀ p, p < rU S → (zAdd (fA S) (mK S) kd au r c v (6 * x + 3) = rO S p ↔ upd (nR s) (nM s) rn x = mN (nS s) (nN s) 0 p)) ∧ (zAdd (fA S) (mK S) kd au r c v (6 * x + 3) = -5 ∨ ∃ p, p < rU S ∧ zAdd (fA S) (mK S) kd au r c v (6 * x + 3) = rO S p)
    rcases Nat.lt_or_ge x (mK S) with q | q
    · rw [uN _ _ q, lt q (by decide)]; exact hX x q
    · have e : x = mK S := by have : x < mK S + 1 := hx; omega
      subst e
      rw [uM, m3]; exact hr
  · intro x hx
    show (∀ p, p < cU S → (zAdd (fA S) (mK S) kd au r c v (6 * x + 4) = cO S p ↔ upd (nC s) (nM s) cn x = mN (nS s) (nN s) 1 p)) ∧ (zAdd (fA S) (mK S) kd au r c v (6 * x + 4) = -5 ∨ ∃ p, p < cU S ∧ zAdd (fA S) (mK S) kd au r c v (6 * x + 4) = cO S p)
    rcases Nat.lt_or_ge x (mK S) with q | q
    · rw [uN _ _ q, lt q (by decide)]; exact hY x q
    · have e : x = mK S := by have : x < mK S + 1 := hx; omega
      subst e
      rw [uM, m4]; exact hc
  · intro x hx
    show (upd (nR s) (nM s) rn x = -5 ∨ ∃ v, v < nX s ∧ upd (nR s) (nM s) rn x = nI v) ∧ (upd (nC s) (nM s) cn x = -5 ∨ ∃ v, v < nX s ∧ upd (nC s) (nM s) cn x = nI v)
    rcases Nat.lt_or_ge x (mK S) with q | q
    · rw [uN _ _ q, uN _ _ q]; exact hN.2.2.2 x (by omega)
    · have e : x = mK S := by have : x < nM s + 1 := hx; omega
      subst e
      rw [uM, uM]; exact hn
  · intro x hx
    rcases Nat.lt_or_ge x (mK S) with q | q
    · show ((zAdd (fA S) (mK S) kd au r c v (6 * x) = nI 2 ∨ zAdd (fA S) (mK S) kd au r c v (6 * x) = nI 3) → zAdd (fA S) (mK S) kd au r c v (6 * x + 3) = -5 ∧ upd (nR s) (nM s) rn x = -5) ∧ ((zAdd (fA S) (mK S) kd au r c v (6 * x) = nI 0 ∨ zAdd (fA S) (mK S) kd au r c v (6 * x) = nI 1) → zAdd (fA S) (mK S) kd au r c v (6 * x + 4) = -5 ∧ upd (nC s) (nM s) cn x = -5) ∧
        (zAdd (fA S) (mK S) kd au r c v (6 * x + 2) = 0 → (zAdd (fA S) (mK S) kd au r c v (6 * x) = nI 0 ∨ zAdd (fA S) (mK S) kd au r c v (6 * x) = nI 1 ∨ zAdd (fA S) (mK S) kd au r c v (6 * x) = nI 4 → ∃ p, p < rU S ∧ zAdd (fA S) (mK S) kd au r c v (6 * x + 3) = rO S p) ∧ (zAdd (fA S) (mK S) kd au r c v (6 * x) = nI 2 ∨ zAdd (fA S) (mK S) kd au r c v (6 * x) = nI 3 ∨ zAdd (fA S) (mK S) kd au r c v (6 * x) = nI 4 → ∃ p, p < cU S ∧ zAdd (fA S) (mK S) kd au r c v (6 * x + 4) = cO S p))
      rw [uN _ _ q, uN _ _ q, lt0 q, lt q (by decide), lt q (by decide), lt q (by decide)]
      exact hP x q
    · have e : x = mK S := by have : x < mK S + 1 := hx; omega
      subst e
      show ((zAdd (fA S) (mK S) kd au r c v (6 * mK S) = nI 2 ∨ zAdd (fA S) (mK S) kd au r c v (6 * mK S) = nI 3) → zAdd (fA S) (mK S) kd au r c v (6 * mK S + 3) = -5 ∧ upd (nR s) (nM s) rn (mK S) = -5) ∧ ((zAdd (fA S) (mK S) kd au r c v (6 * mK S) = nI 0 ∨ zAdd (fA S) (mK S) kd au r c v (6 * mK S) = nI 1) → zAdd (fA S) (mK S) kd au r c v (6 * mK S + 4) = -5 ∧ upd (nC s) (nM s) cn (mK S) = -5) ∧
        (zAdd (fA S) (mK S) kd au r c v (6 * mK S + 2) = 0 → (zAdd (fA S) (mK S) kd au r c v (6 * mK S) = nI 0 ∨ zAdd (fA S) (mK S) kd au r c v (6 * mK S) = nI 1 ∨ zAdd (fA S) (mK S) kd au r c v (6 * mK S) = nI 4 → ∃ p, p < rU S ∧ zAdd (fA S) (mK S) kd au r c v (6 * mK S + 3) = rO S p) ∧ (zAdd (fA S) (mK S) kd au r c v (6 * mK S) = nI 2 ∨ zAdd (fA S) (mK S) kd au r c v (6 * mK S) = nI 3 ∨ zAdd (fA S) (mK S) kd au r c v (6 * mK S) = nI 4 → ∃ p, p < cU S ∧ zAdd (fA S) (mK S) kd au r c v (6 * mK S + 4) = cO S p))
      rw [uM, uM, m0, m3, m4]
      exact ⟨hp.1, hp.2.1, fun _ => ⟨hp.2.2.1, hp.2.2.2⟩⟩
  · intro x y hx hy
    show zAdd (fA S) (mK S) kd au r c v (6 * x + 2) = 0 → zAdd (fA S) (mK S) kd au r c v (6 * y + 2) = 0 → zAdd (fA S) (mK S) kd au r c v (6 * x + 3) = zAdd (fA S) (mK S) kd au r c v (6 * y + 3) → zAdd (fA S) (mK S) kd au r c v (6 * x + 4) = zAdd (fA S) (mK S) kd au r c v (6 * y + 4) → (zAdd (fA S) (mK S) kd au r c v (6 * x) = zAdd (fA S) (mK S) kd au r c v (6 * y) → ¬ zAdd (fA S) (mK S) kd au r c v (6 * x) = nI 4 → x = y) ∧ (zAdd (fA S) (mK S) kd au r c v (6 * x) = nI 0 → zAdd (fA S) (mK S) kd au r c v (6 * y) = nI 1 → x < y) ∧ (zAdd (fA S) (mK S) kd au r c v (6 * x) = nI 2 → zAdd (fA S) (mK S) kd au r c v (6 * y) = nI 3 → x < y)
    rcases Nat.lt_or_ge x (mK S) with q | q
    · rcases Nat.lt_or_ge y (mK S) with t | t
      · rw [lt0 q, lt q (by decide), lt q (by decide), lt q (by decide), lt0 t, lt t (by decide), lt t (by decide), lt t (by decide)]
        exact hQ x y q t
      · have e : y = mK S := by have : y < mK S + 1 := hy; omega
        subst e
        rw [lt0 q, lt q (by decide), lt q (by decide), lt q (by decide), m0, m2, m3, m4]
        intro p1 _ p3 p4
        have z := hq x q p1 p3 p4
        exact ⟨fun e n4 => absurd (e.trans (z.1 e.symm)) n4, fun _ _ => q, fun _ _ => q⟩
    · have e : x = mK S := by have : x < mK S + 1 := hx; omega
      subst e
      rcases Nat.lt_or_ge y (mK S) with t | t
      · rw [lt0 t, lt t (by decide), lt t (by decide), lt t (by decide), m0, m2, m3, m4]
        intro _ p2 p3 p4
        have z := hq y t p2 p3.symm p4.symm
        exact ⟨fun e n4 => absurd (z.1 e) n4, fun e1 e2 => absurd ⟨e1, e2⟩ z.2.1, fun e1 e2 => absurd ⟨e1, e2⟩ z.2.2⟩
      · have e : y = mK S := by have : y < mK S + 1 := hy; omega
        subst e
        rw [m0]
        intro _ _ _ _
        exact ⟨fun _ _ => rfl, fun e1 e2 => absurd (e1.symm.trans e2) (by decide), fun e1 e2 => absurd (e1.symm.trans e2) (by decide)⟩
