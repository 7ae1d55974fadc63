/-! counting on both sides; the places of lines, settings, what is told of a change -/
theorem zc_rm {Q : Nat → Bool} {q0 : Nat} (h : Q q0 = true) : ∀ {U : Nat}, q0 < U → zc Q U = zc (fun j => Q j && !decide (j = q0)) U + 1
  | 0, hu => absurd hu (Nat.not_lt_zero _)
  | U + 1, hu => by
    rcases Nat.lt_or_ge q0 U with q | q
    · have ih := zc_rm h q
      rw [zc_s, zc_s, ih]
      have e : (Q U && !decide (U = q0)) = Q U := by rw [decide_eq_false (show ¬ U = q0 by omega)]; simp
      rw [e]
      omega
    · have e : q0 = U := by omega
      subst e
      rw [zc_s, zc_s, h]
      have e2 : zc (fun j => Q j && !decide (j = q0)) q0 = zc Q q0 := zc_cg (fun j hj => by rw [decide_eq_false (show ¬ j = q0 by omega)]; simp)
      rw [e2]
      simp
theorem zc_inj (f : Nat → Nat) : ∀ {M U : Nat} {P Q : Nat → Bool}, (∀ x, x < M → P x = true → f x < U ∧ Q (f x) = true) → (∀ x y, x < M → y < M → P x = true → P y = true → f x = f y → x = y) → zc P M ≤ zc Q U
  | 0, U, P, Q, _, _ => Nat.zero_le _
  | M + 1, U, P, Q, h1, h2 => by
    cases e : P M with
    | false =>
      rw [zc_n e]
      exact zc_inj f (fun x hx hp => h1 x (by omega) hp) (fun x y hx hy => h2 x y (by omega) (by omega))
    | true =>
      obtain ⟨a, b⟩ := h1 M (Nat.lt_succ_self M) e
      rw [zc_y e, zc_rm b a]
      refine Nat.succ_le_succ (zc_inj f (fun x hx hp => ?_) (fun x y hx hy => h2 x y (by omega) (by omega)))
      obtain ⟨c, d⟩ := h1 x (by omega) hp
      refine ⟨c, ?_⟩
      rw [d, decide_eq_false (fun q => absurd (h2 x M (by omega) (Nat.lt_succ_self M) hp e q) (by omega))]
      rfl
/-- the pending changes of a kind, and the lines that have one -/
theorem zc_lines {g : Nat → Int32} {M u w : Nat} {kd : Int32} {f : Nat → Int32} (hM : M < 2147483648)
    (hln : ∀ x, x < M → g (6 * x) = kd → g (6 * x + 2) = 0 → ∃ p, p < u ∧ g (6 * x + w) = f p)
    (hf : ∀ i j, i < u → j < u → f i = f j → i = j)
    (huq : ∀ x y, x < M → y < M → g (6 * x) = kd → g (6 * y) = kd → g (6 * x + 2) = 0 → g (6 * y + 2) = 0 → g (6 * x + w) = g (6 * y + w) → x = y) :
    zc (pPO g kd) M = zc (fun p => !decide (zf (pLn g kd w (f p)) M < 0)) u := by
  have hP : ∀ x, pPO g kd x = true → g (6 * x) = kd ∧ g (6 * x + 2) = 0 := fun x h => by simpa [pPO] using h
  have hL : ∀ x p, pLn g kd w (f p) x = true → g (6 * x + 2) = 0 ∧ g (6 * x) = kd ∧ g (6 * x + w) = f p := fun x p h => by simpa [pLn] using h
  refine Nat.le_antisymm (zc_inj (fun x => zix (fun p => decide (g (6 * x + w) = f p)) u) (fun x hx hp => ?_) (fun x y hx hy px py e => ?_)) (zc_inj (fun p => zix (pLn g kd w (f p)) M) (fun p hp hq => ?_) (fun p q hp hq hx hy e => ?_))
  · obtain ⟨a, b⟩ := hP x hp
    obtain ⟨p, hpu, e⟩ := hln x hx a b
    have h1 : zix (fun p => decide (g (6 * x + w) = f p)) u = p := zix_at (by simp [e]) (fun j hj => decide_eq_false (fun q => absurd (hf j p (by omega) hpu (q.symm.trans e)) (by omega))) hpu
    simp only [h1]
    refine ⟨hpu, ?_⟩
    have h2 : zix (pLn g kd w (f p)) M < M := by
      by_cases q : zix (pLn g kd w (f p)) M < M
      · exact q
      · exfalso
        have h3 := zix_ff (p := pLn g kd w (f p)) (n := M) x (by have := zix_le (pLn g kd w (f p)) M; omega)
        rw [show pLn g kd w (f p) x = true by simp [pLn, a, b, e]] at h3
        cases h3
    rw [zf_ix hM h2, decide_eq_false (nI_pos (by omega))]
    rfl
  · obtain ⟨a, b⟩ := hP x px
    obtain ⟨c, d⟩ := hP y py
    obtain ⟨p, hpu, e1⟩ := hln x hx a b
    obtain ⟨q, hqu, e2⟩ := hln y hy c d
    have h1 : zix (fun p => decide (g (6 * x + w) = f p)) u = p := zix_at (by simp [e1]) (fun j hj => decide_eq_false (fun z => absurd (hf j p (by omega) hpu (z.symm.trans e1)) (by omega))) hpu
    have h2 : zix (fun p => decide (g (6 * y + w) = f p)) u = q := zix_at (by simp [e2]) (fun j hj => decide_eq_false (fun z => absurd (hf j q (by omega) hqu (z.symm.trans e2)) (by omega))) hqu
    simp only [h1, h2] at e
    subst e
    exact huq x y hx hy a c b d (e1.trans e2.symm)
  · have h1 : ¬ zf (pLn g kd w (f p)) M < 0 := by simpa using hq
    have h2 := zf_nn hM h1
    obtain ⟨a, b, -⟩ := hL _ p (zix_p h2)
    exact ⟨h2, by simp [pPO, a, b]⟩
  · have h1 := zf_nn hM (show ¬ zf (pLn g kd w (f p)) M < 0 by simpa using hx)
    have h2 := zf_nn hM (show ¬ zf (pLn g kd w (f q)) M < 0 by simpa using hy)
    obtain ⟨-, -, a⟩ := hL _ p (zix_p h1)
    obtain ⟨-, -, b⟩ := hL _ q (zix_p h2)
    rw [e] at a
    exact hf p q hp hq (a.symm.trans b)
theorem RO_inj {f : Nat → Int32} {n u : Nat} (h : RO f n) (hu : u ≤ n) : ∀ i j, i < u → j < u → f i = f j → i = j := fun i j hi hj => h.2 i j (by omega) (by omega)
theorem RR_cntR {S : zSt} {s : zMs} {B : Nat} (h : RR S s B) {kd : Nat} (hk : kd = 0 ∨ kd = 1) : zc (pPO (fA S) (nI kd)) (mK S) = zc (fun p => !decide (zf (pLn (fA S) (nI kd) 3 (rO S p)) (mK S) < 0)) (rU S) := by
  obtain ⟨⟨hg, -⟩, -, -, -, ⟨hO, -⟩, -, -, hP, hQ⟩ := h
  have h12 := hg.1.1
  have h60 := hg.1.2.2
  have hk2 : ∀ {x}, fA S (6 * x) = nI kd → fA S (6 * x) = nI 0 ∨ fA S (6 * x) = nI 1 := fun {x} e => by rcases hk with q | q <;> subst q; exact Or.inl e; exact Or.inr e
  refine zc_lines (by omega) (fun x hx a b => ?_) (RO_inj hO h12) (fun x y hx hy a b c d e => ?_)
  · exact ((hP x hx).2.2 b).1 ((hk2 a).elim Or.inl (fun q => Or.inr (Or.inl q)))
  · refine (hQ x y hx hy c d e ?_).1 (a.trans b.symm) (by rw [a]; rcases hk with q | q <;> subst q <;> decide)
    rw [((hP x hx).2.1 (hk2 a)).1, ((hP y hy).2.1 (hk2 b)).1]
theorem RR_cntC {S : zSt} {s : zMs} {B : Nat} (h : RR S s B) {kd : Nat} (hk : kd = 2 ∨ kd = 3) : zc (pPO (fA S) (nI kd)) (mK S) = zc (fun p => !decide (zf (pLn (fA S) (nI kd) 4 (cO S p)) (mK S) < 0)) (cU S) := by
  obtain ⟨⟨hg, -⟩, -, -, -, ⟨-, hO⟩, -, -, hP, hQ⟩ := h
  have h8 := hg.1.2.1
  have h60 := hg.1.2.2
  have hk2 : ∀ {x}, fA S (6 * x) = nI kd → fA S (6 * x) = nI 2 ∨ fA S (6 * x) = nI 3 := fun {x} e => by rcases hk with q | q <;> subst q; exact Or.inl e; exact Or.inr e
  refine zc_lines (by omega) (fun x hx a b => ?_) (RO_inj hO h8) (fun x y hx hy a b c d e => ?_)
  · exact ((hP x hx).2.2 b).2 ((hk2 a).elim Or.inl (fun q => Or.inr (Or.inl q)))
  · refine (hQ x y hx hy c d ?_ e).1 (a.trans b.symm) (by rw [a]; rcases hk with q | q <;> subst q <;> decide)
    rw [((hP x hx).1 (hk2 a)).1, ((hP y hy).1 (hk2 b)).1]
def tNw (s : zMs) (ax p : Nat) : Bool := mNw (nZ s) (nK s) (nR s) (nC s) (nS s) (nN s) (nM s) ax p
def tDm (s : zMs) (ax p : Nat) : Bool := mDm (nZ s) (nK s) (nR s) (nC s) (nS s) (nN s) (nM s) ax p
theorem RR_new {S : zSt} {s : zMs} {B : Nat} (h : RR S s B) : zc (pPO (fA S) (nI 0)) (mK S) + zc (pPO (fA S) (nI 2)) (mK S) = zc (fun p => tNw s 0 p) (nU s 0) + zc (fun p => tNw s 1 p) (nU s 1) := by
  rw [RR_cntR h (Or.inl rfl), RR_cntC h (Or.inl rfl), h.2.1.1, h.2.1.2.1]
  congr 1
  · exact zc_cg (fun p hp => congrArg (fun z => !decide (z < 0)) (RR_rIn h hp))
  · exact zc_cg (fun p hp => congrArg (fun z => !decide (z < 0)) (RR_cIn h hp))
theorem RR_doomed {S : zSt} {s : zMs} {B : Nat} (h : RR S s B) : zc (pPO (fA S) (nI 1)) (mK S) + zc (pPO (fA S) (nI 3)) (mK S) = zc (fun p => tDm s 0 p) (nU s 0) + zc (fun p => tDm s 1 p) (nU s 1) := by
  rw [RR_cntR h (Or.inr rfl), RR_cntC h (Or.inr rfl), h.2.1.1, h.2.1.2.1]
  congr 1
  · exact zc_cg (fun p hp => congrArg (fun z => !decide (z < 0)) (RR_rRm h hp))
  · exact zc_cg (fun p hp => congrArg (fun z => !decide (z < 0)) (RR_cRm h hp))
