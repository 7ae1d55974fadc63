/-! a line that goes keeps the relation -/
theorem zLv_w {g : Nat → Int32} {w0 M x : Nat} {sl : Int32} (hx : x < M) (hw : w0 < 6) : zLv g w0 sl M (6 * x + w0) = if g (6 * x + w0) = sl then -5 else g (6 * x + w0) := by
  simp only [zLv]
  rw [show (6 * x + w0) / 6 = x by omega, show (6 * x + w0) % 6 = w0 by omega]
  by_cases q : g (6 * x + w0) = sl
  · rw [if_pos ⟨hx, q⟩, if_pos rfl, if_pos q]
  · rw [if_neg (fun z => q z.2), if_neg q]
theorem zLv_2 {g : Nat → Int32} {w0 M x : Nat} {sl : Int32} (hx : x < M) (hw : w0 ≠ 2) : zLv g w0 sl M (6 * x + 2) = if g (6 * x + w0) = sl ∧ g (6 * x + 2) = 0 then nI 3 else g (6 * x + 2) := by
  simp only [zLv]
  rw [show (6 * x + 2) / 6 = x by omega, show (6 * x + 2) % 6 = 2 by omega]
  by_cases q : g (6 * x + w0) = sl
  · rw [if_pos ⟨hx, q⟩, if_neg (fun z => hw z.symm)]
    by_cases t : g (6 * x + 2) = 0
    · rw [if_pos ⟨rfl, t⟩, if_pos ⟨q, t⟩]
    · rw [if_neg (fun z => t z.2), if_neg (fun z => t z.2)]
  · rw [if_neg (fun z => q z.2), if_neg (fun z => q z.1)]
theorem zLv_o {g : Nat → Int32} {w0 M x w : Nat} {sl : Int32} (hw : w < 6) (h1 : w ≠ w0) (h2 : w ≠ 2) : zLv g w0 sl M (6 * x + w) = g (6 * x + w) := by
  simp only [zLv]
  rw [show (6 * x + w) / 6 = x by omega, show (6 * x + w) % 6 = w by omega]
  simp [h1, h2]
def shf (p i : Nat) : Nat := if p ≤ i then i + 1 else i
theorem shf_lt {p i u : Nat} (h : i < u - 1) : shf p i < u := by unfold shf; split <;> omega
theorem shf_ne {p i : Nat} : shf p i ≠ p := by unfold shf; split <;> omega
theorem shf_inj {p i j : Nat} (h : shf p i = shf p j) : i = j := by unfold shf at h; split at h <;> split at h <;> omega
theorem shf_ex {p q u : Nat} (hq : q < u) (hp : p < u) (h : q ≠ p) : ∃ i, i < u - 1 ∧ shf p i = q := by
  rcases Nat.lt_or_ge q p with t | t
  · exact ⟨q, by omega, by unfold shf; rw [if_neg (by omega)]⟩
  · exact ⟨q - 1, by omega, by unfold shf; rw [if_pos (by omega)]; omega⟩
/-- the order behind a line's going -/
theorem zCl_at {f : Nat → Int32} {n u p : Nat} (hf : RO f n) (hu : u ≤ n) (hp : p < u) : zix (pE f (f p)) u = p :=
  zix_at (by simp [pE]) (fun j hj => by simp only [pE, decide_eq_false_iff_not]; exact fun e => absurd (hf.2 j p (by omega) (by omega) e) (by omega)) hp
theorem zClu_p {f : Nat → Int32} {n u p : Nat} (hf : RO f n) (hu : u ≤ n) (hp : p < u) : zClu f u (f p) = u - 1 := zClu_y (by rw [zCl_at hf hu hp]; exact hp)
theorem zCl_p {f : Nat → Int32} {n u p i : Nat} (hf : RO f n) (hu : u ≤ n) (hp : p < u) (hi : i < u - 1) : zCl f u (f p) i = f (shf p i) := by
  rw [zCl_y (by rw [zCl_at hf hu hp]; exact hp), zCl_at hf hu hp, upd_ne (by omega)]
  unfold zClL shf
  by_cases q : p ≤ i
  · rw [if_pos ⟨q, hi⟩, if_pos q]
  · rw [if_neg (fun z => q z.1), if_neg q]
theorem zCl_RO {f : Nat → Int32} {n u p : Nat} (hf : RO f n) (hu : u ≤ n) (hp : p < u) : RO (zCl f u (f p)) n := by
  have e : ∀ i, zCl f u (f p) i = f (if i = u - 1 then p else if p ≤ i ∧ i < u - 1 then i + 1 else i) := by
    intro i
    rw [zCl_y (by rw [zCl_at hf hu hp]; exact hp), zCl_at hf hu hp]
    simp only [upd, zClL]
    by_cases a : i = u - 1
    · rw [if_pos a, if_pos a]
    · rw [if_neg a, if_neg a]
      by_cases b : p ≤ i ∧ i < u - 1
      · rw [if_pos b, if_pos b]
      · rw [if_neg b, if_neg b]
  refine ⟨fun j hj => ?_, fun i j hi hj q => ?_⟩
  · rw [e]
    refine hf.1 _ ?_
    split
    · omega
    · split <;> omega
  · rw [e, e] at q
    have q2 := hf.2 _ _ (by split; omega; split <;> omega) (by split; omega; split <;> omega) q
    split at q2 <;> split at q2 <;> (try split at q2) <;> (try split at q2) <;> omega
theorem RO_m5 {f : Nat → Int32} {n p : Nat} (hf : RO f n) (hn : n ≤ 12) (hp : p < n) : ¬ (-5 : Int32) = f p := by
  obtain ⟨k, hk, e⟩ := hf.1 p hp
  rw [e]
  exact fun q => nI_m5 (by omega) q.symm
theorem RR_DrR {S : zSt} {s : zMs} {B p : Nat} {Z' : Nat → Int32} (h : RR S s B) (hp : p < rU S) (hZ : ∀ x, x < mK S → Z' x = zLv (fA S) 3 (rO S p) (mK S) (6 * x + 2)) : RR (zDrR S (rO S p)) (mTk (mwZ s Z') 0 p) B := by
  obtain ⟨⟨a1, a2, a3, a4⟩, ⟨b1, b2, b3, b4⟩, hK, ⟨hX, hY⟩, ⟨hO, hO2⟩, hB, hN, hP, hQ⟩ := h
  have h12 := a1.1.1
  have h8 := a1.1.2.1
  have gw : ∀ {x}, x < mK S → zLv (fA S) 3 (rO S p) (mK S) (6 * x + 3) = if fA S (6 * x + 3) = rO S p then -5 else fA S (6 * x + 3) := fun hx => zLv_w hx (by decide)
  have g2 : ∀ {x}, x < mK S → zLv (fA S) 3 (rO S p) (mK S) (6 * x + 2) = if fA S (6 * x + 3) = rO S p ∧ fA S (6 * x + 2) = 0 then nI 3 else fA S (6 * x + 2) := fun hx => zLv_2 hx (by decide)
  have g0 : ∀ {x}, zLv (fA S) 3 (rO S p) (mK S) (6 * x) = fA S (6 * x) := fun {x} => zLv_o (w := 0) (by decide) (by decide) (by decide)
  have g1 : ∀ {x}, zLv (fA S) 3 (rO S p) (mK S) (6 * x + 1) = fA S (6 * x + 1) := zLv_o (by decide) (by decide) (by decide)
  have gv : ∀ {x}, zLv (fA S) 3 (rO S p) (mK S) (6 * x + 4) = fA S (6 * x + 4) := zLv_o (by decide) (by decide) (by decide)
  have g5 : ∀ {x}, zLv (fA S) 3 (rO S p) (mK S) (6 * x + 5) = fA S (6 * x + 5) := zLv_o (by decide) (by decide) (by decide)
  have hU : nU s 0 = rU S := b1
  have pend : ∀ {x}, x < mK S → zLv (fA S) 3 (rO S p) (mK S) (6 * x + 2) = 0 → fA S (6 * x + 2) = 0 ∧ ¬ fA S (6 * x + 3) = rO S p := by
    intro x hx q
    rw [g2 hx] at q
    by_cases t : fA S (6 * x + 3) = rO S p ∧ fA S (6 * x + 2) = 0
    · rw [if_pos t] at q; exact absurd q zz3
    · rw [if_neg t] at q; exact ⟨q, fun z => t ⟨z, q⟩⟩
  have uu : zClu (rO S) (rU S) (rO S p) = rU S - 1 := zClu_p hO h12 hp
  have ff : ∀ {i}, i < rU S - 1 → zCl (rO S) (rU S) (rO S p) i = rO S (shf p i) := fun hi => zCl_p hO h12 hp hi
  have sA : ∀ {i}, i < rU S - 1 → mS (mClL (nS s) (12 * 0) p (nU s 0 - 1)) 0 i = mS (nS s) 0 (shf p i) := by
    intro i hi
    unfold mS mClL shf
    by_cases q : p ≤ i
    · rw [if_pos ⟨by omega, by omega⟩, if_pos q]; rfl
    · rw [if_neg (fun z => q (by omega)), if_neg q]
  have sB : ∀ {i}, i < 100 → mS (mClL (nS s) (12 * 0) p (nU s 0 - 1)) 1 i = mS (nS s) 1 i := by
    intro i hi
    unfold mS mClL
    rw [if_neg (fun z => by omega)]
  have nA : ∀ {i}, i < rU S - 1 → mN (mClL (nS s) (12 * 0) p (nU s 0 - 1)) (nN s) 0 i = mN (nS s) (nN s) 0 (shf p i) := fun hi => by unfold mN; rw [sA hi]
  have nB' : ∀ {i}, i < 100 → mN (mClL (nS s) (12 * 0) p (nU s 0 - 1)) (nN s) 1 i = mN (nS s) (nN s) 1 i := fun hi => by unfold mN; rw [sB hi]
  have zA : zUpN (nU s) 0 (nU s 0 - 1) 0 = rU S - 1 := by simp [zUpN, hU]
  have zC : zUpN (nU s) 0 (nU s 0 - 1) 1 = cU S := by simp [zUpN]; exact b2
  have up : p < nU s 0 := by rw [hU]; exact hp
  refine ⟨⟨gS_DrR a1, okM_Tk_0 a2 up, ?_, ?_⟩, ⟨zA.trans uu.symm, zC, b3, b4⟩, ?_, ⟨(fun x hx => by
      show (∀ i, i < zClu (rO S) (rU S) (rO S p) → (zLv (fA S) 3 (rO S p) (mK S) (6 * x + 3) = zCl (rO S) (rU S) (rO S p) i ↔ nR s x = mN (mClL (nS s) (12 * 0) p (nU s 0 - 1)) (nN s) 0 i)) ∧ (zLv (fA S) 3 (rO S p) (mK S) (6 * x + 3) = -5 ∨ ∃ i, i < zClu (rO S) (rU S) (rO S p) ∧ zLv (fA S) 3 (rO S p) (mK S) (6 * x + 3) = zCl (rO S) (rU S) (rO S p) i)
      rw [uu, gw hx]
      obtain ⟨x1, x2⟩ := hX x hx
      by_cases t : fA S (6 * x + 3) = rO S p
      · rw [if_pos t]
        refine ⟨fun i hi => ?_, Or.inl rfl⟩
        rw [ff hi, nA hi]
        have sl := shf_lt (p := p) hi
        exact ⟨fun q => absurd q (RO_m5 hO (by decide) (by omega)), fun q => absurd (a3.1 p (shf p i) up (by rw [hU]; exact sl) (((x1 p hp).mp t).symm.trans q)).symm shf_ne⟩
      · rw [if_neg t]
        refine ⟨fun i hi => ?_, ?_⟩
        · rw [ff hi, nA hi]
          exact x1 _ (shf_lt hi)
        · rcases x2 with q | ⟨q, hq, e⟩
          · exact Or.inl q
          · obtain ⟨i, hi, ei⟩ := shf_ex hq hp (fun z => t (by rw [e, z]))
            exact Or.inr ⟨i, hi, by rw [ff hi, ei]; exact e⟩), (fun x hx => by
      show (∀ i, i < cU S → (zLv (fA S) 3 (rO S p) (mK S) (6 * x + 4) = cO S i ↔ nC s x = mN (mClL (nS s) (12 * 0) p (nU s 0 - 1)) (nN s) 1 i)) ∧ (zLv (fA S) 3 (rO S p) (mK S) (6 * x + 4) = -5 ∨ ∃ i, i < cU S ∧ zLv (fA S) 3 (rO S p) (mK S) (6 * x + 4) = cO S i)
      rw [gv]
      obtain ⟨x1, x2⟩ := hY x hx
      exact ⟨fun i hi => by rw [nB' (by omega)]; exact x1 i hi, x2⟩)⟩, ⟨zCl_RO hO h12 hp, hO2⟩, ?_, ⟨hN.1, ?_, ?_, hN.2.2.2⟩, ?_, ?_⟩
  · show nmM (zUpN (nU s) 0 (nU s 0 - 1)) (mClL (nS s) (12 * 0) p (nU s 0 - 1)) (nN s)
    have n1 : ∀ i j, i < rU S - 1 → j < rU S - 1 → mN (mClL (nS s) (12 * 0) p (nU s 0 - 1)) (nN s) 0 i = mN (mClL (nS s) (12 * 0) p (nU s 0 - 1)) (nN s) 0 j → i = j := by
      intro i j hi hj e
      rw [nA hi, nA hj] at e
      exact shf_inj (a3.1 _ _ (by rw [hU]; exact shf_lt hi) (by rw [hU]; exact shf_lt hj) e)
    have n2 : ∀ i j, i < cU S → j < cU S → mN (mClL (nS s) (12 * 0) p (nU s 0 - 1)) (nN s) 1 i = mN (mClL (nS s) (12 * 0) p (nU s 0 - 1)) (nN s) 1 j → i = j := by
      intro i j hi hj e
      rw [nB' (by omega), nB' (by omega)] at e
      exact a3.2 _ _ (by rw [b2]; exact hi) (by rw [b2]; exact hj) e
    exact ⟨fun i j hi hj => n1 i j (by rw [zA] at hi; exact hi) (by rw [zA] at hj; exact hj), fun i j hi hj => n2 i j (by rw [zC] at hi; exact hi) (by rw [zC] at hj; exact hj)⟩
  · show (∀ i j, i < zUpN (nU s) 0 (nU s 0 - 1) 0 → j < zUpN (nU s) 0 (nU s 0 - 1) 0 → mS (mClL (nS s) (12 * 0) p (nU s 0 - 1)) 0 i = mS (mClL (nS s) (12 * 0) p (nU s 0 - 1)) 0 j → i = j) ∧ (∀ i j, i < zUpN (nU s) 0 (nU s 0 - 1) 1 → j < zUpN (nU s) 0 (nU s 0 - 1) 1 → mS (mClL (nS s) (12 * 0) p (nU s 0 - 1)) 1 i = mS (mClL (nS s) (12 * 0) p (nU s 0 - 1)) 1 j → i = j)
    have n1 : ∀ i j, i < rU S - 1 → j < rU S - 1 → mS (mClL (nS s) (12 * 0) p (nU s 0 - 1)) 0 i = mS (mClL (nS s) (12 * 0) p (nU s 0 - 1)) 0 j → i = j := by
      intro i j hi hj e
      rw [sA hi, sA hj] at e
      exact shf_inj (a4.1 _ _ (by rw [hU]; exact shf_lt hi) (by rw [hU]; exact shf_lt hj) e)
    have n2 : ∀ i j, i < cU S → j < cU S → mS (mClL (nS s) (12 * 0) p (nU s 0 - 1)) 1 i = mS (mClL (nS s) (12 * 0) p (nU s 0 - 1)) 1 j → i = j := by
      intro i j hi hj e
      rw [sB (by omega), sB (by omega)] at e
      exact a4.2 _ _ (by rw [b2]; exact hi) (by rw [b2]; exact hj) e
    exact ⟨fun i j hi hj => n1 i j (by rw [zA] at hi; exact hi) (by rw [zA] at hj; exact hj), fun i j hi hj => n2 i j (by rw [zC] at hi; exact hi) (by rw [zC] at hj; exact hj)⟩
  · intro x hx
    have q := hK x hx
    show nK s x = zLv (fA S) 3 (rO S p) (mK S) (6 * x) ∧ nY s x = zLv (fA S) 3 (rO S p) (mK S) (6 * x + 1) ∧ Z' x = zLv (fA S) 3 (rO S p) (mK S) (6 * x + 2) ∧ (zLv (fA S) 3 (rO S p) (mK S) (6 * x) = nI 4 → nV s x = zLv (fA S) 3 (rO S p) (mK S) (6 * x + 5)) ∧ (¬ zLv (fA S) 3 (rO S p) (mK S) (6 * x) = nI 4 → zLv (fA S) 3 (rO S p) (mK S) (6 * x + 5) = -5) ∧ kd5 (zLv (fA S) 3 (rO S p) (mK S) (6 * x))
    rw [g0, g1, g5]
    exact ⟨q.1, q.2.1, hZ x hx, q.2.2.2⟩
  · intro i j hi hj
    have hi2 : i < rU S - 1 := by have : i < zClu (rO S) (rU S) (rO S p) := hi; omega
    have hj2 : j < cU S := by exact hj
    show zBa (bS S) (zCl (rO S) (rU S) (rO S p) i) (cO S j) = nB s (8 * mS (mClL (nS s) (12 * 0) p (nU s 0 - 1)) 0 i + mS (mClL (nS s) (12 * 0) p (nU s 0 - 1)) 1 j)
    rw [ff hi2, sA hi2, sB (by omega)]
    exact hB _ _ (shf_lt hi2) hj2
  · intro i hi
    have hi2 : i < zUpN (nU s) 0 (nU s 0 - 1) 0 := hi
    show ∃ v, v < nX s ∧ mN (mClL (nS s) (12 * 0) p (nU s 0 - 1)) (nN s) 0 i = nI v
    rw [zA] at hi2; rw [nA hi2]; exact hN.2.1 _ (by rw [hU]; exact shf_lt hi2)
  · intro i hi
    have hi2 : i < zUpN (nU s) 0 (nU s 0 - 1) 1 := hi
    show ∃ v, v < nX s ∧ mN (mClL (nS s) (12 * 0) p (nU s 0 - 1)) (nN s) 1 i = nI v
    rw [zC] at hi2; rw [nB' (by omega)]; exact hN.2.2.1 _ (by rw [b2]; exact hi2)
  · intro x hx
    obtain ⟨p1, p2, p3⟩ := hP x hx
    show ((zLv (fA S) 3 (rO S p) (mK S) (6 * x) = nI 2 ∨ zLv (fA S) 3 (rO S p) (mK S) (6 * x) = nI 3) → zLv (fA S) 3 (rO S p) (mK S) (6 * x + 3) = -5 ∧ nR s x = -5) ∧ ((zLv (fA S) 3 (rO S p) (mK S) (6 * x) = nI 0 ∨ zLv (fA S) 3 (rO S p) (mK S) (6 * x) = nI 1) → zLv (fA S) 3 (rO S p) (mK S) (6 * x + 4) = -5 ∧ nC s x = -5) ∧
      (zLv (fA S) 3 (rO S p) (mK S) (6 * x + 2) = 0 → (zLv (fA S) 3 (rO S p) (mK S) (6 * x) = nI 0 ∨ zLv (fA S) 3 (rO S p) (mK S) (6 * x) = nI 1 ∨ zLv (fA S) 3 (rO S p) (mK S) (6 * x) = nI 4 → ∃ q, q < zClu (rO S) (rU S) (rO S p) ∧ zLv (fA S) 3 (rO S p) (mK S) (6 * x + 3) = zCl (rO S) (rU S) (rO S p) q) ∧ (zLv (fA S) 3 (rO S p) (mK S) (6 * x) = nI 2 ∨ zLv (fA S) 3 (rO S p) (mK S) (6 * x) = nI 3 ∨ zLv (fA S) 3 (rO S p) (mK S) (6 * x) = nI 4 → ∃ q, q < cU S ∧ zLv (fA S) 3 (rO S p) (mK S) (6 * x + 4) = cO S q))
    rw [g0, gv, gw hx]
    refine ⟨?_, ?_, fun t => ?_⟩
    · exact fun k => ⟨by rw [if_neg (by rw [(p1 k).1]; exact RO_m5 hO (by decide) (by omega)), (p1 k).1], (p1 k).2⟩
    · exact fun k => p2 k
    · obtain ⟨t1, t2⟩ := pend hx t
      obtain ⟨c1, c2⟩ := p3 t1
      rw [if_neg t2]
      exact ⟨fun k => by
          obtain ⟨q, hq, e⟩ := c1 k
          obtain ⟨i, hi, ei⟩ := shf_ex hq hp (fun z => t2 (by rw [e, z]))
          exact ⟨i, by rw [uu]; exact hi, by rw [ff hi, ei]; exact e⟩, c2⟩
  · intro x y hx hy
    show zLv (fA S) 3 (rO S p) (mK S) (6 * x + 2) = 0 → zLv (fA S) 3 (rO S p) (mK S) (6 * y + 2) = 0 → zLv (fA S) 3 (rO S p) (mK S) (6 * x + 3) = zLv (fA S) 3 (rO S p) (mK S) (6 * y + 3) → zLv (fA S) 3 (rO S p) (mK S) (6 * x + 4) = zLv (fA S) 3 (rO S p) (mK S) (6 * y + 4) → (zLv (fA S) 3 (rO S p) (mK S) (6 * x) = zLv (fA S) 3 (rO S p) (mK S) (6 * y) → ¬ zLv (fA S) 3 (rO S p) (mK S) (6 * x) = nI 4 → x = y) ∧ (zLv (fA S) 3 (rO S p) (mK S) (6 * x) = nI 0 → zLv (fA S) 3 (rO S p) (mK S) (6 * y) = nI 1 → x < y) ∧ (zLv (fA S) 3 (rO S p) (mK S) (6 * x) = nI 2 → zLv (fA S) 3 (rO S p) (mK S) (6 * y) = nI 3 → x < y)
    intro q1 q2
    obtain ⟨t1, t2⟩ := pend hx q1
    obtain ⟨r1, r2⟩ := pend hy q2
    rw [g0, g0, gv, gv, gw hx, gw hy, if_neg t2, if_neg r2]
    exact hQ x y hx hy t1 r1
theorem RR_DrC {S : zSt} {s : zMs} {B p : Nat} {Z' : Nat → Int32} (h : RR S s B) (hp : p < cU S) (hZ : ∀ x, x < mK S → Z' x = zLv (fA S) 4 (cO S p) (mK S) (6 * x + 2)) : RR (zDrC S (cO S p)) (mTk (mwZ s Z') 1 p) B := by
  obtain ⟨⟨a1, a2, a3, a4⟩, ⟨b1, b2, b3, b4⟩, hK, ⟨hX, hY⟩, ⟨hO, hO2⟩, hB, hN, hP, hQ⟩ := h
  have h12 := a1.1.1
  have h8 := a1.1.2.1
  have gw : ∀ {x}, x < mK S → zLv (fA S) 4 (cO S p) (mK S) (6 * x + 4) = if fA S (6 * x + 4) = cO S p then -5 else fA S (6 * x + 4) := fun hx => zLv_w hx (by decide)
  have g2 : ∀ {x}, x < mK S → zLv (fA S) 4 (cO S p) (mK S) (6 * x + 2) = if fA S (6 * x + 4) = cO S p ∧ fA S (6 * x + 2) = 0 then nI 3 else fA S (6 * x + 2) := fun hx => zLv_2 hx (by decide)
  have g0 : ∀ {x}, zLv (fA S) 4 (cO S p) (mK S) (6 * x) = fA S (6 * x) := fun {x} => zLv_o (w := 0) (by decide) (by decide) (by decide)
  have g1 : ∀ {x}, zLv (fA S) 4 (cO S p) (mK S) (6 * x + 1) = fA S (6 * x + 1) := zLv_o (by decide) (by decide) (by decide)
  have gv : ∀ {x}, zLv (fA S) 4 (cO S p) (mK S) (6 * x + 3) = fA S (6 * x + 3) := zLv_o (by decide) (by decide) (by decide)
  have g5 : ∀ {x}, zLv (fA S) 4 (cO S p) (mK S) (6 * x + 5) = fA S (6 * x + 5) := zLv_o (by decide) (by decide) (by decide)
  have hU : nU s 1 = cU S := b2
  have pend : ∀ {x}, x < mK S → zLv (fA S) 4 (cO S p) (mK S) (6 * x + 2) = 0 → fA S (6 * x + 2) = 0 ∧ ¬ fA S (6 * x + 4) = cO S p := by
    intro x hx q
    rw [g2 hx] at q
    by_cases t : fA S (6 * x + 4) = cO S p ∧ fA S (6 * x + 2) = 0
    · rw [if_pos t] at q; exact absurd q zz3
    · rw [if_neg t] at q; exact ⟨q, fun z => t ⟨z, q⟩⟩
  have uu : zClu (cO S) (cU S) (cO S p) = cU S - 1 := zClu_p hO2 h8 hp
  have ff : ∀ {i}, i < cU S - 1 → zCl (cO S) (cU S) (cO S p) i = cO S (shf p i) := fun hi => zCl_p hO2 h8 hp hi
  have sA : ∀ {i}, i < cU S - 1 → mS (mClL (nS s) (12 * 1) p (nU s 1 - 1)) 1 i = mS (nS s) 1 (shf p i) := by
    intro i hi
    unfold mS mClL shf
    by_cases q : p ≤ i
    · rw [if_pos ⟨by omega, by omega⟩, if_pos q]; rfl
    · rw [if_neg (fun z => q (by omega)), if_neg q]
  have sB : ∀ {i}, i < 12 → mS (mClL (nS s) (12 * 1) p (nU s 1 - 1)) 0 i = mS (nS s) 0 i := by
    intro i hi
    unfold mS mClL
    rw [if_neg (fun z => by omega)]
  have nA : ∀ {i}, i < cU S - 1 → mN (mClL (nS s) (12 * 1) p (nU s 1 - 1)) (nN s) 1 i = mN (nS s) (nN s) 1 (shf p i) := fun hi => by unfold mN; rw [sA hi]
  have nB' : ∀ {i}, i < 12 → mN (mClL (nS s) (12 * 1) p (nU s 1 - 1)) (nN s) 0 i = mN (nS s) (nN s) 0 i := fun hi => by unfold mN; rw [sB hi]
  have zA : zUpN (nU s) 1 (nU s 1 - 1) 1 = cU S - 1 := by simp [zUpN, hU]
  have zC : zUpN (nU s) 1 (nU s 1 - 1) 0 = rU S := by simp [zUpN]; exact b1
  have up : p < nU s 1 := by rw [hU]; exact hp
  refine ⟨⟨gS_DrC a1, okM_Tk_1 a2 up, ?_, ?_⟩, ⟨zC, zA.trans uu.symm, b3, b4⟩, ?_, ⟨(fun x hx => by
      show (∀ i, i < rU S → (zLv (fA S) 4 (cO S p) (mK S) (6 * x + 3) = rO S i ↔ nR s x = mN (mClL (nS s) (12 * 1) p (nU s 1 - 1)) (nN s) 0 i)) ∧ (zLv (fA S) 4 (cO S p) (mK S) (6 * x + 3) = -5 ∨ ∃ i, i < rU S ∧ zLv (fA S) 4 (cO S p) (mK S) (6 * x + 3) = rO S i)
      rw [gv]
      obtain ⟨x1, x2⟩ := hX x hx
      exact ⟨fun i hi => by rw [nB' (by omega)]; exact x1 i hi, x2⟩), (fun x hx => by
      show (∀ i, i < zClu (cO S) (cU S) (cO S p) → (zLv (fA S) 4 (cO S p) (mK S) (6 * x + 4) = zCl (cO S) (cU S) (cO S p) i ↔ nC s x = mN (mClL (nS s) (12 * 1) p (nU s 1 - 1)) (nN s) 1 i)) ∧ (zLv (fA S) 4 (cO S p) (mK S) (6 * x + 4) = -5 ∨ ∃ i, i < zClu (cO S) (cU S) (cO S p) ∧ zLv (fA S) 4 (cO S p) (mK S) (6 * x + 4) = zCl (cO S) (cU S) (cO S p) i)
      rw [uu, gw hx]
      obtain ⟨x1, x2⟩ := hY x hx
      by_cases t : fA S (6 * x + 4) = cO S p
      · rw [if_pos t]
        refine ⟨fun i hi => ?_, Or.inl rfl⟩
        rw [ff hi, nA hi]
        have sl := shf_lt (p := p) hi
        exact ⟨fun q => absurd q (RO_m5 hO2 (by decide) (by omega)), fun q => absurd (a3.2 p (shf p i) up (by rw [hU]; exact sl) (((x1 p hp).mp t).symm.trans q)).symm shf_ne⟩
      · rw [if_neg t]
        refine ⟨fun i hi => ?_, ?_⟩
        · rw [ff hi, nA hi]
          exact x1 _ (shf_lt hi)
        · rcases x2 with q | ⟨q, hq, e⟩
          · exact Or.inl q
          · obtain ⟨i, hi, ei⟩ := shf_ex hq hp (fun z => t (by rw [e, z]))
            exact Or.inr ⟨i, hi, by rw [ff hi, ei]; exact e⟩)⟩, ⟨hO, zCl_RO hO2 h8 hp⟩, ?_, ⟨hN.1, ?_, ?_, hN.2.2.2⟩, ?_, ?_⟩
  · show nmM (zUpN (nU s) 1 (nU s 1 - 1)) (mClL (nS s) (12 * 1) p (nU s 1 - 1)) (nN s)
    have n1 : ∀ i j, i < cU S - 1 → j < cU S - 1 → mN (mClL (nS s) (12 * 1) p (nU s 1 - 1)) (nN s) 1 i = mN (mClL (nS s) (12 * 1) p (nU s 1 - 1)) (nN s) 1 j → i = j := by
      intro i j hi hj e
      rw [nA hi, nA hj] at e
      exact shf_inj (a3.2 _ _ (by rw [hU]; exact shf_lt hi) (by rw [hU]; exact shf_lt hj) e)
    have n2 : ∀ i j, i < rU S → j < rU S → mN (mClL (nS s) (12 * 1) p (nU s 1 - 1)) (nN s) 0 i = mN (mClL (nS s) (12 * 1) p (nU s 1 - 1)) (nN s) 0 j → i = j := by
      intro i j hi hj e
      rw [nB' (by omega), nB' (by omega)] at e
      exact a3.1 _ _ (by rw [b1]; exact hi) (by rw [b1]; exact hj) e
    exact ⟨fun i j hi hj => n2 i j (by rw [zC] at hi; exact hi) (by rw [zC] at hj; exact hj), fun i j hi hj => n1 i j (by rw [zA] at hi; exact hi) (by rw [zA] at hj; exact hj)⟩
  · show (∀ i j, i < zUpN (nU s) 1 (nU s 1 - 1) 0 → j < zUpN (nU s) 1 (nU s 1 - 1) 0 → mS (mClL (nS s) (12 * 1) p (nU s 1 - 1)) 0 i = mS (mClL (nS s) (12 * 1) p (nU s 1 - 1)) 0 j → i = j) ∧ (∀ i j, i < zUpN (nU s) 1 (nU s 1 - 1) 1 → j < zUpN (nU s) 1 (nU s 1 - 1) 1 → mS (mClL (nS s) (12 * 1) p (nU s 1 - 1)) 1 i = mS (mClL (nS s) (12 * 1) p (nU s 1 - 1)) 1 j → i = j)
    have n1 : ∀ i j, i < cU S - 1 → j < cU S - 1 → mS (mClL (nS s) (12 * 1) p (nU s 1 - 1)) 1 i = mS (mClL (nS s) (12 * 1) p (nU s 1 - 1)) 1 j → i = j := by
      intro i j hi hj e
      rw [sA hi, sA hj] at e
      exact shf_inj (a4.2 _ _ (by rw [hU]; exact shf_lt hi) (by rw [hU]; exact shf_lt hj) e)
    have n2 : ∀ i j, i < rU S → j < rU S → mS (mClL (nS s) (12 * 1) p (nU s 1 - 1)) 0 i = mS (mClL (nS s) (12 * 1) p (nU s 1 - 1)) 0 j → i = j := by
      intro i j hi hj e
      rw [sB (by omega), sB (by omega)] at e
      exact a4.1 _ _ (by rw [b1]; exact hi) (by rw [b1]; exact hj) e
    exact ⟨fun i j hi hj => n2 i j (by rw [zC] at hi; exact hi) (by rw [zC] at hj; exact hj), fun i j hi hj => n1 i j (by rw [zA] at hi; exact hi) (by rw [zA] at hj; exact hj)⟩
  · intro x hx
    have q := hK x hx
    show nK s x = zLv (fA S) 4 (cO S p) (mK S) (6 * x) ∧ nY s x = zLv (fA S) 4 (cO S p) (mK S) (6 * x + 1) ∧ Z' x = zLv (fA S) 4 (cO S p) (mK S) (6 * x + 2) ∧ (zLv (fA S) 4 (cO S p) (mK S) (6 * x) = nI 4 → nV s x = zLv (fA S) 4 (cO S p) (mK S) (6 * x + 5)) ∧ (¬ zLv (fA S) 4 (cO S p) (mK S) (6 * x) = nI 4 → zLv (fA S) 4 (cO S p) (mK S) (6 * x + 5) = -5) ∧ kd5 (zLv (fA S) 4 (cO S p) (mK S) (6 * x))
    rw [g0, g1, g5]
    exact ⟨q.1, q.2.1, hZ x hx, q.2.2.2⟩
  · intro i j hi hj
    have hi2 : i < rU S := by exact hi
    have hj2 : j < cU S - 1 := by have : j < zClu (cO S) (cU S) (cO S p) := hj; omega
    show zBa (bS S) (rO S i) (zCl (cO S) (cU S) (cO S p) j) = nB s (8 * mS (mClL (nS s) (12 * 1) p (nU s 1 - 1)) 0 i + mS (mClL (nS s) (12 * 1) p (nU s 1 - 1)) 1 j)
    rw [ff hj2, sA hj2, sB (by omega)]
    exact hB _ _ hi2 (shf_lt hj2)
  · intro i hi
    have hi2 : i < zUpN (nU s) 1 (nU s 1 - 1) 0 := hi
    show ∃ v, v < nX s ∧ mN (mClL (nS s) (12 * 1) p (nU s 1 - 1)) (nN s) 0 i = nI v
    rw [zC] at hi2; rw [nB' (by omega)]; exact hN.2.1 _ (by rw [b1]; exact hi2)
  · intro i hi
    have hi2 : i < zUpN (nU s) 1 (nU s 1 - 1) 1 := hi
    show ∃ v, v < nX s ∧ mN (mClL (nS s) (12 * 1) p (nU s 1 - 1)) (nN s) 1 i = nI v
    rw [zA] at hi2; rw [nA hi2]; exact hN.2.2.1 _ (by rw [hU]; exact shf_lt hi2)
  · intro x hx
    obtain ⟨p1, p2, p3⟩ := hP x hx
    show ((zLv (fA S) 4 (cO S p) (mK S) (6 * x) = nI 2 ∨ zLv (fA S) 4 (cO S p) (mK S) (6 * x) = nI 3) → zLv (fA S) 4 (cO S p) (mK S) (6 * x + 3) = -5 ∧ nR s x = -5) ∧ ((zLv (fA S) 4 (cO S p) (mK S) (6 * x) = nI 0 ∨ zLv (fA S) 4 (cO S p) (mK S) (6 * x) = nI 1) → zLv (fA S) 4 (cO S p) (mK S) (6 * x + 4) = -5 ∧ nC s x = -5) ∧
      (zLv (fA S) 4 (cO S p) (mK S) (6 * x + 2) = 0 → (zLv (fA S) 4 (cO S p) (mK S) (6 * x) = nI 0 ∨ zLv (fA S) 4 (cO S p) (mK S) (6 * x) = nI 1 ∨ zLv (fA S) 4 (cO S p) (mK S) (6 * x) = nI 4 → ∃ q, q < rU S ∧ zLv (fA S) 4 (cO S p) (mK S) (6 * x + 3) = rO S q) ∧ (zLv (fA S) 4 (cO S p) (mK S) (6 * x) = nI 2 ∨ zLv (fA S) 4 (cO S p) (mK S) (6 * x) = nI 3 ∨ zLv (fA S) 4 (cO S p) (mK S) (6 * x) = nI 4 → ∃ q, q < zClu (cO S) (cU S) (cO S p) ∧ zLv (fA S) 4 (cO S p) (mK S) (6 * x + 4) = zCl (cO S) (cU S) (cO S p) q))
    rw [g0, gv, gw hx]
    refine ⟨?_, ?_, fun t => ?_⟩
    · exact fun k => p1 k
    · exact fun k => ⟨by rw [if_neg (by rw [(p2 k).1]; exact RO_m5 hO2 (by decide) (by omega)), (p2 k).1], (p2 k).2⟩
    · obtain ⟨t1, t2⟩ := pend hx t
      obtain ⟨c1, c2⟩ := p3 t1
      rw [if_neg t2]
      exact ⟨c1, fun k => by
          obtain ⟨q, hq, e⟩ := c2 k
          obtain ⟨i, hi, ei⟩ := shf_ex hq hp (fun z => t2 (by rw [e, z]))
          exact ⟨i, by rw [uu]; exact hi, by rw [ff hi, ei]; exact e⟩⟩
  · intro x y hx hy
    show zLv (fA S) 4 (cO S p) (mK S) (6 * x + 2) = 0 → zLv (fA S) 4 (cO S p) (mK S) (6 * y + 2) = 0 → zLv (fA S) 4 (cO S p) (mK S) (6 * x + 3) = zLv (fA S) 4 (cO S p) (mK S) (6 * y + 3) → zLv (fA S) 4 (cO S p) (mK S) (6 * x + 4) = zLv (fA S) 4 (cO S p) (mK S) (6 * y + 4) → (zLv (fA S) 4 (cO S p) (mK S) (6 * x) = zLv (fA S) 4 (cO S p) (mK S) (6 * y) → ¬ zLv (fA S) 4 (cO S p) (mK S) (6 * x) = nI 4 → x = y) ∧ (zLv (fA S) 4 (cO S p) (mK S) (6 * x) = nI 0 → zLv (fA S) 4 (cO S p) (mK S) (6 * y) = nI 1 → x < y) ∧ (zLv (fA S) 4 (cO S p) (mK S) (6 * x) = nI 2 → zLv (fA S) 4 (cO S p) (mK S) (6 * y) = nI 3 → x < y)
    intro q1 q2
    obtain ⟨t1, t2⟩ := pend hx q1
    obtain ⟨r1, r2⟩ := pend hy q2
    rw [g0, g0, gv, gv, gw hx, gw hy, if_neg t2, if_neg r2]
    exact hQ x y hx hy t1 r1
