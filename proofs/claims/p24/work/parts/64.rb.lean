/-! accepting, on both sides -/
theorem RR_A1 {S : zSt} {s : zMs} {B x : Nat} (h : RR S s B) (hx : x < mK S) {v : Int32} (hv : ¬ v = 0) : RR (zFa S (upd (fA S) (6 * x + 2) v)) (mwZ s (upd (nZ s) x v)) B := by
  refine RR_st h (fun y w hy hw h2 => upd_ne (by omega)) (fun y hy => ?_) (fun y hy q => ?_)
  · by_cases e : y = x
    · subst e; rw [upd_eq, upd_eq]
    · rw [upd_ne e, upd_ne (by omega)]; exact (h.2.2.1 y hy).2.2.1
  · by_cases e : y = x
    · subst e; rw [upd_eq] at q; exact absurd q hv
    · rw [upd_ne (by omega)] at q; exact q
/-- a line goes with the settings of its cells: nothing else is pending there -/
theorem RR_dgR {S : zSt} {s : zMs} {B p : Nat} {nm : Int32} (h : RR S s B) (hp : p < rU S) (hnm : nm = mN (nS s) (nN s) 0 p) (hn : ∀ y, y < mK S → fA S (6 * y + 2) = 0 → fA S (6 * y + 3) = rO S p → fA S (6 * y) = nI 4) : ∀ x, x < mK S → mMk (nZ s) (mDp (nZ s) (nK s) (nR s) (nC s) (nI 0) nm true) (nI 3) (nM s) x = zLv (fA S) 3 (rO S p) (mK S) (6 * x + 2) := by
  intro x hx
  subst hnm
  obtain ⟨k1, -, k3, -, -, k6⟩ := h.2.2.1 x hx
  have hX := (h.2.2.2.1.1 x hx).1 p hp
  have hd : mDp (nZ s) (nK s) (nR s) (nC s) (nI 0) (mN (nS s) (nN s) 0 p) true x = true ↔ (fA S (6 * x + 3) = rO S p ∧ fA S (6 * x + 2) = 0) := by
    unfold mDp mAt
    rw [k3, k1, if_pos (c := nI 0 = 0) nI_0]
    constructor
    · intro z
      simp only [Bool.and_eq_true, decide_eq_true_eq] at z
      exact ⟨hX.mpr z.2.1.2, z.1⟩
    · intro z
      have k4 := hn x hx z.2 z.1
      rw [decide_eq_true z.2, decide_eq_true k4, decide_eq_true (hX.mp z.1)]
      rfl
  rw [zLv_2 hx (by decide), mMk_at (by rw [h.2.1.2.2.1]; exact hx)]
  by_cases q : fA S (6 * x + 3) = rO S p ∧ fA S (6 * x + 2) = 0
  · rw [if_pos (hd.mpr q), if_pos q]
  · rw [if_neg (fun z => q (hd.mp z)), if_neg q, k3]
theorem RR_dgC {S : zSt} {s : zMs} {B p : Nat} {nm : Int32} (h : RR S s B) (hp : p < cU S) (hnm : nm = mN (nS s) (nN s) 1 p) (hn : ∀ y, y < mK S → fA S (6 * y + 2) = 0 → fA S (6 * y + 4) = cO S p → fA S (6 * y) = nI 4) : ∀ x, x < mK S → mMk (nZ s) (mDp (nZ s) (nK s) (nR s) (nC s) (nI 1) nm true) (nI 3) (nM s) x = zLv (fA S) 4 (cO S p) (mK S) (6 * x + 2) := by
  intro x hx
  subst hnm
  obtain ⟨k1, -, k3, -, -, k6⟩ := h.2.2.1 x hx
  have hX := (h.2.2.2.1.2 x hx).1 p hp
  have hd : mDp (nZ s) (nK s) (nR s) (nC s) (nI 1) (mN (nS s) (nN s) 1 p) true x = true ↔ (fA S (6 * x + 4) = cO S p ∧ fA S (6 * x + 2) = 0) := by
    unfold mDp mAt
    rw [k3, k1, if_neg (c := nI 1 = 0) (by decide)]
    constructor
    · intro z
      simp only [Bool.and_eq_true, decide_eq_true_eq] at z
      exact ⟨hX.mpr z.2.1.2, z.1⟩
    · intro z
      have k4 := hn x hx z.2 z.1
      rw [decide_eq_true z.2, decide_eq_true k4, decide_eq_true (hX.mp z.1)]
      rfl
  rw [zLv_2 hx (by decide), mMk_at (by rw [h.2.1.2.2.1]; exact hx)]
  by_cases q : fA S (6 * x + 4) = cO S p ∧ fA S (6 * x + 2) = 0
  · rw [if_pos (hd.mpr q), if_pos q]
  · rw [if_neg (fun z => q (hd.mp z)), if_neg q, k3]
/-- nothing is pending of that on which x rests -/
def noSp (S : zSt) (x : Nat) : Prop := ∀ y, y < mK S → zrs (fA S) x y = false
theorem RR_AA {S : zSt} {s : zMs} {B x : Nat} (h : RR S s B) (hx : x < mK S) (hp : fA S (6 * x + 2) = 0) (hn : (fA S (6 * x) = nI 1 ∨ fA S (6 * x) = nI 3) → noSp S x) : RR (zAA S x) (mAA s x) B := by
  have h12 := h.1.1.1.1
  have h8 := h.1.1.1.2.1
  obtain ⟨k1, k2, k3, k4, k5, k6⟩ := h.2.2.1 x hx
  obtain ⟨p1, p2, p3⟩ := h.2.2.2.2.2.2.2.1 x hx
  obtain ⟨p3, p4⟩ := p3 hp
  have hQ := h.2.2.2.2.2.2.2.2
  have h1 : RR (zA1 S x) (mA1 s x) B := RR_A1 h hx zz1
  have a : ∀ w, w < 6 → w ≠ 2 → fA (zA1 S x) (6 * x + w) = fA S (6 * x + w) := fun w hw h2 => upd_ne (by omega)
  have a0 : fA (zA1 S x) (6 * x) = fA S (6 * x) := upd_ne (by omega)
  have ay : ∀ y, ¬ y = x → ∀ w, w < 6 → fA (zA1 S x) (6 * y + w) = fA S (6 * y + w) := fun y hy w hw => upd_ne (by omega)
  have ay0 : ∀ y, fA (zA1 S x) (6 * y) = fA S (6 * y) := fun y => upd_ne (by omega)
  have ax2 : fA (zA1 S x) (6 * x + 2) = nI 1 := upd_eq
  have hpy : ∀ y, fA (zA1 S x) (6 * y + 2) = 0 → ¬ y = x := by
    intro y q e
    subst e
    rw [ax2] at q
    exact zz1 q
  unfold zAA mAA
  rw [a0, a 3 (by decide) (by decide), a 4 (by decide) (by decide), a 5 (by decide) (by decide), k1]
  by_cases c1 : fA S (6 * x) = nI 1
  · rw [if_pos c1, if_neg (c := fA S (6 * x) = nI 4) (by rw [c1]; decide), if_pos c1]
    obtain ⟨p, hpu, ep⟩ := p3 (Or.inr (Or.inl c1))
    have nm := ((h.2.2.2.1.1 x hx).1 p hpu).mp ep
    rw [ep, RR_mpR h hx hpu ep]
    refine RR_DrR h1 hpu (RR_dgR h1 hpu nm (fun y hy q2 q3 => ?_))
    have ne := hpy y q2
    have hy' : y < mK S := hy
    rw [ay y ne 2 (by decide)] at q2
    rw [ay y ne 3 (by decide)] at q3
    have q3' : fA S (6 * y + 3) = rO S p := q3
    rw [ay0]
    rcases (h.2.2.1 y hy').2.2.2.2.2 with e | e | e | e | e
    · exfalso
      have z := hn (Or.inl c1) y hy'
      unfold zrs at z
      simp [hp, q2, c1, e, ep, q3'] at z
      exact z nI_0
    · exfalso
      refine ne ((hQ y x hy' hx q2 hp (q3'.trans ep.symm) ?_).1 (e.trans c1.symm) (by rw [e]; decide))
      rw [(p2 (Or.inr c1)).1, ((h.2.2.2.2.2.2.2.1 y hy').2.1 (Or.inr e)).1]
    · exact absurd (((h.2.2.2.2.2.2.2.1 y hy').1 (Or.inl e)).1.symm.trans q3') (RO_m5 h.2.2.2.2.1.1 (by decide) (by omega))
    · exact absurd (((h.2.2.2.2.2.2.2.1 y hy').1 (Or.inr e)).1.symm.trans q3') (RO_m5 h.2.2.2.2.1.1 (by decide) (by omega))
    · exact e
  · rw [if_neg c1]
    by_cases c3 : fA S (6 * x) = nI 3
    · rw [if_pos c3, if_neg (c := fA S (6 * x) = nI 4) (by rw [c3]; decide), if_neg c1, if_pos c3]
      obtain ⟨p, hpu, ep⟩ := p4 (Or.inr (Or.inl c3))
      have nm := ((h.2.2.2.1.2 x hx).1 p hpu).mp ep
      rw [ep, RR_mpC h hx hpu ep]
      refine RR_DrC h1 hpu (RR_dgC h1 hpu nm (fun y hy q2 q3 => ?_))
      have ne := hpy y q2
      have hy' : y < mK S := hy
      rw [ay y ne 2 (by decide)] at q2
      rw [ay y ne 4 (by decide)] at q3
      have q3' : fA S (6 * y + 4) = cO S p := q3
      rw [ay0]
      rcases (h.2.2.1 y hy').2.2.2.2.2 with e | e | e | e | e
      · exact absurd (((h.2.2.2.2.2.2.2.1 y hy').2.1 (Or.inl e)).1.symm.trans q3') (RO_m5 h.2.2.2.2.1.2 (by decide) (by omega))
      · exact absurd (((h.2.2.2.2.2.2.2.1 y hy').2.1 (Or.inr e)).1.symm.trans q3') (RO_m5 h.2.2.2.2.1.2 (by decide) (by omega))
      · exfalso
        have z := hn (Or.inr c3) y hy'
        unfold zrs at z
        simp [hp, q2, c3, e, ep, q3', nI_eq] at z
      · exfalso
        refine ne ((hQ y x hy' hx q2 hp ?_ (q3'.trans ep.symm)).1 (e.trans c3.symm) (by rw [e]; decide))
        rw [(p1 (Or.inr c3)).1, ((h.2.2.2.2.2.2.2.1 y hy').1 (Or.inr e)).1]
      · exact e
    · rw [if_neg c3]
      by_cases c4 : fA S (6 * x) = nI 4
      · rw [if_pos c4, if_pos c4]
        obtain ⟨i, hi, ei⟩ := p3 (Or.inr (Or.inr c4))
        obtain ⟨j, hj, ej⟩ := p4 (Or.inr (Or.inr c4))
        rw [ei, ej, RR_mpR h hx hi ei, RR_mpC h hx hj ej, k4 c4]
        exact RR_Bs h1 hi hj
      · rw [if_neg c4, if_neg c4, if_neg c1, if_neg c3]
        exact h1
/-- that on which something rests is an insertion or a setting -/
theorem zrs_kd {g : Nat → Int32} {x y : Nat} (h : zrs g x y = true) : (g (6 * y) = nI 0 ∨ g (6 * y) = nI 2 ∨ g (6 * y) = nI 4) ∧ g (6 * x + 2) = 0 ∧ g (6 * y + 2) = 0 := by
  unfold zrs at h
  simp only [Bool.and_eq_true, decide_eq_true_eq] at h
  obtain ⟨h1, h2, h3⟩ := h
  refine ⟨?_, h1, h2⟩
  split at h3
  · simp only [Bool.and_eq_true, decide_eq_true_eq] at h3
    exact Or.inl (h3.1.trans nI_0.symm)
  · split at h3
    · simp only [Bool.and_eq_true, decide_eq_true_eq] at h3
      exact Or.inr (Or.inl h3.1)
    · split at h3
      · simp only [Bool.or_eq_true, Bool.and_eq_true, decide_eq_true_eq] at h3
        rcases h3 with h3 | h3 | h3
        · exact Or.inl (h3.1.trans nI_0.symm)
        · exact Or.inr (Or.inl h3.1)
        · exact Or.inr (Or.inr h3.1)
      · cases h3
theorem fA_AAs {S : zSt} {y : Nat} (h : fA S (6 * y) = nI 0 ∨ fA S (6 * y) = nI 2 ∨ fA S (6 * y) = nI 4) : fA (zAA S y) = upd (fA S) (6 * y + 2) (nI 1) := by
  have a0 : fA (zA1 S y) (6 * y) = fA S (6 * y) := upd_ne (by omega)
  unfold zAA
  rw [a0, if_neg (by rcases h with e | e | e <;> rw [e] <;> decide), if_neg (by rcases h with e | e | e <;> rw [e] <;> decide)]
  split
  · rfl
  · rfl
theorem zrs_cg {g g' : Nat → Int32} {x y : Nat} (hx : ∀ w, w < 6 → g' (6 * x + w) = g (6 * x + w)) (hy : ∀ w, w < 6 → g' (6 * y + w) = g (6 * y + w)) : zrs g' x y = zrs g x y := by
  have x0 := hx 0 (by decide)
  have y0 := hy 0 (by decide)
  simp only [Nat.add_zero] at x0 y0
  unfold zrs
  rw [hx 2 (by decide), hy 2 (by decide), x0, y0, hx 3 (by decide), hy 3 (by decide), hx 4 (by decide), hy 4 (by decide)]
theorem zrs_np {g : Nat → Int32} {x y : Nat} (h : ¬ g (6 * y + 2) = 0) : zrs g x y = false := by
  unfold zrs
  rw [decide_eq_false h]
  simp
/-- the walk over that on which x rests: x is as it was, what was met is pending no more -/
theorem AL_inv {S : zSt} {x : Nat} (hx : x < mK S) : ∀ k, k ≤ mK S → (∀ w, w < 6 → fA (zAL S x k).1 (6 * x + w) = fA S (6 * x + w)) ∧ ∀ y, y < k → zrs (fA (zAL S x k).1) x y = false
  | 0, _ => ⟨fun _ _ => rfl, fun y hy => absurd hy (Nat.not_lt_zero y)⟩
  | k + 1, hk => by
    obtain ⟨i1, i2⟩ := AL_inv hx k (by omega)
    simp only [zAL]
    by_cases c : zrs (fA (zAL S x k).1) x k = true
    · rw [if_pos c]
      obtain ⟨kd, -, -⟩ := zrs_kd c
      have ne : ¬ k = x := fun e => by rw [e, zrs_self] at c; cases c
      have ef : fA (zAA (zAL S x k).1 k, (zAL S x k).2 + 1).1 = upd (fA (zAL S x k).1) (6 * k + 2) (nI 1) := fA_AAs kd
      rw [ef]
      have ux : ∀ w, w < 6 → upd (fA (zAL S x k).1) (6 * k + 2) (nI 1) (6 * x + w) = fA (zAL S x k).1 (6 * x + w) := fun w hw => upd_ne (by omega)
      refine ⟨fun w hw => (ux w hw).trans (i1 w hw), fun y hy => ?_⟩
      by_cases e : y = k
      · subst e
        exact zrs_np (by rw [upd_eq]; exact zz1)
      · rw [zrs_cg ux (fun w hw => upd_ne (by omega))]
        exact i2 y (by omega)
    · rw [if_neg c]
      refine ⟨i1, fun y hy => ?_⟩
      by_cases e : y = k
      · subst e; simpa using c
      · exact i2 y (by omega)
theorem RR_AL {S : zSt} {s : zMs} {B x : Nat} (h : RR S s B) (hx : x < mK S) : ∀ k, k ≤ mK S → RR (zAL S x k).1 (mAL s x k).1 B ∧ (mAL s x k).2 = (zAL S x k).2 + 1
  | 0, _ => ⟨h, rfl⟩
  | k + 1, hk => by
    obtain ⟨ih, ih2⟩ := RR_AL h hx k (by omega)
    have hM : mK (zAL S x k).1 = mK S := (zAL_ok h.1.1.1 k).2.1
    have e := RR_rs ih (x := x) (y := k) (by omega) (by omega)
    unfold trs at e
    simp only [zAL, mAL]
    rw [← e]
    by_cases c : zrs (fA (zAL S x k).1) x k = true
    · rw [if_pos c, if_pos c]
      obtain ⟨kd, -, hp⟩ := zrs_kd c
      refine ⟨RR_AA ih (by omega) hp (fun q => ?_), by show (mAL s x k).2 + 1 = (zAL S x k).2 + 1 + 1; rw [ih2]⟩
      exfalso
      rcases kd with d | d | d <;> rw [d] at q <;> revert q <;> decide
    · rw [if_neg c, if_neg c]
      exact ⟨ih, ih2⟩
theorem RR_AW {S : zSt} {s : zMs} {B x : Nat} (h : RR S s B) (hx : x < mK S) (hp : fA S (6 * x + 2) = 0) : RR (zAW S x) (mAW s x) B ∧ zAWn S x = mAWn s x := by
  obtain ⟨ih, ih2⟩ := RR_AL h hx (mK S) (Nat.le_refl _)
  obtain ⟨i1, i2⟩ := AL_inv hx (mK S) (Nat.le_refl _)
  have hM : mK (zAL S x (mK S)).1 = mK S := (zAL_ok h.1.1.1 _).2.1
  unfold zAW mAW zAWn mAWn
  rw [h.2.1.2.2.1]
  refine ⟨RR_AA ih (by omega) ((i1 2 (by decide)).trans hp) (fun _ y hy => i2 y (by omega)), ih2.symm⟩
theorem RR_lnX {S : zSt} {s : zMs} {B x : Nat} (h : RR S s B) (hx : x < mK S) (hp : fA S (6 * x + 2) = 0) : lnX (nK s) (nR s) (nC s) (nS s) (nN s) (nU s) x := by
  obtain ⟨-, -, p3⟩ := h.2.2.2.2.2.2.2.1 x hx
  obtain ⟨p3, p4⟩ := p3 hp
  have k1 := (h.2.2.1 x hx).1
  unfold lnX
  rw [k1, h.2.1.1, h.2.1.2.1]
  constructor
  · intro q
    obtain ⟨p, hpu, ep⟩ := p3 (by rcases q with q | q | q; exact Or.inr (Or.inr q); exact Or.inl q; exact Or.inr (Or.inl q))
    rw [RR_mpR h hx hpu ep]; exact hpu
  · intro q
    obtain ⟨p, hpu, ep⟩ := p4 (by rcases q with q | q | q; exact Or.inr (Or.inr q); exact Or.inl q; exact Or.inr (Or.inl q))
    rw [RR_mpC h hx hpu ep]; exact hpu
theorem RR_gAW {S : zSt} {s : zMs} {B x : Nat} (h : RR S s B) (hx : x < mK S) (hp : fA S (6 * x + 2) = 0) : gAW s x := by
  have hM := h.2.1.2.2.1
  refine ⟨fun k hk => ?_, ?_⟩
  · obtain ⟨ih, -⟩ := RR_AL h hx k (by omega)
    have hM2 : mK (zAL S x k).1 = mK S := (zAL_ok h.1.1.1 k).2.1
    refine ⟨ih.1.2.1, fun hk2 q => ?_⟩
    have e := RR_rs ih (x := x) (y := k) (by omega) (by omega)
    unfold trs at e
    rw [← e] at q
    exact RR_lnX ih (by omega) (zrs_kd q).2.2
  · rw [hM]
    obtain ⟨ih, -⟩ := RR_AL h hx (mK S) (Nat.le_refl _)
    obtain ⟨i1, -⟩ := AL_inv hx (mK S) (Nat.le_refl _)
    have hM2 : mK (zAL S x (mK S)).1 = mK S := (zAL_ok h.1.1.1 _).2.1
    exact RR_lnX ih (by omega) ((i1 2 (by decide)).trans hp)
/-! rejecting, on both sides -/
theorem RR_R1 {S : zSt} {s : zMs} {B x : Nat} (h : RR S s B) (hx : x < mK S) : RR (zR1 S x) (mR1 s x) B := by
  have e : ∀ y, y < mK S → zrs (fA S) y x = mrs (nZ s) (nK s) (nR s) (nC s) y x := fun y hy => RR_rs h hy hx
  refine RR_st h (fun y w hy hw h2 => ?_) (fun y hy => ?_) (fun y hy q => ?_)
  · rw [upd_ne (by omega), zMk_oth hw h2]
  · by_cases c : y = x
    · subst c; rw [upd_eq, upd_eq]
    · rw [upd_ne c, upd_ne (by omega), zMk_at2 hy, mMk_at (by rw [h.2.1.2.2.1]; exact hy), ← e y hy, (h.2.2.1 y hy).2.2.1]
  · by_cases c : y = x
    · subst c; rw [upd_eq] at q; exact absurd q zz2
    · rw [upd_ne (by omega), zMk_at2 hy] at q
      split at q
      · exact absurd q zz2
      · exact q
theorem zR1_0 {S : zSt} {x y : Nat} (hy : y < mK S) (q : fA (zR1 S x) (6 * y + 2) = 0) : ¬ y = x ∧ fA S (6 * y + 2) = 0 ∧ zrs (fA S) y x = false := by
  have q' : upd (zMk (fA S) (fun j => zrs (fA S) j x) (nI 2) (mK S)) (6 * x + 2) (nI 2) (6 * y + 2) = 0 := q
  by_cases c : y = x
  · subst c; rw [upd_eq] at q'; exact absurd q' zz2
  · rw [upd_ne (by omega), zMk_at2 hy] at q'
    split at q'
    · exact absurd q' zz2
    · rename_i t; exact ⟨c, q', by simpa using t⟩
theorem zR1_w {S : zSt} {x y w : Nat} (hw : w < 6) (h2 : w ≠ 2) : fA (zR1 S x) (6 * y + w) = fA S (6 * y + w) := by
  show upd (zMk (fA S) (fun j => zrs (fA S) j x) (nI 2) (mK S)) (6 * x + 2) (nI 2) (6 * y + w) = _
  rw [upd_ne (by omega), zMk_oth hw h2]
theorem RR_RW {S : zSt} {s : zMs} {B x : Nat} (h : RR S s B) (hx : x < mK S) (hp : fA S (6 * x + 2) = 0) : RR (zRW S x) (mRW s x) B ∧ zRWn S x = mRWn s x := by
  have h12 := h.1.1.1.1
  have h8 := h.1.1.1.2.1
  obtain ⟨k1, k2, k3, k4, k5, k6⟩ := h.2.2.1 x hx
  obtain ⟨p1, p2, p3⟩ := h.2.2.2.2.2.2.2.1 x hx
  obtain ⟨p3, p4⟩ := p3 hp
  have hQ := h.2.2.2.2.2.2.2.2
  have h1 : RR (zR1 S x) (mR1 s x) B := RR_R1 h hx
  have a0 : ∀ y, fA (zR1 S x) (6 * y) = fA S (6 * y) := fun y => zR1_w (w := 0) (by decide) (by decide)
  refine ⟨?_, by unfold zRWn mRWn; rw [RR_dep h hx]; rfl⟩
  unfold zRW mRW
  rw [a0, zR1_w (w := 3) (by decide) (by decide), zR1_w (w := 4) (by decide) (by decide), k1]
  by_cases c0 : fA S (6 * x) = 0
  · have c0' : fA S (6 * x) = nI 0 := c0.trans nI_0.symm
    rw [if_pos c0, if_pos c0']
    obtain ⟨p, hpu, ep⟩ := p3 (Or.inl c0')
    rw [ep, RR_mpR h hx hpu ep]
    refine RR_DrR (s := mR1 s x) (Z' := nZ (mR1 s x)) h1 hpu (fun y hy => ?_)
    rw [(h1.2.2.1 y hy).2.2.1, zLv_2 hy (by decide)]
    rw [if_neg]
    rintro ⟨q3, q2⟩
    have hy' : y < mK S := hy
    obtain ⟨ne, r2, rr⟩ := zR1_0 hy' q2
    rw [zR1_w (by decide) (by decide)] at q3
    have q3' : fA S (6 * y + 3) = rO S p := q3
    rcases (h.2.2.1 y hy').2.2.2.2.2 with e | e | e | e | e
    · refine ne ((hQ y x hy' hx r2 hp (q3'.trans ep.symm) ?_).1 (e.trans c0'.symm) (by rw [e]; decide))
      rw [(p2 (Or.inl c0')).1, ((h.2.2.2.2.2.2.2.1 y hy').2.1 (Or.inl e)).1]
    · unfold zrs at rr
      simp [hp, r2, c0, e, ep, q3'] at rr
    · exact absurd (((h.2.2.2.2.2.2.2.1 y hy').1 (Or.inl e)).1.symm.trans q3') (RO_m5 h.2.2.2.2.1.1 (by decide) (by omega))
    · exact absurd (((h.2.2.2.2.2.2.2.1 y hy').1 (Or.inr e)).1.symm.trans q3') (RO_m5 h.2.2.2.2.1.1 (by decide) (by omega))
    · unfold zrs at rr
      simp [hp, r2, c0, e, ep, q3', nI_eq] at rr
  · have c0' : ¬ fA S (6 * x) = nI 0 := fun z => c0 (z.trans nI_0)
    rw [if_neg c0, if_neg c0']
    by_cases c2 : fA S (6 * x) = nI 2
    · rw [if_pos c2, if_pos c2]
      obtain ⟨p, hpu, ep⟩ := p4 (Or.inl c2)
      rw [ep, RR_mpC h hx hpu ep]
      refine RR_DrC (s := mR1 s x) (Z' := nZ (mR1 s x)) h1 hpu (fun y hy => ?_)
      rw [(h1.2.2.1 y hy).2.2.1, zLv_2 hy (by decide)]
      rw [if_neg]
      rintro ⟨q3, q2⟩
      have hy' : y < mK S := hy
      obtain ⟨ne, r2, rr⟩ := zR1_0 hy' q2
      rw [zR1_w (by decide) (by decide)] at q3
      have q3' : fA S (6 * y + 4) = cO S p := q3
      rcases (h.2.2.1 y hy').2.2.2.2.2 with e | e | e | e | e
      · exact absurd (((h.2.2.2.2.2.2.2.1 y hy').2.1 (Or.inl e)).1.symm.trans q3') (RO_m5 h.2.2.2.2.1.2 (by decide) (by omega))
      · exact absurd (((h.2.2.2.2.2.2.2.1 y hy').2.1 (Or.inr e)).1.symm.trans q3') (RO_m5 h.2.2.2.2.1.2 (by decide) (by omega))
      · refine ne ((hQ y x hy' hx r2 hp ?_ (q3'.trans ep.symm)).1 (e.trans c2.symm) (by rw [e]; decide))
        rw [(p1 (Or.inl c2)).1, ((h.2.2.2.2.2.2.2.1 y hy').1 (Or.inl e)).1]
      · unfold zrs at rr
        simp [hp, r2, c2, e, ep, q3', nI_eq] at rr
      · unfold zrs at rr
        simp [hp, r2, c2, e, ep, q3', nI_eq] at rr
    · rw [if_neg c2, if_neg c2]
      exact h1
/-! settling, on both sides -/
theorem RR_SC {S : zSt} {s : zMs} {B k : Nat} {au : Int32} (h : RR S s B) (ha : au = -1 ∨ ∃ a, a < 4 ∧ au = nI a) (hk : k < mK S) : zSC S au k = mFo (nZ s) (nY s) au k := by
  obtain ⟨-, k2, k3, -⟩ := h.2.2.1 k hk
  unfold zSC mFo
  rw [k2, k3, Bool.and_comm]
  rcases ha with e | ⟨a, ha, e⟩
  · subst e; simp
  · subst e
    rw [decide_eq_false (nI_m1 (by omega)), decide_eq_false (nI_pos (by omega))]
theorem zSC_p {S : zSt} {au : Int32} {k : Nat} (h : zSC S au k = true) : fA S (6 * k + 2) = 0 := by
  unfold zSC at h
  simp only [Bool.and_eq_true, decide_eq_true_eq] at h
  exact h.2
theorem RR_SL {S : zSt} {s : zMs} {B : Nat} {au : Int32} {b : Bool} (h : RR S s B) (ha : au = -1 ∨ ∃ a, a < 4 ∧ au = nI a) : ∀ k, k ≤ mK S → RR (zSL S au b k).1 (mSL s au b k).1 B ∧ (zSL S au b k).2 = (mSL s au b k).2
  | 0, _ => ⟨h, rfl⟩
  | k + 1, hk => by
    obtain ⟨ih, ih2⟩ := RR_SL (b := b) h ha k (by omega)
    have hM : mK (zSL S au b k).1 = mK S := (zSL_ok h.1.1.1 k).2.1
    have e := RR_SC ih ha (k := k) (by omega)
    cases c : zSC (zSL S au b k).1 au k with
    | false =>
      rw [zSL_n c, mSL_n (e.symm.trans c)]
      exact ⟨ih, ih2⟩
    | true =>
      cases b with
      | true =>
        obtain ⟨r1, r2⟩ := RR_AW ih (x := k) (by omega) (zSC_p c)
        rw [zSL_a c rfl, mSL_a (e.symm.trans c) rfl]
        exact ⟨r1, by show _ + _ = _ + _; rw [ih2, r2]⟩
      | false =>
        obtain ⟨r1, r2⟩ := RR_RW ih (x := k) (by omega) (zSC_p c)
        rw [zSL_r c rfl, mSL_r (e.symm.trans c) rfl]
        exact ⟨r1, by show _ + _ = _ + _; rw [ih2, r2]⟩
