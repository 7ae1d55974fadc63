/-! what accepting and rejecting lead to -/
/-- from S to S2 the states of some pending changes become t, and nothing else of changes and lines -/
def Stm (S S2 : zSt) (ac : Nat → Bool) (t : Nat) : Prop := (mK S2 = mK S ∧ rO S2 = rO S ∧ rU S2 = rU S ∧ cO S2 = cO S ∧ cU S2 = cU S) ∧ (∀ y, y < mK S → ∀ w, w < 6 → fA S2 (6 * y + w) = if w = 2 ∧ ac y = true then nI t else fA S (6 * y + w)) ∧ ∀ y, y < mK S → ac y = true → fA S (6 * y + 2) = 0
theorem Stm.w {S S2 : zSt} {ac : Nat → Bool} {t y w : Nat} (h : Stm S S2 ac t) (hy : y < mK S) (hw : w < 6) (h2 : w ≠ 2) : fA S2 (6 * y + w) = fA S (6 * y + w) := by
  rw [h.2.1 y hy w hw, if_neg (fun q => h2 q.1)]
theorem Stm.k {S S2 : zSt} {ac : Nat → Bool} {t y : Nat} (h : Stm S S2 ac t) (hy : y < mK S) : fA S2 (6 * y) = fA S (6 * y) := h.w (w := 0) hy (by decide) (by decide)
theorem Stm.s {S S2 : zSt} {ac : Nat → Bool} {t y : Nat} (h : Stm S S2 ac t) (hy : y < mK S) : fA S2 (6 * y + 2) = if ac y = true then nI t else fA S (6 * y + 2) := by
  rw [h.2.1 y hy 2 (by decide)]
  simp
theorem Stm.u {S S2 : zSt} {ac : Nat → Bool} {t : Nat} (h : Stm S S2 ac t) (a : Nat) : uU S2 a = uU S a := by
  unfold uU
  rw [h.1.2.2.1, h.1.2.2.2.2]
theorem Stm.o {S S2 : zSt} {ac : Nat → Bool} {t : Nat} (h : Stm S S2 ac t) (a : Nat) : oO S2 a = oO S a := by
  unfold oO
  rw [h.1.2.1, h.1.2.2.2.1]
/-- the counts of states -/
theorem cnS_st {S S2 : zSt} {ac : Nat → Bool} {t : Nat} (h : Stm S S2 ac t) (h0 : 0 < t) (ht : t < 10) : cnS S2 t = cnS S t + zc ac (mK S) ∧ cnS S2 0 + zc ac (mK S) = cnS S 0 ∧ ∀ k, k < 10 → k ≠ t → k ≠ 0 → cnS S2 k = cnS S k := by
  have eM := h.1.1
  have ne : ∀ {k l : Nat}, k < 10 → l < 10 → k ≠ l → ¬ nI k = nI l := fun hk hl hne e => hne ((nI_eq (by omega) (by omega)).mp e)
  refine ⟨?_, ?_, fun k hk hkt hk0 => ?_⟩
  · rw [cnS_p, cnS_p, eM]
    refine zc_or (fun y hy => ?_) (fun y hy q r => ?_)
    · rw [h.s hy]
      cases c : ac y <;> simp
    · rw [h.2.2 y hy r, ← nI_0] at q
      exact absurd (of_decide_eq_true q) (ne (by omega) (by omega) (by omega))
  · rw [cnS_p, cnS_p, eM]
    refine (zc_or (fun y hy => ?_) (fun y hy q r => ?_)).symm
    · rw [h.s hy]
      cases c : ac y with
      | true => rw [h.2.2 y hy c, nI_0]; simp
      | false => simp
    · rw [h.s hy, if_pos r] at q
      exact absurd (of_decide_eq_true q) (ne (by omega) (by omega) (by omega))
  · rw [cnS_p, cnS_p, eM]
    refine zc_cg (fun y hy => ?_)
    rw [h.s hy]
    cases c : ac y with
    | false => simp
    | true =>
      rw [if_pos rfl, h.2.2 y hy c, ← nI_0, decide_eq_false (ne (by omega) (by omega) (fun z => hkt z.symm)), decide_eq_false (ne (by omega) (by omega) (fun z => hk0 z.symm))]
theorem zc_eq1 {x M : Nat} (hx : x < M) : zc (fun y => decide (y = x)) M = 1 := zc_one hx (decide_eq_true rfl) (fun j _ h => of_decide_eq_true h)
/-- the changes that go with one -/
def wth (p : Nat → Bool) (x : Nat) : Nat → Bool := fun y => p y || decide (y = x)
theorem zc_wth {p : Nat → Bool} {x M : Nat} (hx : x < M) (h : p x = false) : zc (wth p x) M = 1 + zc p M := by
  rw [zc_or (p := wth p x) (q := p) (r := fun y => decide (y = x)) (fun _ _ => rfl) (fun y _ q r => by rw [of_decide_eq_true r, h] at q; cases q), zc_eq1 hx]
  omega
theorem zrs_pp {g : Nat → Int32} {x y : Nat} (h : zrs g x y = true) : g (6 * x + 2) = 0 ∧ g (6 * y + 2) = 0 := (zrs_kd h).2
/-! rejecting -/
theorem R1_Stm {S : zSt} {x : Nat} (hx : x < mK S) (hp : fA S (6 * x + 2) = 0) : Stm S (zR1 S x) (wth (dpt S x) x) 2 := by
  refine ⟨⟨rfl, rfl, rfl, rfl, rfl⟩, fun y hy w hw => ?_, fun y hy h => ?_⟩
  · show upd (zMk (fA S) (fun j => zrs (fA S) j x) (nI 2) (mK S)) (6 * x + 2) (nI 2) (6 * y + w) = _
    by_cases e2 : w = 2
    · subst e2
      by_cases e : y = x
      · subst e
        rw [upd_eq, if_pos ⟨rfl, by unfold wth; rw [decide_eq_true rfl, Bool.or_true]⟩]
      · rw [upd_ne (by omega), zMk_at2 hy]
        unfold wth dpt
        rw [decide_eq_false e, Bool.or_false]
        simp
    · rw [upd_ne (by omega), zMk_oth hw e2, if_neg (fun q => e2 q.1)]
  · unfold wth at h
    rw [Bool.or_eq_true] at h
    rcases h with h | h
    · exact (zrs_pp h).1
    · rw [of_decide_eq_true h]; exact hp
/-- what names the line of a pending insertion rests on this -/
theorem zrs_ins {S : zSt} {B a p x y : Nat} (ha : a < 2) (hx : fA S (6 * x + 2) = 0) (hkx : fA S (6 * x) = nI (2 * a)) (hsx : fA S (6 * x + (3 + a)) = oO S a p) (hy : fA S (6 * y + 2) = 0) (hky : fA S (6 * y) = nI (2 * a + 1) ∨ fA S (6 * y) = nI 4) (hsy : fA S (6 * y + (3 + a)) = oO S a p) : zrs (fA S) y x = true := by
  unfold zrs
  rw [hx, hy, decide_eq_true rfl, Bool.true_and, Bool.true_and]
  rcases ax2 ha with e | e <;> subst e
  · have es : fA S (6 * y + 3) = fA S (6 * x + 3) := hsy.trans hsx.symm
    have kx : fA S (6 * x) = 0 := hkx.trans nI_0
    rcases hky with k | k <;> rw [k, kx, es]
    · rw [if_pos rfl]; simp
    · rw [if_neg (by decide), if_neg (by decide), if_pos rfl]; simp
  · have es : fA S (6 * y + 4) = fA S (6 * x + 4) := hsy.trans hsx.symm
    have kx : fA S (6 * x) = nI 2 := hkx
    rcases hky with k | k <;> rw [k, kx, es]
    · rw [if_neg (by decide), if_pos rfl]; simp
    · rw [if_neg (by decide), if_neg (by decide), if_pos rfl]; simp
/-- once an insertion is rejected, with what rests on it, nothing pending names its line -/
theorem R1_ln {S : zSt} {B a p x : Nat} (h : GG S B) (ha : a < 2) (hP : p < uU S a) (hx : x < mK S) (hp : fA S (6 * x + 2) = 0) (hk : fA S (6 * x) = nI (2 * a)) (hs : fA S (6 * x + (3 + a)) = oO S a p) : zc (lnP (zR1 S x) a p) (mK S) = 0 := by
  have T := R1_Stm hx hp
  refine zc_zero (fun y hy => ?_)
  cases c : lnP (zR1 S x) a p y with
  | false => rfl
  | true =>
    exfalso
    simp only [lnP, Bool.and_eq_true, decide_eq_true_eq] at c
    rw [T.w hy (by omega) (by omega), T.o, T.s hy] at c
    cases d : wth (dpt S x) x y with
    | true => rw [d, if_pos rfl] at c; exact absurd c.2 (by decide)
    | false =>
      rw [d, if_neg (by decide)] at c
      unfold wth at d
      rw [Bool.or_eq_false_iff] at d
      have hne : ¬ y = x := of_decide_eq_false d.2
      rcases gg_kl h ha hP hy c.1 with k | k | k
      · exact hne (gg_Q h ha hy hx c.2 hp (Or.inl k) (k.trans hk.symm) (c.1.trans hs.symm))
      · have := zrs_ins (B := B) ha hp hk hs c.2 (Or.inl k) c.1
        exact absurd (show dpt S x y = true from this) (by rw [d.1]; decide)
      · have := zrs_ins (B := B) ha hp hk hs c.2 (Or.inr k) c.1
        exact absurd (show dpt S x y = true from this) (by rw [d.1]; decide)
/-- states behind a line that goes, as equations -/
theorem cnS_lv' {S S1 : zSt} {a p : Nat} (ha : a < 2) (eM : mK S1 = mK S) (ef : fA S1 = zLv (fA S) (3 + a) (oO S a p) (mK S)) : cnS S1 3 = cnS S 3 + zc (lnP S a p) (mK S) ∧ cnS S1 0 + zc (lnP S a p) (mK S) = cnS S 0 ∧ ∀ k, k < 10 → k ≠ 3 → k ≠ 0 → cnS S1 k = cnS S k := by
  have h3 := cnS_lv ha eM ef (k := 3) (by decide)
  have h0 := cnS_lv ha eM ef (k := 0) (by decide)
  rw [if_pos rfl] at h3
  rw [if_neg (by decide), if_pos rfl] at h0
  have hl : zc (lnP S a p) (mK S) ≤ cnS S 0 := by
    rw [cnS_0]
    refine zc_inj id (fun y hy q => ⟨hy, ?_⟩) (fun y z _ _ _ _ e => e)
    simp only [lnP, Bool.and_eq_true] at q
    exact q.2
  refine ⟨h3, by omega, fun k hk h3 h0 => ?_⟩
  have := cnS_lv ha eM ef (k := k) hk
  rw [if_neg h3, if_neg h0] at this
  exact this
theorem zLv_1 {g : Nat → Int32} {a M x : Nat} {sl : Int32} (ha : a < 2) : zLv g (3 + a) sl M (6 * x + 1) = g (6 * x + 1) := zLv_o (by decide) (by omega) (by decide)
theorem zLv_s0 {g : Nat → Int32} {a M x : Nat} {sl : Int32} (ha : a < 2) (hx : x < M) (h : zLv g (3 + a) sl M (6 * x + 2) = 0) : g (6 * x + 2) = 0 := by
  rw [zLv_2 hx (by omega)] at h
  split at h
  · exact absurd h (by decide)
  · exact h
/-- what a step of settling leads to: t the state that n changes get -/
def StF (S S' : zSt) (x t n : Nat) : Prop := mK S' = mK S ∧ cnS S' t = cnS S t + n ∧ cnS S' 0 + cnS S' 3 + n = cnS S 0 + cnS S 3 ∧ (∀ y, y < mK S → fA S' (6 * y + 1) = fA S (6 * y + 1) ∧ (fA S' (6 * y + 2) = 0 → fA S (6 * y + 2) = 0)) ∧ fA S' (6 * x + 2) = nI t
theorem Stm.pend {S S2 : zSt} {ac : Nat → Bool} {t y : Nat} (h : Stm S S2 ac t) (h0 : 0 < t) (ht : t < 10) (hy : y < mK S) (q : fA S2 (6 * y + 2) = 0) : fA S (6 * y + 2) = 0 ∧ ac y = false := by
  rw [h.s hy] at q
  cases c : ac y with
  | true => rw [c, if_pos rfl] at q; exact absurd ((zz_0 (by omega)).mp q) (by omega)
  | false => rw [c, if_neg (by decide)] at q; exact ⟨q, rfl⟩
theorem Rj_line {S S' : zSt} {B a p x : Nat} (h : GG S B) (ha : a < 2) (hP : p < uU S a) (hx : x < mK S) (hp : fA S (6 * x + 2) = 0) (hk : fA S (6 * x) = nI (2 * a)) (hs : fA S (6 * x + (3 + a)) = oO S a p) (eM : mK S' = mK S) (ef : fA S' = zLv (fA (zR1 S x)) (3 + a) (oO S a p) (mK S)) : StF S S' x 2 (1 + zc (dpt S x) (mK S)) ∧ cnS S' 1 = cnS S 1 ∧ cnS S' 3 = cnS S 3 := by
  have T := R1_Stm hx hp
  obtain ⟨c2, c0, ck⟩ := cnS_st T (by decide) (by decide)
  have z := R1_ln h ha hP hx hp hk hs
  rw [zc_wth hx (show dpt S x x = false from zrs_self _ _)] at c2 c0
  obtain ⟨d3, d0, dk⟩ := cnS_lv' (S := zR1 S x) (S1 := S') (a := a) (p := p) ha eM ef
  have eM2 : mK (zR1 S x) = mK S := rfl
  rw [eM2, z] at d3 d0
  have e3 := ck 3 (by decide) (by decide) (by decide)
  have e1 := ck 1 (by decide) (by decide) (by decide)
  have f2 := dk 2 (by decide) (by decide) (by decide)
  have f1 := dk 1 (by decide) (by decide) (by decide)
  refine ⟨⟨eM, by omega, by omega, fun y hy => ⟨?_, fun q => ?_⟩, ?_⟩, by omega, by omega⟩
  · rw [ef, zLv_1 ha, T.w hy (by decide) (by decide)]
  · rw [ef] at q
    exact (T.pend (by decide) (by decide) hy (zLv_s0 ha hy q)).1
  · rw [ef, zLv_2 hx (by omega), T.s hx]
    unfold wth
    rw [decide_eq_true rfl, Bool.or_true, if_pos rfl, if_neg (fun q => absurd q.2 (by decide))]
theorem Rj_all {S : zSt} {B x : Nat} (h : GG S B) (hx : x < mK S) (hp : fA S (6 * x + 2) = 0) : StF S (zRW S x) x 2 (1 + zc (dpt S x) (mK S)) ∧ cnS (zRW S x) 1 = cnS S 1 ∧ cnS (zRW S x) 3 = cnS S 3 := by
  have T := R1_Stm hx hp
  have ek : fA (zR1 S x) (6 * x) = fA S (6 * x) := T.k hx
  unfold zRW
  split
  · rename_i q
    rw [ek, ← nI_0] at q
    obtain ⟨p, hP, hs⟩ := gg_P h (a := 0) (by decide) hx hp (Or.inl q)
    have es : fA (zR1 S x) (6 * x + 3) = rO S p := (T.w hx (by decide) (by decide)).trans hs
    exact Rj_line h (a := 0) (p := p) (by decide) hP hx hp q hs rfl (by rw [es]; rfl)
  · split
    · rename_i q
      rw [ek] at q
      obtain ⟨p, hP, hs⟩ := gg_P h (a := 1) (by decide) hx hp (Or.inl q)
      have es : fA (zR1 S x) (6 * x + 4) = cO S p := (T.w hx (by decide) (by decide)).trans hs
      exact Rj_line h (a := 1) (p := p) (by decide) hP hx hp q hs rfl (by rw [es]; rfl)
    · obtain ⟨c2, c0, ck⟩ := cnS_st T (by decide) (by decide)
      rw [zc_wth hx (show dpt S x x = false from zrs_self _ _)] at c2 c0
      have e3 := ck 3 (by decide) (by decide) (by decide)
      have e1 := ck 1 (by decide) (by decide) (by decide)
      refine ⟨⟨rfl, c2, by omega, fun y hy => ⟨T.w hy (by decide) (by decide), fun q => (T.pend (by decide) (by decide) hy q).1⟩, ?_⟩, e1, e3⟩
      rw [T.s hx]
      unfold wth
      rw [decide_eq_true rfl, Bool.or_true, if_pos rfl]
theorem Rj_u {S : zSt} {B x a P : Nat} (h : GG S B) (ha : a < 2) (hx : x < mK S) (hp : fA S (6 * x + 2) = 0) (hk : fA S (6 * x) = nI (2 * a)) (hs : fA S (6 * x + (3 + a)) = oO S a P) (hP : P < uU S a) : uU (zRW S x) a + 1 = uU S a := by
  have T := R1_Stm hx hp
  have ek : fA (zR1 S x) (6 * x) = fA S (6 * x) := T.k hx
  rcases ax2 ha with e | e <;> subst e
  · have q : fA (zR1 S x) (6 * x) = 0 := by rw [ek, hk]; exact nI_0
    have es : fA (zR1 S x) (6 * x + 3) = rO S P := (T.w hx (by decide) (by decide)).trans hs
    have e : zRW S x = zDrR (zR1 S x) (rO S P) := by unfold zRW; rw [if_pos q, es]
    rw [e]
    have e2 : uU (zDrR (zR1 S x) (rO S P)) 0 = uU S 0 - 1 := zClu_p (f := rO S) (n := 12) (u := rU S) (p := P) (gg_RO h (a := 0) (by decide)) (gg_mx h (a := 0) (by decide)) hP
    omega
  · have q : fA (zR1 S x) (6 * x) = nI 2 := by rw [ek, hk]
    have es : fA (zR1 S x) (6 * x + 4) = cO S P := (T.w hx (by decide) (by decide)).trans hs
    have e : zRW S x = zDrC (zR1 S x) (cO S P) := by unfold zRW; rw [if_neg (by rw [q]; decide), if_pos q, es]
    rw [e]
    have e2 : uU (zDrC (zR1 S x) (cO S P)) 1 = uU S 1 - 1 := zClu_p (f := cO S) (n := 8) (u := cU S) (p := P) (gg_RO h (a := 1) (by decide)) (gg_mx h (a := 1) (by decide)) hP
    omega
theorem Rj_u' {S : zSt} {x : Nat} (h0 : ¬ fA S (6 * x) = 0) (h2 : ¬ fA S (6 * x) = nI 2) (hx : x < mK S) (hp : fA S (6 * x + 2) = 0) (a : Nat) : uU (zRW S x) a = uU S a := by
  have T := R1_Stm hx hp
  have ek : fA (zR1 S x) (6 * x) = fA S (6 * x) := T.k hx
  have e : zRW S x = zR1 S x := by unfold zRW; rw [if_neg (by rw [ek]; exact h0), if_neg (by rw [ek]; exact h2)]
  rw [e]
  exact T.u a
