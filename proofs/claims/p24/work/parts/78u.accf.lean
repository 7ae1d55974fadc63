/-! accepting: those on which a change rests, one by one, then itself -/
theorem AA_s {S : zSt} {y : Nat} (h : fA S (6 * y) = nI 0 ∨ fA S (6 * y) = nI 2 ∨ fA S (6 * y) = nI 4) : mK (zAA S y) = mK S ∧ rO (zAA S y) = rO S ∧ rU (zAA S y) = rU S ∧ cO (zAA S y) = cO S ∧ cU (zAA S y) = cU S := by
  have e : fA (zA1 S y) (6 * y) = fA S (6 * y) := upd_ne (by omega)
  unfold zAA
  rw [e]
  rcases h with h | h | h <;> rw [h]
  · rw [if_neg (by decide), if_neg (by decide), if_neg (by decide)]; exact ⟨rfl, rfl, rfl, rfl, rfl⟩
  · rw [if_neg (by decide), if_neg (by decide), if_neg (by decide)]; exact ⟨rfl, rfl, rfl, rfl, rfl⟩
  · rw [if_neg (by decide), if_neg (by decide), if_pos rfl]; exact ⟨rfl, rfl, rfl, rfl, rfl⟩
def supK (S : zSt) (x k : Nat) : Nat → Bool := fun y => sup S x y && decide (y < k)
theorem AL_Stm {S : zSt} {x : Nat} (hx : x < mK S) : ∀ k, k ≤ mK S → Stm S (zAL S x k).1 (supK S x k) 1 ∧ (zAL S x k).2 = zc (sup S x) k
  | 0, _ => by
    refine ⟨⟨⟨rfl, rfl, rfl, rfl, rfl⟩, fun y hy w hw => ?_, fun y hy h => ?_⟩, rfl⟩
    · unfold supK
      simp [zAL]
    · unfold supK at h
      simp at h
  | k + 1, hk => by
    obtain ⟨T, en⟩ := AL_Stm hx k (by omega)
    have nx : supK S x k x = false := by unfold supK; rw [show sup S x x = false from zrs_self _ _]; rfl
    have nk : supK S x k k = false := by unfold supK; rw [decide_eq_false (Nat.lt_irrefl k)]; simp
    have gx : ∀ w, w < 6 → fA (zAL S x k).1 (6 * x + w) = fA S (6 * x + w) := fun w hw => by rw [T.2.1 x hx w hw, nx]; simp
    have gk : ∀ w, w < 6 → fA (zAL S x k).1 (6 * k + w) = fA S (6 * k + w) := fun w hw => by rw [T.2.1 k (by omega) w hw, nk]; simp
    have e : zrs (fA (zAL S x k).1) x k = sup S x k := zrs_cg gx gk
    simp only [zAL]
    rw [e]
    cases c : sup S x k with
    | false =>
      rw [if_neg (by decide)]
      refine ⟨⟨T.1, fun y hy w hw => ?_, fun y hy h => ?_⟩, by rw [en, zc_n c]⟩
      · rw [T.2.1 y hy w hw]
        have : supK S x (k + 1) y = supK S x k y := by
          unfold supK
          by_cases q : y = k
          · subst q; rw [c]; rfl
          · rw [decide_eq_decide.mpr (show y < k + 1 ↔ y < k by omega)]
        rw [this]
      · unfold supK at h
        rw [Bool.and_eq_true] at h
        exact (zrs_pp h.1).2
    | true =>
      rw [if_pos rfl]
      have kd := (zrs_kd (show zrs (fA S) x k = true from c)).1
      have kd' : fA (zAL S x k).1 (6 * k) = nI 0 ∨ fA (zAL S x k).1 (6 * k) = nI 2 ∨ fA (zAL S x k).1 (6 * k) = nI 4 := by
        rw [show fA (zAL S x k).1 (6 * k) = fA S (6 * k) from gk 0 (by decide)]; exact kd
      obtain ⟨a1, a2, a3, a4, a5⟩ := AA_s kd'
      refine ⟨⟨⟨a1.trans T.1.1, a2.trans T.1.2.1, a3.trans T.1.2.2.1, a4.trans T.1.2.2.2.1, a5.trans T.1.2.2.2.2⟩, fun y hy w hw => ?_, fun y hy h => ?_⟩, by rw [zc_y c, ← en]⟩
      · show fA (zAA (zAL S x k).1 k) (6 * y + w) = _
        rw [fA_AAs kd']
        by_cases q : y = k
        · subst q
          by_cases w2 : w = 2
          · subst w2
            rw [upd_eq, if_pos ⟨rfl, by unfold supK; rw [c, decide_eq_true (Nat.lt_succ_self _)]; rfl⟩]
          · rw [upd_ne (by omega), gk w hw, if_neg (fun z => w2 z.1)]
        · rw [upd_ne (by omega), T.2.1 y hy w hw]
          have : supK S x (k + 1) y = supK S x k y := by
            unfold supK
            rw [decide_eq_decide.mpr (show y < k + 1 ↔ y < k by omega)]
          rw [this]
      · unfold supK at h
        rw [Bool.and_eq_true] at h
        exact (zrs_pp h.1).2
theorem AWn_e {S : zSt} {x : Nat} (hx : x < mK S) : zAWn S x = 1 + zc (sup S x) (mK S) := by
  unfold zAWn
  rw [(AL_Stm hx _ (Nat.le_refl _)).2]
  omega
/-- all accepted, the lines and values not yet touched by the last one -/
theorem A1_Stm {S : zSt} {x : Nat} (hx : x < mK S) (hp : fA S (6 * x + 2) = 0) : Stm S (zA1 (zAL S x (mK S)).1 x) (wth (sup S x) x) 1 := by
  obtain ⟨T, -⟩ := AL_Stm hx _ (Nat.le_refl (mK S))
  refine ⟨T.1, fun y hy w hw => ?_, fun y hy h => ?_⟩
  · show upd (fA (zAL S x (mK S)).1) (6 * x + 2) (nI 1) (6 * y + w) = _
    have es : supK S x (mK S) y = sup S x y := by unfold supK; rw [decide_eq_true hy, Bool.and_true]
    by_cases e2 : w = 2
    · subst e2
      by_cases e : y = x
      · subst e
        rw [upd_eq, if_pos ⟨rfl, by unfold wth; rw [decide_eq_true rfl, Bool.or_true]⟩]
      · rw [upd_ne (by omega), T.2.1 y hy 2 (by decide), es]
        unfold wth
        rw [decide_eq_false e, Bool.or_false]
    · rw [upd_ne (by omega), T.2.1 y hy w hw, if_neg (fun q => e2 q.1), if_neg (fun q => e2 q.1)]
  · unfold wth at h
    rw [Bool.or_eq_true] at h
    rcases h with h | h
    · exact (zrs_pp h).2
    · rw [of_decide_eq_true h]; exact hp
theorem zrs_rem {S : zSt} {a p x y : Nat} (ha : a < 2) (hx : fA S (6 * x + 2) = 0) (hkx : fA S (6 * x) = nI (2 * a + 1)) (hsx : fA S (6 * x + (3 + a)) = oO S a p) (hy : fA S (6 * y + 2) = 0) (hky : fA S (6 * y) = nI (2 * a)) (hsy : fA S (6 * y + (3 + a)) = oO S a p) : zrs (fA S) x y = true := by
  unfold zrs
  rw [hx, hy, decide_eq_true rfl, Bool.true_and, Bool.true_and]
  rcases ax2 ha with e | e <;> subst e
  · have es : fA S (6 * x + 3) = fA S (6 * y + 3) := hsx.trans hsy.symm
    have k : fA S (6 * x) = nI 1 := hkx
    have k2 : fA S (6 * y) = 0 := hky.trans nI_0
    rw [k, k2, es, if_pos rfl]; simp
  · have es : fA S (6 * x + 4) = fA S (6 * y + 4) := hsx.trans hsy.symm
    have k : fA S (6 * x) = nI 3 := hkx
    have k2 : fA S (6 * y) = nI 2 := hky
    rw [k, k2, es, if_neg (by decide), if_pos rfl]; simp
/-- once a removal is accepted, with the insertion of its line, the line's settings are what is pending of it -/
theorem A1_ln {S : zSt} {B a p x : Nat} (h : GG S B) (ha : a < 2) (hP : p < uU S a) (hx : x < mK S) (hp : fA S (6 * x + 2) = 0) (hk : fA S (6 * x) = nI (2 * a + 1)) (hs : fA S (6 * x + (3 + a)) = oO S a p) : zc (lnP (zA1 (zAL S x (mK S)).1 x) a p) (mK S) = nSt S a p := by
  have T := A1_Stm hx hp
  unfold nSt
  refine zc_cg (fun y hy => ?_)
  unfold lnP pSL
  rw [T.w hy (by omega) (by omega), T.o, T.s hy]
  cases c1 : decide (fA S (6 * y + (3 + a)) = oO S a p) with
  | false => simp
  | true =>
    have s1 := of_decide_eq_true c1
    cases c2 : decide (fA S (6 * y + 2) = 0) with
    | false =>
      have q := of_decide_eq_false c2
      cases d : wth (sup S x) x y with
      | true => exact absurd (T.2.2 y hy d) q
      | false => rw [if_neg (by decide), c2]; simp
    | true =>
      have s2 := of_decide_eq_true c2
      rcases gg_kl h ha hP hy s1 with k | k | k
      · have d : wth (sup S x) x y = true := by
          unfold wth
          rw [show sup S x y = true from zrs_rem ha hp hk hs s2 k s1]; rfl
        rw [d, if_pos rfl, k, decide_eq_false (show ¬ nI (2 * a) = nI 4 from fun q => by have := (nI_eq (by omega) (by decide)).mp q; omega)]
        rfl
      · have e : y = x := gg_Q h ha hy hx s2 hp (Or.inr k) (k.trans hk.symm) (s1.trans hs.symm)
        have d : wth (sup S x) x y = true := by unfold wth; rw [decide_eq_true e, Bool.or_true]
        rw [d, if_pos rfl, k, decide_eq_false (show ¬ nI (2 * a + 1) = nI 4 from fun q => by have := (nI_eq (by omega) (by decide)).mp q; omega)]
        rfl
      · have d : wth (sup S x) x y = false := by
          unfold wth
          rw [Bool.or_eq_false_iff]
          refine ⟨?_, decide_eq_false (fun e => ?_)⟩
          · show zrs (fA S) x y = false
            rw [zrs_R h ha hx hp hk, k, decide_eq_false (show ¬ nI 4 = nI (2 * a) from fun q => by have := (nI_eq (by decide) (by omega)).mp q; omega)]
            simp
          · rw [e, hk] at k
            have := (nI_eq (by omega) (by decide)).mp k
            omega
        rw [d, if_neg (by decide), c2, k]
        rfl
theorem Ac_line {S S' : zSt} {B a p x : Nat} (h : GG S B) (ha : a < 2) (hP : p < uU S a) (hx : x < mK S) (hp : fA S (6 * x + 2) = 0) (hk : fA S (6 * x) = nI (2 * a + 1)) (hs : fA S (6 * x + (3 + a)) = oO S a p) (eM : mK S' = mK S) (ef : fA S' = zLv (fA (zA1 (zAL S x (mK S)).1 x)) (3 + a) (oO S a p) (mK S)) : StF S S' x 1 (1 + zc (sup S x) (mK S)) ∧ cnS S' 2 = cnS S 2 ∧ cnS S' 3 = cnS S 3 + nSt S a p := by
  have T := A1_Stm hx hp
  obtain ⟨c2, c0, ck⟩ := cnS_st T (by decide) (by decide)
  have z := A1_ln h ha hP hx hp hk hs
  rw [zc_wth hx (show sup S x x = false from zrs_self _ _)] at c2 c0
  have eM2 : mK (zA1 (zAL S x (mK S)).1 x) = mK S := T.1.1
  obtain ⟨d3, d0, dk⟩ := cnS_lv' (S := zA1 (zAL S x (mK S)).1 x) (S1 := S') (a := a) (p := p) ha (by rw [eM2]; exact eM) (by rw [eM2, T.o]; exact ef)
  rw [eM2, z] at d3 d0
  have e3 := ck 3 (by decide) (by decide) (by decide)
  have e1 := ck 2 (by decide) (by decide) (by decide)
  have f2 := dk 2 (by decide) (by decide) (by decide)
  have f1 := dk 1 (by decide) (by decide) (by decide)
  refine ⟨⟨eM, by omega, by omega, fun y hy => ⟨?_, fun q => ?_⟩, ?_⟩, by omega, by omega⟩
  · rw [ef, zLv_1 ha, T.w hy (by decide) (by decide)]
  · rw [ef] at q
    exact (T.pend (by decide) (by decide) hy (zLv_s0 ha hy q)).1
  · rw [ef, zLv_2 hx (by omega), T.s hx]
    unfold wth
    rw [decide_eq_true rfl, Bool.or_true, if_pos rfl, if_neg (fun q => absurd q.2 (by decide))]
/-- what accepting a change comes to, by its kind -/
theorem AW_1 {S : zSt} {x p : Nat} (hx : x < mK S) (hp : fA S (6 * x + 2) = 0) (hk : fA S (6 * x) = nI 1) (hs : fA S (6 * x + 3) = rO S p) : zAW S x = zDrR (zA1 (zAL S x (mK S)).1 x) (rO S p) := by
  have T := A1_Stm hx hp
  have ek : fA (zA1 (zAL S x (mK S)).1 x) (6 * x) = nI 1 := (T.k hx).trans hk
  unfold zAW zAA
  rw [if_pos ek, T.w hx (by decide) (by decide), hs]
theorem AW_3 {S : zSt} {x p : Nat} (hx : x < mK S) (hp : fA S (6 * x + 2) = 0) (hk : fA S (6 * x) = nI 3) (hs : fA S (6 * x + 4) = cO S p) : zAW S x = zDrC (zA1 (zAL S x (mK S)).1 x) (cO S p) := by
  have T := A1_Stm hx hp
  have ek : fA (zA1 (zAL S x (mK S)).1 x) (6 * x) = nI 3 := (T.k hx).trans hk
  unfold zAW zAA
  rw [if_neg (by rw [ek]; decide), if_pos ek, T.w hx (by decide) (by decide), hs]
theorem AW_4 {S : zSt} {x : Nat} (hx : x < mK S) (hp : fA S (6 * x + 2) = 0) (hk : fA S (6 * x) = nI 4) : zAW S x = zBs (zA1 (zAL S x (mK S)).1 x) (zPb (bS (zAL S x (mK S)).1) (fA S (6 * x + 3)) (fA S (6 * x + 4)) (fA S (6 * x + 5))) := by
  have T := A1_Stm hx hp
  have ek : fA (zA1 (zAL S x (mK S)).1 x) (6 * x) = nI 4 := (T.k hx).trans hk
  unfold zAW zAA
  rw [if_neg (by rw [ek]; decide), if_neg (by rw [ek]; decide), if_pos ek, T.w hx (by decide) (by decide), T.w hx (by decide) (by decide), T.w hx (by decide) (by decide)]
theorem AW_0 {S : zSt} {x : Nat} (hx : x < mK S) (hp : fA S (6 * x + 2) = 0) (h1 : ¬ fA S (6 * x) = nI 1) (h3 : ¬ fA S (6 * x) = nI 3) (h4 : ¬ fA S (6 * x) = nI 4) : zAW S x = zA1 (zAL S x (mK S)).1 x := by
  have T := A1_Stm hx hp
  have ek : fA (zA1 (zAL S x (mK S)).1 x) (6 * x) = fA S (6 * x) := T.k hx
  unfold zAW zAA
  rw [if_neg (by rw [ek]; exact h1), if_neg (by rw [ek]; exact h3), if_neg (by rw [ek]; exact h4)]
theorem Ac_rest {S S' : zSt} {x : Nat} (hx : x < mK S) (hp : fA S (6 * x + 2) = 0) (T : Stm S S' (wth (sup S x) x) 1) : StF S S' x 1 (1 + zc (sup S x) (mK S)) ∧ cnS S' 2 = cnS S 2 ∧ cnS S' 3 = cnS S 3 := by
  obtain ⟨c2, c0, ck⟩ := cnS_st T (by decide) (by decide)
  rw [zc_wth hx (show sup S x x = false from zrs_self _ _)] at c2 c0
  have e3 := ck 3 (by decide) (by decide) (by decide)
  have e1 := ck 2 (by decide) (by decide) (by decide)
  refine ⟨⟨T.1.1, c2, by omega, fun y hy => ⟨T.w hy (by decide) (by decide), fun q => (T.pend (by decide) (by decide) hy q).1⟩, ?_⟩, e1, e3⟩
  rw [T.s hx]
  unfold wth
  rw [decide_eq_true rfl, Bool.or_true, if_pos rfl]
theorem AW_4T {S : zSt} {x : Nat} (hx : x < mK S) (hp : fA S (6 * x + 2) = 0) (hk : fA S (6 * x) = nI 4) : Stm S (zAW S x) (wth (sup S x) x) 1 := by
  rw [AW_4 hx hp hk]
  exact A1_Stm hx hp
theorem AW_0T {S : zSt} {x : Nat} (hx : x < mK S) (hp : fA S (6 * x + 2) = 0) (h1 : ¬ fA S (6 * x) = nI 1) (h3 : ¬ fA S (6 * x) = nI 3) (h4 : ¬ fA S (6 * x) = nI 4) : Stm S (zAW S x) (wth (sup S x) x) 1 := by
  rw [AW_0 hx hp h1 h3 h4]
  exact A1_Stm hx hp
theorem Ac_rm {S : zSt} {B a p x : Nat} (h : GG S B) (ha : a < 2) (hP : p < uU S a) (hx : x < mK S) (hp : fA S (6 * x + 2) = 0) (hk : fA S (6 * x) = nI (2 * a + 1)) (hs : fA S (6 * x + (3 + a)) = oO S a p) : StF S (zAW S x) x 1 (1 + zc (sup S x) (mK S)) ∧ cnS (zAW S x) 2 = cnS S 2 ∧ cnS (zAW S x) 3 = cnS S 3 + nSt S a p ∧ uU (zAW S x) a + 1 = uU S a := by
  have T := A1_Stm hx hp
  rcases ax2 ha with e | e <;> subst e
  · have eW := AW_1 hx hp hk hs
    have ef : fA (zAW S x) = zLv (fA (zA1 (zAL S x (mK S)).1 x)) (3 + 0) (oO S 0 p) (mK S) := by
      rw [eW]
      show zLv (fA (zA1 (zAL S x (mK S)).1 x)) 3 (rO S p) (mK (zA1 (zAL S x (mK S)).1 x)) = _
      rw [T.1.1]; rfl
    have eM : mK (zAW S x) = mK S := by rw [eW]; exact T.1.1
    obtain ⟨a1, a2, a3⟩ := Ac_line h (a := 0) (by decide) hP hx hp hk hs eM ef
    refine ⟨a1, a2, a3, ?_⟩
    rw [eW]
    have e2 : uU (zDrR (zA1 (zAL S x (mK S)).1 x) (rO S p)) 0 = zClu (rO (zA1 (zAL S x (mK S)).1 x)) (rU (zA1 (zAL S x (mK S)).1 x)) (rO S p) := rfl
    rw [e2, T.1.2.1, T.1.2.2.1]
    have e3 := zClu_p (f := rO S) (n := 12) (u := rU S) (p := p) (gg_RO h (a := 0) (by decide)) (gg_mx h (a := 0) (by decide)) hP
    have e4 : uU S 0 = rU S := rfl
    omega
  · have eW := AW_3 hx hp hk hs
    have ef : fA (zAW S x) = zLv (fA (zA1 (zAL S x (mK S)).1 x)) (3 + 1) (oO S 1 p) (mK S) := by
      rw [eW]
      show zLv (fA (zA1 (zAL S x (mK S)).1 x)) 4 (cO S p) (mK (zA1 (zAL S x (mK S)).1 x)) = _
      rw [T.1.1]; rfl
    have eM : mK (zAW S x) = mK S := by rw [eW]; exact T.1.1
    obtain ⟨a1, a2, a3⟩ := Ac_line h (a := 1) (by decide) hP hx hp hk hs eM ef
    refine ⟨a1, a2, a3, ?_⟩
    rw [eW]
    have e2 : uU (zDrC (zA1 (zAL S x (mK S)).1 x) (cO S p)) 1 = zClu (cO (zA1 (zAL S x (mK S)).1 x)) (cU (zA1 (zAL S x (mK S)).1 x)) (cO S p) := rfl
    rw [e2, T.1.2.2.2.1, T.1.2.2.2.2]
    have e3 := zClu_p (f := cO S) (n := 8) (u := cU S) (p := p) (gg_RO h (a := 1) (by decide)) (gg_mx h (a := 1) (by decide)) hP
    have e4 : uU S 1 = cU S := rfl
    omega
theorem Ac_all {S : zSt} {B x : Nat} (h : GG S B) (hx : x < mK S) (hp : fA S (6 * x + 2) = 0) : StF S (zAW S x) x 1 (1 + zc (sup S x) (mK S)) := by
  by_cases h1 : fA S (6 * x) = nI 1
  · obtain ⟨p, hP, hs⟩ := gg_P h (a := 0) (by decide) hx hp (Or.inr (Or.inl h1))
    exact (Ac_rm h (a := 0) (by decide) hP hx hp h1 hs).1
  · by_cases h3 : fA S (6 * x) = nI 3
    · obtain ⟨p, hP, hs⟩ := gg_P h (a := 1) (by decide) hx hp (Or.inr (Or.inl h3))
      exact (Ac_rm h (a := 1) (by decide) hP hx hp h3 hs).1
    · by_cases h4 : fA S (6 * x) = nI 4
      · exact (Ac_rest hx hp (AW_4T hx hp h4)).1
      · exact (Ac_rest hx hp (AW_0T hx hp h1 h3 h4)).1
/-- a setting that is accepted: its lines are not new any more, its value is the base value -/
theorem Ac_set {S : zSt} {B x i j : Nat} (h : GG S B) (hx : x < mK S) (hp : fA S (6 * x + 2) = 0) (hk : fA S (6 * x) = nI 4) (hi : i < uU S 0) (hj : j < uU S 1) (h3 : fA S (6 * x + 3) = rO S i) (h4 : fA S (6 * x + 4) = cO S j) : Nw (zAW S x) 0 i = false ∧ Nw (zAW S x) 1 j = false ∧ bse (zAW S x) i j = nI (vN S x) := by
  have T := AW_4T hx hp hk
  have nw : ∀ {a p : Nat}, a < 2 → fA S (6 * x + (3 + a)) = oO S a p → Nw (zAW S x) a p = false := fun {a p} ha hs => by
    cases c : Nw (zAW S x) a p with
    | false => rfl
    | true =>
      exfalso
      obtain ⟨q1, q2, q3, q4⟩ := Nw_t c
      rw [T.1.1] at q1
      obtain ⟨q2', nd⟩ := T.pend (by decide) (by decide) q1 q2
      rw [T.k q1] at q3
      rw [T.w q1 (by omega) (by omega), T.o] at q4
      have z : zrs (fA S) x (xI (zAW S x) a p) = true := zrs_ins (B := B) ha q2' q3 q4 hp (Or.inr hk) hs
      unfold wth at nd
      rw [Bool.or_eq_false_iff] at nd
      exact absurd (show sup S x (xI (zAW S x) a p) = true from z) (by rw [nd.1]; decide)
  refine ⟨nw (by decide) h3, nw (by decide) h4, ?_⟩
  obtain ⟨q, hq, eq⟩ := slR h hi
  obtain ⟨w, hw, ew⟩ := slC h hj
  have e1 : bse (zAW S x) i j = zBa (bS (zAW S x)) (rO S i) (cO S j) := by
    unfold bse
    rw [T.1.2.1, T.1.2.2.2.1]
  rw [e1, AW_4 hx hp hk]
  show zBa (zPb (bS (zAL S x (mK S)).1) (fA S (6 * x + 3)) (fA S (6 * x + 4)) (fA S (6 * x + 5))) (rO S i) (cO S j) = _
  rw [h3, h4, eq, ew, zPb_in hq hw, zBa_in hq hw, upd_eq, (vN_e h hx hk).1]
