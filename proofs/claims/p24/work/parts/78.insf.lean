/-! what inserting leads to -/
def mxA (a : Nat) : Nat := if a = 0 then 12 else 8
theorem gg_RO {S : zSt} {B a : Nat} (h : GG S B) (ha : a < 2) : RO (oO S a) (mxA a) := by
  obtain ⟨⟨s, hR⟩, -⟩ := h
  rcases ax2 ha with e | e <;> subst e
  · exact hR.2.2.2.2.1.1
  · exact hR.2.2.2.2.1.2
theorem gg_mx {S : zSt} {B a : Nat} (h : GG S B) (ha : a < 2) : uU S a ≤ mxA a := by
  rcases ax2 ha with e | e <;> subst e
  · exact gg_u h 0
  · exact gg_u1 h
/-- a free slot is no change's -/
theorem gg_fr {S : zSt} {B a x : Nat} (h : GG S B) (ha : a < 2) (hu : uU S a < mxA a) (hx : x < mK S) : ¬ fA S (6 * x + (3 + a)) = oO S a (uU S a) := by
  have hO := gg_RO h ha
  intro e
  rcases gg_W h ha hx with q | ⟨p, hp, q⟩
  · obtain ⟨k, hk, ek⟩ := hO.1 _ hu
    have hm : mxA a ≤ 12 := by unfold mxA; split <;> omega
    rw [q, ek] at e
    exact nI_m5n (by omega) e.symm
  · have := hO.2 p (uU S a) (by omega) hu (q.symm.trans e)
    omega
theorem zgo_ext {p : Nat → Bool} {M : Nat} : ∀ {M' : Nat}, M ≤ M' → (∀ x, M ≤ x → x < M' → p x = false) → zgo p M' = zgo p M
  | 0, h, _ => by rw [show M = 0 by omega]
  | M' + 1, h, hp => by
    rcases Nat.lt_or_ge M' M with q | q
    · rw [show M = M' + 1 by omega]
    · simp only [zgo]
      rw [hp M' q (Nat.lt_succ_self _), if_neg (by decide)]
      exact zgo_ext q (fun x h1 h2 => hp x h1 (by omega))
theorem pS_cg {g g' : Nat → Int32} {r c : Int32} {x : Nat} (h : ∀ w, w < 6 → g' (6 * x + w) = g (6 * x + w)) : pS g' r c x = pS g r c x := by
  have h0 := h 0 (by decide)
  unfold pS
  rw [h 2 (by decide), h 3 (by decide), h 4 (by decide), show g' (6 * x) = g (6 * x) from h0]
theorem zVU_same {fb fb' g g' : Nat → Int32} {M M' : Nat} {r c : Int32} (hM' : M' ≤ 60) (hle : M ≤ M') (h1 : ∀ x, x < M → ∀ w, w < 6 → g' (6 * x + w) = g (6 * x + w)) (h2 : ∀ x, M ≤ x → x < M' → pS g' r c x = false) (hb : zBa fb' r c = zBa fb r c) : zVU fb' g' M' 60 r c = zVU fb g M 60 r c := by
  have e : zgo (pS g' r c) (min 60 M') = zgo (pS g r c) (min 60 M) := by
    rw [show min 60 M' = M' by omega, show min 60 M = M by omega, zgo_ext hle h2]
    exact zgo_cg (fun x hx => pS_cg (h1 x hx))
  unfold zVU
  rw [e]
  cases hz : zgo (pS g r c) (min 60 M) with
  | none => exact hb
  | some k => exact h1 k (by have := zgo_lt hz; omega) 5 (by decide)
theorem zVU_nil {fb g : Nat → Int32} {M q : Nat} {r c : Int32} (h : ∀ x, x < M → pS g r c x = false) : zVU fb g M q r c = zBa fb r c := by
  have e : zgo (pS g r c) (min q M) = none := by
    rw [zgo_ext (M := 0) (Nat.zero_le _) (fun x _ hx => h x (by omega))]; rfl
  unfold zVU
  rw [e]
/-- a sum with one place more, of which the new one is nothing -/
theorem zu_ins {f f' : Nat → Int32} {P : Nat} (h0 : f' P = 0) (h1 : ∀ i, i ≠ P → f' i = f (bck P i)) : ∀ {u : Nat}, P ≤ u → zu f' (u + 1) = zu f u
  | 0, h => by
    have e : P = 0 := by omega
    subst e
    simp only [zu]
    rw [h0]; rfl
  | u + 1, h => by
    rw [zu]
    rcases Nat.lt_or_ge u P with q | q
    · have e : P = u + 1 := by omega
      subst e
      rw [h0, Int32.add_zero]
      exact zu_cg (fun i hi => by rw [h1 i (by omega), show bck (u + 1) i = i by unfold bck; rw [if_pos hi]])
    · rw [zu_ins h0 h1 q, h1 (u + 1) (by omega), show bck P (u + 1) = u by unfold bck; rw [if_neg (by omega)]; omega, ← zu]
theorem rS0 {S : zSt} {i n : Nat} : rS S 0 i n = zu (fun j => cV S i j) n := rfl
theorem tS0 {S : zSt} {n : Nat} : tS S 0 n = zu (fun i => zu (fun j => cV S i j) (uU S 1)) n := rfl
/-- what one new change is -/
theorem zAdd_w {g : Nat → Int32} {M x w : Nat} {kd au r c v : Int32} (hx : x < M) (hw : w < 6) : zAdd g M kd au r c v (6 * x + w) = g (6 * x + w) := zAdd_lt (by omega)
theorem pS_kd {g : Nat → Int32} {r c : Int32} {x : Nat} (h : ¬ g (6 * x) = nI 4) : pS g r c x = false := by
  unfold pS
  rw [decide_eq_false h]
  simp

/-! a line of axis 0 -/
theorem cV_In0 {S S1 : zSt} {B P i j : Nat} (h : GG S B) (hP : P ≤ rU S) (hu : rU S < 12) (e2 : rO S1 = zOp (rO S) (rU S) P) (e3 : cO S1 = cO S) (eb : bS S1 = zClR (bS S) (rO S (rU S)) 8) (hg : ∀ x, x < mK S → ∀ w, w < 6 → fA S1 (6 * x + w) = fA S (6 * x + w)) (hM : mK S ≤ mK S1) (h60 : mK S1 ≤ 60) (hk : ∀ x, mK S ≤ x → x < mK S1 → ¬ fA S1 (6 * x) = nI 4) (hi : i < rU S + 1) (hj : j < uU S 1) : cV S1 i j = if i = P then 0 else cV S (bck P i) j := by
  have hO := gg_RO h (a := 0) (by decide)
  have hO0 := gg_RO h (a := 0) (by decide)
  have hO1 := gg_RO h (a := 1) (by decide)
  have u0 := gg_u h 0
  have u1 := gg_u1 h
  unfold cV
  rw [e2, e3, eb]
  obtain ⟨q, hq, eq⟩ : ∃ q, q < 8 ∧ cO S j = nI q := hO1.1 j (show j < 8 by have : j < uU S 1 := hj; omega)
  obtain ⟨s0, hs0, es0⟩ : ∃ s, s < 12 ∧ rO S (rU S) = nI s := hO0.1 _ (show rU S < 12 from hu)
  by_cases hiP : i = P
  · subst hiP
    rw [if_pos rfl, zOp_j]
    rw [zVU_nil (fun x hx => ?_)]
    · rw [es0, eq, zClR_at hs0 hs0 hq (Nat.le_refl _), if_pos ⟨rfl, hq⟩]
    · rcases Nat.lt_or_ge x (mK S) with c | c
      · rw [pS_cg (hg x c)]
        have f := gg_fr h (a := 0) (by decide) hu c
        have f' : ¬ fA S (6 * x + 3) = rO S (rU S) := f
        unfold pS
        rw [decide_eq_false f']
        simp
      · exact pS_kd (hk x c hx)
  · have hb : bck P i < rU S := bck_lt hP hi hiP
    rw [if_neg hiP, zOp_i hi hiP]
    obtain ⟨s1, hs1, es1⟩ : ∃ s, s < 12 ∧ rO S (bck P i) = nI s := hO0.1 _ (show bck P i < 12 by have : rU S < 12 := hu; omega)
    refine zVU_same h60 hM hg (fun x c hx => pS_kd (hk x c hx)) ?_
    rw [es0, es1, eq, zClR_at hs0 hs1 hq (Nat.le_refl _), if_neg]
    rintro ⟨z, -⟩
    subst z
    have := hO0.2 _ _ (show bck P i < 12 by have : rU S < 12 := hu; omega) (show rU S < 12 from hu) (show oO S 0 (bck P i) = oO S 0 (rU S) from es1.trans es0.symm)
    omega

/-! a line of axis 1 -/
theorem cV_In1 {S S1 : zSt} {B P i j : Nat} (h : GG S B) (hP : P ≤ cU S) (hu : cU S < 8) (e2 : rO S1 = rO S) (e3 : cO S1 = zOp (cO S) (cU S) P) (eb : bS S1 = zClC (bS S) (cO S (cU S)) 12) (hg : ∀ x, x < mK S → ∀ w, w < 6 → fA S1 (6 * x + w) = fA S (6 * x + w)) (hM : mK S ≤ mK S1) (h60 : mK S1 ≤ 60) (hk : ∀ x, mK S ≤ x → x < mK S1 → ¬ fA S1 (6 * x) = nI 4) (hi : i < uU S 0) (hj : j < cU S + 1) : cV S1 i j = if j = P then 0 else cV S i (bck P j) := by
  have hO := gg_RO h (a := 1) (by decide)
  have hO0 := gg_RO h (a := 0) (by decide)
  have hO1 := gg_RO h (a := 1) (by decide)
  have u0 := gg_u h 0
  have u1 := gg_u1 h
  unfold cV
  rw [e2, e3, eb]
  obtain ⟨q, hq, eq⟩ : ∃ q, q < 12 ∧ rO S i = nI q := hO0.1 i (show i < 12 by have : i < uU S 0 := hi; omega)
  obtain ⟨s0, hs0, es0⟩ : ∃ s, s < 8 ∧ cO S (cU S) = nI s := hO1.1 _ (show cU S < 8 from hu)
  by_cases hjP : j = P
  · subst hjP
    rw [if_pos rfl, zOp_j]
    rw [zVU_nil (fun x hx => ?_)]
    · rw [es0, eq, zClC_at hs0 hq hs0 (Nat.le_refl _), if_pos ⟨rfl, hq⟩]
    · rcases Nat.lt_or_ge x (mK S) with c | c
      · rw [pS_cg (hg x c)]
        have f := gg_fr h (a := 1) (by decide) hu c
        have f' : ¬ fA S (6 * x + 4) = cO S (cU S) := f
        unfold pS
        rw [decide_eq_false f']
        simp
      · exact pS_kd (hk x c hx)
  · have hb : bck P j < cU S := bck_lt hP hj hjP
    rw [if_neg hjP, zOp_i hj hjP]
    obtain ⟨s1, hs1, es1⟩ : ∃ s, s < 8 ∧ cO S (bck P j) = nI s := hO1.1 _ (show bck P j < 8 by have : cU S < 8 := hu; omega)
    refine zVU_same h60 hM hg (fun x c hx => pS_kd (hk x c hx)) ?_
    rw [es0, es1, eq, zClC_at hs0 hq hs1 (Nat.le_refl _), if_neg]
    rintro ⟨z, -⟩
    subst z
    have := hO1.2 _ _ (show bck P j < 8 by have : cU S < 8 := hu; omega) (show cU S < 8 from hu) (show oO S 1 (bck P j) = oO S 1 (cU S) from es1.trans es0.symm)
    omega

theorem smV_In0 {S S1 : zSt} {B B1 P : Nat} (h : GG S B) (h1 : GG S1 B1) (hP : P ≤ rU S) (hu : rU S < 12) (e2 : rO S1 = zOp (rO S) (rU S) P) (e3 : cO S1 = cO S) (eb : bS S1 = zClR (bS S) (rO S (rU S)) 8) (er : rU S1 = rU S + 1) (ec : cU S1 = cU S) (hg : ∀ x, x < mK S → ∀ w, w < 6 → fA S1 (6 * x + w) = fA S (6 * x + w)) (hM : mK S ≤ mK S1) (hk : ∀ x, mK S ≤ x → x < mK S1 → ¬ fA S1 (6 * x) = nI 4) : smV S1 0 = smV S 0 := by
  rw [smV_e h (by decide), smV_e h1 (by decide), tS0, tS0]
  have eu0 : uU S1 0 = rU S + 1 := er
  have eu1 : uU S1 1 = uU S 1 := ec
  have c := fun i j hi hj => cV_In0 (S1 := S1) (i := i) (j := j) h hP hu e2 e3 eb hg hM (gg_M h1) hk hi hj
  rw [eu0, eu1]
  rw [zu_cg (n := rU S + 1) (g := fun i => if i = P then 0 else zu (fun j => cV S (bck P i) j) (uU S 1)) (fun i hi => ?_)]
  · exact zu_ins (f := fun i => zu (fun j => cV S i j) (uU S 1)) (if_pos rfl) (fun i hi => if_neg hi) hP
  · by_cases e : i = P
    · rw [if_pos e, zu_cg (n := uU S 1) (g := fun _ => 0) (fun j hj => by rw [c i j hi hj, if_pos e]), zu_0]
    · rw [if_neg e]
      exact zu_cg (fun j hj => by rw [c i j hi hj, if_neg e])
theorem smV_In1 {S S1 : zSt} {B B1 P : Nat} (h : GG S B) (h1 : GG S1 B1) (hP : P ≤ cU S) (hu : cU S < 8) (e2 : rO S1 = rO S) (e3 : cO S1 = zOp (cO S) (cU S) P) (eb : bS S1 = zClC (bS S) (cO S (cU S)) 12) (er : rU S1 = rU S) (ec : cU S1 = cU S + 1) (hg : ∀ x, x < mK S → ∀ w, w < 6 → fA S1 (6 * x + w) = fA S (6 * x + w)) (hM : mK S ≤ mK S1) (hk : ∀ x, mK S ≤ x → x < mK S1 → ¬ fA S1 (6 * x) = nI 4) : smV S1 0 = smV S 0 := by
  rw [smV_e h (by decide), smV_e h1 (by decide), tS0, tS0]
  have eu0 : uU S1 0 = uU S 0 := er
  have eu1 : uU S1 1 = cU S + 1 := ec
  have c := fun i j hi hj => cV_In1 (S1 := S1) (i := i) (j := j) h hP hu e2 e3 eb hg hM (gg_M h1) hk hi hj
  rw [eu0, eu1]
  refine zu_cg (fun i hi => ?_)
  rw [zu_cg (n := cU S + 1) (g := fun j => if j = P then 0 else cV S i (bck P j)) (fun j hj => c i j hi hj)]
  exact zu_ins (f := fun j => cV S i j) (if_pos rfl) (fun j hj => if_neg hj) hP

/-! inserting, untracked and tracked, axis 0 -/
theorem InU0 {S : zSt} {B B1 P : Nat} (h : GG S B) (h1 : GG (zInR S P) B1) (hP : P ≤ uU S 0) (hu : uU S 0 < 12) : uU (zInR S P) 0 = uU S 0 + 1 ∧ smV (zInR S P) 0 = smV S 0 ∧ Nw (zInR S P) 0 P = false ∧ nSt (zInR S P) 0 P = 0 := by
  have eo : oO (zInR S P) 0 P = oO S 0 (uU S 0) := zOp_j (rO S) (rU S) P
  refine ⟨rfl, smV_In0 h h1 hP hu rfl rfl rfl rfl rfl (fun _ _ _ _ => rfl) (Nat.le_refl _) (fun x a b => absurd a (Nat.not_le.mpr b)), ?_, ?_⟩
  · cases e : Nw (zInR S P) 0 P with
    | false => rfl
    | true =>
      obtain ⟨a1, -, -, a4⟩ := Nw_t e
      exact absurd (a4.trans eo) (gg_fr h (by decide) hu a1)
  · refine zc_zero (fun x hx => ?_)
    have f := gg_fr h (a := 0) (by decide) hu hx
    show (decide (fA S (6 * x) = nI 4) && (decide (fA S (6 * x + 2) = 0) && decide (fA S (6 * x + (3 + 0)) = oO (zInR S P) 0 P))) = false
    rw [eo, decide_eq_false f]
    simp
theorem InT0 {S : zSt} {B B1 P : Nat} {au : Int32} (h : GG S B) (h1 : GG (zNew (zInR S P) (nI 0) au (rO S (rU S)) (-5) (-5)) B1) (hP : P ≤ uU S 0) (hu : uU S 0 < 12) : uU (zNew (zInR S P) (nI 0) au (rO S (rU S)) (-5) (-5)) 0 = uU S 0 + 1 ∧ smV (zNew (zInR S P) (nI 0) au (rO S (rU S)) (-5) (-5)) 0 = smV S 0 ∧ Nw (zNew (zInR S P) (nI 0) au (rO S (rU S)) (-5) (-5)) 0 P = true ∧ xI (zNew (zInR S P) (nI 0) au (rO S (rU S)) (-5) (-5)) 0 P = mK S ∧ nSt (zNew (zInR S P) (nI 0) au (rO S (rU S)) (-5) (-5)) 0 P = 0 := by
  have eo : oO (zNew (zInR S P) (nI 0) au (rO S (rU S)) (-5) (-5)) 0 P = oO S 0 (uU S 0) := zOp_j (rO S) (rU S) P
  obtain ⟨m0, m1, m2, m3, m4, m5⟩ := zAdd_M (g := fA S) (M := mK S) (kd := nI 0) (au := au) (r := rO S (rU S)) (c := -5) (v := -5)
  have k2 : fA (zNew (zInR S P) (nI 0) au (rO S (rU S)) (-5) (-5)) (6 * mK S + 2) = 0 := m2.trans nI_0
  have k0 : fA (zNew (zInR S P) (nI 0) au (rO S (rU S)) (-5) (-5)) (6 * mK S) = nI 0 := m0
  have ks : fA (zNew (zInR S P) (nI 0) au (rO S (rU S)) (-5) (-5)) (6 * mK S + (3 + 0)) = oO (zNew (zInR S P) (nI 0) au (rO S (rU S)) (-5) (-5)) 0 P := m3.trans eo.symm
  have hm : mK S < mK (zNew (zInR S P) (nI 0) au (rO S (rU S)) (-5) (-5)) := Nat.lt_succ_self _
  refine ⟨rfl, smV_In0 h h1 hP hu rfl rfl rfl rfl rfl (fun x hx w hw => zAdd_w hx hw) (Nat.le_succ _) (fun x a b => ?_), Nw_y hm k2 k0 ks, xI_e h1 (by decide) hm k2 k0 ks, ?_⟩
  · have e : x = mK S := by have b' : x < mK S + 1 := b; omega
    subst e
    rw [k0]
    decide
  · refine zc_zero (fun x hx => ?_)
    show (decide (fA (zNew (zInR S P) (nI 0) au (rO S (rU S)) (-5) (-5)) (6 * x) = nI 4) && (decide (fA (zNew (zInR S P) (nI 0) au (rO S (rU S)) (-5) (-5)) (6 * x + 2) = 0) && decide (fA (zNew (zInR S P) (nI 0) au (rO S (rU S)) (-5) (-5)) (6 * x + (3 + 0)) = oO (zNew (zInR S P) (nI 0) au (rO S (rU S)) (-5) (-5)) 0 P))) = false
    rcases Nat.lt_or_ge x (mK S) with c | c
    · have f := gg_fr h (a := 0) (by decide) hu c
      have f2 : fA (zNew (zInR S P) (nI 0) au (rO S (rU S)) (-5) (-5)) (6 * x + (3 + 0)) = fA S (6 * x + (3 + 0)) := zAdd_w c (by decide)
      rw [eo, f2, decide_eq_false f]
      simp
    · have e : x = mK S := by have b' : x < mK S + 1 := hx; omega
      subst e
      rw [k0, decide_eq_false (by decide)]
      rfl

/-! inserting, untracked and tracked, axis 1 -/
theorem InU1 {S : zSt} {B B1 P : Nat} (h : GG S B) (h1 : GG (zInC S P) B1) (hP : P ≤ uU S 1) (hu : uU S 1 < 8) : uU (zInC S P) 1 = uU S 1 + 1 ∧ smV (zInC S P) 0 = smV S 0 ∧ Nw (zInC S P) 1 P = false ∧ nSt (zInC S P) 1 P = 0 := by
  have eo : oO (zInC S P) 1 P = oO S 1 (uU S 1) := zOp_j (cO S) (cU S) P
  refine ⟨rfl, smV_In1 h h1 hP hu rfl rfl rfl rfl rfl (fun _ _ _ _ => rfl) (Nat.le_refl _) (fun x a b => absurd a (Nat.not_le.mpr b)), ?_, ?_⟩
  · cases e : Nw (zInC S P) 1 P with
    | false => rfl
    | true =>
      obtain ⟨a1, -, -, a4⟩ := Nw_t e
      exact absurd (a4.trans eo) (gg_fr h (by decide) hu a1)
  · refine zc_zero (fun x hx => ?_)
    have f := gg_fr h (a := 1) (by decide) hu hx
    show (decide (fA S (6 * x) = nI 4) && (decide (fA S (6 * x + 2) = 0) && decide (fA S (6 * x + (3 + 1)) = oO (zInC S P) 1 P))) = false
    rw [eo, decide_eq_false f]
    simp
theorem InT1 {S : zSt} {B B1 P : Nat} {au : Int32} (h : GG S B) (h1 : GG (zNew (zInC S P) (nI 2) au (-5) (cO S (cU S)) (-5)) B1) (hP : P ≤ uU S 1) (hu : uU S 1 < 8) : uU (zNew (zInC S P) (nI 2) au (-5) (cO S (cU S)) (-5)) 1 = uU S 1 + 1 ∧ smV (zNew (zInC S P) (nI 2) au (-5) (cO S (cU S)) (-5)) 0 = smV S 0 ∧ Nw (zNew (zInC S P) (nI 2) au (-5) (cO S (cU S)) (-5)) 1 P = true ∧ xI (zNew (zInC S P) (nI 2) au (-5) (cO S (cU S)) (-5)) 1 P = mK S ∧ nSt (zNew (zInC S P) (nI 2) au (-5) (cO S (cU S)) (-5)) 1 P = 0 := by
  have eo : oO (zNew (zInC S P) (nI 2) au (-5) (cO S (cU S)) (-5)) 1 P = oO S 1 (uU S 1) := zOp_j (cO S) (cU S) P
  obtain ⟨m0, m1, m2, m3, m4, m5⟩ := zAdd_M (g := fA S) (M := mK S) (kd := nI 2) (au := au) (r := -5) (c := cO S (cU S)) (v := -5)
  have k2 : fA (zNew (zInC S P) (nI 2) au (-5) (cO S (cU S)) (-5)) (6 * mK S + 2) = 0 := m2.trans nI_0
  have k0 : fA (zNew (zInC S P) (nI 2) au (-5) (cO S (cU S)) (-5)) (6 * mK S) = nI 2 := m0
  have ks : fA (zNew (zInC S P) (nI 2) au (-5) (cO S (cU S)) (-5)) (6 * mK S + (3 + 1)) = oO (zNew (zInC S P) (nI 2) au (-5) (cO S (cU S)) (-5)) 1 P := m4.trans eo.symm
  have hm : mK S < mK (zNew (zInC S P) (nI 2) au (-5) (cO S (cU S)) (-5)) := Nat.lt_succ_self _
  refine ⟨rfl, smV_In1 h h1 hP hu rfl rfl rfl rfl rfl (fun x hx w hw => zAdd_w hx hw) (Nat.le_succ _) (fun x a b => ?_), Nw_y hm k2 k0 ks, xI_e h1 (by decide) hm k2 k0 ks, ?_⟩
  · have e : x = mK S := by have b' : x < mK S + 1 := b; omega
    subst e
    rw [k0]
    decide
  · refine zc_zero (fun x hx => ?_)
    show (decide (fA (zNew (zInC S P) (nI 2) au (-5) (cO S (cU S)) (-5)) (6 * x) = nI 4) && (decide (fA (zNew (zInC S P) (nI 2) au (-5) (cO S (cU S)) (-5)) (6 * x + 2) = 0) && decide (fA (zNew (zInC S P) (nI 2) au (-5) (cO S (cU S)) (-5)) (6 * x + (3 + 1)) = oO (zNew (zInC S P) (nI 2) au (-5) (cO S (cU S)) (-5)) 1 P))) = false
    rcases Nat.lt_or_ge x (mK S) with c | c
    · have f := gg_fr h (a := 1) (by decide) hu c
      have f2 : fA (zNew (zInC S P) (nI 2) au (-5) (cO S (cU S)) (-5)) (6 * x + (3 + 1)) = fA S (6 * x + (3 + 1)) := zAdd_w c (by decide)
      rw [eo, f2, decide_eq_false f]
      simp
    · have e : x = mK S := by have b' : x < mK S + 1 := hx; omega
      subst e
      rw [k0, decide_eq_false (by decide)]
      rfl
