/-! what removing leads to -/
/-- a count of what two counts have apart -/
theorem zc_or {p q r : Nat → Bool} : ∀ {n : Nat}, (∀ j, j < n → p j = (q j || r j)) → (∀ j, j < n → q j = true → r j = true → False) → zc p n = zc q n + zc r n
  | 0, _, _ => rfl
  | n + 1, h, hd => by
    have ih := zc_or (n := n) (fun j hj => h j (by omega)) (fun j hj => hd j (by omega))
    rw [zc_s, zc_s, zc_s, ih, h n (Nat.lt_succ_self n)]
    cases a : q n with
    | false => cases b : r n with
      | false => simp
      | true => simp; omega
    | true => cases b : r n with
      | false => simp; omega
      | true => exact absurd (hd n (Nat.lt_succ_self n) a b) id
/-- the pending changes of a line -/
def lnP (S : zSt) (a p : Nat) : Nat → Bool := fun x => decide (fA S (6 * x + (3 + a)) = oO S a p) && decide (fA S (6 * x + 2) = 0)
theorem zc_I {S : zSt} {B a p : Nat} (h : GG S B) (ha : a < 2) : zc (pI S a p) (mK S) = (Nw S a p).toNat := by
  cases e : Nw S a p with
  | false => exact zc_zero (fun x hx => Nw_f e hx)
  | true =>
    obtain ⟨i1, i2, i3, i4⟩ := Nw_t e
    refine zc_one i1 (by simp [pI, pLn, i2, i3, i4]) (fun j hj hs => ?_)
    simp only [pI, pLn, Bool.and_eq_true, decide_eq_true_eq] at hs
    exact gg_Q h ha hj i1 hs.1 i2 (Or.inl hs.2.1) (hs.2.1.trans i3.symm) (hs.2.2.trans i4.symm)
theorem zc_R {S : zSt} {B a p : Nat} (h : GG S B) (ha : a < 2) : zc (pR S a p) (mK S) = (Dm S a p).toNat := by
  cases e : Dm S a p with
  | false => exact zc_zero (fun x hx => Dm_f e hx)
  | true =>
    obtain ⟨i1, i2, i3, i4⟩ := Dm_t e
    refine zc_one i1 (by simp [pR, pLn, i2, i3, i4]) (fun j hj hs => ?_)
    simp only [pR, pLn, Bool.and_eq_true, decide_eq_true_eq] at hs
    exact gg_Q h ha hj i1 hs.1 i2 (Or.inr hs.2.1) (hs.2.1.trans i3.symm) (hs.2.2.trans i4.symm)
/-- a change that names a line is of its axis, or a setting -/
theorem gg_kl {S : zSt} {B a p x : Nat} (h : GG S B) (ha : a < 2) (hp : p < uU S a) (hx : x < mK S) (e : fA S (6 * x + (3 + a)) = oO S a p) : fA S (6 * x) = nI (2 * a) ∨ fA S (6 * x) = nI (2 * a + 1) ∨ fA S (6 * x) = nI 4 := by
  have key : ¬ (fA S (6 * x) = nI (2 * (1 - a)) ∨ fA S (6 * x) = nI (2 * (1 - a) + 1)) := fun q => by
    have n := gg_N h (a := 1 - a) (by omega) hx q
    rw [show 4 - (1 - a) = 3 + a by omega] at n
    exact gg_O5 h ha hp (e.symm.trans n)
  rcases ax2 ha with z | z <;> subst z
  · rcases gg_k h hx with q | q | q | q | q
    · exact Or.inl q
    · exact Or.inr (Or.inl q)
    · exact absurd (Or.inl q) key
    · exact absurd (Or.inr q) key
    · exact Or.inr (Or.inr q)
  · rcases gg_k h hx with q | q | q | q | q
    · exact absurd (Or.inl q) key
    · exact absurd (Or.inr q) key
    · exact Or.inl q
    · exact Or.inr (Or.inl q)
    · exact Or.inr (Or.inr q)
theorem zc_ln {S : zSt} {B a p : Nat} (h : GG S B) (ha : a < 2) (hp : p < uU S a) : zc (lnP S a p) (mK S) = nSt S a p + (Nw S a p).toNat + (Dm S a p).toNat := by
  have d : ∀ {k l : Nat}, k < 10 → l < 10 → k ≠ l → ∀ {y : Int32}, y = nI k → y = nI l → False := fun hk hl hne _ e f => hne ((nI_eq (by omega) (by omega)).mp (e.symm.trans f))
  rw [← zc_I h ha, ← zc_R h ha, Nat.add_assoc]
  unfold nSt
  rw [zc_or (p := lnP S a p) (q := pSL (fA S) (3 + a) (oO S a p)) (r := fun x => pI S a p x || pR S a p x) (fun x hx => ?_) (fun x hx q r => ?_)]
  · congr 1
    refine zc_or (fun x _ => rfl) (fun x hx q r => ?_)
    simp only [pI, pR, pLn, Bool.and_eq_true, decide_eq_true_eq] at q r
    exact d (by omega) (by omega) (by omega) q.2.1 r.2.1
  · unfold lnP pSL pI pR pLn
    cases c1 : decide (fA S (6 * x + (3 + a)) = oO S a p) with
    | false => simp
    | true =>
      cases c2 : decide (fA S (6 * x + 2) = 0) with
      | false => simp
      | true =>
        have := gg_kl h ha hp hx (of_decide_eq_true c1)
        rcases this with q | q | q
        · rw [decide_eq_true q]; simp
        · rw [decide_eq_true q]; simp
        · rw [decide_eq_true q]; simp
  · simp only [pSL, Bool.and_eq_true, decide_eq_true_eq] at q
    simp only [pI, pR, pLn, Bool.or_eq_true, Bool.and_eq_true, decide_eq_true_eq] at r
    rcases r with r | r
    · exact d (by omega) (by omega) (by omega) q.1 r.2.1
    · exact d (by omega) (by omega) (by omega) q.1 r.2.1
theorem cnS_p {S : zSt} {k : Nat} : cnS S k = zc (fun x => decide (fA S (6 * x + 2) = nI k)) (mK S) := by
  unfold cnS
  refine zc_cg (fun x _ => ?_)
  unfold pIS
  rw [decide_eq_true (show (-1 : Int32) = -1 from rfl), Bool.true_or, Bool.and_true]
/-- states behind a line that goes -/
theorem cnS_lv {S S1 : zSt} {a p k : Nat} (ha : a < 2) (eM : mK S1 = mK S) (ef : fA S1 = zLv (fA S) (3 + a) (oO S a p) (mK S)) (hk : k < 10) : cnS S1 k = (if k = 3 then cnS S 3 + zc (lnP S a p) (mK S) else if k = 0 then cnS S 0 - zc (lnP S a p) (mK S) else cnS S k) := by
  have st : ∀ x, x < mK S → fA S1 (6 * x + 2) = if lnP S a p x = true then nI 3 else fA S (6 * x + 2) := fun x hx => by
    rw [ef, zLv_2 hx (by omega)]
    unfold lnP
    simp only [Bool.and_eq_true, decide_eq_true_eq]
  rw [cnS_p, eM]
  by_cases e3 : k = 3
  · subst e3
    rw [if_pos rfl, cnS_p]
    refine zc_or (fun x hx => ?_) (fun x hx q r => ?_)
    · rw [st x hx]
      cases c : lnP S a p x with
      | true => simp
      | false => simp
    · simp only [lnP, Bool.and_eq_true, decide_eq_true_eq] at q r
      rw [r.2] at q
      exact absurd q (by decide)
  · rw [if_neg e3]
    by_cases e0 : k = 0
    · subst e0
      rw [if_pos rfl]
      have key : cnS S 0 = zc (fun x => decide (fA S1 (6 * x + 2) = nI 0)) (mK S) + zc (lnP S a p) (mK S) := by
        rw [cnS_p]
        refine zc_or (fun x hx => ?_) (fun x hx q r => ?_)
        · rw [st x hx]
          cases c : lnP S a p x with
          | true =>
            have q : fA S (6 * x + 2) = 0 := by
              simp only [lnP, Bool.and_eq_true, decide_eq_true_eq] at c
              exact c.2
            rw [q, nI_0]; simp
          | false => simp
        · rw [st x hx, if_pos r] at q
          exact absurd (of_decide_eq_true q) (by decide)
      omega
    · rw [if_neg e0, cnS_p]
      refine zc_cg (fun x hx => ?_)
      rw [st x hx]
      cases c : lnP S a p x with
      | false => simp
      | true =>
        have q : fA S (6 * x + 2) = 0 := by
          simp only [lnP, Bool.and_eq_true, decide_eq_true_eq] at c
          exact c.2
        rw [if_pos rfl, q, decide_eq_false (fun z => e3 ((nI_eq (by decide) (by omega)).mp z).symm), decide_eq_false (fun z => e0 ((zz_0s (by omega)).mp z))]

theorem Dr0 {S : zSt} {B P : Nat} (h : GG S B) (hP : P < uU S 0) : uU (zDrR S (rO S P)) 0 + 1 = uU S 0 ∧ cnS (zDrR S (rO S P)) 3 = cnS S 3 + (nSt S 0 P + (Nw S 0 P).toNat + (Dm S 0 P).toNat) := by
  constructor
  · have e : uU (zDrR S (rO S P)) 0 = uU S 0 - 1 := zClu_p (gg_RO h (a := 0) (by decide)) (gg_mx h (a := 0) (by decide)) hP
    omega
  · rw [cnS_lv (a := 0) (p := P) (S1 := zDrR S (rO S P)) (S := S) (by decide) rfl rfl (by decide), if_pos rfl, zc_ln h (by decide) hP]
theorem RmT0 {S : zSt} {B B1 P : Nat} {au : Int32} (h : GG S B) (h1 : GG (zNew S (nI 1) au (rO S P) (-5) (-5)) B1) (hP : P < uU S 0) : uU (zNew S (nI 1) au (rO S P) (-5) (-5)) 0 = uU S 0 ∧ Dm (zNew S (nI 1) au (rO S P) (-5) (-5)) 0 P = true ∧ xR (zNew S (nI 1) au (rO S P) (-5) (-5)) 0 P = mK S := by
  have eo : oO (zNew S (nI 1) au (rO S P) (-5) (-5)) 0 P = oO S 0 P := rfl
  obtain ⟨m0, m1, m2, m3, m4, m5⟩ := zAdd_M (g := fA S) (M := mK S) (kd := nI 1) (au := au) (r := rO S P) (c := -5) (v := -5)
  have k2 : fA (zNew S (nI 1) au (rO S P) (-5) (-5)) (6 * mK S + 2) = 0 := m2.trans nI_0
  have k0 : fA (zNew S (nI 1) au (rO S P) (-5) (-5)) (6 * mK S) = nI (2 * 0 + 1) := m0
  have ks : fA (zNew S (nI 1) au (rO S P) (-5) (-5)) (6 * mK S + (3 + 0)) = oO (zNew S (nI 1) au (rO S P) (-5) (-5)) 0 P := m3
  have hm : mK S < mK (zNew S (nI 1) au (rO S P) (-5) (-5)) := Nat.lt_succ_self _
  exact ⟨rfl, Dm_y hm k2 k0 ks, xR_e h1 (by decide) hm k2 k0 ks⟩

theorem Dr1 {S : zSt} {B P : Nat} (h : GG S B) (hP : P < uU S 1) : uU (zDrC S (cO S P)) 1 + 1 = uU S 1 ∧ cnS (zDrC S (cO S P)) 3 = cnS S 3 + (nSt S 1 P + (Nw S 1 P).toNat + (Dm S 1 P).toNat) := by
  constructor
  · have e : uU (zDrC S (cO S P)) 1 = uU S 1 - 1 := zClu_p (gg_RO h (a := 1) (by decide)) (gg_mx h (a := 1) (by decide)) hP
    omega
  · rw [cnS_lv (a := 1) (p := P) (S1 := zDrC S (cO S P)) (S := S) (by decide) rfl rfl (by decide), if_pos rfl, zc_ln h (by decide) hP]
theorem RmT1 {S : zSt} {B B1 P : Nat} {au : Int32} (h : GG S B) (h1 : GG (zNew S (nI 3) au (-5) (cO S P) (-5)) B1) (hP : P < uU S 1) : uU (zNew S (nI 3) au (-5) (cO S P) (-5)) 1 = uU S 1 ∧ Dm (zNew S (nI 3) au (-5) (cO S P) (-5)) 1 P = true ∧ xR (zNew S (nI 3) au (-5) (cO S P) (-5)) 1 P = mK S := by
  have eo : oO (zNew S (nI 3) au (-5) (cO S P) (-5)) 1 P = oO S 1 P := rfl
  obtain ⟨m0, m1, m2, m3, m4, m5⟩ := zAdd_M (g := fA S) (M := mK S) (kd := nI 3) (au := au) (r := -5) (c := cO S P) (v := -5)
  have k2 : fA (zNew S (nI 3) au (-5) (cO S P) (-5)) (6 * mK S + 2) = 0 := m2.trans nI_0
  have k0 : fA (zNew S (nI 3) au (-5) (cO S P) (-5)) (6 * mK S) = nI (2 * 1 + 1) := m0
  have ks : fA (zNew S (nI 3) au (-5) (cO S P) (-5)) (6 * mK S + (3 + 1)) = oO (zNew S (nI 3) au (-5) (cO S P) (-5)) 1 P := m4
  have hm : mK S < mK (zNew S (nI 3) au (-5) (cO S P) (-5)) := Nat.lt_succ_self _
  exact ⟨rfl, Dm_y hm k2 k0 ks, xR_e h1 (by decide) hm k2 k0 ks⟩
