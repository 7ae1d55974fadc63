/-! facts of good tables, as the law's methods use them -/
theorem inc_y {p : Nat → Bool} {n f : Nat} (h : p n = true) (e : f = zc p n) : f + 1 = zc p (n + 1) := by rw [zc_y h, e]
theorem inc_n {p : Nat → Bool} {n f : Nat} (h : p n = false) (e : f = zc p n) : f = zc p (n + 1) := by rw [zc_n h, e]
theorem inc_yc {p : Nat → Bool} {n f c : Nat} (h : p n = true) (e : f = c + zc p n) : f + 1 = c + zc p (n + 1) := by rw [zc_y h, e]; rfl
theorem inc_nc {p : Nat → Bool} {n f c : Nat} (h : p n = false) (e : f = c + zc p n) : f = c + zc p (n + 1) := by rw [zc_n h, e]
theorem nDm_t {S : zSt} {a p : Nat} (h : Dm S a p = false) : nDm S a p = true := by unfold nDm; rw [h]; rfl
theorem nDm_f {S : zSt} {a p : Nat} (h : Dm S a p = true) : nDm S a p = false := by unfold nDm; rw [h]; rfl
theorem nNw_t {S : zSt} {a p : Nat} (h : Nw S a p = false) : nNw S a p = true := by unfold nNw; rw [h]; rfl
theorem nNw_f {S : zSt} {a p : Nat} (h : Nw S a p = true) : nNw S a p = false := by unfold nNw; rw [h]; rfl
theorem lnI {S : zSt} {B a p : Nat} (h : GG S B) (ha : a < 2) (hp : p < uU S a) (hb : Nw S a p = true) : xI S a p < mK S ∧ kN S (xI S a p) = 2 * a ∧ sN S (xI S a p) = 0 ∧ lP S a (xI S a p) = p + 1 ∧ lP S (1 - a) (xI S a p) = 0 := by
  obtain ⟨h1, h2, h3, h4⟩ := Nw_t hb
  refine ⟨h1, kN_of (by omega) h3, sN_p h2, lP_at h ha hp h4, ?_⟩
  have n := gg_N h ha h1 (Or.inl h3)
  refine lP_no h (by omega) ?_
  rw [show 3 + (1 - a) = 4 - a by omega]
  exact n
theorem lnR {S : zSt} {B a p : Nat} (h : GG S B) (ha : a < 2) (hp : p < uU S a) (hb : Dm S a p = true) : xR S a p < mK S ∧ kN S (xR S a p) = 2 * a + 1 ∧ sN S (xR S a p) = 0 ∧ lP S a (xR S a p) = p + 1 := by
  obtain ⟨h1, h2, h3, h4⟩ := Dm_t hb
  exact ⟨h1, kN_of (by omega) h3, sN_p h2, lP_at h ha hp h4⟩
/-- what rests on what: a removal on the insertion of its line alone -/
theorem zrs_R {S : zSt} {B a x : Nat} (h : GG S B) (ha : a < 2) (hx : x < mK S) (h1 : fA S (6 * x + 2) = 0) (h2 : fA S (6 * x) = nI (2 * a + 1)) (j : Nat) : zrs (fA S) x j = (decide (fA S (6 * j + 2) = 0) && (decide (fA S (6 * j) = nI (2 * a)) && decide (fA S (6 * x + (3 + a)) = fA S (6 * j + (3 + a))))) := by
  unfold zrs
  rw [h1, decide_eq_true rfl, Bool.true_and]
  congr 1
  rcases ax2 ha with e | e <;> subst e
  · rw [if_pos h2]; rfl
  · rw [h2, if_neg (by decide), if_pos rfl]
theorem zc_zero {p : Nat → Bool} : ∀ {n : Nat}, (∀ j, j < n → p j = false) → zc p n = 0
  | 0, _ => rfl
  | n + 1, h => by rw [zc_n (h n (Nat.lt_succ_self n)), zc_zero (fun j hj => h j (by omega))]
theorem zc_one {p : Nat → Bool} {x : Nat} : ∀ {M : Nat}, x < M → p x = true → (∀ j, j < M → p j = true → j = x) → zc p M = 1
  | 0, h, _, _ => absurd h (Nat.not_lt_zero x)
  | M + 1, h, hp, hu => by
    rcases Nat.lt_or_ge x M with q | q
    · have e : p M = false := by
        cases c : p M with
        | false => rfl
        | true => exact absurd (hu M (Nat.lt_succ_self M) c) (by omega)
      rw [zc_n e, zc_one q hp (fun j hj => hu j (by omega))]
    · have e : x = M := by omega
      subst e
      rw [zc_y hp, zc_zero (fun j hj => by cases c : p j with
        | false => rfl
        | true => exact absurd (hu j (by omega) c) (by omega))]
theorem lnR7y {S : zSt} {B a p : Nat} (h : GG S B) (ha : a < 2) (hb : Dm S a p = true) (hn : Nw S a p = true) : zc (sup S (xR S a p)) (mK S) = 1 := by
  obtain ⟨h1, h2, h3, h4⟩ := Dm_t hb
  obtain ⟨i1, i2, i3, i4⟩ := Nw_t hn
  refine zc_one i1 ?_ (fun j hj hs => ?_)
  · show zrs (fA S) _ _ = true
    rw [zrs_R h ha h1 h2 h3]
    simp [i2, i3, h4, i4]
  · have hs' : zrs (fA S) (xR S a p) j = true := hs
    rw [zrs_R h ha h1 h2 h3] at hs'
    simp only [Bool.and_eq_true, decide_eq_true_eq] at hs'
    exact gg_Q h ha hj i1 hs'.1 i2 (Or.inl hs'.2.1) (hs'.2.1.trans i3.symm) (hs'.2.2.symm.trans (h4.trans i4.symm))
theorem lnR7n {S : zSt} {B a p : Nat} (h : GG S B) (ha : a < 2) (hb : Dm S a p = true) (hn : Nw S a p = false) : zc (sup S (xR S a p)) (mK S) = 0 := by
  obtain ⟨h1, h2, h3, h4⟩ := Dm_t hb
  refine zc_zero (fun j hj => ?_)
  show zrs (fA S) _ _ = false
  rw [zrs_R h ha h1 h2 h3]
  have q := Nw_f hn hj
  unfold pI pLn at q
  rw [h4]
  cases c : decide (fA S (6 * j + 2) = 0) with
  | false => rfl
  | true =>
    cases d : decide (fA S (6 * j) = nI (2 * a)) with
    | false => rfl
    | true =>
      rw [c, d] at q
      have q2 : ¬ fA S (6 * j + (3 + a)) = oO S a p := by simpa using q
      rw [decide_eq_false (fun z => q2 z.symm)]
      rfl
