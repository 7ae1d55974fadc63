/-! facts of good tables, as the law's methods use them -/
theorem inc_y {p : Nat → Bool} {n f : Nat} (h : p n = true) (e : f = zc p n) : f + 1 = zc p (n + 1) := by rw [zc_y h, e]
theorem inc_n {p : Nat → Bool} {n f : Nat} (h : p n = false) (e : f = zc p n) : f = zc p (n + 1) := by rw [zc_n h, e]
theorem inc_yc {p : Nat → Bool} {n f c : Nat} (h : p n = true) (e : f = c + zc p n) : f + 1 = c + zc p (n + 1) := by rw [zc_y h, e]; rfl
theorem inc_nc {p : Nat → Bool} {n f c : Nat} (h : p n = false) (e : f = c + zc p n) : f = c + zc p (n + 1) := by rw [zc_n h, e]
theorem nDm_t {S : zSt} {a p : Nat} (h : Dm S a p = false) : nDm S a p = true := by unfold nDm; rw [h]; rfl
theorem nDm_f {S : zSt} {a p : Nat} (h : Dm S a p = true) : nDm S a p = false := by unfold nDm; rw [h]; rfl
theorem nNw_t {S : zSt} {a p : Nat} (h : Nw S a p = false) : nNw S a p = true := by unfold nNw; rw [h]; rfl
theorem nNw_f {S : zSt} {a p : Nat} (h : Nw S a p = true) : nNw S a p = false := by unfold nNw; rw [h]; rfl
theorem lnI {S : zSt} {B a p : Nat} (h : GG S B) (ha : a < 2) (hp : p < uU S a) (hb : Nw S a p = true) : xI S a p < mK S ∧ kN S (xI S a p) = 2 * a ∧ sN S (xI S a p) = 0 ∧ lP S a (xI S a p) = p + 1 ∧ lP S (1 - a) (xI S a p) = 0 := by
  obtain ⟨h1, h2, h3, h4⟩ := Nw_t hb
  refine ⟨h1, kN_of (by omega) h3, sN_p h2, lP_at h ha hp h4, ?_⟩
  have n := gg_N h ha h1 (Or.inl h3)
  refine lP_no h (by omega) ?_
  rw [show 3 + (1 - a) = 4 - a by omega]
  exact n
theorem lnR {S : zSt} {B a p : Nat} (h : GG S B) (ha : a < 2) (hp : p < uU S a) (hb : Dm S a p = true) : xR S a p < mK S ∧ kN S (xR S a p) = 2 * a + 1 ∧ sN S (xR S a p) = 0 ∧ lP S a (xR S a p) = p + 1 := by
  obtain ⟨h1, h2, h3, h4⟩ := Dm_t hb
  exact ⟨h1, kN_of (by omega) h3, sN_p h2, lP_at h ha hp h4⟩
/-- what rests on what: a removal on the insertion of its line alone -/
theorem zrs_R {S : zSt} {B a x : Nat} (h : GG S B) (ha : a < 2) (hx : x < mK S) (h1 : fA S (6 * x + 2) = 0) (h2 : fA S (6 * x) = nI (2 * a + 1)) (j : Nat) : zrs (fA S) x j = (decide (fA S (6 * j + 2) = 0) && (decide (fA S (6 * j) = nI (2 * a)) && decide (fA S (6 * x + (3 + a)) = fA S (6 * j + (3 + a))))) := by
  unfold zrs
  rw [h1, decide_eq_true rfl, Bool.true_and]
  congr 1
  rcases ax2 ha with e | e <;> subst e
  · rw [if_pos h2]; rfl
  · rw [h2, if_neg (by decide), if_pos rfl]
theorem zc_zero {p : Nat → Bool} : ∀ {n : Nat}, (∀ j, j < n → p j = false) → zc p n = 0
  | 0, _ => rfl
  | n + 1, h => by rw [zc_n (h n (Nat.lt_succ_self n)), zc_zero (fun j hj => h j (by omega))]
theorem zc_one {p : Nat → Bool} {x : Nat} : ∀ {M : Nat}, x < M → p x = true → (∀ j, j < M → p j = true → j = x) → zc p M = 1
  | 0, h, _, _ => absurd h (Nat.not_lt_zero x)
  | M + 1, h, hp, hu => by
    rcases Nat.lt_or_ge x M with q | q
    · have e : p M = false := by
        cases c : p M with
        | false => rfl
        | true => exact absurd (hu M (Nat.lt_succ_self M) c) (by omega)
      rw [zc_n e, zc_one q hp (fun j hj => hu j (by omega))]
    · have e : x = M := by omega
      subst e
      rw [zc_y hp, zc_zero (fun j hj => by cases c : p j with
        | false => rfl
        | true => exact absurd (hu j (by omega) c) (by omega))]
theorem lnR7y {S : zSt} {B a p : Nat} (h : GG S B) (ha : a < 2) (hb : Dm S a p = true) (hn : Nw S a p = true) : zc (sup S (xR S a p)) (mK S) = 1 := by
  obtain ⟨h1, h2, h3, h4⟩ := Dm_t hb
  obtain ⟨i1, i2, i3, i4⟩ := Nw_t hn
  refine zc_one i1 ?_ (fun j hj hs => ?_)
  · show zrs (fA S) _ _ = true
    rw [zrs_R h ha h1 h2 h3]
    simp [i2, i3, h4, i4]
  · have hs' : zrs (fA S) (xR S a p) j = true := hs
    rw [zrs_R h ha h1 h2 h3] at hs'
    simp only [Bool.and_eq_true, decide_eq_true_eq] at hs'
    exact gg_Q h ha hj i1 hs'.1 i2 (Or.inl hs'.2.1) (hs'.2.1.trans i3.symm) (hs'.2.2.symm.trans (h4.trans i4.symm))
theorem lnR7n {S : zSt} {B a p : Nat} (h : GG S B) (ha : a < 2) (hb : Dm S a p = true) (hn : Nw S a p = false) : zc (sup S (xR S a p)) (mK S) = 0 := by
  obtain ⟨h1, h2, h3, h4⟩ := Dm_t hb
  refine zc_zero (fun j hj => ?_)
  show zrs (fA S) _ _ = false
  rw [zrs_R h ha h1 h2 h3]
  have q := Nw_f hn hj
  unfold pI pLn at q
  rw [h4]
  cases c : decide (fA S (6 * j + 2) = 0) with
  | false => rfl
  | true =>
    cases d : decide (fA S (6 * j) = nI (2 * a)) with
    | false => rfl
    | true =>
      rw [c, d] at q
      have q2 : ¬ fA S (6 * j + (3 + a)) = oO S a p := by simpa using q
      rw [decide_eq_false (fun z => q2 z.symm)]
      rfl
/-! low -/
def lw (v : Int32) (n : Nat) : Nat := v.toBitVec.toNat % 2 ^ 31 % n
theorem lw_lt (v : Int32) {n : Nat} (h : 0 < n) : lw v n < n := Nat.mod_lt _ h
theorem kL_low : zY yL_low wsL_low cL_low 2 (some .int) 2 := ⟨⟨_, rfl⟩, ⟨by decide +kernel, by decide +kernel, by decide +kernel⟩, by decide +kernel⟩
theorem l_low (E : zE) (v : Int32) (n : Nat) (hn : 0 < n) (hn2 : n < 2147483648) : zM E yL_low wsL_low 0 [.int v, .int (nI n)] [] [] (some (.int (nI (lw v n)))) := by
  refine zM.of kL_low (Nat.le_of_ble_eq_true rfl) rfl [some (.int v), some (.int (nI n))] rfl (Nat.le_of_ble_eq_true rfl) ?_
  intro X eX C N
  subst eX
  refine z_iload_n C 0 dL_low_0 rfl rfl ?_
  refine z_ldc C (v := 2147483647) (by decide +kernel) dL_low_1 ?_
  refine z_iand C dL_low_3 ?_
  refine z_top (y := nI (v.toBitVec.toNat % 2 ^ 31)) (pk_and v 31 (by decide)) ?_
  refine z_iload_n C 1 dL_low_4 rfl rfl ?_
  refine z_irem C dL_low_5 (nI_ne0 hn hn2) ?_
  refine z_top (y := nI (lw v n)) (pk_rem (Nat.mod_lt _ (by decide)) hn hn2) ?_
  exact z_iret C N dL_low_6 rfl rfl
/-! what rests on what, by what is told of both -/
def rsL (S : zSt) (x y : Nat) : Bool := decide (sN S x = 0) && (decide (sN S y = 0) && ((decide (kN S y = 0) && (decide (kN S x = 1 ∨ kN S x = 4) && decide (eP (lP S 0 y) = eP (lP S 0 x)))) || ((decide (kN S y = 2) && (decide (kN S x = 3 ∨ kN S x = 4) && decide (eP (lP S 1 y) = eP (lP S 1 x)))) || (decide (kN S y = 4) && (decide (kN S x = 4) && (decide (y < x) && (decide (eP (lP S 0 y) = eP (lP S 0 x)) && decide (eP (lP S 1 y) = eP (lP S 1 x)))))))))
theorem lP_eq {S : zSt} {B a x y : Nat} (h : GG S B) (ha : a < 2) (hx : x < mK S) (hy : y < mK S) (e : ∃ p, p < uU S a ∧ fA S (6 * y + (3 + a)) = oO S a p) : eP (lP S a y) = eP (lP S a x) ↔ fA S (6 * x + (3 + a)) = fA S (6 * y + (3 + a)) := by
  obtain ⟨p, hp, ey⟩ := e
  have hu := gg_u h a
  have py := lP_at h ha hp ey
  rcases gg_W h ha hx with q | ⟨k, hk, q⟩
  · have px := lP_no h ha q
    rw [py, px, eP_eq (by omega) (by omega), q, ey]
    exact ⟨fun z => absurd z (by omega), fun z => absurd z.symm (gg_O5 h ha hp)⟩
  · have px := lP_at h ha hk q
    rw [py, px, eP_eq (by omega) (by omega), q, ey]
    constructor
    · intro z
      rw [show p = k by omega]
    · intro z
      rw [gg_OI h ha k p hk hp z]
theorem sup_e {S : zSt} {B x y : Nat} (h : GG S B) (hx : x < mK S) (hy : y < mK S) : sup S x y = rsL S x y := by
  show zrs (fA S) x y = rsL S x y
  have kx := kN_e h hx
  have ky := kN_e h hy
  unfold zrs rsL
  rw [dec_iff (sN_0 h hx), dec_iff (sN_0 h hy)]
  cases c1 : decide (sN S x = 0) with
  | false => rfl
  | true =>
    cases c2 : decide (sN S y = 0) with
    | false => rfl
    | true =>
      have p2 : fA S (6 * y + 2) = 0 := (sN_0 h hy).mpr (of_decide_eq_true c2)
      simp only [Bool.true_and]
      have L0 := fun q => lP_eq h (a := 0) (by decide) hx hy (gg_P h (by decide) hy p2 q)
      have L1 := fun q => lP_eq h (a := 1) (by decide) hx hy (gg_P h (by decide) hy p2 q)
      rw [kx.1, ky.1] at *
      have bx := kx.2
      have by' := ky.2
      generalize kN S x = a at *
      generalize kN S y = b at *
      rcases (show b = 0 ∨ b = 1 ∨ b = 2 ∨ b = 3 ∨ b = 4 by omega) with e | e | e | e | e <;> subst e
      · have q := L0 (Or.inl rfl)
        rcases (show a = 0 ∨ a = 1 ∨ a = 2 ∨ a = 3 ∨ a = 4 by omega) with f | f | f | f | f <;> subst f <;> simp [nI_eq, zz_0, zz_0s, nI_0, q]
      · rcases (show a = 0 ∨ a = 1 ∨ a = 2 ∨ a = 3 ∨ a = 4 by omega) with f | f | f | f | f <;> subst f <;> simp [nI_eq, zz_0, zz_0s, nI_0]
      · have q := L1 (Or.inl rfl)
        rcases (show a = 0 ∨ a = 1 ∨ a = 2 ∨ a = 3 ∨ a = 4 by omega) with f | f | f | f | f <;> subst f <;> simp [nI_eq, zz_0, zz_0s, nI_0, q]
      · rcases (show a = 0 ∨ a = 1 ∨ a = 2 ∨ a = 3 ∨ a = 4 by omega) with f | f | f | f | f <;> subst f <;> simp [nI_eq, zz_0, zz_0s, nI_0]
      · have q := L0 (Or.inr (Or.inr rfl))
        have q1 := L1 (Or.inr (Or.inr rfl))
        rcases (show a = 0 ∨ a = 1 ∨ a = 2 ∨ a = 3 ∨ a = 4 by omega) with f | f | f | f | f <;> subst f <;> simp [nI_eq, zz_0, zz_0s, nI_0, q, q1]
        cases decide (y < x) <;> simp
/-! the order in which pending changes are read -/
theorem KA_div {S : zSt} {B x : Nat} (h : GG S B) (hx : x < mK S) : nI (kN S x) / nI 2 = nI (KA S x) := by
  obtain ⟨e, -⟩ := kN_e h hx
  unfold KA
  rw [← e]
  rcases gg_k h hx with q | q | q | q | q <;> rw [q] <;> decide
theorem eP_toInt {p : Nat} (hp : p < 100000) : (eP p).toInt = if p = 0 then -5 else (p : Int) - 1 := by
  cases p with
  | zero => decide
  | succ p =>
    show (nI p).toInt = _
    rw [nI_toInt (by omega), if_neg (by omega)]
    omega
theorem eP_sub {p q : Nat} (hp : p < 100000) (hq : q < 100000) : (eP p - eP q).toInt = (eP p).toInt - (eP q).toInt := by
  have a := eP_toInt hp
  have b := eP_toInt hq
  have c : -5 ≤ (eP p).toInt ∧ (eP p).toInt < 100000 := by rw [a]; split <;> omega
  have d : -5 ≤ (eP q).toInt ∧ (eP q).toInt < 100000 := by rw [b]; split <;> omega
  rw [Int32.toInt_sub]
  exact Int.bmod_eq_of_le (by omega) (by omega)
theorem eP_sz {p q : Nat} (hp : p < 100000) (h : p = q) : eP p - eP q = 0 := by
  subst h
  apply Int32.toInt_inj.mp
  rw [eP_sub hp hp, show (0 : Int32).toInt = 0 by decide]
  omega
theorem eP_sl {p q : Nat} (hp : p < 100000) (hq : q < 100000) (h : p < q) : eP p - eP q < 0 := by
  rw [Int32.lt_iff_toInt_lt, eP_sub hp hq, eP_toInt hp, eP_toInt hq, show (0 : Int32).toInt = 0 by decide]
  split <;> split <;> omega
theorem lt0_ne {x : Int32} (h : x < 0) : ¬ x = 0 := fun e => by rw [e] at h; exact absurd h (by decide)
theorem lP_le (S : zSt) (a x : Nat) : lP S a x ≤ uU S a := pl1_le
