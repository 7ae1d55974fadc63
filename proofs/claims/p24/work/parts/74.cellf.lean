/-! cells and their settings -/
theorem zgo_0 {p : Nat → Bool} : ∀ {x : Nat}, zc p x = 0 → zgo p x = none
  | 0, _ => rfl
  | x + 1, h => by
    cases e : p x with
    | true => rw [zc_y e] at h; omega
    | false =>
      rw [zc_n e] at h
      simp only [zgo, e]
      exact zgo_0 h
theorem zix_at0 {p : Nat → Bool} {x M : Nat} (hM : M < 100000) (hx : x < M) (h : p x = true) : zix (pK p (nI (zc p x))) M = x := zix_at (pK_y h) (fun j hj => pK_n (by omega) hj) hx
theorem zgo_K {p : Nat → Bool} {M n : Nat} (hM : M < 100000) : ∀ {x : Nat}, x ≤ M → zc p x = n + 1 → zgo p x = some (zix (pK p (nI n)) M)
  | 0, _, h => by simp [zc] at h
  | x + 1, hx, h => by
    cases e : p x with
    | true =>
      rw [zc_y e] at h
      have e2 : zc p x = n := by omega
      subst e2
      rw [zix_at0 hM (by omega) e]
      simp [zgo, e]
    | false =>
      rw [zc_n e] at h
      simp only [zgo, e]
      exact zgo_K hM (by omega) h
/-- the change before, and the value below -/
def lst (S : zSt) (i j : Nat) : Nat → Int32
  | 0 => -1
  | n + 1 => nI (sX S i j n)
def blw (S : zSt) (i j : Nat) : Nat → Int32
  | 0 => -1
  | n + 1 => nI (vN S (sX S i j n))
theorem sX_f {S : zSt} {B i j n : Nat} (h : GG S B) (hi : i < uU S 0) (hj : j < uU S 1) (hn : n < kS S i j) : sX S i j n < mK S ∧ kN S (sX S i j n) = 4 ∧ sN S (sX S i j n) = 0 ∧ lP S 0 (sX S i j n) = i + 1 ∧ lP S 1 (sX S i j n) = j + 1 := by
  obtain ⟨h1, h2, -⟩ := sX_t h hn
  obtain ⟨p1, p2, p3, p4⟩ := pX_t h2
  exact ⟨h1, kN_of (by decide) p2, sN_p p1, lP_at h (by decide) hi p3, lP_at h (by decide) hj p4⟩
theorem sX_lt {S : zSt} {B i j m n : Nat} (h : GG S B) (hmn : m < n) (hn : n < kS S i j) : sX S i j m < sX S i j n := by
  obtain ⟨a1, a2, a3⟩ := sX_t h hn
  obtain ⟨b1, b2, b3⟩ := sX_t h (show m < kS S i j by omega)
  rcases Nat.lt_or_ge (sX S i j m) (sX S i j n) with q | q
  · exact q
  · have := zc_mono (p := pX S i j) q
    omega
theorem lst_lt {S : zSt} {B i j n : Nat} (h : GG S B) (hn : n < kS S i j) : ¬ nI (sX S i j n) ≤ lst S i j n := by
  have h60 := gg_M h
  have h1 := (sX_t h hn).1
  cases n with
  | zero =>
    show ¬ nI (sX S i j 0) ≤ -1
    rw [Int32.le_iff_toInt_le, nI_toInt (by omega), show (-1 : Int32).toInt = -1 by decide]
    omega
  | succ n =>
    have : sX S i j n < sX S i j (n + 1) := sX_lt h (Nat.lt_succ_self n) hn
    show ¬ nI (sX S i j (n + 1)) ≤ nI (sX S i j n)
    rw [nI_leI (by omega) (by omega)]
    omega
theorem zVU_some {S : zSt} {B i j q n : Nat} (h : GG S B) (hq : zc (pX S i j) (min q (mK S)) = n + 1) : zVU (bS S) (fA S) (mK S) q (rO S i) (cO S j) = nI (vN S (sX S i j n)) := by
  have h60 := gg_M h
  have e : zgo (pS (fA S) (rO S i) (cO S j)) (min q (mK S)) = some (sX S i j n) := zgo_K (M := mK S) (by omega) (by omega) hq
  have hk : n < kS S i j := by
    have := zc_mono (p := pX S i j) (show min q (mK S) ≤ mK S by omega)
    unfold kS
    omega
  obtain ⟨h1, h2, -⟩ := sX_t h hk
  unfold zVU
  rw [e]
  exact (vN_e h h1 (pX_t h2).2.1).1
theorem zVU_none {S : zSt} {i j q : Nat} (hq : zc (pX S i j) (min q (mK S)) = 0) : zVU (bS S) (fA S) (mK S) q (rO S i) (cO S j) = bse S i j := by
  have e : zgo (pS (fA S) (rO S i) (cO S j)) (min q (mK S)) = none := zgo_0 hq
  unfold zVU
  rw [e]
  rfl
theorem cV_k {S : zSt} {B i j : Nat} (h : GG S B) (hk : 0 < kS S i j) : cV S i j = blw S i j (kS S i j) := by
  have h60 := gg_M h
  obtain ⟨n, hn⟩ : ∃ n, kS S i j = n + 1 := ⟨kS S i j - 1, by omega⟩
  rw [hn]
  refine zVU_some h ?_
  rw [show min 60 (mK S) = mK S by omega]
  exact hn
theorem cV_0 {S : zSt} {B i j : Nat} (h : GG S B) (hk : kS S i j = 0) : cV S i j = bse S i j := by
  have h60 := gg_M h
  refine zVU_none ?_
  rw [show min 60 (mK S) = mK S by omega]
  exact hk
theorem zVB_X {S : zSt} {i j x : Nat} (h : pX S i j x = true) : zVB (bS S) (fA S) (mK S) x = zVU (bS S) (fA S) (mK S) x (rO S i) (cO S j) := by
  obtain ⟨p1, p2, p3, p4⟩ := pX_t h
  unfold zVB
  rw [if_pos ⟨p2, p1⟩, p3, p4]
theorem vN_lt {S : zSt} {B x : Nat} (h : GG S B) (hx : x < mK S) (hk : kN S x = 4) : vN S x < 10000 := (vN_e h hx (by rw [(kN_e h hx).1, hk])).2
/-- the value below a setting is a number -/
theorem bN_X {S : zSt} {B i j n : Nat} (h : GG S B) (hi : i < uU S 0) (hj : j < uU S 1) (hn : n < kS S i j) : nI (bN S (sX S i j n)) = (if n = 0 then bse S i j else blw S i j n) ∧ bN S (sX S i j n) < 10000 ∧ zVB (bS S) (fA S) (mK S) (sX S i j n) = nI (bN S (sX S i j n)) := by
  obtain ⟨h1, h2, h3⟩ := sX_t h hn
  have em : min (sX S i j n) (mK S) = sX S i j n := by omega
  cases n with
  | zero =>
    have e : zVB (bS S) (fA S) (mK S) (sX S i j 0) = bse S i j := by
      rw [zVB_X h2]
      exact zVU_none (by rw [em]; exact h3)
    obtain ⟨v, hv, ev⟩ := gg_B h hi hj
    have ev : bse S i j = nI v := ev
    have eb : bN S (sX S i j 0) = v := by unfold bN; rw [e, ev, nI_clamp (by omega)]
    rw [eb, if_pos rfl]
    exact ⟨ev.symm, hv, e.trans ev⟩
  | succ n =>
    have e : zVB (bS S) (fA S) (mK S) (sX S i j (n + 1)) = nI (vN S (sX S i j n)) := by
      rw [zVB_X h2]
      exact zVU_some h (by rw [em]; exact h3)
    obtain ⟨g1, g2, -⟩ := sX_f h hi hj (show n < kS S i j by omega)
    have hv := vN_lt h g1 g2
    have eb : bN S (sX S i j (n + 1)) = vN S (sX S i j n) := by unfold bN; rw [e, nI_clamp (by omega)]
    rw [eb, if_neg (by omega)]
    exact ⟨rfl, hv, e⟩
theorem bN_b {S : zSt} {B i j n : Nat} (h : GG S B) (hi : i < uU S 0) (hj : j < uU S 1) (hn : n < kS S i j) (h0 : 0 < n) : nI (bN S (sX S i j n)) = blw S i j n := by
  have := (bN_X h hi hj hn).1
  rw [if_neg (by omega)] at this
  exact this
theorem bse_p {S : zSt} {B i j : Nat} (h : GG S B) (hi : i < uU S 0) (hj : j < uU S 1) (hk : 0 < kS S i j) : nI (bN S (sX S i j 0)) = bse S i j := (bN_X h hi hj hk).1
/-- a pending setting is one of its cell's -/
theorem X_of {S : zSt} {B x : Nat} (h : GG S B) (hx : x < mK S) (hk : kN S x = 4) (hs : sN S x = 0) : ∃ i j n, i < uU S 0 ∧ j < uU S 1 ∧ n < kS S i j ∧ sX S i j n = x ∧ pX S i j x = true ∧ lP S 0 x = i + 1 ∧ lP S 1 x = j + 1 := by
  have h60 := gg_M h
  have p1 := (sN_0 h hx).mpr hs
  have p2 : fA S (6 * x) = nI 4 := by rw [(kN_e h hx).1, hk]
  obtain ⟨i, hi, ei⟩ := gg_P h (a := 0) (by decide) hx p1 (Or.inr (Or.inr p2))
  obtain ⟨j, hj, ej⟩ := gg_P h (a := 1) (by decide) hx p1 (Or.inr (Or.inr p2))
  have hX : pX S i j x = true := by
    have ei : fA S (6 * x + 3) = rO S i := ei
    have ej : fA S (6 * x + 4) = cO S j := ej
    simp [pX, pS, p1, p2, ei, ej]
  refine ⟨i, j, zc (pX S i j) x, hi, hj, zc_slt hx hX, ?_, hX, lP_at h (by decide) hi ei, lP_at h (by decide) hj ej⟩
  exact zix_at0 (by omega) hx hX
theorem bN_e {S : zSt} {B x : Nat} (h : GG S B) (hx : x < mK S) (hk : kN S x = 4) (hs : sN S x = 0) : zVB (bS S) (fA S) (mK S) x = nI (bN S x) ∧ bN S x < 10000 := by
  obtain ⟨i, j, n, hi, hj, hn, e, -⟩ := X_of h hx hk hs
  subst e
  exact ⟨(bN_X h hi hj hn).2.2, (bN_X h hi hj hn).2.1⟩
section API
variable (E : zE) (x0 h0 w0 : Nat) (t : Nat → Nat) (S : zSt) {B : Nat}
theorem l_chg6y (x : Nat) (h : GG S B) (hx : x < mK S) (hk : kN S x = 4) (hs : sN S x = 0) : zM E yX5_change wsX5_change 5 [.ref x0, .int (nI x), .int (nI 6)] (WTd E x0 h0 w0 t S) (WTd E x0 h0 w0 t S) (some (.int (nI (bN S x)))) := by
  rw [← (bN_e h hx hk hs).1]
  exact l_chg E x0 h0 w0 t S x (nI 6) h hx
theorem l_chg6n (x : Nat) (h : GG S B) (hx : x < mK S) (hk : kN S x ≠ 4) : zM E yX5_change wsX5_change 5 [.ref x0, .int (nI x), .int (nI 6)] (WTd E x0 h0 w0 t S) (WTd E x0 h0 w0 t S) (some (.int (-5))) := by
  have m := l_chg E x0 h0 w0 t S x (nI 6) h hx
  have e1 : zChg S x (nI 6) = zVB (bS S) (fA S) (mK S) x := rfl
  have e : zChg S x (nI 6) = -5 := by rw [e1]; unfold zVB; exact if_neg (fun q => hk (kN_of (by decide) q.1))
  rw [e] at m
  exact m
theorem l_chg6m (x : Nat) (h : GG S B) (hx : x < mK S) (hs : sN S x ≠ 0) : zM E yX5_change wsX5_change 5 [.ref x0, .int (nI x), .int (nI 6)] (WTd E x0 h0 w0 t S) (WTd E x0 h0 w0 t S) (some (.int (-5))) := by
  have m := l_chg E x0 h0 w0 t S x (nI 6) h hx
  have e1 : zChg S x (nI 6) = zVB (bS S) (fA S) (mK S) x := rfl
  have e : zChg S x (nI 6) = -5 := by rw [e1]; unfold zVB; exact if_neg (fun q => hs (sN_p q.2))
  rw [e] at m
  exact m
end API
/-! sums of the views, counts of settings -/
def sA (a b c : Int32) : Nat → Int32 := fun k => if k = 0 then a else if k = 1 then b else c
theorem sA_0 : sA 0 0 0 = fun _ => 0 := by funext k; unfold sA; split; rfl; split <;> rfl
theorem lt3 {P : Nat → Prop} (h0 : P 0) (h1 : P 1) (h2 : P 2) : ∀ j, j < 3 → P j := fun j hj => by
  rcases (show j = 0 ∨ j = 1 ∨ j = 2 by omega) with e | e | e <;> subst e <;> assumption
def wV (S : zSt) (v i j : Nat) : Int32 := if v = 2 then bse S i j else cV S i j
def rS (S : zSt) (v i : Nat) : Nat → Int32 := zu (fun j => if (vS S v 0 i && vS S v 1 j) = true then wV S v i j else 0)
def tS (S : zSt) (v : Nat) : Nat → Int32 := zu (fun i => rS S v i (uU S 1))
def zsm (f : Nat → Nat) : Nat → Nat
  | 0 => 0
  | n + 1 => zsm f n + f n
def kR (S : zSt) (i : Nat) : Nat → Nat := zsm (fun j => kS S i j)
def kT (S : zSt) : Nat → Nat := zsm (fun i => kR S i (uU S 1))
def nSS (S : zSt) : Nat := zc (pPO (fA S) (nI 4)) (mK S)
theorem rS_y {S : zSt} {v i j : Nat} {a T : Int32} (h : (vS S v 0 i && vS S v 1 j) = true) (e : a = T + rS S v i j) : a + wV S v i j = T + rS S v i (j + 1) := by
  have e2 : rS S v i (j + 1) = rS S v i j + wV S v i j := by
    show rS S v i j + (if (vS S v 0 i && vS S v 1 j) = true then wV S v i j else 0) = _
    rw [if_pos h]
  rw [e2, e, Int32.add_assoc]
theorem rS_n {S : zSt} {v i j : Nat} {a T : Int32} (h : (vS S v 0 i && vS S v 1 j) = false) (e : a = T + rS S v i j) : a = T + rS S v i (j + 1) := by
  have e2 : rS S v i (j + 1) = rS S v i j + 0 := by
    show rS S v i j + (if (vS S v 0 i && vS S v 1 j) = true then wV S v i j else 0) = _
    rw [if_neg (by rw [h]; decide)]
  rw [e2, e, Int32.add_zero]
theorem s0_y {S : zSt} {i j : Nat} {a T : Int32} (e : a = T + rS S 0 i j) : a + cV S i j = T + rS S 0 i (j + 1) := rS_y (v := 0) rfl e
theorem s1_y {S : zSt} {i j : Nat} {a T : Int32} (h1 : Dm S 0 i = false) (h2 : Dm S 1 j = false) (e : a = T + rS S 1 i j) : a + cV S i j = T + rS S 1 i (j + 1) := rS_y (v := 1) (by show (!Dm S 0 i && !Dm S 1 j) = true; rw [h1, h2]; rfl) e
theorem s1_n0 {S : zSt} {i j : Nat} {a T : Int32} (h1 : Dm S 0 i = true) (e : a = T + rS S 1 i j) : a = T + rS S 1 i (j + 1) := rS_n (v := 1) (by show (!Dm S 0 i && !Dm S 1 j) = false; rw [h1]; rfl) e
theorem s1_n1 {S : zSt} {i j : Nat} {a T : Int32} (h1 : Dm S 1 j = true) (e : a = T + rS S 1 i j) : a = T + rS S 1 i (j + 1) := rS_n (v := 1) (by show (!Dm S 0 i && !Dm S 1 j) = false; rw [h1]; simp) e
theorem s2_y {S : zSt} {i j : Nat} {a T : Int32} (h1 : Nw S 0 i = false) (h2 : Nw S 1 j = false) (e : a = T + rS S 2 i j) : a + bse S i j = T + rS S 2 i (j + 1) := rS_y (v := 2) (by show (!Nw S 0 i && !Nw S 1 j) = true; rw [h1, h2]; rfl) e
theorem s2_n0 {S : zSt} {i j : Nat} {a T : Int32} (h1 : Nw S 0 i = true) (e : a = T + rS S 2 i j) : a = T + rS S 2 i (j + 1) := rS_n (v := 2) (by show (!Nw S 0 i && !Nw S 1 j) = false; rw [h1]; rfl) e
theorem s2_n1 {S : zSt} {i j : Nat} {a T : Int32} (h1 : Nw S 1 j = true) (e : a = T + rS S 2 i j) : a = T + rS S 2 i (j + 1) := rS_n (v := 2) (by show (!Nw S 0 i && !Nw S 1 j) = false; rw [h1]; simp) e
theorem smV_e {S : zSt} {B v : Nat} (h : GG S B) (hv : v < 3) : smV S v = tS S v (uU S 0) := by
  unfold smV zTot tS
  refine zu_cg (n := rU S) (fun i hi => ?_)
  have a : pSh (fA S) (mK S) (nI v) (nI 0) (nI 1) 3 (rO S i) = vS S v 0 i := rSh_v h hv
  rw [a]
  cases e : vS S v 0 i with
  | false =>
    rw [if_neg (by decide)]
    unfold rS
    rw [zu_cg (n := uU S 1) (g := fun _ => 0) (fun j _ => by rw [e]; rfl)]
    exact (zu_0 _).symm
  | true =>
    rw [if_pos rfl]
    unfold zTR rS
    refine zu_cg (n := cU S) (fun j hj => ?_)
    have b : pSh (fA S) (mK S) (nI v) (nI 2) (nI 3) 4 (cO S j) = vS S v 1 j := cSh_v h hv
    rw [b, e, Bool.true_and]
    have c : zVV (bS S) (fA S) (mK S) (nI v) (rO S i) (cO S j) = wV S v i j := by
      unfold zVV wV
      rcases (show v = 0 ∨ v = 1 ∨ v = 2 by omega) with q | q | q <;> subst q <;> rfl
    rw [c]
/-- a count by classes -/
theorem zc_add {p q r : Nat → Bool} (h : ∀ j, (if p j = true then 1 else 0) = (if q j = true then 1 else 0) + (if r j = true then 1 else 0)) : ∀ n, zc p n = zc q n + zc r n
  | 0 => rfl
  | n + 1 => by
    have := h n
    rw [zc_s, zc_s, zc_s, zc_add h n]
    omega
theorem zsm_cg {f g : Nat → Nat} : ∀ {n : Nat}, (∀ j, j < n → f j = g j) → zsm f n = zsm g n
  | 0, _ => rfl
  | n + 1, h => by rw [zsm, zsm, zsm_cg (fun j hj => h j (by omega)), h n (Nat.lt_succ_self n)]
theorem zsm_z : ∀ n, zsm (fun _ => 0) n = 0
  | 0 => rfl
  | n + 1 => by rw [zsm, zsm_z n]
theorem zsm_add {f g : Nat → Nat} : ∀ n, zsm (fun j => f j + g j) n = zsm f n + zsm g n
  | 0 => rfl
  | n + 1 => by rw [zsm, zsm, zsm, zsm_add n]; omega
/-- one place alone -/
theorem zsm_at {f : Nat → Nat} {k : Nat} (h0 : ∀ j, j ≠ k → f j = 0) : ∀ {n : Nat}, zsm f n = if k < n then f k else 0
  | 0 => rfl
  | n + 1 => by
    rw [zsm, zsm_at h0]
    rcases Nat.lt_trichotomy k n with q | q | q
    · rw [if_pos q, if_pos (by omega), h0 n (by omega)]; omega
    · subst q; rw [if_neg (by omega), if_pos (by omega)]; omega
    · rw [if_neg (by omega), if_neg (by omega), h0 n (by omega)]
/-- changes of which each belongs to one place of u are counted place by place -/
theorem zc_cls {P : Nat → Bool} {Q : Nat → Nat → Bool} {u : Nat} : ∀ {M : Nat}, (∀ x, x < M → P x = true → ∃ i, i < u ∧ Q i x = true ∧ ∀ k, Q k x = true → k < u → k = i) → (∀ x i, x < M → Q i x = true → P x = true) → zc P M = zsm (fun i => zc (Q i) M) u
  | 0, _, _ => (zsm_z u).symm
  | M + 1, h1, h2 => by
    have ih := zc_cls (P := P) (Q := Q) (u := u) (M := M) (fun x hx => h1 x (by omega)) (fun x i hx => h2 x i (by omega))
    have e : zsm (fun i => zc (Q i) (M + 1)) u = zsm (fun i => zc (Q i) M) u + zsm (fun i => if Q i M = true then 1 else 0) u := by
      rw [← zsm_add]
      exact zsm_cg (fun j _ => zc_s)
    rw [e, zc_s, ih]
    congr 1
    cases c : P M with
    | false =>
      rw [zsm_cg (g := fun _ => 0) (fun j _ => by
        cases d : Q j M with
        | false => rfl
        | true => rw [h2 M j (Nat.lt_succ_self M) d] at c; cases c)]
      rw [zsm_z]; rfl
    | true =>
      obtain ⟨i, hi, q, hu⟩ := h1 M (Nat.lt_succ_self M) c
      have key : zsm (fun k => if Q k M = true then 1 else 0) u = zsm (fun k => if k = i then 1 else 0) u := zsm_cg (fun k hk => by
        by_cases z : k = i
        · subst z; rw [if_pos q, if_pos rfl]
        · rw [if_neg z, if_neg (fun w => z (hu k w hk))])
      rw [key, zsm_at (k := i) (fun j hj => if_neg hj), if_pos hi, if_pos rfl, if_pos rfl]
theorem nSS_e {S : zSt} {B : Nat} (h : GG S B) : nSS S = kT S (uU S 0) := by
  unfold nSS kT
  have hp : ∀ x, x < mK S → pPO (fA S) (nI 4) x = true → kN S x = 4 ∧ sN S x = 0 := fun x hx q => by
    have q' : fA S (6 * x) = nI 4 ∧ fA S (6 * x + 2) = 0 := by simpa [pPO] using q
    exact ⟨kN_of (by decide) q'.1, sN_p q'.2⟩
  -- by rows
  have e1 : zc (pPO (fA S) (nI 4)) (mK S) = zsm (fun i => zc (fun x => pPO (fA S) (nI 4) x && decide (fA S (6 * x + 3) = rO S i)) (mK S)) (uU S 0) := by
    refine zc_cls (fun x hx q => ?_) (fun x i hx q => by simp only [Bool.and_eq_true] at q; exact q.1)
    obtain ⟨k4, s0⟩ := hp x hx q
    obtain ⟨i, j, n, hi, hj, -, -, hX, -⟩ := X_of h hx k4 s0
    have e3 := (pX_t hX).2.2.1
    refine ⟨i, hi, by rw [q, e3, decide_eq_true rfl]; rfl, fun k hk hku => ?_⟩
    simp only [Bool.and_eq_true, decide_eq_true_eq] at hk
    exact gg_OI h (a := 0) (by decide) k i hku hi (hk.2.symm.trans e3)
  rw [e1]
  refine zsm_cg (fun i hi => ?_)
  unfold kR
  refine zc_cls (fun x hx q => ?_) (fun x j hx q => ?_)
  · simp only [Bool.and_eq_true, decide_eq_true_eq] at q
    obtain ⟨k4, s0⟩ := hp x hx q.1
    obtain ⟨i', j, n, hi', hj, -, -, hX, -⟩ := X_of h hx k4 s0
    obtain ⟨p1, p2, p3, p4⟩ := pX_t hX
    have : i' = i := gg_OI h (a := 0) (by decide) i' i hi' hi (p3.symm.trans q.2)
    subst this
    refine ⟨j, hj, hX, fun k hk hku => ?_⟩
    exact gg_OI h (a := 1) (by decide) k j hku hj ((pX_t hk).2.2.2.symm.trans p4)
  · obtain ⟨p1, p2, p3, p4⟩ := pX_t q
    simp [pPO, p1, p2, p3]
theorem tS_s (S : zSt) (v i : Nat) : tS S v (i + 1) = tS S v i + rS S v i (uU S 1) := by unfold tS; rw [zu]
theorem kT_s (S : zSt) (i : Nat) : kT S (i + 1) = kT S i + kR S i (uU S 1) := by unfold kT; rw [zsm]
theorem kR_s (S : zSt) (i j : Nat) : kR S i (j + 1) = kR S i j + kS S i j := by unfold kR; rw [zsm]
theorem kR_0 (S : zSt) (i : Nat) : kR S i 0 = 0 := rfl
theorem rS_0 (S : zSt) (v i : Nat) : rS S v i 0 = 0 := rfl
theorem tS_0 (S : zSt) (v : Nat) : tS S v 0 = 0 := rfl
theorem kT_0 (S : zSt) : kT S 0 = 0 := rfl
theorem l_cnt8n (E : zE) (x0 h0 h1 w0 w1 : Nat) (t : Nat → Nat) (S : zSt) (o kp ln : Nat) (ps : zPs) {B : Nat} (h : GG S B) : zM E yX5_count wsX5_count 5 [.ref x0, .int (nI 8)] (WCd E x0 h0 h1 w0 w1 t S o kp ln ps) (WCd E x0 h0 h1 w0 w1 t S o kp ln ps) (some (.int (nI (nSS S)))) := l_cnt8 E x0 h0 h1 w0 w1 t S o kp ln ps h
