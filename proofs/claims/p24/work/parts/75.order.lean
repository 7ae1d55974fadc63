/-! states and authors counted; the order in which pending changes are read -/
def stP (S : zSt) (k : Nat) : Nat → Bool := fun y => decide (sN S y = k)
def ayP (S : zSt) (k : Nat) : Nat → Bool := fun y => decide (4 * aN S y + sN S y = k)
def stA (S : zSt) (x : Nat) : Nat → Int32 := fun k => nI (zc (stP S k) x)
def byA (S : zSt) (x : Nat) : Nat → Int32 := fun k => nI (zc (ayP S k) x)
theorem stA_0 (S : zSt) : stA S 0 = fun _ => 0 := by funext k; exact nI_0
theorem byA_0 (S : zSt) : byA S 0 = fun _ => 0 := by funext k; exact nI_0
theorem stA_up {S : zSt} {x n : Nat} : ∀ j, j < n → upd (stA S x) (sN S x) (nI (zc (stP S (sN S x)) x + 1)) j = stA S (x + 1) j := by
  intro j _
  by_cases e : j = sN S x
  · subst e
    rw [upd_eq]
    unfold stA
    rw [zc_y (show stP S (sN S x) x = true from decide_eq_true rfl)]
  · rw [upd_ne e]
    unfold stA
    rw [zc_n (show stP S j x = false from decide_eq_false (fun q => e q.symm))]
theorem byA_up {S : zSt} {x n : Nat} : ∀ j, j < n → upd (byA S x) (4 * aN S x + sN S x) (nI (zc (ayP S (4 * aN S x + sN S x)) x + 1)) j = byA S (x + 1) j := by
  intro j _
  by_cases e : j = 4 * aN S x + sN S x
  · subst e
    rw [upd_eq]
    unfold byA
    rw [zc_y (show ayP S (4 * aN S x + sN S x) x = true from decide_eq_true rfl)]
  · rw [upd_ne e]
    unfold byA
    rw [zc_n (show ayP S j x = false from decide_eq_false (fun q => e q.symm))]
theorem cnS_c {S : zSt} {B k : Nat} (h : GG S B) (hk : k < 4) : zc (stP S k) (mK S) = cnS S k := by
  unfold cnS
  refine zc_cg (fun x hx => ?_)
  obtain ⟨e, h4⟩ := sN_e h hx
  unfold stP pIS
  rw [e, dec_iff (nI_eq (a := sN S x) (b := k) (by omega) (by omega)), decide_eq_true (show (-1 : Int32) = -1 from rfl), Bool.true_or, Bool.and_true]
theorem stA_M {S : zSt} {B k : Nat} (h : GG S B) (hk : k < 4) : stA S (mK S) k = nI (cnS S k) := congrArg nI (cnS_c h hk)
theorem byA_M {S : zSt} {B a k : Nat} (h : GG S B) (ha : a < 4) (hk : k < 4) : byA S (mK S) (4 * a + k) = nI (cnA S a k) := by
  unfold byA cnA
  congr 1
  refine zc_cg (fun x hx => ?_)
  obtain ⟨e, h4⟩ := sN_e h hx
  obtain ⟨f, g4⟩ := aN_e h hx
  unfold ayP pIS
  rw [e, f, dec_iff (nI_eq (a := sN S x) (b := k) (by omega) (by omega)), dec_iff (nI_eq (a := aN S x) (b := a) (by omega) (by omega)), decide_eq_false (nI_m1 (by omega)), Bool.false_or]
  by_cases c : sN S x = k
  · by_cases d : aN S x = a
    · rw [decide_eq_true c, decide_eq_true d, decide_eq_true (show 4 * aN S x + sN S x = 4 * a + k by omega)]; rfl
    · rw [decide_eq_false d, decide_eq_false (show ¬ 4 * aN S x + sN S x = 4 * a + k by omega)]; simp
  · rw [decide_eq_false c, decide_eq_false (show ¬ 4 * aN S x + sN S x = 4 * a + k by omega)]; simp
theorem zc_b {p : Nat → Bool} {n : Nat} : zc p (n + 1) = zc p n + (p n).toNat := by rw [zc_s]; cases p n <;> rfl
theorem zb_add (a : Nat) (b : Bool) : nI a + zb b = nI (a + b.toNat) := by cases b <;> exact nI_add _ _
theorem rank_n {p : Nat → Bool} {R : Nat → Nat → Bool} {F : Nat → Nat} {n M : Nat} (hF : ∀ i, i < n → F i < M ∧ p (F i) = true) (hs : ∀ i j, i < j → j < n → R (F i) (F j) = true ∧ R (F j) (F i) = false) (ha : ∀ x, x < M → p x = true → ∃ i, i < n ∧ F i = x) : zc p M = n := by
  have inj : ∀ a b, a < n → b < n → F a = F b → a = b := by
    intro a b h1 h2 e
    rcases Nat.lt_trichotomy a b with q | q | q
    · have z := hs a b q h2; rw [e] at z; rw [z.1] at z; exact absurd z.2 (by decide)
    · exact q
    · have z := hs b a q h1; rw [e] at z; rw [z.1] at z; exact absurd z.2 (by decide)
  have idx : ∀ a, a < n → zix (fun j => decide (F j = F a)) n = a := fun a h => zix_at (by simp) (fun j hj => decide_eq_false (fun e => by have := inj j a (by omega) h e; omega)) h
  have one : ∀ i, zc (fun _ => true) i = i := fun i => zc_all (fun _ _ => rfl)
  refine Nat.le_antisymm ?_ ?_
  · refine Nat.le_trans (zc_inj (fun y => zix (fun j => decide (F j = y)) n) (U := n) (Q := fun _ => true) (fun y hy hp => ?_) (fun y z hy hz hp hq e => ?_)) (Nat.le_of_eq (one n))
    · obtain ⟨a, han, ea⟩ := ha y hy hp
      subst ea
      simp only [idx a han]
      exact ⟨han, trivial⟩
    · obtain ⟨a, han, ea⟩ := ha y hy hp
      obtain ⟨b, hbn, eb⟩ := ha z hz hq
      subst ea; subst eb
      simp only [idx a han, idx b hbn] at e
      rw [e]
  · refine Nat.le_trans (Nat.le_of_eq (one n).symm) (zc_inj F (P := fun _ => true) (fun j hj _ => hF j hj) (fun a b h1 h2 _ _ e => inj a b h1 h2 e))
def qX (S : zSt) (k : Nat) : Nat := (zPd S k).toNatClampNeg
theorem cnS_0 (S : zSt) : cnS S 0 = zc (fun x => decide (fA S (6 * x + 2) = 0)) (mK S) := by
  unfold cnS
  refine zc_cg (fun x _ => ?_)
  unfold pIS
  rw [nI_0, decide_eq_true (show (-1 : Int32) = -1 from rfl), Bool.true_or, Bool.and_true]
theorem qX_all {S : zSt} {B : Nat} (h : GG S B) : (∀ k, k < cnS S 0 → zPd S k = nI (qX S k) ∧ qX S k < mK S ∧ sN S (qX S k) = 0) ∧ (∀ i j, i < j → j < cnS S 0 → lx S (qX S i) (qX S j) = true) ∧ zPd S (cnS S 0) = -5 := by
  have h60 := gg_M h
  obtain ⟨⟨s, hR⟩, -⟩ := id h
  obtain ⟨hpw, hmem⟩ := zLL_pw hR
  rw [List.pairwise_iff_getElem] at hpw
  have hel : ∀ i, (hi : i < (zLL S).length) → ∃ x, x < mK S ∧ (zLL S)[i] = nI x ∧ fA S (6 * x + 2) = 0 := by
    intro i hi
    obtain ⟨A, P, Q, x, hx, e, hp, -⟩ := hmem _ (List.getElem_mem hi)
    exact ⟨x, hx, e, hp⟩
  have hgd : ∀ i, (hi : i < (zLL S).length) → (zLL S).getD i (-5) = (zLL S)[i] := by
    intro i hi
    rw [List.getD_eq_getElem?_getD, List.getElem?_eq_getElem hi]; rfl
  have hF : ∀ i, i < (zLL S).length → ((zLL S).getD i (-5)).toNatClampNeg < mK S ∧ decide (fA S (6 * ((zLL S).getD i (-5)).toNatClampNeg + 2) = 0) = true := fun i hi => by
    obtain ⟨x, hx, e, hp⟩ := hel i hi
    simp only [hgd i hi, e, nI_clamp (show x < 2147483648 by omega)]
    exact ⟨hx, decide_eq_true hp⟩
  have hs : ∀ i j, i < j → j < (zLL S).length → lx S ((zLL S).getD i (-5)).toNatClampNeg ((zLL S).getD j (-5)).toNatClampNeg = true ∧ lx S ((zLL S).getD j (-5)).toNatClampNeg ((zLL S).getD i (-5)).toNatClampNeg = false := fun i j hij hj => by
    have := hpw i j (by omega) hj hij
    simp only [hgd i (by omega), hgd j hj]
    exact this
  have n := rank_n (p := fun x => decide (fA S (6 * x + 2) = 0)) (R := lx S) (F := fun i => ((zLL S).getD i (-5)).toNatClampNeg) (n := (zLL S).length) (M := mK S) hF hs
    (fun x hx hp => by
      obtain ⟨i, hi, e⟩ := List.mem_iff_getElem.mp (zLL_all hR hx (of_decide_eq_true hp))
      exact ⟨i, hi, by simp only [hgd i hi, e, nI_clamp (show x < 2147483648 by omega)]⟩)
  rw [← cnS_0] at n
  rw [n]
  have hz : ∀ k, zPd S k = (zLL S).getD k (-5) := zPd_LL hR
  have hq : ∀ k, qX S k = ((zLL S).getD k (-5)).toNatClampNeg := fun k => by unfold qX; rw [hz]
  refine ⟨fun k hk => ?_, fun i j hij hj => ?_, ?_⟩
  · obtain ⟨x, hx, e, hp⟩ := hel k hk
    have e2 : qX S k = x := by rw [hq, hgd k hk, e, nI_clamp (by omega)]
    rw [hz, hgd k hk, e, e2]
    exact ⟨rfl, hx, sN_p hp⟩
  · rw [hq, hq]
    exact (hs i j hij hj).1
  · rw [hz, List.getD_eq_getElem?_getD, List.getElem?_eq_none (Nat.le_refl _)]; rfl
theorem qX_m {S : zSt} {B k : Nat} (h : GG S B) (hk : k < cnS S 0) : qX S k < mK S := ((qX_all h).1 k hk).2.1
theorem qX_s {S : zSt} {B k : Nat} (h : GG S B) (hk : k < cnS S 0) : sN S (qX S k) = 0 := ((qX_all h).1 k hk).2.2
theorem qX_l {S : zSt} {B k : Nat} (h : GG S B) (hk : k < cnS S 0) (h0 : 0 < k) : lx S (qX S (k - 1)) (qX S k) = true := (qX_all h).2.1 _ _ (by omega) hk
def lsP (S : zSt) : Nat → Int32
  | 0 => -1
  | k + 1 => nI (qX S k)
theorem lsP_0 {S : zSt} {k : Nat} (h : k = 0) : lsP S k < 0 := by subst h; show (-1 : Int32) < 0; decide
theorem lsP_e {S : zSt} {k : Nat} (h : 0 < k) : lsP S k = nI (qX S (k - 1)) := by
  obtain ⟨n, rfl⟩ : ∃ n, k = n + 1 := ⟨k - 1, by omega⟩
  rfl
theorem lsP_n {S : zSt} {B k : Nat} (h : GG S B) (hk : k < cnS S 0) (h0 : 0 < k) : ¬ lsP S k < 0 := by
  rw [lsP_e h0]
  have := qX_m h (show k - 1 < cnS S 0 by omega)
  have := gg_M h
  exact nI_pos (by omega)
section API
variable (E : zE) (x0 h0 w0 : Nat) (t : Nat → Nat) (S : zSt) {B : Nat}
theorem l_pndY (k : Nat) (h : GG S B) (hk : k < cnS S 0) : zM E yX5_pending wsX5_pending 5 [.ref x0, .int (nI k)] (WTd E x0 h0 w0 t S) (WTd E x0 h0 w0 t S) (some (.int (nI (qX S k)))) := by
  have h60 := gg_M h
  have hl : cnS S 0 ≤ mK S := zc_le _ _
  have m := mX5_pending E x0 h0 w0 t S k (gg_S h).1 (by omega)
  rw [((qX_all h).1 k hk).1] at m
  exact m
theorem l_pndN (k : Nat) (h : GG S B) (hk : k = cnS S 0) : zM E yX5_pending wsX5_pending 5 [.ref x0, .int (nI k)] (WTd E x0 h0 w0 t S) (WTd E x0 h0 w0 t S) (some (.int (-5))) := by
  subst hk
  have h60 := gg_M h
  have hl : cnS S 0 ≤ mK S := zc_le _ _
  have m := mX5_pending E x0 h0 w0 t S (cnS S 0) (gg_S h).1 (by omega)
  rw [(qX_all h).2.2] at m
  exact m
end API
theorem sup_self {S : zSt} {x y : Nat} (e : y = x) : sup S x y = false := by subst e; exact zrs_self _ _
theorem dpt_self {S : zSt} {x y : Nat} (e : y = x) : dpt S x y = false := by subst e; exact zrs_self _ _
