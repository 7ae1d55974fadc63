/-! settling all of an author -/
def tB (b : Bool) : Nat := if b = true then 1 else 2
def SLI (S Sk : zSt) (au : Int32) (b : Bool) (nk k : Nat) : Prop := mK Sk = mK S ∧ cnS Sk (tB b) = cnS S (tB b) + nk ∧ cnS Sk 0 + cnS Sk 3 + nk = cnS S 0 + cnS S 3 ∧ (∀ y, y < mK S → fA Sk (6 * y + 1) = fA S (6 * y + 1) ∧ (fA Sk (6 * y + 2) = 0 → fA S (6 * y + 2) = 0)) ∧ ∀ y, y < k → pIS (fA Sk) au (nI 0) y = false
theorem SL_inv {S : zSt} {B : Nat} {au : Int32} {b : Bool} (h : GG S B) (ha : au = -1 ∨ ∃ a, a < 4 ∧ au = nI a) : ∀ k, k ≤ mK S → SLI S (zSL S au b k).1 au b (zSL S au b k).2 k
  | 0, _ => ⟨rfl, rfl, rfl, fun y _ => ⟨rfl, id⟩, fun y hy => absurd hy (Nat.not_lt_zero y)⟩
  | k + 1, hk => by
    obtain ⟨eM, c1, c2, c3, c4⟩ := SL_inv h ha (b := b) k (by omega)
    have hG := GG_SL h (b := b) ha k (by omega)
    have hkM : k < mK (zSL S au b k).1 := by rw [eM]; omega
    cases c : zSC (zSL S au b k).1 au k with
    | false =>
      rw [zSL_n c]
      refine ⟨eM, c1, c2, c3, fun y hy => ?_⟩
      rcases Nat.lt_or_ge y k with q | q
      · exact c4 y q
      · have e : y = k := by omega
        subst e
        unfold pIS
        rw [nI_0, Bool.and_comm]
        exact c
    | true =>
      have hp := zSC_p c
      have key : ∀ S' n, StF (zSL S au b k).1 S' k (tB b) n → SLI S S' au b ((zSL S au b k).2 + n) (k + 1) := fun S' n hF => by
        obtain ⟨f1, f2, f3, f4, f5⟩ := hF
        refine ⟨f1.trans eM, by omega, by omega, fun y hy => ⟨((f4 y (by rw [eM]; exact hy)).1).trans (c3 y hy).1, fun q => (c3 y hy).2 ((f4 y (by rw [eM]; exact hy)).2 q)⟩, fun y hy => ?_⟩
        rcases Nat.lt_or_ge y k with q | q
        · have := c4 y q
          obtain ⟨g1, g2⟩ := f4 y (by rw [eM]; omega)
          unfold pIS at this ⊢
          rw [g1]
          cases d : decide (fA S' (6 * y + 2) = nI 0) with
          | false => rfl
          | true =>
            have e0 := of_decide_eq_true d
            rw [nI_0] at e0
            rw [decide_eq_true (show fA (zSL S au b k).1 (6 * y + 2) = nI 0 by rw [g2 e0, nI_0])] at this
            exact this
        · have e : y = k := by omega
          subst e
          unfold pIS
          rw [f5, decide_eq_false (show ¬ nI (tB b) = nI 0 by unfold tB; split <;> decide)]
          rfl
      cases b with
      | true =>
        rw [zSL_a c rfl]
        have := key _ _ (Ac_all hG hkM hp)
        rw [← AWn_e hkM] at this
        exact this
      | false =>
        rw [zSL_r c rfl]
        have := key _ _ (Rj_all hG hkM hp).1
        have e : zRWn (zSL S au false k).1 k = 1 + zc (dpt (zSL S au false k).1 k) (mK (zSL S au false k).1) := by unfold zRWn; rw [Nat.add_comm]; rfl
        rw [← e] at this
        exact this
theorem SL_all {S : zSt} {B : Nat} {au : Int32} {b : Bool} (h : GG S B) (ha : au = -1 ∨ ∃ a, a < 4 ∧ au = nI a) : mK (zSL S au b (mK S)).1 = mK S ∧ zc (pIS (fA (zSL S au b (mK S)).1) au (nI 0)) (mK (zSL S au b (mK S)).1) = 0 ∧ cnS (zSL S au b (mK S)).1 (tB b) = cnS S (tB b) + (zSL S au b (mK S)).2 ∧ zc (pIS (fA S) au (nI 0)) (mK S) ≤ (zSL S au b (mK S)).2 + cnS (zSL S au b (mK S)).1 3 := by
  obtain ⟨eM, c1, c2, c3, c4⟩ := SL_inv h ha (b := b) _ (Nat.le_refl (mK S))
  refine ⟨eM, by rw [eM]; exact zc_zero c4, c1, ?_⟩
  have e0 := cnS_0 (zSL S au b (mK S)).1
  have e1 := cnS_0 S
  rw [eM] at e0
  have u := zc_or (p := fun y => decide (fA (zSL S au b (mK S)).1 (6 * y + 2) = 0) || pIS (fA S) au (nI 0) y) (q := fun y => decide (fA (zSL S au b (mK S)).1 (6 * y + 2) = 0)) (r := pIS (fA S) au (nI 0)) (n := mK S) (fun _ _ => rfl) (fun y hy q r => by
    have := c4 y hy
    unfold pIS at this r
    rw [(c3 y hy).1] at this
    have q0 := of_decide_eq_true q
    rw [q0, ← nI_0, decide_eq_true rfl, Bool.true_and] at this
    rw [Bool.and_eq_true] at r
    rw [r.2] at this
    cases this)
  have l := zc_inj id (P := fun y => decide (fA (zSL S au b (mK S)).1 (6 * y + 2) = 0) || pIS (fA S) au (nI 0) y) (Q := fun y => decide (fA S (6 * y + 2) = 0)) (M := mK S) (U := mK S) (fun y hy q => ⟨hy, by
    rw [Bool.or_eq_true] at q
    rcases q with q | q
    · exact decide_eq_true ((c3 y hy).2 (of_decide_eq_true q))
    · unfold pIS at q
      rw [Bool.and_eq_true, nI_0] at q
      exact q.1⟩) (fun y z _ _ _ _ e => e)
  omega
