/-! lines, settings, changes, authors, states -/
def tPi (s : zMs) (v ax p : Nat) : Int32 := mPi (nZ s) (nK s) (nR s) (nC s) (nS s) (nN s) (nM s) v ax p
theorem RR_piR {S : zSt} {s : zMs} {B : Nat} (h : RR S s B) {v j : Nat} (hv : v < 3) (hj : j < rU S) : zpv (rO S) (rSh S (nI v)) (rU S) (rO S j) = tPi s v 0 j := by
  have hO := RO_inj h.2.2.2.2.1.1 h.1.1.1.1
  rw [zpv_at (k := j) (by simp [pE]) (fun i hi => by simp only [pE, decide_eq_false_iff_not]; exact fun e => absurd (hO i j (by omega) hj e) (by omega)) hj]
  show _ = if tVw s v 0 j = true then nI (zc (fun q => tVw s v 0 q) j) else -5
  rw [RR_rSh h hv hj, zc_cg (fun i hi => RR_rSh h hv (p := i) (by omega))]
theorem RR_piC {S : zSt} {s : zMs} {B : Nat} (h : RR S s B) {v j : Nat} (hv : v < 3) (hj : j < cU S) : zpv (cO S) (cSh S (nI v)) (cU S) (cO S j) = tPi s v 1 j := by
  have hO := RO_inj h.2.2.2.2.1.2 h.1.1.1.2.1
  rw [zpv_at (k := j) (by simp [pE]) (fun i hi => by simp only [pE, decide_eq_false_iff_not]; exact fun e => absurd (hO i j (by omega) hj e) (by omega)) hj]
  show _ = if tVw s v 1 j = true then nI (zc (fun q => tVw s v 1 q) j) else -5
  rw [RR_cSh h hv hj, zc_cg (fun i hi => RR_cSh h hv (p := i) (by omega))]
theorem RR_slR {S : zSt} {s : zMs} {B : Nat} (h : RR S s B) {j : Nat} (hj : j < rU S) : zc (pSL (fA S) 3 (rO S j)) (mK S) = zc (fun x => decide (nZ s x = 0) && (decide (nK s x = nI 4) && mAt (nK s) (nR s) (nC s) x (nI 0) (mN (nS s) (nN s) 0 j))) (nM s) := by
  rw [h.2.1.2.2.1]
  refine zc_cg (fun x hx => ?_)
  obtain ⟨k1, -, k3, -⟩ := h.2.2.1 x hx
  unfold pSL mAt
  rw [k1, k3, dec_iff ((h.2.2.2.1.1 x hx).1 j hj), if_pos nI_0]
  cases e : decide (fA S (6 * x) = nI 4) <;> cases decide (fA S (6 * x + 2) = 0) <;> simp
theorem RR_slC {S : zSt} {s : zMs} {B : Nat} (h : RR S s B) {j : Nat} (hj : j < cU S) : zc (pSL (fA S) 4 (cO S j)) (mK S) = zc (fun x => decide (nZ s x = 0) && (decide (nK s x = nI 4) && mAt (nK s) (nR s) (nC s) x (nI 1) (mN (nS s) (nN s) 1 j))) (nM s) := by
  rw [h.2.1.2.2.1]
  refine zc_cg (fun x hx => ?_)
  obtain ⟨k1, -, k3, -⟩ := h.2.2.1 x hx
  unfold pSL mAt
  rw [k1, k3, dec_iff ((h.2.2.2.1.2 x hx).1 j hj), if_neg (show ¬ nI 1 = 0 by decide)]
  cases e : decide (fA S (6 * x) = nI 4) <;> cases decide (fA S (6 * x + 2) = 0) <;> simp
theorem pK_cg {p q : Nat → Bool} {x : Int32} {n : Nat} (h : ∀ j, j < n → p j = q j) : ∀ j, j < n → pK p x j = pK q x j := by
  intro j hj
  unfold pK
  rw [h j hj, zc_cg (fun i hi => h i (by omega))]
theorem RR_set {S : zSt} {s : zMs} {B : Nat} (h : RR S s B) {i j : Nat} {x : Int32} (hi : i < rU S) (hj : j < cU S) : zf (pK (pS (fA S) (rO S i) (cO S j)) x) (mK S) = zf (pK (mSt (nZ s) (nK s) (nR s) (nC s) (mN (nS s) (nN s) 0 i) (mN (nS s) (nN s) 1 j)) x) (nM s) := by
  rw [h.2.1.2.2.1]
  exact zf_cg (pK_cg (fun k hk => RR_S h hi hj hk))
theorem RR_sup {S : zSt} {s : zMs} {B : Nat} (h : RR S s B) {x : Nat} (hx : x < mK S) : zc (fun y => zrs (fA S) x y) (mK S) = zc (fun y => trs s x y) (nM s) := by
  rw [h.2.1.2.2.1]
  exact zc_cg (fun y hy => RR_rs h hx hy)
theorem RR_dep {S : zSt} {s : zMs} {B : Nat} (h : RR S s B) {x : Nat} (hx : x < mK S) : zc (fun y => zrs (fA S) y x) (mK S) = zc (fun y => trs s y x) (nM s) := by
  rw [h.2.1.2.2.1]
  exact zc_cg (fun y hy => RR_rs h hy hx)
theorem nI_nn {v : Nat} (h : v < 2147483648) {x : Int32} (e : x = nI v) : ¬ x < 0 := by subst e; exact nI_pos h
theorem RR_plR {S : zSt} {s : zMs} {B : Nat} (h : RR S s B) (hB : B < 2147483648) {x : Nat} (hx : x < mK S) : zf (pE (rO S) (fA S (6 * x + 3))) (rU S) = mPlR (nR s) (nS s) (nN s) (nU s) x := by
  have hN := h.2.2.2.2.2.2.1
  have e : zf (pE (rO S) (fA S (6 * x + 3))) (rU S) = mPl (nS s) (nN s) (nU s) 0 (nR s x) := by
    unfold mPl
    rw [h.2.1.1]
    refine zf_cg (fun p hp => ?_)
    exact dec_iff ⟨fun q => (((h.2.2.2.1.1 x hx).1 p hp).mp q.symm).symm, fun q => (((h.2.2.2.1.1 x hx).1 p hp).mpr q.symm).symm⟩
  unfold mPlR
  by_cases q : nR s x < 0
  · rw [if_pos q, e]
    refine zf_no (fun p hp => decide_eq_false (fun z => ?_))
    obtain ⟨v, hv, ev⟩ := hN.2.1 p hp
    rw [← z, ev] at q
    exact nI_pos (by have := hN.1; omega) q
  · rw [if_neg q, e]
theorem RR_plC {S : zSt} {s : zMs} {B : Nat} (h : RR S s B) (hB : B < 2147483648) {x : Nat} (hx : x < mK S) : zf (pE (cO S) (fA S (6 * x + 4))) (cU S) = mPlC (nC s) (nS s) (nN s) (nU s) x := by
  have hN := h.2.2.2.2.2.2.1
  have e : zf (pE (cO S) (fA S (6 * x + 4))) (cU S) = mPl (nS s) (nN s) (nU s) 1 (nC s x) := by
    unfold mPl
    rw [h.2.1.2.1]
    refine zf_cg (fun p hp => ?_)
    exact dec_iff ⟨fun q => (((h.2.2.2.1.2 x hx).1 p hp).mp q.symm).symm, fun q => (((h.2.2.2.1.2 x hx).1 p hp).mpr q.symm).symm⟩
  unfold mPlC
  by_cases q : nC s x < 0
  · rw [if_pos q, e]
    refine zf_no (fun p hp => decide_eq_false (fun z => ?_))
    obtain ⟨v, hv, ev⟩ := hN.2.2.1 p hp
    rw [← z, ev] at q
    exact nI_pos (by have := hN.1; omega) q
  · rw [if_neg q, e]
/-- where the lines of a change are, on both sides -/
theorem RR_mpR {S : zSt} {s : zMs} {B : Nat} (h : RR S s B) {x p : Nat} (hx : x < mK S) (hp : p < rU S) (e : fA S (6 * x + 3) = rO S p) : mpx (nS s) (nN s) (nU s) 0 (nR s x) = p := by
  have a := ((h.2.2.2.1.1 x hx).1 p hp).mp e
  have hp2 : p < nU s 0 := by rw [h.2.1.1]; exact hp
  rw [a]
  exact mpx_at (by rw [h.2.1.1]; exact h.1.1.1.1) (mPl_0 h.1.2.2.1 h.1.2.1 hp2) hp2
theorem RR_mpC {S : zSt} {s : zMs} {B : Nat} (h : RR S s B) {x p : Nat} (hx : x < mK S) (hp : p < cU S) (e : fA S (6 * x + 4) = cO S p) : mpx (nS s) (nN s) (nU s) 1 (nC s x) = p := by
  have a := ((h.2.2.2.1.2 x hx).1 p hp).mp e
  have hp2 : p < nU s 1 := by rw [h.2.1.2.1]; exact hp
  have h8 := h.1.1.1.2.1
  rw [a]
  exact mpx_at (by rw [h.2.1.2.1]; omega) (mPl_1 h.1.2.2.1 h.1.2.1 hp2) hp2
theorem RR_VB {S : zSt} {s : zMs} {B : Nat} (h : RR S s B) {x : Nat} (hx : x < mK S) : zVB (bS S) (fA S) (mK S) x = if nK s x = nI 4 ∧ nZ s x = 0 then mVB (nZ s) (nK s) (nR s) (nC s) (nB s) (nS s) (nV s) x (nR s x) (nC s x) (mpx (nS s) (nN s) (nU s) 0 (nR s x)) (mpx (nS s) (nN s) (nU s) 1 (nC s x)) else -5 := by
  obtain ⟨k1, -, k3, -⟩ := h.2.2.1 x hx
  unfold zVB
  rw [k1, k3]
  by_cases q : fA S (6 * x) = nI 4 ∧ fA S (6 * x + 2) = 0
  · rw [if_pos q, if_pos q]
    obtain ⟨-, -, hp⟩ := h.2.2.2.2.2.2.2.1 x hx
    obtain ⟨i, hi, ei⟩ := (hp q.2).1 (Or.inr (Or.inr q.1))
    obtain ⟨j, hj, ej⟩ := (hp q.2).2 (Or.inr (Or.inr q.1))
    rw [RR_mpR h hx hi ei, RR_mpC h hx hj ej, ei, ej, RR_VU h hi hj, ((h.2.2.2.1.1 x hx).1 i hi).mp ei, ((h.2.2.2.1.2 x hx).1 j hj).mp ej, show min x (mK S) = x by omega]
  · rw [if_neg q, if_neg q]
theorem RR_val {S : zSt} {s : zMs} {B : Nat} (h : RR S s B) {x : Nat} (hx : x < mK S) : fA S (6 * x + 5) = if nK s x = nI 4 then nV s x else -5 := by
  obtain ⟨k1, -, -, k4, k5, -⟩ := h.2.2.1 x hx
  rw [k1]
  by_cases q : fA S (6 * x) = nI 4
  · rw [if_pos q]; exact (k4 q).symm
  · rw [if_neg q]; exact k5 q
theorem RR_isA {S : zSt} {s : zMs} {B : Nat} (h : RR S s B) {au : Nat} {st : Int32} (hau : au < 4) : zc (pIS (fA S) (nI au) st) (mK S) = zc (fun x => decide (nY s x = nI au) && decide (nZ s x = st)) (nM s) := by
  rw [h.2.1.2.2.1]
  refine zc_cg (fun x hx => ?_)
  obtain ⟨-, k2, k3, -⟩ := h.2.2.1 x hx
  unfold pIS
  rw [k2, k3, decide_eq_false (nI_m1 (by omega)), Bool.false_or, Bool.and_comm]
theorem RR_isS {S : zSt} {s : zMs} {B : Nat} (h : RR S s B) {st : Int32} : zc (pIS (fA S) (-1) st) (mK S) = zc (fun x => decide (nZ s x = st)) (nM s) := by
  rw [h.2.1.2.2.1]
  refine zc_cg (fun x hx => ?_)
  obtain ⟨-, -, k3, -⟩ := h.2.2.1 x hx
  unfold pIS
  rw [k3, decide_eq_true rfl, Bool.true_or, Bool.and_true]
theorem RR_sets {S : zSt} {s : zMs} {B : Nat} (h : RR S s B) : zc (pPO (fA S) (nI 4)) (mK S) = zc (fun x => decide (nZ s x = 0) && decide (nK s x = nI 4)) (nM s) := by
  rw [h.2.1.2.2.1]
  refine zc_cg (fun x hx => ?_)
  obtain ⟨k1, -, k3, -⟩ := h.2.2.1 x hx
  unfold pPO
  rw [k1, k3, Bool.and_comm]
