/-! what both tell: views, sums, values, what rests on what -/
def tVw (s : zMs) (v ax p : Nat) : Bool := mVw (nZ s) (nK s) (nR s) (nC s) (nS s) (nN s) (nM s) v ax p
def tVv (s : zMs) (v i j : Nat) : Int32 := mVv (nZ s) (nK s) (nR s) (nC s) (nS s) (nN s) (nM s) (nB s) (nV s) v i j
def trs (s : zMs) (x y : Nat) : Bool := mrs (nZ s) (nK s) (nR s) (nC s) x y
theorem zf_neg {p : Nat → Bool} {n : Nat} : decide (zf p n < 0) = !(!decide (zf p n < 0)) := by cases decide (zf p n < 0) <;> rfl
theorem RR_rSh {S : zSt} {s : zMs} {B : Nat} (h : RR S s B) {v p : Nat} (hv : v < 3) (hp : p < rU S) : rSh S (nI v) p = tVw s v 0 p := by
  have a := RR_rIn h hp
  have b := RR_rRm h hp
  unfold rIn tIn at a
  unfold rRm tRm at b
  rcases (show v = 0 ∨ v = 1 ∨ v = 2 by omega) with e | e | e
  · subst e; rfl
  · subst e
    show decide (zf (pLn (fA S) (nI 1) 3 (rO S p)) (mK S) < 0) = !(!decide (mRm (nZ s) (nK s) (nR s) (nC s) (nS s) (nN s) (nM s) 0 p < 0))
    rw [b, Bool.not_not]
  · subst e
    show decide (zf (pLn (fA S) (nI 0) 3 (rO S p)) (mK S) < 0) = !(!decide (mIn (nZ s) (nK s) (nR s) (nC s) (nS s) (nN s) (nM s) 0 p < 0))
    rw [a, Bool.not_not]
theorem RR_cSh {S : zSt} {s : zMs} {B : Nat} (h : RR S s B) {v p : Nat} (hv : v < 3) (hp : p < cU S) : cSh S (nI v) p = tVw s v 1 p := by
  have a := RR_cIn h hp
  have b := RR_cRm h hp
  unfold cIn tIn at a
  unfold cRm tRm at b
  rcases (show v = 0 ∨ v = 1 ∨ v = 2 by omega) with e | e | e
  · subst e; rfl
  · subst e
    show decide (zf (pLn (fA S) (nI 3) 4 (cO S p)) (mK S) < 0) = !(!decide (mRm (nZ s) (nK s) (nR s) (nC s) (nS s) (nN s) (nM s) 1 p < 0))
    rw [b, Bool.not_not]
  · subst e
    show decide (zf (pLn (fA S) (nI 2) 4 (cO S p)) (mK S) < 0) = !(!decide (mIn (nZ s) (nK s) (nR s) (nC s) (nS s) (nN s) (nM s) 1 p < 0))
    rw [a, Bool.not_not]
theorem RR_size0 {S : zSt} {s : zMs} {B : Nat} (h : RR S s B) {v : Nat} (hv : v < 3) : zc (rSh S (nI v)) (rU S) = zc (fun p => tVw s v 0 p) (nU s 0) := by
  rw [h.2.1.1]
  exact zc_cg (fun p hp => RR_rSh h hv hp)
theorem RR_size1 {S : zSt} {s : zMs} {B : Nat} (h : RR S s B) {v : Nat} (hv : v < 3) : zc (cSh S (nI v)) (cU S) = zc (fun p => tVw s v 1 p) (nU s 1) := by
  rw [h.2.1.2.1]
  exact zc_cg (fun p hp => RR_cSh h hv hp)
theorem RR_VV {S : zSt} {s : zMs} {B : Nat} (h : RR S s B) {v i j : Nat} (hv : v < 3) (hi : i < rU S) (hj : j < cU S) : zVV (bS S) (fA S) (mK S) (nI v) (rO S i) (cO S j) = tVv s v i j := by
  have hM := h.2.1.2.2.1
  have h60 := h.1.1.1.2.2
  have e := RR_VU h (n := 60) hi hj
  rw [show min 60 (mK S) = mK S by omega] at e
  unfold zVV tVv mVv
  rw [hM, ← e]
  by_cases q : v = 2
  · subst q
    rw [if_pos rfl, if_pos rfl]
    exact h.2.2.2.2.2.1 i j hi hj
  · rw [if_neg (fun z => q ((nI_eq (by omega) (by omega)).mp z)), if_neg q]
theorem zu_0 : ∀ n, zu (fun _ => 0) n = 0
  | 0 => rfl
  | n + 1 => by rw [zu, zu_0 n]; rfl
theorem RR_sum {S : zSt} {s : zMs} {B : Nat} (h : RR S s B) {v : Nat} (hv : v < 3) : zTot (bS S) (fA S) (mK S) (nI v) (rO S) (rU S) (cO S) (cU S) = zu (fun r => zu (fun c => if tVw s v 0 r && tVw s v 1 c then tVv s v r c else 0) (nU s 1)) (nU s 0) := by
  unfold zTot
  rw [h.2.1.1, h.2.1.2.1]
  refine zu_cg (fun i hi => ?_)
  have a : pSh (fA S) (mK S) (nI v) (nI 0) (nI 1) 3 (rO S i) = tVw s v 0 i := RR_rSh h hv hi
  rw [a]
  cases e : tVw s v 0 i with
  | false => rw [if_neg (by decide)]; exact (zu_0 _).symm
  | true =>
    rw [if_pos rfl]
    unfold zTR
    refine zu_cg (fun j hj => ?_)
    have b : pSh (fA S) (mK S) (nI v) (nI 2) (nI 3) 4 (cO S j) = tVw s v 1 j := RR_cSh h hv hj
    rw [b, RR_VV h hv hi hj]
    simp
theorem dv1 : nI 1 / nI 2 = 0 := by decide
theorem dv2 : nI 2 / nI 2 = nI 1 := by decide
theorem dv3 : nI 3 / nI 2 = nI 1 := by decide
theorem dv4 : nI 4 / nI 2 = nI 2 := by decide
theorem dr2 : nI 2 - nI 1 * nI 2 = 0 := by decide
theorem dr3 : nI 3 - nI 1 * nI 2 = nI 1 := by decide
/-- rows and columns of two changes, one of them with its line there -/
theorem RX_eq {M u : Nat} {f g : Nat → Int32} {w : Nat} {nm mn : Nat → Int32} (h : RX M u f g w nm mn) {x y p : Nat} (hx : x < M) (hy : y < M) (hp : p < u) (e : g (6 * y + w) = f p) : (g (6 * x + w) = g (6 * y + w) ↔ nm x = nm y) := by
  have a := ((h y hy).1 p hp).mp e
  rw [e, a]
  exact (h x hx).1 p hp
theorem RR_rs {S : zSt} {s : zMs} {B : Nat} (h : RR S s B) {x y : Nat} (hx : x < mK S) (hy : y < mK S) : zrs (fA S) x y = trs s x y := by
  obtain ⟨-, -, hK, ⟨hX, hY⟩, -, -, -, hP, -⟩ := h
  obtain ⟨x1, -, x3, -, -, x6⟩ := hK x hx
  obtain ⟨y1, -, y3, -, -, y6⟩ := hK y hy
  obtain ⟨-, -, hp⟩ := hP y hy
  by_cases exy : x = y
  · subst exy
    rw [zrs_self]
    exact (mrs_self x).symm
  by_cases px : fA S (6 * x + 2) = 0
  · by_cases py : fA S (6 * y + 2) = 0
    · have hp := hp py
      unfold zrs trs mrs mAt mSt
      rw [x3, y3, x1, y1]
      rcases y6 with e | e | e | e | e
      · obtain ⟨p, hpu, ep⟩ := hp.1 (Or.inl e)
        have q := RX_eq hX hx hy hpu ep
        rcases x6 with f | f | f | f | f <;> simp [e, f, px, py, exy, nI_eq, zz_0, zz_0s, nI_0, dv1, dv2, dv3, dv4, dr2, dr3, q] <;> (try (first | decide | (intro _; decide)))
      · rcases x6 with f | f | f | f | f <;> simp [e, f, px, py, exy, nI_eq, zz_0, zz_0s, nI_0, dv1, dv2, dv3, dv4, dr2, dr3] <;> (try (first | decide | (intro _; decide)))
      · obtain ⟨p, hpu, ep⟩ := hp.2 (Or.inl e)
        have q := RX_eq hY hx hy hpu ep
        rcases x6 with f | f | f | f | f <;> simp [e, f, px, py, exy, nI_eq, zz_0, zz_0s, nI_0, dv1, dv2, dv3, dv4, dr2, dr3, q] <;> (try (first | decide | (intro _; decide)))
      · rcases x6 with f | f | f | f | f <;> simp [e, f, px, py, exy, nI_eq, zz_0, zz_0s, nI_0, dv1, dv2, dv3, dv4, dr2, dr3] <;> (try (first | decide | (intro _; decide)))
      · obtain ⟨p, hpu, ep⟩ := hp.1 (Or.inr (Or.inr e))
        have q := RX_eq hX hx hy hpu ep
        obtain ⟨p2, hpu2, ep2⟩ := hp.2 (Or.inr (Or.inr e))
        have q2 := RX_eq hY hx hy hpu2 ep2
        rcases x6 with f | f | f | f | f <;> simp [e, f, px, py, exy, nI_eq, zz_0, zz_0s, nI_0, dv1, dv2, dv3, dv4, dr2, dr3, q, q2, eq_comm (a := nR s y) (b := nR s x), eq_comm (a := nC s y) (b := nC s x)] <;> (try (cases decide (y < x) <;> simp))
    · unfold zrs trs mrs
      rw [if_pos (Or.inr (Or.inr (by rw [y3]; exact py))), decide_eq_false py]
      simp
  · unfold zrs trs mrs
    rw [if_pos (Or.inr (Or.inl (by rw [x3]; exact px))), decide_eq_false px]
    simp
