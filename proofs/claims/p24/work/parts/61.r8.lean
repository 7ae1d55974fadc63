/-! inserting, on both sides -/
theorem RR_mono {S : zSt} {s : zMs} {B B' : Nat} (h : RR S s B) (hb : B ≤ B') : RR S s B' :=
  ⟨h.1, h.2.1, h.2.2.1, h.2.2.2.1, h.2.2.2.2.1, h.2.2.2.2.2.1, ⟨Nat.le_trans h.2.2.2.2.2.2.1.1 hb, h.2.2.2.2.2.2.1.2⟩, h.2.2.2.2.2.2.2.1, h.2.2.2.2.2.2.2.2⟩
theorem inj_iff {f m : Nat → Int32} {u j : Nat} {r n : Int32} (hj : j < u) (e1 : f j = r) (e2 : m j = n) (h1 : ∀ i k, i < u → k < u → f i = f k → i = k) (h2 : ∀ i k, i < u → k < u → m i = m k → i = k) : ∀ p, p < u → (r = f p ↔ n = m p) := by
  intro p hp
  constructor
  · intro q
    rw [← h1 j p hj hp (e1.trans q), e2]
  · intro q
    rw [← h2 j p hj hp (e2.trans q), e1]
theorem RR_NewInR {S : zSt} {s : zMs} {B j : Nat} {au : Int32} (h : RR S s B) (hB31 : B < 2147483640) (hj : j ≤ rU S) (hu : rU S < 12) (hm : mK S < 60) : RR (zNew (zInR S j) (nI 0) au (rO S (rU S)) (-5) (-5)) (mNew (mPut s 0 j) (nI 0) au (nI (nX s)) (-5) (nI 0)) (B + 1) := by
  have h' := RR_InR h hB31 hj hu
  have hU : nU s 0 = rU S := h.2.1.1
  have a3 := h'.1.2.2.1
  have hOO := h'.2.2.2.2.1
  have jn : mN (nS (mPut s 0 j)) (nN (mPut s 0 j)) 0 j = nI (nX s) := by
    show mN (mPuS (nU s) (nS s) 0 j) (mPuN (nU s) (nS s) (nN s) (nX s) 0) 0 j = nI (nX s)
    unfold mN mPuN mS mPuS zUpN
    rw [if_pos rfl, upd_eq]
  have hu2 : nU (mPut s 0 j) 0 = rU S + 1 := by show zUpN (nU s) 0 (nU s 0 + 1) 0 = _; simp [zUpN, hU]
  have key := inj_iff (f := rO (zInR S j)) (m := mN (nS (mPut s 0 j)) (nN (mPut s 0 j)) 0) (u := rU S + 1) (j := j) (r := rO S (rU S)) (n := nI (nX s)) (by omega) (zOp_j _ _ _) jn (fun i k hi hk => hOO.1.2 i k (by omega) (by omega)) (fun i k hi hk => a3.1 i k (by rw [hu2]; exact hi) (by rw [hu2]; exact hk))
  have ex : ∃ p, p < rU S + 1 ∧ rO S (rU S) = rO (zInR S j) p := ⟨j, by omega, (zOp_j _ _ _).symm⟩
  have m5o : ∀ p, p < cU S → ((-5 : Int32) = cO (zInR S j) p ↔ (-5 : Int32) = mN (nS (mPut s 0 j)) (nN (mPut s 0 j)) 1 p) := by
    intro p hp
    obtain ⟨v, hv, ev⟩ := h'.2.2.2.2.2.2.1.2.2.1 p (by rw [show nU (mPut s 0 j) 1 = cU S from (by show zUpN (nU s) 0 (nU s 0 + 1) 1 = _; simp [zUpN]; exact h.2.1.2.1)]; exact hp)
    have hb := h'.2.2.2.2.2.2.1.1
    have h8 := h.1.1.1
    exact ⟨fun q => absurd q (RO_m5 hOO.2 (by decide) (by have := h8.1; have := h8.2.1; omega)), fun q => absurd (ev.symm.trans q.symm) (nI_m5n (by omega))⟩
  refine RR_New h' hm (Or.inl rfl) ⟨?_, ?_⟩ ⟨?_, ?_⟩ ⟨fun e => absurd e (by decide), fun _ => rfl⟩ ?_ ?_ ?_
  · exact key
  · exact Or.inr ex
  · exact m5o
  · exact Or.inl rfl
  · exact ⟨Or.inr ⟨nX s, Nat.lt_succ_self _, rfl⟩, Or.inl rfl⟩
  · exact ⟨fun k => absurd k (by decide), fun _ => ⟨rfl, rfl⟩, fun _ => ex, fun k => absurd k (by decide)⟩
  · intro y hy hz h3 h4
    exfalso
    have h3' : fA S (6 * y + 3) = rO S (rU S) := h3
    rcases (h.2.2.2.1.1 y hy).2 with q | ⟨p, hp, e⟩
    · exact RO_m5 h.2.2.2.2.1.1 (by decide) hu (q.symm.trans h3')
    · have := h.2.2.2.2.1.1.2 _ _ (by omega) hu (e.symm.trans h3'); omega
theorem RR_InsR {S : zSt} {s : zMs} {B : Nat} {au pl : Int32} (h : RR S s B) (hB31 : B < 2147483640) : (zInsR S au pl).1 = (mInsR s au pl).1 ∧ RR (zInsR S au pl).2 (mInsR s au pl).2 (B + 1) := by
  have e0 : nU s 0 = rU S := h.2.1.1
  have e2 := h.2.1.2.2.1
  have e3 := h.2.1.2.2.2
  have h8 := h.1.1.1
  unfold zInsR mInsR
  rw [e0, e2, e3]
  by_cases c1 : pl < 0 ∨ nI (rU S) < pl
  · rw [if_pos c1, if_pos c1]; exact ⟨rfl, RR_mono h (Nat.le_succ B)⟩
  · rw [if_neg c1, if_neg c1]
    obtain ⟨j, hj, ej⟩ := z_natle (by have := h8.1; have := h8.2.1; omega) c1
    by_cases c2 : 12 ≤ rU S ∨ (tK S = true ∧ 60 ≤ mK S)
    · rw [if_pos c2, if_pos c2]; exact ⟨rfl, RR_mono h (Nat.le_succ B)⟩
    · rw [if_neg c2, if_neg c2]
      have hu : rU S < 12 := Nat.not_le.mp (fun q => c2 (Or.inl q))
      have hjc : pl.toNatClampNeg = j := by rw [ej]; exact nI_clamp (by omega)
      rw [hjc]
      by_cases c3 : tK S = true
      · rw [if_pos c3, if_pos c3]
        exact ⟨rfl, RR_NewInR h hB31 hj hu (Nat.not_le.mp (fun q => c2 (Or.inr ⟨c3, q⟩)))⟩
      · rw [if_neg c3, if_neg c3]
        exact ⟨rfl, RR_InR h hB31 hj hu⟩
theorem RR_NewInC {S : zSt} {s : zMs} {B j : Nat} {au : Int32} (h : RR S s B) (hB31 : B < 2147483640) (hj : j ≤ cU S) (hu : cU S < 8) (hm : mK S < 60) : RR (zNew (zInC S j) (nI 2) au (-5) (cO S (cU S)) (-5)) (mNew (mPut s 1 j) (nI 2) au (-5) (nI (nX s)) (nI 0)) (B + 1) := by
  have h' := RR_InC h hB31 hj hu
  have hU : nU s 1 = cU S := h.2.1.2.1
  have a3 := h'.1.2.2.1
  have hOO := h'.2.2.2.2.1
  have jn : mN (nS (mPut s 1 j)) (nN (mPut s 1 j)) 1 j = nI (nX s) := by
    show mN (mPuS (nU s) (nS s) 1 j) (mPuN (nU s) (nS s) (nN s) (nX s) 1) 1 j = nI (nX s)
    unfold mN mPuN mS mPuS zUpN
    rw [if_pos rfl, upd_eq]
  have hu2 : nU (mPut s 1 j) 1 = cU S + 1 := by show zUpN (nU s) 1 (nU s 1 + 1) 1 = _; simp [zUpN, hU]
  have key := inj_iff (f := cO (zInC S j)) (m := mN (nS (mPut s 1 j)) (nN (mPut s 1 j)) 1) (u := cU S + 1) (j := j) (r := cO S (cU S)) (n := nI (nX s)) (by omega) (zOp_j _ _ _) jn (fun i k hi hk => hOO.2.2 i k (by omega) (by omega)) (fun i k hi hk => a3.2 i k (by rw [hu2]; exact hi) (by rw [hu2]; exact hk))
  have ex : ∃ p, p < cU S + 1 ∧ cO S (cU S) = cO (zInC S j) p := ⟨j, by omega, (zOp_j _ _ _).symm⟩
  have m5o : ∀ p, p < rU S → ((-5 : Int32) = rO (zInC S j) p ↔ (-5 : Int32) = mN (nS (mPut s 1 j)) (nN (mPut s 1 j)) 0 p) := by
    intro p hp
    obtain ⟨v, hv, ev⟩ := h'.2.2.2.2.2.2.1.2.1 p (by rw [show nU (mPut s 1 j) 0 = rU S from (by show zUpN (nU s) 1 (nU s 1 + 1) 0 = _; simp [zUpN]; exact h.2.1.1)]; exact hp)
    have hb := h'.2.2.2.2.2.2.1.1
    have h8 := h.1.1.1
    exact ⟨fun q => absurd q (RO_m5 hOO.1 (by decide) (by have := h8.1; have := h8.2.1; omega)), fun q => absurd (ev.symm.trans q.symm) (nI_m5n (by omega))⟩
  refine RR_New h' hm (Or.inr (Or.inr (Or.inl rfl))) ⟨?_, ?_⟩ ⟨?_, ?_⟩ ⟨fun e => absurd e (by decide), fun _ => rfl⟩ ?_ ?_ ?_
  · exact m5o
  · exact Or.inl rfl
  · exact key
  · exact Or.inr ex
  · exact ⟨Or.inl rfl, Or.inr ⟨nX s, Nat.lt_succ_self _, rfl⟩⟩
  · exact ⟨fun _ => ⟨rfl, rfl⟩, fun k => absurd k (by decide), fun k => absurd k (by decide), fun _ => ex⟩
  · intro y hy hz h3 h4
    exfalso
    have h3' : fA S (6 * y + 4) = cO S (cU S) := h4
    rcases (h.2.2.2.1.2 y hy).2 with q | ⟨p, hp, e⟩
    · exact RO_m5 h.2.2.2.2.1.2 (by decide) hu (q.symm.trans h3')
    · have := h.2.2.2.2.1.2.2 _ _ (by omega) hu (e.symm.trans h3'); omega
theorem RR_InsC {S : zSt} {s : zMs} {B : Nat} {au pl : Int32} (h : RR S s B) (hB31 : B < 2147483640) : (zInsC S au pl).1 = (mInsC s au pl).1 ∧ RR (zInsC S au pl).2 (mInsC s au pl).2 (B + 1) := by
  have e0 : nU s 1 = cU S := h.2.1.2.1
  have e2 := h.2.1.2.2.1
  have e3 := h.2.1.2.2.2
  have h8 := h.1.1.1
  unfold zInsC mInsC
  rw [e0, e2, e3]
  by_cases c1 : pl < 0 ∨ nI (cU S) < pl
  · rw [if_pos c1, if_pos c1]; exact ⟨rfl, RR_mono h (Nat.le_succ B)⟩
  · rw [if_neg c1, if_neg c1]
    obtain ⟨j, hj, ej⟩ := z_natle (by have := h8.1; have := h8.2.1; omega) c1
    by_cases c2 : 8 ≤ cU S ∨ (tK S = true ∧ 60 ≤ mK S)
    · rw [if_pos c2, if_pos c2]; exact ⟨rfl, RR_mono h (Nat.le_succ B)⟩
    · rw [if_neg c2, if_neg c2]
      have hu : cU S < 8 := Nat.not_le.mp (fun q => c2 (Or.inl q))
      have hjc : pl.toNatClampNeg = j := by rw [ej]; exact nI_clamp (by omega)
      rw [hjc]
      by_cases c3 : tK S = true
      · rw [if_pos c3, if_pos c3]
        exact ⟨rfl, RR_NewInC h hB31 hj hu (Nat.not_le.mp (fun q => c2 (Or.inr ⟨c3, q⟩)))⟩
      · rw [if_neg c3, if_neg c3]
        exact ⟨rfl, RR_InC h hB31 hj hu⟩
theorem RR_Ins {S : zSt} {s : zMs} {B : Nat} {au ax pl : Int32} (h : RR S s B) (hB31 : B < 2147483640) : (zIns S au ax pl).1 = (mIns s au ax pl).1 ∧ RR (zIns S au ax pl).2 (mIns s au ax pl).2 (B + 1) := by
  unfold zIns mIns
  split
  · exact ⟨rfl, RR_mono h (Nat.le_succ B)⟩
  · split
    · exact RR_InsR h hB31
    · split
      · exact RR_InsC h hB31
      · exact ⟨rfl, RR_mono h (Nat.le_succ B)⟩
