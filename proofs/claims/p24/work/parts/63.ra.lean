/-! setting, on both sides -/
theorem mS_lt0 {s : zMs} {S : zSt} {B p : Nat} (h : RR S s B) : mS (nS s) 0 p < 12 := okM_r h.1.2.1 p
theorem mS_lt1 {s : zMs} {S : zSt} {B p : Nat} (h : RR S s B) : mS (nS s) 1 p < 8 := okM_c h.1.2.1 p
theorem RB_pb {S : zSt} {s : zMs} {B i j : Nat} {v : Int32} (h : RR S s B) (hi : i < rU S) (hj : j < cU S) : ∀ p q, p < rU S → q < cU S → zBa (zPb (bS S) (rO S i) (cO S j) v) (rO S p) (cO S q) = mB (upd (nB s) (8 * mS (nS s) 0 i + mS (nS s) 1 j) v) (nS s) p q := by
  intro p q hp hq
  have h12 := h.1.1.1.1
  have h8 := h.1.1.1.2.1
  obtain ⟨⟨hO1, hO1i⟩, ⟨hO2, hO2i⟩⟩ := h.2.2.2.2.1
  have hU : nU s 0 = rU S := h.2.1.1
  have hU2 : nU s 1 = cU S := h.2.1.2.1
  have hB := h.2.2.2.2.2.1 p q hp hq
  obtain ⟨a, ha, ea⟩ := hO1 i (by omega)
  obtain ⟨b, hb, eb⟩ := hO2 j (by omega)
  obtain ⟨c, hc, ec⟩ := hO1 p (by omega)
  obtain ⟨d, hd, ed⟩ := hO2 q (by omega)
  have m1 := mS_lt0 h (p := i)
  have m2 := mS_lt1 h (p := j)
  have m3 := mS_lt0 h (p := p)
  have m4 := mS_lt1 h (p := q)
  rw [ec, ed, zBa_in hc hd] at hB
  rw [ea, eb, ec, ed, zPb_in ha hb, zBa_in hc hd]
  unfold mB at hB ⊢
  by_cases e : p = i ∧ q = j
  · obtain ⟨e1, e2⟩ := e
    subst e1; subst e2
    have x1 : c = a := (nI_eq (by omega) (by omega)).mp (ec.symm.trans ea)
    have x2 : d = b := (nI_eq (by omega) (by omega)).mp (ed.symm.trans eb)
    rw [x1, x2, upd_eq, upd_eq]
  · have n1 : ¬ 8 * c + d = 8 * a + b := by
      intro z
      apply e
      have z1 : c = a := by omega
      have z2 : d = b := by omega
      exact ⟨hO1i p i (by omega) (by omega) (by rw [ec, ea, z1]), hO2i q j (by omega) (by omega) (by rw [ed, eb, z2])⟩
    have n2 : ¬ 8 * mS (nS s) 0 p + mS (nS s) 1 q = 8 * mS (nS s) 0 i + mS (nS s) 1 j := by
      intro z
      apply e
      exact ⟨h.1.2.2.2.1 p i (by omega) (by omega) (by omega), h.1.2.2.2.2 q j (by omega) (by omega) (by omega)⟩
    rw [upd_ne n1, upd_ne n2]
    exact hB
theorem RR_Bs {S : zSt} {s : zMs} {B i j : Nat} {v : Int32} (h : RR S s B) (hi : i < rU S) (hj : j < cU S) : RR (zBs S (zPb (bS S) (rO S i) (cO S j) v)) (mBs s i j v) B := RR_bs h (RB_pb h hi hj)
theorem RR_NewSt {S : zSt} {s : zMs} {B i j : Nat} {au v : Int32} (h : RR S s B) (hi : i < rU S) (hj : j < cU S) (hm : mK S < 60) : RR (zNew S (nI 4) au (rO S i) (cO S j) v) (mNew s (nI 4) au (mN (nS s) (nN s) 0 i) (mN (nS s) (nN s) 1 j) v) B := by
  have h12 := h.1.1.1.1
  have h8 := h.1.1.1.2.1
  have hU : nU s 0 = rU S := h.2.1.1
  have hU2 : nU s 1 = cU S := h.2.1.2.1
  have hN := h.2.2.2.2.2.2.1
  have key := inj_iff (f := rO S) (m := mN (nS s) (nN s) 0) (u := rU S) (j := i) hi rfl rfl (fun a b ha hb => h.2.2.2.2.1.1.2 a b (by omega) (by omega)) (fun a b ha hb => h.1.2.2.1.1 a b (by rw [hU]; exact ha) (by rw [hU]; exact hb))
  have key2 := inj_iff (f := cO S) (m := mN (nS s) (nN s) 1) (u := cU S) (j := j) hj rfl rfl (fun a b ha hb => h.2.2.2.2.1.2.2 a b (by omega) (by omega)) (fun a b ha hb => h.1.2.2.1.2 a b (by rw [hU2]; exact ha) (by rw [hU2]; exact hb))
  have ex : ∃ p, p < rU S ∧ rO S i = rO S p := ⟨i, hi, rfl⟩
  have ex2 : ∃ p, p < cU S ∧ cO S j = cO S p := ⟨j, hj, rfl⟩
  exact RR_New h hm (Or.inr (Or.inr (Or.inr (Or.inr rfl)))) ⟨key, Or.inr ex⟩ ⟨key2, Or.inr ex2⟩ ⟨fun _ => rfl, fun e => absurd rfl e⟩ ⟨Or.inr (hN.2.1 i (by rw [hU]; exact hi)), Or.inr (hN.2.2.1 j (by rw [hU2]; exact hj))⟩ ⟨fun k => absurd k (by decide), fun k => absurd k (by decide), fun _ => ex, fun _ => ex2⟩ (fun y hy hz h3 h4 => ⟨fun _ => rfl, fun z => absurd z.1 (by decide), fun z => absurd z.1 (by decide)⟩)
theorem zMk_at2 {g : Nat → Int32} {p : Nat → Bool} {v : Int32} {k x : Nat} (hx : x < k) : zMk g p v k (6 * x + 2) = if p x = true then v else g (6 * x + 2) := by
  simp only [zMk]
  rw [show (6 * x + 2) % 6 = 2 by omega, show (6 * x + 2) / 6 = x by omega]
  by_cases h : p x = true
  · rw [if_pos ⟨rfl, hx, h⟩, if_pos h]
  · rw [if_neg (fun z => h z.2.2), if_neg h]
theorem zMk_oth {g : Nat → Int32} {p : Nat → Bool} {v : Int32} {k x w : Nat} (hw : w < 6) (h2 : w ≠ 2) : zMk g p v k (6 * x + w) = g (6 * x + w) := by
  simp only [zMk]
  rw [if_neg (fun z => by omega)]
theorem mMk_at {f : Nat → Int32} {p : Nat → Bool} {v : Int32} {k x : Nat} (hx : x < k) : mMk f p v k x = if p x = true then v else f x := by
  simp only [mMk]
  by_cases h : p x = true
  · rw [if_pos ⟨hx, h⟩, if_pos h]
  · rw [if_neg (fun z => h z.2), if_neg h]
/-- states alone change, none to pending -/
theorem RR_st {S : zSt} {s : zMs} {B : Nat} {g' Z' : Nat → Int32} (h : RR S s B) (h1 : ∀ x w, x < mK S → w < 6 → w ≠ 2 → g' (6 * x + w) = fA S (6 * x + w)) (h2 : ∀ x, x < mK S → Z' x = g' (6 * x + 2)) (h3 : ∀ x, x < mK S → g' (6 * x + 2) = 0 → fA S (6 * x + 2) = 0) : RR (zFa S g') (mwZ s Z') B :=
  RR_fa (V' := nV s) h (fun x hx => ⟨h1 x 0 hx (by decide) (by decide), h1 x 1 hx (by decide) (by decide), h1 x 3 hx (by decide) (by decide), h1 x 4 hx (by decide) (by decide)⟩) h2 h3 (fun x hx => by rw [h1 x 5 hx (by decide) (by decide)]; exact ⟨(h.2.2.1 x hx).2.2.2.1, (h.2.2.1 x hx).2.2.2.2.1⟩)
theorem RR_disC {S : zSt} {s : zMs} {B i j : Nat} (h : RR S s B) (hi : i < rU S) (hj : j < cU S) : RR (zFa S (zMk (fA S) (pS (fA S) (rO S i) (cO S j)) (nI 3) (mK S))) (mwZ s (mMk (nZ s) (mSt (nZ s) (nK s) (nR s) (nC s) (mN (nS s) (nN s) 0 i) (mN (nS s) (nN s) 1 j)) (nI 3) (nM s))) B := by
  refine RR_st h (fun x w hx hw h2 => zMk_oth hw h2) (fun x hx => ?_) (fun x hx q => ?_)
  · rw [zMk_at2 hx, mMk_at (by rw [h.2.1.2.2.1]; exact hx), RR_S h hi hj hx, (h.2.2.1 x hx).2.2.1]
  · rw [zMk_at2 hx] at q
    split at q
    · exact absurd q zz3
    · exact q
theorem RR_Setij {S : zSt} {s : zMs} {B i j : Nat} {au v : Int32} (h : RR S s B) (hi : i < rU S) (hj : j < cU S) : (zSetij S au i j v).1 = (mSetij s au i j v).1 ∧ RR (zSetij S au i j v).2 (mSetij s au i j v).2 B := by
  have e2 := h.2.1.2.2.1
  have e3 := h.2.1.2.2.2
  have h60 := h.1.1.1.2.2
  have eD0 : mDm (nZ s) (nK s) (nR s) (nC s) (nS s) (nN s) (nM s) 0 i = !decide (zf (pLn (fA S) (nI 1) 3 (rO S i)) (mK S) < 0) := congrArg (fun z => !decide (z < 0)) (RR_rRm h hi).symm
  have eD1 : mDm (nZ s) (nK s) (nR s) (nC s) (nS s) (nN s) (nM s) 1 j = !decide (zf (pLn (fA S) (nI 3) 4 (cO S j)) (mK S) < 0) := congrArg (fun z => !decide (z < 0)) (RR_cRm h hj).symm
  have eV : ∀ n, n ≤ mK S → mVB (nZ s) (nK s) (nR s) (nC s) (nB s) (nS s) (nV s) n (mN (nS s) (nN s) 0 i) (mN (nS s) (nN s) 1 j) i j = zVU (bS S) (fA S) (mK S) n (rO S i) (cO S j) := by
    intro n hn
    rw [RR_VU h hi hj, show min n (mK S) = n by omega]
  have e60 : zVU (bS S) (fA S) (mK S) 60 (rO S i) (cO S j) = zVU (bS S) (fA S) (mK S) (mK S) (rO S i) (cO S j) := by
    unfold zVU
    rw [show min 60 (mK S) = mK S by omega, show min (mK S) (mK S) = mK S by omega]
  have eG : zgo (mSt (nZ s) (nK s) (nR s) (nC s) (mN (nS s) (nN s) 0 i) (mN (nS s) (nN s) 1 j)) (nM s) = zgo (pS (fA S) (rO S i) (cO S j)) (min 60 (mK S)) := by
    rw [e2, show min 60 (mK S) = mK S by omega]
    exact zgo_cg (fun x hx => (RR_S h hi hj hx).symm)
  have sN : (zSetN S au i j v).1 = (mSetN s au i j v).1 ∧ RR (zSetN S au i j v).2 (mSetN s au i j v).2 B := by
    unfold zSetN mSetN
    rw [e2]
    by_cases c5 : 60 ≤ mK S
    · rw [if_pos c5, if_pos c5]; exact ⟨rfl, h⟩
    · rw [if_neg c5, if_neg c5]; exact ⟨rfl, RR_NewSt h hi hj (by omega)⟩
  unfold zSetij mSetij
  rw [eD0, eD1, e3, e60, eG]
  by_cases c1 : v < 0 ∨ nI 9999 < v
  · rw [if_pos c1, if_pos c1]; exact ⟨rfl, h⟩
  · rw [if_neg c1, if_neg c1]
    have ec : ((!decide (zf (pLn (fA S) (nI 1) 3 (rO S i)) (mK S) < 0)) = true ∨ (!decide (zf (pLn (fA S) (nI 3) 4 (cO S j)) (mK S) < 0)) = true ∨ mVB (nZ s) (nK s) (nR s) (nC s) (nB s) (nS s) (nV s) (nM s) (mN (nS s) (nN s) 0 i) (mN (nS s) (nN s) 1 j) i j = v) ↔ (¬ zf (pLn (fA S) (nI 1) 3 (rO S i)) (mK S) < 0 ∨ ¬ zf (pLn (fA S) (nI 3) 4 (cO S j)) (mK S) < 0 ∨ zVU (bS S) (fA S) (mK S) (mK S) (rO S i) (cO S j) = v) := by
      rw [eV (nM s) (by omega), e2]
      simp
    by_cases c2 : (¬ zf (pLn (fA S) (nI 1) 3 (rO S i)) (mK S) < 0 ∨ ¬ zf (pLn (fA S) (nI 3) 4 (cO S j)) (mK S) < 0 ∨ zVU (bS S) (fA S) (mK S) (mK S) (rO S i) (cO S j) = v)
    · rw [if_pos c2, if_pos (ec.mpr c2)]; exact ⟨rfl, h⟩
    · rw [if_neg c2, if_neg (fun z => c2 (ec.mp z))]
      by_cases c3 : tK S = false
      · rw [if_pos c3, if_pos c3]
        refine ⟨rfl, ?_⟩
        exact RR_Bs (RR_disC h hi hj) hi hj
      · rw [if_neg c3, if_neg c3]
        cases hz : zgo (pS (fA S) (rO S i) (cO S j)) (min 60 (mK S)) with
        | none => exact sN
        | some k =>
          have hk : k < mK S := by have := zgo_lt hz; omega
          have hp : pS (fA S) (rO S i) (cO S j) k = true := zgo_p hz
          simp only [pS, Bool.and_eq_true, decide_eq_true_eq] at hp
          obtain ⟨k1, k2, k3, k4, k5, k6⟩ := h.2.2.1 k hk
          simp only [k2]
          by_cases c4 : fA S (6 * k + 1) = au
          · rw [if_pos c4, if_pos c4, eV k (by omega)]
            by_cases c5 : zVU (bS S) (fA S) (mK S) k (rO S i) (cO S j) = v
            · rw [if_pos c5, if_pos c5]
              refine ⟨rfl, RR_fa h (fun x hx => ?_) (fun x hx => ?_) (fun x hx q => ?_) (fun x hx => ?_)⟩
              · rw [upd_ne (by omega), upd_ne (by omega), upd_ne (by omega), upd_ne (by omega), upd_ne (by omega), upd_ne (by omega), upd_ne (by omega), upd_ne (by omega)]
                exact ⟨rfl, rfl, rfl, rfl⟩
              · rw [upd_ne (f := upd (fA S) (6 * k + 2) (nI 3)) (by omega)]
                by_cases e : x = k
                · subst e; rw [upd_eq, upd_eq]
                · rw [upd_ne e, upd_ne (by omega)]; exact (h.2.2.1 x hx).2.2.1
              · rw [upd_ne (by omega)] at q
                by_cases e : x = k
                · subst e; rw [upd_eq] at q; exact absurd q zz3
                · rw [upd_ne (by omega)] at q; exact q
              · by_cases e : x = k
                · subst e; rw [upd_eq, upd_eq]; exact ⟨fun _ => rfl, fun z => absurd hp.2.1 z⟩
                · rw [upd_ne e, upd_ne (by omega), upd_ne (by omega)]; exact ⟨(h.2.2.1 x hx).2.2.2.1, (h.2.2.1 x hx).2.2.2.2.1⟩
            · rw [if_neg c5, if_neg c5]
              refine ⟨rfl, RR_fa h (fun x hx => ?_) (fun x hx => ?_) (fun x hx q => ?_) (fun x hx => ?_)⟩
              · rw [upd_ne (by omega), upd_ne (by omega), upd_ne (by omega), upd_ne (by omega)]
                exact ⟨rfl, rfl, rfl, rfl⟩
              · rw [upd_ne (f := fA S) (by omega)]
                by_cases e : x = k
                · subst e; rw [upd_eq, hp.1]; exact nI_0
                · rw [upd_ne e]; exact (h.2.2.1 x hx).2.2.1
              · rw [upd_ne (by omega)] at q; exact q
              · by_cases e : x = k
                · subst e; rw [upd_eq, upd_eq]; exact ⟨fun _ => rfl, fun z => absurd hp.2.1 z⟩
                · rw [upd_ne e, upd_ne (by omega)]; exact ⟨(h.2.2.1 x hx).2.2.2.1, (h.2.2.1 x hx).2.2.2.2.1⟩
          · rw [if_neg c4, if_neg c4]; exact sN
theorem RR_Set {S : zSt} {s : zMs} {B : Nat} {au r c v : Int32} (h : RR S s B) : (zSet S au r c v).1 = (mSet s au r c v).1 ∧ RR (zSet S au r c v).2 (mSet s au r c v).2 B := by
  have e0 := h.2.1.1
  have e1 := h.2.1.2.1
  have h8 := h.1.1.1
  unfold zSet mSet
  rw [e0, e1]
  split
  · exact ⟨rfl, h⟩
  · split
    · exact ⟨rfl, h⟩
    · rename_i c1
      obtain ⟨i, hi, ei⟩ := z_nat (n := rU S) (by have := h8.1; omega) (fun q => c1 (Or.inl q)) (fun q => c1 (Or.inr q))
      split
      · exact ⟨rfl, h⟩
      · rename_i c2
        obtain ⟨j, hj, ej⟩ := z_nat (n := cU S) (by have := h8.2.1; omega) (fun q => c2 (Or.inl q)) (fun q => c2 (Or.inr q))
        rw [ei, ej, nI_clamp (by have := h8.1; omega), nI_clamp (by have := h8.2.1; omega)]
        exact RR_Setij h hi hj
