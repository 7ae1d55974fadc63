/-! each of the law's methods that act: over any good table it answers 1 and leaves a good table -/
def LGd (E : zE) (x0 h0 h1 w0 w1 : Nat) (t : Nat → Nat) (r : Nat → Nat → Nat) (y : MethodName) (wy : List Cond) (d : Nat) (As : List Value) (S : zSt) (o kp : Nat) (Q : Nat → zSt) (tx : Nat → Nat) (ln : Nat) (ps : zPs) (B : Nat) : Prop := ∃ (S' : zSt) (o' kp' : Nat) (Q' : Nat → zSt) (tx' : Nat → Nat) (ln' : Nat) (ps' : zPs), GG S' B ∧ o' < 5 ∧ kp' ≤ 4 ∧ ln' ≤ 60 ∧ (∀ j, tx' j < 65536) ∧ zM E y wy d As (WRd E x0 h0 h1 w0 w1 t r S o kp Q tx ln ps) (WRd E x0 h0 h1 w0 w1 t r S' o' kp' Q' tx' ln' ps') (some (.int (nI 1)))
theorem nbA {au : Nat} (hau : au < 4) : ¬ (nI au < 0 ∨ nI 4 ≤ nI au) := by
  rintro (q | q)
  · exact nI_pos (by omega) q
  · have := (nI_leI (by decide) (by omega)).mp q
    omega
theorem nbL {u P : Nat} (hu : u < 1000) (hP : P < u) : ¬ (nI P < 0 ∨ nI u ≤ nI P) := by
  rintro (q | q)
  · exact nI_pos (by omega) q
  · have := (nI_leI (by omega) (by omega)).mp q
    omega
section ACTS
variable (E : zE) (x0 h0 h1 w0 w1 : Nat) (t : Nat → Nat) (r : Nat → Nat → Nat) (S : zSt) (o kp : Nat) (Q : Nat → zSt) {B : Nat}
theorem a_ins {au ax pl v : Int32} {S1 : zSt} (h : GG S B) (ho : o < 5) (hk : kp ≤ 4) (e : zIns S au ax pl = (v, S1)) : zM E yX5_insert wsX5_insert 6 [.ref x0, .int au, .int ax, .int pl] (WAd E x0 h0 h1 w0 t r S o kp Q) (WAd E x0 h0 h1 w0 t r S1 (zHo v o kp) (zHk v kp) (zRp Q ((o + kp) % 5) S)) (some (.int v)) := by
  have m := mX5_insert E x0 h0 h1 w0 t r S o kp Q au ax pl (gg_S h).1 (gg_S h).2 ho hk
  rw [e] at m
  exact m
theorem a_rem {au ax pl v : Int32} {S1 : zSt} (h : GG S B) (ho : o < 5) (hk : kp ≤ 4) (e : zRem S au ax pl = (v, S1)) : zM E yX5_remove wsX5_remove 6 [.ref x0, .int au, .int ax, .int pl] (WAd E x0 h0 h1 w0 t r S o kp Q) (WAd E x0 h0 h1 w0 t r S1 (zHo v o kp) (zHk v kp) (zRp Q ((o + kp) % 5) S)) (some (.int v)) := by
  have m := mX5_remove E x0 h0 h1 w0 t r S o kp Q au ax pl (gg_S h).1 (gg_S h).2 ho hk
  rw [e] at m
  exact m
theorem a_set {au rr c vv v : Int32} {S1 : zSt} (h : GG S B) (ho : o < 5) (hk : kp ≤ 4) (e : zSet S au rr c vv = (v, S1)) : zM E yX5_set wsX5_set 6 [.ref x0, .int au, .int rr, .int c, .int vv] (WAd E x0 h0 h1 w0 t r S o kp Q) (WAd E x0 h0 h1 w0 t r S1 (zHo v o kp) (zHk v kp) (zRp Q ((o + kp) % 5) S)) (some (.int v)) := by
  have m := mX5_set E x0 h0 h1 w0 t r S o kp Q au rr c vv (gg_S h).1 (gg_S h).2 ho hk
  rw [e] at m
  exact m
theorem a_acc {x : Nat} (h : GG S B) (ho : o < 5) (hk : kp ≤ 4) (hx : x < mK S) (hp : fA S (6 * x + 2) = 0) : zM E yX5_accept wsX5_accept 7 [.ref x0, .int (nI x)] (WAd E x0 h0 h1 w0 t r S o kp Q) (WAd E x0 h0 h1 w0 t r (zAW S x) (zHo (nI (1 + zc (sup S x) (mK S))) o kp) (zHk (nI (1 + zc (sup S x) (mK S))) kp) (zRp Q ((o + kp) % 5) S)) (some (.int (nI (1 + zc (sup S x) (mK S))))) := by
  have m := mX5_accept E x0 h0 h1 w0 t r S o kp Q x (gg_S h).1 (gg_S h).2 ho hk hx hp
  rw [AWn_e hx] at m
  exact m
theorem RWn_e (S : zSt) (x : Nat) : zRWn S x = 1 + zc (dpt S x) (mK S) := by unfold zRWn; rw [Nat.add_comm]; rfl
theorem a_rej {x : Nat} (h : GG S B) (ho : o < 5) (hk : kp ≤ 4) (hx : x < mK S) (hp : fA S (6 * x + 2) = 0) : zM E yX5_reject wsX5_reject 6 [.ref x0, .int (nI x)] (WAd E x0 h0 h1 w0 t r S o kp Q) (WAd E x0 h0 h1 w0 t r (zRW S x) (zHo (nI (1 + zc (dpt S x) (mK S))) o kp) (zHk (nI (1 + zc (dpt S x) (mK S))) kp) (zRp Q ((o + kp) % 5) S)) (some (.int (nI (1 + zc (dpt S x) (mK S))))) := by
  have m := mX5_reject E x0 h0 h1 w0 t r S o kp Q x (gg_S h).1 (gg_S h).2 ho hk hx hp
  rw [RWn_e] at m
  exact m
variable (tx : Nat → Nat) (ln : Nat) (ps : zPs)

theorem e_ins0 (au : Nat) (g : Int32) (h : GG S B) (hB : B < 2147483600) (ho : o < 5) (hk : kp ≤ 4) (hln : ln ≤ 60) (htx : ∀ j, tx j < 65536) (hau : au < 4) : LGd E x0 h0 h1 w0 w1 t r yL_inserts wsL_inserts 7 [.ref x0, .int (nI au), .int (nI 0), .int g] S o kp Q tx ln ps (B + 2) := by
  have hu := gg_u h 0
  have hmx : uU S 0 ≤ 12 := gg_mx h (a := 0) (by decide)
  have hM := gg_M h
  have hP := lw_lt g (n := uU S 0 + 2) (by omega)
  have h2 := GG_mono h (show B ≤ B + 2 by omega)
  have e0 : zIns S (nI au) (nI 0) (nI (lw g (uU S 0 + 2))) = zInsR S (nI au) (nI (lw g (uU S 0 + 2))) := by
    unfold zIns
    rw [if_neg (nbA hau), if_pos nI_0]
  by_cases c1 : uU S 0 < (lw g (uU S 0 + 2))
  · have e : zIns S (nI au) (nI 0) (nI (lw g (uU S 0 + 2))) = (-2, S) := by
      rw [e0]
      unfold zInsR
      rw [if_pos (Or.inr (show nI (rU S) < nI (lw g (uU S 0 + 2)) from (nI_ltI (by have : uU S 0 = rU S := rfl; omega) (by omega)).mpr c1))]
    exact ⟨S, _, _, _, tx, ln, ps, h2, zHo_lt ho, zHk_le hk, hln, htx, w_ins0b E x0 h0 h1 w0 w1 t r S S o kp _ _ Q _ tx ln ps au g h h2 hau c1 rfl rfl (a_ins E x0 h0 h1 w0 t r S o kp Q h ho hk e)⟩
  · have n1 : ¬ (nI (lw g (uU S 0 + 2)) < 0 ∨ nI (rU S) < nI (lw g (uU S 0 + 2))) := by
      rintro (q | q)
      · exact nI_pos (by omega) q
      · exact c1 ((nI_ltI (by have : uU S 0 = rU S := rfl; omega) (by omega)).mp q)
    by_cases c2 : uU S 0 = 12
    · have e : zIns S (nI au) (nI 0) (nI (lw g (uU S 0 + 2))) = (-3, S) := by
        rw [e0]
        unfold zInsR
        rw [if_neg n1, if_pos (Or.inl (show 12 ≤ rU S from Nat.le_of_eq c2.symm))]
      exact ⟨S, _, _, _, tx, ln, ps, h2, zHo_lt ho, zHk_le hk, hln, htx, w_ins0f E x0 h0 h1 w0 w1 t r S S o kp _ _ Q _ tx ln ps au g h h2 hau (by omega) c2 rfl rfl (a_ins E x0 h0 h1 w0 t r S o kp Q h ho hk e)⟩
    · have c2' : uU S 0 < 12 := by omega
      have c3 : ¬ 12 ≤ rU S := Nat.not_le.mpr c2'
      cases ht : tK S with
      | true =>
        by_cases c4 : mK S = 60
        · have e : zIns S (nI au) (nI 0) (nI (lw g (uU S 0 + 2))) = (-3, S) := by
            rw [e0]
            unfold zInsR
            rw [if_neg n1, if_pos (Or.inr ⟨ht, by omega⟩)]
          exact ⟨S, _, _, _, tx, ln, ps, h2, zHo_lt ho, zHk_le hk, hln, htx, w_ins0g E x0 h0 h1 w0 w1 t r S S o kp _ _ Q _ tx ln ps au g h h2 hau (by omega) c2' ht c4 rfl rfl (a_ins E x0 h0 h1 w0 t r S o kp Q h ho hk e)⟩
        · have e : zIns S (nI au) (nI 0) (nI (lw g (uU S 0 + 2))) = (nI (mK S), (zNew (zInR S (lw g (uU S 0 + 2))) (nI 0) (nI au) (rO S (rU S)) (-5) (-5))) := by
            rw [e0]
            unfold zInsR
            rw [if_neg n1, if_neg (by rintro (q | q); exact c3 q; omega), if_pos ht, nI_clamp (by omega)]
          have hG1 := GG_Ins (ax := nI 0) (pl := nI (lw g (uU S 0 + 2))) h (by omega) hau
          rw [e] at hG1
          have hG2 := GG_mono hG1 (show B + 1 ≤ B + 2 by omega)
          obtain ⟨f1, f2, f3, f4, f5⟩ := InT0 h hG1 (P := (lw g (uU S 0 + 2))) (by omega) c2'
          exact ⟨(zNew (zInR S (lw g (uU S 0 + 2))) (nI 0) (nI au) (rO S (rU S)) (-5) (-5)), _, _, _, tx, ln, ps, hG2, zHo_lt ho, zHk_le hk, hln, htx, w_ins0t E x0 h0 h1 w0 w1 t r S (zNew (zInR S (lw g (uU S 0 + 2))) (nI 0) (nI au) (rO S (rU S)) (-5) (-5)) o kp _ _ Q _ tx ln ps au g h hG2 hau (by omega) c2' ht (by omega) f1 f3 f4 f5 f2 (a_ins E x0 h0 h1 w0 t r S o kp Q h ho hk e)⟩
      | false =>
        have e : zIns S (nI au) (nI 0) (nI (lw g (uU S 0 + 2))) = (nI 1000, (zInR S (lw g (uU S 0 + 2)))) := by
          rw [e0]
          unfold zInsR
          rw [if_neg n1, if_neg (by rintro (q | q); exact c3 q; rw [ht] at q; exact absurd q.1 (by decide)), if_neg (by rw [ht]; decide), nI_clamp (by omega)]
        have hG1 := GG_Ins (ax := nI 0) (pl := nI (lw g (uU S 0 + 2))) h (by omega) hau
        rw [e] at hG1
        have hG2 := GG_mono hG1 (show B + 1 ≤ B + 2 by omega)
        obtain ⟨f1, f2, f3, f4⟩ := InU0 h hG1 (P := (lw g (uU S 0 + 2))) (by omega) c2'
        exact ⟨(zInR S (lw g (uU S 0 + 2))), _, _, _, tx, ln, ps, hG2, zHo_lt ho, zHk_le hk, hln, htx, w_ins0u E x0 h0 h1 w0 w1 t r S (zInR S (lw g (uU S 0 + 2))) o kp _ _ Q _ tx ln ps au g h hG2 hau (by omega) c2' ht f1 f3 f4 f2 (a_ins E x0 h0 h1 w0 t r S o kp Q h ho hk e)⟩

theorem e_ins1 (au : Nat) (g : Int32) (h : GG S B) (hB : B < 2147483600) (ho : o < 5) (hk : kp ≤ 4) (hln : ln ≤ 60) (htx : ∀ j, tx j < 65536) (hau : au < 4) : LGd E x0 h0 h1 w0 w1 t r yL_inserts wsL_inserts 7 [.ref x0, .int (nI au), .int (nI 1), .int g] S o kp Q tx ln ps (B + 2) := by
  have hu := gg_u h 1
  have hmx : uU S 1 ≤ 8 := gg_mx h (a := 1) (by decide)
  have hM := gg_M h
  have hP := lw_lt g (n := uU S 1 + 2) (by omega)
  have h2 := GG_mono h (show B ≤ B + 2 by omega)
  have e0 : zIns S (nI au) (nI 1) (nI (lw g (uU S 1 + 2))) = zInsC S (nI au) (nI (lw g (uU S 1 + 2))) := by
    unfold zIns
    rw [if_neg (nbA hau), if_neg (show ¬ nI 1 = 0 by decide), if_pos rfl]
  by_cases c1 : uU S 1 < (lw g (uU S 1 + 2))
  · have e : zIns S (nI au) (nI 1) (nI (lw g (uU S 1 + 2))) = (-2, S) := by
      rw [e0]
      unfold zInsC
      rw [if_pos (Or.inr (show nI (cU S) < nI (lw g (uU S 1 + 2)) from (nI_ltI (by have : uU S 1 = cU S := rfl; omega) (by omega)).mpr c1))]
    exact ⟨S, _, _, _, tx, ln, ps, h2, zHo_lt ho, zHk_le hk, hln, htx, w_ins1b E x0 h0 h1 w0 w1 t r S S o kp _ _ Q _ tx ln ps au g h h2 hau c1 rfl rfl (a_ins E x0 h0 h1 w0 t r S o kp Q h ho hk e)⟩
  · have n1 : ¬ (nI (lw g (uU S 1 + 2)) < 0 ∨ nI (cU S) < nI (lw g (uU S 1 + 2))) := by
      rintro (q | q)
      · exact nI_pos (by omega) q
      · exact c1 ((nI_ltI (by have : uU S 1 = cU S := rfl; omega) (by omega)).mp q)
    by_cases c2 : uU S 1 = 8
    · have e : zIns S (nI au) (nI 1) (nI (lw g (uU S 1 + 2))) = (-3, S) := by
        rw [e0]
        unfold zInsC
        rw [if_neg n1, if_pos (Or.inl (show 8 ≤ cU S from Nat.le_of_eq c2.symm))]
      exact ⟨S, _, _, _, tx, ln, ps, h2, zHo_lt ho, zHk_le hk, hln, htx, w_ins1f E x0 h0 h1 w0 w1 t r S S o kp _ _ Q _ tx ln ps au g h h2 hau (by omega) c2 rfl rfl (a_ins E x0 h0 h1 w0 t r S o kp Q h ho hk e)⟩
    · have c2' : uU S 1 < 8 := by omega
      have c3 : ¬ 8 ≤ cU S := Nat.not_le.mpr c2'
      cases ht : tK S with
      | true =>
        by_cases c4 : mK S = 60
        · have e : zIns S (nI au) (nI 1) (nI (lw g (uU S 1 + 2))) = (-3, S) := by
            rw [e0]
            unfold zInsC
            rw [if_neg n1, if_pos (Or.inr ⟨ht, by omega⟩)]
          exact ⟨S, _, _, _, tx, ln, ps, h2, zHo_lt ho, zHk_le hk, hln, htx, w_ins1g E x0 h0 h1 w0 w1 t r S S o kp _ _ Q _ tx ln ps au g h h2 hau (by omega) c2' ht c4 rfl rfl (a_ins E x0 h0 h1 w0 t r S o kp Q h ho hk e)⟩
        · have e : zIns S (nI au) (nI 1) (nI (lw g (uU S 1 + 2))) = (nI (mK S), (zNew (zInC S (lw g (uU S 1 + 2))) (nI 2) (nI au) (-5) (cO S (cU S)) (-5))) := by
            rw [e0]
            unfold zInsC
            rw [if_neg n1, if_neg (by rintro (q | q); exact c3 q; omega), if_pos ht, nI_clamp (by omega)]
          have hG1 := GG_Ins (ax := nI 1) (pl := nI (lw g (uU S 1 + 2))) h (by omega) hau
          rw [e] at hG1
          have hG2 := GG_mono hG1 (show B + 1 ≤ B + 2 by omega)
          obtain ⟨f1, f2, f3, f4, f5⟩ := InT1 h hG1 (P := (lw g (uU S 1 + 2))) (by omega) c2'
          exact ⟨(zNew (zInC S (lw g (uU S 1 + 2))) (nI 2) (nI au) (-5) (cO S (cU S)) (-5)), _, _, _, tx, ln, ps, hG2, zHo_lt ho, zHk_le hk, hln, htx, w_ins1t E x0 h0 h1 w0 w1 t r S (zNew (zInC S (lw g (uU S 1 + 2))) (nI 2) (nI au) (-5) (cO S (cU S)) (-5)) o kp _ _ Q _ tx ln ps au g h hG2 hau (by omega) c2' ht (by omega) f1 f3 f4 f5 f2 (a_ins E x0 h0 h1 w0 t r S o kp Q h ho hk e)⟩
      | false =>
        have e : zIns S (nI au) (nI 1) (nI (lw g (uU S 1 + 2))) = (nI 1000, (zInC S (lw g (uU S 1 + 2)))) := by
          rw [e0]
          unfold zInsC
          rw [if_neg n1, if_neg (by rintro (q | q); exact c3 q; rw [ht] at q; exact absurd q.1 (by decide)), if_neg (by rw [ht]; decide), nI_clamp (by omega)]
        have hG1 := GG_Ins (ax := nI 1) (pl := nI (lw g (uU S 1 + 2))) h (by omega) hau
        rw [e] at hG1
        have hG2 := GG_mono hG1 (show B + 1 ≤ B + 2 by omega)
        obtain ⟨f1, f2, f3, f4⟩ := InU1 h hG1 (P := (lw g (uU S 1 + 2))) (by omega) c2'
        exact ⟨(zInC S (lw g (uU S 1 + 2))), _, _, _, tx, ln, ps, hG2, zHo_lt ho, zHk_le hk, hln, htx, w_ins1u E x0 h0 h1 w0 w1 t r S (zInC S (lw g (uU S 1 + 2))) o kp _ _ Q _ tx ln ps au g h hG2 hau (by omega) c2' ht f1 f3 f4 f2 (a_ins E x0 h0 h1 w0 t r S o kp Q h ho hk e)⟩

theorem e_rem0 (au : Nat) (g : Int32) (h : GG S B) (hB : B < 2147483600) (ho : o < 5) (hk : kp ≤ 4) (hln : ln ≤ 60) (htx : ∀ j, tx j < 65536) (hau : au < 4) : LGd E x0 h0 h1 w0 w1 t r yL_removes wsL_removes 7 [.ref x0, .int (nI au), .int (nI 0), .int g] S o kp Q tx ln ps (B + 2) := by
  have hu := gg_u h 0
  have hM := gg_M h
  have h2 := GG_mono h (show B ≤ B + 2 by omega)
  have eu : uU S 0 = rU S := rfl
  rcases Nat.eq_zero_or_pos (uU S 0) with hz | hz
  · have e : zRem S (nI au) (nI 0) (nI 0) = (-1, S) := by
      unfold zRem
      rw [if_neg (nbA hau), if_pos nI_0, if_pos (Or.inr (show nI (rU S) ≤ nI 0 from (nI_leI (by omega) (by decide)).mpr (by omega)))]
    exact ⟨S, _, _, _, tx, ln, ps, h2, zHo_lt ho, zHk_le hk, hln, htx, w_rem0z E x0 h0 h1 w0 w1 t r S S o kp _ _ Q _ tx ln ps au g h h2 hau hz (a_rem E x0 h0 h1 w0 t r S o kp Q h ho hk e)⟩
  · have hP := lw_lt g hz
    have e0 : zRem S (nI au) (nI 0) (nI (lw g (uU S 0))) = zRemRj S (nI au) (lw g (uU S 0)) := by
      unfold zRem
      rw [if_neg (nbA hau), if_pos nI_0, if_neg (nbL (u := rU S) (by omega) hP), nI_clamp (by omega)]
    have zR : ∀ {b : Bool}, Dm S 0 (lw g (uU S 0)) = b → (zf (pLn (fA S) (nI 1) 3 (rO S (lw g (uU S 0)))) (mK S) < 0 ↔ b = false) := fun {b} hb => by
      have q := sh_R (a := 0) (p := (lw g (uU S 0))) h
      rw [hb] at q
      have q' : decide (zf (pLn (fA S) (nI 1) 3 (rO S (lw g (uU S 0)))) (mK S) < 0) = !b := q
      cases b with
      | true => exact ⟨fun z => absurd (decide_eq_true z) (by rw [q']; decide), fun z => absurd z (by decide)⟩
      | false => exact ⟨fun _ => rfl, fun _ => of_decide_eq_true q'⟩
    have hD : GG (zDrR S (rO S (lw g (uU S 0)))) B → uU (zDrR S (rO S (lw g (uU S 0)))) 0 + 1 = uU S 0 ∧ cnS (zDrR S (rO S (lw g (uU S 0)))) 3 = cnS S 3 + (nSt S 0 (lw g (uU S 0)) + (Nw S 0 (lw g (uU S 0))).toNat + (Dm S 0 (lw g (uU S 0))).toNat) ∧ cnS (zDrR S (rO S (lw g (uU S 0)))) 3 ≤ 60 := fun hg => ⟨(Dr0 h hP).1, (Dr0 h hP).2, Nat.le_trans (zc_le _ _) (gg_M hg)⟩
    have hGr := GG_Rem (ax := nI 0) (pl := nI (lw g (uU S 0))) h (by omega) hau
    cases ht : tK S with
    | false =>
      have e : zRem S (nI au) (nI 0) (nI (lw g (uU S 0))) = (nI 1000, (zDrR S (rO S (lw g (uU S 0))))) := by
        rw [e0]
        unfold zRemRj
        rw [if_pos ht]
      rw [e] at hGr
      have hG2 := GG_mono hGr (show B ≤ B + 2 by omega)
      obtain ⟨f1, f2, f3⟩ := hD hGr
      cases c1 : Nw S 0 (lw g (uU S 0)) with
      | true =>
        cases c2 : Dm S 0 (lw g (uU S 0)) with
        | true =>
          rw [c1, c2] at f2
          exact ⟨(zDrR S (rO S (lw g (uU S 0)))), _, _, _, tx, ln, ps, hG2, zHo_lt ho, zHk_le hk, hln, htx, w_rem0u11 E x0 h0 h1 w0 w1 t r S (zDrR S (rO S (lw g (uU S 0)))) o kp _ _ Q _ tx ln ps au g h hG2 hau hz c1 c2 ht f1 (by simp only [Bool.toNat_true, Bool.toNat_false] at f2; omega) f3 (a_rem E x0 h0 h1 w0 t r S o kp Q h ho hk e)⟩
        | false =>
          rw [c1, c2] at f2
          exact ⟨(zDrR S (rO S (lw g (uU S 0)))), _, _, _, tx, ln, ps, hG2, zHo_lt ho, zHk_le hk, hln, htx, w_rem0u10 E x0 h0 h1 w0 w1 t r S (zDrR S (rO S (lw g (uU S 0)))) o kp _ _ Q _ tx ln ps au g h hG2 hau hz c1 c2 ht f1 (by simp only [Bool.toNat_true, Bool.toNat_false] at f2; omega) f3 (a_rem E x0 h0 h1 w0 t r S o kp Q h ho hk e)⟩
      | false =>
        cases c2 : Dm S 0 (lw g (uU S 0)) with
        | true =>
          rw [c1, c2] at f2
          exact ⟨(zDrR S (rO S (lw g (uU S 0)))), _, _, _, tx, ln, ps, hG2, zHo_lt ho, zHk_le hk, hln, htx, w_rem0u01 E x0 h0 h1 w0 w1 t r S (zDrR S (rO S (lw g (uU S 0)))) o kp _ _ Q _ tx ln ps au g h hG2 hau hz c1 c2 ht f1 (by simp only [Bool.toNat_true, Bool.toNat_false] at f2; omega) f3 (a_rem E x0 h0 h1 w0 t r S o kp Q h ho hk e)⟩
        | false =>
          rw [c1, c2] at f2
          exact ⟨(zDrR S (rO S (lw g (uU S 0)))), _, _, _, tx, ln, ps, hG2, zHo_lt ho, zHk_le hk, hln, htx, w_rem0u00 E x0 h0 h1 w0 w1 t r S (zDrR S (rO S (lw g (uU S 0)))) o kp _ _ Q _ tx ln ps au g h hG2 hau hz c1 c2 ht f1 (by simp only [Bool.toNat_true, Bool.toNat_false] at f2; omega) f3 (a_rem E x0 h0 h1 w0 t r S o kp Q h ho hk e)⟩
    | true =>
      cases c2 : Dm S 0 (lw g (uU S 0)) with
      | true =>
        have e : zRem S (nI au) (nI 0) (nI (lw g (uU S 0))) = (-4, S) := by
          rw [e0]
          unfold zRemRj
          rw [if_neg (by rw [ht]; decide), if_pos (fun z => absurd ((zR c2).mp z) (by decide))]
        cases c1 : Nw S 0 (lw g (uU S 0)) with
        | true => exact ⟨S, _, _, _, tx, ln, ps, h2, zHo_lt ho, zHk_le hk, hln, htx, w_rem0d1 E x0 h0 h1 w0 w1 t r S S o kp _ _ Q _ tx ln ps au g h h2 hau hz c1 c2 ht rfl (a_rem E x0 h0 h1 w0 t r S o kp Q h ho hk e)⟩
        | false => exact ⟨S, _, _, _, tx, ln, ps, h2, zHo_lt ho, zHk_le hk, hln, htx, w_rem0d0 E x0 h0 h1 w0 w1 t r S S o kp _ _ Q _ tx ln ps au g h h2 hau hz c1 c2 ht rfl (a_rem E x0 h0 h1 w0 t r S o kp Q h ho hk e)⟩
      | false =>
        have nR : ¬ ¬ zf (pLn (fA S) (nI 1) 3 (rO S (lw g (uU S 0)))) (mK S) < 0 := fun z => z ((zR c2).mpr rfl)
        by_cases c5 : zix (pLn (fA S) (nI 0) 3 (rO S (lw g (uU S 0)))) (mK S) < mK S ∧ fA S (6 * zix (pLn (fA S) (nI 0) 3 (rO S (lw g (uU S 0)))) (mK S) + 1) = nI au
        · have c1 : Nw S 0 (lw g (uU S 0)) = true := decide_eq_true c5.1
          have e : zRem S (nI au) (nI 0) (nI (lw g (uU S 0))) = (nI (xI S 0 (lw g (uU S 0))), (zDrR S (rO S (lw g (uU S 0))))) := by
            rw [e0]
            unfold zRemRj
            rw [if_neg (by rw [ht]; decide), if_neg nR, if_pos c5]
            rfl
          have ha : aN S (xI S 0 (lw g (uU S 0))) = au := by
            have c6 : fA S (6 * xI S 0 (lw g (uU S 0)) + 1) = nI au := c5.2
            unfold aN
            rw [c6, nI_clamp (by omega)]
          rw [e] at hGr
          have hG2 := GG_mono hGr (show B ≤ B + 2 by omega)
          obtain ⟨f1, f2, f3⟩ := hD hGr
          rw [c1, c2] at f2
          exact ⟨(zDrR S (rO S (lw g (uU S 0)))), _, _, _, tx, ln, ps, hG2, zHo_lt ho, zHk_le hk, hln, htx, w_rem0o E x0 h0 h1 w0 w1 t r S (zDrR S (rO S (lw g (uU S 0)))) o kp _ _ Q _ tx ln ps au g h hG2 hau hz c1 c2 ht ha f1 (by simp only [Bool.toNat_true, Bool.toNat_false] at f2; omega) f3 (a_rem E x0 h0 h1 w0 t r S o kp Q h ho hk e)⟩
        · have own : Nw S 0 (lw g (uU S 0)) = true → aN S (xI S 0 (lw g (uU S 0))) ≠ au := fun q z => c5 ⟨of_decide_eq_true q, by
            have := (aN_e h (Nw_t q).1).1
            rw [z] at this
            exact this⟩
          by_cases c4 : 60 ≤ mK S
          · have e : zRem S (nI au) (nI 0) (nI (lw g (uU S 0))) = (-3, S) := by
              rw [e0]
              unfold zRemRj
              rw [if_neg (by rw [ht]; decide), if_neg nR, if_neg c5, if_pos c4]
            cases c1 : Nw S 0 (lw g (uU S 0)) with
            | true => exact ⟨S, _, _, _, tx, ln, ps, h2, zHo_lt ho, zHk_le hk, hln, htx, w_rem0f1 E x0 h0 h1 w0 w1 t r S S o kp _ _ Q _ tx ln ps au g h h2 hau hz c1 c2 ht (own c1) (by omega) rfl (a_rem E x0 h0 h1 w0 t r S o kp Q h ho hk e)⟩
            | false => exact ⟨S, _, _, _, tx, ln, ps, h2, zHo_lt ho, zHk_le hk, hln, htx, w_rem0f0 E x0 h0 h1 w0 w1 t r S S o kp _ _ Q _ tx ln ps au g h h2 hau hz c1 c2 ht (by omega) rfl (a_rem E x0 h0 h1 w0 t r S o kp Q h ho hk e)⟩
          · have e : zRem S (nI au) (nI 0) (nI (lw g (uU S 0))) = (nI (mK S), (zNew S (nI 1) (nI au) (rO S (lw g (uU S 0))) (-5) (-5))) := by
              rw [e0]
              unfold zRemRj
              rw [if_neg (by rw [ht]; decide), if_neg nR, if_neg c5, if_neg c4]
            rw [e] at hGr
            have hG2 := GG_mono hGr (show B ≤ B + 2 by omega)
            obtain ⟨f1, f2, f3⟩ := RmT0 h hGr hP
            cases c1 : Nw S 0 (lw g (uU S 0)) with
            | true => exact ⟨(zNew S (nI 1) (nI au) (rO S (lw g (uU S 0))) (-5) (-5)), _, _, _, tx, ln, ps, hG2, zHo_lt ho, zHk_le hk, hln, htx, w_rem0t1 E x0 h0 h1 w0 w1 t r S (zNew S (nI 1) (nI au) (rO S (lw g (uU S 0))) (-5) (-5)) o kp _ _ Q _ tx ln ps au g h hG2 hau hz c1 c2 ht (own c1) (by omega) f1 f2 f3 (a_rem E x0 h0 h1 w0 t r S o kp Q h ho hk e)⟩
            | false => exact ⟨(zNew S (nI 1) (nI au) (rO S (lw g (uU S 0))) (-5) (-5)), _, _, _, tx, ln, ps, hG2, zHo_lt ho, zHk_le hk, hln, htx, w_rem0t0 E x0 h0 h1 w0 w1 t r S (zNew S (nI 1) (nI au) (rO S (lw g (uU S 0))) (-5) (-5)) o kp _ _ Q _ tx ln ps au g h hG2 hau hz c1 c2 ht (by omega) f1 f2 f3 (a_rem E x0 h0 h1 w0 t r S o kp Q h ho hk e)⟩

theorem e_rem1 (au : Nat) (g : Int32) (h : GG S B) (hB : B < 2147483600) (ho : o < 5) (hk : kp ≤ 4) (hln : ln ≤ 60) (htx : ∀ j, tx j < 65536) (hau : au < 4) : LGd E x0 h0 h1 w0 w1 t r yL_removes wsL_removes 7 [.ref x0, .int (nI au), .int (nI 1), .int g] S o kp Q tx ln ps (B + 2) := by
  have hu := gg_u h 1
  have hM := gg_M h
  have h2 := GG_mono h (show B ≤ B + 2 by omega)
  have eu : uU S 1 = cU S := rfl
  rcases Nat.eq_zero_or_pos (uU S 1) with hz | hz
  · have e : zRem S (nI au) (nI 1) (nI 0) = (-1, S) := by
      unfold zRem
      rw [if_neg (nbA hau), if_neg (show ¬ nI 1 = 0 by decide), if_pos rfl, if_pos (Or.inr (show nI (cU S) ≤ nI 0 from (nI_leI (by omega) (by decide)).mpr (by omega)))]
    exact ⟨S, _, _, _, tx, ln, ps, h2, zHo_lt ho, zHk_le hk, hln, htx, w_rem1z E x0 h0 h1 w0 w1 t r S S o kp _ _ Q _ tx ln ps au g h h2 hau hz (a_rem E x0 h0 h1 w0 t r S o kp Q h ho hk e)⟩
  · have hP := lw_lt g hz
    have e0 : zRem S (nI au) (nI 1) (nI (lw g (uU S 1))) = zRemCj S (nI au) (lw g (uU S 1)) := by
      unfold zRem
      rw [if_neg (nbA hau), if_neg (show ¬ nI 1 = 0 by decide), if_pos rfl, if_neg (nbL (u := cU S) (by omega) hP), nI_clamp (by omega)]
    have zR : ∀ {b : Bool}, Dm S 1 (lw g (uU S 1)) = b → (zf (pLn (fA S) (nI 3) 4 (cO S (lw g (uU S 1)))) (mK S) < 0 ↔ b = false) := fun {b} hb => by
      have q := sh_R (a := 1) (p := (lw g (uU S 1))) h
      rw [hb] at q
      have q' : decide (zf (pLn (fA S) (nI 3) 4 (cO S (lw g (uU S 1)))) (mK S) < 0) = !b := q
      cases b with
      | true => exact ⟨fun z => absurd (decide_eq_true z) (by rw [q']; decide), fun z => absurd z (by decide)⟩
      | false => exact ⟨fun _ => rfl, fun _ => of_decide_eq_true q'⟩
    have hD : GG (zDrC S (cO S (lw g (uU S 1)))) B → uU (zDrC S (cO S (lw g (uU S 1)))) 1 + 1 = uU S 1 ∧ cnS (zDrC S (cO S (lw g (uU S 1)))) 3 = cnS S 3 + (nSt S 1 (lw g (uU S 1)) + (Nw S 1 (lw g (uU S 1))).toNat + (Dm S 1 (lw g (uU S 1))).toNat) ∧ cnS (zDrC S (cO S (lw g (uU S 1)))) 3 ≤ 60 := fun hg => ⟨(Dr1 h hP).1, (Dr1 h hP).2, Nat.le_trans (zc_le _ _) (gg_M hg)⟩
    have hGr := GG_Rem (ax := nI 1) (pl := nI (lw g (uU S 1))) h (by omega) hau
    cases ht : tK S with
    | false =>
      have e : zRem S (nI au) (nI 1) (nI (lw g (uU S 1))) = (nI 1000, (zDrC S (cO S (lw g (uU S 1))))) := by
        rw [e0]
        unfold zRemCj
        rw [if_pos ht]
      rw [e] at hGr
      have hG2 := GG_mono hGr (show B ≤ B + 2 by omega)
      obtain ⟨f1, f2, f3⟩ := hD hGr
      cases c1 : Nw S 1 (lw g (uU S 1)) with
      | true =>
        cases c2 : Dm S 1 (lw g (uU S 1)) with
        | true =>
          rw [c1, c2] at f2
          exact ⟨(zDrC S (cO S (lw g (uU S 1)))), _, _, _, tx, ln, ps, hG2, zHo_lt ho, zHk_le hk, hln, htx, w_rem1u11 E x0 h0 h1 w0 w1 t r S (zDrC S (cO S (lw g (uU S 1)))) o kp _ _ Q _ tx ln ps au g h hG2 hau hz c1 c2 ht f1 (by simp only [Bool.toNat_true, Bool.toNat_false] at f2; omega) f3 (a_rem E x0 h0 h1 w0 t r S o kp Q h ho hk e)⟩
        | false =>
          rw [c1, c2] at f2
          exact ⟨(zDrC S (cO S (lw g (uU S 1)))), _, _, _, tx, ln, ps, hG2, zHo_lt ho, zHk_le hk, hln, htx, w_rem1u10 E x0 h0 h1 w0 w1 t r S (zDrC S (cO S (lw g (uU S 1)))) o kp _ _ Q _ tx ln ps au g h hG2 hau hz c1 c2 ht f1 (by simp only [Bool.toNat_true, Bool.toNat_false] at f2; omega) f3 (a_rem E x0 h0 h1 w0 t r S o kp Q h ho hk e)⟩
      | false =>
        cases c2 : Dm S 1 (lw g (uU S 1)) with
        | true =>
          rw [c1, c2] at f2
          exact ⟨(zDrC S (cO S (lw g (uU S 1)))), _, _, _, tx, ln, ps, hG2, zHo_lt ho, zHk_le hk, hln, htx, w_rem1u01 E x0 h0 h1 w0 w1 t r S (zDrC S (cO S (lw g (uU S 1)))) o kp _ _ Q _ tx ln ps au g h hG2 hau hz c1 c2 ht f1 (by simp only [Bool.toNat_true, Bool.toNat_false] at f2; omega) f3 (a_rem E x0 h0 h1 w0 t r S o kp Q h ho hk e)⟩
        | false =>
          rw [c1, c2] at f2
          exact ⟨(zDrC S (cO S (lw g (uU S 1)))), _, _, _, tx, ln, ps, hG2, zHo_lt ho, zHk_le hk, hln, htx, w_rem1u00 E x0 h0 h1 w0 w1 t r S (zDrC S (cO S (lw g (uU S 1)))) o kp _ _ Q _ tx ln ps au g h hG2 hau hz c1 c2 ht f1 (by simp only [Bool.toNat_true, Bool.toNat_false] at f2; omega) f3 (a_rem E x0 h0 h1 w0 t r S o kp Q h ho hk e)⟩
    | true =>
      cases c2 : Dm S 1 (lw g (uU S 1)) with
      | true =>
        have e : zRem S (nI au) (nI 1) (nI (lw g (uU S 1))) = (-4, S) := by
          rw [e0]
          unfold zRemCj
          rw [if_neg (by rw [ht]; decide), if_pos (fun z => absurd ((zR c2).mp z) (by decide))]
        cases c1 : Nw S 1 (lw g (uU S 1)) with
        | true => exact ⟨S, _, _, _, tx, ln, ps, h2, zHo_lt ho, zHk_le hk, hln, htx, w_rem1d1 E x0 h0 h1 w0 w1 t r S S o kp _ _ Q _ tx ln ps au g h h2 hau hz c1 c2 ht rfl (a_rem E x0 h0 h1 w0 t r S o kp Q h ho hk e)⟩
        | false => exact ⟨S, _, _, _, tx, ln, ps, h2, zHo_lt ho, zHk_le hk, hln, htx, w_rem1d0 E x0 h0 h1 w0 w1 t r S S o kp _ _ Q _ tx ln ps au g h h2 hau hz c1 c2 ht rfl (a_rem E x0 h0 h1 w0 t r S o kp Q h ho hk e)⟩
      | false =>
        have nR : ¬ ¬ zf (pLn (fA S) (nI 3) 4 (cO S (lw g (uU S 1)))) (mK S) < 0 := fun z => z ((zR c2).mpr rfl)
        by_cases c5 : zix (pLn (fA S) (nI 2) 4 (cO S (lw g (uU S 1)))) (mK S) < mK S ∧ fA S (6 * zix (pLn (fA S) (nI 2) 4 (cO S (lw g (uU S 1)))) (mK S) + 1) = nI au
        · have c1 : Nw S 1 (lw g (uU S 1)) = true := decide_eq_true c5.1
          have e : zRem S (nI au) (nI 1) (nI (lw g (uU S 1))) = (nI (xI S 1 (lw g (uU S 1))), (zDrC S (cO S (lw g (uU S 1))))) := by
            rw [e0]
            unfold zRemCj
            rw [if_neg (by rw [ht]; decide), if_neg nR, if_pos c5]
            rfl
          have ha : aN S (xI S 1 (lw g (uU S 1))) = au := by
            have c6 : fA S (6 * xI S 1 (lw g (uU S 1)) + 1) = nI au := c5.2
            unfold aN
            rw [c6, nI_clamp (by omega)]
          rw [e] at hGr
          have hG2 := GG_mono hGr (show B ≤ B + 2 by omega)
          obtain ⟨f1, f2, f3⟩ := hD hGr
          rw [c1, c2] at f2
          exact ⟨(zDrC S (cO S (lw g (uU S 1)))), _, _, _, tx, ln, ps, hG2, zHo_lt ho, zHk_le hk, hln, htx, w_rem1o E x0 h0 h1 w0 w1 t r S (zDrC S (cO S (lw g (uU S 1)))) o kp _ _ Q _ tx ln ps au g h hG2 hau hz c1 c2 ht ha f1 (by simp only [Bool.toNat_true, Bool.toNat_false] at f2; omega) f3 (a_rem E x0 h0 h1 w0 t r S o kp Q h ho hk e)⟩
        · have own : Nw S 1 (lw g (uU S 1)) = true → aN S (xI S 1 (lw g (uU S 1))) ≠ au := fun q z => c5 ⟨of_decide_eq_true q, by
            have := (aN_e h (Nw_t q).1).1
            rw [z] at this
            exact this⟩
          by_cases c4 : 60 ≤ mK S
          · have e : zRem S (nI au) (nI 1) (nI (lw g (uU S 1))) = (-3, S) := by
              rw [e0]
              unfold zRemCj
              rw [if_neg (by rw [ht]; decide), if_neg nR, if_neg c5, if_pos c4]
            cases c1 : Nw S 1 (lw g (uU S 1)) with
            | true => exact ⟨S, _, _, _, tx, ln, ps, h2, zHo_lt ho, zHk_le hk, hln, htx, w_rem1f1 E x0 h0 h1 w0 w1 t r S S o kp _ _ Q _ tx ln ps au g h h2 hau hz c1 c2 ht (own c1) (by omega) rfl (a_rem E x0 h0 h1 w0 t r S o kp Q h ho hk e)⟩
            | false => exact ⟨S, _, _, _, tx, ln, ps, h2, zHo_lt ho, zHk_le hk, hln, htx, w_rem1f0 E x0 h0 h1 w0 w1 t r S S o kp _ _ Q _ tx ln ps au g h h2 hau hz c1 c2 ht (by omega) rfl (a_rem E x0 h0 h1 w0 t r S o kp Q h ho hk e)⟩
          · have e : zRem S (nI au) (nI 1) (nI (lw g (uU S 1))) = (nI (mK S), (zNew S (nI 3) (nI au) (-5) (cO S (lw g (uU S 1))) (-5))) := by
              rw [e0]
              unfold zRemCj
              rw [if_neg (by rw [ht]; decide), if_neg nR, if_neg c5, if_neg c4]
            rw [e] at hGr
            have hG2 := GG_mono hGr (show B ≤ B + 2 by omega)
            obtain ⟨f1, f2, f3⟩ := RmT1 h hGr hP
            cases c1 : Nw S 1 (lw g (uU S 1)) with
            | true => exact ⟨(zNew S (nI 3) (nI au) (-5) (cO S (lw g (uU S 1))) (-5)), _, _, _, tx, ln, ps, hG2, zHo_lt ho, zHk_le hk, hln, htx, w_rem1t1 E x0 h0 h1 w0 w1 t r S (zNew S (nI 3) (nI au) (-5) (cO S (lw g (uU S 1))) (-5)) o kp _ _ Q _ tx ln ps au g h hG2 hau hz c1 c2 ht (own c1) (by omega) f1 f2 f3 (a_rem E x0 h0 h1 w0 t r S o kp Q h ho hk e)⟩
            | false => exact ⟨(zNew S (nI 3) (nI au) (-5) (cO S (lw g (uU S 1))) (-5)), _, _, _, tx, ln, ps, hG2, zHo_lt ho, zHk_le hk, hln, htx, w_rem1t0 E x0 h0 h1 w0 w1 t r S (zNew S (nI 3) (nI au) (-5) (cO S (lw g (uU S 1))) (-5)) o kp _ _ Q _ tx ln ps au g h hG2 hau hz c1 c2 ht (by omega) f1 f2 f3 (a_rem E x0 h0 h1 w0 t r S o kp Q h ho hk e)⟩
end ACTS
