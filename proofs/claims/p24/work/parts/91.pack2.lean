/-! setting, settling one change: over any good table -/
section ACTS2
variable (E : zE) (x0 h0 h1 w0 w1 : Nat) (t : Nat → Nat) (r : Nat → Nat → Nat) (S : zSt) (o kp : Nat) (Q : Nat → zSt) (tx : Nat → Nat) (ln : Nat) (ps : zPs) {B : Nat}
theorem zSet_in {S : zSt} {au rr cc : Nat} {v : Int32} (hau : au < 4) (h0 : uU S 0 ≤ 12) (h1 : uU S 1 ≤ 12) (hr : rr < uU S 0) (hc : cc < uU S 1) : zSet S (nI au) (nI rr) (nI cc) v = zSetij S (nI au) rr cc v := by
  unfold zSet
  rw [if_neg (nbA hau), if_neg (nbL (u := rU S) (by have : uU S 0 = rU S := rfl; omega) hr), if_neg (nbL (u := cU S) (by have : uU S 1 = cU S := rfl; omega) hc), nI_clamp (by omega), nI_clamp (by omega)]
theorem set_big {S : zSt} {au rr cc : Nat} (hau : au < 4) (h0 : uU S 0 ≤ 12) (h1 : uU S 1 ≤ 12) (hr : rr < uU S 0) (hc : cc < uU S 1) : zSet S (nI au) (nI rr) (nI cc) (nI 10000) = (-2, S) := by
  rw [zSet_in hau h0 h1 hr hc]
  unfold zSetij
  rw [if_pos (Or.inr (by decide))]
theorem e_set (au : Nat) (g h9 : Int32) (h : GG S B) (ho : o < 5) (hk : kp ≤ 4) (hln : ln ≤ 60) (htx : ∀ j, tx j < 65536) (hau : au < 4) : LGd E x0 h0 h1 w0 w1 t r yL_sets wsL_sets 7 [.ref x0, .int (nI au), .int g, .int h9] S o kp Q tx ln ps (B + 2) := by
  have hu0 := gg_u h 0
  have hu1 := gg_u h 1
  have hM := gg_M h
  have h2 := GG_mono h (show B ≤ B + 2 by omega)
  rcases Nat.eq_zero_or_pos (uU S 0) with hz | hz
  · have e : zSet S (nI au) (nI 0) (nI 0) (nI 1) = (-1, S) := by
      unfold zSet
      rw [if_neg (nbA hau), if_pos (Or.inr (show nI (rU S) ≤ nI 0 from (nI_leI (by have : uU S 0 = rU S := rfl; omega) (by decide)).mpr (by have : uU S 0 = rU S := rfl; omega)))]
    exact ⟨S, _, _, _, tx, ln, ps, h2, zHo_lt ho, zHk_le hk, hln, htx, w_setz0 E x0 h0 h1 w0 w1 t r S S o kp _ _ Q _ tx ln ps au g h9 h h2 hau hz (a_set E x0 h0 h1 w0 t r S o kp Q h ho hk e)⟩
  rcases Nat.eq_zero_or_pos (uU S 1) with hz1 | hz1
  · have e : zSet S (nI au) (nI 0) (nI 0) (nI 1) = (-1, S) := by
      unfold zSet
      rw [if_neg (nbA hau), if_neg (nbL (u := rU S) (by have : uU S 0 = rU S := rfl; omega) hz), if_pos (Or.inr (show nI (cU S) ≤ nI 0 from (nI_leI (by have : uU S 1 = cU S := rfl; omega) (by decide)).mpr (by have : uU S 1 = cU S := rfl; omega)))]
    exact ⟨S, _, _, _, tx, ln, ps, h2, zHo_lt ho, zHk_le hk, hln, htx, w_setz1 E x0 h0 h1 w0 w1 t r S S o kp _ _ Q _ tx ln ps au g h9 h h2 hau hz hz1 (a_set E x0 h0 h1 w0 t r S o kp Q h ho hk e)⟩
  have hr9 := lw_lt g hz
  have hc9 := lw_lt (g >>> (nI 4 &&& 31)) hz1
  have hv9 := lw_lt h9 (n := 5) (by decide)
  obtain ⟨rr, hR⟩ : ∃ rr, lw g (uU S 0) = rr := ⟨_, rfl⟩
  obtain ⟨cc, hC⟩ : ∃ cc, lw (g >>> (nI 4 &&& 31)) (uU S 1) = cc := ⟨_, rfl⟩
  obtain ⟨v, hV⟩ : ∃ v, lw h9 5 = v := ⟨_, rfl⟩
  have hr : rr < uU S 0 := by omega
  have hc : cc < uU S 1 := by omega
  have hv : v < 5 := by omega
  have e0 := zSet_in (v := nI v) hau hu0 hu1 hr hc
  have nv : ¬ (nI v < 0 ∨ nI 9999 < nI v) := by
    rintro (q | q)
    · exact nI_pos (by omega) q
    · have := (nI_ltI (by decide) (by omega)).mp q
      omega
  have zR0 := sh_R (a := 0) (p := rr) h
  have zR1 := sh_R (a := 1) (p := cc) h
  have nR0 : ∀ {b : Bool}, Dm S 0 rr = b → (zf (pLn (fA S) (nI 1) 3 (rO S rr)) (mK S) < 0 ↔ b = false) := fun {b} hb => by
    have q' : decide (zf (pLn (fA S) (nI 1) 3 (rO S rr)) (mK S) < 0) = !Dm S 0 rr := zR0
    rw [hb] at q'
    cases b with
    | true => exact ⟨fun z => absurd (decide_eq_true z) (by rw [q']; decide), fun z => absurd z (by decide)⟩
    | false => exact ⟨fun _ => rfl, fun _ => of_decide_eq_true q'⟩
  have nR1 : ∀ {b : Bool}, Dm S 1 cc = b → (zf (pLn (fA S) (nI 3) 4 (cO S cc)) (mK S) < 0 ↔ b = false) := fun {b} hb => by
    have q' : decide (zf (pLn (fA S) (nI 3) 4 (cO S cc)) (mK S) < 0) = !Dm S 1 cc := zR1
    rw [hb] at q'
    cases b with
    | true => exact ⟨fun z => absurd (decide_eq_true z) (by rw [q']; decide), fun z => absurd z (by decide)⟩
    | false => exact ⟨fun _ => rfl, fun _ => of_decide_eq_true q'⟩
  have big := set_big hau hu0 hu1 hr hc
  cases c1 : Dm S 0 rr with
  | true =>
    have e : zSet S (nI au) (nI rr) (nI cc) (nI v) = (-4, S) := by
      rw [e0]
      unfold zSetij
      rw [if_neg nv, if_pos (Or.inl (fun z => absurd ((nR0 c1).mp z) (by decide)))]
    exact ⟨S, _, _, _, tx, ln, ps, h2, zHo_lt (zHo_lt ho), zHk_le (zHk_le hk), hln, htx, w_setn0 E x0 h0 h1 w0 w1 t r S o kp _ _ _ _ Q _ _ tx ln ps au g h9 rr cc v h hau hR hr hC hc hV hv c1 (a_set E x0 h0 h1 w0 t r S o kp Q h ho hk e) (a_set E x0 h0 h1 w0 t r S _ _ _ h (zHo_lt ho) (zHk_le hk) big)⟩
  | false =>
  cases c2 : Dm S 1 cc with
  | true =>
    have e : zSet S (nI au) (nI rr) (nI cc) (nI v) = (-4, S) := by
      rw [e0]
      unfold zSetij
      rw [if_neg nv, if_pos (Or.inr (Or.inl (fun z => absurd ((nR1 c2).mp z) (by decide))))]
    exact ⟨S, _, _, _, tx, ln, ps, h2, zHo_lt (zHo_lt ho), zHk_le (zHk_le hk), hln, htx, w_setn1 E x0 h0 h1 w0 w1 t r S o kp _ _ _ _ Q _ _ tx ln ps au g h9 rr cc v h hau hR hr hC hc hV hv c1 c2 (a_set E x0 h0 h1 w0 t r S o kp Q h ho hk e) (a_set E x0 h0 h1 w0 t r S _ _ _ h (zHo_lt ho) (zHk_le hk) big)⟩
  | false =>
  by_cases c3 : cV S rr cc = nI v
  · have e : zSet S (nI au) (nI rr) (nI cc) (nI v) = (-4, S) := by
      rw [e0]
      unfold zSetij
      rw [if_neg nv, if_pos (Or.inr (Or.inr (show zVU (bS S) (fA S) (mK S) 60 (rO S rr) (cO S cc) = nI v from c3)))]
    exact ⟨S, _, _, _, tx, ln, ps, h2, zHo_lt (zHo_lt ho), zHk_le (zHk_le hk), hln, htx, w_setn2 E x0 h0 h1 w0 w1 t r S o kp _ _ _ _ Q _ _ tx ln ps au g h9 rr cc v h hau hR hr hC hc hV hv c1 c2 c3 (a_set E x0 h0 h1 w0 t r S o kp Q h ho hk e) (a_set E x0 h0 h1 w0 t r S _ _ _ h (zHo_lt ho) (zHk_le hk) big)⟩
  have n3 : ¬ (¬ zf (pLn (fA S) (nI 1) 3 (rO S rr)) (mK S) < 0 ∨ ¬ zf (pLn (fA S) (nI 3) 4 (cO S cc)) (mK S) < 0 ∨ zVU (bS S) (fA S) (mK S) 60 (rO S rr) (cO S cc) = nI v) := by
    rintro (z | z | z)
    · exact z ((nR0 c1).mpr rfl)
    · exact z ((nR1 c2).mpr rfl)
    · exact c3 z
  have hGs := GG_Set (r := nI rr) (c := nI cc) h hau (show v < 10000 by omega)
  cases ht : tK S with
  | false =>
    have e : zSet S (nI au) (nI rr) (nI cc) (nI v) = (nI 1000, stU S rr cc v) := by
      rw [e0]
      unfold zSetij
      rw [if_neg nv, if_neg n3, if_pos ht]
      rfl
    rw [e] at hGs
    have hG2 := GG_mono hGs (show B ≤ B + 2 by omega)
    obtain ⟨f1, f2⟩ := SetU (v := v) h hr hc
    exact ⟨stU S rr cc v, _, _, _, tx, ln, ps, hG2, zHo_lt (zHo_lt ho), zHk_le (zHk_le hk), hln, htx, w_setu E x0 h0 h1 w0 w1 t r S (stU S rr cc v) o kp _ _ _ _ Q _ _ tx ln ps au g h9 rr cc v h hG2 hau hR hr hC hc hV hv c1 c2 c3 rfl rfl f2 ht f1 (a_set E x0 h0 h1 w0 t r S o kp Q h ho hk e) (a_set E x0 h0 h1 w0 t r (stU S rr cc v) _ _ _ hG2 (zHo_lt ho) (zHk_le hk) (set_big hau (show uU (stU S rr cc v) 0 ≤ 12 from hu0) (show uU (stU S rr cc v) 1 ≤ 12 from hu1) (show rr < uU (stU S rr cc v) 0 from hr) (show cc < uU (stU S rr cc v) 1 from hc)))⟩
  | true =>
  have nt : ¬ tK S = false := by rw [ht]; decide
  have setN : ∀ {k : Option Nat}, zgo (pS (fA S) (rO S rr) (cO S cc)) (min 60 (mK S)) = k → (∀ T, k = some T → ¬ fA S (6 * T + 1) = nI au) → zSet S (nI au) (nI rr) (nI cc) (nI v) = zSetN S (nI au) rr cc (nI v) := fun {k} hz hT => by
    rw [e0]
    unfold zSetij
    rw [if_neg nv, if_neg n3, if_neg nt, hz]
    cases k with
    | none => rfl
    | some T => simp only [hT T rfl, if_false]
  have fin : ∀ (hn : zSet S (nI au) (nI rr) (nI cc) (nI v) = zSetN S (nI au) rr cc (nI v)), (kS S rr cc = 0 ∨ (0 < kS S rr cc ∧ aN S (sX S rr cc (kS S rr cc - 1)) ≠ au)) → LGd E x0 h0 h1 w0 w1 t r yL_sets wsL_sets 7 [.ref x0, .int (nI au), .int g, .int h9] S o kp Q tx ln ps (B + 2) := fun hn hc9 => by
    by_cases c6 : 60 ≤ mK S
    · have e : zSet S (nI au) (nI rr) (nI cc) (nI v) = (-3, S) := by
        rw [hn]
        exact if_pos c6
      rcases hc9 with q | ⟨q, q2⟩
      · exact ⟨S, _, _, _, tx, ln, ps, h2, zHo_lt (zHo_lt ho), zHk_le (zHk_le hk), hln, htx, w_setf0 E x0 h0 h1 w0 w1 t r S o kp _ _ _ _ Q _ _ tx ln ps au g h9 rr cc v h hau hR hr hC hc hV hv c1 c2 c3 ht q (by omega) (a_set E x0 h0 h1 w0 t r S o kp Q h ho hk e) (a_set E x0 h0 h1 w0 t r S _ _ _ h (zHo_lt ho) (zHk_le hk) big)⟩
      · exact ⟨S, _, _, _, tx, ln, ps, h2, zHo_lt (zHo_lt ho), zHk_le (zHk_le hk), hln, htx, w_setf1 E x0 h0 h1 w0 w1 t r S o kp _ _ _ _ Q _ _ tx ln ps au g h9 rr cc v h hau hR hr hC hc hV hv c1 c2 c3 ht q q2 (by omega) (a_set E x0 h0 h1 w0 t r S o kp Q h ho hk e) (a_set E x0 h0 h1 w0 t r S _ _ _ h (zHo_lt ho) (zHk_le hk) big)⟩
    · have e : zSet S (nI au) (nI rr) (nI cc) (nI v) = (nI (mK S), zNew S (nI 4) (nI au) (rO S rr) (cO S cc) (nI v)) := by
        rw [hn]
        exact if_neg c6
      rw [e] at hGs
      have hG2 := GG_mono hGs (show B ≤ B + 2 by omega)
      obtain ⟨f1, f2⟩ := SetT h hGs (show v < 10000 by omega)
      rcases hc9 with q | ⟨q, q2⟩
      · exact ⟨zNew S (nI 4) (nI au) (rO S rr) (cO S cc) (nI v), _, _, _, tx, ln, ps, hG2, zHo_lt (zHo_lt ho), zHk_le (zHk_le hk), hln, htx, w_sett0 E x0 h0 h1 w0 w1 t r S (zNew S (nI 4) (nI au) (rO S rr) (cO S cc) (nI v)) o kp _ _ _ _ Q _ _ tx ln ps au g h9 rr cc v h hG2 hau hR hr hC hc hV hv c1 c2 c3 rfl rfl f2 ht q (by omega) f1 (a_set E x0 h0 h1 w0 t r S o kp Q h ho hk e) (a_set E x0 h0 h1 w0 t r (zNew S (nI 4) (nI au) (rO S rr) (cO S cc) (nI v)) _ _ _ hG2 (zHo_lt ho) (zHk_le hk) (set_big hau (show uU (zNew S (nI 4) (nI au) (rO S rr) (cO S cc) (nI v)) 0 ≤ 12 from hu0) (show uU (zNew S (nI 4) (nI au) (rO S rr) (cO S cc) (nI v)) 1 ≤ 12 from hu1) (show rr < uU (zNew S (nI 4) (nI au) (rO S rr) (cO S cc) (nI v)) 0 from hr) (show cc < uU (zNew S (nI 4) (nI au) (rO S rr) (cO S cc) (nI v)) 1 from hc)))⟩
      · exact ⟨zNew S (nI 4) (nI au) (rO S rr) (cO S cc) (nI v), _, _, _, tx, ln, ps, hG2, zHo_lt (zHo_lt ho), zHk_le (zHk_le hk), hln, htx, w_sett1 E x0 h0 h1 w0 w1 t r S (zNew S (nI 4) (nI au) (rO S rr) (cO S cc) (nI v)) o kp _ _ _ _ Q _ _ tx ln ps au g h9 rr cc v h hG2 hau hR hr hC hc hV hv c1 c2 c3 rfl rfl f2 ht q q2 (by omega) f1 (a_set E x0 h0 h1 w0 t r S o kp Q h ho hk e) (a_set E x0 h0 h1 w0 t r (zNew S (nI 4) (nI au) (rO S rr) (cO S cc) (nI v)) _ _ _ hG2 (zHo_lt ho) (zHk_le hk) (set_big hau (show uU (zNew S (nI 4) (nI au) (rO S rr) (cO S cc) (nI v)) 0 ≤ 12 from hu0) (show uU (zNew S (nI 4) (nI au) (rO S rr) (cO S cc) (nI v)) 1 ≤ 12 from hu1) (show rr < uU (zNew S (nI 4) (nI au) (rO S rr) (cO S cc) (nI v)) 0 from hr) (show cc < uU (zNew S (nI 4) (nI au) (rO S rr) (cO S cc) (nI v)) 1 from hc)))⟩
  rcases Nat.eq_zero_or_pos (kS S rr cc) with hk0 | hk0
  · have hz : zgo (pS (fA S) (rO S rr) (cO S cc)) (min 60 (mK S)) = none := by
      rw [show min 60 (mK S) = mK S by omega]
      exact zgo_0 hk0
    exact fin (setN hz (fun T q => by cases q)) (Or.inl hk0)
  · have hz : zgo (pS (fA S) (rO S rr) (cO S cc)) (min 60 (mK S)) = some (sX S rr cc (kS S rr cc - 1)) := by
      rw [show min 60 (mK S) = mK S by omega]
      exact zgo_K (M := mK S) (n := kS S rr cc - 1) (by omega) (Nat.le_refl _) (show kS S rr cc = kS S rr cc - 1 + 1 by omega)
    obtain ⟨t1, t2, t3, -, -⟩ := sX_f h hr hc (show kS S rr cc - 1 < kS S rr cc by omega)
    obtain ⟨x1, x2, -⟩ := sX_t h (show kS S rr cc - 1 < kS S rr cc by omega)
    by_cases c5 : fA S (6 * sX S rr cc (kS S rr cc - 1) + 1) = nI au
    · have how : aN S (sX S rr cc (kS S rr cc - 1)) = au := by unfold aN; rw [c5, nI_clamp (by omega)]
      have eB : zVU (bS S) (fA S) (mK S) (sX S rr cc (kS S rr cc - 1)) (rO S rr) (cO S cc) = nI (bN S (sX S rr cc (kS S rr cc - 1))) := (zVB_X x2).symm.trans (bN_X h hr hc (by omega)).2.2
      have hb := (bN_X h hr hc (show kS S rr cc - 1 < kS S rr cc by omega)).2.1
      by_cases c7 : bN S (sX S rr cc (kS S rr cc - 1)) = v
      · have e : zSet S (nI au) (nI rr) (nI cc) (nI v) = (nI (sX S rr cc (kS S rr cc - 1)), stB S (sX S rr cc (kS S rr cc - 1)) v) := by
          rw [e0]
          unfold zSetij
          rw [if_neg nv, if_neg n3, if_neg nt, hz]
          have q : zVU (bS S) (fA S) (mK S) (sX S rr cc (kS S rr cc - 1)) (rO S rr) (cO S cc) = nI v := by rw [eB, c7]
          simp only [c5, q, if_true]
          rfl
        rw [e] at hGs
        have hG2 := GG_mono hGs (show B ≤ B + 2 by omega)
        obtain ⟨f1, f2⟩ := SetB h hGs hr hc hk0 c7
        exact ⟨stB S (sX S rr cc (kS S rr cc - 1)) v, _, _, _, tx, ln, ps, hG2, zHo_lt (zHo_lt ho), zHk_le (zHk_le hk), hln, htx, w_setb E x0 h0 h1 w0 w1 t r S (stB S (sX S rr cc (kS S rr cc - 1)) v) o kp _ _ _ _ Q _ _ tx ln ps au g h9 rr cc v h hG2 hau hR hr hC hc hV hv c1 c2 c3 rfl rfl f2 ht hk0 how c7 f1 (a_set E x0 h0 h1 w0 t r S o kp Q h ho hk e) (a_set E x0 h0 h1 w0 t r (stB S (sX S rr cc (kS S rr cc - 1)) v) _ _ _ hG2 (zHo_lt ho) (zHk_le hk) (set_big hau (show uU (stB S (sX S rr cc (kS S rr cc - 1)) v) 0 ≤ 12 from hu0) (show uU (stB S (sX S rr cc (kS S rr cc - 1)) v) 1 ≤ 12 from hu1) (show rr < uU (stB S (sX S rr cc (kS S rr cc - 1)) v) 0 from hr) (show cc < uU (stB S (sX S rr cc (kS S rr cc - 1)) v) 1 from hc)))⟩
      · have e : zSet S (nI au) (nI rr) (nI cc) (nI v) = (nI (sX S rr cc (kS S rr cc - 1)), stV S (sX S rr cc (kS S rr cc - 1)) v) := by
          rw [e0]
          unfold zSetij
          rw [if_neg nv, if_neg n3, if_neg nt, hz]
          have q : ¬ zVU (bS S) (fA S) (mK S) (sX S rr cc (kS S rr cc - 1)) (rO S rr) (cO S cc) = nI v := by
            rw [eB]
            exact fun z => c7 ((nI_eq (by omega) (by omega)).mp z)
          simp only [c5, q, if_true, if_false]
          rfl
        rw [e] at hGs
        have hG2 := GG_mono hGs (show B ≤ B + 2 by omega)
        obtain ⟨f1, f2⟩ := SetV h hGs hk0 (show v < 10000 by omega)
        exact ⟨stV S (sX S rr cc (kS S rr cc - 1)) v, _, _, _, tx, ln, ps, hG2, zHo_lt (zHo_lt ho), zHk_le (zHk_le hk), hln, htx, w_sets E x0 h0 h1 w0 w1 t r S (stV S (sX S rr cc (kS S rr cc - 1)) v) o kp _ _ _ _ Q _ _ tx ln ps au g h9 rr cc v h hG2 hau hR hr hC hc hV hv c1 c2 c3 rfl rfl f2 ht hk0 how c7 f1 (a_set E x0 h0 h1 w0 t r S o kp Q h ho hk e) (a_set E x0 h0 h1 w0 t r (stV S (sX S rr cc (kS S rr cc - 1)) v) _ _ _ hG2 (zHo_lt ho) (zHk_le hk) (set_big hau (show uU (stV S (sX S rr cc (kS S rr cc - 1)) v) 0 ≤ 12 from hu0) (show uU (stV S (sX S rr cc (kS S rr cc - 1)) v) 1 ≤ 12 from hu1) (show rr < uU (stV S (sX S rr cc (kS S rr cc - 1)) v) 0 from hr) (show cc < uU (stV S (sX S rr cc (kS S rr cc - 1)) v) 1 from hc)))⟩
    · have how : aN S (sX S rr cc (kS S rr cc - 1)) ≠ au := fun z => c5 (by rw [(aN_e h t1).1, z])
      exact fin (setN hz (fun T q => by cases q; exact c5)) (Or.inr ⟨hk0, how⟩)

theorem e_stl1 (g : Int32) (h : GG S B) (ho : o < 5) (hk : kp ≤ 4) (hln : ln ≤ 60) (htx : ∀ j, tx j < 65536) : LGd E x0 h0 h1 w0 w1 t r yL_settles wsL_settles 8 [.ref x0, .int g, .int (nI 1)] S o kp Q tx ln ps (B + 2) := by
  have hM := gg_M h
  have h2 := GG_mono h (show B ≤ B + 2 by omega)
  rcases Nat.eq_zero_or_pos (mK S) with hz | hz
  · have b : nI 0 < 0 ∨ (¬ nI 0 < 0 ∧ nI (mK S) ≤ nI 0) := or_lt (by omega) (by omega) (by decide)
    exact ⟨S, _, _, _, tx, ln, ps, h2, ho, hk, hln, htx, w_stl1z E x0 h0 h1 w0 w1 t r S o kp _ _ _ _ Q _ _ tx ln ps g h hz (mX5_accept_b E x0 h0 h1 w0 t r S o kp Q (nI 0) (gg_S h).1 (gg_S h).2 ho hk b) (mX5_reject_b E x0 h0 h1 w0 t r S o kp Q (nI 0) (gg_S h).1 (gg_S h).2 ho hk b)⟩
  have hx9 := lw_lt g hz
  obtain ⟨x, hX⟩ : ∃ x, lw g (mK S) = x := ⟨_, rfl⟩
  have hx : x < mK S := by omega
  by_cases hs : sN S x = 0
  · have hp := (sN_0 h hx).mpr hs
    have hG2 := GG_mono (GG_AW h hx hp) (show B ≤ B + 2 by omega)
    obtain ⟨ek, k5⟩ := kN_e h hx
    have st1 : fA (zAW S x) (6 * x + 2) = nI 1 → sN (zAW S x) x = 1 := fun q => by unfold sN; rw [q, nI_clamp (by decide)]
    rcases (show kN S x = 0 ∨ kN S x = 1 ∨ kN S x = 2 ∨ kN S x = 3 ∨ kN S x = 4 by omega) with hk9 | hk9 | hk9 | hk9 | hk9 <;> rw [hk9] at ek
    · obtain ⟨P, hP, hs9⟩ := gg_P h (a := 0) (by decide) hx hp (Or.inl ek)
      have l1 := lP_at h (a := 0) (by decide) hP hs9
      have l0 := lP_no h (a := 1) (by decide) (gg_N h (a := 0) (by decide) hx (Or.inl ek))
      obtain ⟨⟨f1, f2, -, -, f5⟩, g1, g2⟩ := Ac_rest hx hp (AW_0T hx hp (by rw [ek]; decide) (by rw [ek]; decide) (by rw [ek]; decide))
      exact ⟨zAW S x, _, _, _, tx, ln, ps, hG2, zHo_lt ho, zHk_le hk, hln, htx, w_stl10 E x0 h0 h1 w0 w1 t r S (zAW S x) o kp _ _ Q _ tx ln ps g x P h hG2 hX hx hk9 hs hP l1 l0 f1 f2 g1 g2 (st1 f5) ((AW_0T hx hp (by rw [ek]; decide) (by rw [ek]; decide) (by rw [ek]; decide)).u 0) (a_acc E x0 h0 h1 w0 t r S o kp Q h ho hk hx hp)⟩
    · obtain ⟨P, hP, hs9⟩ := gg_P h (a := 0) (by decide) hx hp (Or.inr (Or.inl ek))
      have l1 := lP_at h (a := 0) (by decide) hP hs9
      have l0 := lP_no h (a := 1) (by decide) (gg_N h (a := 0) (by decide) hx (Or.inr ek))
      obtain ⟨⟨f1, f2, -, -, f5⟩, g1, g2, g3⟩ := Ac_rm h (a := 0) (by decide) hP hx hp ek hs9
      exact ⟨zAW S x, _, _, _, tx, ln, ps, hG2, zHo_lt ho, zHk_le hk, hln, htx, w_stl11 E x0 h0 h1 w0 w1 t r S (zAW S x) o kp _ _ Q _ tx ln ps g x P h hG2 hX hx hk9 hs hP l1 l0 f1 f2 g1 g2 (st1 f5) g3 (a_acc E x0 h0 h1 w0 t r S o kp Q h ho hk hx hp)⟩
    · obtain ⟨P, hP, hs9⟩ := gg_P h (a := 1) (by decide) hx hp (Or.inl ek)
      have l1 := lP_at h (a := 1) (by decide) hP hs9
      have l0 := lP_no h (a := 0) (by decide) (gg_N h (a := 1) (by decide) hx (Or.inl ek))
      obtain ⟨⟨f1, f2, -, -, f5⟩, g1, g2⟩ := Ac_rest hx hp (AW_0T hx hp (by rw [ek]; decide) (by rw [ek]; decide) (by rw [ek]; decide))
      exact ⟨zAW S x, _, _, _, tx, ln, ps, hG2, zHo_lt ho, zHk_le hk, hln, htx, w_stl12 E x0 h0 h1 w0 w1 t r S (zAW S x) o kp _ _ Q _ tx ln ps g x P h hG2 hX hx hk9 hs hP l1 l0 f1 f2 g1 g2 (st1 f5) ((AW_0T hx hp (by rw [ek]; decide) (by rw [ek]; decide) (by rw [ek]; decide)).u 1) (a_acc E x0 h0 h1 w0 t r S o kp Q h ho hk hx hp)⟩
    · obtain ⟨P, hP, hs9⟩ := gg_P h (a := 1) (by decide) hx hp (Or.inr (Or.inl ek))
      have l1 := lP_at h (a := 1) (by decide) hP hs9
      have l0 := lP_no h (a := 0) (by decide) (gg_N h (a := 1) (by decide) hx (Or.inr ek))
      obtain ⟨⟨f1, f2, -, -, f5⟩, g1, g2, g3⟩ := Ac_rm h (a := 1) (by decide) hP hx hp ek hs9
      exact ⟨zAW S x, _, _, _, tx, ln, ps, hG2, zHo_lt ho, zHk_le hk, hln, htx, w_stl13 E x0 h0 h1 w0 w1 t r S (zAW S x) o kp _ _ Q _ tx ln ps g x P h hG2 hX hx hk9 hs hP l1 l0 f1 f2 g1 g2 (st1 f5) g3 (a_acc E x0 h0 h1 w0 t r S o kp Q h ho hk hx hp)⟩
    · obtain ⟨P, hP, hs9⟩ := gg_P h (a := 0) (by decide) hx hp (Or.inr (Or.inr ek))
      obtain ⟨Q9, hQ, hq9⟩ := gg_P h (a := 1) (by decide) hx hp (Or.inr (Or.inr ek))
      have l0 := lP_at h (a := 0) (by decide) hP hs9
      have l1 := lP_at h (a := 1) (by decide) hQ hq9
      obtain ⟨⟨f1, f2, -, -, f5⟩, g1, g2⟩ := Ac_rest hx hp (AW_4T hx hp ek)
      obtain ⟨n0, n1, n2⟩ := Ac_set h hx hp ek hP hQ hs9 hq9
      exact ⟨zAW S x, _, _, _, tx, ln, ps, hG2, zHo_lt ho, zHk_le hk, hln, htx, w_stl14 E x0 h0 h1 w0 w1 t r S (zAW S x) o kp _ _ Q _ tx ln ps g x P Q9 h hG2 hX hx hk9 hs hP l0 hQ l1 f1 f2 g1 g2 (st1 f5) ((AW_4T hx hp ek).u 0) ((AW_4T hx hp ek).u 1) n0 n1 n2 (a_acc E x0 h0 h1 w0 t r S o kp Q h ho hk hx hp)⟩
  · have hp : ¬ fA S (6 * x + 2) = 0 := fun q => hs (sN_p q)
    exact ⟨S, _, _, _, tx, ln, ps, h2, ho, hk, hln, htx, w_stl1n E x0 h0 h1 w0 w1 t r S o kp _ _ Q _ tx ln ps g x h hX hx hs (mX5_accept_n E x0 h0 h1 w0 t r S o kp Q x (gg_S h).1 (gg_S h).2 ho hk hx hp)⟩

theorem e_stl0 (g : Int32) (h : GG S B) (ho : o < 5) (hk : kp ≤ 4) (hln : ln ≤ 60) (htx : ∀ j, tx j < 65536) : LGd E x0 h0 h1 w0 w1 t r yL_settles wsL_settles 8 [.ref x0, .int g, .int (nI 0)] S o kp Q tx ln ps (B + 2) := by
  have hM := gg_M h
  have h2 := GG_mono h (show B ≤ B + 2 by omega)
  rcases Nat.eq_zero_or_pos (mK S) with hz | hz
  · have b : nI 0 < 0 ∨ (¬ nI 0 < 0 ∧ nI (mK S) ≤ nI 0) := or_lt (by omega) (by omega) (by decide)
    exact ⟨S, _, _, _, tx, ln, ps, h2, ho, hk, hln, htx, w_stl0z E x0 h0 h1 w0 w1 t r S o kp _ _ _ _ Q _ _ tx ln ps g h hz (mX5_accept_b E x0 h0 h1 w0 t r S o kp Q (nI 0) (gg_S h).1 (gg_S h).2 ho hk b) (mX5_reject_b E x0 h0 h1 w0 t r S o kp Q (nI 0) (gg_S h).1 (gg_S h).2 ho hk b)⟩
  have hx9 := lw_lt g hz
  obtain ⟨x, hX⟩ : ∃ x, lw g (mK S) = x := ⟨_, rfl⟩
  have hx : x < mK S := by omega
  by_cases hs : sN S x = 0
  · have hp := (sN_0 h hx).mpr hs
    have hG2 := GG_mono (GG_RW h hx hp) (show B ≤ B + 2 by omega)
    obtain ⟨ek, k5⟩ := kN_e h hx
    have st1 : fA (zRW S x) (6 * x + 2) = nI 2 → sN (zRW S x) x = 2 := fun q => by unfold sN; rw [q, nI_clamp (by decide)]
    rcases (show kN S x = 0 ∨ kN S x = 1 ∨ kN S x = 2 ∨ kN S x = 3 ∨ kN S x = 4 by omega) with hk9 | hk9 | hk9 | hk9 | hk9 <;> rw [hk9] at ek
    · obtain ⟨P, hP, hs9⟩ := gg_P h (a := 0) (by decide) hx hp (Or.inl ek)
      have l1 := lP_at h (a := 0) (by decide) hP hs9
      have l0 := lP_no h (a := 1) (by decide) (gg_N h (a := 0) (by decide) hx (Or.inl ek))
      obtain ⟨⟨f1, f2, -, -, f5⟩, g1, g2⟩ := Rj_all h hx hp
      exact ⟨zRW S x, _, _, _, tx, ln, ps, hG2, zHo_lt ho, zHk_le hk, hln, htx, w_stl00 E x0 h0 h1 w0 w1 t r S (zRW S x) o kp _ _ Q _ tx ln ps g x P h hG2 hX hx hk9 hs hP l1 l0 f1 f2 g1 g2 (st1 f5) (Rj_u h (a := 0) (by decide) hx hp ek hs9 hP) (a_rej E x0 h0 h1 w0 t r S o kp Q h ho hk hx hp)⟩
    · obtain ⟨P, hP, hs9⟩ := gg_P h (a := 0) (by decide) hx hp (Or.inr (Or.inl ek))
      have l1 := lP_at h (a := 0) (by decide) hP hs9
      have l0 := lP_no h (a := 1) (by decide) (gg_N h (a := 0) (by decide) hx (Or.inr ek))
      obtain ⟨⟨f1, f2, -, -, f5⟩, g1, g2⟩ := Rj_all h hx hp
      exact ⟨zRW S x, _, _, _, tx, ln, ps, hG2, zHo_lt ho, zHk_le hk, hln, htx, w_stl01 E x0 h0 h1 w0 w1 t r S (zRW S x) o kp _ _ Q _ tx ln ps g x P h hG2 hX hx hk9 hs hP l1 l0 f1 f2 g1 g2 (st1 f5) (Rj_u' (by rw [ek]; decide) (by rw [ek]; decide) hx hp 0) (a_rej E x0 h0 h1 w0 t r S o kp Q h ho hk hx hp)⟩
    · obtain ⟨P, hP, hs9⟩ := gg_P h (a := 1) (by decide) hx hp (Or.inl ek)
      have l1 := lP_at h (a := 1) (by decide) hP hs9
      have l0 := lP_no h (a := 0) (by decide) (gg_N h (a := 1) (by decide) hx (Or.inl ek))
      obtain ⟨⟨f1, f2, -, -, f5⟩, g1, g2⟩ := Rj_all h hx hp
      exact ⟨zRW S x, _, _, _, tx, ln, ps, hG2, zHo_lt ho, zHk_le hk, hln, htx, w_stl02 E x0 h0 h1 w0 w1 t r S (zRW S x) o kp _ _ Q _ tx ln ps g x P h hG2 hX hx hk9 hs hP l1 l0 f1 f2 g1 g2 (st1 f5) (Rj_u h (a := 1) (by decide) hx hp ek hs9 hP) (a_rej E x0 h0 h1 w0 t r S o kp Q h ho hk hx hp)⟩
    · obtain ⟨P, hP, hs9⟩ := gg_P h (a := 1) (by decide) hx hp (Or.inr (Or.inl ek))
      have l1 := lP_at h (a := 1) (by decide) hP hs9
      have l0 := lP_no h (a := 0) (by decide) (gg_N h (a := 1) (by decide) hx (Or.inr ek))
      obtain ⟨⟨f1, f2, -, -, f5⟩, g1, g2⟩ := Rj_all h hx hp
      exact ⟨zRW S x, _, _, _, tx, ln, ps, hG2, zHo_lt ho, zHk_le hk, hln, htx, w_stl03 E x0 h0 h1 w0 w1 t r S (zRW S x) o kp _ _ Q _ tx ln ps g x P h hG2 hX hx hk9 hs hP l1 l0 f1 f2 g1 g2 (st1 f5) (Rj_u' (by rw [ek]; decide) (by rw [ek]; decide) hx hp 1) (a_rej E x0 h0 h1 w0 t r S o kp Q h ho hk hx hp)⟩
    · obtain ⟨P, hP, hs9⟩ := gg_P h (a := 0) (by decide) hx hp (Or.inr (Or.inr ek))
      obtain ⟨Q9, hQ, hq9⟩ := gg_P h (a := 1) (by decide) hx hp (Or.inr (Or.inr ek))
      have l0 := lP_at h (a := 0) (by decide) hP hs9
      have l1 := lP_at h (a := 1) (by decide) hQ hq9
      obtain ⟨⟨f1, f2, -, -, f5⟩, g1, g2⟩ := Rj_all h hx hp
      exact ⟨zRW S x, _, _, _, tx, ln, ps, hG2, zHo_lt ho, zHk_le hk, hln, htx, w_stl04 E x0 h0 h1 w0 w1 t r S (zRW S x) o kp _ _ Q _ tx ln ps g x P Q9 h hG2 hX hx hk9 hs hP l0 hQ l1 f1 f2 g1 g2 (st1 f5) (a_rej E x0 h0 h1 w0 t r S o kp Q h ho hk hx hp)⟩
  · have hp : ¬ fA S (6 * x + 2) = 0 := fun q => hs (sN_p q)
    exact ⟨S, _, _, _, tx, ln, ps, h2, ho, hk, hln, htx, w_stl0n E x0 h0 h1 w0 w1 t r S o kp _ _ Q _ tx ln ps g x h hX hx hs (mX5_reject_n E x0 h0 h1 w0 t r S o kp Q x (gg_S h).1 (gg_S h).2 ho hk hx hp)⟩
end ACTS2
