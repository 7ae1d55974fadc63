/-! the contracts of single calls, each with its answer in the property's own words -/
theorem or_lt {x n : Nat} (hn : n < 2147483648) (h : n ≤ x) (hx : x < 2147483648) : nI x < 0 ∨ (¬ nI x < 0 ∧ nI n ≤ nI x) := Or.inr ⟨nI_pos hx, (nI_leI hn hx).mpr h⟩
section API
variable (E : zE) (x0 h0 w0 : Nat) (t : Nat → Nat) (S : zSt) {B : Nat}
theorem l_sizeV (v a : Nat) (h : GG S B) (hv : v < 3) (ha : a < 2) : zM E yX5_size wsX5_size 5 [.ref x0, .int (nI v), .int (nI a)] (WTd E x0 h0 w0 t S) (WTd E x0 h0 w0 t S) (some (.int (nI (zc (vS S v a) (uU S a))))) := by
  rcases ax2 ha with e | e <;> subst e
  · have m := mX5_size_r E x0 h0 w0 t S v (gg_S h).1 hv
    rw [zc_cg (n := rU S) (fun p _ => rSh_v (p := p) h hv)] at m
    exact m
  · have m := mX5_size_c E x0 h0 w0 t S v (gg_S h).1 hv
    rw [zc_cg (n := cU S) (fun p _ => cSh_v (p := p) h hv)] at m
    exact m
theorem l_size0 (a : Nat) (h : GG S B) (ha : a < 2) : zM E yX5_size wsX5_size 5 [.ref x0, .int (nI 0), .int (nI a)] (WTd E x0 h0 w0 t S) (WTd E x0 h0 w0 t S) (some (.int (nI (uU S a)))) := by
  have m := l_sizeV E x0 h0 w0 t S 0 a h (by decide) ha
  rw [zc_all (p := vS S 0 a) (fun j _ => rfl)] at m
  exact m
theorem l_size1 (a : Nat) (h : GG S B) (ha : a < 2) : zM E yX5_size wsX5_size 5 [.ref x0, .int (nI 1), .int (nI a)] (WTd E x0 h0 w0 t S) (WTd E x0 h0 w0 t S) (some (.int (nI (zc (nDm S a) (uU S a))))) := by
  have m := l_sizeV E x0 h0 w0 t S 1 a h (by decide) ha
  rw [vS_1] at m
  exact m
theorem l_size2 (a : Nat) (h : GG S B) (ha : a < 2) : zM E yX5_size wsX5_size 5 [.ref x0, .int (nI 2), .int (nI a)] (WTd E x0 h0 w0 t S) (WTd E x0 h0 w0 t S) (some (.int (nI (zc (nNw S a) (uU S a))))) := by
  have m := l_sizeV E x0 h0 w0 t S 2 a h (by decide) ha
  rw [vS_2] at m
  exact m
theorem l_size3 (h : GG S B) : zM E yX5_size wsX5_size 5 [.ref x0, .int (nI 3), .int (nI 0)] (WTd E x0 h0 w0 t S) (WTd E x0 h0 w0 t S) (some (.int (-1))) := mX5_size_b1 E x0 h0 w0 t S (nI 3) (nI 0) (gg_S h).1 (by decide)
theorem l_sizeA (h : GG S B) : zM E yX5_size wsX5_size 5 [.ref x0, .int (nI 0), .int (nI 2)] (WTd E x0 h0 w0 t S) (WTd E x0 h0 w0 t S) (some (.int (-1))) := mX5_size_b2 E x0 h0 w0 t S 0 (nI 2) (gg_S h).1 (by decide) (by decide) (by decide)
theorem l_line (a p : Nat) (wh : Int32) (h : GG S B) (ha : a < 2) (hp : p < uU S a) : zM E yX5_line wsX5_line 5 [.ref x0, .int (nI a), .int (nI p), .int wh] (WTd E x0 h0 w0 t S) (WTd E x0 h0 w0 t S) (some (.int (vL S a p wh))) := by
  have hz := gg_O0 h ha hp
  rcases ax2 ha with e | e <;> subst e
  · exact mX5_line_r E x0 h0 w0 t S p wh (gg_S h).1 hp hz
  · exact mX5_line_c E x0 h0 w0 t S p wh (gg_S h).1 hp hz
theorem l_line0y (a p : Nat) (h : GG S B) (ha : a < 2) (hp : p < uU S a) (hb : Nw S a p = true) : zM E yX5_line wsX5_line 5 [.ref x0, .int (nI a), .int (nI p), .int (nI 0)] (WTd E x0 h0 w0 t S) (WTd E x0 h0 w0 t S) (some (.int (nI (xI S a p)))) := by
  have m := l_line E x0 h0 w0 t S a p (nI 0) h ha hp
  rw [vL_0 h ha, if_pos hb] at m
  exact m
theorem l_line0n (a p : Nat) (h : GG S B) (ha : a < 2) (hp : p < uU S a) (hb : Nw S a p = false) : zM E yX5_line wsX5_line 5 [.ref x0, .int (nI a), .int (nI p), .int (nI 0)] (WTd E x0 h0 w0 t S) (WTd E x0 h0 w0 t S) (some (.int (-5))) := by
  have m := l_line E x0 h0 w0 t S a p (nI 0) h ha hp
  rw [vL_0 h ha, hb, if_neg (by decide)] at m
  exact m
theorem l_line1y (a p : Nat) (h : GG S B) (ha : a < 2) (hp : p < uU S a) (hb : Dm S a p = true) : zM E yX5_line wsX5_line 5 [.ref x0, .int (nI a), .int (nI p), .int (nI 1)] (WTd E x0 h0 w0 t S) (WTd E x0 h0 w0 t S) (some (.int (nI (xR S a p)))) := by
  have m := l_line E x0 h0 w0 t S a p (nI 1) h ha hp
  rw [vL_1 h ha, if_pos hb] at m
  exact m
theorem l_line1n (a p : Nat) (h : GG S B) (ha : a < 2) (hp : p < uU S a) (hb : Dm S a p = false) : zM E yX5_line wsX5_line 5 [.ref x0, .int (nI a), .int (nI p), .int (nI 1)] (WTd E x0 h0 w0 t S) (WTd E x0 h0 w0 t S) (some (.int (-5))) := by
  have m := l_line E x0 h0 w0 t S a p (nI 1) h ha hp
  rw [vL_1 h ha, hb, if_neg (by decide)] at m
  exact m
theorem l_line2y (a p : Nat) (h : GG S B) (ha : a < 2) (hp : p < uU S a) (hb : Dm S a p = true) : zM E yX5_line wsX5_line 5 [.ref x0, .int (nI a), .int (nI p), .int (nI 2)] (WTd E x0 h0 w0 t S) (WTd E x0 h0 w0 t S) (some (.int (-5))) := by
  have m := l_line E x0 h0 w0 t S a p (nI 2) h ha hp
  rw [vL_2 h ha hp, if_pos hb] at m
  exact m
theorem l_line2n (a p : Nat) (h : GG S B) (ha : a < 2) (hp : p < uU S a) (hb : Dm S a p = false) : zM E yX5_line wsX5_line 5 [.ref x0, .int (nI a), .int (nI p), .int (nI 2)] (WTd E x0 h0 w0 t S) (WTd E x0 h0 w0 t S) (some (.int (nI (zc (nDm S a) p)))) := by
  have m := l_line E x0 h0 w0 t S a p (nI 2) h ha hp
  rw [vL_2 h ha hp, hb, if_neg (by decide)] at m
  exact m
theorem l_line3y (a p : Nat) (h : GG S B) (ha : a < 2) (hp : p < uU S a) (hb : Nw S a p = true) : zM E yX5_line wsX5_line 5 [.ref x0, .int (nI a), .int (nI p), .int (nI 3)] (WTd E x0 h0 w0 t S) (WTd E x0 h0 w0 t S) (some (.int (-5))) := by
  have m := l_line E x0 h0 w0 t S a p (nI 3) h ha hp
  rw [vL_3 h ha hp, if_pos hb] at m
  exact m
theorem l_line3n (a p : Nat) (h : GG S B) (ha : a < 2) (hp : p < uU S a) (hb : Nw S a p = false) : zM E yX5_line wsX5_line 5 [.ref x0, .int (nI a), .int (nI p), .int (nI 3)] (WTd E x0 h0 w0 t S) (WTd E x0 h0 w0 t S) (some (.int (nI (zc (nNw S a) p)))) := by
  have m := l_line E x0 h0 w0 t S a p (nI 3) h ha hp
  rw [vL_3 h ha hp, hb, if_neg (by decide)] at m
  exact m
theorem l_line4 (a p : Nat) (h : GG S B) (ha : a < 2) (hp : p < uU S a) : zM E yX5_line wsX5_line 5 [.ref x0, .int (nI a), .int (nI p), .int (nI 4)] (WTd E x0 h0 w0 t S) (WTd E x0 h0 w0 t S) (some (.int (nI (nSt S a p)))) := by
  have m := l_line E x0 h0 w0 t S a p (nI 4) h ha hp
  rw [vL_4 ha] at m
  exact m
theorem l_line5 (a p : Nat) (h : GG S B) (ha : a < 2) (hp : p < uU S a) : zM E yX5_line wsX5_line 5 [.ref x0, .int (nI a), .int (nI p), .int (nI 5)] (WTd E x0 h0 w0 t S) (WTd E x0 h0 w0 t S) (some (.int (-2))) := by
  have m := l_line E x0 h0 w0 t S a p (nI 5) h ha hp
  rw [vL_5 ha] at m
  exact m
theorem l_lineU (a p : Nat) (h : GG S B) (ha : a < 2) (hp : uU S a ≤ p) (hp2 : p < 100) : zM E yX5_line wsX5_line 5 [.ref x0, .int (nI a), .int (nI p), .int (nI 0)] (WTd E x0 h0 w0 t S) (WTd E x0 h0 w0 t S) (some (.int (-1))) := by
  refine mX5_line_b E x0 h0 w0 t S (nI a) (nI p) (nI 0) (gg_S h).1 ?_
  rcases ax2 ha with e | e <;> subst e
  · have : zSA (rO S) (rU S) (cO S) (cU S) (nI 0) (nI p) = -5 := zsa_u (by omega) hp
    rw [this]; decide
  · have : zSA (rO S) (rU S) (cO S) (cU S) (nI 1) (nI p) = -5 := zsa_u (f := cO S) (u := cU S) (by omega) hp
    rw [this]; decide
theorem l_lineM (a : Nat) (h : GG S B) (ha : a < 2) : zM E yX5_line wsX5_line 5 [.ref x0, .int (nI a), .int (-1), .int (nI 0)] (WTd E x0 h0 w0 t S) (WTd E x0 h0 w0 t S) (some (.int (-1))) := by
  refine mX5_line_b E x0 h0 w0 t S (nI a) (-1) (nI 0) (gg_S h).1 ?_
  rcases ax2 ha with e | e <;> subst e
  · have : zSA (rO S) (rU S) (cO S) (cU S) (nI 0) (-1) = -5 := zsa_n (f := rO S) (u := rU S)
    rw [this]; decide
  · have : zSA (rO S) (rU S) (cO S) (cU S) (nI 1) (-1) = -5 := zsa_n (f := cO S) (u := cU S)
    rw [this]; decide
theorem l_lineA (h : GG S B) : zM E yX5_line wsX5_line 5 [.ref x0, .int (nI 2), .int (nI 0), .int (nI 0)] (WTd E x0 h0 w0 t S) (WTd E x0 h0 w0 t S) (some (.int (-1))) := by
  refine mX5_line_b E x0 h0 w0 t S (nI 2) (nI 0) (nI 0) (gg_S h).1 ?_
  have : zSA (rO S) (rU S) (cO S) (cU S) (nI 2) (nI 0) = -5 := rfl
  rw [this]; decide
/-! changes -/
theorem l_chg (x : Nat) (wh : Int32) (h : GG S B) (hx : x < mK S) : zM E yX5_change wsX5_change 5 [.ref x0, .int (nI x), .int wh] (WTd E x0 h0 w0 t S) (WTd E x0 h0 w0 t S) (some (.int (zChg S x wh))) := mX5_change E x0 h0 w0 t S x wh (gg_S h).1 hx
theorem l_chg0 (x : Nat) (h : GG S B) (hx : x < mK S) : zM E yX5_change wsX5_change 5 [.ref x0, .int (nI x), .int (nI 0)] (WTd E x0 h0 w0 t S) (WTd E x0 h0 w0 t S) (some (.int (nI (kN S x)))) := by
  rw [← (kN_e h hx).1]
  exact l_chg E x0 h0 w0 t S x (nI 0) h hx
theorem l_chg1 (x : Nat) (h : GG S B) (hx : x < mK S) : zM E yX5_change wsX5_change 5 [.ref x0, .int (nI x), .int (nI 1)] (WTd E x0 h0 w0 t S) (WTd E x0 h0 w0 t S) (some (.int (nI (aN S x)))) := by
  rw [← (aN_e h hx).1]
  exact l_chg E x0 h0 w0 t S x (nI 1) h hx
theorem l_chg2 (x : Nat) (h : GG S B) (hx : x < mK S) : zM E yX5_change wsX5_change 5 [.ref x0, .int (nI x), .int (nI 2)] (WTd E x0 h0 w0 t S) (WTd E x0 h0 w0 t S) (some (.int (nI (sN S x)))) := by
  rw [← (sN_e h hx).1]
  exact l_chg E x0 h0 w0 t S x (nI 2) h hx
theorem l_chgP (x a : Nat) (h : GG S B) (hx : x < mK S) (ha : a < 2) : zM E yX5_change wsX5_change 5 [.ref x0, .int (nI x), .int (nI (3 + a))] (WTd E x0 h0 w0 t S) (WTd E x0 h0 w0 t S) (some (.int (eP (lP S a x)))) := by
  rw [← zf_lP h ha]
  exact l_chg E x0 h0 w0 t S x (nI (3 + a)) h hx
theorem l_chg3 (x : Nat) (h : GG S B) (hx : x < mK S) : zM E yX5_change wsX5_change 5 [.ref x0, .int (nI x), .int (nI 3)] (WTd E x0 h0 w0 t S) (WTd E x0 h0 w0 t S) (some (.int (eP (lP S 0 x)))) := l_chgP E x0 h0 w0 t S x 0 h hx (by decide)
theorem l_chg4 (x : Nat) (h : GG S B) (hx : x < mK S) : zM E yX5_change wsX5_change 5 [.ref x0, .int (nI x), .int (nI 4)] (WTd E x0 h0 w0 t S) (WTd E x0 h0 w0 t S) (some (.int (eP (lP S 1 x)))) := l_chgP E x0 h0 w0 t S x 1 h hx (by decide)
theorem l_chg3y (x p : Nat) (h : GG S B) (hx : x < mK S) (hp : lP S 0 x = p + 1) : zM E yX5_change wsX5_change 5 [.ref x0, .int (nI x), .int (nI 3)] (WTd E x0 h0 w0 t S) (WTd E x0 h0 w0 t S) (some (.int (nI p))) := by
  have m := l_chg3 E x0 h0 w0 t S x h hx
  rw [hp] at m; exact m
theorem l_chg3n (x : Nat) (h : GG S B) (hx : x < mK S) (hp : lP S 0 x = 0) : zM E yX5_change wsX5_change 5 [.ref x0, .int (nI x), .int (nI 3)] (WTd E x0 h0 w0 t S) (WTd E x0 h0 w0 t S) (some (.int (-5))) := by
  have m := l_chg3 E x0 h0 w0 t S x h hx
  rw [hp] at m; exact m
theorem l_chg4y (x p : Nat) (h : GG S B) (hx : x < mK S) (hp : lP S 1 x = p + 1) : zM E yX5_change wsX5_change 5 [.ref x0, .int (nI x), .int (nI 4)] (WTd E x0 h0 w0 t S) (WTd E x0 h0 w0 t S) (some (.int (nI p))) := by
  have m := l_chg4 E x0 h0 w0 t S x h hx
  rw [hp] at m; exact m
theorem l_chg4n (x : Nat) (h : GG S B) (hx : x < mK S) (hp : lP S 1 x = 0) : zM E yX5_change wsX5_change 5 [.ref x0, .int (nI x), .int (nI 4)] (WTd E x0 h0 w0 t S) (WTd E x0 h0 w0 t S) (some (.int (-5))) := by
  have m := l_chg4 E x0 h0 w0 t S x h hx
  rw [hp] at m; exact m
theorem l_chg5y (x : Nat) (h : GG S B) (hx : x < mK S) (hk : kN S x = 4) : zM E yX5_change wsX5_change 5 [.ref x0, .int (nI x), .int (nI 5)] (WTd E x0 h0 w0 t S) (WTd E x0 h0 w0 t S) (some (.int (nI (vN S x)))) := by
  rw [← (vN_e h hx (by rw [(kN_e h hx).1, hk])).1]
  exact l_chg E x0 h0 w0 t S x (nI 5) h hx
theorem l_chg5n (x : Nat) (h : GG S B) (hx : x < mK S) (hk : kN S x ≠ 4) : zM E yX5_change wsX5_change 5 [.ref x0, .int (nI x), .int (nI 5)] (WTd E x0 h0 w0 t S) (WTd E x0 h0 w0 t S) (some (.int (-5))) := by
  have m := l_chg E x0 h0 w0 t S x (nI 5) h hx
  have e : zChg S x (nI 5) = fA S (6 * x + 5) := rfl
  rw [e, gg_5 h hx (fun q => hk (kN_of (by decide) q))] at m
  exact m
theorem l_chg7 (x : Nat) (h : GG S B) (hx : x < mK S) : zM E yX5_change wsX5_change 5 [.ref x0, .int (nI x), .int (nI 7)] (WTd E x0 h0 w0 t S) (WTd E x0 h0 w0 t S) (some (.int (nI (zc (sup S x) (mK S))))) := l_chg E x0 h0 w0 t S x (nI 7) h hx
theorem l_chg8 (x : Nat) (h : GG S B) (hx : x < mK S) : zM E yX5_change wsX5_change 5 [.ref x0, .int (nI x), .int (nI 8)] (WTd E x0 h0 w0 t S) (WTd E x0 h0 w0 t S) (some (.int (nI (zc (dpt S x) (mK S))))) := l_chg E x0 h0 w0 t S x (nI 8) h hx
theorem l_chg9 (x : Nat) (h : GG S B) (hx : x < mK S) : zM E yX5_change wsX5_change 5 [.ref x0, .int (nI x), .int (nI 9)] (WTd E x0 h0 w0 t S) (WTd E x0 h0 w0 t S) (some (.int (-2))) := l_chg E x0 h0 w0 t S x (nI 9) h hx
theorem l_chgB (x : Nat) (h : GG S B) (hx : x = mK S) : zM E yX5_change wsX5_change 5 [.ref x0, .int (nI x), .int (nI 0)] (WTd E x0 h0 w0 t S) (WTd E x0 h0 w0 t S) (some (.int (-1))) := mX5_change_b E x0 h0 w0 t S (nI x) (nI 0) (gg_S h).1 (by have := gg_M h; exact or_lt (by omega) (by omega) (by omega))
theorem l_rest (x y : Nat) (h : GG S B) (hx : x < mK S) (hy : y < mK S) (hne : x ≠ y) : zM E yX5_restsOn wsX5_restsOn 5 [.ref x0, .int (nI x), .int (nI y)] (WTd E x0 h0 w0 t S) (WTd E x0 h0 w0 t S) (some (.int (zb (zrs (fA S) x y)))) := mX5_restsOn E x0 h0 w0 t S x y (gg_S h).1 hx hy hne
theorem l_restE (x : Nat) (h : GG S B) (hx : x < mK S) : zM E yX5_restsOn wsX5_restsOn 5 [.ref x0, .int (nI x), .int (nI x)] (WTd E x0 h0 w0 t S) (WTd E x0 h0 w0 t S) (some (.int (-2))) := mX5_restsOn_e E x0 h0 w0 t S x (gg_S h).1 hx
theorem l_restB (y : Nat) (h : GG S B) (hy : y = mK S) : zM E yX5_restsOn wsX5_restsOn 5 [.ref x0, .int (nI 0), .int (nI y)] (WTd E x0 h0 w0 t S) (WTd E x0 h0 w0 t S) (some (.int (-1))) := by
  have h60 := gg_M h
  by_cases c : 0 < mK S
  · exact mX5_restsOn_b2 E x0 h0 w0 t S 0 (nI y) (gg_S h).1 c (or_lt (by omega) (by omega) (by omega))
  · exact mX5_restsOn_b1 E x0 h0 w0 t S (nI 0) (nI y) (gg_S h).1 (or_lt (by omega) (by omega) (by omega))
theorem l_pndM (h : GG S B) : zM E yX5_pending wsX5_pending 5 [.ref x0, .int (-1)] (WTd E x0 h0 w0 t S) (WTd E x0 h0 w0 t S) (some (.int (-2))) := mX5_pending_b E x0 h0 w0 t S (-1) (gg_S h).1 (by decide)
theorem l_aut (a k : Nat) (h : GG S B) (ha : a < 4) (hk : k < 4) : zM E yX5_author wsX5_author 5 [.ref x0, .int (nI a), .int (nI k)] (WTd E x0 h0 w0 t S) (WTd E x0 h0 w0 t S) (some (.int (nI (cnA S a k)))) := by
  have m := mX5_author E x0 h0 w0 t S a (nI k) (gg_S h).1 ha
  have e : zAut S a (nI k) = nI (cnA S a k) := by
    unfold zAut
    rw [if_neg (nI_pos (by omega)), if_neg (fun q => by have := (nI_ltI (by decide) (by omega)).mp q; omega)]
    rfl
  rw [e] at m
  exact m
theorem l_autB (h : GG S B) : zM E yX5_author wsX5_author 5 [.ref x0, .int (nI 4), .int (nI 0)] (WTd E x0 h0 w0 t S) (WTd E x0 h0 w0 t S) (some (.int (-1))) := mX5_author_b E x0 h0 w0 t S (nI 4) (nI 0) (gg_S h).1 (by decide)
theorem l_autK (h : GG S B) : zM E yX5_author wsX5_author 5 [.ref x0, .int (nI 0), .int (nI 4)] (WTd E x0 h0 w0 t S) (WTd E x0 h0 w0 t S) (some (.int (-2))) := mX5_author E x0 h0 w0 t S 0 (nI 4) (gg_S h).1 (by decide)
theorem l_smv (v : Nat) (h : GG S B) (hv : v < 3) : zM E yX5_sum wsX5_sum 6 [.ref x0, .int (nI v)] (WTd E x0 h0 w0 t S) (WTd E x0 h0 w0 t S) (some (.int (smV S v))) := mX5_sum E x0 h0 w0 t S v (gg_S h).1 hv
theorem l_sumB (h : GG S B) : zM E yX5_sum wsX5_sum 6 [.ref x0, .int (nI 3)] (WTd E x0 h0 w0 t S) (WTd E x0 h0 w0 t S) (some (.int (-1))) := mX5_sum_b E x0 h0 w0 t S (nI 3) (gg_S h).1 (by decide)
/-! settings and cells -/
theorem zSe_in {S : zSt} {B i j : Nat} {l : Int32} (h : GG S B) (hi : i < uU S 0) (hj : j < uU S 1) : zSe S (nI i) (nI j) l = if l < 0 then -2 else zf (pK (pX S i j) l) (mK S) := by
  have u0 := gg_u h 0
  have u1 := gg_u h 1
  have e0 : zsa (rO S) (rU S) (nI i) = rO S i := zsa_in (u := uU S 0) (by omega) hi
  have e1 : zsa (cO S) (cU S) (nI j) = cO S j := zsa_in (u := uU S 1) (by omega) hj
  unfold zSe pX
  rw [e0, e1, if_neg (show ¬ rO S i < 0 from gg_O0 (a := 0) h (by decide) hi), if_neg (show ¬ cO S j < 0 from gg_O0 (a := 1) h (by decide) hj)]
theorem l_setY (i j n : Nat) (h : GG S B) (hi : i < uU S 0) (hj : j < uU S 1) (hn : n < kS S i j) : zM E yX5_setting wsX5_setting 5 [.ref x0, .int (nI i), .int (nI j), .int (nI n)] (WTd E x0 h0 w0 t S) (WTd E x0 h0 w0 t S) (some (.int (nI (sX S i j n)))) := by
  have m := mX5_setting E x0 h0 w0 t S (nI i) (nI j) (nI n) (gg_S h).1
  have h60 := gg_M h
  have hl : kS S i j ≤ mK S := zc_le _ _
  rw [zSe_in h hi hj, if_neg (nI_pos (by omega)), zf_ix (by omega) (sX_t h hn).1] at m
  exact m
theorem l_setN (i j n : Nat) (h : GG S B) (hi : i < uU S 0) (hj : j < uU S 1) (hn : kS S i j ≤ n) (hn2 : n < 100) : zM E yX5_setting wsX5_setting 5 [.ref x0, .int (nI i), .int (nI j), .int (nI n)] (WTd E x0 h0 w0 t S) (WTd E x0 h0 w0 t S) (some (.int (-5))) := by
  have m := mX5_setting E x0 h0 w0 t S (nI i) (nI j) (nI n) (gg_S h).1
  have h60 := gg_M h
  rw [zSe_in h hi hj, if_neg (nI_pos (by omega)), zf_no (fun q hq => pK_big (M := mK S) (by omega) (by omega) hq hn)] at m
  exact m
theorem l_setM (i j : Nat) (h : GG S B) (hi : i < uU S 0) (hj : j < uU S 1) : zM E yX5_setting wsX5_setting 5 [.ref x0, .int (nI i), .int (nI j), .int (-1)] (WTd E x0 h0 w0 t S) (WTd E x0 h0 w0 t S) (some (.int (-2))) := by
  have m := mX5_setting E x0 h0 w0 t S (nI i) (nI j) (-1) (gg_S h).1
  rw [zSe_in h hi hj, if_pos (by decide)] at m
  exact m
theorem l_setB (u : Nat) (h : GG S B) (hu : u = uU S 0) : zM E yX5_setting wsX5_setting 5 [.ref x0, .int (nI u), .int (nI 0), .int (nI 0)] (WTd E x0 h0 w0 t S) (WTd E x0 h0 w0 t S) (some (.int (-1))) := by
  have m := mX5_setting E x0 h0 w0 t S (nI u) (nI 0) (nI 0) (gg_S h).1
  have e : zSe S (nI u) (nI 0) (nI 0) = -1 := by
    have u0 := gg_u h 0
    have e0 : zsa (rO S) (rU S) (nI u) = -5 := zsa_u (u := uU S 0) (by omega) (by omega)
    unfold zSe
    rw [e0, if_pos (by decide)]
  rw [e] at m
  exact m
theorem zCe_in {S : zSt} {B i j v : Nat} (h : GG S B) (hv : v < 3) (hi : i < uU S 0) (hj : j < uU S 1) (h1 : vS S v 0 i = true) (h2 : vS S v 1 j = true) : zCe S (nI v) (nI (zc (vS S v 0) i)) (nI (zc (vS S v 1) j)) = zVV (bS S) (fA S) (mK S) (nI v) (rO S i) (cO S j) := by
  have u0 := gg_u h 0
  have u1 := gg_u h 1
  have e0 : zat (rO S) (pK (rSh S (nI v)) (nI (zc (vS S v 0) i))) (rU S) = rO S i := by
    rw [← zc_cg (n := i) (fun q _ => rSh_v (p := q) h hv)]
    exact zat_pK (u := uU S 0) (by omega) hi (by rw [rSh_v h hv]; exact h1)
  have e1 : zat (cO S) (pK (cSh S (nI v)) (nI (zc (vS S v 1) j))) (cU S) = cO S j := by
    rw [← zc_cg (n := j) (fun q _ => cSh_v (p := q) h hv)]
    exact zat_pK (u := uU S 1) (by omega) hj (by rw [cSh_v h hv]; exact h2)
  unfold zCe
  rw [e0, e1, if_neg (show ¬ rO S i < 0 from gg_O0 (a := 0) h (by decide) hi), if_neg (show ¬ cO S j < 0 from gg_O0 (a := 1) h (by decide) hj)]
theorem l_cell0 (i j : Nat) (h : GG S B) (hi : i < uU S 0) (hj : j < uU S 1) : zM E yX5_cell wsX5_cell 5 [.ref x0, .int (nI 0), .int (nI i), .int (nI j)] (WTd E x0 h0 w0 t S) (WTd E x0 h0 w0 t S) (some (.int (cV S i j))) := by
  have m := mX5_cell E x0 h0 w0 t S (nI 0) (nI i) (nI j) (gg_S h).1
  have e := zCe_in h (v := 0) (by decide) hi hj rfl rfl
  rw [zc_all (p := vS S 0 0) (fun _ _ => rfl), zc_all (p := vS S 0 1) (fun _ _ => rfl)] at e
  rw [e] at m
  exact m
theorem l_cell1 (i j p q : Nat) (h : GG S B) (hi : i < uU S 0) (hj : j < uU S 1) (h1 : Dm S 0 i = false) (h2 : Dm S 1 j = false) (hp : p = zc (nDm S 0) i) (hq : q = zc (nDm S 1) j) : zM E yX5_cell wsX5_cell 5 [.ref x0, .int (nI 1), .int (nI p), .int (nI q)] (WTd E x0 h0 w0 t S) (WTd E x0 h0 w0 t S) (some (.int (cV S i j))) := by
  subst hp; subst hq
  have m := mX5_cell E x0 h0 w0 t S (nI 1) (nI (zc (nDm S 0) i)) (nI (zc (nDm S 1) j)) (gg_S h).1
  have e := zCe_in h (v := 1) (by decide) hi hj (by rw [vS_1]; show (!Dm S 0 i) = true; rw [h1]; rfl) (by rw [vS_1]; show (!Dm S 1 j) = true; rw [h2]; rfl)
  rw [vS_1, vS_1] at e
  rw [e] at m
  exact m
theorem l_cell2 (i j p q : Nat) (h : GG S B) (hi : i < uU S 0) (hj : j < uU S 1) (h1 : Nw S 0 i = false) (h2 : Nw S 1 j = false) (hp : p = zc (nNw S 0) i) (hq : q = zc (nNw S 1) j) : zM E yX5_cell wsX5_cell 5 [.ref x0, .int (nI 2), .int (nI p), .int (nI q)] (WTd E x0 h0 w0 t S) (WTd E x0 h0 w0 t S) (some (.int (bse S i j))) := by
  subst hp; subst hq
  have m := mX5_cell E x0 h0 w0 t S (nI 2) (nI (zc (nNw S 0) i)) (nI (zc (nNw S 1) j)) (gg_S h).1
  have e := zCe_in h (v := 2) (by decide) hi hj (by rw [vS_2]; show (!Nw S 0 i) = true; rw [h1]; rfl) (by rw [vS_2]; show (!Nw S 1 j) = true; rw [h2]; rfl)
  rw [vS_2, vS_2] at e
  rw [e] at m
  exact m
theorem l_cellU (u : Nat) (h : GG S B) (hu : u = uU S 0) : zM E yX5_cell wsX5_cell 5 [.ref x0, .int (nI 0), .int (nI u), .int (nI 0)] (WTd E x0 h0 w0 t S) (WTd E x0 h0 w0 t S) (some (.int (-1))) := by
  have m := mX5_cell E x0 h0 w0 t S (nI 0) (nI u) (nI 0) (gg_S h).1
  have u0 := gg_u h 0
  have e0 : zat (rO S) (pK (rSh S (nI 0)) (nI u)) (rU S) = -5 := zat_no (fun q hq => pK_big (M := uU S 0) (by omega) (by omega) hq (by have := zc_le (rSh S (nI 0)) (uU S 0); omega))
  have e : zCe S (nI 0) (nI u) (nI 0) = -1 := by unfold zCe; rw [e0, if_pos (by decide)]
  rw [e] at m
  exact m
theorem l_cellV (u : Nat) (h : GG S B) (hu : u = zc (nDm S 1) (uU S 1)) : zM E yX5_cell wsX5_cell 5 [.ref x0, .int (nI 1), .int (nI 0), .int (nI u)] (WTd E x0 h0 w0 t S) (WTd E x0 h0 w0 t S) (some (.int (-1))) := by
  have m := mX5_cell E x0 h0 w0 t S (nI 1) (nI 0) (nI u) (gg_S h).1
  have u1 := gg_u h 1
  have hl := zc_le (nDm S 1) (uU S 1)
  have e0 : zat (cO S) (pK (cSh S (nI 1)) (nI u)) (cU S) = -5 := zat_no (fun q hq => pK_big (M := uU S 1) (by omega) (by omega) hq (by rw [zc_cg (q := vS S 1 1) (n := uU S 1) (fun q _ => cSh_v (p := q) (v := 1) h (by decide)), vS_1]; omega))
  have e : zCe S (nI 1) (nI 0) (nI u) = -1 := by
    unfold zCe
    rw [e0]
    split
    · rfl
    · rfl
  rw [e] at m
  exact m
theorem l_cellM (h : GG S B) : zM E yX5_cell wsX5_cell 5 [.ref x0, .int (nI 2), .int (-1), .int (nI 0)] (WTd E x0 h0 w0 t S) (WTd E x0 h0 w0 t S) (some (.int (-1))) := by
  have m := mX5_cell E x0 h0 w0 t S (nI 2) (-1) (nI 0) (gg_S h).1
  have u0 := gg_u h 0
  have e0 : zat (rO S) (pK (rSh S (nI 2)) (-1)) (rU S) = -5 := zat_no (fun q hq => pK_m1 (M := uU S 0) (by omega) hq)
  have e : zCe S (nI 2) (-1) (nI 0) = -1 := by unfold zCe; rw [e0, if_pos (by decide)]
  rw [e] at m
  exact m
theorem l_cellW (h : GG S B) : zM E yX5_cell wsX5_cell 5 [.ref x0, .int (nI 3), .int (nI 0), .int (nI 0)] (WTd E x0 h0 w0 t S) (WTd E x0 h0 w0 t S) (some (.int (-1))) := by
  have m := mX5_cell E x0 h0 w0 t S (nI 3) (nI 0) (nI 0) (gg_S h).1
  have e0 : zat (rO S) (pK (rSh S (nI 3)) (nI 0)) (rU S) = -5 := zat_no (fun q hq => rfl)
  have e : zCe S (nI 3) (nI 0) (nI 0) = -1 := by unfold zCe; rw [e0, if_pos (by decide)]
  rw [e] at m
  exact m
end API
section COUNT
variable (E : zE) (x0 h0 h1 w0 w1 : Nat) (t : Nat → Nat) (S : zSt) (o kp ln : Nat) (ps : zPs) {B : Nat}
theorem l_cnt (wh : Int32) (h : GG S B) : zM E yX5_count wsX5_count 5 [.ref x0, .int wh] (WCd E x0 h0 h1 w0 w1 t S o kp ln ps) (WCd E x0 h0 h1 w0 w1 t S o kp ln ps) (some (.int (zCt S kp ln wh))) := mX5_count E x0 h0 h1 w0 w1 t S o kp (fun _ => 0) ln ps wh (gg_S h).1
theorem l_cnt0 (h : GG S B) : zM E yX5_count wsX5_count 5 [.ref x0, .int (nI 0)] (WCd E x0 h0 h1 w0 w1 t S o kp ln ps) (WCd E x0 h0 h1 w0 w1 t S o kp ln ps) (some (.int (nI (mK S)))) := l_cnt E x0 h0 h1 w0 w1 t S o kp ln ps (nI 0) h
theorem zCt_k (S : zSt) (kp ln k : Nat) (hk : k < 4) : zCt S kp ln (nI (k + 1)) = nI (cnS S k) := by
  rcases (show k = 0 ∨ k = 1 ∨ k = 2 ∨ k = 3 by omega) with e | e | e | e <;> subst e <;> rfl
theorem l_cntK (k : Nat) (h : GG S B) (hk : k < 4) : zM E yX5_count wsX5_count 5 [.ref x0, .int (nI (k + 1))] (WCd E x0 h0 h1 w0 w1 t S o kp ln ps) (WCd E x0 h0 h1 w0 w1 t S o kp ln ps) (some (.int (nI (cnS S k)))) := by
  rw [← zCt_k S kp ln k hk]
  exact l_cnt E x0 h0 h1 w0 w1 t S o kp ln ps (nI (k + 1)) h
theorem l_cntK' (k : Nat) (h : GG S B) (hk : k < 4) : zM E yX5_count wsX5_count 5 [.ref x0, .int (nI (1 + k))] (WCd E x0 h0 h1 w0 w1 t S o kp ln ps) (WCd E x0 h0 h1 w0 w1 t S o kp ln ps) (some (.int (nI (cnS S k)))) := by
  rw [Nat.add_comm 1 k]
  exact l_cntK E x0 h0 h1 w0 w1 t S o kp ln ps k h hk
theorem l_cnt5 (h : GG S B) : zM E yX5_count wsX5_count 5 [.ref x0, .int (nI 5)] (WCd E x0 h0 h1 w0 w1 t S o kp ln ps) (WCd E x0 h0 h1 w0 w1 t S o kp ln ps) (some (.int (zb (tK S)))) := l_cnt E x0 h0 h1 w0 w1 t S o kp ln ps (nI 5) h
theorem l_cnt5y (h : GG S B) (hb : tK S = true) : zM E yX5_count wsX5_count 5 [.ref x0, .int (nI 5)] (WCd E x0 h0 h1 w0 w1 t S o kp ln ps) (WCd E x0 h0 h1 w0 w1 t S o kp ln ps) (some (.int (nI 1))) := by
  have m := l_cnt5 E x0 h0 h1 w0 w1 t S o kp ln ps h
  rw [hb] at m; exact m
theorem l_cnt5n (h : GG S B) (hb : tK S = false) : zM E yX5_count wsX5_count 5 [.ref x0, .int (nI 5)] (WCd E x0 h0 h1 w0 w1 t S o kp ln ps) (WCd E x0 h0 h1 w0 w1 t S o kp ln ps) (some (.int (nI 0))) := by
  have m := l_cnt5 E x0 h0 h1 w0 w1 t S o kp ln ps h
  rw [hb] at m; exact m
theorem zc_lnsI {S : zSt} {B a : Nat} (h : GG S B) (ha : a < 2) : zc (pPO (fA S) (nI (2 * a))) (mK S) = zc (Nw S a) (uU S a) := by
  obtain ⟨⟨s, hR⟩, -⟩ := id h
  have e : ∀ p, p < uU S a → (!decide (zf (pI S a p) (mK S) < 0)) = Nw S a p := fun p _ => by rw [sh_I h]; cases Nw S a p <;> rfl
  rw [← zc_cg e]
  rcases ax2 ha with q | q <;> subst q
  · exact RR_cntR hR (kd := 0) (Or.inl rfl)
  · exact RR_cntC hR (kd := 2) (Or.inl rfl)
theorem zc_lnsR {S : zSt} {B a : Nat} (h : GG S B) (ha : a < 2) : zc (pPO (fA S) (nI (2 * a + 1))) (mK S) = zc (Dm S a) (uU S a) := by
  obtain ⟨⟨s, hR⟩, -⟩ := id h
  have e : ∀ p, p < uU S a → (!decide (zf (pR S a p) (mK S) < 0)) = Dm S a p := fun p _ => by rw [sh_R h]; cases Dm S a p <;> rfl
  rw [← zc_cg e]
  rcases ax2 ha with q | q <;> subst q
  · exact RR_cntR hR (kd := 1) (Or.inr rfl)
  · exact RR_cntC hR (kd := 3) (Or.inr rfl)
theorem l_cnt6 (h : GG S B) : zM E yX5_count wsX5_count 5 [.ref x0, .int (nI 6)] (WCd E x0 h0 h1 w0 w1 t S o kp ln ps) (WCd E x0 h0 h1 w0 w1 t S o kp ln ps) (some (.int (nI (zc (Nw S 0) (uU S 0) + zc (Nw S 1) (uU S 1))))) := by
  rw [← zc_lnsI h (a := 0) (by decide), ← zc_lnsI h (a := 1) (by decide)]
  exact l_cnt E x0 h0 h1 w0 w1 t S o kp ln ps (nI 6) h
theorem l_cnt7 (h : GG S B) : zM E yX5_count wsX5_count 5 [.ref x0, .int (nI 7)] (WCd E x0 h0 h1 w0 w1 t S o kp ln ps) (WCd E x0 h0 h1 w0 w1 t S o kp ln ps) (some (.int (nI (zc (Dm S 0) (uU S 0) + zc (Dm S 1) (uU S 1))))) := by
  rw [← zc_lnsR h (a := 0) (by decide), ← zc_lnsR h (a := 1) (by decide)]
  exact l_cnt E x0 h0 h1 w0 w1 t S o kp ln ps (nI 7) h
theorem l_cnt8 (h : GG S B) : zM E yX5_count wsX5_count 5 [.ref x0, .int (nI 8)] (WCd E x0 h0 h1 w0 w1 t S o kp ln ps) (WCd E x0 h0 h1 w0 w1 t S o kp ln ps) (some (.int (nI (zc (pPO (fA S) (nI 4)) (mK S))))) := l_cnt E x0 h0 h1 w0 w1 t S o kp ln ps (nI 8) h
theorem l_cntB (h : GG S B) : zM E yX5_count wsX5_count 5 [.ref x0, .int (nI 11)] (WCd E x0 h0 h1 w0 w1 t S o kp ln ps) (WCd E x0 h0 h1 w0 w1 t S o kp ln ps) (some (.int (-2))) := l_cnt E x0 h0 h1 w0 w1 t S o kp ln ps (nI 11) h
end COUNT
