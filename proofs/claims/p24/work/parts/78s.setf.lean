/-! what setting leads to -/
theorem sX_at {S : zSt} {B i j y n : Nat} (h : GG S B) (hy : y < mK S) (hp : pX S i j y = true) (e : zc (pX S i j) y = n) : sX S i j n = y := by
  subst e
  have := gg_M h
  exact zix_at0 (by omega) hy hp
theorem vN_of {S : zSt} {x v : Nat} (hv : v < 100000) (e : fA S (6 * x + 5) = nI v) : vN S x = v := by unfold vN; rw [e, nI_clamp (by omega)]
theorem slR {S : zSt} {B i : Nat} (h : GG S B) (hi : i < uU S 0) : ∃ q, q < 12 ∧ rO S i = nI q := gg_O h (a := 0) (by decide) hi
theorem slC {S : zSt} {B j : Nat} (h : GG S B) (hj : j < uU S 1) : ∃ q, q < 8 ∧ cO S j = nI q := (gg_RO h (a := 1) (by decide)).1 j (Nat.lt_of_lt_of_le hj (gg_u1 h))
def stU (S : zSt) (i j v : Nat) : zSt := zBs (zFa S (zMk (fA S) (pS (fA S) (rO S i) (cO S j)) (nI 3) (mK S))) (zPb (bS S) (rO S i) (cO S j) (nI v))
theorem SetU {S : zSt} {B i j v : Nat} (h : GG S B) (hi : i < uU S 0) (hj : j < uU S 1) : kS (stU S i j v) i j = 0 ∧ cV (stU S i j v) i j = nI v := by
  have key : ∀ x, x < mK S → pS (fA (stU S i j v)) (rO S i) (cO S j) x = false := fun x hx => by
    have e2 : fA (stU S i j v) (6 * x + 2) = if pS (fA S) (rO S i) (cO S j) x = true then nI 3 else fA S (6 * x + 2) := zMk_at2 hx
    have o : ∀ w, w < 6 → w ≠ 2 → fA (stU S i j v) (6 * x + w) = fA S (6 * x + w) := fun w h1 h2 => zMk_oth h1 h2
    have o0 : fA (stU S i j v) (6 * x) = fA S (6 * x) := o 0 (by decide) (by decide)
    cases c : pS (fA S) (rO S i) (cO S j) x with
    | true =>
      rw [if_pos c] at e2
      unfold pS
      rw [e2, decide_eq_false (by decide)]
      rfl
    | false =>
      rw [if_neg (by rw [c]; decide)] at e2
      rw [← c]
      unfold pS
      rw [e2, o0, o 3 (by decide) (by decide), o 4 (by decide) (by decide)]
  obtain ⟨q, hq, eq⟩ := slR h hi
  obtain ⟨w, hw, ew⟩ := slC h hj
  refine ⟨zc_zero key, ?_⟩
  have e : cV (stU S i j v) i j = zBa (zPb (bS S) (rO S i) (cO S j) (nI v)) (rO S i) (cO S j) := zVU_nil key
  rw [e, eq, ew, zPb_in hq hw, zBa_in hq hw, upd_eq]
def stB (S : zSt) (T v : Nat) : zSt := zFa S (upd (upd (fA S) (6 * T + 2) (nI 3)) (6 * T + 5) (nI v))
theorem stB_w {S : zSt} {T v x w : Nat} (hx : x ≠ T) (hw : w < 6) : fA (stB S T v) (6 * x + w) = fA S (6 * x + w) := by
  show upd (upd (fA S) (6 * T + 2) (nI 3)) (6 * T + 5) (nI v) (6 * x + w) = _
  rw [upd_ne (by omega), upd_ne (by omega)]
theorem pX_B {S : zSt} {T v i j x : Nat} : pX (stB S T v) i j x = (pX S i j x && !decide (x = T)) := by
  by_cases e : x = T
  · subst e
    have e2 : fA (stB S x v) (6 * x + 2) = nI 3 := by
      show upd (upd (fA S) (6 * x + 2) (nI 3)) (6 * x + 5) (nI v) (6 * x + 2) = _
      rw [upd_ne (by omega), upd_eq]
    rw [decide_eq_true rfl]
    show pS (fA (stB S x v)) _ _ x = _
    unfold pS
    rw [e2, decide_eq_false (by decide)]
    simp
  · rw [decide_eq_false e]
    show pS (fA (stB S T v)) (rO S i) (cO S j) x = _
    rw [pS_cg (fun w hw => stB_w e hw)]
    simp [pX]
theorem SetB {S : zSt} {B B1 i j v : Nat} (h : GG S B) (h1 : GG (stB S (sX S i j (kS S i j - 1)) v) B1) (hi : i < uU S 0) (hj : j < uU S 1) (hk : 0 < kS S i j) (hv : bN S (sX S i j (kS S i j - 1)) = v) : kS (stB S (sX S i j (kS S i j - 1)) v) i j + 1 = kS S i j ∧ cV (stB S (sX S i j (kS S i j - 1)) v) i j = nI v := by
  obtain ⟨t1, t2, t3⟩ := sX_t h (show kS S i j - 1 < kS S i j by omega)
  have hkk : kS (stB S (sX S i j (kS S i j - 1)) v) i j + 1 = kS S i j := by
    have := zc_rm (Q := pX S i j) t2 t1
    have e : kS (stB S (sX S i j (kS S i j - 1)) v) i j = zc (fun x => pX S i j x && !decide (x = sX S i j (kS S i j - 1))) (mK S) := zc_cg (fun x _ => pX_B)
    rw [e]
    exact this.symm
  refine ⟨hkk, ?_⟩
  rcases Nat.eq_zero_or_pos (kS (stB S (sX S i j (kS S i j - 1)) v) i j) with z | z
  · rw [cV_0 h1 z]
    have k1 : kS S i j = 1 := by omega
    have e : bse S i j = nI v := by
      rw [← bse_p h hi hj hk, ← hv, k1]
    exact e
  · rw [cV_k h1 z]
    obtain ⟨n, hn⟩ : ∃ n, kS (stB S (sX S i j (kS S i j - 1)) v) i j = n + 1 := ⟨kS (stB S (sX S i j (kS S i j - 1)) v) i j - 1, by omega⟩
    rw [hn]
    have hnk : n < kS S i j := by omega
    obtain ⟨y1, y2, y3⟩ := sX_t h hnk
    have hlt : sX S i j n < sX S i j (kS S i j - 1) := sX_lt h (by omega) (by omega)
    have ey : sX (stB S (sX S i j (kS S i j - 1)) v) i j n = sX S i j n := by
      refine sX_at h1 y1 ?_ ?_
      · rw [pX_B, y2, decide_eq_false (by omega)]; rfl
      · refine Eq.trans (zc_cg (q := pX S i j) (fun x hx => ?_)) y3
        rw [pX_B, decide_eq_false (by omega)]; simp
    show nI (vN _ (sX (stB S (sX S i j (kS S i j - 1)) v) i j n)) = nI v
    rw [ey]
    have e5 : vN (stB S (sX S i j (kS S i j - 1)) v) (sX S i j n) = vN S (sX S i j n) := by
      unfold vN
      rw [stB_w (by omega) (by decide)]
    rw [e5]
    have := bN_b h hi hj (show kS S i j - 1 < kS S i j by omega) (by omega)
    rw [hv, show kS S i j - 1 = n + 1 by omega] at this
    exact this.symm
def stV (S : zSt) (T v : Nat) : zSt := zFa S (upd (fA S) (6 * T + 5) (nI v))
theorem stV_w {S : zSt} {T v x w : Nat} (hw : w < 5) : fA (stV S T v) (6 * x + w) = fA S (6 * x + w) := by
  show upd (fA S) (6 * T + 5) (nI v) (6 * x + w) = _
  rw [upd_ne (by omega)]
theorem pX_V {S : zSt} {T v i j : Nat} : pX (stV S T v) i j = pX S i j := by
  funext x
  show pS (fA (stV S T v)) (rO S i) (cO S j) x = pS (fA S) (rO S i) (cO S j) x
  unfold pS
  rw [stV_w (by decide), show fA (stV S T v) (6 * x) = fA S (6 * x) from stV_w (w := 0) (by decide), stV_w (by decide), stV_w (by decide)]
theorem SetV {S : zSt} {B B1 i j v : Nat} (h : GG S B) (h1 : GG (stV S (sX S i j (kS S i j - 1)) v) B1) (hk : 0 < kS S i j) (hv : v < 10000) : kS (stV S (sX S i j (kS S i j - 1)) v) i j = kS S i j ∧ cV (stV S (sX S i j (kS S i j - 1)) v) i j = nI v := by
  obtain ⟨t1, t2, t3⟩ := sX_t h (show kS S i j - 1 < kS S i j by omega)
  have hkk : kS (stV S (sX S i j (kS S i j - 1)) v) i j = kS S i j := by
    unfold kS
    rw [pX_V]; rfl
  refine ⟨hkk, ?_⟩
  rw [cV_k h1 (by omega), hkk]
  obtain ⟨n, hn⟩ : ∃ n, kS S i j = n + 1 := ⟨kS S i j - 1, by omega⟩
  have ex : sX (stV S (sX S i j (kS S i j - 1)) v) i j n = sX S i j (kS S i j - 1) := by
    refine sX_at h1 t1 (by rw [pX_V]; exact t2) ?_
    rw [pX_V, t3]; omega
  have e : blw (stV S (sX S i j (kS S i j - 1)) v) i j (kS S i j) = nI (vN (stV S (sX S i j (kS S i j - 1)) v) (sX (stV S (sX S i j (kS S i j - 1)) v) i j n)) := by
    rw [hn]; rfl
  rw [e, ex]
  rw [vN_of (v := v) (by omega) (by
    show upd (fA S) (6 * sX S i j (kS S i j - 1) + 5) (nI v) (6 * sX S i j (kS S i j - 1) + 5) = nI v
    rw [upd_eq])]
theorem SetT {S : zSt} {B B1 i j v : Nat} {au : Int32} (h : GG S B) (h1 : GG (zNew S (nI 4) au (rO S i) (cO S j) (nI v)) B1) (hv : v < 10000) : kS (zNew S (nI 4) au (rO S i) (cO S j) (nI v)) i j = kS S i j + 1 ∧ cV (zNew S (nI 4) au (rO S i) (cO S j) (nI v)) i j = nI v := by
  obtain ⟨m0, m1, m2, m3, m4, m5⟩ := zAdd_M (g := fA S) (M := mK S) (kd := nI 4) (au := au) (r := rO S i) (c := cO S j) (v := nI v)
  have hp : pX (zNew S (nI 4) au (rO S i) (cO S j) (nI v)) i j (mK S) = true := by
    show pS (zAdd (fA S) (mK S) (nI 4) au (rO S i) (cO S j) (nI v)) (rO S i) (cO S j) (mK S) = true
    unfold pS
    rw [m0, m2, m3, m4]
    simp [nI_0]
  have hc : zc (pX (zNew S (nI 4) au (rO S i) (cO S j) (nI v)) i j) (mK S) = kS S i j := zc_cg (fun x hx => pS_cg (fun w hw => zAdd_w hx hw))
  have hk : kS (zNew S (nI 4) au (rO S i) (cO S j) (nI v)) i j = kS S i j + 1 := by
    show zc (pX (zNew S (nI 4) au (rO S i) (cO S j) (nI v)) i j) (mK S + 1) = _
    rw [zc_y hp, hc]
  refine ⟨hk, ?_⟩
  rw [cV_k h1 (by omega), hk]
  have ex : sX (zNew S (nI 4) au (rO S i) (cO S j) (nI v)) i j (kS S i j) = mK S := sX_at h1 (Nat.lt_succ_self _) hp hc
  show nI (vN _ (sX (zNew S (nI 4) au (rO S i) (cO S j) (nI v)) i j (kS S i j))) = nI v
  rw [ex]
  exact congrArg nI (vN_of (S := zNew S (nI 4) au (rO S i) (cO S j) (nI v)) (x := mK S) (v := v) (by omega) m5)
