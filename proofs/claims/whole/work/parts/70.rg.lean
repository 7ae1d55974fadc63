/-! pairs: what is told -/
theorem ltI_ne {x : Int32} {n j : Nat} (hn : n < 100000) (h : x < 0 ∨ (¬ x < 0 ∧ nI n < x)) (hj : j ≤ n) : ¬ x = nI j := by
  intro e
  subst e
  rcases h with h | ⟨-, h⟩
  · exact nI_pos (by omega) h
  · rw [Int32.lt_iff_toInt_lt, nI_toInt (by omega), nI_toInt (by omega)] at h
    omega
theorem zsa_out {f : Nat → Int32} {u : Nat} {x : Int32} (h : x < 0 ∨ (¬ x < 0 ∧ nI u ≤ x)) : zsa f u x = -5 := if_pos (h.imp id (fun q => q.2))
theorem zsa_in {f : Nat → Int32} {u i : Nat} (hu : u < 100000) (hi : i < u) : zsa f u (nI i) = f i := by
  unfold zsa
  rw [if_neg, nI_clamp (by omega)]
  rintro (q | q)
  · exact nI_pos (by omega) q
  · exact absurd ((nI_leI (by omega) (by omega)).mp q) (by omega)
section READS
variable (E : zE) (x0 h0 w0 : Nat) (t : Nat → Nat) (a : Nat → Nat) (kp ty pl : Nat) (gd : Bool) (od : Nat) {S : zSt} {s : zMs} {B : Nat}
def prR (E : zE) (x0 h0 w0 : Nat) (t : Nat → Nat) (a : Nat → Nat) (kp ty pl : Nat) (gd : Bool) (od : Nat) (S : zSt) (s : zMs) (y5 : MethodName) (ws5 : List Cond) (d5 : Nat) (y6 : MethodName) (ws6 : List Cond) (d6 : Nat) (As : List Value) : Prop :=
  ∃ v : Int32, zM E y5 ws5 d5 (.ref x0 :: As) (WTd E x0 h0 w0 t S) (WTd E x0 h0 w0 t S) (some (.int v)) ∧ zM E y6 ws6 d6 (.ref (a 0) :: As) (WMd E a kp ty pl gd od s) (WMd E a kp ty pl gd od s) (some (.int v))
theorem pr_size (h : RR S s B) (v ax : Int32) : prR E x0 h0 w0 t a kp ty pl gd od S s yX5_size wsX5_size 5 yX6_size wsX6_size 7 [.int v, .int ax] := by
  rcases z_inout' v 2 (by decide) with c | ⟨k, hk, e⟩
  · exact ⟨-1, mX5_size_b1 E x0 h0 w0 t S v ax h.1.1.1 c, mX6_size_b1 E a kp ty pl gd od (nU s) (nS s) (nN s) (nX s) (nM s) (nT s) (nB s) (nK s) (nY s) (nZ s) (nR s) (nC s) (nV s) v ax h.1.2.1 c⟩
  · subst e
    by_cases h0' : ax = 0
    · have e0 : ax = nI 0 := h0'.trans nI_0.symm
      subst e0
      have m := mX6_size_0 E a kp ty pl gd od (nU s) (nS s) (nN s) (nX s) (nM s) (nT s) (nB s) (nK s) (nY s) (nZ s) (nR s) (nC s) (nV s) k h.1.2.1 hk
      have q := RR_size0 h hk
      unfold tVw at q
      rw [← q] at m
      exact ⟨_, mX5_size_r E x0 h0 w0 t S k h.1.1.1 hk, m⟩
    · by_cases h1' : ax = nI 1
      · subst h1'
        have m := mX6_size_1 E a kp ty pl gd od (nU s) (nS s) (nN s) (nX s) (nM s) (nT s) (nB s) (nK s) (nY s) (nZ s) (nR s) (nC s) (nV s) k h.1.2.1 hk
        have q := RR_size1 h hk
        unfold tVw at q
        rw [← q] at m
        exact ⟨_, mX5_size_c E x0 h0 w0 t S k h.1.1.1 hk, m⟩
      · exact ⟨-1, mX5_size_b2 E x0 h0 w0 t S k ax h.1.1.1 hk h0' h1', mX6_size_b2 E a kp ty pl gd od (nU s) (nS s) (nN s) (nX s) (nM s) (nT s) (nB s) (nK s) (nY s) (nZ s) (nR s) (nC s) (nV s) k ax h.1.2.1 hk (z_ax2 h0' h1')⟩
theorem pK_neg {p : Nat → Bool} {x : Int32} (hx : x < 0) {n : Nat} (hn : n < 100000) : ∀ j, j < n → pK p x j = false := by
  intro j hj
  unfold pK
  have := zc_le p j
  rw [decide_eq_false (fun q => by rw [← q] at hx; exact nI_pos (by omega) hx)]
  simp
theorem zat_f {f : Nat → Int32} {p : Nat → Bool} {n : Nat} (h : ¬ zix p n < n) : zat f p n = -5 := if_neg h
theorem zat_t {f : Nat → Int32} {p : Nat → Bool} {n : Nat} (h : zix p n < n) : zat f p n = f (zix p n) := if_pos h
theorem zCe_1 {S : zSt} {vw r c : Int32} (h : zat (rO S) (pK (rSh S vw) r) (rU S) < 0) : zCe S vw r c = -1 := if_pos h
theorem zCe_2 {S : zSt} {vw r c : Int32} (h : zat (cO S) (pK (cSh S vw) c) (cU S) < 0) : zCe S vw r c = -1 := by
  unfold zCe
  by_cases q : zat (rO S) (pK (rSh S vw) r) (rU S) < 0
  · rw [if_pos q]
  · rw [if_neg q, if_pos h]
theorem pr_cell (h : RR S s B) (v rr c : Int32) : prR E x0 h0 w0 t a kp ty pl gd od S s yX5_cell wsX5_cell 5 yX6_cell wsX6_cell 7 [.int v, .int rr, .int c] := by
  have h12 := h.1.1.1.1
  have h8 := h.1.1.1.2.1
  have e0 := h.2.1.1
  have e1 := h.2.1.2.1
  have m5 := mX5_cell E x0 h0 w0 t S v rr c h.1.1.1
  rcases z_inout' v 2 (by decide) with b | ⟨k, hk, e⟩
  · have sh : ∀ p, rSh S v p = false := by
      intro p
      unfold rSh pSh
      rw [if_neg (ltI_ne (by decide) b (by decide)), if_neg (ltI_ne (by decide) b (by decide)), if_neg (ltI_ne (by decide) b (by decide))]
    rw [zCe_1 (by rw [zat_no (fun j hj => by unfold pK; rw [sh]; rfl)]; decide)] at m5
    exact ⟨-1, m5, mX6_cell_b1 E a kp ty pl gd od (nU s) (nS s) (nN s) (nX s) (nM s) (nT s) (nB s) (nK s) (nY s) (nZ s) (nR s) (nC s) (nV s) v rr c h.1.2.1 b⟩
  · subst e
    by_cases hr : rr < 0
    · rw [zCe_1 (by rw [zat_no (pK_neg hr (by omega))]; decide)] at m5
      exact ⟨-1, m5, mX6_cell_b2 E a kp ty pl gd od (nU s) (nS s) (nN s) (nX s) (nM s) (nT s) (nB s) (nK s) (nY s) (nZ s) (nR s) (nC s) (nV s) k rr c h.1.2.1 hk hr⟩
    · by_cases hc : c < 0
      · rw [zCe_2 (by rw [zat_no (pK_neg hc (by omega))]; decide)] at m5
        exact ⟨-1, m5, mX6_cell_b3 E a kp ty pl gd od (nU s) (nS s) (nN s) (nX s) (nM s) (nT s) (nB s) (nK s) (nY s) (nZ s) (nR s) (nC s) (nV s) k rr c h.1.2.1 hk hr hc⟩
      · obtain ⟨i, hi, ei⟩ := z_pos rr hr
        obtain ⟨j, hj, ej⟩ := z_pos c hc
        subst ei; subst ej
        have q0 : zix (pK (rSh S (nI k)) (nI i)) (rU S) = zix (pK (fun p => tVw s k 0 p) (nI i)) (rU S) := zix_cg (pK_cg (fun p hp => RR_rSh h hk hp))
        have q1 : zix (pK (cSh S (nI k)) (nI j)) (cU S) = zix (pK (fun p => tVw s k 1 p) (nI j)) (cU S) := zix_cg (pK_cg (fun p hp => RR_cSh h hk hp))
        by_cases f0 : zix (pK (fun p => tVw s k 0 p) (nI i)) (rU S) < rU S
        · by_cases f1 : zix (pK (fun p => tVw s k 1 p) (nI j)) (cU S) < cU S
          · have n0 : ¬ rO S (zix (pK (fun p => tVw s k 0 p) (nI i)) (rU S)) < 0 := h.1.1.2.1 _ (by omega)
            have n1 : ¬ cO S (zix (pK (fun p => tVw s k 1 p) (nI j)) (cU S)) < 0 := h.1.1.2.2 _ (by omega)
            have ev : zCe S (nI k) (nI i) (nI j) = tVv s k (zix (pK (fun p => tVw s k 0 p) (nI i)) (rU S)) (zix (pK (fun p => tVw s k 1 p) (nI j)) (cU S)) := by
              unfold zCe
              rw [zat_t (by rw [q0]; exact f0), zat_t (by rw [q1]; exact f1), q0, q1, if_neg n0, if_neg n1]
              exact RR_VV h hk f0 f1
            rw [ev] at m5
            refine ⟨_, m5, mX6_cell E a kp ty pl gd od (nU s) (nS s) (nN s) (nX s) (nM s) (nT s) (nB s) (nK s) (nY s) (nZ s) (nR s) (nC s) (nV s) k i j _ _ h.1.2.1 h.1.2.2.1 hk hi hj ?_ (by rw [e0]; exact f0) ?_ (by rw [e1]; exact f1)⟩
            · rw [e0]; exact zf_ix (by omega) f0
            · rw [e1]; exact zf_ix (by omega) f1
          · rw [zCe_2 (by rw [zat_f (by rw [q1]; exact f1)]; decide)] at m5
            refine ⟨-1, m5, mX6_cell_n2 E a kp ty pl gd od (nU s) (nS s) (nN s) (nX s) (nM s) (nT s) (nB s) (nK s) (nY s) (nZ s) (nR s) (nC s) (nV s) k i j (zix (pK (fun p => tVw s k 0 p) (nI i)) (rU S)) h.1.2.1 hk hi hj ?_ (by rw [e0]; exact f0) ?_⟩
            · rw [e0]; exact zf_ix (by omega) f0
            · rw [e1]; exact (zf_nix (by omega) f1).symm ▸ (by decide)
        · rw [zCe_1 (by rw [zat_f (by rw [q0]; exact f0)]; decide)] at m5
          refine ⟨-1, m5, mX6_cell_n1 E a kp ty pl gd od (nU s) (nS s) (nN s) (nX s) (nM s) (nT s) (nB s) (nK s) (nY s) (nZ s) (nR s) (nC s) (nV s) k i j h.1.2.1 hk hi hj ?_⟩
          rw [e0]; exact (zf_nix (by omega) f0).symm ▸ (by decide)
theorem pr_line (h : RR S s B) (ax p wh : Int32) : prR E x0 h0 w0 t a kp ty pl gd od S s yX5_line wsX5_line 5 yX6_line wsX6_line 7 [.int ax, .int p, .int wh] := by
  have h12 := h.1.1.1.1
  have h8 := h.1.1.1.2.1
  have e0 := h.2.1.1
  have e1 := h.2.1.2.1
  by_cases h0' : ax = 0
  · have e9 : ax = nI 0 := h0'.trans nI_0.symm
    subst e9
    rcases z_inout p (rU S) (by omega) with b | ⟨j, hj, e⟩
    · exact ⟨-1, mX5_line_b E x0 h0 w0 t S (nI 0) p wh h.1.1.1 (by unfold zSA; rw [if_pos nI_0, zsa_out b]; decide), mX6_line_0b E a kp ty pl gd od (nU s) (nS s) (nN s) (nX s) (nM s) (nT s) (nB s) (nK s) (nY s) (nZ s) (nR s) (nC s) (nV s) p wh h.1.2.1 (by rw [e0]; exact b)⟩
    · subst e
      have m5 := mX5_line_r E x0 h0 w0 t S j wh h.1.1.1 hj (h.1.1.2.1 j (by omega))
      have m6 := mX6_line_0 E a kp ty pl gd od (nU s) (nS s) (nN s) (nX s) (nM s) (nT s) (nB s) (nK s) (nY s) (nZ s) (nR s) (nC s) (nV s) j wh h.1.2.1 (by rw [e0]; exact hj)
      unfold zLiR at m5
      rw [RR_rIn h hj, RR_rRm h hj, RR_piR (v := 1) h (by decide) hj, RR_piR (v := 2) h (by decide) hj, RR_slR h hj] at m5
      exact ⟨_, m5, m6⟩
  · by_cases h1' : ax = nI 1
    · subst h1'
      rcases z_inout p (cU S) (by omega) with b | ⟨j, hj, e⟩
      · exact ⟨-1, mX5_line_b E x0 h0 w0 t S (nI 1) p wh h.1.1.1 (by unfold zSA; rw [if_neg h0', if_pos rfl, zsa_out b]; decide), mX6_line_1b E a kp ty pl gd od (nU s) (nS s) (nN s) (nX s) (nM s) (nT s) (nB s) (nK s) (nY s) (nZ s) (nR s) (nC s) (nV s) p wh h.1.2.1 (by rw [e1]; exact b)⟩
      · subst e
        have m5 := mX5_line_c E x0 h0 w0 t S j wh h.1.1.1 hj (h.1.1.2.2 j (by omega))
        have m6 := mX6_line_1 E a kp ty pl gd od (nU s) (nS s) (nN s) (nX s) (nM s) (nT s) (nB s) (nK s) (nY s) (nZ s) (nR s) (nC s) (nV s) j wh h.1.2.1 (by rw [e1]; exact hj)
        unfold zLiC at m5
        rw [RR_cIn h hj, RR_cRm h hj, RR_piC (v := 1) h (by decide) hj, RR_piC (v := 2) h (by decide) hj, RR_slC h hj] at m5
        exact ⟨_, m5, m6⟩
    · exact ⟨-1, mX5_line_b E x0 h0 w0 t S ax p wh h.1.1.1 (by unfold zSA; rw [if_neg h0', if_neg h1']; decide), mX6_line_b E a kp ty pl gd od (nU s) (nS s) (nN s) (nX s) (nM s) (nT s) (nB s) (nK s) (nY s) (nZ s) (nR s) (nC s) (nV s) ax p wh h.1.2.1 (z_ax2 h0' h1')⟩
theorem pr_setting (h : RR S s B) (rr c lv : Int32) : prR E x0 h0 w0 t a kp ty pl gd od S s yX5_setting wsX5_setting 5 yX6_setting wsX6_setting 3 [.int rr, .int c, .int lv] := by
  have h12 := h.1.1.1.1
  have h8 := h.1.1.1.2.1
  have e0 := h.2.1.1
  have e1 := h.2.1.2.1
  have m5 := mX5_setting E x0 h0 w0 t S rr c lv h.1.1.1
  rcases z_inout rr (rU S) (by omega) with b | ⟨i, hi, e⟩
  · rw [show zSe S rr c lv = -1 from if_pos (by rw [zsa_out b]; decide)] at m5
    exact ⟨-1, m5, mX6_setting_b1 E a kp ty pl gd od (nU s) (nS s) (nN s) (nX s) (nM s) (nT s) (nB s) (nK s) (nY s) (nZ s) (nR s) (nC s) (nV s) rr c lv h.1.2.1 (by rw [e0]; exact b)⟩
  · subst e
    have n0 : ¬ zsa (rO S) (rU S) (nI i) < 0 := by rw [zsa_in (by omega) hi]; exact h.1.1.2.1 i (by omega)
    rcases z_inout c (cU S) (by omega) with b | ⟨j, hj, e⟩
    · rw [show zSe S (nI i) c lv = -1 by unfold zSe; rw [if_neg n0, if_pos (by rw [zsa_out b]; decide)]] at m5
      exact ⟨-1, m5, mX6_setting_b2 E a kp ty pl gd od (nU s) (nS s) (nN s) (nX s) (nM s) (nT s) (nB s) (nK s) (nY s) (nZ s) (nR s) (nC s) (nV s) i c lv h.1.2.1 (by rw [e0]; exact hi) (by rw [e1]; exact b)⟩
    · subst e
      have n1 : ¬ zsa (cO S) (cU S) (nI j) < 0 := by rw [zsa_in (by omega) hj]; exact h.1.1.2.2 j (by omega)
      by_cases hl : lv < 0
      · rw [show zSe S (nI i) (nI j) lv = -2 by unfold zSe; rw [if_neg n0, if_neg n1, if_pos hl]] at m5
        exact ⟨-2, m5, mX6_setting_b3 E a kp ty pl gd od (nU s) (nS s) (nN s) (nX s) (nM s) (nT s) (nB s) (nK s) (nY s) (nZ s) (nR s) (nC s) (nV s) i j lv h.1.2.1 (by rw [e0]; exact hi) (by rw [e1]; exact hj) hl⟩
      · obtain ⟨l, hl2, e⟩ := z_pos lv hl
        subst e
        rw [show zSe S (nI i) (nI j) (nI l) = zf (pK (pS (fA S) (rO S i) (cO S j)) (nI l)) (mK S) by unfold zSe; rw [if_neg n0, if_neg n1, if_neg hl, zsa_in (by omega) hi, zsa_in (by omega) hj], RR_set h hi hj] at m5
        exact ⟨_, m5, mX6_setting E a kp ty pl gd od (nU s) (nS s) (nN s) (nX s) (nM s) (nT s) (nB s) (nK s) (nY s) (nZ s) (nR s) (nC s) (nV s) i j l h.1.2.1 (by rw [e0]; exact hi) (by rw [e1]; exact hj) hl2⟩
theorem pr_change (h : RR S s B) (hB : B < 2147483500) (x wh : Int32) : prR E x0 h0 w0 t a kp ty pl gd od S s yX5_change wsX5_change 5 yX6_change wsX6_change 5 [.int x, .int wh] := by
  have hM := h.2.1.2.2.1
  have h60 := h.1.1.1.2.2
  rcases z_inout x (mK S) (by omega) with b | ⟨n, hn, e⟩
  · exact ⟨-1, mX5_change_b E x0 h0 w0 t S x wh h.1.1.1 b, mX6_change_b E a kp ty pl gd od (nU s) (nS s) (nN s) (nX s) (nM s) (nT s) (nB s) (nK s) (nY s) (nZ s) (nR s) (nC s) (nV s) x wh h.1.2.1 (by rw [hM]; exact b)⟩
  · subst e
    obtain ⟨k1, k2, k3, -⟩ := h.2.2.1 n hn
    have m5 := mX5_change E x0 h0 w0 t S n wh h.1.1.1 hn
    have m6 := mX6_change E a kp ty pl gd od (nU s) (nS s) (nN s) (nX s) (nM s) (nT s) (nB s) (nK s) (nY s) (nZ s) (nR s) (nC s) (nV s) n wh h.1.2.1 (by rw [hM]; exact hn) (fun q1 q2 => by
      have z := RR_lnX h hn (k3.symm.trans q1)
      exact ⟨z.1 (Or.inl q2), z.2 (Or.inl q2)⟩)
    unfold zChg at m5
    rw [RR_plR h (by omega) hn, RR_plC h (by omega) hn, RR_val h hn, RR_VB h hn, RR_sup h hn, RR_dep h hn, ← k1, ← k2, ← k3] at m5
    exact ⟨_, m5, m6⟩
theorem pr_restsOn (h : RR S s B) (x y : Int32) : prR E x0 h0 w0 t a kp ty pl gd od S s yX5_restsOn wsX5_restsOn 5 yX6_restsOn wsX6_restsOn 4 [.int x, .int y] := by
  have hM := h.2.1.2.2.1
  have h60 := h.1.1.1.2.2
  rcases z_inout x (mK S) (by omega) with b | ⟨n, hn, e⟩
  · exact ⟨-1, mX5_restsOn_b1 E x0 h0 w0 t S x y h.1.1.1 b, mX6_restsOn_b1 E a kp ty pl gd od (nU s) (nS s) (nN s) (nX s) (nM s) (nT s) (nB s) (nK s) (nY s) (nZ s) (nR s) (nC s) (nV s) x y h.1.2.1 (by rw [hM]; exact b)⟩
  · subst e
    rcases z_inout y (mK S) (by omega) with b | ⟨k, hk, e⟩
    · exact ⟨-1, mX5_restsOn_b2 E x0 h0 w0 t S n y h.1.1.1 hn b, mX6_restsOn_b2 E a kp ty pl gd od (nU s) (nS s) (nN s) (nX s) (nM s) (nT s) (nB s) (nK s) (nY s) (nZ s) (nR s) (nC s) (nV s) n y h.1.2.1 (by rw [hM]; exact hn) (by rw [hM]; exact b)⟩
    · subst e
      by_cases q : n = k
      · subst q
        exact ⟨-2, mX5_restsOn_e E x0 h0 w0 t S n h.1.1.1 hn, mX6_restsOn_e E a kp ty pl gd od (nU s) (nS s) (nN s) (nX s) (nM s) (nT s) (nB s) (nK s) (nY s) (nZ s) (nR s) (nC s) (nV s) n h.1.2.1 (by rw [hM]; exact hn)⟩
      · have m5 := mX5_restsOn E x0 h0 w0 t S n k h.1.1.1 hn hk q
        rw [RR_rs h hn hk] at m5
        exact ⟨_, m5, mX6_restsOn E a kp ty pl gd od (nU s) (nS s) (nN s) (nX s) (nM s) (nT s) (nB s) (nK s) (nY s) (nZ s) (nR s) (nC s) (nV s) n k h.1.2.1 (by rw [hM]; exact hn) (by rw [hM]; exact hk) q⟩
theorem pr_pending (h : RR S s B) (hB : B < 2147483500) (x : Int32) : prR E x0 h0 w0 t a kp ty pl gd od S s yX5_pending wsX5_pending 5 yX6_pending wsX6_pending 5 [.int x] := by
  by_cases b : x < 0
  · exact ⟨-2, mX5_pending_b E x0 h0 w0 t S x h.1.1.1 b, mX6_pending_b E a kp ty pl gd od (nU s) (nS s) (nN s) (nX s) (nM s) (nT s) (nB s) (nK s) (nY s) (nZ s) (nR s) (nC s) (nV s) x h.1.2.1 b⟩
  · obtain ⟨k, hk, e⟩ := z_pos x b
    subst e
    have m5 := mX5_pending E x0 h0 w0 t S k h.1.1.1 hk
    rw [RR_pd h (by omega)] at m5
    exact ⟨_, m5, mX6_pending E a kp ty pl gd od (nU s) (nS s) (nN s) (nX s) (nM s) (nT s) (nB s) (nK s) (nY s) (nZ s) (nR s) (nC s) (nV s) k h.1.2.1 hk⟩
theorem pr_author (h : RR S s B) (au st : Int32) : prR E x0 h0 w0 t a kp ty pl gd od S s yX5_author wsX5_author 5 yX6_author wsX6_author 2 [.int au, .int st] := by
  rcases z_inout au 4 (by decide) with b | ⟨n, hn, e⟩
  · exact ⟨-1, mX5_author_b E x0 h0 w0 t S au st h.1.1.1 b, mX6_author_b E a kp ty pl gd od (nU s) (nS s) (nN s) (nX s) (nM s) (nT s) (nB s) (nK s) (nY s) (nZ s) (nR s) (nC s) (nV s) au st h.1.2.1 b⟩
  · subst e
    have m5 := mX5_author E x0 h0 w0 t S n st h.1.1.1 hn
    rcases z_inout' st 3 (by decide) with b | ⟨k, hk, e⟩
    · have ez : zAut S n st = -2 := by
        unfold zAut
        rcases b with b | ⟨b1, b2⟩
        · rw [if_pos b]
        · rw [if_neg b1, if_pos b2]
      rw [ez] at m5
      exact ⟨-2, m5, mX6_author_b2 E a kp ty pl gd od (nU s) (nS s) (nN s) (nX s) (nM s) (nT s) (nB s) (nK s) (nY s) (nZ s) (nR s) (nC s) (nV s) n st h.1.2.1 hn b⟩
    · subst e
      have ez : zAut S n (nI k) = nI (zc (pIS (fA S) (nI n) (nI k)) (mK S)) := by
        unfold zAut
        rw [if_neg (nI_pos (by omega)), if_neg (fun q => by rw [Int32.lt_iff_toInt_lt, nI_toInt (by omega), nI_toInt (by omega)] at q; omega)]
      rw [ez, RR_isA h hn] at m5
      exact ⟨_, m5, mX6_author E a kp ty pl gd od (nU s) (nS s) (nN s) (nX s) (nM s) (nT s) (nB s) (nK s) (nY s) (nZ s) (nR s) (nC s) (nV s) n k h.1.2.1 hn hk⟩
theorem pr_sum (h : RR S s B) (v : Int32) : prR E x0 h0 w0 t a kp ty pl gd od S s yX5_sum wsX5_sum 6 yX6_sum wsX6_sum 6 [.int v] := by
  rcases z_inout' v 2 (by decide) with b | ⟨k, hk, e⟩
  · exact ⟨-1, mX5_sum_b E x0 h0 w0 t S v h.1.1.1 b, mX6_sum_b E a kp ty pl gd od (nU s) (nS s) (nN s) (nX s) (nM s) (nT s) (nB s) (nK s) (nY s) (nZ s) (nR s) (nC s) (nV s) v h.1.2.1 b⟩
  · subst e
    have m5 := mX5_sum E x0 h0 w0 t S k h.1.1.1 hk
    rw [RR_sum h hk] at m5
    exact ⟨_, m5, mX6_sum E a kp ty pl gd od (nU s) (nS s) (nN s) (nX s) (nM s) (nT s) (nB s) (nK s) (nY s) (nZ s) (nR s) (nC s) (nV s) k h.1.2.1 h.1.2.2.1 hk⟩
end READS
section COUNT
variable (E : zE) (x0 h0 h1 w0 w1 : Nat) (t : Nat → Nat) (a : Nat → Nat) (o kp ln pl : Nat) (gd : Bool) (od : Nat) {S : zSt} {s : zMs} {B : Nat} (ps : zPs)
theorem pr_count (h : RR S s B) (wh : Int32) : ∃ v : Int32, zM E yX5_count wsX5_count 5 [.ref x0, .int wh] (WCd E x0 h0 h1 w0 w1 t S o kp ln ps) (WCd E x0 h0 h1 w0 w1 t S o kp ln ps) (some (.int v)) ∧ zM E yX6_count wsX6_count 5 [.ref (a 0), .int wh] (WMd E a kp ln pl gd od s) (WMd E a kp ln pl gd od s) (some (.int v)) := by
  have hM := h.2.1.2.2.1
  have hT := h.2.1.2.2.2
  have m5 := mX5_count E x0 h0 h1 w0 w1 t S o kp (fun _ => 0) ln ps wh h.1.1.1
  rcases z_inout wh 11 (by decide) with b | ⟨k, hk, e⟩
  · rw [show zCt S kp ln wh = -2 by unfold zCt; rw [if_neg (z_ob (j := 0) (by decide) b (by decide)), if_neg (z_ob (j := 1) (by decide) b (by decide)), if_neg (z_ob (j := 2) (by decide) b (by decide)), if_neg (z_ob (j := 3) (by decide) b (by decide)), if_neg (z_ob (j := 4) (by decide) b (by decide)), if_neg (z_ob (j := 5) (by decide) b (by decide)), if_neg (z_ob (j := 6) (by decide) b (by decide)), if_neg (z_ob (j := 7) (by decide) b (by decide)), if_neg (z_ob (j := 8) (by decide) b (by decide)), if_neg (z_ob (j := 9) (by decide) b (by decide)), if_neg (z_ob (j := 10) (by decide) b (by decide))]] at m5
    exact ⟨-2, m5, mX6_count_b E a kp ln pl gd od (nU s) (nS s) (nN s) (nX s) (nM s) (nT s) (nB s) (nK s) (nY s) (nZ s) (nR s) (nC s) (nV s) wh h.1.2.1 b⟩
  · subst e
    rcases (show k = 0 ∨ k = 1 ∨ k = 2 ∨ k = 3 ∨ k = 4 ∨ k = 5 ∨ k = 6 ∨ k = 7 ∨ k = 8 ∨ k = 9 ∨ k = 10 by omega) with e | e | e | e | e | e | e | e | e | e | e
    · subst e
      rw [show zCt S kp ln (nI 0) = nI (mK S) by unfold zCt; rw [if_pos rfl]] at m5
      have m6 := mX6_count_0 E a kp ln pl gd od (nU s) (nS s) (nN s) (nX s) (nM s) (nT s) (nB s) (nK s) (nY s) (nZ s) (nR s) (nC s) (nV s) h.1.2.1
      rw [show nI (nM s) = nI (mK S) from congrArg nI hM] at m6
      exact ⟨_, m5, m6⟩
    · subst e
      rw [show zCt S kp ln (nI 1) = nI (zc (pIS (fA S) (-1) (nI 0)) (mK S)) by unfold zCt; rw [if_neg (by decide), if_pos rfl]] at m5
      rw [RR_isS h] at m5
      have m6 := mX6_count_1 E a kp ln pl gd od (nU s) (nS s) (nN s) (nX s) (nM s) (nT s) (nB s) (nK s) (nY s) (nZ s) (nR s) (nC s) (nV s) h.1.2.1
      exact ⟨_, m5, m6⟩
    · subst e
      rw [show zCt S kp ln (nI 2) = nI (zc (pIS (fA S) (-1) (nI 1)) (mK S)) by unfold zCt; rw [if_neg (by decide), if_neg (by decide), if_pos rfl]] at m5
      rw [RR_isS h] at m5
      have m6 := mX6_count_2 E a kp ln pl gd od (nU s) (nS s) (nN s) (nX s) (nM s) (nT s) (nB s) (nK s) (nY s) (nZ s) (nR s) (nC s) (nV s) h.1.2.1
      exact ⟨_, m5, m6⟩
    · subst e
      rw [show zCt S kp ln (nI 3) = nI (zc (pIS (fA S) (-1) (nI 2)) (mK S)) by unfold zCt; rw [if_neg (by decide), if_neg (by decide), if_neg (by decide), if_pos rfl]] at m5
      rw [RR_isS h] at m5
      have m6 := mX6_count_3 E a kp ln pl gd od (nU s) (nS s) (nN s) (nX s) (nM s) (nT s) (nB s) (nK s) (nY s) (nZ s) (nR s) (nC s) (nV s) h.1.2.1
      exact ⟨_, m5, m6⟩
    · subst e
      rw [show zCt S kp ln (nI 4) = nI (zc (pIS (fA S) (-1) (nI 3)) (mK S)) by unfold zCt; rw [if_neg (by decide), if_neg (by decide), if_neg (by decide), if_neg (by decide), if_pos rfl]] at m5
      rw [RR_isS h] at m5
      have m6 := mX6_count_4 E a kp ln pl gd od (nU s) (nS s) (nN s) (nX s) (nM s) (nT s) (nB s) (nK s) (nY s) (nZ s) (nR s) (nC s) (nV s) h.1.2.1
      exact ⟨_, m5, m6⟩
    · subst e
      rw [show zCt S kp ln (nI 5) = zb (tK S) by unfold zCt; rw [if_neg (by decide), if_neg (by decide), if_neg (by decide), if_neg (by decide), if_neg (by decide), if_pos rfl]] at m5
      have m6 := mX6_count_5 E a kp ln pl gd od (nU s) (nS s) (nN s) (nX s) (nM s) (nT s) (nB s) (nK s) (nY s) (nZ s) (nR s) (nC s) (nV s) h.1.2.1
      rw [show zb (nT s) = zb (tK S) from congrArg zb hT] at m6
      exact ⟨_, m5, m6⟩
    · subst e
      rw [show zCt S kp ln (nI 6) = nI (zc (pPO (fA S) (nI 0)) (mK S) + zc (pPO (fA S) (nI 2)) (mK S)) by unfold zCt; rw [if_neg (by decide), if_neg (by decide), if_neg (by decide), if_neg (by decide), if_neg (by decide), if_neg (by decide), if_pos rfl]] at m5
      rw [RR_new h] at m5
      have m6 := mX6_count_6 E a kp ln pl gd od (nU s) (nS s) (nN s) (nX s) (nM s) (nT s) (nB s) (nK s) (nY s) (nZ s) (nR s) (nC s) (nV s) h.1.2.1
      exact ⟨_, m5, m6⟩
    · subst e
      rw [show zCt S kp ln (nI 7) = nI (zc (pPO (fA S) (nI 1)) (mK S) + zc (pPO (fA S) (nI 3)) (mK S)) by unfold zCt; rw [if_neg (by decide), if_neg (by decide), if_neg (by decide), if_neg (by decide), if_neg (by decide), if_neg (by decide), if_neg (by decide), if_pos rfl]] at m5
      rw [RR_doomed h] at m5
      have m6 := mX6_count_7 E a kp ln pl gd od (nU s) (nS s) (nN s) (nX s) (nM s) (nT s) (nB s) (nK s) (nY s) (nZ s) (nR s) (nC s) (nV s) h.1.2.1
      exact ⟨_, m5, m6⟩
    · subst e
      rw [show zCt S kp ln (nI 8) = nI (zc (pPO (fA S) (nI 4)) (mK S)) by unfold zCt; rw [if_neg (by decide), if_neg (by decide), if_neg (by decide), if_neg (by decide), if_neg (by decide), if_neg (by decide), if_neg (by decide), if_neg (by decide), if_pos rfl]] at m5
      rw [RR_sets h] at m5
      have m6 := mX6_count_8 E a kp ln pl gd od (nU s) (nS s) (nN s) (nX s) (nM s) (nT s) (nB s) (nK s) (nY s) (nZ s) (nR s) (nC s) (nV s) h.1.2.1
      exact ⟨_, m5, m6⟩
    · subst e
      rw [show zCt S kp ln (nI 9) = nI kp by unfold zCt; rw [if_neg (by decide), if_neg (by decide), if_neg (by decide), if_neg (by decide), if_neg (by decide), if_neg (by decide), if_neg (by decide), if_neg (by decide), if_neg (by decide), if_pos rfl]] at m5
      have m6 := mX6_count_9 E a kp ln pl gd od (nU s) (nS s) (nN s) (nX s) (nM s) (nT s) (nB s) (nK s) (nY s) (nZ s) (nR s) (nC s) (nV s) h.1.2.1
      exact ⟨_, m5, m6⟩
    · subst e
      rw [show zCt S kp ln (nI 10) = nI ln by unfold zCt; rw [if_neg (by decide), if_neg (by decide), if_neg (by decide), if_neg (by decide), if_neg (by decide), if_neg (by decide), if_neg (by decide), if_neg (by decide), if_neg (by decide), if_neg (by decide), if_pos rfl]] at m5
      have m6 := mX6_count_10 E a kp ln pl gd od (nU s) (nS s) (nN s) (nX s) (nM s) (nT s) (nB s) (nK s) (nY s) (nZ s) (nR s) (nC s) (nV s) h.1.2.1
      exact ⟨_, m5, m6⟩
end COUNT
