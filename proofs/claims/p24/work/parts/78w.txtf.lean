/-! the texts of orders that the law types -/
theorem zHe_o {tx : Nat → Nat} {ln p : Nat} (h : ln ≤ p) : zHe tx ln p = 0 := by rw [zHe_d, if_neg (by omega)]
theorem F_n {tx : Nat → Nat} {ln d : Nat} {s : zPs} (h : (zNx tx ln s).1 = false) : (zFl tx ln (d + 1) s).1 = nI (oP (zNx tx ln s).2) := by
  rw [zFl, if_neg (by rw [h]; decide)]
theorem F_y {tx : Nat → Nat} {ln d : Nat} {s : zPs} (h : (zNx tx ln s).1 = true) (hl : ¬ ln ≤ oP (zNx tx ln s).2) : zFl tx ln (d + 1) s = zFl tx ln d (zNx tx ln s).2 := by
  rw [zFl, if_pos h, if_neg hl]
theorem F_e {tx : Nat → Nat} {ln d : Nat} {s : zPs} (h : (zNx tx ln s).1 = true) (hl : ln ≤ oP (zNx tx ln s).2) : (zFl tx ln (d + 1) s).1 = -5 := by
  rw [zFl, if_pos h, if_pos hl]
theorem F_0 {tx : Nat → Nat} {s : zPs} : (zFl tx 0 60 (zRw s)).1 = nI 0 := by
  have he : zHe tx 0 0 = 0 := zHe_o (Nat.le_refl _)
  have hr : zRn tx 0 2 0 = (-5, 0) := zRn_n (by rw [he]; decide)
  have e : zNx tx 0 (zRw s) = (false, (0, nI 0, oA (zRw s), -5, oC (zRw s), oV (zRw s))) := by
    rw [zNx_0 rfl]
    show zNo tx 0 0 (zRw s) = _
    rw [zNo_p (by rw [he]; decide) (by rw [hr]; decide), hr, he]
  have := F_n (d := 59) (s := zRw s) (tx := tx) (ln := 0) (by rw [e])
  rw [e] at this
  exact this
theorem F_1 {tx : Nat → Nat} {s : zPs} (h0 : tx 0 = 43 ∨ tx 0 = 45) : (zFl tx 1 60 (zRw s)).1 = nI 1 := by
  have he : zHe tx 1 0 = tx 0 := zHe_in tx (by decide)
  have h1 : zHe tx 1 (0 + 1) = 0 := zHe_o (Nat.le_refl _)
  have e : zNx tx 1 (zRw s) = (false, (0 + 1, nI (zHe tx 1 0), nI 1, oL (zRw s), oC (zRw s), oV (zRw s))) := by
    rw [zNx_0 rfl]
    show zNo tx 1 0 (zRw s) = _
    rw [zNo_n (by rw [he]; exact h0) (by rw [h1]; decide) (by rw [h1]; decide)]
  have := F_n (d := 59) (s := zRw s) (tx := tx) (ln := 1) (by rw [e])
  rw [e] at this
  exact this
/-- the first order: a sign, an axis, the place 0 -/
theorem N_1 {tx : Nat → Nat} {ln a : Nat} {s : zPs} (hln : 3 ≤ ln) (h0 : tx 0 = 43 ∨ tx 0 = 45) (ha : a < 2) (hL : tx 1 = if a = 0 then 114 else 99) (h2 : tx 2 = 48) (hs : oP s = 0) : zNx tx ln s = (true, (3, nI (tx 0), nI a, nI 0, oC s, oV s)) := by
  have e0 : zHe tx ln 0 = tx 0 := zHe_in tx (by omega)
  have e1 : zHe tx ln (0 + 1) = tx 1 := zHe_in tx (by omega)
  have e2 : zHe tx ln (0 + 1 + 1) = 48 := (zHe_in tx (by omega)).trans h2
  have hr : zRn tx ln 2 (0 + 1 + 1) = (nI 0, 3) := zRn_0 e2
  rw [zNx_0 hs, hs]
  rcases ax2 ha with e | e <;> subst e
  · rw [zNo_r (b := true) (by rw [e0]; exact h0) (by rw [e1, hL]; rfl) (by rw [hr]; decide), hr, e0]
  · rw [zNo_c (b := true) (by rw [e0]; exact h0) (by rw [e1, hL]; rfl) (by rw [hr]; decide), hr, e0]
/-- the second: a blank, +, an axis, the place 99 -/
theorem N_2 {tx : Nat → Nat} {ln a : Nat} {s : zPs} (hln : 8 ≤ ln) (h3 : tx 3 = 32) (h4 : tx 4 = 43) (ha : a < 2) (hL : tx 5 = if a = 0 then 114 else 99) (h6 : tx 6 = 57) (h7 : tx 7 = 57) (hs : oP s = 3) : zNx tx ln s = (true, (8, nI 43, nI a, nI 99, oC s, oV s)) := by
  have e3 : zHe tx ln 3 = 32 := (zHe_in tx (by omega)).trans h3
  have e4 : zHe tx ln (3 + 1) = 43 := (zHe_in tx (by omega)).trans h4
  have e5 : zHe tx ln (3 + 1 + 1) = tx 5 := zHe_in tx (by omega)
  have e6 : zHe tx ln (3 + 1 + 1 + 1) = 57 := (zHe_in tx (by omega)).trans h6
  have e7 : zHe tx ln (3 + 1 + 1 + 1 + 1) = 57 := (zHe_in tx (by omega)).trans h7
  have hn : zNL tx ln 2 (3 + 1 + 1 + 1) 0 = (99, 8) := by
    rw [zNL_y (by rw [e6]; decide), zNL_y (by rw [e7]; decide), zNL_z, e6, e7]
  have hr : zRn tx ln 2 (3 + 1 + 1 + 1) = (nI 99, 8) := by
    rw [zRn_p (by rw [e6]; decide) (by rw [e6]; decide), hn]
  rw [zNx_1 (by rw [hs]; decide) (by rw [hs]; exact e3), hs]
  rcases ax2 ha with e | e <;> subst e
  · rw [zNo_r (b := true) (Or.inl e4) (by rw [e5, hL]; rfl) (by rw [hr]; decide), hr, e4]
  · rw [zNo_c (b := true) (Or.inl e4) (by rw [e5, hL]; rfl) (by rw [hr]; decide), hr, e4]
theorem F_4 {tx : Nat → Nat} {s : zPs} {a : Nat} (h0 : tx 0 = 43 ∨ tx 0 = 45) (ha : a < 2) (hL : tx 1 = if a = 0 then 114 else 99) (h2 : tx 2 = 48) (h3 : tx 3 ≠ 32) : (zFl tx 4 60 (zRw s)).1 = nI 3 := by
  have n1 := N_1 (ln := 4) (s := zRw s) (by decide) h0 ha hL h2 rfl
  rw [F_y (d := 59) (by rw [n1]) (by rw [n1]; show ¬ 4 ≤ 3; decide), n1]
  have e3 : zHe tx 4 3 = tx 3 := zHe_in tx (by decide)
  have n2 : zNx tx 4 (3, nI (tx 0), nI a, nI 0, oC (zRw s), oV (zRw s)) = (false, (3, nI (tx 0), nI a, nI 0, oC (zRw s), oV (zRw s))) := zNx_n (by show (3 : Nat) ≠ 0; decide) (by show zHe tx 4 3 ≠ 32; rw [e3]; exact h3)
  rw [F_n (d := 58) (by rw [n2]), n2]
  rfl
section TEXT8
variable {tx : Nat → Nat} {a : Nat} {s : zPs}
theorem F_8 (h0 : tx 0 = 43) (ha : a < 2) (hL : tx 1 = if a = 0 then 114 else 99) (h2 : tx 2 = 48) (h3 : tx 3 = 32) (h4 : tx 4 = 43) (hL2 : tx 5 = if a = 0 then 114 else 99) (h6 : tx 6 = 57) (h7 : tx 7 = 57) : (zFl tx 8 60 (zRw s)).1 = -5 := by
  have n1 := N_1 (ln := 8) (s := zRw s) (by decide) (Or.inl h0) ha hL h2 rfl
  rw [F_y (d := 59) (by rw [n1]) (by rw [n1]; show ¬ 8 ≤ 3; decide), n1]
  have n2 := N_2 (ln := 8) (s := (3, nI (tx 0), nI a, nI 0, oC (zRw s), oV (zRw s))) (by decide) h3 h4 ha hL2 h6 h7 rfl
  exact F_e (d := 58) (by rw [n2]) (by rw [n2]; show 8 ≤ 8; decide)
theorem F_9 (h0 : tx 0 = 43) (ha : a < 2) (hL : tx 1 = if a = 0 then 114 else 99) (h2 : tx 2 = 48) (h3 : tx 3 = 32) (h4 : tx 4 = 43) (hL2 : tx 5 = if a = 0 then 114 else 99) (h6 : tx 6 = 57) (h7 : tx 7 = 57) (h8 : tx 8 = 57) : (zFl tx 9 60 (zRw s)).1 = nI 8 := by
  have n1 := N_1 (ln := 9) (s := zRw s) (by decide) (Or.inl h0) ha hL h2 rfl
  rw [F_y (d := 59) (by rw [n1]) (by rw [n1]; show ¬ 9 ≤ 3; decide), n1]
  have n2 := N_2 (ln := 9) (s := (3, nI (tx 0), nI a, nI 0, oC (zRw s), oV (zRw s))) (by decide) h3 h4 ha hL2 h6 h7 rfl
  rw [F_y (d := 58) (by rw [n2]) (by rw [n2]; show ¬ 9 ≤ 8; decide), n2]
  have e8 : zHe tx 9 8 = 57 := (zHe_in tx (by decide)).trans h8
  have n3 := zNx_n (tx := tx) (ln := 9) (s := (8, nI 43, nI a, nI 99, oC (3, nI (tx 0), nI a, nI 0, oC (zRw s), oV (zRw s)), oV (3, nI (tx 0), nI a, nI 0, oC (zRw s), oV (zRw s)))) (by show (8 : Nat) ≠ 0; decide) (by show zHe tx 9 8 ≠ 32; rw [e8]; decide)
  rw [F_n (d := 57) (by rw [n3]), n3]
  rfl
/-- what is carried out: one line at place 0, if there is room -/
theorem C_8 {S : zSt} {B au : Nat} (hG : GG S B) (hB : B < 2147483640) (hau : au < 4) (h0 : tx 0 = 43) (ha : a < 2) (hL : tx 1 = if a = 0 then 114 else 99) (h2 : tx 2 = 48) (h3 : tx 3 = 32) (h4 : tx 4 = 43) (hL2 : tx 5 = if a = 0 then 114 else 99) (h6 : tx 6 = 57) (h7 : tx 7 = 57) : (zCO tx 8 (nI au) 60 0 S (zRw s)).1 = (if (zIns S (nI au) (nI a) (nI 0)).1 < 0 then 0 else 1) ∧ (zCO tx 8 (nI au) 60 0 S (zRw s)).2.1 = (zIns S (nI au) (nI a) (nI 0)).2 := by
  have n1 := N_1 (ln := 8) (s := zRw s) (by decide) (Or.inl h0) ha hL h2 rfl
  have o1 : zOb S (nI au) (3, nI (tx 0), nI a, nI 0, oC (zRw s), oV (zRw s)) = zIns S (nI au) (nI a) (nI 0) := by rw [h0]; exact zOb_43 _ _ _ _ _ _ _
  have hG1 := GG_Ins (ax := nI a) (pl := nI 0) hG hB hau
  have eq1 : zCO tx 8 (nI au) 60 0 S (zRw s) = if (zIns S (nI au) (nI a) (nI 0)).1 < 0 then (0, (zIns S (nI au) (nI a) (nI 0)).2, (3, nI (tx 0), nI a, nI 0, oC (zRw s), oV (zRw s))) else zCO tx 8 (nI au) 59 1 (zIns S (nI au) (nI a) (nI 0)).2 (3, nI (tx 0), nI a, nI 0, oC (zRw s), oV (zRw s)) := by
    show zCO tx 8 (nI au) (59 + 1) 0 S (zRw s) = _
    rw [zCO, n1, if_pos rfl, o1]
  rw [eq1]
  by_cases c : (zIns S (nI au) (nI a) (nI 0)).1 < 0
  · rw [if_pos c, if_pos c]
    exact ⟨rfl, rfl⟩
  · rw [if_neg c, if_neg c]
    have n2 := N_2 (ln := 8) (s := (3, nI (tx 0), nI a, nI 0, oC (zRw s), oV (zRw s))) (by decide) h3 h4 ha hL2 h6 h7 rfl
    generalize hS1 : (zIns S (nI au) (nI a) (nI 0)).2 = S1 at *
    have u := gg_u hG1 a
    have bad : zIns S1 (nI au) (nI a) (nI 99) = (-2, S1) := by
      have nb : ¬ (nI au < 0 ∨ nI 4 ≤ nI au) := by
        rintro (q | q)
        · exact nI_pos (by omega) q
        · have := (nI_leI (by decide) (by omega)).mp q
          omega
      have lt9 : ∀ n, n ≤ 12 → nI n < nI 99 := fun n hn => (nI_ltI (by omega) (by decide)).mpr (by omega)
      unfold zIns
      rw [if_neg nb]
      rcases ax2 ha with e | e <;> subst e
      · rw [if_pos nI_0]
        unfold zInsR
        rw [if_pos (Or.inr (show nI (rU S1) < nI 99 from lt9 _ u))]
      · rw [if_neg (by decide), if_pos rfl]
        unfold zInsC
        rw [if_pos (Or.inr (show nI (cU S1) < nI 99 from lt9 _ u))]
    have o2 : zOb S1 (nI au) (8, nI 43, nI a, nI 99, oC (3, nI (tx 0), nI a, nI 0, oC (zRw s), oV (zRw s)), oV (3, nI (tx 0), nI a, nI 0, oC (zRw s), oV (zRw s))) = (-2, S1) := (zOb_43 _ _ _ _ _ _ _).trans bad
    show (zCO tx 8 (nI au) (58 + 1) 1 S1 _).1 = 1 ∧ (zCO tx 8 (nI au) (58 + 1) 1 S1 _).2.1 = S1
    rw [zCO, n2, if_pos rfl, o2, if_pos (show ((-2, S1) : Int32 × zSt).1 < 0 from (by decide : (-2 : Int32) < 0))]
    exact ⟨rfl, rfl⟩
end TEXT8
