/-! inserting, removing, setting: what a call answers, and the state behind it -/
def zInsR (S : zSt) (au pl : Int32) : Int32 × zSt :=
  if pl < 0 ∨ nI (rU S) < pl then (-2, S)
  else if 12 ≤ rU S ∨ (tK S = true ∧ 60 ≤ mK S) then (-3, S)
  else if tK S = true then (nI (mK S), zNew (zInR S pl.toNatClampNeg) (nI 0) au (rO S (rU S)) (-5) (-5))
  else (nI 1000, zInR S pl.toNatClampNeg)
def zInsC (S : zSt) (au pl : Int32) : Int32 × zSt :=
  if pl < 0 ∨ nI (cU S) < pl then (-2, S)
  else if 8 ≤ cU S ∨ (tK S = true ∧ 60 ≤ mK S) then (-3, S)
  else if tK S = true then (nI (mK S), zNew (zInC S pl.toNatClampNeg) (nI 2) au (-5) (cO S (cU S)) (-5))
  else (nI 1000, zInC S pl.toNatClampNeg)
def zIns (S : zSt) (au ax pl : Int32) : Int32 × zSt :=
  if au < 0 ∨ nI 4 ≤ au then (-1, S) else if ax = 0 then zInsR S au pl else if ax = nI 1 then zInsC S au pl else (-1, S)
def zRemRj (S : zSt) (au : Int32) (j : Nat) : Int32 × zSt :=
  if tK S = false then (nI 1000, zDrR S (rO S j))
  else if ¬ zf (pLn (fA S) (nI 1) 3 (rO S j)) (mK S) < 0 then (-4, S)
  else if zix (pLn (fA S) (nI 0) 3 (rO S j)) (mK S) < mK S ∧ fA S (6 * zix (pLn (fA S) (nI 0) 3 (rO S j)) (mK S) + 1) = au then (nI (zix (pLn (fA S) (nI 0) 3 (rO S j)) (mK S)), zDrR S (rO S j))
  else if 60 ≤ mK S then (-3, S) else (nI (mK S), zNew S (nI 1) au (rO S j) (-5) (-5))
def zRemCj (S : zSt) (au : Int32) (j : Nat) : Int32 × zSt :=
  if tK S = false then (nI 1000, zDrC S (cO S j))
  else if ¬ zf (pLn (fA S) (nI 3) 4 (cO S j)) (mK S) < 0 then (-4, S)
  else if zix (pLn (fA S) (nI 2) 4 (cO S j)) (mK S) < mK S ∧ fA S (6 * zix (pLn (fA S) (nI 2) 4 (cO S j)) (mK S) + 1) = au then (nI (zix (pLn (fA S) (nI 2) 4 (cO S j)) (mK S)), zDrC S (cO S j))
  else if 60 ≤ mK S then (-3, S) else (nI (mK S), zNew S (nI 3) au (-5) (cO S j) (-5))
def zRem (S : zSt) (au ax pl : Int32) : Int32 × zSt :=
  if au < 0 ∨ nI 4 ≤ au then (-1, S)
  else if ax = 0 then (if pl < 0 ∨ nI (rU S) ≤ pl then (-1, S) else zRemRj S au pl.toNatClampNeg)
  else if ax = nI 1 then (if pl < 0 ∨ nI (cU S) ≤ pl then (-1, S) else zRemCj S au pl.toNatClampNeg)
  else (-1, S)
def zSetN (S : zSt) (au : Int32) (i j : Nat) (v : Int32) : Int32 × zSt := if 60 ≤ mK S then (-3, S) else (nI (mK S), zNew S (nI 4) au (rO S i) (cO S j) v)
def zSetij (S : zSt) (au : Int32) (i j : Nat) (v : Int32) : Int32 × zSt :=
  if v < 0 ∨ nI 9999 < v then (-2, S)
  else if ¬ zf (pLn (fA S) (nI 1) 3 (rO S i)) (mK S) < 0 ∨ ¬ zf (pLn (fA S) (nI 3) 4 (cO S j)) (mK S) < 0 ∨ zVU (bS S) (fA S) (mK S) 60 (rO S i) (cO S j) = v then (-4, S)
  else if tK S = false then (nI 1000, zBs (zFa S (zMk (fA S) (pS (fA S) (rO S i) (cO S j)) (nI 3) (mK S))) (zPb (bS S) (rO S i) (cO S j) v))
  else match zgo (pS (fA S) (rO S i) (cO S j)) (min 60 (mK S)) with
    | none => zSetN S au i j v
    | some k => if fA S (6 * k + 1) = au then (if zVU (bS S) (fA S) (mK S) k (rO S i) (cO S j) = v then (nI k, zFa S (upd (upd (fA S) (6 * k + 2) (nI 3)) (6 * k + 5) v)) else (nI k, zFa S (upd (fA S) (6 * k + 5) v))) else zSetN S au i j v
def zSet (S : zSt) (au r c v : Int32) : Int32 × zSt :=
  if au < 0 ∨ nI 4 ≤ au then (-1, S) else if r < 0 ∨ nI (rU S) ≤ r then (-1, S) else if c < 0 ∨ nI (cU S) ≤ c then (-1, S)
  else zSetij S au r.toNatClampNeg c.toNatClampNeg v
/-- no slot is below 0 -/
def wS (S : zSt) : Prop := (∀ j, j < 12 → ¬ rO S j < 0) ∧ ∀ j, j < 8 → ¬ cO S j < 0
theorem z_or {x : Int32} {A : Prop} (h : x < 0 ∨ A) : x < 0 ∨ (¬ x < 0 ∧ A) := by
  rcases h with h | h
  · exact Or.inl h
  · by_cases q : x < 0
    · exact Or.inl q
    · exact Or.inr ⟨q, h⟩
theorem z_natle {x : Int32} {n : Nat} (hn : n < 2147483647) (h : ¬ (x < 0 ∨ nI n < x)) : ∃ j, j ≤ n ∧ x = nI j := by
  rcases pk_ix x (n := n + 1) (by omega) with q | q | ⟨j, hj, e⟩
  · exact absurd (Or.inl q) h
  · refine absurd (Or.inr ?_) h
    rw [nI_succ] at q
    rw [Int32.lt_iff_toInt_lt]
    have h2 := Int32.le_iff_toInt_le.mp q
    rw [← nI_succ, nI_toInt (by omega)] at h2
    rw [nI_toInt (by omega)]
    omega
  · exact ⟨j, by omega, e⟩
set_option maxHeartbeats 4000000 in
set_option maxRecDepth 100000 in
theorem mX4_insertLine_r (E : zE) (a : Nat → Nat) (S : zSt) (au : Nat) (pl : Int32) (hS : okS S) (hau : au < 4) : zM E yX4_insertLine wsX4_insertLine 5 [.ref (a 0), .int (nI au), .int (nI 0), .int pl] [((a 0), .inr (4, [.ref (a 1), .ref (a 3), .ref (a 5), .ref (a 6), .int (zb (tK S))])), ((a 1), .inr (2, [.ref (a 2), .int (nI (rU S))])), ((a 2), .inl (E.2.2.1, 12, .inl (rO S))), ((a 3), .inr (2, [.ref (a 4), .int (nI (cU S))])), ((a 4), .inl (E.2.2.1, 8, .inl (cO S))), ((a 5), .inl (E.2.2.1, 96, .inl (bS S))), ((a 6), .inr (0, [.ref (a 7), .int (nI (mK S))])), ((a 7), .inl (E.2.2.1, 360, .inl (fA S)))] [((a 0), .inr (4, [.ref (a 1), .ref (a 3), .ref (a 5), .ref (a 6), .int (zb (tK ((zInsR S (nI au) pl).2)))])), ((a 1), .inr (2, [.ref (a 2), .int (nI (rU ((zInsR S (nI au) pl).2)))])), ((a 2), .inl (E.2.2.1, 12, .inl (rO ((zInsR S (nI au) pl).2)))), ((a 3), .inr (2, [.ref (a 4), .int (nI (cU ((zInsR S (nI au) pl).2)))])), ((a 4), .inl (E.2.2.1, 8, .inl (cO ((zInsR S (nI au) pl).2)))), ((a 5), .inl (E.2.2.1, 96, .inl (bS ((zInsR S (nI au) pl).2)))), ((a 6), .inr (0, [.ref (a 7), .int (nI (mK ((zInsR S (nI au) pl).2)))])), ((a 7), .inl (E.2.2.1, 360, .inl (fA ((zInsR S (nI au) pl).2))))] (some (.int (zInsR S (nI au) pl).1)) := by
  obtain ⟨hur, huc, hM⟩ := id hS
  by_cases h3 : pl < 0 ∨ nI (rU S) < pl
  · rw [show zInsR S (nI au) pl = (-2, S) from if_pos h3]
    exact mX4_insertLine_rb E a S au pl hS hau (z_or h3)
  · obtain ⟨j, hj, e⟩ := z_natle (by omega) h3
    subst e
    by_cases h4 : 12 ≤ rU S
    · rw [show zInsR S (nI au) (nI j) = (-3, S) by rw [zInsR, if_neg h3, if_pos (Or.inl h4)]]
      exact mX4_insertLine_rf1 E a S au j hS hau hj h4
    · by_cases h5 : tK S = true
      · by_cases h6 : 60 ≤ mK S
        · rw [show zInsR S (nI au) (nI j) = (-3, S) by rw [zInsR, if_neg h3, if_pos (Or.inr ⟨h5, h6⟩)]]
          exact mX4_insertLine_rf2 E a S au j hS hau hj (by omega) h5 h6
        · rw [show zInsR S (nI au) (nI j) = (nI (mK S), zNew (zInR S j) (nI 0) (nI au) (rO S (rU S)) (-5) (-5)) by rw [zInsR, if_neg h3, if_neg (by rintro (z | z); exact h4 z; exact h6 z.2), if_pos h5, nI_clamp (by omega)]]
          exact mX4_insertLine_rt E a S au j hS hau hj (by omega) h5 (by omega)
      · rw [show zInsR S (nI au) (nI j) = (nI 1000, zInR S j) by rw [zInsR, if_neg h3, if_neg (by rintro (z | z); exact h4 z; exact h5 z.1), if_neg h5, nI_clamp (by omega)]]
        exact mX4_insertLine_ru E a S au j hS hau hj (by omega) (by simpa using h5)

set_option maxHeartbeats 4000000 in
set_option maxRecDepth 100000 in
theorem mX4_insertLine_c (E : zE) (a : Nat → Nat) (S : zSt) (au : Nat) (pl : Int32) (hS : okS S) (hau : au < 4) : zM E yX4_insertLine wsX4_insertLine 5 [.ref (a 0), .int (nI au), .int (nI 1), .int pl] [((a 0), .inr (4, [.ref (a 1), .ref (a 3), .ref (a 5), .ref (a 6), .int (zb (tK S))])), ((a 1), .inr (2, [.ref (a 2), .int (nI (rU S))])), ((a 2), .inl (E.2.2.1, 12, .inl (rO S))), ((a 3), .inr (2, [.ref (a 4), .int (nI (cU S))])), ((a 4), .inl (E.2.2.1, 8, .inl (cO S))), ((a 5), .inl (E.2.2.1, 96, .inl (bS S))), ((a 6), .inr (0, [.ref (a 7), .int (nI (mK S))])), ((a 7), .inl (E.2.2.1, 360, .inl (fA S)))] [((a 0), .inr (4, [.ref (a 1), .ref (a 3), .ref (a 5), .ref (a 6), .int (zb (tK ((zInsC S (nI au) pl).2)))])), ((a 1), .inr (2, [.ref (a 2), .int (nI (rU ((zInsC S (nI au) pl).2)))])), ((a 2), .inl (E.2.2.1, 12, .inl (rO ((zInsC S (nI au) pl).2)))), ((a 3), .inr (2, [.ref (a 4), .int (nI (cU ((zInsC S (nI au) pl).2)))])), ((a 4), .inl (E.2.2.1, 8, .inl (cO ((zInsC S (nI au) pl).2)))), ((a 5), .inl (E.2.2.1, 96, .inl (bS ((zInsC S (nI au) pl).2)))), ((a 6), .inr (0, [.ref (a 7), .int (nI (mK ((zInsC S (nI au) pl).2)))])), ((a 7), .inl (E.2.2.1, 360, .inl (fA ((zInsC S (nI au) pl).2))))] (some (.int (zInsC S (nI au) pl).1)) := by
  obtain ⟨hur, huc, hM⟩ := id hS
  by_cases h3 : pl < 0 ∨ nI (cU S) < pl
  · rw [show zInsC S (nI au) pl = (-2, S) from if_pos h3]
    exact mX4_insertLine_cb E a S au pl hS hau (z_or h3)
  · obtain ⟨j, hj, e⟩ := z_natle (by omega) h3
    subst e
    by_cases h4 : 8 ≤ cU S
    · rw [show zInsC S (nI au) (nI j) = (-3, S) by rw [zInsC, if_neg h3, if_pos (Or.inl h4)]]
      exact mX4_insertLine_cf1 E a S au j hS hau hj h4
    · by_cases h5 : tK S = true
      · by_cases h6 : 60 ≤ mK S
        · rw [show zInsC S (nI au) (nI j) = (-3, S) by rw [zInsC, if_neg h3, if_pos (Or.inr ⟨h5, h6⟩)]]
          exact mX4_insertLine_cf2 E a S au j hS hau hj (by omega) h5 h6
        · rw [show zInsC S (nI au) (nI j) = (nI (mK S), zNew (zInC S j) (nI 2) (nI au) (-5) (cO S (cU S)) (-5)) by rw [zInsC, if_neg h3, if_neg (by rintro (z | z); exact h4 z; exact h6 z.2), if_pos h5, nI_clamp (by omega)]]
          exact mX4_insertLine_ct E a S au j hS hau hj (by omega) h5 (by omega)
      · rw [show zInsC S (nI au) (nI j) = (nI 1000, zInC S j) by rw [zInsC, if_neg h3, if_neg (by rintro (z | z); exact h4 z; exact h5 z.1), if_neg h5, nI_clamp (by omega)]]
        exact mX4_insertLine_cu E a S au j hS hau hj (by omega) (by simpa using h5)

set_option maxHeartbeats 4000000 in
set_option maxRecDepth 100000 in
theorem mX4_insertLine (E : zE) (a : Nat → Nat) (S : zSt) (au ax pl : Int32) (hS : okS S) : zM E yX4_insertLine wsX4_insertLine 5 [.ref (a 0), .int au, .int ax, .int pl] [((a 0), .inr (4, [.ref (a 1), .ref (a 3), .ref (a 5), .ref (a 6), .int (zb (tK S))])), ((a 1), .inr (2, [.ref (a 2), .int (nI (rU S))])), ((a 2), .inl (E.2.2.1, 12, .inl (rO S))), ((a 3), .inr (2, [.ref (a 4), .int (nI (cU S))])), ((a 4), .inl (E.2.2.1, 8, .inl (cO S))), ((a 5), .inl (E.2.2.1, 96, .inl (bS S))), ((a 6), .inr (0, [.ref (a 7), .int (nI (mK S))])), ((a 7), .inl (E.2.2.1, 360, .inl (fA S)))] [((a 0), .inr (4, [.ref (a 1), .ref (a 3), .ref (a 5), .ref (a 6), .int (zb (tK ((zIns S au ax pl).2)))])), ((a 1), .inr (2, [.ref (a 2), .int (nI (rU ((zIns S au ax pl).2)))])), ((a 2), .inl (E.2.2.1, 12, .inl (rO ((zIns S au ax pl).2)))), ((a 3), .inr (2, [.ref (a 4), .int (nI (cU ((zIns S au ax pl).2)))])), ((a 4), .inl (E.2.2.1, 8, .inl (cO ((zIns S au ax pl).2)))), ((a 5), .inl (E.2.2.1, 96, .inl (bS ((zIns S au ax pl).2)))), ((a 6), .inr (0, [.ref (a 7), .int (nI (mK ((zIns S au ax pl).2)))])), ((a 7), .inl (E.2.2.1, 360, .inl (fA ((zIns S au ax pl).2))))] (some (.int (zIns S au ax pl).1)) := by
  by_cases h1 : au < 0 ∨ nI 4 ≤ au
  · rw [show zIns S au ax pl = (-1, S) from if_pos h1]
    exact mX4_insertLine_b1 E a S au ax pl hS (z_or h1)
  · obtain ⟨u, hu, e⟩ := z_nat (n := 4) (by decide) (fun q => h1 (Or.inl q)) (fun q => h1 (Or.inr q))
    subst e
    by_cases h2 : ax = 0
    · have e0 : ax = nI 0 := h2.trans nI_0.symm
      subst e0
      rw [show zIns S (nI u) (nI 0) pl = zInsR S (nI u) pl by rw [zIns, if_neg h1, if_pos h2]]
      exact mX4_insertLine_r E a S u pl hS hu
    · by_cases h3 : ax = nI 1
      · subst h3
        rw [show zIns S (nI u) (nI 1) pl = zInsC S (nI u) pl by rw [zIns, if_neg h1, if_neg h2, if_pos rfl]]
        exact mX4_insertLine_c E a S u pl hS hu
      · rw [show zIns S (nI u) ax pl = (-1, S) by rw [zIns, if_neg h1, if_neg h2, if_neg h3]]
        exact mX4_insertLine_b2 E a S u ax pl hS hu h2 h3

set_option maxHeartbeats 4000000 in
set_option maxRecDepth 100000 in
theorem mX4_removeLine_r (E : zE) (a : Nat → Nat) (S : zSt) (au j : Nat) (hS : okS S) (hW : wS S) (hau : au < 4) (hj : j < rU S) : zM E yX4_removeLine wsX4_removeLine 5 [.ref (a 0), .int (nI au), .int (nI 0), .int (nI j)] [((a 0), .inr (4, [.ref (a 1), .ref (a 3), .ref (a 5), .ref (a 6), .int (zb (tK S))])), ((a 1), .inr (2, [.ref (a 2), .int (nI (rU S))])), ((a 2), .inl (E.2.2.1, 12, .inl (rO S))), ((a 3), .inr (2, [.ref (a 4), .int (nI (cU S))])), ((a 4), .inl (E.2.2.1, 8, .inl (cO S))), ((a 5), .inl (E.2.2.1, 96, .inl (bS S))), ((a 6), .inr (0, [.ref (a 7), .int (nI (mK S))])), ((a 7), .inl (E.2.2.1, 360, .inl (fA S)))] [((a 0), .inr (4, [.ref (a 1), .ref (a 3), .ref (a 5), .ref (a 6), .int (zb (tK ((zRemRj S (nI au) j).2)))])), ((a 1), .inr (2, [.ref (a 2), .int (nI (rU ((zRemRj S (nI au) j).2)))])), ((a 2), .inl (E.2.2.1, 12, .inl (rO ((zRemRj S (nI au) j).2)))), ((a 3), .inr (2, [.ref (a 4), .int (nI (cU ((zRemRj S (nI au) j).2)))])), ((a 4), .inl (E.2.2.1, 8, .inl (cO ((zRemRj S (nI au) j).2)))), ((a 5), .inl (E.2.2.1, 96, .inl (bS ((zRemRj S (nI au) j).2)))), ((a 6), .inr (0, [.ref (a 7), .int (nI (mK ((zRemRj S (nI au) j).2)))])), ((a 7), .inl (E.2.2.1, 360, .inl (fA ((zRemRj S (nI au) j).2))))] (some (.int (zRemRj S (nI au) j).1)) := by
  obtain ⟨hur, huc, hM⟩ := id hS
  have hsl : ¬ rO S j < 0 := hW.1 j (by omega)
  by_cases h1 : tK S = false
  · rw [show zRemRj S (nI au) j = (nI 1000, zDrR S (rO S j)) from if_pos h1]
    exact mX4_removeLine_ru E a S au j hS hau hj hsl h1
  · have h1' : tK S = true := by simpa using h1
    by_cases h2 : zf (pLn (fA S) (nI 1) 3 (rO S j)) (mK S) < 0
    · by_cases h3 : zix (pLn (fA S) (nI 0) 3 (rO S j)) (mK S) < mK S ∧ fA S (6 * zix (pLn (fA S) (nI 0) 3 (rO S j)) (mK S) + 1) = nI au
      · rw [show zRemRj S (nI au) j = (nI (zix (pLn (fA S) (nI 0) 3 (rO S j)) (mK S)), zDrR S (rO S j)) by rw [zRemRj, if_neg h1, if_neg (fun z => z h2), if_pos h3]]
        exact mX4_removeLine_ro E a S au j _ hS hau hj hsl h1' h2 (zf_ix (by omega) h3.1) h3.1 h3.2
      · by_cases h4 : 60 ≤ mK S
        · rw [show zRemRj S (nI au) j = (-3, S) by rw [zRemRj, if_neg h1, if_neg (fun z => z h2), if_neg h3, if_pos h4]]
          by_cases h5 : zix (pLn (fA S) (nI 0) 3 (rO S j)) (mK S) < mK S
          · exact mX4_removeLine_rmf E a S au j _ hS hau hj hsl h1' h2 (zf_ix (by omega) h5) h5 (fun z => h3 ⟨h5, z⟩) h4
          · exact mX4_removeLine_rnf E a S au j hS hau hj hsl h1' h2 (by rw [zf_nix (by omega) h5]; decide) h4
        · rw [show zRemRj S (nI au) j = (nI (mK S), zNew S (nI 1) (nI au) (rO S j) (-5) (-5)) by rw [zRemRj, if_neg h1, if_neg (fun z => z h2), if_neg h3, if_neg h4]]
          by_cases h5 : zix (pLn (fA S) (nI 0) 3 (rO S j)) (mK S) < mK S
          · exact mX4_removeLine_rmt E a S au j _ hS hau hj hsl h1' h2 (zf_ix (by omega) h5) h5 (fun z => h3 ⟨h5, z⟩) (by omega)
          · exact mX4_removeLine_rnt E a S au j hS hau hj hsl h1' h2 (by rw [zf_nix (by omega) h5]; decide) (by omega)
    · rw [show zRemRj S (nI au) j = (-4, S) by rw [zRemRj, if_neg h1, if_pos h2]]
      exact mX4_removeLine_rd E a S au j hS hau hj hsl h1' h2

set_option maxHeartbeats 4000000 in
set_option maxRecDepth 100000 in
theorem mX4_removeLine_c (E : zE) (a : Nat → Nat) (S : zSt) (au j : Nat) (hS : okS S) (hW : wS S) (hau : au < 4) (hj : j < cU S) : zM E yX4_removeLine wsX4_removeLine 5 [.ref (a 0), .int (nI au), .int (nI 1), .int (nI j)] [((a 0), .inr (4, [.ref (a 1), .ref (a 3), .ref (a 5), .ref (a 6), .int (zb (tK S))])), ((a 1), .inr (2, [.ref (a 2), .int (nI (rU S))])), ((a 2), .inl (E.2.2.1, 12, .inl (rO S))), ((a 3), .inr (2, [.ref (a 4), .int (nI (cU S))])), ((a 4), .inl (E.2.2.1, 8, .inl (cO S))), ((a 5), .inl (E.2.2.1, 96, .inl (bS S))), ((a 6), .inr (0, [.ref (a 7), .int (nI (mK S))])), ((a 7), .inl (E.2.2.1, 360, .inl (fA S)))] [((a 0), .inr (4, [.ref (a 1), .ref (a 3), .ref (a 5), .ref (a 6), .int (zb (tK ((zRemCj S (nI au) j).2)))])), ((a 1), .inr (2, [.ref (a 2), .int (nI (rU ((zRemCj S (nI au) j).2)))])), ((a 2), .inl (E.2.2.1, 12, .inl (rO ((zRemCj S (nI au) j).2)))), ((a 3), .inr (2, [.ref (a 4), .int (nI (cU ((zRemCj S (nI au) j).2)))])), ((a 4), .inl (E.2.2.1, 8, .inl (cO ((zRemCj S (nI au) j).2)))), ((a 5), .inl (E.2.2.1, 96, .inl (bS ((zRemCj S (nI au) j).2)))), ((a 6), .inr (0, [.ref (a 7), .int (nI (mK ((zRemCj S (nI au) j).2)))])), ((a 7), .inl (E.2.2.1, 360, .inl (fA ((zRemCj S (nI au) j).2))))] (some (.int (zRemCj S (nI au) j).1)) := by
  obtain ⟨hur, huc, hM⟩ := id hS
  have hsl : ¬ cO S j < 0 := hW.2 j (by omega)
  by_cases h1 : tK S = false
  · rw [show zRemCj S (nI au) j = (nI 1000, zDrC S (cO S j)) from if_pos h1]
    exact mX4_removeLine_cu E a S au j hS hau hj hsl h1
  · have h1' : tK S = true := by simpa using h1
    by_cases h2 : zf (pLn (fA S) (nI 3) 4 (cO S j)) (mK S) < 0
    · by_cases h3 : zix (pLn (fA S) (nI 2) 4 (cO S j)) (mK S) < mK S ∧ fA S (6 * zix (pLn (fA S) (nI 2) 4 (cO S j)) (mK S) + 1) = nI au
      · rw [show zRemCj S (nI au) j = (nI (zix (pLn (fA S) (nI 2) 4 (cO S j)) (mK S)), zDrC S (cO S j)) by rw [zRemCj, if_neg h1, if_neg (fun z => z h2), if_pos h3]]
        exact mX4_removeLine_co E a S au j _ hS hau hj hsl h1' h2 (zf_ix (by omega) h3.1) h3.1 h3.2
      · by_cases h4 : 60 ≤ mK S
        · rw [show zRemCj S (nI au) j = (-3, S) by rw [zRemCj, if_neg h1, if_neg (fun z => z h2), if_neg h3, if_pos h4]]
          by_cases h5 : zix (pLn (fA S) (nI 2) 4 (cO S j)) (mK S) < mK S
          · exact mX4_removeLine_cmf E a S au j _ hS hau hj hsl h1' h2 (zf_ix (by omega) h5) h5 (fun z => h3 ⟨h5, z⟩) h4
          · exact mX4_removeLine_cnf E a S au j hS hau hj hsl h1' h2 (by rw [zf_nix (by omega) h5]; decide) h4
        · rw [show zRemCj S (nI au) j = (nI (mK S), zNew S (nI 3) (nI au) (-5) (cO S j) (-5)) by rw [zRemCj, if_neg h1, if_neg (fun z => z h2), if_neg h3, if_neg h4]]
          by_cases h5 : zix (pLn (fA S) (nI 2) 4 (cO S j)) (mK S) < mK S
          · exact mX4_removeLine_cmt E a S au j _ hS hau hj hsl h1' h2 (zf_ix (by omega) h5) h5 (fun z => h3 ⟨h5, z⟩) (by omega)
          · exact mX4_removeLine_cnt E a S au j hS hau hj hsl h1' h2 (by rw [zf_nix (by omega) h5]; decide) (by omega)
    · rw [show zRemCj S (nI au) j = (-4, S) by rw [zRemCj, if_neg h1, if_pos h2]]
      exact mX4_removeLine_cd E a S au j hS hau hj hsl h1' h2

set_option maxHeartbeats 4000000 in
set_option maxRecDepth 100000 in
theorem mX4_removeLine (E : zE) (a : Nat → Nat) (S : zSt) (au ax pl : Int32) (hS : okS S) (hW : wS S) : zM E yX4_removeLine wsX4_removeLine 5 [.ref (a 0), .int au, .int ax, .int pl] [((a 0), .inr (4, [.ref (a 1), .ref (a 3), .ref (a 5), .ref (a 6), .int (zb (tK S))])), ((a 1), .inr (2, [.ref (a 2), .int (nI (rU S))])), ((a 2), .inl (E.2.2.1, 12, .inl (rO S))), ((a 3), .inr (2, [.ref (a 4), .int (nI (cU S))])), ((a 4), .inl (E.2.2.1, 8, .inl (cO S))), ((a 5), .inl (E.2.2.1, 96, .inl (bS S))), ((a 6), .inr (0, [.ref (a 7), .int (nI (mK S))])), ((a 7), .inl (E.2.2.1, 360, .inl (fA S)))] [((a 0), .inr (4, [.ref (a 1), .ref (a 3), .ref (a 5), .ref (a 6), .int (zb (tK ((zRem S au ax pl).2)))])), ((a 1), .inr (2, [.ref (a 2), .int (nI (rU ((zRem S au ax pl).2)))])), ((a 2), .inl (E.2.2.1, 12, .inl (rO ((zRem S au ax pl).2)))), ((a 3), .inr (2, [.ref (a 4), .int (nI (cU ((zRem S au ax pl).2)))])), ((a 4), .inl (E.2.2.1, 8, .inl (cO ((zRem S au ax pl).2)))), ((a 5), .inl (E.2.2.1, 96, .inl (bS ((zRem S au ax pl).2)))), ((a 6), .inr (0, [.ref (a 7), .int (nI (mK ((zRem S au ax pl).2)))])), ((a 7), .inl (E.2.2.1, 360, .inl (fA ((zRem S au ax pl).2))))] (some (.int (zRem S au ax pl).1)) := by
  obtain ⟨hur, huc, hM⟩ := id hS
  by_cases h1 : au < 0 ∨ nI 4 ≤ au
  · rw [show zRem S au ax pl = (-1, S) from if_pos h1]
    exact mX4_removeLine_b1 E a S au ax pl hS (z_or h1)
  · obtain ⟨u, hu, e⟩ := z_nat (n := 4) (by decide) (fun q => h1 (Or.inl q)) (fun q => h1 (Or.inr q))
    subst e
    by_cases h2 : ax = 0
    · have e0 : ax = nI 0 := h2.trans nI_0.symm
      subst e0
      by_cases h4 : pl < 0 ∨ nI (rU S) ≤ pl
      · rw [show zRem S (nI u) (nI 0) pl = (-1, S) by rw [zRem, if_neg h1, if_pos h2, if_pos h4]]
        exact mX4_removeLine_rb E a S u pl hS hu (z_or h4)
      · obtain ⟨j, hj, e⟩ := z_nat (n := rU S) (by omega) (fun q => h4 (Or.inl q)) (fun q => h4 (Or.inr q))
        subst e
        rw [show zRem S (nI u) (nI 0) (nI j) = zRemRj S (nI u) j by rw [zRem, if_neg h1, if_pos h2, if_neg h4, nI_clamp (by omega)]]
        exact mX4_removeLine_r E a S u j hS hW hu hj
    · by_cases h3 : ax = nI 1
      · subst h3
        by_cases h4 : pl < 0 ∨ nI (cU S) ≤ pl
        · rw [show zRem S (nI u) (nI 1) pl = (-1, S) by rw [zRem, if_neg h1, if_neg h2, if_pos rfl, if_pos h4]]
          exact mX4_removeLine_cb E a S u pl hS hu (z_or h4)
        · obtain ⟨j, hj, e⟩ := z_nat (n := cU S) (by omega) (fun q => h4 (Or.inl q)) (fun q => h4 (Or.inr q))
          subst e
          rw [show zRem S (nI u) (nI 1) (nI j) = zRemCj S (nI u) j by rw [zRem, if_neg h1, if_neg h2, if_pos rfl, if_neg h4, nI_clamp (by omega)]]
          exact mX4_removeLine_c E a S u j hS hW hu hj
      · rw [show zRem S (nI u) ax pl = (-1, S) by rw [zRem, if_neg h1, if_neg h2, if_neg h3]]
        exact mX4_removeLine_b2 E a S u ax pl hS hu h2 h3

set_option maxHeartbeats 4000000 in
set_option maxRecDepth 100000 in
theorem mX4_setCell_ij (E : zE) (a : Nat → Nat) (S : zSt) (au i j : Nat) (v : Int32) (hS : okS S) (hW : wS S) (hau : au < 4) (hi : i < rU S) (hj : j < cU S) : zM E yX4_setCell wsX4_setCell 5 [.ref (a 0), .int (nI au), .int (nI i), .int (nI j), .int v] [((a 0), .inr (4, [.ref (a 1), .ref (a 3), .ref (a 5), .ref (a 6), .int (zb (tK S))])), ((a 1), .inr (2, [.ref (a 2), .int (nI (rU S))])), ((a 2), .inl (E.2.2.1, 12, .inl (rO S))), ((a 3), .inr (2, [.ref (a 4), .int (nI (cU S))])), ((a 4), .inl (E.2.2.1, 8, .inl (cO S))), ((a 5), .inl (E.2.2.1, 96, .inl (bS S))), ((a 6), .inr (0, [.ref (a 7), .int (nI (mK S))])), ((a 7), .inl (E.2.2.1, 360, .inl (fA S)))] [((a 0), .inr (4, [.ref (a 1), .ref (a 3), .ref (a 5), .ref (a 6), .int (zb (tK ((zSetij S (nI au) i j v).2)))])), ((a 1), .inr (2, [.ref (a 2), .int (nI (rU ((zSetij S (nI au) i j v).2)))])), ((a 2), .inl (E.2.2.1, 12, .inl (rO ((zSetij S (nI au) i j v).2)))), ((a 3), .inr (2, [.ref (a 4), .int (nI (cU ((zSetij S (nI au) i j v).2)))])), ((a 4), .inl (E.2.2.1, 8, .inl (cO ((zSetij S (nI au) i j v).2)))), ((a 5), .inl (E.2.2.1, 96, .inl (bS ((zSetij S (nI au) i j v).2)))), ((a 6), .inr (0, [.ref (a 7), .int (nI (mK ((zSetij S (nI au) i j v).2)))])), ((a 7), .inl (E.2.2.1, 360, .inl (fA ((zSetij S (nI au) i j v).2))))] (some (.int (zSetij S (nI au) i j v).1)) := by
  obtain ⟨hur, huc, hM⟩ := id hS
  have hsl : ¬ rO S i < 0 := hW.1 i (by omega)
  have hsl2 : ¬ cO S j < 0 := hW.2 j (by omega)
  by_cases h1 : v < 0 ∨ nI 9999 < v
  · rw [show zSetij S (nI au) i j v = (-2, S) from if_pos h1]
    exact mX4_setCell_b4 E a S au i j v hS hau hi hj hsl hsl2 (z_or h1)
  · have hv0 : ¬ v < 0 := fun q => h1 (Or.inl q)
    have hv1 : ¬ nI 9999 < v := fun q => h1 (Or.inr q)
    by_cases h2 : zf (pLn (fA S) (nI 1) 3 (rO S i)) (mK S) < 0
    · by_cases h3 : zf (pLn (fA S) (nI 3) 4 (cO S j)) (mK S) < 0
      · by_cases h4 : zVU (bS S) (fA S) (mK S) 60 (rO S i) (cO S j) = v
        · rw [show zSetij S (nI au) i j v = (-4, S) by rw [zSetij, if_neg h1, if_pos (Or.inr (Or.inr h4))]]
          exact mX4_setCell_n3 E a S au i j v hS hau hi hj hsl hsl2 hv0 hv1 h2 h3 h4
        · have hn : ¬ (¬ zf (pLn (fA S) (nI 1) 3 (rO S i)) (mK S) < 0 ∨ ¬ zf (pLn (fA S) (nI 3) 4 (cO S j)) (mK S) < 0 ∨ zVU (bS S) (fA S) (mK S) 60 (rO S i) (cO S j) = v) := by
            rintro (z | z | z)
            · exact z h2
            · exact z h3
            · exact h4 z
          by_cases h5 : tK S = false
          · rw [show zSetij S (nI au) i j v = (nI 1000, zBs (zFa S (zMk (fA S) (pS (fA S) (rO S i) (cO S j)) (nI 3) (mK S))) (zPb (bS S) (rO S i) (cO S j) v)) by rw [zSetij, if_neg h1, if_neg hn, if_pos h5]]
            exact mX4_setCell_u E a S au i j v hS hau hi hj hsl hsl2 hv0 hv1 h2 h3 h4 h5
          · have h5' : tK S = true := by simpa using h5
            cases hz : zgo (pS (fA S) (rO S i) (cO S j)) (min 60 (mK S)) with
            | none =>
              have hz2 := zg_none hz
              rw [show zSetij S (nI au) i j v = zSetN S (nI au) i j v by rw [zSetij, if_neg h1, if_neg hn, if_neg h5, hz]]
              by_cases h6 : 60 ≤ mK S
              · rw [show zSetN S (nI au) i j v = (-3, S) from if_pos h6]
                exact mX4_setCell_nf E a S au i j v hS hau hi hj hsl hsl2 hv0 hv1 h2 h3 h4 h5' hz2 h6
              · rw [show zSetN S (nI au) i j v = (nI (mK S), zNew S (nI 4) (nI au) (rO S i) (cO S j) v) from if_neg h6]
                exact mX4_setCell_nt E a S au i j v hS hau hi hj hsl hsl2 hv0 hv1 h2 h3 h4 h5' hz2 (by omega)
            | some k =>
              have hz2 := zg_some hz
              have hk : k < mK S := by have := zgo_lt hz; omega
              by_cases h7 : fA S (6 * k + 1) = nI au
              · by_cases h8 : zVU (bS S) (fA S) (mK S) k (rO S i) (cO S j) = v
                · rw [show zSetij S (nI au) i j v = (nI k, zFa S (upd (upd (fA S) (6 * k + 2) (nI 3)) (6 * k + 5) v)) by rw [zSetij, if_neg h1, if_neg hn, if_neg h5, hz]; simp only [h7, h8, if_true]]
                  exact mX4_setCell_d E a S au i j v k hS hau hi hj hsl hsl2 hv0 hv1 h2 h3 h4 h5' hz2 hk h7 h8
                · rw [show zSetij S (nI au) i j v = (nI k, zFa S (upd (fA S) (6 * k + 5) v)) by rw [zSetij, if_neg h1, if_neg hn, if_neg h5, hz]; simp only [h7, h8, if_true, if_false]]
                  exact mX4_setCell_v E a S au i j v k hS hau hi hj hsl hsl2 hv0 hv1 h2 h3 h4 h5' hz2 hk h7 h8
              · rw [show zSetij S (nI au) i j v = zSetN S (nI au) i j v by rw [zSetij, if_neg h1, if_neg hn, if_neg h5, hz]; simp only [h7, if_false]]
                by_cases h6 : 60 ≤ mK S
                · rw [show zSetN S (nI au) i j v = (-3, S) from if_pos h6]
                  exact mX4_setCell_mf E a S au i j v k hS hau hi hj hsl hsl2 hv0 hv1 h2 h3 h4 h5' hz2 hk h7 h6
                · rw [show zSetN S (nI au) i j v = (nI (mK S), zNew S (nI 4) (nI au) (rO S i) (cO S j) v) from if_neg h6]
                  exact mX4_setCell_mt E a S au i j v k hS hau hi hj hsl hsl2 hv0 hv1 h2 h3 h4 h5' hz2 hk h7 (by omega)
      · rw [show zSetij S (nI au) i j v = (-4, S) by rw [zSetij, if_neg h1, if_pos (Or.inr (Or.inl h3))]]
        exact mX4_setCell_n2 E a S au i j v hS hau hi hj hsl hsl2 hv0 hv1 h2 h3
    · rw [show zSetij S (nI au) i j v = (-4, S) by rw [zSetij, if_neg h1, if_pos (Or.inl h2)]]
      exact mX4_setCell_n1 E a S au i j v hS hau hi hj hsl hsl2 hv0 hv1 h2
set_option maxHeartbeats 4000000 in
set_option maxRecDepth 100000 in
theorem mX4_setCell (E : zE) (a : Nat → Nat) (S : zSt) (au r c v : Int32) (hS : okS S) (hW : wS S) : zM E yX4_setCell wsX4_setCell 5 [.ref (a 0), .int au, .int r, .int c, .int v] [((a 0), .inr (4, [.ref (a 1), .ref (a 3), .ref (a 5), .ref (a 6), .int (zb (tK S))])), ((a 1), .inr (2, [.ref (a 2), .int (nI (rU S))])), ((a 2), .inl (E.2.2.1, 12, .inl (rO S))), ((a 3), .inr (2, [.ref (a 4), .int (nI (cU S))])), ((a 4), .inl (E.2.2.1, 8, .inl (cO S))), ((a 5), .inl (E.2.2.1, 96, .inl (bS S))), ((a 6), .inr (0, [.ref (a 7), .int (nI (mK S))])), ((a 7), .inl (E.2.2.1, 360, .inl (fA S)))] [((a 0), .inr (4, [.ref (a 1), .ref (a 3), .ref (a 5), .ref (a 6), .int (zb (tK ((zSet S au r c v).2)))])), ((a 1), .inr (2, [.ref (a 2), .int (nI (rU ((zSet S au r c v).2)))])), ((a 2), .inl (E.2.2.1, 12, .inl (rO ((zSet S au r c v).2)))), ((a 3), .inr (2, [.ref (a 4), .int (nI (cU ((zSet S au r c v).2)))])), ((a 4), .inl (E.2.2.1, 8, .inl (cO ((zSet S au r c v).2)))), ((a 5), .inl (E.2.2.1, 96, .inl (bS ((zSet S au r c v).2)))), ((a 6), .inr (0, [.ref (a 7), .int (nI (mK ((zSet S au r c v).2)))])), ((a 7), .inl (E.2.2.1, 360, .inl (fA ((zSet S au r c v).2))))] (some (.int (zSet S au r c v).1)) := by
  obtain ⟨hur, huc, hM⟩ := id hS
  by_cases h1 : au < 0 ∨ nI 4 ≤ au
  · rw [show zSet S au r c v = (-1, S) from if_pos h1]
    exact mX4_setCell_b1 E a S au r c v hS (z_or h1)
  · obtain ⟨u, hu, e⟩ := z_nat (n := 4) (by decide) (fun q => h1 (Or.inl q)) (fun q => h1 (Or.inr q))
    subst e
    by_cases h2 : r < 0 ∨ nI (rU S) ≤ r
    · rw [show zSet S (nI u) r c v = (-1, S) by rw [zSet, if_neg h1, if_pos h2]]
      exact mX4_setCell_b2 E a S u r c v hS hu (z_or h2)
    · obtain ⟨i, hi, e⟩ := z_nat (n := rU S) (by omega) (fun q => h2 (Or.inl q)) (fun q => h2 (Or.inr q))
      subst e
      by_cases h3 : c < 0 ∨ nI (cU S) ≤ c
      · rw [show zSet S (nI u) (nI i) c v = (-1, S) by rw [zSet, if_neg h1, if_neg h2, if_pos h3]]
        exact mX4_setCell_b3 E a S u i c v hS hu hi (hW.1 i (by omega)) (z_or h3)
      · obtain ⟨j, hj, e⟩ := z_nat (n := cU S) (by omega) (fun q => h3 (Or.inl q)) (fun q => h3 (Or.inr q))
        subst e
        rw [show zSet S (nI u) (nI i) (nI j) v = zSetij S (nI u) i j v by rw [zSet, if_neg h1, if_neg h2, if_neg h3, nI_clamp (by omega), nI_clamp (by omega)]]
        exact mX4_setCell_ij E a S u i j v hS hW hu hi hj
