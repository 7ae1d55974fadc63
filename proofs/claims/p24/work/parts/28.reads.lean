/-! what the table tells -/
def rIn (S : zSt) (i : Nat) : Int32 := zf (pLn (fA S) (nI 0) 3 (rO S i)) (mK S)
def rRm (S : zSt) (i : Nat) : Int32 := zf (pLn (fA S) (nI 1) 3 (rO S i)) (mK S)
def cIn (S : zSt) (i : Nat) : Int32 := zf (pLn (fA S) (nI 2) 4 (cO S i)) (mK S)
def cRm (S : zSt) (i : Nat) : Int32 := zf (pLn (fA S) (nI 3) 4 (cO S i)) (mK S)
def rSh (S : zSt) (vw : Int32) (i : Nat) : Bool := pSh (fA S) (mK S) vw (nI 0) (nI 1) 3 (rO S i)
def cSh (S : zSt) (vw : Int32) (i : Nat) : Bool := pSh (fA S) (mK S) vw (nI 2) (nI 3) 4 (cO S i)
def zNR (S : zSt) : Nat := zc (pPO (fA S) (nI 0)) (mK S) + zc (pPO (fA S) (nI 1)) (mK S)
def zNC (S : zSt) : Nat := zc (pPO (fA S) (nI 2)) (mK S) + zc (pPO (fA S) (nI 3)) (mK S)
def zPd (S : zSt) (pl : Nat) : Int32 :=
  if pl < zNR S then (zRL (rIn S) (rRm S) (rU S)).getD pl (-5)
  else if pl < zNR S + zNC S then (zRL (cIn S) (cRm S) (cU S)).getD (pl - zNR S) (-5)
  else (zCat (fun i => zCat (fun j => zls (pS (fA S) (rO S i) (cO S j)) (mK S)) (cU S)) (rU S)).getD (pl - zNR S - zNC S) (-5)
def zCe (S : zSt) (vw r c : Int32) : Int32 :=
  if zat (rO S) (pK (rSh S vw) r) (rU S) < 0 then -1 else if zat (cO S) (pK (cSh S vw) c) (cU S) < 0 then -1
  else zVV (bS S) (fA S) (mK S) vw (zat (rO S) (pK (rSh S vw) r) (rU S)) (zat (cO S) (pK (cSh S vw) c) (cU S))
def zLiR (S : zSt) (j : Nat) (wh : Int32) : Int32 :=
  if wh = nI 0 then rIn S j else if wh = nI 1 then rRm S j else if wh = nI 2 then zpv (rO S) (rSh S (nI 1)) (rU S) (rO S j) else if wh = nI 3 then zpv (rO S) (rSh S (nI 2)) (rU S) (rO S j) else if wh = nI 4 then nI (zc (pSL (fA S) 3 (rO S j)) (mK S)) else -2
def zLiC (S : zSt) (j : Nat) (wh : Int32) : Int32 :=
  if wh = nI 0 then cIn S j else if wh = nI 1 then cRm S j else if wh = nI 2 then zpv (cO S) (cSh S (nI 1)) (cU S) (cO S j) else if wh = nI 3 then zpv (cO S) (cSh S (nI 2)) (cU S) (cO S j) else if wh = nI 4 then nI (zc (pSL (fA S) 4 (cO S j)) (mK S)) else -2
def zSe (S : zSt) (r c lv : Int32) : Int32 :=
  if zsa (rO S) (rU S) r < 0 then -1 else if zsa (cO S) (cU S) c < 0 then -1 else if lv < 0 then -2 else zf (pK (pS (fA S) (zsa (rO S) (rU S) r) (zsa (cO S) (cU S) c)) lv) (mK S)
def zChg (S : zSt) (x : Nat) (wh : Int32) : Int32 :=
  if wh = nI 0 then fA S (6 * x) else if wh = nI 1 then fA S (6 * x + 1) else if wh = nI 2 then fA S (6 * x + 2)
  else if wh = nI 3 then zf (pE (rO S) (fA S (6 * x + 3))) (rU S) else if wh = nI 4 then zf (pE (cO S) (fA S (6 * x + 4))) (cU S)
  else if wh = nI 5 then fA S (6 * x + 5) else if wh = nI 6 then zVB (bS S) (fA S) (mK S) x
  else if wh = nI 7 then nI (zc (fun j => zrs (fA S) x j) (mK S)) else if wh = nI 8 then nI (zc (fun j => zrs (fA S) j x) (mK S)) else -2
def zAut (S : zSt) (au : Nat) (stt : Int32) : Int32 := if stt < 0 then -2 else if nI 3 < stt then -2 else nI (zc (pIS (fA S) (nI au) stt) (mK S))
def zCt (S : zSt) (kp ln : Nat) (wh : Int32) : Int32 :=
  if wh = nI 0 then nI (mK S) else if wh = nI 1 then nI (zc (pIS (fA S) (-1) (nI 0)) (mK S)) else if wh = nI 2 then nI (zc (pIS (fA S) (-1) (nI 1)) (mK S))
  else if wh = nI 3 then nI (zc (pIS (fA S) (-1) (nI 2)) (mK S)) else if wh = nI 4 then nI (zc (pIS (fA S) (-1) (nI 3)) (mK S))
  else if wh = nI 5 then zb (tK S) else if wh = nI 6 then nI (zc (pPO (fA S) (nI 0)) (mK S) + zc (pPO (fA S) (nI 2)) (mK S))
  else if wh = nI 7 then nI (zc (pPO (fA S) (nI 1)) (mK S) + zc (pPO (fA S) (nI 3)) (mK S)) else if wh = nI 8 then nI (zc (pPO (fA S) (nI 4)) (mK S))
  else if wh = nI 9 then nI kp else if wh = nI 10 then nI ln else -2
theorem kX4_pendingInReadingOrder : zY yX4_pendingInReadingOrder wsX4_pendingInReadingOrder cX4_pendingInReadingOrder 4 (some .int) 1 := ⟨⟨_, rfl⟩, ⟨by decide +kernel, by decide +kernel, by decide +kernel⟩, by decide +kernel⟩
set_option maxHeartbeats 4000000 in
set_option maxRecDepth 100000 in
theorem mX4_pendingInReadingOrder (E : zE) (a : Nat → Nat) (S : zSt) (pl : Nat) (hS : okS S) (hpl : pl < 2147483648) : zM E yX4_pendingInReadingOrder wsX4_pendingInReadingOrder 4 [.ref (a 0), .int (nI pl)] [((a 0), .inr (4, [.ref (a 1), .ref (a 3), .ref (a 5), .ref (a 6), .int (zb (tK S))])), ((a 1), .inr (2, [.ref (a 2), .int (nI (rU S))])), ((a 2), .inl (E.2.2.1, 12, .inl (rO S))), ((a 3), .inr (2, [.ref (a 4), .int (nI (cU S))])), ((a 4), .inl (E.2.2.1, 8, .inl (cO S))), ((a 5), .inl (E.2.2.1, 96, .inl (bS S))), ((a 6), .inr (0, [.ref (a 7), .int (nI (mK S))])), ((a 7), .inl (E.2.2.1, 360, .inl (fA S)))] [((a 0), .inr (4, [.ref (a 1), .ref (a 3), .ref (a 5), .ref (a 6), .int (zb (tK S))])), ((a 1), .inr (2, [.ref (a 2), .int (nI (rU S))])), ((a 2), .inl (E.2.2.1, 12, .inl (rO S))), ((a 3), .inr (2, [.ref (a 4), .int (nI (cU S))])), ((a 4), .inl (E.2.2.1, 8, .inl (cO S))), ((a 5), .inl (E.2.2.1, 96, .inl (bS S))), ((a 6), .inr (0, [.ref (a 7), .int (nI (mK S))])), ((a 7), .inl (E.2.2.1, 360, .inl (fA S)))] (some (.int (zPd S pl))) := by
  refine zM.of kX4_pendingInReadingOrder (Nat.le_of_ble_eq_true rfl) rfl [some (.ref (a 0)), some (.int (nI pl)), none, none] rfl (Nat.le_of_ble_eq_true rfl) ?_
  intro X eX C N
  subst eX
  obtain ⟨hur, huc, hM⟩ := id hS
  have hz1 := zc_le (pPO (fA S) (nI 0)) (mK S)
  have hz2 := zc_le (pPO (fA S) (nI 1)) (mK S)
  have hz3 := zc_le (pPO (fA S) (nI 2)) (mK S)
  have hz4 := zc_le (pPO (fA S) (nI 3)) (mK S)
  refine z_aload_n C 0 dX4_pendingInReadingOrder_0 rfl rfl ?_
  refine z_iconst C (nI 0) dX4_pendingInReadingOrder_1 (by decide) ?_
  refine z_callVr C kX4_lineChanges gX4_pendingInReadingOrder_X4_lineChanges (mX4_lineChanges_r X.2.1 a (rO S) (rU S) (cO S) (cU S) (bS S) (fA S) (mK S) (tK S) hur huc hM) dX4_pendingInReadingOrder_2 [0, 1, 2, 3, 4, 5, 6, 7] [] 0 rfl nd_0_1_2_3_4_5_6_7 rfl rfl rfl (by decide) (by decide) (Nat.le_of_ble_eq_true rfl) rfl ?_
  refine z_istore_n C 2 dX4_pendingInReadingOrder_5 rfl (Nat.le_of_ble_eq_true rfl) ?_
  refine z_aload_n C 0 dX4_pendingInReadingOrder_6 rfl rfl ?_
  refine z_iconst C (nI 1) dX4_pendingInReadingOrder_7 (by decide) ?_
  refine z_callVr C kX4_lineChanges gX4_pendingInReadingOrder_X4_lineChanges (mX4_lineChanges_c X.2.1 a (rO S) (rU S) (cO S) (cU S) (bS S) (fA S) (mK S) (tK S) hur huc hM) dX4_pendingInReadingOrder_8 [0, 1, 2, 3, 4, 5, 6, 7] [] 0 rfl nd_0_1_2_3_4_5_6_7 rfl rfl rfl (by decide) (by decide) (Nat.le_of_ble_eq_true rfl) rfl ?_
  refine z_istore_n C 3 dX4_pendingInReadingOrder_11 rfl (Nat.le_of_ble_eq_true rfl) ?_
  refine z_iload_n C 1 dX4_pendingInReadingOrder_12 rfl rfl ?_
  refine z_iload_n C 2 dX4_pendingInReadingOrder_13 rfl rfl ?_
  refine z_ncmp_ge C 24 dX4_pendingInReadingOrder_14 (by decide) (by omega) (by omega) (fun h_1 => ?_) (fun h_1 => ?_)
  · refine z_iload_n C 1 dX4_pendingInReadingOrder_24 rfl rfl ?_
    refine z_iload_n C 2 dX4_pendingInReadingOrder_25 rfl rfl ?_
    refine z_iload_n C 3 dX4_pendingInReadingOrder_26 rfl rfl ?_
    refine z_iadd C dX4_pendingInReadingOrder_27 ?_
    refine z_top (y := nI (zc (pPO (fA S) (nI 0)) (mK S) + zc (pPO (fA S) (nI 1)) (mK S) + (zc (pPO (fA S) (nI 2)) (mK S) + zc (pPO (fA S) (nI 3)) (mK S)))) (nI_add _ _) ?_
    refine z_ncmp_ge C 40 dX4_pendingInReadingOrder_28 (by decide) (by omega) (by omega) (fun h_2 => ?_) (fun h_2 => ?_)
    · refine z_aload_n C 0 dX4_pendingInReadingOrder_40 rfl rfl ?_
      refine z_iload_n C 1 dX4_pendingInReadingOrder_41 rfl rfl ?_
      refine z_iload_n C 2 dX4_pendingInReadingOrder_42 rfl rfl ?_
      refine z_isub C dX4_pendingInReadingOrder_43 ?_
      refine z_top (y := nI (pl - (zc (pPO (fA S) (nI 0)) (mK S) + zc (pPO (fA S) (nI 1)) (mK S)))) ((pk_sub (by omega)).trans (congrArg nI (by omega))) ?_
      refine z_iload_n C 3 dX4_pendingInReadingOrder_44 rfl rfl ?_
      refine z_isub C dX4_pendingInReadingOrder_45 ?_
      refine z_top (y := nI ((pl - (zc (pPO (fA S) (nI 0)) (mK S) + zc (pPO (fA S) (nI 1)) (mK S))) - (zc (pPO (fA S) (nI 2)) (mK S) + zc (pPO (fA S) (nI 3)) (mK S)))) ((pk_sub (by omega)).trans (congrArg nI (by omega))) ?_
      refine z_callVr C kX4_settingInReadingOrder gX4_pendingInReadingOrder_X4_settingInReadingOrder (mX4_settingInReadingOrder X.2.1 a (rO S) (rU S) (cO S) (cU S) (bS S) (fA S) (mK S) (tK S) ((pl - (zc (pPO (fA S) (nI 0)) (mK S) + zc (pPO (fA S) (nI 1)) (mK S))) - (zc (pPO (fA S) (nI 2)) (mK S) + zc (pPO (fA S) (nI 3)) (mK S))) hur huc hM (by first | assumption | omega)) dX4_pendingInReadingOrder_46 [0, 1, 2, 3, 4, 5, 6, 7] [] 0 rfl nd_0_1_2_3_4_5_6_7 rfl rfl rfl (by decide) (by decide) (Nat.le_of_ble_eq_true rfl) rfl ?_
      exact z_iret C N dX4_pendingInReadingOrder_49 (rfl) (by first | (rw [zPd, if_pos (by unfold zNR; omega)]; rfl) | (rw [zPd, if_neg (by unfold zNR; omega), if_pos (by unfold zNR zNC; omega)]; rfl) | (rw [zPd, if_neg (by unfold zNR; omega), if_neg (by unfold zNR zNC; omega)]; simp only [zNR, zNC, Nat.sub_sub]))
    · refine z_aload_n C 0 dX4_pendingInReadingOrder_31 rfl rfl ?_
      refine z_iconst C (nI 1) dX4_pendingInReadingOrder_32 (by decide) ?_
      refine z_iload_n C 1 dX4_pendingInReadingOrder_33 rfl rfl ?_
      refine z_iload_n C 2 dX4_pendingInReadingOrder_34 rfl rfl ?_
      refine z_isub C dX4_pendingInReadingOrder_35 ?_
      refine z_top (y := nI (pl - (zc (pPO (fA S) (nI 0)) (mK S) + zc (pPO (fA S) (nI 1)) (mK S)))) ((pk_sub (by omega)).trans (congrArg nI (by omega))) ?_
      refine z_callVr C kX4_lineChangeAt gX4_pendingInReadingOrder_X4_lineChangeAt (mX4_lineChangeAt_c X.2.1 a (rO S) (rU S) (cO S) (cU S) (bS S) (fA S) (mK S) (tK S) (pl - (zc (pPO (fA S) (nI 0)) (mK S) + zc (pPO (fA S) (nI 1)) (mK S))) hur huc hM (by first | assumption | omega)) dX4_pendingInReadingOrder_36 [0, 1, 2, 3, 4, 5, 6, 7] [] 0 rfl nd_0_1_2_3_4_5_6_7 rfl rfl rfl (by decide) (by decide) (Nat.le_of_ble_eq_true rfl) rfl ?_
      exact z_iret C N dX4_pendingInReadingOrder_39 (rfl) (by first | (rw [zPd, if_pos (by unfold zNR; omega)]; rfl) | (rw [zPd, if_neg (by unfold zNR; omega), if_pos (by unfold zNR zNC; omega)]; rfl) | (rw [zPd, if_neg (by unfold zNR; omega), if_neg (by unfold zNR zNC; omega)]; simp only [zNR, zNC, Nat.sub_sub]))
  · refine z_aload_n C 0 dX4_pendingInReadingOrder_17 rfl rfl ?_
    refine z_iconst C (nI 0) dX4_pendingInReadingOrder_18 (by decide) ?_
    refine z_iload_n C 1 dX4_pendingInReadingOrder_19 rfl rfl ?_
    refine z_callVr C kX4_lineChangeAt gX4_pendingInReadingOrder_X4_lineChangeAt (mX4_lineChangeAt_r X.2.1 a (rO S) (rU S) (cO S) (cU S) (bS S) (fA S) (mK S) (tK S) pl hur huc hM hpl) dX4_pendingInReadingOrder_20 [0, 1, 2, 3, 4, 5, 6, 7] [] 0 rfl nd_0_1_2_3_4_5_6_7 rfl rfl rfl (by decide) (by decide) (Nat.le_of_ble_eq_true rfl) rfl ?_
    exact z_iret C N dX4_pendingInReadingOrder_23 (rfl) (by first | (rw [zPd, if_pos (by unfold zNR; omega)]; rfl) | (rw [zPd, if_neg (by unfold zNR; omega), if_pos (by unfold zNR zNC; omega)]; rfl) | (rw [zPd, if_neg (by unfold zNR; omega), if_neg (by unfold zNR zNC; omega)]; simp only [zNR, zNC, Nat.sub_sub]))

theorem kX5_size : zY yX5_size wsX5_size cX5_size 3 (some .int) 2 := ⟨⟨_, rfl⟩, ⟨by decide +kernel, by decide +kernel, by decide +kernel⟩, by decide +kernel⟩
set_option maxHeartbeats 4000000 in
set_option maxRecDepth 100000 in
theorem mX5_size_b1 (E : zE) (x0 h0 w0 : Nat) (t : Nat → Nat) (S : zSt) (v ax : Int32) (hS : okS S) (hx : v < 0 ∨ (¬ v < 0 ∧ nI 2 < v)) : zM E yX5_size wsX5_size 5 [.ref x0, .int v, .int ax] [(x0, .inr (5, [.ref (t 0), .ref h0, .ref w0])), ((t 0), .inr (4, [.ref (t 1), .ref (t 3), .ref (t 5), .ref (t 6), .int (zb (tK S))])), ((t 1), .inr (2, [.ref (t 2), .int (nI (rU S))])), ((t 2), .inl (E.2.2.1, 12, .inl (rO S))), ((t 3), .inr (2, [.ref (t 4), .int (nI (cU S))])), ((t 4), .inl (E.2.2.1, 8, .inl (cO S))), ((t 5), .inl (E.2.2.1, 96, .inl (bS S))), ((t 6), .inr (0, [.ref (t 7), .int (nI (mK S))])), ((t 7), .inl (E.2.2.1, 360, .inl (fA S)))] [(x0, .inr (5, [.ref (t 0), .ref h0, .ref w0])), ((t 0), .inr (4, [.ref (t 1), .ref (t 3), .ref (t 5), .ref (t 6), .int (zb (tK S))])), ((t 1), .inr (2, [.ref (t 2), .int (nI (rU S))])), ((t 2), .inl (E.2.2.1, 12, .inl (rO S))), ((t 3), .inr (2, [.ref (t 4), .int (nI (cU S))])), ((t 4), .inl (E.2.2.1, 8, .inl (cO S))), ((t 5), .inl (E.2.2.1, 96, .inl (bS S))), ((t 6), .inr (0, [.ref (t 7), .int (nI (mK S))])), ((t 7), .inl (E.2.2.1, 360, .inl (fA S)))] (some (.int (-1))) := by
  refine zM.of kX5_size (Nat.le_of_ble_eq_true rfl) rfl [some (.ref x0), some (.int v), some (.int ax)] rfl (Nat.le_of_ble_eq_true rfl) ?_
  intro X eX C N
  subst eX
  obtain ⟨hur, huc, hM⟩ := id hS
  refine z_iload_n C 1 dX5_size_0 rfl rfl ?_
  refine z_callS C kX5_isView gX5_size_X5_isView (mX5_isView_bad X.2.1 v hx) dX5_size_1 [] rfl (by decide) (by decide) (Nat.le_of_ble_eq_true rfl) rfl ?_
  refine z_bif_eq_t C 14 dX5_size_4 (by decide) rfl ?_
  refine z_iconst C (-1) dX5_size_14 (by decide) ?_
  exact z_iret C N dX5_size_15 (rfl) (rfl)

set_option maxHeartbeats 4000000 in
set_option maxRecDepth 100000 in
theorem mX5_size_b2 (E : zE) (x0 h0 w0 : Nat) (t : Nat → Nat) (S : zSt) (v : Nat) (ax : Int32) (hS : okS S) (hv : v < 3) (hq0 : ¬ ax = 0) (hq1 : ¬ ax = nI 1) : zM E yX5_size wsX5_size 5 [.ref x0, .int (nI v), .int ax] [(x0, .inr (5, [.ref (t 0), .ref h0, .ref w0])), ((t 0), .inr (4, [.ref (t 1), .ref (t 3), .ref (t 5), .ref (t 6), .int (zb (tK S))])), ((t 1), .inr (2, [.ref (t 2), .int (nI (rU S))])), ((t 2), .inl (E.2.2.1, 12, .inl (rO S))), ((t 3), .inr (2, [.ref (t 4), .int (nI (cU S))])), ((t 4), .inl (E.2.2.1, 8, .inl (cO S))), ((t 5), .inl (E.2.2.1, 96, .inl (bS S))), ((t 6), .inr (0, [.ref (t 7), .int (nI (mK S))])), ((t 7), .inl (E.2.2.1, 360, .inl (fA S)))] [(x0, .inr (5, [.ref (t 0), .ref h0, .ref w0])), ((t 0), .inr (4, [.ref (t 1), .ref (t 3), .ref (t 5), .ref (t 6), .int (zb (tK S))])), ((t 1), .inr (2, [.ref (t 2), .int (nI (rU S))])), ((t 2), .inl (E.2.2.1, 12, .inl (rO S))), ((t 3), .inr (2, [.ref (t 4), .int (nI (cU S))])), ((t 4), .inl (E.2.2.1, 8, .inl (cO S))), ((t 5), .inl (E.2.2.1, 96, .inl (bS S))), ((t 6), .inr (0, [.ref (t 7), .int (nI (mK S))])), ((t 7), .inl (E.2.2.1, 360, .inl (fA S)))] (some (.int (-1))) := by
  refine zM.of kX5_size (Nat.le_of_ble_eq_true rfl) rfl [some (.ref x0), some (.int (nI v)), some (.int ax)] rfl (Nat.le_of_ble_eq_true rfl) ?_
  intro X eX C N
  subst eX
  obtain ⟨hur, huc, hM⟩ := id hS
  refine z_iload_n C 1 dX5_size_0 rfl rfl ?_
  refine z_callS C kX5_isView gX5_size_X5_isView (mX5_isView_in X.2.1 v hv) dX5_size_1 [] rfl (by decide) (by decide) (Nat.le_of_ble_eq_true rfl) rfl ?_
  refine z_bif_eq_f C 14 dX5_size_4 (by decide) rfl ?_
  refine z_iload_n C 2 dX5_size_7 rfl rfl ?_
  refine z_callS C kX5_isAxis gX5_size_X5_isAxis (mX5_isAxis_bad X.2.1 ax hq0 hq1) dX5_size_8 [] rfl (by decide) (by decide) (Nat.le_of_ble_eq_true rfl) rfl ?_
  refine z_bif_ne_f C 16 dX5_size_11 (by decide) rfl ?_
  refine z_iconst C (-1) dX5_size_14 (by decide) ?_
  exact z_iret C N dX5_size_15 (rfl) (rfl)

theorem fX5_size_10 : zF wsX5_size RX5 10 5 0 RX5 TX5 3 := ⟨by decide +kernel, rfl, by decide, by decide +kernel, rfl⟩
theorem nd_1_2_3_4_5_6_7_8 : va_nd [1, 2, 3, 4, 5, 6, 7, 8] = true := by decide +kernel
set_option maxHeartbeats 4000000 in
set_option maxRecDepth 100000 in
theorem mX5_size_r (E : zE) (x0 h0 w0 : Nat) (t : Nat → Nat) (S : zSt) (v : Nat) (hS : okS S) (hv : v < 3) : zM E yX5_size wsX5_size 5 [.ref x0, .int (nI v), .int (nI 0)] [(x0, .inr (5, [.ref (t 0), .ref h0, .ref w0])), ((t 0), .inr (4, [.ref (t 1), .ref (t 3), .ref (t 5), .ref (t 6), .int (zb (tK S))])), ((t 1), .inr (2, [.ref (t 2), .int (nI (rU S))])), ((t 2), .inl (E.2.2.1, 12, .inl (rO S))), ((t 3), .inr (2, [.ref (t 4), .int (nI (cU S))])), ((t 4), .inl (E.2.2.1, 8, .inl (cO S))), ((t 5), .inl (E.2.2.1, 96, .inl (bS S))), ((t 6), .inr (0, [.ref (t 7), .int (nI (mK S))])), ((t 7), .inl (E.2.2.1, 360, .inl (fA S)))] [(x0, .inr (5, [.ref (t 0), .ref h0, .ref w0])), ((t 0), .inr (4, [.ref (t 1), .ref (t 3), .ref (t 5), .ref (t 6), .int (zb (tK S))])), ((t 1), .inr (2, [.ref (t 2), .int (nI (rU S))])), ((t 2), .inl (E.2.2.1, 12, .inl (rO S))), ((t 3), .inr (2, [.ref (t 4), .int (nI (cU S))])), ((t 4), .inl (E.2.2.1, 8, .inl (cO S))), ((t 5), .inl (E.2.2.1, 96, .inl (bS S))), ((t 6), .inr (0, [.ref (t 7), .int (nI (mK S))])), ((t 7), .inl (E.2.2.1, 360, .inl (fA S)))] (some (.int (nI (zc (rSh S (nI v)) (rU S))))) := by
  refine zM.of kX5_size (Nat.le_of_ble_eq_true rfl) rfl [some (.ref x0), some (.int (nI v)), some (.int (nI 0))] rfl (Nat.le_of_ble_eq_true rfl) ?_
  intro X eX C N
  subst eX
  obtain ⟨hur, huc, hM⟩ := id hS
  refine z_iload_n C 1 dX5_size_0 rfl rfl ?_
  refine z_callS C kX5_isView gX5_size_X5_isView (mX5_isView_in X.2.1 v hv) dX5_size_1 [] rfl (by decide) (by decide) (Nat.le_of_ble_eq_true rfl) rfl ?_
  refine z_bif_eq_f C 14 dX5_size_4 (by decide) rfl ?_
  refine z_iload_n C 2 dX5_size_7 rfl rfl ?_
  refine z_callS C kX5_isAxis gX5_size_X5_isAxis (mX5_isAxis_in X.2.1 0 (by first | assumption | omega)) dX5_size_8 [] rfl (by decide) (by decide) (Nat.le_of_ble_eq_true rfl) rfl ?_
  refine z_bif_ne_t C 16 dX5_size_11 (by decide) rfl ?_
  refine z_aload_n C 0 dX5_size_16 rfl rfl ?_
  refine z_get C fX5_size_10 0 dX5_size_17 rfl rfl ?_
  refine z_iload_n C 1 dX5_size_20 rfl rfl ?_
  refine z_iload_n C 2 dX5_size_21 rfl rfl ?_
  refine z_callVr C kX4_shownLines gX5_size_X4_shownLines (mX4_shownLines_r X.2.1 t (rO S) (rU S) (cO S) (cU S) (bS S) (fA S) (mK S) (tK S) (nI v) hur huc hM) dX5_size_22 [1, 2, 3, 4, 5, 6, 7, 8] [] 1 rfl nd_1_2_3_4_5_6_7_8 rfl rfl rfl (by decide) (by decide) (Nat.le_of_ble_eq_true rfl) rfl ?_
  exact z_iret C N dX5_size_25 (rfl) (rfl)

set_option maxHeartbeats 4000000 in
set_option maxRecDepth 100000 in
theorem mX5_size_c (E : zE) (x0 h0 w0 : Nat) (t : Nat → Nat) (S : zSt) (v : Nat) (hS : okS S) (hv : v < 3) : zM E yX5_size wsX5_size 5 [.ref x0, .int (nI v), .int (nI 1)] [(x0, .inr (5, [.ref (t 0), .ref h0, .ref w0])), ((t 0), .inr (4, [.ref (t 1), .ref (t 3), .ref (t 5), .ref (t 6), .int (zb (tK S))])), ((t 1), .inr (2, [.ref (t 2), .int (nI (rU S))])), ((t 2), .inl (E.2.2.1, 12, .inl (rO S))), ((t 3), .inr (2, [.ref (t 4), .int (nI (cU S))])), ((t 4), .inl (E.2.2.1, 8, .inl (cO S))), ((t 5), .inl (E.2.2.1, 96, .inl (bS S))), ((t 6), .inr (0, [.ref (t 7), .int (nI (mK S))])), ((t 7), .inl (E.2.2.1, 360, .inl (fA S)))] [(x0, .inr (5, [.ref (t 0), .ref h0, .ref w0])), ((t 0), .inr (4, [.ref (t 1), .ref (t 3), .ref (t 5), .ref (t 6), .int (zb (tK S))])), ((t 1), .inr (2, [.ref (t 2), .int (nI (rU S))])), ((t 2), .inl (E.2.2.1, 12, .inl (rO S))), ((t 3), .inr (2, [.ref (t 4), .int (nI (cU S))])), ((t 4), .inl (E.2.2.1, 8, .inl (cO S))), ((t 5), .inl (E.2.2.1, 96, .inl (bS S))), ((t 6), .inr (0, [.ref (t 7), .int (nI (mK S))])), ((t 7), .inl (E.2.2.1, 360, .inl (fA S)))] (some (.int (nI (zc (cSh S (nI v)) (cU S))))) := by
  refine zM.of kX5_size (Nat.le_of_ble_eq_true rfl) rfl [some (.ref x0), some (.int (nI v)), some (.int (nI 1))] rfl (Nat.le_of_ble_eq_true rfl) ?_
  intro X eX C N
  subst eX
  obtain ⟨hur, huc, hM⟩ := id hS
  refine z_iload_n C 1 dX5_size_0 rfl rfl ?_
  refine z_callS C kX5_isView gX5_size_X5_isView (mX5_isView_in X.2.1 v hv) dX5_size_1 [] rfl (by decide) (by decide) (Nat.le_of_ble_eq_true rfl) rfl ?_
  refine z_bif_eq_f C 14 dX5_size_4 (by decide) rfl ?_
  refine z_iload_n C 2 dX5_size_7 rfl rfl ?_
  refine z_callS C kX5_isAxis gX5_size_X5_isAxis (mX5_isAxis_in X.2.1 1 (by first | assumption | omega)) dX5_size_8 [] rfl (by decide) (by decide) (Nat.le_of_ble_eq_true rfl) rfl ?_
  refine z_bif_ne_t C 16 dX5_size_11 (by decide) rfl ?_
  refine z_aload_n C 0 dX5_size_16 rfl rfl ?_
  refine z_get C fX5_size_10 0 dX5_size_17 rfl rfl ?_
  refine z_iload_n C 1 dX5_size_20 rfl rfl ?_
  refine z_iload_n C 2 dX5_size_21 rfl rfl ?_
  refine z_callVr C kX4_shownLines gX5_size_X4_shownLines (mX4_shownLines_c X.2.1 t (rO S) (rU S) (cO S) (cU S) (bS S) (fA S) (mK S) (tK S) (nI v) hur huc hM) dX5_size_22 [1, 2, 3, 4, 5, 6, 7, 8] [] 1 rfl nd_1_2_3_4_5_6_7_8 rfl rfl rfl (by decide) (by decide) (Nat.le_of_ble_eq_true rfl) rfl ?_
  exact z_iret C N dX5_size_25 (rfl) (rfl)

theorem kX5_cell : zY yX5_cell wsX5_cell cX5_cell 6 (some .int) 3 := ⟨⟨_, rfl⟩, ⟨by decide +kernel, by decide +kernel, by decide +kernel⟩, by decide +kernel⟩
theorem fX5_cell_10 : zF wsX5_cell RX5 10 5 0 RX5 TX5 3 := ⟨by decide +kernel, rfl, by decide, by decide +kernel, rfl⟩
set_option maxHeartbeats 4000000 in
set_option maxRecDepth 100000 in
theorem mX5_cell (E : zE) (x0 h0 w0 : Nat) (t : Nat → Nat) (S : zSt) (v r c : Int32) (hS : okS S) : zM E yX5_cell wsX5_cell 5 [.ref x0, .int v, .int r, .int c] [(x0, .inr (5, [.ref (t 0), .ref h0, .ref w0])), ((t 0), .inr (4, [.ref (t 1), .ref (t 3), .ref (t 5), .ref (t 6), .int (zb (tK S))])), ((t 1), .inr (2, [.ref (t 2), .int (nI (rU S))])), ((t 2), .inl (E.2.2.1, 12, .inl (rO S))), ((t 3), .inr (2, [.ref (t 4), .int (nI (cU S))])), ((t 4), .inl (E.2.2.1, 8, .inl (cO S))), ((t 5), .inl (E.2.2.1, 96, .inl (bS S))), ((t 6), .inr (0, [.ref (t 7), .int (nI (mK S))])), ((t 7), .inl (E.2.2.1, 360, .inl (fA S)))] [(x0, .inr (5, [.ref (t 0), .ref h0, .ref w0])), ((t 0), .inr (4, [.ref (t 1), .ref (t 3), .ref (t 5), .ref (t 6), .int (zb (tK S))])), ((t 1), .inr (2, [.ref (t 2), .int (nI (rU S))])), ((t 2), .inl (E.2.2.1, 12, .inl (rO S))), ((t 3), .inr (2, [.ref (t 4), .int (nI (cU S))])), ((t 4), .inl (E.2.2.1, 8, .inl (cO S))), ((t 5), .inl (E.2.2.1, 96, .inl (bS S))), ((t 6), .inr (0, [.ref (t 7), .int (nI (mK S))])), ((t 7), .inl (E.2.2.1, 360, .inl (fA S)))] (some (.int (zCe S v r c))) := by
  refine zM.of kX5_cell (Nat.le_of_ble_eq_true rfl) rfl [some (.ref x0), some (.int v), some (.int r), some (.int c), none, none] rfl (Nat.le_of_ble_eq_true rfl) ?_
  intro X eX C N
  subst eX
  obtain ⟨hur, huc, hM⟩ := id hS
  refine z_aload_n C 0 dX5_cell_0 rfl rfl ?_
  refine z_get C fX5_cell_10 0 dX5_cell_1 rfl rfl ?_
  refine z_iload_n C 1 dX5_cell_4 rfl rfl ?_
  refine z_iconst C (nI 0) dX5_cell_5 (by decide) ?_
  refine z_iload_n C 2 dX5_cell_6 rfl rfl ?_
  refine z_callVr C kX4_slotInView gX5_cell_X4_slotInView (mX4_slotInView_r X.2.1 t (rO S) (rU S) (cO S) (cU S) (bS S) (fA S) (mK S) (tK S) v r hur huc hM) dX5_cell_7 [1, 2, 3, 4, 5, 6, 7, 8] [] 1 rfl nd_1_2_3_4_5_6_7_8 rfl rfl rfl (by decide) (by decide) (Nat.le_of_ble_eq_true rfl) rfl ?_
  refine z_istore C dX5_cell_10 (Nat.le_of_ble_eq_true rfl) ?_
  refine z_aload_n C 0 dX5_cell_12 rfl rfl ?_
  refine z_get C fX5_cell_10 0 dX5_cell_13 rfl rfl ?_
  refine z_iload_n C 1 dX5_cell_16 rfl rfl ?_
  refine z_iconst C (nI 1) dX5_cell_17 (by decide) ?_
  refine z_iload_n C 3 dX5_cell_18 rfl rfl ?_
  refine z_callVr C kX4_slotInView gX5_cell_X4_slotInView (mX4_slotInView_c X.2.1 t (rO S) (rU S) (cO S) (cU S) (bS S) (fA S) (mK S) (tK S) v c hur huc hM) dX5_cell_19 [1, 2, 3, 4, 5, 6, 7, 8] [] 1 rfl nd_1_2_3_4_5_6_7_8 rfl rfl rfl (by decide) (by decide) (Nat.le_of_ble_eq_true rfl) rfl ?_
  refine z_istore C dX5_cell_22 (Nat.le_of_ble_eq_true rfl) ?_
  refine z_iload C dX5_cell_24 rfl ?_
  refine z_if_lt C 34 dX5_cell_26 (by decide) (fun h_1 => ?_) (fun h_1 => ?_)
  · refine z_iconst C (-1) dX5_cell_34 (by decide) ?_
    exact z_iret C N dX5_cell_35 (rfl) (by unfold zCe; (repeat (first | rw [if_pos (by (first | assumption | exact Int32.not_lt.mpr (by assumption) | exact Int32.not_le.mp (by assumption)))] | rw [if_neg (by (first | assumption | exact Int32.not_lt.mpr (by assumption) | exact Int32.not_le.mp (by assumption)))])) <;> (first | rfl | (simp only [h_1]; rfl)))
  · refine z_iload C dX5_cell_29 rfl ?_
    refine z_if_ge C 36 dX5_cell_31 (by decide) (fun h_2 => ?_) (fun h_2 => ?_)
    · refine z_aload_n C 0 dX5_cell_36 rfl rfl ?_
      refine z_get C fX5_cell_10 0 dX5_cell_37 rfl rfl ?_
      refine z_iload_n C 1 dX5_cell_40 rfl rfl ?_
      refine z_iload C dX5_cell_41 rfl ?_
      refine z_iload C dX5_cell_43 rfl ?_
      refine z_callVr C kX4_valueInView gX5_cell_X4_valueInView (mX4_valueInView X.2.1 t (rO S) (rU S) (cO S) (cU S) (bS S) (fA S) (mK S) (tK S) v (zat (rO S) (pK (fun j => pSh (fA S) (mK S) v (nI 0) (nI 1) 3 ((rO S) j)) r) (rU S)) (zat (cO S) (pK (fun j => pSh (fA S) (mK S) v (nI 2) (nI 3) 4 ((cO S) j)) c) (cU S)) hur huc hM) dX5_cell_45 [1, 2, 3, 4, 5, 6, 7, 8] [] 1 rfl nd_1_2_3_4_5_6_7_8 rfl rfl rfl (by decide) (by decide) (Nat.le_of_ble_eq_true rfl) rfl ?_
      exact z_iret C N dX5_cell_48 (rfl) (by unfold zCe; (repeat (first | rw [if_pos (by (first | assumption | exact Int32.not_lt.mpr (by assumption) | exact Int32.not_le.mp (by assumption)))] | rw [if_neg (by (first | assumption | exact Int32.not_lt.mpr (by assumption) | exact Int32.not_le.mp (by assumption)))])) <;> (first | rfl | (simp only [Int32.not_lt.mp h_1, h_1, h_2]; rfl)))
    · refine z_iconst C (-1) dX5_cell_34 (by decide) ?_
      exact z_iret C N dX5_cell_35 (rfl) (by unfold zCe; (repeat (first | rw [if_pos (by (first | assumption | exact Int32.not_lt.mpr (by assumption) | exact Int32.not_le.mp (by assumption)))] | rw [if_neg (by (first | assumption | exact Int32.not_lt.mpr (by assumption) | exact Int32.not_le.mp (by assumption)))])) <;> (first | rfl | (simp only [Int32.not_lt.mp h_1, h_1, Int32.not_le.mp h_2, h_2]; rfl)))

theorem kX5_line : zY yX5_line wsX5_line cX5_line 5 (some .int) 3 := ⟨⟨_, rfl⟩, ⟨by decide +kernel, by decide +kernel, by decide +kernel⟩, by decide +kernel⟩
theorem fX5_line_10 : zF wsX5_line RX5 10 5 0 RX5 TX5 3 := ⟨by decide +kernel, rfl, by decide, by decide +kernel, rfl⟩
set_option maxHeartbeats 4000000 in
set_option maxRecDepth 100000 in
theorem mX5_line_b (E : zE) (x0 h0 w0 : Nat) (t : Nat → Nat) (S : zSt) (ax pl wh : Int32) (hS : okS S) (hx : zSA (rO S) (rU S) (cO S) (cU S) ax pl < 0) : zM E yX5_line wsX5_line 5 [.ref x0, .int ax, .int pl, .int wh] [(x0, .inr (5, [.ref (t 0), .ref h0, .ref w0])), ((t 0), .inr (4, [.ref (t 1), .ref (t 3), .ref (t 5), .ref (t 6), .int (zb (tK S))])), ((t 1), .inr (2, [.ref (t 2), .int (nI (rU S))])), ((t 2), .inl (E.2.2.1, 12, .inl (rO S))), ((t 3), .inr (2, [.ref (t 4), .int (nI (cU S))])), ((t 4), .inl (E.2.2.1, 8, .inl (cO S))), ((t 5), .inl (E.2.2.1, 96, .inl (bS S))), ((t 6), .inr (0, [.ref (t 7), .int (nI (mK S))])), ((t 7), .inl (E.2.2.1, 360, .inl (fA S)))] [(x0, .inr (5, [.ref (t 0), .ref h0, .ref w0])), ((t 0), .inr (4, [.ref (t 1), .ref (t 3), .ref (t 5), .ref (t 6), .int (zb (tK S))])), ((t 1), .inr (2, [.ref (t 2), .int (nI (rU S))])), ((t 2), .inl (E.2.2.1, 12, .inl (rO S))), ((t 3), .inr (2, [.ref (t 4), .int (nI (cU S))])), ((t 4), .inl (E.2.2.1, 8, .inl (cO S))), ((t 5), .inl (E.2.2.1, 96, .inl (bS S))), ((t 6), .inr (0, [.ref (t 7), .int (nI (mK S))])), ((t 7), .inl (E.2.2.1, 360, .inl (fA S)))] (some (.int (-1))) := by
  refine zM.of kX5_line (Nat.le_of_ble_eq_true rfl) rfl [some (.ref x0), some (.int ax), some (.int pl), some (.int wh), none] rfl (Nat.le_of_ble_eq_true rfl) ?_
  intro X eX C N
  subst eX
  obtain ⟨hur, huc, hM⟩ := id hS
  refine z_aload_n C 0 dX5_line_0 rfl rfl ?_
  refine z_get C fX5_line_10 0 dX5_line_1 rfl rfl ?_
  refine z_iload_n C 1 dX5_line_4 rfl rfl ?_
  refine z_iload_n C 2 dX5_line_5 rfl rfl ?_
  refine z_callVr C kX4_slotAt gX5_line_X4_slotAt (mX4_slotAt_g X.2.1 t (rO S) (rU S) (cO S) (cU S) (bS S) (fA S) (mK S) (tK S) ax pl hur huc hM) dX5_line_6 [1, 2, 3, 4, 5, 6, 7, 8] [] 1 rfl nd_1_2_3_4_5_6_7_8 rfl rfl rfl (by decide) (by decide) (Nat.le_of_ble_eq_true rfl) rfl ?_
  refine z_istore C dX5_line_9 (Nat.le_of_ble_eq_true rfl) ?_
  refine z_iload C dX5_line_11 rfl ?_
  refine z_if_ge_f C 18 dX5_line_13 (by decide) (Int32.not_le.mpr hx) ?_
  refine z_iconst C (-1) dX5_line_16 (by decide) ?_
  exact z_iret C N dX5_line_17 (rfl) (rfl)

theorem fX5_line_38 : zF wsX5_line RX5 38 4 3 RX4 TX4 5 := ⟨by decide +kernel, rfl, by decide, by decide +kernel, rfl⟩
theorem nd_7_8 : va_nd [7, 8] = true := by decide +kernel
set_option maxHeartbeats 4000000 in
set_option maxRecDepth 100000 in
theorem mX5_line_r (E : zE) (x0 h0 w0 : Nat) (t : Nat → Nat) (S : zSt) (j : Nat) (wh : Int32) (hS : okS S) (hj : j < rU S) (hsl : ¬ rO S j < 0) : zM E yX5_line wsX5_line 5 [.ref x0, .int (nI 0), .int (nI j), .int wh] [(x0, .inr (5, [.ref (t 0), .ref h0, .ref w0])), ((t 0), .inr (4, [.ref (t 1), .ref (t 3), .ref (t 5), .ref (t 6), .int (zb (tK S))])), ((t 1), .inr (2, [.ref (t 2), .int (nI (rU S))])), ((t 2), .inl (E.2.2.1, 12, .inl (rO S))), ((t 3), .inr (2, [.ref (t 4), .int (nI (cU S))])), ((t 4), .inl (E.2.2.1, 8, .inl (cO S))), ((t 5), .inl (E.2.2.1, 96, .inl (bS S))), ((t 6), .inr (0, [.ref (t 7), .int (nI (mK S))])), ((t 7), .inl (E.2.2.1, 360, .inl (fA S)))] [(x0, .inr (5, [.ref (t 0), .ref h0, .ref w0])), ((t 0), .inr (4, [.ref (t 1), .ref (t 3), .ref (t 5), .ref (t 6), .int (zb (tK S))])), ((t 1), .inr (2, [.ref (t 2), .int (nI (rU S))])), ((t 2), .inl (E.2.2.1, 12, .inl (rO S))), ((t 3), .inr (2, [.ref (t 4), .int (nI (cU S))])), ((t 4), .inl (E.2.2.1, 8, .inl (cO S))), ((t 5), .inl (E.2.2.1, 96, .inl (bS S))), ((t 6), .inr (0, [.ref (t 7), .int (nI (mK S))])), ((t 7), .inl (E.2.2.1, 360, .inl (fA S)))] (some (.int (zLiR S j wh))) := by
  refine zM.of kX5_line (Nat.le_of_ble_eq_true rfl) rfl [some (.ref x0), some (.int (nI 0)), some (.int (nI j)), some (.int wh), none] rfl (Nat.le_of_ble_eq_true rfl) ?_
  intro X eX C N
  subst eX
  obtain ⟨hur, huc, hM⟩ := id hS
  refine z_aload_n C 0 dX5_line_0 rfl rfl ?_
  refine z_get C fX5_line_10 0 dX5_line_1 rfl rfl ?_
  refine z_iload_n C 1 dX5_line_4 rfl rfl ?_
  refine z_iload_n C 2 dX5_line_5 rfl rfl ?_
  refine z_callVr C kX4_slotAt gX5_line_X4_slotAt (mX4_slotAt_r_in X.2.1 t (rO S) (rU S) (cO S) (cU S) (bS S) (fA S) (mK S) (tK S) j hur huc hM hj) dX5_line_6 [1, 2, 3, 4, 5, 6, 7, 8] [] 1 rfl nd_1_2_3_4_5_6_7_8 rfl rfl rfl (by decide) (by decide) (Nat.le_of_ble_eq_true rfl) rfl ?_
  refine z_istore C dX5_line_9 (Nat.le_of_ble_eq_true rfl) ?_
  refine z_iload C dX5_line_11 rfl ?_
  refine z_if_ge_t C 18 dX5_line_13 (by decide) (Int32.not_lt.mp hsl) ?_
  refine z_iload_n C 3 dX5_line_18 rfl rfl ?_
  by_cases hs_1 : wh = nI 0
  · refine z_tsAt C 0 52 dX5_line_19 (by rw [hs_1]; decide) (by decide) rfl (by decide) ?_
    refine z_aload_n C 0 dX5_line_52 rfl rfl ?_
    refine z_get C fX5_line_10 0 dX5_line_53 rfl rfl ?_
    refine z_get C fX5_line_38 1 dX5_line_56 rfl rfl ?_
    refine z_iload_n C 1 dX5_line_59 rfl rfl ?_
    refine z_iload C dX5_line_60 rfl ?_
    refine z_callVr C kX0_insertionOf gX5_line_X0_insertionOf (mX0_insertionOf_r X.2.1 (t 6) (t 7) (fA S) (mK S) ((rO S) j) hM) dX5_line_62 [7, 8] [] 7 rfl nd_7_8 rfl rfl rfl (by decide) (by decide) (Nat.le_of_ble_eq_true rfl) rfl ?_
    exact z_iret C N dX5_line_65 (rfl) (by unfold zLiR; (repeat (first | rw [if_pos (by (first | assumption | exact Int32.not_lt.mpr (by assumption) | exact Int32.not_le.mp (by assumption)))] | rw [if_neg (by (first | assumption | exact Int32.not_lt.mpr (by assumption) | exact Int32.not_le.mp (by assumption)))])) <;> (first | rfl | (simp only [hs_1]; rfl)))
  by_cases hs_2 : wh = nI 1
  · refine z_tsAt C 1 66 dX5_line_19 (by rw [hs_2]; decide) (by decide) rfl (by decide) ?_
    refine z_aload_n C 0 dX5_line_66 rfl rfl ?_
    refine z_get C fX5_line_10 0 dX5_line_67 rfl rfl ?_
    refine z_get C fX5_line_38 1 dX5_line_70 rfl rfl ?_
    refine z_iload_n C 1 dX5_line_73 rfl rfl ?_
    refine z_iload C dX5_line_74 rfl ?_
    refine z_callVr C kX0_removalOf gX5_line_X0_removalOf (mX0_removalOf_r X.2.1 (t 6) (t 7) (fA S) (mK S) ((rO S) j) hM) dX5_line_76 [7, 8] [] 7 rfl nd_7_8 rfl rfl rfl (by decide) (by decide) (Nat.le_of_ble_eq_true rfl) rfl ?_
    exact z_iret C N dX5_line_79 (rfl) (by unfold zLiR; (repeat (first | rw [if_pos (by (first | assumption | exact Int32.not_lt.mpr (by assumption) | exact Int32.not_le.mp (by assumption)))] | rw [if_neg (by (first | assumption | exact Int32.not_lt.mpr (by assumption) | exact Int32.not_le.mp (by assumption)))])) <;> (first | rfl | (simp only [hs_1, hs_2]; rfl)))
  by_cases hs_3 : wh = nI 2
  · refine z_tsAt C 2 80 dX5_line_19 (by rw [hs_3]; decide) (by decide) rfl (by decide) ?_
    refine z_aload_n C 0 dX5_line_80 rfl rfl ?_
    refine z_get C fX5_line_10 0 dX5_line_81 rfl rfl ?_
    refine z_iconst C (nI 1) dX5_line_84 (by decide) ?_
    refine z_iload_n C 1 dX5_line_85 rfl rfl ?_
    refine z_iload C dX5_line_86 rfl ?_
    refine z_callVr C kX4_placeInView gX5_line_X4_placeInView (mX4_placeInView_r X.2.1 t (rO S) (rU S) (cO S) (cU S) (bS S) (fA S) (mK S) (tK S) (nI 1) ((rO S) j) hur huc hM) dX5_line_88 [1, 2, 3, 4, 5, 6, 7, 8] [] 1 rfl nd_1_2_3_4_5_6_7_8 rfl rfl rfl (by decide) (by decide) (Nat.le_of_ble_eq_true rfl) rfl ?_
    exact z_iret C N dX5_line_91 (rfl) (by unfold zLiR; (repeat (first | rw [if_pos (by (first | assumption | exact Int32.not_lt.mpr (by assumption) | exact Int32.not_le.mp (by assumption)))] | rw [if_neg (by (first | assumption | exact Int32.not_lt.mpr (by assumption) | exact Int32.not_le.mp (by assumption)))])) <;> (first | rfl | (simp only [hs_1, hs_2, hs_3]; rfl)))
  by_cases hs_4 : wh = nI 3
  · refine z_tsAt C 3 92 dX5_line_19 (by rw [hs_4]; decide) (by decide) rfl (by decide) ?_
    refine z_aload_n C 0 dX5_line_92 rfl rfl ?_
    refine z_get C fX5_line_10 0 dX5_line_93 rfl rfl ?_
    refine z_iconst C (nI 2) dX5_line_96 (by decide) ?_
    refine z_iload_n C 1 dX5_line_97 rfl rfl ?_
    refine z_iload C dX5_line_98 rfl ?_
    refine z_callVr C kX4_placeInView gX5_line_X4_placeInView (mX4_placeInView_r X.2.1 t (rO S) (rU S) (cO S) (cU S) (bS S) (fA S) (mK S) (tK S) (nI 2) ((rO S) j) hur huc hM) dX5_line_100 [1, 2, 3, 4, 5, 6, 7, 8] [] 1 rfl nd_1_2_3_4_5_6_7_8 rfl rfl rfl (by decide) (by decide) (Nat.le_of_ble_eq_true rfl) rfl ?_
    exact z_iret C N dX5_line_103 (rfl) (by unfold zLiR; (repeat (first | rw [if_pos (by (first | assumption | exact Int32.not_lt.mpr (by assumption) | exact Int32.not_le.mp (by assumption)))] | rw [if_neg (by (first | assumption | exact Int32.not_lt.mpr (by assumption) | exact Int32.not_le.mp (by assumption)))])) <;> (first | rfl | (simp only [hs_1, hs_2, hs_3, hs_4]; rfl)))
  by_cases hs_5 : wh = nI 4
  · refine z_tsAt C 4 104 dX5_line_19 (by rw [hs_5]; decide) (by decide) rfl (by decide) ?_
    refine z_aload_n C 0 dX5_line_104 rfl rfl ?_
    refine z_get C fX5_line_10 0 dX5_line_105 rfl rfl ?_
    refine z_get C fX5_line_38 1 dX5_line_108 rfl rfl ?_
    refine z_iload_n C 1 dX5_line_111 rfl rfl ?_
    refine z_iload C dX5_line_112 rfl ?_
    refine z_callVr C kX0_settingsOfLine gX5_line_X0_settingsOfLine (mX0_settingsOfLine_r X.2.1 (t 6) (t 7) (fA S) (mK S) ((rO S) j) hM) dX5_line_114 [7, 8] [] 7 rfl nd_7_8 rfl rfl rfl (by decide) (by decide) (Nat.le_of_ble_eq_true rfl) rfl ?_
    exact z_iret C N dX5_line_117 (rfl) (by unfold zLiR; (repeat (first | rw [if_pos (by (first | assumption | exact Int32.not_lt.mpr (by assumption) | exact Int32.not_le.mp (by assumption)))] | rw [if_neg (by (first | assumption | exact Int32.not_lt.mpr (by assumption) | exact Int32.not_le.mp (by assumption)))])) <;> (first | rfl | (simp only [hs_1, hs_2, hs_3, hs_4, hs_5]; rfl)))
  refine z_tsOut C 118 dX5_line_19 (by have e0 := z_neN (c := 0) (by decide) hs_1; have e1 := z_neN (c := 1) (by decide) hs_2; have e2 := z_neN (c := 2) (by decide) hs_3; have e3 := z_neN (c := 3) (by decide) hs_4; have e4 := z_neN (c := 4) (by decide) hs_5; omega) (by decide) ?_
  refine z_bipush C (-2) dX5_line_118 (by decide) ?_
  exact z_iret C N dX5_line_120 (rfl) (by unfold zLiR; (repeat (first | rw [if_pos (by (first | assumption | exact Int32.not_lt.mpr (by assumption) | exact Int32.not_le.mp (by assumption)))] | rw [if_neg (by (first | assumption | exact Int32.not_lt.mpr (by assumption) | exact Int32.not_le.mp (by assumption)))])) <;> (first | rfl | (simp only [hs_1, hs_2, hs_3, hs_4, hs_5]; rfl)))

set_option maxHeartbeats 4000000 in
set_option maxRecDepth 100000 in
theorem mX5_line_c (E : zE) (x0 h0 w0 : Nat) (t : Nat → Nat) (S : zSt) (j : Nat) (wh : Int32) (hS : okS S) (hj : j < cU S) (hsl : ¬ cO S j < 0) : zM E yX5_line wsX5_line 5 [.ref x0, .int (nI 1), .int (nI j), .int wh] [(x0, .inr (5, [.ref (t 0), .ref h0, .ref w0])), ((t 0), .inr (4, [.ref (t 1), .ref (t 3), .ref (t 5), .ref (t 6), .int (zb (tK S))])), ((t 1), .inr (2, [.ref (t 2), .int (nI (rU S))])), ((t 2), .inl (E.2.2.1, 12, .inl (rO S))), ((t 3), .inr (2, [.ref (t 4), .int (nI (cU S))])), ((t 4), .inl (E.2.2.1, 8, .inl (cO S))), ((t 5), .inl (E.2.2.1, 96, .inl (bS S))), ((t 6), .inr (0, [.ref (t 7), .int (nI (mK S))])), ((t 7), .inl (E.2.2.1, 360, .inl (fA S)))] [(x0, .inr (5, [.ref (t 0), .ref h0, .ref w0])), ((t 0), .inr (4, [.ref (t 1), .ref (t 3), .ref (t 5), .ref (t 6), .int (zb (tK S))])), ((t 1), .inr (2, [.ref (t 2), .int (nI (rU S))])), ((t 2), .inl (E.2.2.1, 12, .inl (rO S))), ((t 3), .inr (2, [.ref (t 4), .int (nI (cU S))])), ((t 4), .inl (E.2.2.1, 8, .inl (cO S))), ((t 5), .inl (E.2.2.1, 96, .inl (bS S))), ((t 6), .inr (0, [.ref (t 7), .int (nI (mK S))])), ((t 7), .inl (E.2.2.1, 360, .inl (fA S)))] (some (.int (zLiC S j wh))) := by
  refine zM.of kX5_line (Nat.le_of_ble_eq_true rfl) rfl [some (.ref x0), some (.int (nI 1)), some (.int (nI j)), some (.int wh), none] rfl (Nat.le_of_ble_eq_true rfl) ?_
  intro X eX C N
  subst eX
  obtain ⟨hur, huc, hM⟩ := id hS
  refine z_aload_n C 0 dX5_line_0 rfl rfl ?_
  refine z_get C fX5_line_10 0 dX5_line_1 rfl rfl ?_
  refine z_iload_n C 1 dX5_line_4 rfl rfl ?_
  refine z_iload_n C 2 dX5_line_5 rfl rfl ?_
  refine z_callVr C kX4_slotAt gX5_line_X4_slotAt (mX4_slotAt_c_in X.2.1 t (rO S) (rU S) (cO S) (cU S) (bS S) (fA S) (mK S) (tK S) j hur huc hM hj) dX5_line_6 [1, 2, 3, 4, 5, 6, 7, 8] [] 1 rfl nd_1_2_3_4_5_6_7_8 rfl rfl rfl (by decide) (by decide) (Nat.le_of_ble_eq_true rfl) rfl ?_
  refine z_istore C dX5_line_9 (Nat.le_of_ble_eq_true rfl) ?_
  refine z_iload C dX5_line_11 rfl ?_
  refine z_if_ge_t C 18 dX5_line_13 (by decide) (Int32.not_lt.mp hsl) ?_
  refine z_iload_n C 3 dX5_line_18 rfl rfl ?_
  by_cases hs_1 : wh = nI 0
  · refine z_tsAt C 0 52 dX5_line_19 (by rw [hs_1]; decide) (by decide) rfl (by decide) ?_
    refine z_aload_n C 0 dX5_line_52 rfl rfl ?_
    refine z_get C fX5_line_10 0 dX5_line_53 rfl rfl ?_
    refine z_get C fX5_line_38 1 dX5_line_56 rfl rfl ?_
    refine z_iload_n C 1 dX5_line_59 rfl rfl ?_
    refine z_iload C dX5_line_60 rfl ?_
    refine z_callVr C kX0_insertionOf gX5_line_X0_insertionOf (mX0_insertionOf_c X.2.1 (t 6) (t 7) (fA S) (mK S) ((cO S) j) hM) dX5_line_62 [7, 8] [] 7 rfl nd_7_8 rfl rfl rfl (by decide) (by decide) (Nat.le_of_ble_eq_true rfl) rfl ?_
    exact z_iret C N dX5_line_65 (rfl) (by unfold zLiC; (repeat (first | rw [if_pos (by (first | assumption | exact Int32.not_lt.mpr (by assumption) | exact Int32.not_le.mp (by assumption)))] | rw [if_neg (by (first | assumption | exact Int32.not_lt.mpr (by assumption) | exact Int32.not_le.mp (by assumption)))])) <;> (first | rfl | (simp only [hs_1]; rfl)))
  by_cases hs_2 : wh = nI 1
  · refine z_tsAt C 1 66 dX5_line_19 (by rw [hs_2]; decide) (by decide) rfl (by decide) ?_
    refine z_aload_n C 0 dX5_line_66 rfl rfl ?_
    refine z_get C fX5_line_10 0 dX5_line_67 rfl rfl ?_
    refine z_get C fX5_line_38 1 dX5_line_70 rfl rfl ?_
    refine z_iload_n C 1 dX5_line_73 rfl rfl ?_
    refine z_iload C dX5_line_74 rfl ?_
    refine z_callVr C kX0_removalOf gX5_line_X0_removalOf (mX0_removalOf_c X.2.1 (t 6) (t 7) (fA S) (mK S) ((cO S) j) hM) dX5_line_76 [7, 8] [] 7 rfl nd_7_8 rfl rfl rfl (by decide) (by decide) (Nat.le_of_ble_eq_true rfl) rfl ?_
    exact z_iret C N dX5_line_79 (rfl) (by unfold zLiC; (repeat (first | rw [if_pos (by (first | assumption | exact Int32.not_lt.mpr (by assumption) | exact Int32.not_le.mp (by assumption)))] | rw [if_neg (by (first | assumption | exact Int32.not_lt.mpr (by assumption) | exact Int32.not_le.mp (by assumption)))])) <;> (first | rfl | (simp only [hs_1, hs_2]; rfl)))
  by_cases hs_3 : wh = nI 2
  · refine z_tsAt C 2 80 dX5_line_19 (by rw [hs_3]; decide) (by decide) rfl (by decide) ?_
    refine z_aload_n C 0 dX5_line_80 rfl rfl ?_
    refine z_get C fX5_line_10 0 dX5_line_81 rfl rfl ?_
    refine z_iconst C (nI 1) dX5_line_84 (by decide) ?_
    refine z_iload_n C 1 dX5_line_85 rfl rfl ?_
    refine z_iload C dX5_line_86 rfl ?_
    refine z_callVr C kX4_placeInView gX5_line_X4_placeInView (mX4_placeInView_c X.2.1 t (rO S) (rU S) (cO S) (cU S) (bS S) (fA S) (mK S) (tK S) (nI 1) ((cO S) j) hur huc hM) dX5_line_88 [1, 2, 3, 4, 5, 6, 7, 8] [] 1 rfl nd_1_2_3_4_5_6_7_8 rfl rfl rfl (by decide) (by decide) (Nat.le_of_ble_eq_true rfl) rfl ?_
    exact z_iret C N dX5_line_91 (rfl) (by unfold zLiC; (repeat (first | rw [if_pos (by (first | assumption | exact Int32.not_lt.mpr (by assumption) | exact Int32.not_le.mp (by assumption)))] | rw [if_neg (by (first | assumption | exact Int32.not_lt.mpr (by assumption) | exact Int32.not_le.mp (by assumption)))])) <;> (first | rfl | (simp only [hs_1, hs_2, hs_3]; rfl)))
  by_cases hs_4 : wh = nI 3
  · refine z_tsAt C 3 92 dX5_line_19 (by rw [hs_4]; decide) (by decide) rfl (by decide) ?_
    refine z_aload_n C 0 dX5_line_92 rfl rfl ?_
    refine z_get C fX5_line_10 0 dX5_line_93 rfl rfl ?_
    refine z_iconst C (nI 2) dX5_line_96 (by decide) ?_
    refine z_iload_n C 1 dX5_line_97 rfl rfl ?_
    refine z_iload C dX5_line_98 rfl ?_
    refine z_callVr C kX4_placeInView gX5_line_X4_placeInView (mX4_placeInView_c X.2.1 t (rO S) (rU S) (cO S) (cU S) (bS S) (fA S) (mK S) (tK S) (nI 2) ((cO S) j) hur huc hM) dX5_line_100 [1, 2, 3, 4, 5, 6, 7, 8] [] 1 rfl nd_1_2_3_4_5_6_7_8 rfl rfl rfl (by decide) (by decide) (Nat.le_of_ble_eq_true rfl) rfl ?_
    exact z_iret C N dX5_line_103 (rfl) (by unfold zLiC; (repeat (first | rw [if_pos (by (first | assumption | exact Int32.not_lt.mpr (by assumption) | exact Int32.not_le.mp (by assumption)))] | rw [if_neg (by (first | assumption | exact Int32.not_lt.mpr (by assumption) | exact Int32.not_le.mp (by assumption)))])) <;> (first | rfl | (simp only [hs_1, hs_2, hs_3, hs_4]; rfl)))
  by_cases hs_5 : wh = nI 4
  · refine z_tsAt C 4 104 dX5_line_19 (by rw [hs_5]; decide) (by decide) rfl (by decide) ?_
    refine z_aload_n C 0 dX5_line_104 rfl rfl ?_
    refine z_get C fX5_line_10 0 dX5_line_105 rfl rfl ?_
    refine z_get C fX5_line_38 1 dX5_line_108 rfl rfl ?_
    refine z_iload_n C 1 dX5_line_111 rfl rfl ?_
    refine z_iload C dX5_line_112 rfl ?_
    refine z_callVr C kX0_settingsOfLine gX5_line_X0_settingsOfLine (mX0_settingsOfLine_c X.2.1 (t 6) (t 7) (fA S) (mK S) ((cO S) j) hM) dX5_line_114 [7, 8] [] 7 rfl nd_7_8 rfl rfl rfl (by decide) (by decide) (Nat.le_of_ble_eq_true rfl) rfl ?_
    exact z_iret C N dX5_line_117 (rfl) (by unfold zLiC; (repeat (first | rw [if_pos (by (first | assumption | exact Int32.not_lt.mpr (by assumption) | exact Int32.not_le.mp (by assumption)))] | rw [if_neg (by (first | assumption | exact Int32.not_lt.mpr (by assumption) | exact Int32.not_le.mp (by assumption)))])) <;> (first | rfl | (simp only [hs_1, hs_2, hs_3, hs_4, hs_5]; rfl)))
  refine z_tsOut C 118 dX5_line_19 (by have e0 := z_neN (c := 0) (by decide) hs_1; have e1 := z_neN (c := 1) (by decide) hs_2; have e2 := z_neN (c := 2) (by decide) hs_3; have e3 := z_neN (c := 3) (by decide) hs_4; have e4 := z_neN (c := 4) (by decide) hs_5; omega) (by decide) ?_
  refine z_bipush C (-2) dX5_line_118 (by decide) ?_
  exact z_iret C N dX5_line_120 (rfl) (by unfold zLiC; (repeat (first | rw [if_pos (by (first | assumption | exact Int32.not_lt.mpr (by assumption) | exact Int32.not_le.mp (by assumption)))] | rw [if_neg (by (first | assumption | exact Int32.not_lt.mpr (by assumption) | exact Int32.not_le.mp (by assumption)))])) <;> (first | rfl | (simp only [hs_1, hs_2, hs_3, hs_4, hs_5]; rfl)))

theorem kX5_setting : zY yX5_setting wsX5_setting cX5_setting 6 (some .int) 3 := ⟨⟨_, rfl⟩, ⟨by decide +kernel, by decide +kernel, by decide +kernel⟩, by decide +kernel⟩
theorem fX5_setting_10 : zF wsX5_setting RX5 10 5 0 RX5 TX5 3 := ⟨by decide +kernel, rfl, by decide, by decide +kernel, rfl⟩
theorem fX5_setting_38 : zF wsX5_setting RX5 38 4 3 RX4 TX4 5 := ⟨by decide +kernel, rfl, by decide, by decide +kernel, rfl⟩
set_option maxHeartbeats 4000000 in
set_option maxRecDepth 100000 in
theorem mX5_setting (E : zE) (x0 h0 w0 : Nat) (t : Nat → Nat) (S : zSt) (r c x : Int32) (hS : okS S) : zM E yX5_setting wsX5_setting 5 [.ref x0, .int r, .int c, .int x] [(x0, .inr (5, [.ref (t 0), .ref h0, .ref w0])), ((t 0), .inr (4, [.ref (t 1), .ref (t 3), .ref (t 5), .ref (t 6), .int (zb (tK S))])), ((t 1), .inr (2, [.ref (t 2), .int (nI (rU S))])), ((t 2), .inl (E.2.2.1, 12, .inl (rO S))), ((t 3), .inr (2, [.ref (t 4), .int (nI (cU S))])), ((t 4), .inl (E.2.2.1, 8, .inl (cO S))), ((t 5), .inl (E.2.2.1, 96, .inl (bS S))), ((t 6), .inr (0, [.ref (t 7), .int (nI (mK S))])), ((t 7), .inl (E.2.2.1, 360, .inl (fA S)))] [(x0, .inr (5, [.ref (t 0), .ref h0, .ref w0])), ((t 0), .inr (4, [.ref (t 1), .ref (t 3), .ref (t 5), .ref (t 6), .int (zb (tK S))])), ((t 1), .inr (2, [.ref (t 2), .int (nI (rU S))])), ((t 2), .inl (E.2.2.1, 12, .inl (rO S))), ((t 3), .inr (2, [.ref (t 4), .int (nI (cU S))])), ((t 4), .inl (E.2.2.1, 8, .inl (cO S))), ((t 5), .inl (E.2.2.1, 96, .inl (bS S))), ((t 6), .inr (0, [.ref (t 7), .int (nI (mK S))])), ((t 7), .inl (E.2.2.1, 360, .inl (fA S)))] (some (.int (zSe S r c x))) := by
  refine zM.of kX5_setting (Nat.le_of_ble_eq_true rfl) rfl [some (.ref x0), some (.int r), some (.int c), some (.int x), none, none] rfl (Nat.le_of_ble_eq_true rfl) ?_
  intro X eX C N
  subst eX
  obtain ⟨hur, huc, hM⟩ := id hS
  refine z_aload_n C 0 dX5_setting_0 rfl rfl ?_
  refine z_get C fX5_setting_10 0 dX5_setting_1 rfl rfl ?_
  refine z_iconst C (nI 0) dX5_setting_4 (by decide) ?_
  refine z_iload_n C 1 dX5_setting_5 rfl rfl ?_
  refine z_callVr C kX4_slotAt gX5_setting_X4_slotAt (mX4_slotAt_rg X.2.1 t (rO S) (rU S) (cO S) (cU S) (bS S) (fA S) (mK S) (tK S) r hur huc hM) dX5_setting_6 [1, 2, 3, 4, 5, 6, 7, 8] [] 1 rfl nd_1_2_3_4_5_6_7_8 rfl rfl rfl (by decide) (by decide) (Nat.le_of_ble_eq_true rfl) rfl ?_
  refine z_istore C dX5_setting_9 (Nat.le_of_ble_eq_true rfl) ?_
  refine z_aload_n C 0 dX5_setting_11 rfl rfl ?_
  refine z_get C fX5_setting_10 0 dX5_setting_12 rfl rfl ?_
  refine z_iconst C (nI 1) dX5_setting_15 (by decide) ?_
  refine z_iload_n C 2 dX5_setting_16 rfl rfl ?_
  refine z_callVr C kX4_slotAt gX5_setting_X4_slotAt (mX4_slotAt_cg X.2.1 t (rO S) (rU S) (cO S) (cU S) (bS S) (fA S) (mK S) (tK S) c hur huc hM) dX5_setting_17 [1, 2, 3, 4, 5, 6, 7, 8] [] 1 rfl nd_1_2_3_4_5_6_7_8 rfl rfl rfl (by decide) (by decide) (Nat.le_of_ble_eq_true rfl) rfl ?_
  refine z_istore C dX5_setting_20 (Nat.le_of_ble_eq_true rfl) ?_
  refine z_iload C dX5_setting_22 rfl ?_
  refine z_if_lt C 32 dX5_setting_24 (by decide) (fun h_1 => ?_) (fun h_1 => ?_)
  · refine z_iconst C (-1) dX5_setting_32 (by decide) ?_
    exact z_iret C N dX5_setting_33 (rfl) (by unfold zSe; (repeat (first | rw [if_pos (by (first | assumption | exact Int32.not_lt.mpr (by assumption) | exact Int32.not_le.mp (by assumption)))] | rw [if_neg (by (first | assumption | exact Int32.not_lt.mpr (by assumption) | exact Int32.not_le.mp (by assumption)))])) <;> (first | rfl | (simp only [h_1]; rfl)))
  · refine z_iload C dX5_setting_27 rfl ?_
    refine z_if_ge C 34 dX5_setting_29 (by decide) (fun h_2 => ?_) (fun h_2 => ?_)
    · refine z_iload_n C 3 dX5_setting_34 rfl rfl ?_
      refine z_if_ge C 41 dX5_setting_35 (by decide) (fun h_3 => ?_) (fun h_3 => ?_)
      · refine z_aload_n C 0 dX5_setting_41 rfl rfl ?_
        refine z_get C fX5_setting_10 0 dX5_setting_42 rfl rfl ?_
        refine z_get C fX5_setting_38 1 dX5_setting_45 rfl rfl ?_
        refine z_iload C dX5_setting_48 rfl ?_
        refine z_iload C dX5_setting_50 rfl ?_
        refine z_iload_n C 3 dX5_setting_52 rfl rfl ?_
        refine z_callVr C kX0_settingAt gX5_setting_X0_settingAt (mX0_settingAt X.2.1 (t 6) (t 7) (fA S) (mK S) (zsa (rO S) (rU S) r) (zsa (cO S) (cU S) c) x hM) dX5_setting_53 [7, 8] [] 7 rfl nd_7_8 rfl rfl rfl (by decide) (by decide) (Nat.le_of_ble_eq_true rfl) rfl ?_
        exact z_iret C N dX5_setting_56 (rfl) (by unfold zSe; (repeat (first | rw [if_pos (by (first | assumption | exact Int32.not_lt.mpr (by assumption) | exact Int32.not_le.mp (by assumption)))] | rw [if_neg (by (first | assumption | exact Int32.not_lt.mpr (by assumption) | exact Int32.not_le.mp (by assumption)))])) <;> (first | rfl | (simp only [Int32.not_lt.mp h_1, h_1, h_2, h_3]; rfl)))
      · refine z_bipush C (-2) dX5_setting_38 (by decide) ?_
        exact z_iret C N dX5_setting_40 (rfl) (by unfold zSe; (repeat (first | rw [if_pos (by (first | assumption | exact Int32.not_lt.mpr (by assumption) | exact Int32.not_le.mp (by assumption)))] | rw [if_neg (by (first | assumption | exact Int32.not_lt.mpr (by assumption) | exact Int32.not_le.mp (by assumption)))])) <;> (first | rfl | (simp only [Int32.not_lt.mp h_1, h_1, h_2, Int32.not_le.mp h_3, h_3]; rfl)))
    · refine z_iconst C (-1) dX5_setting_32 (by decide) ?_
      exact z_iret C N dX5_setting_33 (rfl) (by unfold zSe; (repeat (first | rw [if_pos (by (first | assumption | exact Int32.not_lt.mpr (by assumption) | exact Int32.not_le.mp (by assumption)))] | rw [if_neg (by (first | assumption | exact Int32.not_lt.mpr (by assumption) | exact Int32.not_le.mp (by assumption)))])) <;> (first | rfl | (simp only [Int32.not_lt.mp h_1, h_1, Int32.not_le.mp h_2, h_2]; rfl)))

theorem kX5_change : zY yX5_change wsX5_change cX5_change 3 (some .int) 2 := ⟨⟨_, rfl⟩, ⟨by decide +kernel, by decide +kernel, by decide +kernel⟩, by decide +kernel⟩
theorem fX5_change_10 : zF wsX5_change RX5 10 5 0 RX5 TX5 3 := ⟨by decide +kernel, rfl, by decide, by decide +kernel, rfl⟩
theorem fX5_change_38 : zF wsX5_change RX5 38 4 3 RX4 TX4 5 := ⟨by decide +kernel, rfl, by decide, by decide +kernel, rfl⟩
set_option maxHeartbeats 4000000 in
set_option maxRecDepth 100000 in
theorem mX5_change_b (E : zE) (x0 h0 w0 : Nat) (t : Nat → Nat) (S : zSt) (x wh : Int32) (hS : okS S) (hx : x < 0 ∨ (¬ x < 0 ∧ nI (mK S) ≤ x)) : zM E yX5_change wsX5_change 5 [.ref x0, .int x, .int wh] [(x0, .inr (5, [.ref (t 0), .ref h0, .ref w0])), ((t 0), .inr (4, [.ref (t 1), .ref (t 3), .ref (t 5), .ref (t 6), .int (zb (tK S))])), ((t 1), .inr (2, [.ref (t 2), .int (nI (rU S))])), ((t 2), .inl (E.2.2.1, 12, .inl (rO S))), ((t 3), .inr (2, [.ref (t 4), .int (nI (cU S))])), ((t 4), .inl (E.2.2.1, 8, .inl (cO S))), ((t 5), .inl (E.2.2.1, 96, .inl (bS S))), ((t 6), .inr (0, [.ref (t 7), .int (nI (mK S))])), ((t 7), .inl (E.2.2.1, 360, .inl (fA S)))] [(x0, .inr (5, [.ref (t 0), .ref h0, .ref w0])), ((t 0), .inr (4, [.ref (t 1), .ref (t 3), .ref (t 5), .ref (t 6), .int (zb (tK S))])), ((t 1), .inr (2, [.ref (t 2), .int (nI (rU S))])), ((t 2), .inl (E.2.2.1, 12, .inl (rO S))), ((t 3), .inr (2, [.ref (t 4), .int (nI (cU S))])), ((t 4), .inl (E.2.2.1, 8, .inl (cO S))), ((t 5), .inl (E.2.2.1, 96, .inl (bS S))), ((t 6), .inr (0, [.ref (t 7), .int (nI (mK S))])), ((t 7), .inl (E.2.2.1, 360, .inl (fA S)))] (some (.int (-1))) := by
  refine zM.of kX5_change (Nat.le_of_ble_eq_true rfl) rfl [some (.ref x0), some (.int x), some (.int wh)] rfl (Nat.le_of_ble_eq_true rfl) ?_
  intro X eX C N
  subst eX
  obtain ⟨hur, huc, hM⟩ := id hS
  refine z_aload_n C 0 dX5_change_0 rfl rfl ?_
  refine z_get C fX5_change_10 0 dX5_change_1 rfl rfl ?_
  refine z_get C fX5_change_38 1 dX5_change_4 rfl rfl ?_
  refine z_iload_n C 1 dX5_change_7 rfl rfl ?_
  refine z_callVr C kX0_isMade gX5_change_X0_isMade (mX0_isMade_out X.2.1 (t 6) (t 7) (fA S) (mK S) x hx) dX5_change_8 [7, 8] [] 7 rfl nd_7_8 rfl rfl rfl (by decide) (by decide) (Nat.le_of_ble_eq_true rfl) rfl ?_
  refine z_bif_ne_f C 16 dX5_change_11 (by decide) rfl ?_
  refine z_iconst C (-1) dX5_change_14 (by decide) ?_
  exact z_iret C N dX5_change_15 (rfl) (rfl)

theorem fX5_change_138 : zF wsX5_change RX5 138 4 0 RX4 TX4 5 := ⟨by decide +kernel, rfl, by decide, by decide +kernel, rfl⟩
theorem nd_2_3 : va_nd [2, 3] = true := by decide +kernel
theorem fX5_change_147 : zF wsX5_change RX5 147 4 1 RX4 TX4 5 := ⟨by decide +kernel, rfl, by decide, by decide +kernel, rfl⟩
theorem nd_4_5 : va_nd [4, 5] = true := by decide +kernel
set_option maxHeartbeats 4000000 in
set_option maxRecDepth 100000 in
theorem mX5_change (E : zE) (x0 h0 w0 : Nat) (t : Nat → Nat) (S : zSt) (x : Nat) (wh : Int32) (hS : okS S) (hx : x < mK S) : zM E yX5_change wsX5_change 5 [.ref x0, .int (nI x), .int wh] [(x0, .inr (5, [.ref (t 0), .ref h0, .ref w0])), ((t 0), .inr (4, [.ref (t 1), .ref (t 3), .ref (t 5), .ref (t 6), .int (zb (tK S))])), ((t 1), .inr (2, [.ref (t 2), .int (nI (rU S))])), ((t 2), .inl (E.2.2.1, 12, .inl (rO S))), ((t 3), .inr (2, [.ref (t 4), .int (nI (cU S))])), ((t 4), .inl (E.2.2.1, 8, .inl (cO S))), ((t 5), .inl (E.2.2.1, 96, .inl (bS S))), ((t 6), .inr (0, [.ref (t 7), .int (nI (mK S))])), ((t 7), .inl (E.2.2.1, 360, .inl (fA S)))] [(x0, .inr (5, [.ref (t 0), .ref h0, .ref w0])), ((t 0), .inr (4, [.ref (t 1), .ref (t 3), .ref (t 5), .ref (t 6), .int (zb (tK S))])), ((t 1), .inr (2, [.ref (t 2), .int (nI (rU S))])), ((t 2), .inl (E.2.2.1, 12, .inl (rO S))), ((t 3), .inr (2, [.ref (t 4), .int (nI (cU S))])), ((t 4), .inl (E.2.2.1, 8, .inl (cO S))), ((t 5), .inl (E.2.2.1, 96, .inl (bS S))), ((t 6), .inr (0, [.ref (t 7), .int (nI (mK S))])), ((t 7), .inl (E.2.2.1, 360, .inl (fA S)))] (some (.int (zChg S x wh))) := by
  refine zM.of kX5_change (Nat.le_of_ble_eq_true rfl) rfl [some (.ref x0), some (.int (nI x)), some (.int wh)] rfl (Nat.le_of_ble_eq_true rfl) ?_
  intro X eX C N
  subst eX
  obtain ⟨hur, huc, hM⟩ := id hS
  refine z_aload_n C 0 dX5_change_0 rfl rfl ?_
  refine z_get C fX5_change_10 0 dX5_change_1 rfl rfl ?_
  refine z_get C fX5_change_38 1 dX5_change_4 rfl rfl ?_
  refine z_iload_n C 1 dX5_change_7 rfl rfl ?_
  refine z_callVr C kX0_isMade gX5_change_X0_isMade (mX0_isMade_in X.2.1 (t 6) (t 7) (fA S) (mK S) x hM hx) dX5_change_8 [7, 8] [] 7 rfl nd_7_8 rfl rfl rfl (by decide) (by decide) (Nat.le_of_ble_eq_true rfl) rfl ?_
  refine z_bif_ne_t C 16 dX5_change_11 (by decide) rfl ?_
  refine z_iload_n C 2 dX5_change_16 rfl rfl ?_
  by_cases hs_1 : wh = nI 0
  · refine z_tsAt C 0 68 dX5_change_17 (by rw [hs_1]; decide) (by decide) rfl (by decide) ?_
    refine z_aload_n C 0 dX5_change_68 rfl rfl ?_
    refine z_get C fX5_change_10 0 dX5_change_69 rfl rfl ?_
    refine z_get C fX5_change_38 1 dX5_change_72 rfl rfl ?_
    refine z_iload_n C 1 dX5_change_75 rfl rfl ?_
    refine z_iconst C (nI 0) dX5_change_76 (by decide) ?_
    refine z_callVr C kX0_fact gX5_change_X0_fact (mX0_fact X.2.1 (t 6) (t 7) (fA S) (mK S) x 0 hM hx (by first | assumption | omega)) dX5_change_77 [7, 8] [] 7 rfl nd_7_8 rfl rfl rfl (by decide) (by decide) (Nat.le_of_ble_eq_true rfl) rfl ?_
    refine z_top (y := (fA S) (6 * x)) rfl ?_
    exact z_iret C N dX5_change_80 (rfl) (by unfold zChg; (repeat (first | rw [if_pos (by (first | assumption | exact Int32.not_lt.mpr (by assumption) | exact Int32.not_le.mp (by assumption)))] | rw [if_neg (by (first | assumption | exact Int32.not_lt.mpr (by assumption) | exact Int32.not_le.mp (by assumption)))])) <;> (first | rfl | (simp only [hs_1]; rfl)))
  by_cases hs_2 : wh = nI 1
  · refine z_tsAt C 1 81 dX5_change_17 (by rw [hs_2]; decide) (by decide) rfl (by decide) ?_
    refine z_aload_n C 0 dX5_change_81 rfl rfl ?_
    refine z_get C fX5_change_10 0 dX5_change_82 rfl rfl ?_
    refine z_get C fX5_change_38 1 dX5_change_85 rfl rfl ?_
    refine z_iload_n C 1 dX5_change_88 rfl rfl ?_
    refine z_iconst C (nI 1) dX5_change_89 (by decide) ?_
    refine z_callVr C kX0_fact gX5_change_X0_fact (mX0_fact X.2.1 (t 6) (t 7) (fA S) (mK S) x 1 hM hx (by first | assumption | omega)) dX5_change_90 [7, 8] [] 7 rfl nd_7_8 rfl rfl rfl (by decide) (by decide) (Nat.le_of_ble_eq_true rfl) rfl ?_
    exact z_iret C N dX5_change_93 (rfl) (by unfold zChg; (repeat (first | rw [if_pos (by (first | assumption | exact Int32.not_lt.mpr (by assumption) | exact Int32.not_le.mp (by assumption)))] | rw [if_neg (by (first | assumption | exact Int32.not_lt.mpr (by assumption) | exact Int32.not_le.mp (by assumption)))])) <;> (first | rfl | (simp only [hs_1, hs_2]; rfl)))
  by_cases hs_3 : wh = nI 2
  · refine z_tsAt C 2 94 dX5_change_17 (by rw [hs_3]; decide) (by decide) rfl (by decide) ?_
    refine z_aload_n C 0 dX5_change_94 rfl rfl ?_
    refine z_get C fX5_change_10 0 dX5_change_95 rfl rfl ?_
    refine z_get C fX5_change_38 1 dX5_change_98 rfl rfl ?_
    refine z_iload_n C 1 dX5_change_101 rfl rfl ?_
    refine z_iconst C (nI 2) dX5_change_102 (by decide) ?_
    refine z_callVr C kX0_fact gX5_change_X0_fact (mX0_fact X.2.1 (t 6) (t 7) (fA S) (mK S) x 2 hM hx (by first | assumption | omega)) dX5_change_103 [7, 8] [] 7 rfl nd_7_8 rfl rfl rfl (by decide) (by decide) (Nat.le_of_ble_eq_true rfl) rfl ?_
    exact z_iret C N dX5_change_106 (rfl) (by unfold zChg; (repeat (first | rw [if_pos (by (first | assumption | exact Int32.not_lt.mpr (by assumption) | exact Int32.not_le.mp (by assumption)))] | rw [if_neg (by (first | assumption | exact Int32.not_lt.mpr (by assumption) | exact Int32.not_le.mp (by assumption)))])) <;> (first | rfl | (simp only [hs_1, hs_2, hs_3]; rfl)))
  by_cases hs_4 : wh = nI 3
  · refine z_tsAt C 3 107 dX5_change_17 (by rw [hs_4]; decide) (by decide) rfl (by decide) ?_
    refine z_aload_n C 0 dX5_change_107 rfl rfl ?_
    refine z_get C fX5_change_10 0 dX5_change_108 rfl rfl ?_
    refine z_get C fX5_change_138 1 dX5_change_111 rfl rfl ?_
    refine z_aload_n C 0 dX5_change_114 rfl rfl ?_
    refine z_get C fX5_change_10 0 dX5_change_115 rfl rfl ?_
    refine z_get C fX5_change_38 1 dX5_change_118 rfl rfl ?_
    refine z_iload_n C 1 dX5_change_121 rfl rfl ?_
    refine z_iconst C (nI 3) dX5_change_122 (by decide) ?_
    refine z_callVr C kX0_fact gX5_change_X0_fact (mX0_fact X.2.1 (t 6) (t 7) (fA S) (mK S) x 3 hM hx (by first | assumption | omega)) dX5_change_123 [7, 8] [.ref (t 1)] 7 rfl nd_7_8 rfl rfl rfl (by decide) (by decide) (Nat.le_of_ble_eq_true rfl) rfl ?_
    refine z_callVr C kX2_placeOf gX5_change_X2_placeOf (mX2_placeOf X.2.1 (t 1) (t 2) 12 (rO S) (rU S) ((fA S) (6 * x + 3)) (by first | assumption | omega) hur) dX5_change_126 [2, 3] [] 2 rfl nd_2_3 rfl rfl rfl (by decide) (by decide) (Nat.le_of_ble_eq_true rfl) rfl ?_
    exact z_iret C N dX5_change_129 (rfl) (by unfold zChg; (repeat (first | rw [if_pos (by (first | assumption | exact Int32.not_lt.mpr (by assumption) | exact Int32.not_le.mp (by assumption)))] | rw [if_neg (by (first | assumption | exact Int32.not_lt.mpr (by assumption) | exact Int32.not_le.mp (by assumption)))])) <;> (first | rfl | (simp only [hs_1, hs_2, hs_3, hs_4]; rfl)))
  by_cases hs_5 : wh = nI 4
  · refine z_tsAt C 4 130 dX5_change_17 (by rw [hs_5]; decide) (by decide) rfl (by decide) ?_
    refine z_aload_n C 0 dX5_change_130 rfl rfl ?_
    refine z_get C fX5_change_10 0 dX5_change_131 rfl rfl ?_
    refine z_get C fX5_change_147 1 dX5_change_134 rfl rfl ?_
    refine z_aload_n C 0 dX5_change_137 rfl rfl ?_
    refine z_get C fX5_change_10 0 dX5_change_138 rfl rfl ?_
    refine z_get C fX5_change_38 1 dX5_change_141 rfl rfl ?_
    refine z_iload_n C 1 dX5_change_144 rfl rfl ?_
    refine z_iconst C (nI 4) dX5_change_145 (by decide) ?_
    refine z_callVr C kX0_fact gX5_change_X0_fact (mX0_fact X.2.1 (t 6) (t 7) (fA S) (mK S) x 4 hM hx (by first | assumption | omega)) dX5_change_146 [7, 8] [.ref (t 3)] 7 rfl nd_7_8 rfl rfl rfl (by decide) (by decide) (Nat.le_of_ble_eq_true rfl) rfl ?_
    refine z_callVr C kX2_placeOf gX5_change_X2_placeOf (mX2_placeOf X.2.1 (t 3) (t 4) 8 (cO S) (cU S) ((fA S) (6 * x + 4)) (by first | assumption | omega) huc) dX5_change_149 [4, 5] [] 4 rfl nd_4_5 rfl rfl rfl (by decide) (by decide) (Nat.le_of_ble_eq_true rfl) rfl ?_
    exact z_iret C N dX5_change_152 (rfl) (by unfold zChg; (repeat (first | rw [if_pos (by (first | assumption | exact Int32.not_lt.mpr (by assumption) | exact Int32.not_le.mp (by assumption)))] | rw [if_neg (by (first | assumption | exact Int32.not_lt.mpr (by assumption) | exact Int32.not_le.mp (by assumption)))])) <;> (first | rfl | (simp only [hs_1, hs_2, hs_3, hs_4, hs_5]; rfl)))
  by_cases hs_6 : wh = nI 5
  · refine z_tsAt C 5 153 dX5_change_17 (by rw [hs_6]; decide) (by decide) rfl (by decide) ?_
    refine z_aload_n C 0 dX5_change_153 rfl rfl ?_
    refine z_get C fX5_change_10 0 dX5_change_154 rfl rfl ?_
    refine z_get C fX5_change_38 1 dX5_change_157 rfl rfl ?_
    refine z_iload_n C 1 dX5_change_160 rfl rfl ?_
    refine z_iconst C (nI 5) dX5_change_161 (by decide) ?_
    refine z_callVr C kX0_fact gX5_change_X0_fact (mX0_fact X.2.1 (t 6) (t 7) (fA S) (mK S) x 5 hM hx (by first | assumption | omega)) dX5_change_162 [7, 8] [] 7 rfl nd_7_8 rfl rfl rfl (by decide) (by decide) (Nat.le_of_ble_eq_true rfl) rfl ?_
    exact z_iret C N dX5_change_165 (rfl) (by unfold zChg; (repeat (first | rw [if_pos (by (first | assumption | exact Int32.not_lt.mpr (by assumption) | exact Int32.not_le.mp (by assumption)))] | rw [if_neg (by (first | assumption | exact Int32.not_lt.mpr (by assumption) | exact Int32.not_le.mp (by assumption)))])) <;> (first | rfl | (simp only [hs_1, hs_2, hs_3, hs_4, hs_5, hs_6]; rfl)))
  by_cases hs_7 : wh = nI 6
  · refine z_tsAt C 6 166 dX5_change_17 (by rw [hs_7]; decide) (by decide) rfl (by decide) ?_
    refine z_aload_n C 0 dX5_change_166 rfl rfl ?_
    refine z_get C fX5_change_10 0 dX5_change_167 rfl rfl ?_
    refine z_iload_n C 1 dX5_change_170 rfl rfl ?_
    refine z_callVr C kX4_valueBelow gX5_change_X4_valueBelow (mX4_valueBelow X.2.1 t (rO S) (rU S) (cO S) (cU S) (bS S) (fA S) (mK S) (tK S) x hur huc hM hx) dX5_change_171 [1, 2, 3, 4, 5, 6, 7, 8] [] 1 rfl nd_1_2_3_4_5_6_7_8 rfl rfl rfl (by decide) (by decide) (Nat.le_of_ble_eq_true rfl) rfl ?_
    exact z_iret C N dX5_change_174 (rfl) (by unfold zChg; (repeat (first | rw [if_pos (by (first | assumption | exact Int32.not_lt.mpr (by assumption) | exact Int32.not_le.mp (by assumption)))] | rw [if_neg (by (first | assumption | exact Int32.not_lt.mpr (by assumption) | exact Int32.not_le.mp (by assumption)))])) <;> (first | rfl | (simp only [hs_1, hs_2, hs_3, hs_4, hs_5, hs_6, hs_7]; rfl)))
  by_cases hs_8 : wh = nI 7
  · refine z_tsAt C 7 175 dX5_change_17 (by rw [hs_8]; decide) (by decide) rfl (by decide) ?_
    refine z_aload_n C 0 dX5_change_175 rfl rfl ?_
    refine z_get C fX5_change_10 0 dX5_change_176 rfl rfl ?_
    refine z_get C fX5_change_38 1 dX5_change_179 rfl rfl ?_
    refine z_iload_n C 1 dX5_change_182 rfl rfl ?_
    refine z_callVr C kX0_supportsOf gX5_change_X0_supportsOf (mX0_supportsOf X.2.1 (t 6) (t 7) (fA S) (mK S) x hM hx) dX5_change_183 [7, 8] [] 7 rfl nd_7_8 rfl rfl rfl (by decide) (by decide) (Nat.le_of_ble_eq_true rfl) rfl ?_
    exact z_iret C N dX5_change_186 (rfl) (by unfold zChg; (repeat (first | rw [if_pos (by (first | assumption | exact Int32.not_lt.mpr (by assumption) | exact Int32.not_le.mp (by assumption)))] | rw [if_neg (by (first | assumption | exact Int32.not_lt.mpr (by assumption) | exact Int32.not_le.mp (by assumption)))])) <;> (first | rfl | (simp only [hs_1, hs_2, hs_3, hs_4, hs_5, hs_6, hs_7, hs_8]; rfl)))
  by_cases hs_9 : wh = nI 8
  · refine z_tsAt C 8 187 dX5_change_17 (by rw [hs_9]; decide) (by decide) rfl (by decide) ?_
    refine z_aload_n C 0 dX5_change_187 rfl rfl ?_
    refine z_get C fX5_change_10 0 dX5_change_188 rfl rfl ?_
    refine z_get C fX5_change_38 1 dX5_change_191 rfl rfl ?_
    refine z_iload_n C 1 dX5_change_194 rfl rfl ?_
    refine z_callVr C kX0_dependentsOf gX5_change_X0_dependentsOf (mX0_dependentsOf X.2.1 (t 6) (t 7) (fA S) (mK S) x hM hx) dX5_change_195 [7, 8] [] 7 rfl nd_7_8 rfl rfl rfl (by decide) (by decide) (Nat.le_of_ble_eq_true rfl) rfl ?_
    exact z_iret C N dX5_change_198 (rfl) (by unfold zChg; (repeat (first | rw [if_pos (by (first | assumption | exact Int32.not_lt.mpr (by assumption) | exact Int32.not_le.mp (by assumption)))] | rw [if_neg (by (first | assumption | exact Int32.not_lt.mpr (by assumption) | exact Int32.not_le.mp (by assumption)))])) <;> (first | rfl | (simp only [hs_1, hs_2, hs_3, hs_4, hs_5, hs_6, hs_7, hs_8, hs_9]; rfl)))
  refine z_tsOut C 199 dX5_change_17 (by have e0 := z_neN (c := 0) (by decide) hs_1; have e1 := z_neN (c := 1) (by decide) hs_2; have e2 := z_neN (c := 2) (by decide) hs_3; have e3 := z_neN (c := 3) (by decide) hs_4; have e4 := z_neN (c := 4) (by decide) hs_5; have e5 := z_neN (c := 5) (by decide) hs_6; have e6 := z_neN (c := 6) (by decide) hs_7; have e7 := z_neN (c := 7) (by decide) hs_8; have e8 := z_neN (c := 8) (by decide) hs_9; omega) (by decide) ?_
  refine z_bipush C (-2) dX5_change_199 (by decide) ?_
  exact z_iret C N dX5_change_201 (rfl) (by unfold zChg; (repeat (first | rw [if_pos (by (first | assumption | exact Int32.not_lt.mpr (by assumption) | exact Int32.not_le.mp (by assumption)))] | rw [if_neg (by (first | assumption | exact Int32.not_lt.mpr (by assumption) | exact Int32.not_le.mp (by assumption)))])) <;> (first | rfl | (simp only [hs_1, hs_2, hs_3, hs_4, hs_5, hs_6, hs_7, hs_8, hs_9]; rfl)))

theorem kX5_restsOn : zY yX5_restsOn wsX5_restsOn cX5_restsOn 3 (some .int) 2 := ⟨⟨_, rfl⟩, ⟨by decide +kernel, by decide +kernel, by decide +kernel⟩, by decide +kernel⟩
theorem fX5_restsOn_10 : zF wsX5_restsOn RX5 10 5 0 RX5 TX5 3 := ⟨by decide +kernel, rfl, by decide, by decide +kernel, rfl⟩
theorem fX5_restsOn_38 : zF wsX5_restsOn RX5 38 4 3 RX4 TX4 5 := ⟨by decide +kernel, rfl, by decide, by decide +kernel, rfl⟩
set_option maxHeartbeats 4000000 in
set_option maxRecDepth 100000 in
theorem mX5_restsOn_b1 (E : zE) (x0 h0 w0 : Nat) (t : Nat → Nat) (S : zSt) (x y : Int32) (hS : okS S) (hx : x < 0 ∨ (¬ x < 0 ∧ nI (mK S) ≤ x)) : zM E yX5_restsOn wsX5_restsOn 5 [.ref x0, .int x, .int y] [(x0, .inr (5, [.ref (t 0), .ref h0, .ref w0])), ((t 0), .inr (4, [.ref (t 1), .ref (t 3), .ref (t 5), .ref (t 6), .int (zb (tK S))])), ((t 1), .inr (2, [.ref (t 2), .int (nI (rU S))])), ((t 2), .inl (E.2.2.1, 12, .inl (rO S))), ((t 3), .inr (2, [.ref (t 4), .int (nI (cU S))])), ((t 4), .inl (E.2.2.1, 8, .inl (cO S))), ((t 5), .inl (E.2.2.1, 96, .inl (bS S))), ((t 6), .inr (0, [.ref (t 7), .int (nI (mK S))])), ((t 7), .inl (E.2.2.1, 360, .inl (fA S)))] [(x0, .inr (5, [.ref (t 0), .ref h0, .ref w0])), ((t 0), .inr (4, [.ref (t 1), .ref (t 3), .ref (t 5), .ref (t 6), .int (zb (tK S))])), ((t 1), .inr (2, [.ref (t 2), .int (nI (rU S))])), ((t 2), .inl (E.2.2.1, 12, .inl (rO S))), ((t 3), .inr (2, [.ref (t 4), .int (nI (cU S))])), ((t 4), .inl (E.2.2.1, 8, .inl (cO S))), ((t 5), .inl (E.2.2.1, 96, .inl (bS S))), ((t 6), .inr (0, [.ref (t 7), .int (nI (mK S))])), ((t 7), .inl (E.2.2.1, 360, .inl (fA S)))] (some (.int (-1))) := by
  refine zM.of kX5_restsOn (Nat.le_of_ble_eq_true rfl) rfl [some (.ref x0), some (.int x), some (.int y)] rfl (Nat.le_of_ble_eq_true rfl) ?_
  intro X eX C N
  subst eX
  obtain ⟨hur, huc, hM⟩ := id hS
  refine z_aload_n C 0 dX5_restsOn_0 rfl rfl ?_
  refine z_get C fX5_restsOn_10 0 dX5_restsOn_1 rfl rfl ?_
  refine z_get C fX5_restsOn_38 1 dX5_restsOn_4 rfl rfl ?_
  refine z_iload_n C 1 dX5_restsOn_7 rfl rfl ?_
  refine z_callVr C kX0_isMade gX5_restsOn_X0_isMade (mX0_isMade_out X.2.1 (t 6) (t 7) (fA S) (mK S) x hx) dX5_restsOn_8 [7, 8] [] 7 rfl nd_7_8 rfl rfl rfl (by decide) (by decide) (Nat.le_of_ble_eq_true rfl) rfl ?_
  refine z_bif_eq_t C 28 dX5_restsOn_11 (by decide) rfl ?_
  refine z_iconst C (-1) dX5_restsOn_28 (by decide) ?_
  exact z_iret C N dX5_restsOn_29 (rfl) (rfl)

set_option maxHeartbeats 4000000 in
set_option maxRecDepth 100000 in
theorem mX5_restsOn_b2 (E : zE) (x0 h0 w0 : Nat) (t : Nat → Nat) (S : zSt) (x : Nat) (y : Int32) (hS : okS S) (hx : x < mK S) (hy : y < 0 ∨ (¬ y < 0 ∧ nI (mK S) ≤ y)) : zM E yX5_restsOn wsX5_restsOn 5 [.ref x0, .int (nI x), .int y] [(x0, .inr (5, [.ref (t 0), .ref h0, .ref w0])), ((t 0), .inr (4, [.ref (t 1), .ref (t 3), .ref (t 5), .ref (t 6), .int (zb (tK S))])), ((t 1), .inr (2, [.ref (t 2), .int (nI (rU S))])), ((t 2), .inl (E.2.2.1, 12, .inl (rO S))), ((t 3), .inr (2, [.ref (t 4), .int (nI (cU S))])), ((t 4), .inl (E.2.2.1, 8, .inl (cO S))), ((t 5), .inl (E.2.2.1, 96, .inl (bS S))), ((t 6), .inr (0, [.ref (t 7), .int (nI (mK S))])), ((t 7), .inl (E.2.2.1, 360, .inl (fA S)))] [(x0, .inr (5, [.ref (t 0), .ref h0, .ref w0])), ((t 0), .inr (4, [.ref (t 1), .ref (t 3), .ref (t 5), .ref (t 6), .int (zb (tK S))])), ((t 1), .inr (2, [.ref (t 2), .int (nI (rU S))])), ((t 2), .inl (E.2.2.1, 12, .inl (rO S))), ((t 3), .inr (2, [.ref (t 4), .int (nI (cU S))])), ((t 4), .inl (E.2.2.1, 8, .inl (cO S))), ((t 5), .inl (E.2.2.1, 96, .inl (bS S))), ((t 6), .inr (0, [.ref (t 7), .int (nI (mK S))])), ((t 7), .inl (E.2.2.1, 360, .inl (fA S)))] (some (.int (-1))) := by
  refine zM.of kX5_restsOn (Nat.le_of_ble_eq_true rfl) rfl [some (.ref x0), some (.int (nI x)), some (.int y)] rfl (Nat.le_of_ble_eq_true rfl) ?_
  intro X eX C N
  subst eX
  obtain ⟨hur, huc, hM⟩ := id hS
  refine z_aload_n C 0 dX5_restsOn_0 rfl rfl ?_
  refine z_get C fX5_restsOn_10 0 dX5_restsOn_1 rfl rfl ?_
  refine z_get C fX5_restsOn_38 1 dX5_restsOn_4 rfl rfl ?_
  refine z_iload_n C 1 dX5_restsOn_7 rfl rfl ?_
  refine z_callVr C kX0_isMade gX5_restsOn_X0_isMade (mX0_isMade_in X.2.1 (t 6) (t 7) (fA S) (mK S) x hM hx) dX5_restsOn_8 [7, 8] [] 7 rfl nd_7_8 rfl rfl rfl (by decide) (by decide) (Nat.le_of_ble_eq_true rfl) rfl ?_
  refine z_bif_eq_f C 28 dX5_restsOn_11 (by decide) rfl ?_
  refine z_aload_n C 0 dX5_restsOn_14 rfl rfl ?_
  refine z_get C fX5_restsOn_10 0 dX5_restsOn_15 rfl rfl ?_
  refine z_get C fX5_restsOn_38 1 dX5_restsOn_18 rfl rfl ?_
  refine z_iload_n C 2 dX5_restsOn_21 rfl rfl ?_
  refine z_callVr C kX0_isMade gX5_restsOn_X0_isMade (mX0_isMade_out X.2.1 (t 6) (t 7) (fA S) (mK S) y hy) dX5_restsOn_22 [7, 8] [] 7 rfl nd_7_8 rfl rfl rfl (by decide) (by decide) (Nat.le_of_ble_eq_true rfl) rfl ?_
  refine z_bif_ne_f C 30 dX5_restsOn_25 (by decide) rfl ?_
  refine z_iconst C (-1) dX5_restsOn_28 (by decide) ?_
  exact z_iret C N dX5_restsOn_29 (rfl) (rfl)

set_option maxHeartbeats 4000000 in
set_option maxRecDepth 100000 in
theorem mX5_restsOn_e (E : zE) (x0 h0 w0 : Nat) (t : Nat → Nat) (S : zSt) (x : Nat) (hS : okS S) (hx : x < mK S) : zM E yX5_restsOn wsX5_restsOn 5 [.ref x0, .int (nI x), .int (nI x)] [(x0, .inr (5, [.ref (t 0), .ref h0, .ref w0])), ((t 0), .inr (4, [.ref (t 1), .ref (t 3), .ref (t 5), .ref (t 6), .int (zb (tK S))])), ((t 1), .inr (2, [.ref (t 2), .int (nI (rU S))])), ((t 2), .inl (E.2.2.1, 12, .inl (rO S))), ((t 3), .inr (2, [.ref (t 4), .int (nI (cU S))])), ((t 4), .inl (E.2.2.1, 8, .inl (cO S))), ((t 5), .inl (E.2.2.1, 96, .inl (bS S))), ((t 6), .inr (0, [.ref (t 7), .int (nI (mK S))])), ((t 7), .inl (E.2.2.1, 360, .inl (fA S)))] [(x0, .inr (5, [.ref (t 0), .ref h0, .ref w0])), ((t 0), .inr (4, [.ref (t 1), .ref (t 3), .ref (t 5), .ref (t 6), .int (zb (tK S))])), ((t 1), .inr (2, [.ref (t 2), .int (nI (rU S))])), ((t 2), .inl (E.2.2.1, 12, .inl (rO S))), ((t 3), .inr (2, [.ref (t 4), .int (nI (cU S))])), ((t 4), .inl (E.2.2.1, 8, .inl (cO S))), ((t 5), .inl (E.2.2.1, 96, .inl (bS S))), ((t 6), .inr (0, [.ref (t 7), .int (nI (mK S))])), ((t 7), .inl (E.2.2.1, 360, .inl (fA S)))] (some (.int (-2))) := by
  refine zM.of kX5_restsOn (Nat.le_of_ble_eq_true rfl) rfl [some (.ref x0), some (.int (nI x)), some (.int (nI x))] rfl (Nat.le_of_ble_eq_true rfl) ?_
  intro X eX C N
  subst eX
  obtain ⟨hur, huc, hM⟩ := id hS
  refine z_aload_n C 0 dX5_restsOn_0 rfl rfl ?_
  refine z_get C fX5_restsOn_10 0 dX5_restsOn_1 rfl rfl ?_
  refine z_get C fX5_restsOn_38 1 dX5_restsOn_4 rfl rfl ?_
  refine z_iload_n C 1 dX5_restsOn_7 rfl rfl ?_
  refine z_callVr C kX0_isMade gX5_restsOn_X0_isMade (mX0_isMade_in X.2.1 (t 6) (t 7) (fA S) (mK S) x hM hx) dX5_restsOn_8 [7, 8] [] 7 rfl nd_7_8 rfl rfl rfl (by decide) (by decide) (Nat.le_of_ble_eq_true rfl) rfl ?_
  refine z_bif_eq_f C 28 dX5_restsOn_11 (by decide) rfl ?_
  refine z_aload_n C 0 dX5_restsOn_14 rfl rfl ?_
  refine z_get C fX5_restsOn_10 0 dX5_restsOn_15 rfl rfl ?_
  refine z_get C fX5_restsOn_38 1 dX5_restsOn_18 rfl rfl ?_
  refine z_iload_n C 2 dX5_restsOn_21 rfl rfl ?_
  refine z_callVr C kX0_isMade gX5_restsOn_X0_isMade (mX0_isMade_in X.2.1 (t 6) (t 7) (fA S) (mK S) x hM hx) dX5_restsOn_22 [7, 8] [] 7 rfl nd_7_8 rfl rfl rfl (by decide) (by decide) (Nat.le_of_ble_eq_true rfl) rfl ?_
  refine z_bif_ne_t C 30 dX5_restsOn_25 (by decide) rfl ?_
  refine z_iload_n C 1 dX5_restsOn_30 rfl rfl ?_
  refine z_iload_n C 2 dX5_restsOn_31 rfl rfl ?_
  refine z_ncmp_ne_f C 38 dX5_restsOn_32 (by decide) (by omega) (by omega) (by omega) ?_
  refine z_bipush C (-2) dX5_restsOn_35 (by decide) ?_
  exact z_iret C N dX5_restsOn_37 (rfl) (rfl)

set_option maxHeartbeats 4000000 in
set_option maxRecDepth 100000 in
theorem mX5_restsOn (E : zE) (x0 h0 w0 : Nat) (t : Nat → Nat) (S : zSt) (x y : Nat) (hS : okS S) (hx : x < mK S) (hy : y < mK S) (hne : x ≠ y) : zM E yX5_restsOn wsX5_restsOn 5 [.ref x0, .int (nI x), .int (nI y)] [(x0, .inr (5, [.ref (t 0), .ref h0, .ref w0])), ((t 0), .inr (4, [.ref (t 1), .ref (t 3), .ref (t 5), .ref (t 6), .int (zb (tK S))])), ((t 1), .inr (2, [.ref (t 2), .int (nI (rU S))])), ((t 2), .inl (E.2.2.1, 12, .inl (rO S))), ((t 3), .inr (2, [.ref (t 4), .int (nI (cU S))])), ((t 4), .inl (E.2.2.1, 8, .inl (cO S))), ((t 5), .inl (E.2.2.1, 96, .inl (bS S))), ((t 6), .inr (0, [.ref (t 7), .int (nI (mK S))])), ((t 7), .inl (E.2.2.1, 360, .inl (fA S)))] [(x0, .inr (5, [.ref (t 0), .ref h0, .ref w0])), ((t 0), .inr (4, [.ref (t 1), .ref (t 3), .ref (t 5), .ref (t 6), .int (zb (tK S))])), ((t 1), .inr (2, [.ref (t 2), .int (nI (rU S))])), ((t 2), .inl (E.2.2.1, 12, .inl (rO S))), ((t 3), .inr (2, [.ref (t 4), .int (nI (cU S))])), ((t 4), .inl (E.2.2.1, 8, .inl (cO S))), ((t 5), .inl (E.2.2.1, 96, .inl (bS S))), ((t 6), .inr (0, [.ref (t 7), .int (nI (mK S))])), ((t 7), .inl (E.2.2.1, 360, .inl (fA S)))] (some (.int (zb (zrs (fA S) x y)))) := by
  refine zM.of kX5_restsOn (Nat.le_of_ble_eq_true rfl) rfl [some (.ref x0), some (.int (nI x)), some (.int (nI y))] rfl (Nat.le_of_ble_eq_true rfl) ?_
  intro X eX C N
  subst eX
  obtain ⟨hur, huc, hM⟩ := id hS
  refine z_aload_n C 0 dX5_restsOn_0 rfl rfl ?_
  refine z_get C fX5_restsOn_10 0 dX5_restsOn_1 rfl rfl ?_
  refine z_get C fX5_restsOn_38 1 dX5_restsOn_4 rfl rfl ?_
  refine z_iload_n C 1 dX5_restsOn_7 rfl rfl ?_
  refine z_callVr C kX0_isMade gX5_restsOn_X0_isMade (mX0_isMade_in X.2.1 (t 6) (t 7) (fA S) (mK S) x hM hx) dX5_restsOn_8 [7, 8] [] 7 rfl nd_7_8 rfl rfl rfl (by decide) (by decide) (Nat.le_of_ble_eq_true rfl) rfl ?_
  refine z_bif_eq_f C 28 dX5_restsOn_11 (by decide) rfl ?_
  refine z_aload_n C 0 dX5_restsOn_14 rfl rfl ?_
  refine z_get C fX5_restsOn_10 0 dX5_restsOn_15 rfl rfl ?_
  refine z_get C fX5_restsOn_38 1 dX5_restsOn_18 rfl rfl ?_
  refine z_iload_n C 2 dX5_restsOn_21 rfl rfl ?_
  refine z_callVr C kX0_isMade gX5_restsOn_X0_isMade (mX0_isMade_in X.2.1 (t 6) (t 7) (fA S) (mK S) y hM hy) dX5_restsOn_22 [7, 8] [] 7 rfl nd_7_8 rfl rfl rfl (by decide) (by decide) (Nat.le_of_ble_eq_true rfl) rfl ?_
  refine z_bif_ne_t C 30 dX5_restsOn_25 (by decide) rfl ?_
  refine z_iload_n C 1 dX5_restsOn_30 rfl rfl ?_
  refine z_iload_n C 2 dX5_restsOn_31 rfl rfl ?_
  refine z_ncmp_ne_t C 38 dX5_restsOn_32 (by decide) (by omega) (by omega) (by omega) ?_
  refine z_aload_n C 0 dX5_restsOn_38 rfl rfl ?_
  refine z_get C fX5_restsOn_10 0 dX5_restsOn_39 rfl rfl ?_
  refine z_get C fX5_restsOn_38 1 dX5_restsOn_42 rfl rfl ?_
  refine z_iload_n C 1 dX5_restsOn_45 rfl rfl ?_
  refine z_iload_n C 2 dX5_restsOn_46 rfl rfl ?_
  refine z_callVr C kX0_rests gX5_restsOn_X0_rests (mX0_rests X.2.1 (t 6) (t 7) (fA S) (mK S) x y hM hx hy) dX5_restsOn_47 [7, 8] [] 7 rfl nd_7_8 rfl rfl rfl (by decide) (by decide) (Nat.le_of_ble_eq_true rfl) rfl ?_
  refine z_bif_eq C 57 dX5_restsOn_50 (by decide) (fun h_1 => ?_) (fun h_1 => ?_)
  · refine z_iconst C (nI 0) dX5_restsOn_57 (by decide) ?_
    exact z_iret C N dX5_restsOn_58 (rfl) (congrArg (fun x => some (Value.int x)) (zb_f (by simp [rIn, rRm, cIn, cRm, rSh, cSh, nI_eq, zz_0, zz_0s, h_1])).symm)
  · refine z_iconst C (nI 1) dX5_restsOn_53 (by decide) ?_
    refine z_goto C 58 dX5_restsOn_54 (by decide) ?_
    exact z_iret C N dX5_restsOn_58 (rfl) (congrArg (fun x => some (Value.int x)) (zb_t (by simp [rIn, rRm, cIn, cRm, rSh, cSh, nI_eq, zz_0, zz_0s, h_1])).symm)

theorem kX5_pending : zY yX5_pending wsX5_pending cX5_pending 2 (some .int) 1 := ⟨⟨_, rfl⟩, ⟨by decide +kernel, by decide +kernel, by decide +kernel⟩, by decide +kernel⟩
set_option maxHeartbeats 4000000 in
set_option maxRecDepth 100000 in
theorem mX5_pending_b (E : zE) (x0 h0 w0 : Nat) (t : Nat → Nat) (S : zSt) (x : Int32) (hS : okS S) (hx : x < 0) : zM E yX5_pending wsX5_pending 5 [.ref x0, .int x] [(x0, .inr (5, [.ref (t 0), .ref h0, .ref w0])), ((t 0), .inr (4, [.ref (t 1), .ref (t 3), .ref (t 5), .ref (t 6), .int (zb (tK S))])), ((t 1), .inr (2, [.ref (t 2), .int (nI (rU S))])), ((t 2), .inl (E.2.2.1, 12, .inl (rO S))), ((t 3), .inr (2, [.ref (t 4), .int (nI (cU S))])), ((t 4), .inl (E.2.2.1, 8, .inl (cO S))), ((t 5), .inl (E.2.2.1, 96, .inl (bS S))), ((t 6), .inr (0, [.ref (t 7), .int (nI (mK S))])), ((t 7), .inl (E.2.2.1, 360, .inl (fA S)))] [(x0, .inr (5, [.ref (t 0), .ref h0, .ref w0])), ((t 0), .inr (4, [.ref (t 1), .ref (t 3), .ref (t 5), .ref (t 6), .int (zb (tK S))])), ((t 1), .inr (2, [.ref (t 2), .int (nI (rU S))])), ((t 2), .inl (E.2.2.1, 12, .inl (rO S))), ((t 3), .inr (2, [.ref (t 4), .int (nI (cU S))])), ((t 4), .inl (E.2.2.1, 8, .inl (cO S))), ((t 5), .inl (E.2.2.1, 96, .inl (bS S))), ((t 6), .inr (0, [.ref (t 7), .int (nI (mK S))])), ((t 7), .inl (E.2.2.1, 360, .inl (fA S)))] (some (.int (-2))) := by
  refine zM.of kX5_pending (Nat.le_of_ble_eq_true rfl) rfl [some (.ref x0), some (.int x)] rfl (Nat.le_of_ble_eq_true rfl) ?_
  intro X eX C N
  subst eX
  obtain ⟨hur, huc, hM⟩ := id hS
  refine z_iload_n C 1 dX5_pending_0 rfl rfl ?_
  refine z_if_ge_f C 7 dX5_pending_1 (by decide) (Int32.not_le.mpr hx) ?_
  refine z_bipush C (-2) dX5_pending_4 (by decide) ?_
  exact z_iret C N dX5_pending_6 (rfl) (rfl)

theorem fX5_pending_10 : zF wsX5_pending RX5 10 5 0 RX5 TX5 3 := ⟨by decide +kernel, rfl, by decide, by decide +kernel, rfl⟩
set_option maxHeartbeats 4000000 in
set_option maxRecDepth 100000 in
theorem mX5_pending (E : zE) (x0 h0 w0 : Nat) (t : Nat → Nat) (S : zSt) (x : Nat) (hS : okS S) (hx : x < 2147483648) : zM E yX5_pending wsX5_pending 5 [.ref x0, .int (nI x)] [(x0, .inr (5, [.ref (t 0), .ref h0, .ref w0])), ((t 0), .inr (4, [.ref (t 1), .ref (t 3), .ref (t 5), .ref (t 6), .int (zb (tK S))])), ((t 1), .inr (2, [.ref (t 2), .int (nI (rU S))])), ((t 2), .inl (E.2.2.1, 12, .inl (rO S))), ((t 3), .inr (2, [.ref (t 4), .int (nI (cU S))])), ((t 4), .inl (E.2.2.1, 8, .inl (cO S))), ((t 5), .inl (E.2.2.1, 96, .inl (bS S))), ((t 6), .inr (0, [.ref (t 7), .int (nI (mK S))])), ((t 7), .inl (E.2.2.1, 360, .inl (fA S)))] [(x0, .inr (5, [.ref (t 0), .ref h0, .ref w0])), ((t 0), .inr (4, [.ref (t 1), .ref (t 3), .ref (t 5), .ref (t 6), .int (zb (tK S))])), ((t 1), .inr (2, [.ref (t 2), .int (nI (rU S))])), ((t 2), .inl (E.2.2.1, 12, .inl (rO S))), ((t 3), .inr (2, [.ref (t 4), .int (nI (cU S))])), ((t 4), .inl (E.2.2.1, 8, .inl (cO S))), ((t 5), .inl (E.2.2.1, 96, .inl (bS S))), ((t 6), .inr (0, [.ref (t 7), .int (nI (mK S))])), ((t 7), .inl (E.2.2.1, 360, .inl (fA S)))] (some (.int (zPd S x))) := by
  refine zM.of kX5_pending (Nat.le_of_ble_eq_true rfl) rfl [some (.ref x0), some (.int (nI x))] rfl (Nat.le_of_ble_eq_true rfl) ?_
  intro X eX C N
  subst eX
  obtain ⟨hur, huc, hM⟩ := id hS
  refine z_iload_n C 1 dX5_pending_0 rfl rfl ?_
  refine z_nif_ge_t C 7 dX5_pending_1 (by decide) (by omega) (by trivial) ?_
  refine z_aload_n C 0 dX5_pending_7 rfl rfl ?_
  refine z_get C fX5_pending_10 0 dX5_pending_8 rfl rfl ?_
  refine z_iload_n C 1 dX5_pending_11 rfl rfl ?_
  refine z_callVr C kX4_pendingInReadingOrder gX5_pending_X4_pendingInReadingOrder (mX4_pendingInReadingOrder X.2.1 t S x hS hx) dX5_pending_12 [1, 2, 3, 4, 5, 6, 7, 8] [] 1 rfl nd_1_2_3_4_5_6_7_8 rfl rfl rfl (by decide) (by decide) (Nat.le_of_ble_eq_true rfl) rfl ?_
  exact z_iret C N dX5_pending_15 (rfl) (rfl)

theorem kX5_author : zY yX5_author wsX5_author cX5_author 3 (some .int) 2 := ⟨⟨_, rfl⟩, ⟨by decide +kernel, by decide +kernel, by decide +kernel⟩, by decide +kernel⟩
set_option maxHeartbeats 4000000 in
set_option maxRecDepth 100000 in
theorem mX5_author_b (E : zE) (x0 h0 w0 : Nat) (t : Nat → Nat) (S : zSt) (au stt : Int32) (hS : okS S) (hx : au < 0 ∨ (¬ au < 0 ∧ nI 4 ≤ au)) : zM E yX5_author wsX5_author 5 [.ref x0, .int au, .int stt] [(x0, .inr (5, [.ref (t 0), .ref h0, .ref w0])), ((t 0), .inr (4, [.ref (t 1), .ref (t 3), .ref (t 5), .ref (t 6), .int (zb (tK S))])), ((t 1), .inr (2, [.ref (t 2), .int (nI (rU S))])), ((t 2), .inl (E.2.2.1, 12, .inl (rO S))), ((t 3), .inr (2, [.ref (t 4), .int (nI (cU S))])), ((t 4), .inl (E.2.2.1, 8, .inl (cO S))), ((t 5), .inl (E.2.2.1, 96, .inl (bS S))), ((t 6), .inr (0, [.ref (t 7), .int (nI (mK S))])), ((t 7), .inl (E.2.2.1, 360, .inl (fA S)))] [(x0, .inr (5, [.ref (t 0), .ref h0, .ref w0])), ((t 0), .inr (4, [.ref (t 1), .ref (t 3), .ref (t 5), .ref (t 6), .int (zb (tK S))])), ((t 1), .inr (2, [.ref (t 2), .int (nI (rU S))])), ((t 2), .inl (E.2.2.1, 12, .inl (rO S))), ((t 3), .inr (2, [.ref (t 4), .int (nI (cU S))])), ((t 4), .inl (E.2.2.1, 8, .inl (cO S))), ((t 5), .inl (E.2.2.1, 96, .inl (bS S))), ((t 6), .inr (0, [.ref (t 7), .int (nI (mK S))])), ((t 7), .inl (E.2.2.1, 360, .inl (fA S)))] (some (.int (-1))) := by
  refine zM.of kX5_author (Nat.le_of_ble_eq_true rfl) rfl [some (.ref x0), some (.int au), some (.int stt)] rfl (Nat.le_of_ble_eq_true rfl) ?_
  intro X eX C N
  subst eX
  obtain ⟨hur, huc, hM⟩ := id hS
  refine z_iload_n C 1 dX5_author_0 rfl rfl ?_
  refine z_callS C kX5_isAuthor gX5_author_X5_isAuthor (mX5_isAuthor_bad X.2.1 au hx) dX5_author_1 [] rfl (by decide) (by decide) (Nat.le_of_ble_eq_true rfl) rfl ?_
  refine z_bif_ne_f C 9 dX5_author_4 (by decide) rfl ?_
  refine z_iconst C (-1) dX5_author_7 (by decide) ?_
  exact z_iret C N dX5_author_8 (rfl) (rfl)

theorem fX5_author_10 : zF wsX5_author RX5 10 5 0 RX5 TX5 3 := ⟨by decide +kernel, rfl, by decide, by decide +kernel, rfl⟩
theorem fX5_author_38 : zF wsX5_author RX5 38 4 3 RX4 TX4 5 := ⟨by decide +kernel, rfl, by decide, by decide +kernel, rfl⟩
set_option maxHeartbeats 4000000 in
set_option maxRecDepth 100000 in
theorem mX5_author (E : zE) (x0 h0 w0 : Nat) (t : Nat → Nat) (S : zSt) (au : Nat) (stt : Int32) (hS : okS S) (hau : au < 4) : zM E yX5_author wsX5_author 5 [.ref x0, .int (nI au), .int stt] [(x0, .inr (5, [.ref (t 0), .ref h0, .ref w0])), ((t 0), .inr (4, [.ref (t 1), .ref (t 3), .ref (t 5), .ref (t 6), .int (zb (tK S))])), ((t 1), .inr (2, [.ref (t 2), .int (nI (rU S))])), ((t 2), .inl (E.2.2.1, 12, .inl (rO S))), ((t 3), .inr (2, [.ref (t 4), .int (nI (cU S))])), ((t 4), .inl (E.2.2.1, 8, .inl (cO S))), ((t 5), .inl (E.2.2.1, 96, .inl (bS S))), ((t 6), .inr (0, [.ref (t 7), .int (nI (mK S))])), ((t 7), .inl (E.2.2.1, 360, .inl (fA S)))] [(x0, .inr (5, [.ref (t 0), .ref h0, .ref w0])), ((t 0), .inr (4, [.ref (t 1), .ref (t 3), .ref (t 5), .ref (t 6), .int (zb (tK S))])), ((t 1), .inr (2, [.ref (t 2), .int (nI (rU S))])), ((t 2), .inl (E.2.2.1, 12, .inl (rO S))), ((t 3), .inr (2, [.ref (t 4), .int (nI (cU S))])), ((t 4), .inl (E.2.2.1, 8, .inl (cO S))), ((t 5), .inl (E.2.2.1, 96, .inl (bS S))), ((t 6), .inr (0, [.ref (t 7), .int (nI (mK S))])), ((t 7), .inl (E.2.2.1, 360, .inl (fA S)))] (some (.int (zAut S au stt))) := by
  refine zM.of kX5_author (Nat.le_of_ble_eq_true rfl) rfl [some (.ref x0), some (.int (nI au)), some (.int stt)] rfl (Nat.le_of_ble_eq_true rfl) ?_
  intro X eX C N
  subst eX
  obtain ⟨hur, huc, hM⟩ := id hS
  refine z_iload_n C 1 dX5_author_0 rfl rfl ?_
  refine z_callS C kX5_isAuthor gX5_author_X5_isAuthor (mX5_isAuthor_in X.2.1 au hau) dX5_author_1 [] rfl (by decide) (by decide) (Nat.le_of_ble_eq_true rfl) rfl ?_
  refine z_bif_ne_t C 9 dX5_author_4 (by decide) rfl ?_
  refine z_iload_n C 2 dX5_author_9 rfl rfl ?_
  refine z_if_lt C 18 dX5_author_10 (by decide) (fun h_1 => ?_) (fun h_1 => ?_)
  · refine z_bipush C (-2) dX5_author_18 (by decide) ?_
    exact z_iret C N dX5_author_20 (rfl) (by unfold zAut; (repeat (first | rw [if_pos (by (first | assumption | exact Int32.not_lt.mpr (by assumption) | exact Int32.not_le.mp (by assumption)))] | rw [if_neg (by (first | assumption | exact Int32.not_lt.mpr (by assumption) | exact Int32.not_le.mp (by assumption)))])) <;> (first | rfl | (simp only [h_1]; rfl)))
  · refine z_iload_n C 2 dX5_author_13 rfl rfl ?_
    refine z_iconst C (nI 3) dX5_author_14 (by decide) ?_
    refine z_icmp_le C 21 dX5_author_15 (by decide) (fun h_2 => ?_) (fun h_2 => ?_)
    · refine z_aload_n C 0 dX5_author_21 rfl rfl ?_
      refine z_get C fX5_author_10 0 dX5_author_22 rfl rfl ?_
      refine z_get C fX5_author_38 1 dX5_author_25 rfl rfl ?_
      refine z_iload_n C 1 dX5_author_28 rfl rfl ?_
      refine z_iload_n C 2 dX5_author_29 rfl rfl ?_
      refine z_callVr C kX0_inState gX5_author_X0_inState (mX0_inState X.2.1 (t 6) (t 7) (fA S) (mK S) (nI au) stt hM) dX5_author_30 [7, 8] [] 7 rfl nd_7_8 rfl rfl rfl (by decide) (by decide) (Nat.le_of_ble_eq_true rfl) rfl ?_
      exact z_iret C N dX5_author_33 (rfl) (by unfold zAut; (repeat (first | rw [if_pos (by (first | assumption | exact Int32.not_lt.mpr (by assumption) | exact Int32.not_le.mp (by assumption)))] | rw [if_neg (by (first | assumption | exact Int32.not_lt.mpr (by assumption) | exact Int32.not_le.mp (by assumption)))])) <;> (first | rfl | (simp only [Int32.not_lt.mp h_1, h_1, h_2]; rfl)))
    · refine z_bipush C (-2) dX5_author_18 (by decide) ?_
      exact z_iret C N dX5_author_20 (rfl) (by unfold zAut; (repeat (first | rw [if_pos (by (first | assumption | exact Int32.not_lt.mpr (by assumption) | exact Int32.not_le.mp (by assumption)))] | rw [if_neg (by (first | assumption | exact Int32.not_lt.mpr (by assumption) | exact Int32.not_le.mp (by assumption)))])) <;> (first | rfl | (simp only [Int32.not_lt.mp h_1, h_1, Int32.not_le.mp h_2, h_2]; rfl)))

theorem kX5_sum : zY yX5_sum wsX5_sum cX5_sum 2 (some .int) 1 := ⟨⟨_, rfl⟩, ⟨by decide +kernel, by decide +kernel, by decide +kernel⟩, by decide +kernel⟩
set_option maxHeartbeats 4000000 in
set_option maxRecDepth 100000 in
theorem mX5_sum_b (E : zE) (x0 h0 w0 : Nat) (t : Nat → Nat) (S : zSt) (v : Int32) (hS : okS S) (hx : v < 0 ∨ (¬ v < 0 ∧ nI 2 < v)) : zM E yX5_sum wsX5_sum 6 [.ref x0, .int v] [(x0, .inr (5, [.ref (t 0), .ref h0, .ref w0])), ((t 0), .inr (4, [.ref (t 1), .ref (t 3), .ref (t 5), .ref (t 6), .int (zb (tK S))])), ((t 1), .inr (2, [.ref (t 2), .int (nI (rU S))])), ((t 2), .inl (E.2.2.1, 12, .inl (rO S))), ((t 3), .inr (2, [.ref (t 4), .int (nI (cU S))])), ((t 4), .inl (E.2.2.1, 8, .inl (cO S))), ((t 5), .inl (E.2.2.1, 96, .inl (bS S))), ((t 6), .inr (0, [.ref (t 7), .int (nI (mK S))])), ((t 7), .inl (E.2.2.1, 360, .inl (fA S)))] [(x0, .inr (5, [.ref (t 0), .ref h0, .ref w0])), ((t 0), .inr (4, [.ref (t 1), .ref (t 3), .ref (t 5), .ref (t 6), .int (zb (tK S))])), ((t 1), .inr (2, [.ref (t 2), .int (nI (rU S))])), ((t 2), .inl (E.2.2.1, 12, .inl (rO S))), ((t 3), .inr (2, [.ref (t 4), .int (nI (cU S))])), ((t 4), .inl (E.2.2.1, 8, .inl (cO S))), ((t 5), .inl (E.2.2.1, 96, .inl (bS S))), ((t 6), .inr (0, [.ref (t 7), .int (nI (mK S))])), ((t 7), .inl (E.2.2.1, 360, .inl (fA S)))] (some (.int (-1))) := by
  refine zM.of kX5_sum (Nat.le_of_ble_eq_true rfl) rfl [some (.ref x0), some (.int v)] rfl (Nat.le_of_ble_eq_true rfl) ?_
  intro X eX C N
  subst eX
  obtain ⟨hur, huc, hM⟩ := id hS
  refine z_iload_n C 1 dX5_sum_0 rfl rfl ?_
  refine z_callS C kX5_isView gX5_sum_X5_isView (mX5_isView_bad X.2.1 v hx) dX5_sum_1 [] rfl (by decide) (by decide) (Nat.le_of_ble_eq_true rfl) rfl ?_
  refine z_bif_ne_f C 9 dX5_sum_4 (by decide) rfl ?_
  refine z_iconst C (-1) dX5_sum_7 (by decide) ?_
  exact z_iret C N dX5_sum_8 (rfl) (rfl)

theorem fX5_sum_10 : zF wsX5_sum RX5 10 5 0 RX5 TX5 3 := ⟨by decide +kernel, rfl, by decide, by decide +kernel, rfl⟩
set_option maxHeartbeats 4000000 in
set_option maxRecDepth 100000 in
theorem mX5_sum (E : zE) (x0 h0 w0 : Nat) (t : Nat → Nat) (S : zSt) (v : Nat) (hS : okS S) (hv : v < 3) : zM E yX5_sum wsX5_sum 6 [.ref x0, .int (nI v)] [(x0, .inr (5, [.ref (t 0), .ref h0, .ref w0])), ((t 0), .inr (4, [.ref (t 1), .ref (t 3), .ref (t 5), .ref (t 6), .int (zb (tK S))])), ((t 1), .inr (2, [.ref (t 2), .int (nI (rU S))])), ((t 2), .inl (E.2.2.1, 12, .inl (rO S))), ((t 3), .inr (2, [.ref (t 4), .int (nI (cU S))])), ((t 4), .inl (E.2.2.1, 8, .inl (cO S))), ((t 5), .inl (E.2.2.1, 96, .inl (bS S))), ((t 6), .inr (0, [.ref (t 7), .int (nI (mK S))])), ((t 7), .inl (E.2.2.1, 360, .inl (fA S)))] [(x0, .inr (5, [.ref (t 0), .ref h0, .ref w0])), ((t 0), .inr (4, [.ref (t 1), .ref (t 3), .ref (t 5), .ref (t 6), .int (zb (tK S))])), ((t 1), .inr (2, [.ref (t 2), .int (nI (rU S))])), ((t 2), .inl (E.2.2.1, 12, .inl (rO S))), ((t 3), .inr (2, [.ref (t 4), .int (nI (cU S))])), ((t 4), .inl (E.2.2.1, 8, .inl (cO S))), ((t 5), .inl (E.2.2.1, 96, .inl (bS S))), ((t 6), .inr (0, [.ref (t 7), .int (nI (mK S))])), ((t 7), .inl (E.2.2.1, 360, .inl (fA S)))] (some (.int (zTot (bS S) (fA S) (mK S) (nI v) (rO S) (rU S) (cO S) (cU S)))) := by
  refine zM.of kX5_sum (Nat.le_of_ble_eq_true rfl) rfl [some (.ref x0), some (.int (nI v))] rfl (Nat.le_of_ble_eq_true rfl) ?_
  intro X eX C N
  subst eX
  obtain ⟨hur, huc, hM⟩ := id hS
  refine z_iload_n C 1 dX5_sum_0 rfl rfl ?_
  refine z_callS C kX5_isView gX5_sum_X5_isView (mX5_isView_in X.2.1 v hv) dX5_sum_1 [] rfl (by decide) (by decide) (Nat.le_of_ble_eq_true rfl) rfl ?_
  refine z_bif_ne_t C 9 dX5_sum_4 (by decide) rfl ?_
  refine z_aload_n C 0 dX5_sum_9 rfl rfl ?_
  refine z_get C fX5_sum_10 0 dX5_sum_10 rfl rfl ?_
  refine z_iload_n C 1 dX5_sum_13 rfl rfl ?_
  refine z_callVr C kX4_total gX5_sum_X4_total (mX4_total X.2.1 t (rO S) (rU S) (cO S) (cU S) (bS S) (fA S) (mK S) (tK S) (nI v) hur huc hM) dX5_sum_14 [1, 2, 3, 4, 5, 6, 7, 8] [] 1 rfl nd_1_2_3_4_5_6_7_8 rfl rfl rfl (by decide) (by decide) (Nat.le_of_ble_eq_true rfl) rfl ?_
  exact z_iret C N dX5_sum_17 (rfl) (rfl)

theorem kX5_count : zY yX5_count wsX5_count cX5_count 3 (some .int) 1 := ⟨⟨_, rfl⟩, ⟨by decide +kernel, by decide +kernel, by decide +kernel⟩, by decide +kernel⟩
theorem fX5_count_10 : zF wsX5_count RX5 10 5 0 RX5 TX5 3 := ⟨by decide +kernel, rfl, by decide, by decide +kernel, rfl⟩
theorem fX5_count_38 : zF wsX5_count RX5 38 4 3 RX4 TX4 5 := ⟨by decide +kernel, rfl, by decide, by decide +kernel, rfl⟩
theorem fX5_count_169 : zF wsX5_count RX5 169 0 1 RX0 TX0 2 := ⟨by decide +kernel, rfl, by decide, by decide +kernel, rfl⟩
theorem fX5_count_30 : zF wsX5_count RX5 30 4 4 RX4 TX4 5 := ⟨by decide +kernel, rfl, by decide, by decide +kernel, rfl⟩
theorem fX5_count_19 : zF wsX5_count RX5 19 5 1 RX5 TX5 3 := ⟨by decide +kernel, rfl, by decide, by decide +kernel, rfl⟩
theorem fX5_count_175 : zF wsX5_count RX5 175 1 2 RX1 TX1 3 := ⟨by decide +kernel, rfl, by decide, by decide +kernel, rfl⟩
theorem fX5_count_26 : zF wsX5_count RX5 26 5 2 RX5 TX5 3 := ⟨by decide +kernel, rfl, by decide, by decide +kernel, rfl⟩
theorem fX5_count_87 : zF wsX5_count RX5 87 3 1 RX3 TX3 8 := ⟨by decide +kernel, rfl, by decide, by decide +kernel, rfl⟩
set_option maxHeartbeats 4000000 in
set_option maxRecDepth 100000 in
theorem mX5_count (E : zE) (x0 h0 h1 w0 w1 : Nat) (t : Nat → Nat) (S : zSt) (o kp : Nat) (tx : Nat → Nat) (ln : Nat) (s : zPs) (wh : Int32) (hS : okS S) : zM E yX5_count wsX5_count 5 [.ref x0, .int wh] [(x0, .inr (5, [.ref (t 0), .ref h0, .ref w0])), ((t 0), .inr (4, [.ref (t 1), .ref (t 3), .ref (t 5), .ref (t 6), .int (zb (tK S))])), ((t 1), .inr (2, [.ref (t 2), .int (nI (rU S))])), ((t 2), .inl (E.2.2.1, 12, .inl (rO S))), ((t 3), .inr (2, [.ref (t 4), .int (nI (cU S))])), ((t 4), .inl (E.2.2.1, 8, .inl (cO S))), ((t 5), .inl (E.2.2.1, 96, .inl (bS S))), ((t 6), .inr (0, [.ref (t 7), .int (nI (mK S))])), ((t 7), .inl (E.2.2.1, 360, .inl (fA S))), (h0, .inr (1, [.ref h1, .int (nI o), .int (nI kp)])), (w0, .inr (3, [.ref w1, .int (nI ln), .int (nI (oP s)), .int (oS s), .int (oA s), .int (oL s), .int (oC s), .int (oV s)]))] [(x0, .inr (5, [.ref (t 0), .ref h0, .ref w0])), ((t 0), .inr (4, [.ref (t 1), .ref (t 3), .ref (t 5), .ref (t 6), .int (zb (tK S))])), ((t 1), .inr (2, [.ref (t 2), .int (nI (rU S))])), ((t 2), .inl (E.2.2.1, 12, .inl (rO S))), ((t 3), .inr (2, [.ref (t 4), .int (nI (cU S))])), ((t 4), .inl (E.2.2.1, 8, .inl (cO S))), ((t 5), .inl (E.2.2.1, 96, .inl (bS S))), ((t 6), .inr (0, [.ref (t 7), .int (nI (mK S))])), ((t 7), .inl (E.2.2.1, 360, .inl (fA S))), (h0, .inr (1, [.ref h1, .int (nI o), .int (nI kp)])), (w0, .inr (3, [.ref w1, .int (nI ln), .int (nI (oP s)), .int (oS s), .int (oA s), .int (oL s), .int (oC s), .int (oV s)]))] (some (.int (zCt S kp ln wh))) := by
  refine zM.of kX5_count (Nat.le_of_ble_eq_true rfl) rfl [some (.ref x0), some (.int wh), none] rfl (Nat.le_of_ble_eq_true rfl) ?_
  intro X eX C N
  subst eX
  obtain ⟨hur, huc, hM⟩ := id hS
  refine z_aload_n C 0 dX5_count_0 rfl rfl ?_
  refine z_get C fX5_count_10 0 dX5_count_1 rfl rfl ?_
  refine z_get C fX5_count_38 1 dX5_count_4 rfl rfl ?_
  refine z_astore_n C 2 dX5_count_7 rfl (Nat.le_of_ble_eq_true rfl) ?_
  refine z_iload_n C 1 dX5_count_8 rfl rfl ?_
  by_cases hs_1 : wh = nI 0
  · refine z_tsAt C 0 68 dX5_count_9 (by rw [hs_1]; decide) (by decide) rfl (by decide) ?_
    refine z_aload_n C 2 dX5_count_68 rfl rfl ?_
    refine z_get C fX5_count_169 7 dX5_count_69 rfl rfl ?_
    exact z_iret C N dX5_count_72 (rfl) (by unfold zCt; (repeat (first | rw [if_pos (by (first | assumption | exact Int32.not_lt.mpr (by assumption) | exact Int32.not_le.mp (by assumption)))] | rw [if_neg (by (first | assumption | exact Int32.not_lt.mpr (by assumption) | exact Int32.not_le.mp (by assumption)))])) <;> (first | rfl | (simp only [hs_1]; rfl)))
  by_cases hs_2 : wh = nI 1
  · refine z_tsAt C 1 73 dX5_count_9 (by rw [hs_2]; decide) (by decide) rfl (by decide) ?_
    refine z_aload_n C 2 dX5_count_73 rfl rfl ?_
    refine z_iconst C (-1) dX5_count_74 (by decide) ?_
    refine z_iconst C (nI 0) dX5_count_75 (by decide) ?_
    refine z_callVr C kX0_inState gX5_count_X0_inState (mX0_inState X.2.1 (t 6) (t 7) (fA S) (mK S) (-1) (nI 0) hM) dX5_count_76 [7, 8] [] 7 rfl nd_7_8 rfl rfl rfl (by decide) (by decide) (Nat.le_of_ble_eq_true rfl) rfl ?_
    exact z_iret C N dX5_count_79 (rfl) (by unfold zCt; (repeat (first | rw [if_pos (by (first | assumption | exact Int32.not_lt.mpr (by assumption) | exact Int32.not_le.mp (by assumption)))] | rw [if_neg (by (first | assumption | exact Int32.not_lt.mpr (by assumption) | exact Int32.not_le.mp (by assumption)))])) <;> (first | rfl | (simp only [hs_1, hs_2]; rfl)))
  by_cases hs_3 : wh = nI 2
  · refine z_tsAt C 2 80 dX5_count_9 (by rw [hs_3]; decide) (by decide) rfl (by decide) ?_
    refine z_aload_n C 2 dX5_count_80 rfl rfl ?_
    refine z_iconst C (-1) dX5_count_81 (by decide) ?_
    refine z_iconst C (nI 1) dX5_count_82 (by decide) ?_
    refine z_callVr C kX0_inState gX5_count_X0_inState (mX0_inState X.2.1 (t 6) (t 7) (fA S) (mK S) (-1) (nI 1) hM) dX5_count_83 [7, 8] [] 7 rfl nd_7_8 rfl rfl rfl (by decide) (by decide) (Nat.le_of_ble_eq_true rfl) rfl ?_
    exact z_iret C N dX5_count_86 (rfl) (by unfold zCt; (repeat (first | rw [if_pos (by (first | assumption | exact Int32.not_lt.mpr (by assumption) | exact Int32.not_le.mp (by assumption)))] | rw [if_neg (by (first | assumption | exact Int32.not_lt.mpr (by assumption) | exact Int32.not_le.mp (by assumption)))])) <;> (first | rfl | (simp only [hs_1, hs_2, hs_3]; rfl)))
  by_cases hs_4 : wh = nI 3
  · refine z_tsAt C 3 87 dX5_count_9 (by rw [hs_4]; decide) (by decide) rfl (by decide) ?_
    refine z_aload_n C 2 dX5_count_87 rfl rfl ?_
    refine z_iconst C (-1) dX5_count_88 (by decide) ?_
    refine z_iconst C (nI 2) dX5_count_89 (by decide) ?_
    refine z_callVr C kX0_inState gX5_count_X0_inState (mX0_inState X.2.1 (t 6) (t 7) (fA S) (mK S) (-1) (nI 2) hM) dX5_count_90 [7, 8] [] 7 rfl nd_7_8 rfl rfl rfl (by decide) (by decide) (Nat.le_of_ble_eq_true rfl) rfl ?_
    exact z_iret C N dX5_count_93 (rfl) (by unfold zCt; (repeat (first | rw [if_pos (by (first | assumption | exact Int32.not_lt.mpr (by assumption) | exact Int32.not_le.mp (by assumption)))] | rw [if_neg (by (first | assumption | exact Int32.not_lt.mpr (by assumption) | exact Int32.not_le.mp (by assumption)))])) <;> (first | rfl | (simp only [hs_1, hs_2, hs_3, hs_4]; rfl)))
  by_cases hs_5 : wh = nI 4
  · refine z_tsAt C 4 94 dX5_count_9 (by rw [hs_5]; decide) (by decide) rfl (by decide) ?_
    refine z_aload_n C 2 dX5_count_94 rfl rfl ?_
    refine z_iconst C (-1) dX5_count_95 (by decide) ?_
    refine z_iconst C (nI 3) dX5_count_96 (by decide) ?_
    refine z_callVr C kX0_inState gX5_count_X0_inState (mX0_inState X.2.1 (t 6) (t 7) (fA S) (mK S) (-1) (nI 3) hM) dX5_count_97 [7, 8] [] 7 rfl nd_7_8 rfl rfl rfl (by decide) (by decide) (Nat.le_of_ble_eq_true rfl) rfl ?_
    exact z_iret C N dX5_count_100 (rfl) (by unfold zCt; (repeat (first | rw [if_pos (by (first | assumption | exact Int32.not_lt.mpr (by assumption) | exact Int32.not_le.mp (by assumption)))] | rw [if_neg (by (first | assumption | exact Int32.not_lt.mpr (by assumption) | exact Int32.not_le.mp (by assumption)))])) <;> (first | rfl | (simp only [hs_1, hs_2, hs_3, hs_4, hs_5]; rfl)))
  by_cases hs_6 : wh = nI 5
  · refine z_tsAt C 5 101 dX5_count_9 (by rw [hs_6]; decide) (by decide) rfl (by decide) ?_
    refine z_aload_n C 0 dX5_count_101 rfl rfl ?_
    refine z_get C fX5_count_10 0 dX5_count_102 rfl rfl ?_
    refine z_get C fX5_count_30 1 dX5_count_105 rfl rfl ?_
    refine z_bif_eq C 115 dX5_count_108 (by decide) (fun h_7 => ?_) (fun h_7 => ?_)
    · refine z_iconst C (nI 0) dX5_count_115 (by decide) ?_
      exact z_iret C N dX5_count_116 (rfl) (by unfold zCt; (repeat (first | rw [if_pos (by (first | assumption | exact Int32.not_lt.mpr (by assumption) | exact Int32.not_le.mp (by assumption)))] | rw [if_neg (by (first | assumption | exact Int32.not_lt.mpr (by assumption) | exact Int32.not_le.mp (by assumption)))])) <;> (first | rfl | (simp only [hs_1, hs_2, hs_3, hs_4, hs_5, hs_6, h_7]; rfl)))
    · refine z_iconst C (nI 1) dX5_count_111 (by decide) ?_
      refine z_goto C 116 dX5_count_112 (by decide) ?_
      exact z_iret C N dX5_count_116 (rfl) (by unfold zCt; (repeat (first | rw [if_pos (by (first | assumption | exact Int32.not_lt.mpr (by assumption) | exact Int32.not_le.mp (by assumption)))] | rw [if_neg (by (first | assumption | exact Int32.not_lt.mpr (by assumption) | exact Int32.not_le.mp (by assumption)))])) <;> (first | rfl | (simp only [hs_1, hs_2, hs_3, hs_4, hs_5, hs_6, h_7]; rfl)))
  by_cases hs_8 : wh = nI 6
  · refine z_tsAt C 6 117 dX5_count_9 (by rw [hs_8]; decide) (by decide) rfl (by decide) ?_
    refine z_aload_n C 2 dX5_count_117 rfl rfl ?_
    refine z_iconst C (nI 0) dX5_count_118 (by decide) ?_
    refine z_callVr C kX0_pendingOf gX5_count_X0_pendingOf (mX0_pendingOf X.2.1 (t 6) (t 7) (fA S) (mK S) (nI 0) hM) dX5_count_119 [7, 8] [] 7 rfl nd_7_8 rfl rfl rfl (by decide) (by decide) (Nat.le_of_ble_eq_true rfl) rfl ?_
    refine z_aload_n C 2 dX5_count_122 rfl rfl ?_
    refine z_iconst C (nI 2) dX5_count_123 (by decide) ?_
    refine z_callVr C kX0_pendingOf gX5_count_X0_pendingOf (mX0_pendingOf X.2.1 (t 6) (t 7) (fA S) (mK S) (nI 2) hM) dX5_count_124 [7, 8] [.int (nI (zc (pPO (fA S) (nI 0)) (mK S)))] 7 rfl nd_7_8 rfl rfl rfl (by decide) (by decide) (Nat.le_of_ble_eq_true rfl) rfl ?_
    refine z_iadd C dX5_count_127 ?_
    refine z_top (y := nI ((zc (pPO (fA S) (nI 0)) (mK S)) + (zc (pPO (fA S) (nI 2)) (mK S)))) (nI_add _ _) ?_
    exact z_iret C N dX5_count_128 (rfl) (by unfold zCt; (repeat (first | rw [if_pos (by (first | assumption | exact Int32.not_lt.mpr (by assumption) | exact Int32.not_le.mp (by assumption)))] | rw [if_neg (by (first | assumption | exact Int32.not_lt.mpr (by assumption) | exact Int32.not_le.mp (by assumption)))])) <;> (first | rfl | (simp only [hs_1, hs_2, hs_3, hs_4, hs_5, hs_6, hs_8]; rfl)))
  by_cases hs_9 : wh = nI 7
  · refine z_tsAt C 7 129 dX5_count_9 (by rw [hs_9]; decide) (by decide) rfl (by decide) ?_
    refine z_aload_n C 2 dX5_count_129 rfl rfl ?_
    refine z_iconst C (nI 1) dX5_count_130 (by decide) ?_
    refine z_callVr C kX0_pendingOf gX5_count_X0_pendingOf (mX0_pendingOf X.2.1 (t 6) (t 7) (fA S) (mK S) (nI 1) hM) dX5_count_131 [7, 8] [] 7 rfl nd_7_8 rfl rfl rfl (by decide) (by decide) (Nat.le_of_ble_eq_true rfl) rfl ?_
    refine z_aload_n C 2 dX5_count_134 rfl rfl ?_
    refine z_iconst C (nI 3) dX5_count_135 (by decide) ?_
    refine z_callVr C kX0_pendingOf gX5_count_X0_pendingOf (mX0_pendingOf X.2.1 (t 6) (t 7) (fA S) (mK S) (nI 3) hM) dX5_count_136 [7, 8] [.int (nI (zc (pPO (fA S) (nI 1)) (mK S)))] 7 rfl nd_7_8 rfl rfl rfl (by decide) (by decide) (Nat.le_of_ble_eq_true rfl) rfl ?_
    refine z_iadd C dX5_count_139 ?_
    refine z_top (y := nI ((zc (pPO (fA S) (nI 1)) (mK S)) + (zc (pPO (fA S) (nI 3)) (mK S)))) (nI_add _ _) ?_
    exact z_iret C N dX5_count_140 (rfl) (by unfold zCt; (repeat (first | rw [if_pos (by (first | assumption | exact Int32.not_lt.mpr (by assumption) | exact Int32.not_le.mp (by assumption)))] | rw [if_neg (by (first | assumption | exact Int32.not_lt.mpr (by assumption) | exact Int32.not_le.mp (by assumption)))])) <;> (first | rfl | (simp only [hs_1, hs_2, hs_3, hs_4, hs_5, hs_6, hs_8, hs_9]; rfl)))
  by_cases hs_10 : wh = nI 8
  · refine z_tsAt C 8 141 dX5_count_9 (by rw [hs_10]; decide) (by decide) rfl (by decide) ?_
    refine z_aload_n C 2 dX5_count_141 rfl rfl ?_
    refine z_iconst C (nI 4) dX5_count_142 (by decide) ?_
    refine z_callVr C kX0_pendingOf gX5_count_X0_pendingOf (mX0_pendingOf X.2.1 (t 6) (t 7) (fA S) (mK S) (nI 4) hM) dX5_count_143 [7, 8] [] 7 rfl nd_7_8 rfl rfl rfl (by decide) (by decide) (Nat.le_of_ble_eq_true rfl) rfl ?_
    exact z_iret C N dX5_count_146 (rfl) (by unfold zCt; (repeat (first | rw [if_pos (by (first | assumption | exact Int32.not_lt.mpr (by assumption) | exact Int32.not_le.mp (by assumption)))] | rw [if_neg (by (first | assumption | exact Int32.not_lt.mpr (by assumption) | exact Int32.not_le.mp (by assumption)))])) <;> (first | rfl | (simp only [hs_1, hs_2, hs_3, hs_4, hs_5, hs_6, hs_8, hs_9, hs_10]; rfl)))
  by_cases hs_11 : wh = nI 9
  · refine z_tsAt C 9 147 dX5_count_9 (by rw [hs_11]; decide) (by decide) rfl (by decide) ?_
    refine z_aload_n C 0 dX5_count_147 rfl rfl ?_
    refine z_get C fX5_count_19 0 dX5_count_148 rfl rfl ?_
    refine z_get C fX5_count_175 9 dX5_count_151 rfl rfl ?_
    exact z_iret C N dX5_count_154 (rfl) (by unfold zCt; (repeat (first | rw [if_pos (by (first | assumption | exact Int32.not_lt.mpr (by assumption) | exact Int32.not_le.mp (by assumption)))] | rw [if_neg (by (first | assumption | exact Int32.not_lt.mpr (by assumption) | exact Int32.not_le.mp (by assumption)))])) <;> (first | rfl | (simp only [hs_1, hs_2, hs_3, hs_4, hs_5, hs_6, hs_8, hs_9, hs_10, hs_11]; rfl)))
  by_cases hs_12 : wh = nI 10
  · refine z_tsAt C 10 155 dX5_count_9 (by rw [hs_12]; decide) (by decide) rfl (by decide) ?_
    refine z_aload_n C 0 dX5_count_155 rfl rfl ?_
    refine z_get C fX5_count_26 0 dX5_count_156 rfl rfl ?_
    refine z_get C fX5_count_87 10 dX5_count_159 rfl rfl ?_
    exact z_iret C N dX5_count_162 (rfl) (by unfold zCt; (repeat (first | rw [if_pos (by (first | assumption | exact Int32.not_lt.mpr (by assumption) | exact Int32.not_le.mp (by assumption)))] | rw [if_neg (by (first | assumption | exact Int32.not_lt.mpr (by assumption) | exact Int32.not_le.mp (by assumption)))])) <;> (first | rfl | (simp only [hs_1, hs_2, hs_3, hs_4, hs_5, hs_6, hs_8, hs_9, hs_10, hs_11, hs_12]; rfl)))
  refine z_tsOut C 163 dX5_count_9 (by have e0 := z_neN (c := 0) (by decide) hs_1; have e1 := z_neN (c := 1) (by decide) hs_2; have e2 := z_neN (c := 2) (by decide) hs_3; have e3 := z_neN (c := 3) (by decide) hs_4; have e4 := z_neN (c := 4) (by decide) hs_5; have e5 := z_neN (c := 5) (by decide) hs_6; have e6 := z_neN (c := 6) (by decide) hs_8; have e7 := z_neN (c := 7) (by decide) hs_9; have e8 := z_neN (c := 8) (by decide) hs_10; have e9 := z_neN (c := 9) (by decide) hs_11; have e10 := z_neN (c := 10) (by decide) hs_12; omega) (by decide) ?_
  refine z_bipush C (-2) dX5_count_163 (by decide) ?_
  exact z_iret C N dX5_count_165 (rfl) (by unfold zCt; (repeat (first | rw [if_pos (by (first | assumption | exact Int32.not_lt.mpr (by assumption) | exact Int32.not_le.mp (by assumption)))] | rw [if_neg (by (first | assumption | exact Int32.not_lt.mpr (by assumption) | exact Int32.not_le.mp (by assumption)))])) <;> (first | rfl | (simp only [hs_1, hs_2, hs_3, hs_4, hs_5, hs_6, hs_8, hs_9, hs_10, hs_11, hs_12]; rfl)))

theorem kX5_clearText : zY yX5_clearText wsX5_clearText cX5_clearText 2 (some .int) 0 := ⟨⟨_, rfl⟩, ⟨by decide +kernel, by decide +kernel, by decide +kernel⟩, by decide +kernel⟩
theorem fX5_clearText_26 : zF wsX5_clearText RX5 26 5 2 RX5 TX5 3 := ⟨by decide +kernel, rfl, by decide, by decide +kernel, rfl⟩
theorem fX5_clearText_87 : zF wsX5_clearText RX5 87 3 1 RX3 TX3 8 := ⟨by decide +kernel, rfl, by decide, by decide +kernel, rfl⟩
set_option maxHeartbeats 4000000 in
set_option maxRecDepth 100000 in
theorem mX5_clearText (E : zE) (x0 t0 h0 w0 w1 : Nat) (tx : Nat → Nat) (ln : Nat) (s : zPs)  (hln : ln ≤ 60) : zM E yX5_clearText wsX5_clearText 1 [.ref x0] [(x0, .inr (5, [.ref t0, .ref h0, .ref w0])), (w0, .inr (3, [.ref w1, .int (nI ln), .int (nI (oP s)), .int (oS s), .int (oA s), .int (oL s), .int (oC s), .int (oV s)])), (w1, .inl (E.2.2.2.1, 60, .inl (fun j9 => nI (tx j9))))] [(x0, .inr (5, [.ref t0, .ref h0, .ref w0])), (w0, .inr (3, [.ref w1, .int (nI 0), .int (nI (oP s)), .int (oS s), .int (oA s), .int (oL s), .int (oC s), .int (oV s)])), (w1, .inl (E.2.2.2.1, 60, .inl (fun j9 => nI (tx j9))))] (some (.int (nI ln))) := by
  refine zM.of kX5_clearText (Nat.le_of_ble_eq_true rfl) rfl [some (.ref x0), none] rfl (Nat.le_of_ble_eq_true rfl) ?_
  intro X eX C N
  subst eX
  refine z_aload_n C 0 dX5_clearText_0 rfl rfl ?_
  refine z_get C fX5_clearText_26 0 dX5_clearText_1 rfl rfl ?_
  refine z_get C fX5_clearText_87 1 dX5_clearText_4 rfl rfl ?_
  refine z_istore_n C 1 dX5_clearText_7 rfl (Nat.le_of_ble_eq_true rfl) ?_
  refine z_aload_n C 0 dX5_clearText_8 rfl rfl ?_
  refine z_get C fX5_clearText_26 0 dX5_clearText_9 rfl rfl ?_
  refine z_iconst C (nI 0) dX5_clearText_12 (by decide) ?_
  refine z_put C fX5_clearText_87 ftX3_1 1 dX5_clearText_13 rfl rfl rfl (Nat.le_of_ble_eq_true rfl) ?_
  refine z_iload_n C 1 dX5_clearText_16 rfl rfl ?_
  exact z_iret C N dX5_clearText_17 (rfl) (rfl)

theorem kX5_type : zY yX5_type wsX5_type cX5_type 2 (some .int) 1 := ⟨⟨_, rfl⟩, ⟨by decide +kernel, by decide +kernel, by decide +kernel⟩, by decide +kernel⟩
theorem fX5_type_26 : zF wsX5_type RX5 26 5 2 RX5 TX5 3 := ⟨by decide +kernel, rfl, by decide, by decide +kernel, rfl⟩
set_option maxHeartbeats 4000000 in
set_option maxRecDepth 100000 in
theorem mX5_type_f (E : zE) (x0 t0 h0 w0 w1 : Nat) (tx : Nat → Nat) (ln : Nat) (s : zPs) (c : Int32) (hln : ln = 60) (htx : ∀ j, tx j < 65536) (hp : oP s ≤ ln) : zM E yX5_type wsX5_type 1 [.ref x0, .int c] [(x0, .inr (5, [.ref t0, .ref h0, .ref w0])), (w0, .inr (3, [.ref w1, .int (nI ln), .int (nI (oP s)), .int (oS s), .int (oA s), .int (oL s), .int (oC s), .int (oV s)])), (w1, .inl (E.2.2.2.1, 60, .inl (fun j9 => nI (tx j9))))] [(x0, .inr (5, [.ref t0, .ref h0, .ref w0])), (w0, .inr (3, [.ref w1, .int (nI ln), .int (nI (oP s)), .int (oS s), .int (oA s), .int (oL s), .int (oC s), .int (oV s)])), (w1, .inl (E.2.2.2.1, 60, .inl (fun j9 => nI (tx j9))))] (some (.int (-3))) := by
  refine zM.of kX5_type (Nat.le_of_ble_eq_true rfl) rfl [some (.ref x0), some (.int c)] rfl (Nat.le_of_ble_eq_true rfl) ?_
  intro X eX C N
  subst eX
  refine z_aload_n C 0 dX5_type_0 rfl rfl ?_
  refine z_get C fX5_type_26 0 dX5_type_1 rfl rfl ?_
  refine z_iload_n C 1 dX5_type_4 rfl rfl ?_
  refine z_callVr C kX3_append gX5_type_X3_append (mX3_append_f X.2.1 w0 w1 tx ln (oP s) (oS s) (oA s) (oL s) (oC s) (oV s) c (by first | assumption | omega) htx hp hln) dX5_type_5 [1, 2] [] 1 rfl nd_1_2 rfl rfl rfl (by decide) (by decide) (Nat.le_of_ble_eq_true rfl) rfl ?_
  exact z_iret C N dX5_type_8 (rfl) (rfl)

set_option maxHeartbeats 4000000 in
set_option maxRecDepth 100000 in
theorem mX5_type (E : zE) (x0 t0 h0 w0 w1 : Nat) (tx : Nat → Nat) (ln : Nat) (s : zPs) (c : Nat) (hln : ln < 60) (htx : ∀ j, tx j < 65536) (hp : oP s ≤ ln) (hc : c < 65536) : zM E yX5_type wsX5_type 1 [.ref x0, .int (nI c)] [(x0, .inr (5, [.ref t0, .ref h0, .ref w0])), (w0, .inr (3, [.ref w1, .int (nI ln), .int (nI (oP s)), .int (oS s), .int (oA s), .int (oL s), .int (oC s), .int (oV s)])), (w1, .inl (E.2.2.2.1, 60, .inl (fun j9 => nI (tx j9))))] [(x0, .inr (5, [.ref t0, .ref h0, .ref w0])), (w0, .inr (3, [.ref w1, .int (nI (ln + 1)), .int (nI (oP s)), .int (oS s), .int (oA s), .int (oL s), .int (oC s), .int (oV s)])), (w1, .inl (E.2.2.2.1, 60, .inl (fun j9 => nI (zUpN tx ln c j9))))] (some (.int (nI (ln + 1)))) := by
  refine zM.of kX5_type (Nat.le_of_ble_eq_true rfl) rfl [some (.ref x0), some (.int (nI c))] rfl (Nat.le_of_ble_eq_true rfl) ?_
  intro X eX C N
  subst eX
  refine z_aload_n C 0 dX5_type_0 rfl rfl ?_
  refine z_get C fX5_type_26 0 dX5_type_1 rfl rfl ?_
  refine z_iload_n C 1 dX5_type_4 rfl rfl ?_
  refine z_callV (wn := [(x0, .inr (5, [.ref t0, .ref h0, .ref w0])), (w0, .inr (3, [.ref w1, .int (nI (ln + 1)), .int (nI (oP s)), .int (oS s), .int (oA s), .int (oL s), .int (oC s), .int (oV s)])), (w1, .inl (X.2.1.2.2.2.1, 60, .inl (fun j9 => nI (zUpN tx ln c j9))))]) C kX3_append gX5_type_X3_append (mX3_append X.2.1 w0 w1 tx ln (oP s) (oS s) (oA s) (oL s) (oC s) (oV s) c (by first | assumption | omega) htx hp hln hc) dX5_type_5 [1, 2] [] 1 rfl rfl nd_1_2 rfl rfl rfl (by decide) (by decide) (Nat.le_of_ble_eq_true rfl) rfl rfl ?_
  exact z_iret C N dX5_type_8 (rfl) (rfl)
