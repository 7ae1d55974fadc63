theorem kX6_placeIn : zY yX6_placeIn wsX6_placeIn cX6_placeIn 6 (some .int) 3 := ⟨⟨_, rfl⟩, ⟨by decide +kernel, by decide +kernel, by decide +kernel⟩, by decide +kernel⟩
set_option maxHeartbeats 400000 in
set_option maxRecDepth 100000 in
theorem mX6_placeIn_0 (E : zE) (a : Nat → Nat) (kp ty pl : Nat) (gd : Bool) (od : Nat) (vU vS : Nat → Nat) (vN : Nat → Int32) (vX vM : Nat) (vT : Bool) (vB vK vY vZ vR vC vV : Nat → Int32) (v p : Nat) (hO : okM vU vS vM vK) (hv : v < 3) (hp : p < 12) : zM E yX6_placeIn wsX6_placeIn 6 [.ref (a 0), .int (nI v), .int (nI 0), .int (nI p)] [((a 0), .inr (6, [.ref (a 1), .ref (a 2), .ref (a 3), .int (nI kp), .int (nI ty), .ref (a 4), .int (nI pl), .int (zb gd), .int (nI od), .ref (a 5)])), ((a 1), .inl (E.2.2.1, 512, .inl (mRow vU vS vN vX vM vT vB vK vY vZ vR vC vV)))] [((a 0), .inr (6, [.ref (a 1), .ref (a 2), .ref (a 3), .int (nI kp), .int (nI ty), .ref (a 4), .int (nI pl), .int (zb gd), .int (nI od), .ref (a 5)])), ((a 1), .inl (E.2.2.1, 512, .inl (mRow vU vS vN vX vM vT vB vK vY vZ vR vC vV)))] (some (.int (mPi vZ vK vR vC vS vN vM v 0 p))) := by
  refine zM.of kX6_placeIn (Nat.le_of_ble_eq_true rfl) rfl [some (.ref (a 0)), some (.int (nI v)), some (.int (nI 0)), some (.int (nI p)), none, none] rfl (Nat.le_of_ble_eq_true rfl) ?_
  intro X eX C N
  subst eX
  obtain ⟨hu0, hu1, hM, hk1, hk2, hk3⟩ := id hO
  refine z_iconst C (nI 0) dX6_placeIn_0 (by decide) ?_
  refine z_istore C dX6_placeIn_1 (Nat.le_of_ble_eq_true rfl) ?_
  refine z_iconst C (nI 0) dX6_placeIn_3 (by decide) ?_
  refine z_istore C dX6_placeIn_4 (Nat.le_of_ble_eq_true rfl) ?_
  have hL6 : ∀ (dd : Nat) (k : Nat) (n9 : Nat), p - k = dd → (k ≤ p) → (n9 = zc (fun p => mVw vZ vK vR vC vS vN vM v 0 p) k) → (n9 ≤ k) → zG X 0 0 [((a 0), .inr (6, [.ref (a 1), .ref (a 2), .ref (a 3), .int (nI kp), .int (nI ty), .ref (a 4), .int (nI pl), .int (zb gd), .int (nI od), .ref (a 5)])), ((a 1), .inl (X.2.1.2.2.1, 512, .inl (mRow vU vS vN vX vM vT vB vK vY vZ vR vC vV)))] [some (.ref (a 0)), some (.int (nI v)), some (.int (nI 0)), some (.int (nI p)), some (.int (nI n9)), some (.int (nI k))] [] 6 := by
    intro dd
    induction dd using Nat.strongRecOn with
    | _ dd ih6 =>
    intro k n9 hdd hk hn hnb
    refine z_iload C dX6_placeIn_6 rfl ?_
    refine z_iload_n C 3 dX6_placeIn_8 rfl rfl ?_
    refine z_ncmp_ge C 39 dX6_placeIn_9 (by decide) (by omega) (by omega) (fun h_1 => ?_) (fun h_1 => ?_)
    · refine z_aload_n C 0 dX6_placeIn_39 rfl rfl ?_
      refine z_iload_n C 1 dX6_placeIn_40 rfl rfl ?_
      refine z_iload_n C 2 dX6_placeIn_41 rfl rfl ?_
      refine z_iload_n C 3 dX6_placeIn_42 rfl rfl ?_
      refine z_callVr C kX6_isIn gX6_placeIn_X6_isIn (mX6_isIn_0 X.2.1 a kp ty pl gd od vU vS vN vX vM vT vB vK vY vZ vR vC vV v p hO hv hp) dX6_placeIn_43 [0, 1] [] 0 rfl nd_0_1 rfl rfl rfl (by decide) (by decide) (Nat.le_of_ble_eq_true rfl) rfl ?_
      refine z_bif_eq C 54 dX6_placeIn_46 (by decide) (fun h_2 => ?_) (fun h_2 => ?_)
      · refine z_bipush C (-5) dX6_placeIn_54 (by decide) ?_
        exact z_iret C N dX6_placeIn_56 (rfl) (by rw [mPi, if_neg (by rw [h_2]; decide)])
      · refine z_iload C dX6_placeIn_49 rfl ?_
        refine z_goto C 56 dX6_placeIn_51 (by decide) ?_
        exact z_iret C N dX6_placeIn_56 (rfl) (by rw [mPi, if_pos h_2, hn, show k = p by omega])
    · refine z_iload C dX6_placeIn_12 rfl ?_
      refine z_aload_n C 0 dX6_placeIn_14 rfl rfl ?_
      refine z_iload_n C 1 dX6_placeIn_15 rfl rfl ?_
      refine z_iload_n C 2 dX6_placeIn_16 rfl rfl ?_
      refine z_iload C dX6_placeIn_17 rfl ?_
      refine z_callVr C kX6_isIn gX6_placeIn_X6_isIn (mX6_isIn_0 X.2.1 a kp ty pl gd od vU vS vN vX vM vT vB vK vY vZ vR vC vV v k hO hv (by first | assumption | omega)) dX6_placeIn_19 [0, 1] [.int (nI n9)] 0 rfl nd_0_1 rfl rfl rfl (by decide) (by decide) (Nat.le_of_ble_eq_true rfl) rfl ?_
      refine z_bif_eq C 29 dX6_placeIn_22 (by decide) (fun h_3 => ?_) (fun h_3 => ?_)
      · refine z_iconst C (nI 0) dX6_placeIn_29 (by decide) ?_
        refine z_iadd C dX6_placeIn_30 ?_
        refine z_top (y := nI n9) (nI_add _ _) ?_
        refine z_istore C dX6_placeIn_31 (Nat.le_of_ble_eq_true rfl) ?_
        refine z_iinc C (nI (k + 1)) dX6_placeIn_33 rfl (zi_1 _) ?_
        refine z_goto C 6 dX6_placeIn_36 (by decide) ?_
        exact ih6 (p - (k + 1)) (by omega) (k + 1) n9 rfl (by omega) (by subst hn; first | exact (zc_y (by simp [h_1, h_3])).symm | exact (zc_n (by simp [h_1, h_3])).symm) (by omega)
      · refine z_iconst C (nI 1) dX6_placeIn_25 (by decide) ?_
        refine z_goto C 30 dX6_placeIn_26 (by decide) ?_
        refine z_iadd C dX6_placeIn_30 ?_
        refine z_top (y := nI (n9 + 1)) (nI_add _ _) ?_
        refine z_istore C dX6_placeIn_31 (Nat.le_of_ble_eq_true rfl) ?_
        refine z_iinc C (nI (k + 1)) dX6_placeIn_33 rfl (zi_1 _) ?_
        refine z_goto C 6 dX6_placeIn_36 (by decide) ?_
        exact ih6 (p - (k + 1)) (by omega) (k + 1) (n9 + 1) rfl (by omega) (by subst hn; first | exact (zc_y (by simp [h_1, h_3])).symm | exact (zc_n (by simp [h_1, h_3])).symm) (by omega)
  exact hL6 _ 0 0 rfl (by omega) (rfl) (by omega)

set_option maxHeartbeats 400000 in
set_option maxRecDepth 100000 in
theorem mX6_placeIn_1 (E : zE) (a : Nat → Nat) (kp ty pl : Nat) (gd : Bool) (od : Nat) (vU vS : Nat → Nat) (vN : Nat → Int32) (vX vM : Nat) (vT : Bool) (vB vK vY vZ vR vC vV : Nat → Int32) (v p : Nat) (hO : okM vU vS vM vK) (hv : v < 3) (hp : p < 12) : zM E yX6_placeIn wsX6_placeIn 6 [.ref (a 0), .int (nI v), .int (nI 1), .int (nI p)] [((a 0), .inr (6, [.ref (a 1), .ref (a 2), .ref (a 3), .int (nI kp), .int (nI ty), .ref (a 4), .int (nI pl), .int (zb gd), .int (nI od), .ref (a 5)])), ((a 1), .inl (E.2.2.1, 512, .inl (mRow vU vS vN vX vM vT vB vK vY vZ vR vC vV)))] [((a 0), .inr (6, [.ref (a 1), .ref (a 2), .ref (a 3), .int (nI kp), .int (nI ty), .ref (a 4), .int (nI pl), .int (zb gd), .int (nI od), .ref (a 5)])), ((a 1), .inl (E.2.2.1, 512, .inl (mRow vU vS vN vX vM vT vB vK vY vZ vR vC vV)))] (some (.int (mPi vZ vK vR vC vS vN vM v 1 p))) := by
  refine zM.of kX6_placeIn (Nat.le_of_ble_eq_true rfl) rfl [some (.ref (a 0)), some (.int (nI v)), some (.int (nI 1)), some (.int (nI p)), none, none] rfl (Nat.le_of_ble_eq_true rfl) ?_
  intro X eX C N
  subst eX
  obtain ⟨hu0, hu1, hM, hk1, hk2, hk3⟩ := id hO
  refine z_iconst C (nI 0) dX6_placeIn_0 (by decide) ?_
  refine z_istore C dX6_placeIn_1 (Nat.le_of_ble_eq_true rfl) ?_
  refine z_iconst C (nI 0) dX6_placeIn_3 (by decide) ?_
  refine z_istore C dX6_placeIn_4 (Nat.le_of_ble_eq_true rfl) ?_
  have hL6 : ∀ (dd : Nat) (k : Nat) (n9 : Nat), p - k = dd → (k ≤ p) → (n9 = zc (fun p => mVw vZ vK vR vC vS vN vM v 1 p) k) → (n9 ≤ k) → zG X 0 0 [((a 0), .inr (6, [.ref (a 1), .ref (a 2), .ref (a 3), .int (nI kp), .int (nI ty), .ref (a 4), .int (nI pl), .int (zb gd), .int (nI od), .ref (a 5)])), ((a 1), .inl (X.2.1.2.2.1, 512, .inl (mRow vU vS vN vX vM vT vB vK vY vZ vR vC vV)))] [some (.ref (a 0)), some (.int (nI v)), some (.int (nI 1)), some (.int (nI p)), some (.int (nI n9)), some (.int (nI k))] [] 6 := by
    intro dd
    induction dd using Nat.strongRecOn with
    | _ dd ih6 =>
    intro k n9 hdd hk hn hnb
    refine z_iload C dX6_placeIn_6 rfl ?_
    refine z_iload_n C 3 dX6_placeIn_8 rfl rfl ?_
    refine z_ncmp_ge C 39 dX6_placeIn_9 (by decide) (by omega) (by omega) (fun h_1 => ?_) (fun h_1 => ?_)
    · refine z_aload_n C 0 dX6_placeIn_39 rfl rfl ?_
      refine z_iload_n C 1 dX6_placeIn_40 rfl rfl ?_
      refine z_iload_n C 2 dX6_placeIn_41 rfl rfl ?_
      refine z_iload_n C 3 dX6_placeIn_42 rfl rfl ?_
      refine z_callVr C kX6_isIn gX6_placeIn_X6_isIn (mX6_isIn_1 X.2.1 a kp ty pl gd od vU vS vN vX vM vT vB vK vY vZ vR vC vV v p hO hv hp) dX6_placeIn_43 [0, 1] [] 0 rfl nd_0_1 rfl rfl rfl (by decide) (by decide) (Nat.le_of_ble_eq_true rfl) rfl ?_
      refine z_bif_eq C 54 dX6_placeIn_46 (by decide) (fun h_2 => ?_) (fun h_2 => ?_)
      · refine z_bipush C (-5) dX6_placeIn_54 (by decide) ?_
        exact z_iret C N dX6_placeIn_56 (rfl) (by rw [mPi, if_neg (by rw [h_2]; decide)])
      · refine z_iload C dX6_placeIn_49 rfl ?_
        refine z_goto C 56 dX6_placeIn_51 (by decide) ?_
        exact z_iret C N dX6_placeIn_56 (rfl) (by rw [mPi, if_pos h_2, hn, show k = p by omega])
    · refine z_iload C dX6_placeIn_12 rfl ?_
      refine z_aload_n C 0 dX6_placeIn_14 rfl rfl ?_
      refine z_iload_n C 1 dX6_placeIn_15 rfl rfl ?_
      refine z_iload_n C 2 dX6_placeIn_16 rfl rfl ?_
      refine z_iload C dX6_placeIn_17 rfl ?_
      refine z_callVr C kX6_isIn gX6_placeIn_X6_isIn (mX6_isIn_1 X.2.1 a kp ty pl gd od vU vS vN vX vM vT vB vK vY vZ vR vC vV v k hO hv (by first | assumption | omega)) dX6_placeIn_19 [0, 1] [.int (nI n9)] 0 rfl nd_0_1 rfl rfl rfl (by decide) (by decide) (Nat.le_of_ble_eq_true rfl) rfl ?_
      refine z_bif_eq C 29 dX6_placeIn_22 (by decide) (fun h_3 => ?_) (fun h_3 => ?_)
      · refine z_iconst C (nI 0) dX6_placeIn_29 (by decide) ?_
        refine z_iadd C dX6_placeIn_30 ?_
        refine z_top (y := nI n9) (nI_add _ _) ?_
        refine z_istore C dX6_placeIn_31 (Nat.le_of_ble_eq_true rfl) ?_
        refine z_iinc C (nI (k + 1)) dX6_placeIn_33 rfl (zi_1 _) ?_
        refine z_goto C 6 dX6_placeIn_36 (by decide) ?_
        exact ih6 (p - (k + 1)) (by omega) (k + 1) n9 rfl (by omega) (by subst hn; first | exact (zc_y (by simp [h_1, h_3])).symm | exact (zc_n (by simp [h_1, h_3])).symm) (by omega)
      · refine z_iconst C (nI 1) dX6_placeIn_25 (by decide) ?_
        refine z_goto C 30 dX6_placeIn_26 (by decide) ?_
        refine z_iadd C dX6_placeIn_30 ?_
        refine z_top (y := nI (n9 + 1)) (nI_add _ _) ?_
        refine z_istore C dX6_placeIn_31 (Nat.le_of_ble_eq_true rfl) ?_
        refine z_iinc C (nI (k + 1)) dX6_placeIn_33 rfl (zi_1 _) ?_
        refine z_goto C 6 dX6_placeIn_36 (by decide) ?_
        exact ih6 (p - (k + 1)) (by omega) (k + 1) (n9 + 1) rfl (by omega) (by subst hn; first | exact (zc_y (by simp [h_1, h_3])).symm | exact (zc_n (by simp [h_1, h_3])).symm) (by omega)
  exact hL6 _ 0 0 rfl (by omega) (rfl) (by omega)

theorem kX6_line : zY yX6_line wsX6_line cX6_line 6 (some .int) 3 := ⟨⟨_, rfl⟩, ⟨by decide +kernel, by decide +kernel, by decide +kernel⟩, by decide +kernel⟩
theorem fX6_line_7 : zF wsX6_line RX6 7 6 0 RX6 TX6 10 := ⟨by decide +kernel, rfl, by decide, by decide +kernel, rfl⟩
set_option maxHeartbeats 400000 in
set_option maxRecDepth 100000 in
theorem mX6_line_0 (E : zE) (a : Nat → Nat) (kp ty pl : Nat) (gd : Bool) (od : Nat) (vU vS : Nat → Nat) (vN : Nat → Int32) (vX vM : Nat) (vT : Bool) (vB vK vY vZ vR vC vV : Nat → Int32) (j : Nat) (wh : Int32) (hO : okM vU vS vM vK) (hj : j < vU 0) : zM E yX6_line wsX6_line 7 [.ref (a 0), .int (nI 0), .int (nI j), .int wh] [((a 0), .inr (6, [.ref (a 1), .ref (a 2), .ref (a 3), .int (nI kp), .int (nI ty), .ref (a 4), .int (nI pl), .int (zb gd), .int (nI od), .ref (a 5)])), ((a 1), .inl (E.2.2.1, 512, .inl (mRow vU vS vN vX vM vT vB vK vY vZ vR vC vV)))] [((a 0), .inr (6, [.ref (a 1), .ref (a 2), .ref (a 3), .int (nI kp), .int (nI ty), .ref (a 4), .int (nI pl), .int (zb gd), .int (nI od), .ref (a 5)])), ((a 1), .inl (E.2.2.1, 512, .inl (mRow vU vS vN vX vM vT vB vK vY vZ vR vC vV)))] (some (.int (if wh = nI 0 then mIn vZ vK vR vC vS vN vM 0 j else if wh = nI 1 then mRm vZ vK vR vC vS vN vM 0 j else if wh = nI 2 then mPi vZ vK vR vC vS vN vM 1 0 j else if wh = nI 3 then mPi vZ vK vR vC vS vN vM 2 0 j else if wh = nI 4 then nI (zc (fun x => decide (vZ x = 0) && (decide (vK x = nI 4) && mAt vK vR vC x (nI 0) (mN vS vN 0 j))) (vM)) else -2))) := by
  refine zM.of kX6_line (Nat.le_of_ble_eq_true rfl) rfl [some (.ref (a 0)), some (.int (nI 0)), some (.int (nI j)), some (.int wh), none, none] rfl (Nat.le_of_ble_eq_true rfl) ?_
  intro X eX C N
  subst eX
  obtain ⟨hu0, hu1, hM, hk1, hk2, hk3⟩ := id hO
  refine z_aload_n C 0 dX6_line_0 rfl rfl ?_
  refine z_iload_n C 1 dX6_line_1 rfl rfl ?_
  refine z_iload_n C 2 dX6_line_2 rfl rfl ?_
  refine z_callVr C kX6_noLine gX6_line_X6_noLine (mX6_noLine_0_y X.2.1 a kp ty pl gd od vU vS vN vX vM vT vB vK vY vZ vR vC vV j hO hj) dX6_line_3 [0, 1] [] 0 rfl nd_0_1 rfl rfl rfl (by decide) (by decide) (Nat.le_of_ble_eq_true rfl) rfl ?_
  refine z_bif_eq_t C 11 dX6_line_6 (by decide) rfl ?_
  refine z_iconst C (nI 0) dX6_line_11 (by decide) ?_
  refine z_istore C dX6_line_12 (Nat.le_of_ble_eq_true rfl) ?_
  refine z_iconst C (nI 0) dX6_line_14 (by decide) ?_
  refine z_istore C dX6_line_15 (Nat.le_of_ble_eq_true rfl) ?_
  have hL17 : ∀ (dd : Nat) (k : Nat) (n9 : Nat), vM - k = dd → (k ≤ vM) → (n9 = zc (fun x => decide (vZ x = 0) && (decide (vK x = nI 4) && mAt vK vR vC x (nI 0) (mN vS vN 0 j))) k) → (n9 ≤ k) → zG X 0 0 [((a 0), .inr (6, [.ref (a 1), .ref (a 2), .ref (a 3), .int (nI kp), .int (nI ty), .ref (a 4), .int (nI pl), .int (zb gd), .int (nI od), .ref (a 5)])), ((a 1), .inl (X.2.1.2.2.1, 512, .inl (mRow vU vS vN vX vM vT vB vK vY vZ vR vC vV)))] [some (.ref (a 0)), some (.int (nI 0)), some (.int (nI j)), some (.int wh), some (.int (nI n9)), some (.int (nI k))] [] 17 := by
    intro dd
    induction dd using Nat.strongRecOn with
    | _ dd ih17 =>
    intro k n9 hdd hk hn hnb
    refine z_iload C dX6_line_17 rfl ?_
    refine z_aload_n C 0 dX6_line_19 rfl rfl ?_
    refine z_get C fX6_line_7 0 dX6_line_20 rfl rfl ?_
    refine z_bipush C (nI 51) dX6_line_23 (by decide) ?_
    refine z_ialdN C 1 dX6_line_25 rfl (by omega) (by decide) ?_
    refine z_top (y := nI (vM)) (zMr_M) ?_
    refine z_ncmp_ge C 83 dX6_line_26 (by decide) (by omega) (by omega) (fun h_1 => ?_) (fun h_1 => ?_)
    · refine z_iload_n C 3 dX6_line_83 rfl rfl ?_
      by_cases hs_2 : wh = nI 0
      · refine z_tsAt C 0 120 dX6_line_84 (by rw [hs_2]; decide) (by decide) rfl (by decide) ?_
        refine z_aload_n C 0 dX6_line_120 rfl rfl ?_
        refine z_iload_n C 1 dX6_line_121 rfl rfl ?_
        refine z_iload_n C 2 dX6_line_122 rfl rfl ?_
        refine z_callVr C kX6_insertionOf gX6_line_X6_insertionOf (mX6_insertionOf_0 X.2.1 a kp ty pl gd od vU vS vN vX vM vT vB vK vY vZ vR vC vV j hO (by first | assumption | omega)) dX6_line_123 [0, 1] [] 0 rfl nd_0_1 rfl rfl rfl (by decide) (by decide) (Nat.le_of_ble_eq_true rfl) rfl ?_
        exact z_iret C N dX6_line_126 (rfl) (by (repeat (first | rw [if_pos (by assumption)] | rw [if_neg (by assumption)])) <;> (first | rfl | rw [hn, show k = vM by omega]))
      by_cases hs_3 : wh = nI 1
      · refine z_tsAt C 1 127 dX6_line_84 (by rw [hs_3]; decide) (by decide) rfl (by decide) ?_
        refine z_aload_n C 0 dX6_line_127 rfl rfl ?_
        refine z_iload_n C 1 dX6_line_128 rfl rfl ?_
        refine z_iload_n C 2 dX6_line_129 rfl rfl ?_
        refine z_callVr C kX6_removalOf gX6_line_X6_removalOf (mX6_removalOf_0 X.2.1 a kp ty pl gd od vU vS vN vX vM vT vB vK vY vZ vR vC vV j hO (by first | assumption | omega)) dX6_line_130 [0, 1] [] 0 rfl nd_0_1 rfl rfl rfl (by decide) (by decide) (Nat.le_of_ble_eq_true rfl) rfl ?_
        exact z_iret C N dX6_line_133 (rfl) (by (repeat (first | rw [if_pos (by assumption)] | rw [if_neg (by assumption)])) <;> (first | rfl | rw [hn, show k = vM by omega]))
      by_cases hs_4 : wh = nI 2
      · refine z_tsAt C 2 134 dX6_line_84 (by rw [hs_4]; decide) (by decide) rfl (by decide) ?_
        refine z_aload_n C 0 dX6_line_134 rfl rfl ?_
        refine z_iconst C (nI 1) dX6_line_135 (by decide) ?_
        refine z_iload_n C 1 dX6_line_136 rfl rfl ?_
        refine z_iload_n C 2 dX6_line_137 rfl rfl ?_
        refine z_callVr C kX6_placeIn gX6_line_X6_placeIn (mX6_placeIn_0 X.2.1 a kp ty pl gd od vU vS vN vX vM vT vB vK vY vZ vR vC vV 1 j hO (by first | assumption | omega) (by first | assumption | omega)) dX6_line_138 [0, 1] [] 0 rfl nd_0_1 rfl rfl rfl (by decide) (by decide) (Nat.le_of_ble_eq_true rfl) rfl ?_
        exact z_iret C N dX6_line_141 (rfl) (by (repeat (first | rw [if_pos (by assumption)] | rw [if_neg (by assumption)])) <;> (first | rfl | rw [hn, show k = vM by omega]))
      by_cases hs_5 : wh = nI 3
      · refine z_tsAt C 3 142 dX6_line_84 (by rw [hs_5]; decide) (by decide) rfl (by decide) ?_
        refine z_aload_n C 0 dX6_line_142 rfl rfl ?_
        refine z_iconst C (nI 2) dX6_line_143 (by decide) ?_
        refine z_iload_n C 1 dX6_line_144 rfl rfl ?_
        refine z_iload_n C 2 dX6_line_145 rfl rfl ?_
        refine z_callVr C kX6_placeIn gX6_line_X6_placeIn (mX6_placeIn_0 X.2.1 a kp ty pl gd od vU vS vN vX vM vT vB vK vY vZ vR vC vV 2 j hO (by first | assumption | omega) (by first | assumption | omega)) dX6_line_146 [0, 1] [] 0 rfl nd_0_1 rfl rfl rfl (by decide) (by decide) (Nat.le_of_ble_eq_true rfl) rfl ?_
        exact z_iret C N dX6_line_149 (rfl) (by (repeat (first | rw [if_pos (by assumption)] | rw [if_neg (by assumption)])) <;> (first | rfl | rw [hn, show k = vM by omega]))
      by_cases hs_6 : wh = nI 4
      · refine z_tsAt C 4 150 dX6_line_84 (by rw [hs_6]; decide) (by decide) rfl (by decide) ?_
        refine z_iload C dX6_line_150 rfl ?_
        exact z_iret C N dX6_line_152 (rfl) (by (repeat (first | rw [if_pos (by assumption)] | rw [if_neg (by assumption)])) <;> (first | rfl | rw [hn, show k = vM by omega]))
      refine z_tsOut C 153 dX6_line_84 (by have e0 := z_neN (c := 0) (by decide) hs_2; have e1 := z_neN (c := 1) (by decide) hs_3; have e2 := z_neN (c := 2) (by decide) hs_4; have e3 := z_neN (c := 3) (by decide) hs_5; have e4 := z_neN (c := 4) (by decide) hs_6; omega) (by decide) ?_
      refine z_bipush C (-2) dX6_line_153 (by decide) ?_
      exact z_iret C N dX6_line_155 (rfl) (by (repeat (first | rw [if_pos (by assumption)] | rw [if_neg (by assumption)])) <;> (first | rfl | rw [hn, show k = vM by omega]))
    · refine z_iload C dX6_line_29 rfl ?_
      refine z_aload_n C 0 dX6_line_31 rfl rfl ?_
      refine z_iload C dX6_line_32 rfl ?_
      refine z_callVr C kX6_isPending gX6_line_X6_isPending (mX6_isPending X.2.1 a kp ty pl gd od vU vS vN vX vM vT vB vK vY vZ vR vC vV k (by first | assumption | omega)) dX6_line_34 [0, 1] [.int (nI n9)] 0 rfl nd_0_1 rfl rfl rfl (by decide) (by decide) (Nat.le_of_ble_eq_true rfl) rfl ?_
      refine z_bif_eq C 73 dX6_line_37 (by decide) (fun h_7 => ?_) (fun h_7 => ?_)
      · refine z_iconst C (nI 0) dX6_line_73 (by decide) ?_
        refine z_iadd C dX6_line_74 ?_
        refine z_top (y := nI n9) (nI_add _ _) ?_
        refine z_istore C dX6_line_75 (Nat.le_of_ble_eq_true rfl) ?_
        refine z_iinc C (nI (k + 1)) dX6_line_77 rfl (zi_1 _) ?_
        refine z_goto C 17 dX6_line_80 (by decide) ?_
        exact ih17 (vM - (k + 1)) (by omega) (k + 1) n9 rfl (by omega) (by subst hn; first | exact (zc_y (by simp [nI_eq, zz_0, h_1, of_decide_eq_false h_7, h_7])).symm | exact (zc_n (by simp [nI_eq, zz_0, h_1, of_decide_eq_false h_7, h_7])).symm) (by omega)
      · refine z_aload_n C 0 dX6_line_40 rfl rfl ?_
        refine z_iload C dX6_line_41 rfl ?_
        refine z_sipush C (nI 149) dX6_line_43 (by decide) ?_
        refine z_callVr C kX6_of gX6_line_X6_of (mX6_of_K X.2.1 a kp ty pl gd od vU vS vN vX vM vT vB vK vY vZ vR vC vV k (by first | assumption | omega)) dX6_line_46 [0, 1] [.int (nI n9)] 0 rfl nd_0_1 rfl rfl rfl (by decide) (by decide) (Nat.le_of_ble_eq_true rfl) rfl ?_
        refine z_iconst C (nI 4) dX6_line_49 (by decide) ?_
        refine z_icmp_ne C 73 dX6_line_50 (by decide) (fun h_8 => ?_) (fun h_8 => ?_)
        · refine z_iconst C (nI 0) dX6_line_73 (by decide) ?_
          refine z_iadd C dX6_line_74 ?_
          refine z_top (y := nI n9) (nI_add _ _) ?_
          refine z_istore C dX6_line_75 (Nat.le_of_ble_eq_true rfl) ?_
          refine z_iinc C (nI (k + 1)) dX6_line_77 rfl (zi_1 _) ?_
          refine z_goto C 17 dX6_line_80 (by decide) ?_
          exact ih17 (vM - (k + 1)) (by omega) (k + 1) n9 rfl (by omega) (by subst hn; first | exact (zc_y (by simp [nI_eq, zz_0, h_1, of_decide_eq_true h_7, h_7, h_8])).symm | exact (zc_n (by simp [nI_eq, zz_0, h_1, of_decide_eq_true h_7, h_7, h_8])).symm) (by omega)
        · refine z_aload_n C 0 dX6_line_53 rfl rfl ?_
          refine z_iload C dX6_line_54 rfl ?_
          refine z_iload_n C 1 dX6_line_56 rfl rfl ?_
          refine z_aload_n C 0 dX6_line_57 rfl rfl ?_
          refine z_iload_n C 1 dX6_line_58 rfl rfl ?_
          refine z_iload_n C 2 dX6_line_59 rfl rfl ?_
          refine z_callVr C kX6_nameAt gX6_line_X6_nameAt (mX6_nameAt_0 X.2.1 a kp ty pl gd od vU vS vN vX vM vT vB vK vY vZ vR vC vV j hO (by first | assumption | omega)) dX6_line_60 [0, 1] [.int (nI 0), .int (nI k), .ref (a 0), .int (nI n9)] 0 rfl nd_0_1 rfl rfl rfl (by decide) (by decide) (Nat.le_of_ble_eq_true rfl) rfl ?_
          refine z_callVr C kX6_isAtLine gX6_line_X6_isAtLine (mX6_isAtLine X.2.1 a kp ty pl gd od vU vS vN vX vM vT vB vK vY vZ vR vC vV k (nI 0) (mN vS vN 0 j) (by first | assumption | omega)) dX6_line_63 [0, 1] [.int (nI n9)] 0 rfl nd_0_1 rfl rfl rfl (by decide) (by decide) (Nat.le_of_ble_eq_true rfl) rfl ?_
          refine z_bif_eq C 73 dX6_line_66 (by decide) (fun h_9 => ?_) (fun h_9 => ?_)
          · refine z_iconst C (nI 0) dX6_line_73 (by decide) ?_
            refine z_iadd C dX6_line_74 ?_
            refine z_top (y := nI n9) (nI_add _ _) ?_
            refine z_istore C dX6_line_75 (Nat.le_of_ble_eq_true rfl) ?_
            refine z_iinc C (nI (k + 1)) dX6_line_77 rfl (zi_1 _) ?_
            refine z_goto C 17 dX6_line_80 (by decide) ?_
            exact ih17 (vM - (k + 1)) (by omega) (k + 1) n9 rfl (by omega) (by subst hn; first | exact (zc_y (by simp [nI_eq, zz_0, h_1, of_decide_eq_true h_7, h_7, h_8, h_9])).symm | exact (zc_n (by simp [nI_eq, zz_0, h_1, of_decide_eq_true h_7, h_7, h_8, h_9])).symm) (by omega)
          · refine z_iconst C (nI 1) dX6_line_69 (by decide) ?_
            refine z_goto C 74 dX6_line_70 (by decide) ?_
            refine z_iadd C dX6_line_74 ?_
            refine z_top (y := nI (n9 + 1)) (nI_add _ _) ?_
            refine z_istore C dX6_line_75 (Nat.le_of_ble_eq_true rfl) ?_
            refine z_iinc C (nI (k + 1)) dX6_line_77 rfl (zi_1 _) ?_
            refine z_goto C 17 dX6_line_80 (by decide) ?_
            exact ih17 (vM - (k + 1)) (by omega) (k + 1) (n9 + 1) rfl (by omega) (by subst hn; first | exact (zc_y (by simp [nI_eq, zz_0, h_1, of_decide_eq_true h_7, h_7, h_8, h_9])).symm | exact (zc_n (by simp [nI_eq, zz_0, h_1, of_decide_eq_true h_7, h_7, h_8, h_9])).symm) (by omega)
  exact hL17 _ 0 0 rfl (by omega) (rfl) (by omega)

set_option maxHeartbeats 400000 in
set_option maxRecDepth 100000 in
theorem mX6_line_0b (E : zE) (a : Nat → Nat) (kp ty pl : Nat) (gd : Bool) (od : Nat) (vU vS : Nat → Nat) (vN : Nat → Int32) (vX vM : Nat) (vT : Bool) (vB vK vY vZ vR vC vV : Nat → Int32) (p wh : Int32) (hO : okM vU vS vM vK) (hx : p < 0 ∨ (¬ p < 0 ∧ nI (vU 0) ≤ p)) : zM E yX6_line wsX6_line 7 [.ref (a 0), .int (nI 0), .int p, .int wh] [((a 0), .inr (6, [.ref (a 1), .ref (a 2), .ref (a 3), .int (nI kp), .int (nI ty), .ref (a 4), .int (nI pl), .int (zb gd), .int (nI od), .ref (a 5)])), ((a 1), .inl (E.2.2.1, 512, .inl (mRow vU vS vN vX vM vT vB vK vY vZ vR vC vV)))] [((a 0), .inr (6, [.ref (a 1), .ref (a 2), .ref (a 3), .int (nI kp), .int (nI ty), .ref (a 4), .int (nI pl), .int (zb gd), .int (nI od), .ref (a 5)])), ((a 1), .inl (E.2.2.1, 512, .inl (mRow vU vS vN vX vM vT vB vK vY vZ vR vC vV)))] (some (.int (-1))) := by
  refine zM.of kX6_line (Nat.le_of_ble_eq_true rfl) rfl [some (.ref (a 0)), some (.int (nI 0)), some (.int p), some (.int wh), none, none] rfl (Nat.le_of_ble_eq_true rfl) ?_
  intro X eX C N
  subst eX
  obtain ⟨hu0, hu1, hM, hk1, hk2, hk3⟩ := id hO
  refine z_aload_n C 0 dX6_line_0 rfl rfl ?_
  refine z_iload_n C 1 dX6_line_1 rfl rfl ?_
  refine z_iload_n C 2 dX6_line_2 rfl rfl ?_
  refine z_callVr C kX6_noLine gX6_line_X6_noLine (mX6_noLine_0_n X.2.1 a kp ty pl gd od vU vS vN vX vM vT vB vK vY vZ vR vC vV p hO hx) dX6_line_3 [0, 1] [] 0 rfl nd_0_1 rfl rfl rfl (by decide) (by decide) (Nat.le_of_ble_eq_true rfl) rfl ?_
  refine z_bif_eq_f C 11 dX6_line_6 (by decide) rfl ?_
  refine z_iconst C (-1) dX6_line_9 (by decide) ?_
  exact z_iret C N dX6_line_10 (rfl) (rfl)

set_option maxHeartbeats 400000 in
set_option maxRecDepth 100000 in
theorem mX6_line_1 (E : zE) (a : Nat → Nat) (kp ty pl : Nat) (gd : Bool) (od : Nat) (vU vS : Nat → Nat) (vN : Nat → Int32) (vX vM : Nat) (vT : Bool) (vB vK vY vZ vR vC vV : Nat → Int32) (j : Nat) (wh : Int32) (hO : okM vU vS vM vK) (hj : j < vU 1) : zM E yX6_line wsX6_line 7 [.ref (a 0), .int (nI 1), .int (nI j), .int wh] [((a 0), .inr (6, [.ref (a 1), .ref (a 2), .ref (a 3), .int (nI kp), .int (nI ty), .ref (a 4), .int (nI pl), .int (zb gd), .int (nI od), .ref (a 5)])), ((a 1), .inl (E.2.2.1, 512, .inl (mRow vU vS vN vX vM vT vB vK vY vZ vR vC vV)))] [((a 0), .inr (6, [.ref (a 1), .ref (a 2), .ref (a 3), .int (nI kp), .int (nI ty), .ref (a 4), .int (nI pl), .int (zb gd), .int (nI od), .ref (a 5)])), ((a 1), .inl (E.2.2.1, 512, .inl (mRow vU vS vN vX vM vT vB vK vY vZ vR vC vV)))] (some (.int (if wh = nI 0 then mIn vZ vK vR vC vS vN vM 1 j else if wh = nI 1 then mRm vZ vK vR vC vS vN vM 1 j else if wh = nI 2 then mPi vZ vK vR vC vS vN vM 1 1 j else if wh = nI 3 then mPi vZ vK vR vC vS vN vM 2 1 j else if wh = nI 4 then nI (zc (fun x => decide (vZ x = 0) && (decide (vK x = nI 4) && mAt vK vR vC x (nI 1) (mN vS vN 1 j))) (vM)) else -2))) := by
  refine zM.of kX6_line (Nat.le_of_ble_eq_true rfl) rfl [some (.ref (a 0)), some (.int (nI 1)), some (.int (nI j)), some (.int wh), none, none] rfl (Nat.le_of_ble_eq_true rfl) ?_
  intro X eX C N
  subst eX
  obtain ⟨hu0, hu1, hM, hk1, hk2, hk3⟩ := id hO
  refine z_aload_n C 0 dX6_line_0 rfl rfl ?_
  refine z_iload_n C 1 dX6_line_1 rfl rfl ?_
  refine z_iload_n C 2 dX6_line_2 rfl rfl ?_
  refine z_callVr C kX6_noLine gX6_line_X6_noLine (mX6_noLine_1_y X.2.1 a kp ty pl gd od vU vS vN vX vM vT vB vK vY vZ vR vC vV j hO hj) dX6_line_3 [0, 1] [] 0 rfl nd_0_1 rfl rfl rfl (by decide) (by decide) (Nat.le_of_ble_eq_true rfl) rfl ?_
  refine z_bif_eq_t C 11 dX6_line_6 (by decide) rfl ?_
  refine z_iconst C (nI 0) dX6_line_11 (by decide) ?_
  refine z_istore C dX6_line_12 (Nat.le_of_ble_eq_true rfl) ?_
  refine z_iconst C (nI 0) dX6_line_14 (by decide) ?_
  refine z_istore C dX6_line_15 (Nat.le_of_ble_eq_true rfl) ?_
  have hL17 : ∀ (dd : Nat) (k : Nat) (n9 : Nat), vM - k = dd → (k ≤ vM) → (n9 = zc (fun x => decide (vZ x = 0) && (decide (vK x = nI 4) && mAt vK vR vC x (nI 1) (mN vS vN 1 j))) k) → (n9 ≤ k) → zG X 0 0 [((a 0), .inr (6, [.ref (a 1), .ref (a 2), .ref (a 3), .int (nI kp), .int (nI ty), .ref (a 4), .int (nI pl), .int (zb gd), .int (nI od), .ref (a 5)])), ((a 1), .inl (X.2.1.2.2.1, 512, .inl (mRow vU vS vN vX vM vT vB vK vY vZ vR vC vV)))] [some (.ref (a 0)), some (.int (nI 1)), some (.int (nI j)), some (.int wh), some (.int (nI n9)), some (.int (nI k))] [] 17 := by
    intro dd
    induction dd using Nat.strongRecOn with
    | _ dd ih17 =>
    intro k n9 hdd hk hn hnb
    refine z_iload C dX6_line_17 rfl ?_
    refine z_aload_n C 0 dX6_line_19 rfl rfl ?_
    refine z_get C fX6_line_7 0 dX6_line_20 rfl rfl ?_
    refine z_bipush C (nI 51) dX6_line_23 (by decide) ?_
    refine z_ialdN C 1 dX6_line_25 rfl (by omega) (by decide) ?_
    refine z_top (y := nI (vM)) (zMr_M) ?_
    refine z_ncmp_ge C 83 dX6_line_26 (by decide) (by omega) (by omega) (fun h_1 => ?_) (fun h_1 => ?_)
    · refine z_iload_n C 3 dX6_line_83 rfl rfl ?_
      by_cases hs_2 : wh = nI 0
      · refine z_tsAt C 0 120 dX6_line_84 (by rw [hs_2]; decide) (by decide) rfl (by decide) ?_
        refine z_aload_n C 0 dX6_line_120 rfl rfl ?_
        refine z_iload_n C 1 dX6_line_121 rfl rfl ?_
        refine z_iload_n C 2 dX6_line_122 rfl rfl ?_
        refine z_callVr C kX6_insertionOf gX6_line_X6_insertionOf (mX6_insertionOf_1 X.2.1 a kp ty pl gd od vU vS vN vX vM vT vB vK vY vZ vR vC vV j hO (by first | assumption | omega)) dX6_line_123 [0, 1] [] 0 rfl nd_0_1 rfl rfl rfl (by decide) (by decide) (Nat.le_of_ble_eq_true rfl) rfl ?_
        exact z_iret C N dX6_line_126 (rfl) (by (repeat (first | rw [if_pos (by assumption)] | rw [if_neg (by assumption)])) <;> (first | rfl | rw [hn, show k = vM by omega]))
      by_cases hs_3 : wh = nI 1
      · refine z_tsAt C 1 127 dX6_line_84 (by rw [hs_3]; decide) (by decide) rfl (by decide) ?_
        refine z_aload_n C 0 dX6_line_127 rfl rfl ?_
        refine z_iload_n C 1 dX6_line_128 rfl rfl ?_
        refine z_iload_n C 2 dX6_line_129 rfl rfl ?_
        refine z_callVr C kX6_removalOf gX6_line_X6_removalOf (mX6_removalOf_1 X.2.1 a kp ty pl gd od vU vS vN vX vM vT vB vK vY vZ vR vC vV j hO (by first | assumption | omega)) dX6_line_130 [0, 1] [] 0 rfl nd_0_1 rfl rfl rfl (by decide) (by decide) (Nat.le_of_ble_eq_true rfl) rfl ?_
        exact z_iret C N dX6_line_133 (rfl) (by (repeat (first | rw [if_pos (by assumption)] | rw [if_neg (by assumption)])) <;> (first | rfl | rw [hn, show k = vM by omega]))
      by_cases hs_4 : wh = nI 2
      · refine z_tsAt C 2 134 dX6_line_84 (by rw [hs_4]; decide) (by decide) rfl (by decide) ?_
        refine z_aload_n C 0 dX6_line_134 rfl rfl ?_
        refine z_iconst C (nI 1) dX6_line_135 (by decide) ?_
        refine z_iload_n C 1 dX6_line_136 rfl rfl ?_
        refine z_iload_n C 2 dX6_line_137 rfl rfl ?_
        refine z_callVr C kX6_placeIn gX6_line_X6_placeIn (mX6_placeIn_1 X.2.1 a kp ty pl gd od vU vS vN vX vM vT vB vK vY vZ vR vC vV 1 j hO (by first | assumption | omega) (by first | assumption | omega)) dX6_line_138 [0, 1] [] 0 rfl nd_0_1 rfl rfl rfl (by decide) (by decide) (Nat.le_of_ble_eq_true rfl) rfl ?_
        exact z_iret C N dX6_line_141 (rfl) (by (repeat (first | rw [if_pos (by assumption)] | rw [if_neg (by assumption)])) <;> (first | rfl | rw [hn, show k = vM by omega]))
      by_cases hs_5 : wh = nI 3
      · refine z_tsAt C 3 142 dX6_line_84 (by rw [hs_5]; decide) (by decide) rfl (by decide) ?_
        refine z_aload_n C 0 dX6_line_142 rfl rfl ?_
        refine z_iconst C (nI 2) dX6_line_143 (by decide) ?_
        refine z_iload_n C 1 dX6_line_144 rfl rfl ?_
        refine z_iload_n C 2 dX6_line_145 rfl rfl ?_
        refine z_callVr C kX6_placeIn gX6_line_X6_placeIn (mX6_placeIn_1 X.2.1 a kp ty pl gd od vU vS vN vX vM vT vB vK vY vZ vR vC vV 2 j hO (by first | assumption | omega) (by first | assumption | omega)) dX6_line_146 [0, 1] [] 0 rfl nd_0_1 rfl rfl rfl (by decide) (by decide) (Nat.le_of_ble_eq_true rfl) rfl ?_
        exact z_iret C N dX6_line_149 (rfl) (by (repeat (first | rw [if_pos (by assumption)] | rw [if_neg (by assumption)])) <;> (first | rfl | rw [hn, show k = vM by omega]))
      by_cases hs_6 : wh = nI 4
      · refine z_tsAt C 4 150 dX6_line_84 (by rw [hs_6]; decide) (by decide) rfl (by decide) ?_
        refine z_iload C dX6_line_150 rfl ?_
        exact z_iret C N dX6_line_152 (rfl) (by (repeat (first | rw [if_pos (by assumption)] | rw [if_neg (by assumption)])) <;> (first | rfl | rw [hn, show k = vM by omega]))
      refine z_tsOut C 153 dX6_line_84 (by have e0 := z_neN (c := 0) (by decide) hs_2; have e1 := z_neN (c := 1) (by decide) hs_3; have e2 := z_neN (c := 2) (by decide) hs_4; have e3 := z_neN (c := 3) (by decide) hs_5; have e4 := z_neN (c := 4) (by decide) hs_6; omega) (by decide) ?_
      refine z_bipush C (-2) dX6_line_153 (by decide) ?_
      exact z_iret C N dX6_line_155 (rfl) (by (repeat (first | rw [if_pos (by assumption)] | rw [if_neg (by assumption)])) <;> (first | rfl | rw [hn, show k = vM by omega]))
    · refine z_iload C dX6_line_29 rfl ?_
      refine z_aload_n C 0 dX6_line_31 rfl rfl ?_
      refine z_iload C dX6_line_32 rfl ?_
      refine z_callVr C kX6_isPending gX6_line_X6_isPending (mX6_isPending X.2.1 a kp ty pl gd od vU vS vN vX vM vT vB vK vY vZ vR vC vV k (by first | assumption | omega)) dX6_line_34 [0, 1] [.int (nI n9)] 0 rfl nd_0_1 rfl rfl rfl (by decide) (by decide) (Nat.le_of_ble_eq_true rfl) rfl ?_
      refine z_bif_eq C 73 dX6_line_37 (by decide) (fun h_7 => ?_) (fun h_7 => ?_)
      · refine z_iconst C (nI 0) dX6_line_73 (by decide) ?_
        refine z_iadd C dX6_line_74 ?_
        refine z_top (y := nI n9) (nI_add _ _) ?_
        refine z_istore C dX6_line_75 (Nat.le_of_ble_eq_true rfl) ?_
        refine z_iinc C (nI (k + 1)) dX6_line_77 rfl (zi_1 _) ?_
        refine z_goto C 17 dX6_line_80 (by decide) ?_
        exact ih17 (vM - (k + 1)) (by omega) (k + 1) n9 rfl (by omega) (by subst hn; first | exact (zc_y (by simp [nI_eq, zz_0, h_1, of_decide_eq_false h_7, h_7])).symm | exact (zc_n (by simp [nI_eq, zz_0, h_1, of_decide_eq_false h_7, h_7])).symm) (by omega)
      · refine z_aload_n C 0 dX6_line_40 rfl rfl ?_
        refine z_iload C dX6_line_41 rfl ?_
        refine z_sipush C (nI 149) dX6_line_43 (by decide) ?_
        refine z_callVr C kX6_of gX6_line_X6_of (mX6_of_K X.2.1 a kp ty pl gd od vU vS vN vX vM vT vB vK vY vZ vR vC vV k (by first | assumption | omega)) dX6_line_46 [0, 1] [.int (nI n9)] 0 rfl nd_0_1 rfl rfl rfl (by decide) (by decide) (Nat.le_of_ble_eq_true rfl) rfl ?_
        refine z_iconst C (nI 4) dX6_line_49 (by decide) ?_
        refine z_icmp_ne C 73 dX6_line_50 (by decide) (fun h_8 => ?_) (fun h_8 => ?_)
        · refine z_iconst C (nI 0) dX6_line_73 (by decide) ?_
          refine z_iadd C dX6_line_74 ?_
          refine z_top (y := nI n9) (nI_add _ _) ?_
          refine z_istore C dX6_line_75 (Nat.le_of_ble_eq_true rfl) ?_
          refine z_iinc C (nI (k + 1)) dX6_line_77 rfl (zi_1 _) ?_
          refine z_goto C 17 dX6_line_80 (by decide) ?_
          exact ih17 (vM - (k + 1)) (by omega) (k + 1) n9 rfl (by omega) (by subst hn; first | exact (zc_y (by simp [nI_eq, zz_0, h_1, of_decide_eq_true h_7, h_7, h_8])).symm | exact (zc_n (by simp [nI_eq, zz_0, h_1, of_decide_eq_true h_7, h_7, h_8])).symm) (by omega)
        · refine z_aload_n C 0 dX6_line_53 rfl rfl ?_
          refine z_iload C dX6_line_54 rfl ?_
          refine z_iload_n C 1 dX6_line_56 rfl rfl ?_
          refine z_aload_n C 0 dX6_line_57 rfl rfl ?_
          refine z_iload_n C 1 dX6_line_58 rfl rfl ?_
          refine z_iload_n C 2 dX6_line_59 rfl rfl ?_
          refine z_callVr C kX6_nameAt gX6_line_X6_nameAt (mX6_nameAt_1 X.2.1 a kp ty pl gd od vU vS vN vX vM vT vB vK vY vZ vR vC vV j hO (by first | assumption | omega)) dX6_line_60 [0, 1] [.int (nI 1), .int (nI k), .ref (a 0), .int (nI n9)] 0 rfl nd_0_1 rfl rfl rfl (by decide) (by decide) (Nat.le_of_ble_eq_true rfl) rfl ?_
          refine z_callVr C kX6_isAtLine gX6_line_X6_isAtLine (mX6_isAtLine X.2.1 a kp ty pl gd od vU vS vN vX vM vT vB vK vY vZ vR vC vV k (nI 1) (mN vS vN 1 j) (by first | assumption | omega)) dX6_line_63 [0, 1] [.int (nI n9)] 0 rfl nd_0_1 rfl rfl rfl (by decide) (by decide) (Nat.le_of_ble_eq_true rfl) rfl ?_
          refine z_bif_eq C 73 dX6_line_66 (by decide) (fun h_9 => ?_) (fun h_9 => ?_)
          · refine z_iconst C (nI 0) dX6_line_73 (by decide) ?_
            refine z_iadd C dX6_line_74 ?_
            refine z_top (y := nI n9) (nI_add _ _) ?_
            refine z_istore C dX6_line_75 (Nat.le_of_ble_eq_true rfl) ?_
            refine z_iinc C (nI (k + 1)) dX6_line_77 rfl (zi_1 _) ?_
            refine z_goto C 17 dX6_line_80 (by decide) ?_
            exact ih17 (vM - (k + 1)) (by omega) (k + 1) n9 rfl (by omega) (by subst hn; first | exact (zc_y (by simp [nI_eq, zz_0, h_1, of_decide_eq_true h_7, h_7, h_8, h_9])).symm | exact (zc_n (by simp [nI_eq, zz_0, h_1, of_decide_eq_true h_7, h_7, h_8, h_9])).symm) (by omega)
          · refine z_iconst C (nI 1) dX6_line_69 (by decide) ?_
            refine z_goto C 74 dX6_line_70 (by decide) ?_
            refine z_iadd C dX6_line_74 ?_
            refine z_top (y := nI (n9 + 1)) (nI_add _ _) ?_
            refine z_istore C dX6_line_75 (Nat.le_of_ble_eq_true rfl) ?_
            refine z_iinc C (nI (k + 1)) dX6_line_77 rfl (zi_1 _) ?_
            refine z_goto C 17 dX6_line_80 (by decide) ?_
            exact ih17 (vM - (k + 1)) (by omega) (k + 1) (n9 + 1) rfl (by omega) (by subst hn; first | exact (zc_y (by simp [nI_eq, zz_0, h_1, of_decide_eq_true h_7, h_7, h_8, h_9])).symm | exact (zc_n (by simp [nI_eq, zz_0, h_1, of_decide_eq_true h_7, h_7, h_8, h_9])).symm) (by omega)
  exact hL17 _ 0 0 rfl (by omega) (rfl) (by omega)

set_option maxHeartbeats 400000 in
set_option maxRecDepth 100000 in
theorem mX6_line_1b (E : zE) (a : Nat → Nat) (kp ty pl : Nat) (gd : Bool) (od : Nat) (vU vS : Nat → Nat) (vN : Nat → Int32) (vX vM : Nat) (vT : Bool) (vB vK vY vZ vR vC vV : Nat → Int32) (p wh : Int32) (hO : okM vU vS vM vK) (hx : p < 0 ∨ (¬ p < 0 ∧ nI (vU 1) ≤ p)) : zM E yX6_line wsX6_line 7 [.ref (a 0), .int (nI 1), .int p, .int wh] [((a 0), .inr (6, [.ref (a 1), .ref (a 2), .ref (a 3), .int (nI kp), .int (nI ty), .ref (a 4), .int (nI pl), .int (zb gd), .int (nI od), .ref (a 5)])), ((a 1), .inl (E.2.2.1, 512, .inl (mRow vU vS vN vX vM vT vB vK vY vZ vR vC vV)))] [((a 0), .inr (6, [.ref (a 1), .ref (a 2), .ref (a 3), .int (nI kp), .int (nI ty), .ref (a 4), .int (nI pl), .int (zb gd), .int (nI od), .ref (a 5)])), ((a 1), .inl (E.2.2.1, 512, .inl (mRow vU vS vN vX vM vT vB vK vY vZ vR vC vV)))] (some (.int (-1))) := by
  refine zM.of kX6_line (Nat.le_of_ble_eq_true rfl) rfl [some (.ref (a 0)), some (.int (nI 1)), some (.int p), some (.int wh), none, none] rfl (Nat.le_of_ble_eq_true rfl) ?_
  intro X eX C N
  subst eX
  obtain ⟨hu0, hu1, hM, hk1, hk2, hk3⟩ := id hO
  refine z_aload_n C 0 dX6_line_0 rfl rfl ?_
  refine z_iload_n C 1 dX6_line_1 rfl rfl ?_
  refine z_iload_n C 2 dX6_line_2 rfl rfl ?_
  refine z_callVr C kX6_noLine gX6_line_X6_noLine (mX6_noLine_1_n X.2.1 a kp ty pl gd od vU vS vN vX vM vT vB vK vY vZ vR vC vV p hO hx) dX6_line_3 [0, 1] [] 0 rfl nd_0_1 rfl rfl rfl (by decide) (by decide) (Nat.le_of_ble_eq_true rfl) rfl ?_
  refine z_bif_eq_f C 11 dX6_line_6 (by decide) rfl ?_
  refine z_iconst C (-1) dX6_line_9 (by decide) ?_
  exact z_iret C N dX6_line_10 (rfl) (rfl)

set_option maxHeartbeats 400000 in
set_option maxRecDepth 100000 in
theorem mX6_line_b (E : zE) (a : Nat → Nat) (kp ty pl : Nat) (gd : Bool) (od : Nat) (vU vS : Nat → Nat) (vN : Nat → Int32) (vX vM : Nat) (vT : Bool) (vB vK vY vZ vR vC vV : Nat → Int32) (ax p wh : Int32) (hO : okM vU vS vM vK) (hax : ax < 0 ∨ (¬ ax < 0 ∧ nI 1 < ax)) : zM E yX6_line wsX6_line 7 [.ref (a 0), .int ax, .int p, .int wh] [((a 0), .inr (6, [.ref (a 1), .ref (a 2), .ref (a 3), .int (nI kp), .int (nI ty), .ref (a 4), .int (nI pl), .int (zb gd), .int (nI od), .ref (a 5)])), ((a 1), .inl (E.2.2.1, 512, .inl (mRow vU vS vN vX vM vT vB vK vY vZ vR vC vV)))] [((a 0), .inr (6, [.ref (a 1), .ref (a 2), .ref (a 3), .int (nI kp), .int (nI ty), .ref (a 4), .int (nI pl), .int (zb gd), .int (nI od), .ref (a 5)])), ((a 1), .inl (E.2.2.1, 512, .inl (mRow vU vS vN vX vM vT vB vK vY vZ vR vC vV)))] (some (.int (-1))) := by
  refine zM.of kX6_line (Nat.le_of_ble_eq_true rfl) rfl [some (.ref (a 0)), some (.int ax), some (.int p), some (.int wh), none, none] rfl (Nat.le_of_ble_eq_true rfl) ?_
  intro X eX C N
  subst eX
  obtain ⟨hu0, hu1, hM, hk1, hk2, hk3⟩ := id hO
  refine z_aload_n C 0 dX6_line_0 rfl rfl ?_
  refine z_iload_n C 1 dX6_line_1 rfl rfl ?_
  refine z_iload_n C 2 dX6_line_2 rfl rfl ?_
  refine z_callVr C kX6_noLine gX6_line_X6_noLine (mX6_noLine_b X.2.1 a kp ty pl gd od vU vS vN vX vM vT vB vK vY vZ vR vC vV ax p hO hax) dX6_line_3 [0, 1] [] 0 rfl nd_0_1 rfl rfl rfl (by decide) (by decide) (Nat.le_of_ble_eq_true rfl) rfl ?_
  refine z_bif_eq_f C 11 dX6_line_6 (by decide) rfl ?_
  refine z_iconst C (-1) dX6_line_9 (by decide) ?_
  exact z_iret C N dX6_line_10 (rfl) (rfl)

theorem kX6_setting : zY yX6_setting wsX6_setting cX6_setting 6 (some .int) 3 := ⟨⟨_, rfl⟩, ⟨by decide +kernel, by decide +kernel, by decide +kernel⟩, by decide +kernel⟩
set_option maxHeartbeats 400000 in
set_option maxRecDepth 100000 in
theorem mX6_setting_b1 (E : zE) (a : Nat → Nat) (kp ty pl : Nat) (gd : Bool) (od : Nat) (vU vS : Nat → Nat) (vN : Nat → Int32) (vX vM : Nat) (vT : Bool) (vB vK vY vZ vR vC vV : Nat → Int32) (r c x : Int32) (hO : okM vU vS vM vK) (hx : r < 0 ∨ (¬ r < 0 ∧ nI (vU 0) ≤ r)) : zM E yX6_setting wsX6_setting 3 [.ref (a 0), .int r, .int c, .int x] [((a 0), .inr (6, [.ref (a 1), .ref (a 2), .ref (a 3), .int (nI kp), .int (nI ty), .ref (a 4), .int (nI pl), .int (zb gd), .int (nI od), .ref (a 5)])), ((a 1), .inl (E.2.2.1, 512, .inl (mRow vU vS vN vX vM vT vB vK vY vZ vR vC vV)))] [((a 0), .inr (6, [.ref (a 1), .ref (a 2), .ref (a 3), .int (nI kp), .int (nI ty), .ref (a 4), .int (nI pl), .int (zb gd), .int (nI od), .ref (a 5)])), ((a 1), .inl (E.2.2.1, 512, .inl (mRow vU vS vN vX vM vT vB vK vY vZ vR vC vV)))] (some (.int (-1))) := by
  refine zM.of kX6_setting (Nat.le_of_ble_eq_true rfl) rfl [some (.ref (a 0)), some (.int r), some (.int c), some (.int x), none, none] rfl (Nat.le_of_ble_eq_true rfl) ?_
  intro X eX C N
  subst eX
  obtain ⟨hu0, hu1, hM, hk1, hk2, hk3⟩ := id hO
  refine z_aload_n C 0 dX6_setting_0 rfl rfl ?_
  refine z_iconst C (nI 0) dX6_setting_1 (by decide) ?_
  refine z_iload_n C 1 dX6_setting_2 rfl rfl ?_
  refine z_callVr C kX6_noLine gX6_setting_X6_noLine (mX6_noLine_0_n X.2.1 a kp ty pl gd od vU vS vN vX vM vT vB vK vY vZ vR vC vV r hO hx) dX6_setting_3 [0, 1] [] 0 rfl nd_0_1 rfl rfl rfl (by decide) (by decide) (Nat.le_of_ble_eq_true rfl) rfl ?_
  refine z_bif_ne_t C 18 dX6_setting_6 (by decide) rfl ?_
  refine z_iconst C (-1) dX6_setting_18 (by decide) ?_
  exact z_iret C N dX6_setting_19 (rfl) (rfl)

set_option maxHeartbeats 400000 in
set_option maxRecDepth 100000 in
theorem mX6_setting_b2 (E : zE) (a : Nat → Nat) (kp ty pl : Nat) (gd : Bool) (od : Nat) (vU vS : Nat → Nat) (vN : Nat → Int32) (vX vM : Nat) (vT : Bool) (vB vK vY vZ vR vC vV : Nat → Int32) (i : Nat) (c x : Int32) (hO : okM vU vS vM vK) (hi : i < vU 0) (hx : c < 0 ∨ (¬ c < 0 ∧ nI (vU 1) ≤ c)) : zM E yX6_setting wsX6_setting 3 [.ref (a 0), .int (nI i), .int c, .int x] [((a 0), .inr (6, [.ref (a 1), .ref (a 2), .ref (a 3), .int (nI kp), .int (nI ty), .ref (a 4), .int (nI pl), .int (zb gd), .int (nI od), .ref (a 5)])), ((a 1), .inl (E.2.2.1, 512, .inl (mRow vU vS vN vX vM vT vB vK vY vZ vR vC vV)))] [((a 0), .inr (6, [.ref (a 1), .ref (a 2), .ref (a 3), .int (nI kp), .int (nI ty), .ref (a 4), .int (nI pl), .int (zb gd), .int (nI od), .ref (a 5)])), ((a 1), .inl (E.2.2.1, 512, .inl (mRow vU vS vN vX vM vT vB vK vY vZ vR vC vV)))] (some (.int (-1))) := by
  refine zM.of kX6_setting (Nat.le_of_ble_eq_true rfl) rfl [some (.ref (a 0)), some (.int (nI i)), some (.int c), some (.int x), none, none] rfl (Nat.le_of_ble_eq_true rfl) ?_
  intro X eX C N
  subst eX
  obtain ⟨hu0, hu1, hM, hk1, hk2, hk3⟩ := id hO
  refine z_aload_n C 0 dX6_setting_0 rfl rfl ?_
  refine z_iconst C (nI 0) dX6_setting_1 (by decide) ?_
  refine z_iload_n C 1 dX6_setting_2 rfl rfl ?_
  refine z_callVr C kX6_noLine gX6_setting_X6_noLine (mX6_noLine_0_y X.2.1 a kp ty pl gd od vU vS vN vX vM vT vB vK vY vZ vR vC vV i hO hi) dX6_setting_3 [0, 1] [] 0 rfl nd_0_1 rfl rfl rfl (by decide) (by decide) (Nat.le_of_ble_eq_true rfl) rfl ?_
  refine z_bif_ne_f C 18 dX6_setting_6 (by decide) rfl ?_
  refine z_aload_n C 0 dX6_setting_9 rfl rfl ?_
  refine z_iconst C (nI 1) dX6_setting_10 (by decide) ?_
  refine z_iload_n C 2 dX6_setting_11 rfl rfl ?_
  refine z_callVr C kX6_noLine gX6_setting_X6_noLine (mX6_noLine_1_n X.2.1 a kp ty pl gd od vU vS vN vX vM vT vB vK vY vZ vR vC vV c hO hx) dX6_setting_12 [0, 1] [] 0 rfl nd_0_1 rfl rfl rfl (by decide) (by decide) (Nat.le_of_ble_eq_true rfl) rfl ?_
  refine z_bif_eq_f C 20 dX6_setting_15 (by decide) rfl ?_
  refine z_iconst C (-1) dX6_setting_18 (by decide) ?_
  exact z_iret C N dX6_setting_19 (rfl) (rfl)

set_option maxHeartbeats 400000 in
set_option maxRecDepth 100000 in
theorem mX6_setting_b3 (E : zE) (a : Nat → Nat) (kp ty pl : Nat) (gd : Bool) (od : Nat) (vU vS : Nat → Nat) (vN : Nat → Int32) (vX vM : Nat) (vT : Bool) (vB vK vY vZ vR vC vV : Nat → Int32) (i j : Nat) (x : Int32) (hO : okM vU vS vM vK) (hi : i < vU 0) (hj : j < vU 1) (hx : x < 0) : zM E yX6_setting wsX6_setting 3 [.ref (a 0), .int (nI i), .int (nI j), .int x] [((a 0), .inr (6, [.ref (a 1), .ref (a 2), .ref (a 3), .int (nI kp), .int (nI ty), .ref (a 4), .int (nI pl), .int (zb gd), .int (nI od), .ref (a 5)])), ((a 1), .inl (E.2.2.1, 512, .inl (mRow vU vS vN vX vM vT vB vK vY vZ vR vC vV)))] [((a 0), .inr (6, [.ref (a 1), .ref (a 2), .ref (a 3), .int (nI kp), .int (nI ty), .ref (a 4), .int (nI pl), .int (zb gd), .int (nI od), .ref (a 5)])), ((a 1), .inl (E.2.2.1, 512, .inl (mRow vU vS vN vX vM vT vB vK vY vZ vR vC vV)))] (some (.int (-2))) := by
  refine zM.of kX6_setting (Nat.le_of_ble_eq_true rfl) rfl [some (.ref (a 0)), some (.int (nI i)), some (.int (nI j)), some (.int x), none, none] rfl (Nat.le_of_ble_eq_true rfl) ?_
  intro X eX C N
  subst eX
  obtain ⟨hu0, hu1, hM, hk1, hk2, hk3⟩ := id hO
  refine z_aload_n C 0 dX6_setting_0 rfl rfl ?_
  refine z_iconst C (nI 0) dX6_setting_1 (by decide) ?_
  refine z_iload_n C 1 dX6_setting_2 rfl rfl ?_
  refine z_callVr C kX6_noLine gX6_setting_X6_noLine (mX6_noLine_0_y X.2.1 a kp ty pl gd od vU vS vN vX vM vT vB vK vY vZ vR vC vV i hO hi) dX6_setting_3 [0, 1] [] 0 rfl nd_0_1 rfl rfl rfl (by decide) (by decide) (Nat.le_of_ble_eq_true rfl) rfl ?_
  refine z_bif_ne_f C 18 dX6_setting_6 (by decide) rfl ?_
  refine z_aload_n C 0 dX6_setting_9 rfl rfl ?_
  refine z_iconst C (nI 1) dX6_setting_10 (by decide) ?_
  refine z_iload_n C 2 dX6_setting_11 rfl rfl ?_
  refine z_callVr C kX6_noLine gX6_setting_X6_noLine (mX6_noLine_1_y X.2.1 a kp ty pl gd od vU vS vN vX vM vT vB vK vY vZ vR vC vV j hO hj) dX6_setting_12 [0, 1] [] 0 rfl nd_0_1 rfl rfl rfl (by decide) (by decide) (Nat.le_of_ble_eq_true rfl) rfl ?_
  refine z_bif_eq_t C 20 dX6_setting_15 (by decide) rfl ?_
  refine z_iload_n C 3 dX6_setting_20 rfl rfl ?_
  refine z_if_ge_f C 27 dX6_setting_21 (by decide) (Int32.not_le.mpr hx) ?_
  refine z_bipush C (-2) dX6_setting_24 (by decide) ?_
  exact z_iret C N dX6_setting_26 (rfl) (rfl)

theorem fX6_setting_7 : zF wsX6_setting RX6 7 6 0 RX6 TX6 10 := ⟨by decide +kernel, rfl, by decide, by decide +kernel, rfl⟩
set_option maxHeartbeats 400000 in
set_option maxRecDepth 100000 in
theorem mX6_setting (E : zE) (a : Nat → Nat) (kp ty pl : Nat) (gd : Bool) (od : Nat) (vU vS : Nat → Nat) (vN : Nat → Int32) (vX vM : Nat) (vT : Bool) (vB vK vY vZ vR vC vV : Nat → Int32) (i j lv : Nat) (hO : okM vU vS vM vK) (hi : i < vU 0) (hj : j < vU 1) (hlv : lv < 2147483648) : zM E yX6_setting wsX6_setting 3 [.ref (a 0), .int (nI i), .int (nI j), .int (nI lv)] [((a 0), .inr (6, [.ref (a 1), .ref (a 2), .ref (a 3), .int (nI kp), .int (nI ty), .ref (a 4), .int (nI pl), .int (zb gd), .int (nI od), .ref (a 5)])), ((a 1), .inl (E.2.2.1, 512, .inl (mRow vU vS vN vX vM vT vB vK vY vZ vR vC vV)))] [((a 0), .inr (6, [.ref (a 1), .ref (a 2), .ref (a 3), .int (nI kp), .int (nI ty), .ref (a 4), .int (nI pl), .int (zb gd), .int (nI od), .ref (a 5)])), ((a 1), .inl (E.2.2.1, 512, .inl (mRow vU vS vN vX vM vT vB vK vY vZ vR vC vV)))] (some (.int (zf (pK (mSt vZ vK vR vC (mN vS vN 0 i) (mN vS vN 1 j)) (nI lv)) (vM)))) := by
  refine zM.of kX6_setting (Nat.le_of_ble_eq_true rfl) rfl [some (.ref (a 0)), some (.int (nI i)), some (.int (nI j)), some (.int (nI lv)), none, none] rfl (Nat.le_of_ble_eq_true rfl) ?_
  intro X eX C N
  subst eX
  obtain ⟨hu0, hu1, hM, hk1, hk2, hk3⟩ := id hO
  refine z_aload_n C 0 dX6_setting_0 rfl rfl ?_
  refine z_iconst C (nI 0) dX6_setting_1 (by decide) ?_
  refine z_iload_n C 1 dX6_setting_2 rfl rfl ?_
  refine z_callVr C kX6_noLine gX6_setting_X6_noLine (mX6_noLine_0_y X.2.1 a kp ty pl gd od vU vS vN vX vM vT vB vK vY vZ vR vC vV i hO hi) dX6_setting_3 [0, 1] [] 0 rfl nd_0_1 rfl rfl rfl (by decide) (by decide) (Nat.le_of_ble_eq_true rfl) rfl ?_
  refine z_bif_ne_f C 18 dX6_setting_6 (by decide) rfl ?_
  refine z_aload_n C 0 dX6_setting_9 rfl rfl ?_
  refine z_iconst C (nI 1) dX6_setting_10 (by decide) ?_
  refine z_iload_n C 2 dX6_setting_11 rfl rfl ?_
  refine z_callVr C kX6_noLine gX6_setting_X6_noLine (mX6_noLine_1_y X.2.1 a kp ty pl gd od vU vS vN vX vM vT vB vK vY vZ vR vC vV j hO hj) dX6_setting_12 [0, 1] [] 0 rfl nd_0_1 rfl rfl rfl (by decide) (by decide) (Nat.le_of_ble_eq_true rfl) rfl ?_
  refine z_bif_eq_t C 20 dX6_setting_15 (by decide) rfl ?_
  refine z_iload_n C 3 dX6_setting_20 rfl rfl ?_
  refine z_nif_ge_t C 27 dX6_setting_21 (by decide) (by omega) (by trivial) ?_
  refine z_iload_n C 3 dX6_setting_27 rfl rfl ?_
  refine z_istore C dX6_setting_28 (Nat.le_of_ble_eq_true rfl) ?_
  refine z_iconst C (nI 0) dX6_setting_30 (by decide) ?_
  refine z_istore C dX6_setting_31 (Nat.le_of_ble_eq_true rfl) ?_
  have hL33 : ∀ (dd : Nat) (k : Nat) (l9 : Nat), vM - k = dd → (k ≤ vM) → (l9 + zc (mSt vZ vK vR vC (mN vS vN 0 i) (mN vS vN 1 j)) k = lv) → (∀ j9, j9 < k → (pK (mSt vZ vK vR vC (mN vS vN 0 i) (mN vS vN 1 j)) (nI lv)) j9 = false) → zG X 0 0 [((a 0), .inr (6, [.ref (a 1), .ref (a 2), .ref (a 3), .int (nI kp), .int (nI ty), .ref (a 4), .int (nI pl), .int (zb gd), .int (nI od), .ref (a 5)])), ((a 1), .inl (X.2.1.2.2.1, 512, .inl (mRow vU vS vN vX vM vT vB vK vY vZ vR vC vV)))] [some (.ref (a 0)), some (.int (nI i)), some (.int (nI j)), some (.int (nI lv)), some (.int (nI l9)), some (.int (nI k))] [] 33 := by
    intro dd
    induction dd using Nat.strongRecOn with
    | _ dd ih33 =>
    intro k l9 hdd hk hl hf
    refine z_iload C dX6_setting_33 rfl ?_
    refine z_aload_n C 0 dX6_setting_35 rfl rfl ?_
    refine z_get C fX6_setting_7 0 dX6_setting_36 rfl rfl ?_
    refine z_bipush C (nI 51) dX6_setting_39 (by decide) ?_
    refine z_ialdN C 1 dX6_setting_41 rfl (by omega) (by decide) ?_
    refine z_top (y := nI (vM)) (zMr_M) ?_
    refine z_ncmp_ge C 83 dX6_setting_42 (by decide) (by omega) (by omega) (fun h_1 => ?_) (fun h_1 => ?_)
    · refine z_bipush C (-5) dX6_setting_83 (by decide) ?_
      exact z_iret C N dX6_setting_85 (rfl) (by rw [zf_no (fun j hj => hf j (by omega))])
    · refine z_aload_n C 0 dX6_setting_45 rfl rfl ?_
      refine z_iload C dX6_setting_46 rfl ?_
      refine z_aload_n C 0 dX6_setting_48 rfl rfl ?_
      refine z_iconst C (nI 0) dX6_setting_49 (by decide) ?_
      refine z_iload_n C 1 dX6_setting_50 rfl rfl ?_
      refine z_callVr C kX6_nameAt gX6_setting_X6_nameAt (mX6_nameAt_0 X.2.1 a kp ty pl gd od vU vS vN vX vM vT vB vK vY vZ vR vC vV i hO (by first | assumption | omega)) dX6_setting_51 [0, 1] [.int (nI k), .ref (a 0)] 0 rfl nd_0_1 rfl rfl rfl (by decide) (by decide) (Nat.le_of_ble_eq_true rfl) rfl ?_
      refine z_aload_n C 0 dX6_setting_54 rfl rfl ?_
      refine z_iconst C (nI 1) dX6_setting_55 (by decide) ?_
      refine z_iload_n C 2 dX6_setting_56 rfl rfl ?_
      refine z_callVr C kX6_nameAt gX6_setting_X6_nameAt (mX6_nameAt_1 X.2.1 a kp ty pl gd od vU vS vN vX vM vT vB vK vY vZ vR vC vV j hO (by first | assumption | omega)) dX6_setting_57 [0, 1] [.int (mN vS vN 0 i), .int (nI k), .ref (a 0)] 0 rfl nd_0_1 rfl rfl rfl (by decide) (by decide) (Nat.le_of_ble_eq_true rfl) rfl ?_
      refine z_callVr C kX6_isSettingOf gX6_setting_X6_isSettingOf (mX6_isSettingOf X.2.1 a kp ty pl gd od vU vS vN vX vM vT vB vK vY vZ vR vC vV k (mN vS vN 0 i) (mN vS vN 1 j) (by first | assumption | omega)) dX6_setting_60 [0, 1] [] 0 rfl nd_0_1 rfl rfl rfl (by decide) (by decide) (Nat.le_of_ble_eq_true rfl) rfl ?_
      refine z_bif_eq C 77 dX6_setting_63 (by decide) (fun h_2 => ?_) (fun h_2 => ?_)
      · refine z_iinc C (nI (k + 1)) dX6_setting_77 rfl (zi_1 _) ?_
        refine z_goto C 33 dX6_setting_80 (by decide) ?_
        exact ih33 (vM - (k + 1)) (by omega) (k + 1) l9 rfl (by omega) (by have h8 := zc_s (p := (mSt vZ vK vR vC (mN vS vN 0 i) (mN vS vN 1 j))) (k := k); simp only [h_2, if_true, Bool.false_eq_true, if_false] at h8; omega) (lt_s hf (by simp [pK, h_2]))
      · refine z_iload C dX6_setting_66 rfl ?_
        refine z_nif_ne C 74 dX6_setting_68 (by decide) (by omega) (fun h_3 => ?_) (fun h_3 => ?_)
        · refine z_iinc C (nI (l9 - 1)) dX6_setting_74 rfl (zi_p (by omega)) ?_
          refine z_iinc C (nI (k + 1)) dX6_setting_77 rfl (zi_1 _) ?_
          refine z_goto C 33 dX6_setting_80 (by decide) ?_
          exact ih33 (vM - (k + 1)) (by omega) (k + 1) (l9 - 1) rfl (by omega) (by have h8 := zc_s (p := (mSt vZ vK vR vC (mN vS vN 0 i) (mN vS vN 1 j))) (k := k); simp only [h_2, if_true, Bool.false_eq_true, if_false] at h8; omega) (lt_s hf (by have h9 := zc_le (mSt vZ vK vR vC (mN vS vN 0 i) (mN vS vN 1 j)) k; simp only [pK, h_2, Bool.true_and, decide_eq_false_iff_not]; intro q; have := (nI_eq (by omega) (by omega)).mp q; omega))
        · refine z_iload C dX6_setting_71 rfl ?_
          exact z_iret C N dX6_setting_73 (rfl) (by rw [zf_at (k := k) (by omega) (by simp only [pK, h_2, Bool.true_and, decide_eq_true_eq]; exact congrArg nI (by omega)) hf (by omega)])
  exact hL33 _ 0 lv rfl (by omega) (rfl) (fun j h => absurd h (Nat.not_lt_zero j))

theorem kX6_rowPlace : zY yX6_rowPlace wsX6_rowPlace cX6_rowPlace 2 (some .int) 1 := ⟨⟨_, rfl⟩, ⟨by decide +kernel, by decide +kernel, by decide +kernel⟩, by decide +kernel⟩
set_option maxHeartbeats 400000 in
set_option maxRecDepth 100000 in
theorem mX6_rowPlace (E : zE) (a : Nat → Nat) (kp ty pl : Nat) (gd : Bool) (od : Nat) (vU vS : Nat → Nat) (vN : Nat → Int32) (vX vM : Nat) (vT : Bool) (vB vK vY vZ vR vC vV : Nat → Int32) (x : Nat) (hO : okM vU vS vM vK) (hx : x < 60) : zM E yX6_rowPlace wsX6_rowPlace 3 [.ref (a 0), .int (nI x)] [((a 0), .inr (6, [.ref (a 1), .ref (a 2), .ref (a 3), .int (nI kp), .int (nI ty), .ref (a 4), .int (nI pl), .int (zb gd), .int (nI od), .ref (a 5)])), ((a 1), .inl (E.2.2.1, 512, .inl (mRow vU vS vN vX vM vT vB vK vY vZ vR vC vV)))] [((a 0), .inr (6, [.ref (a 1), .ref (a 2), .ref (a 3), .int (nI kp), .int (nI ty), .ref (a 4), .int (nI pl), .int (zb gd), .int (nI od), .ref (a 5)])), ((a 1), .inl (E.2.2.1, 512, .inl (mRow vU vS vN vX vM vT vB vK vY vZ vR vC vV)))] (some (.int (mPlR vR vS vN vU x))) := by
  refine zM.of kX6_rowPlace (Nat.le_of_ble_eq_true rfl) rfl [some (.ref (a 0)), some (.int (nI x))] rfl (Nat.le_of_ble_eq_true rfl) ?_
  intro X eX C N
  subst eX
  obtain ⟨hu0, hu1, hM, hk1, hk2, hk3⟩ := id hO
  refine z_aload_n C 0 dX6_rowPlace_0 rfl rfl ?_
  refine z_iload_n C 1 dX6_rowPlace_1 rfl rfl ?_
  refine z_sipush C (nI 329) dX6_rowPlace_2 (by decide) ?_
  refine z_callVr C kX6_of gX6_rowPlace_X6_of (mX6_of_R X.2.1 a kp ty pl gd od vU vS vN vX vM vT vB vK vY vZ vR vC vV x hx) dX6_rowPlace_5 [0, 1] [] 0 rfl nd_0_1 rfl rfl rfl (by decide) (by decide) (Nat.le_of_ble_eq_true rfl) rfl ?_
  refine z_if_ge C 16 dX6_rowPlace_8 (by decide) (fun h_1 => ?_) (fun h_1 => ?_)
  · refine z_aload_n C 0 dX6_rowPlace_16 rfl rfl ?_
    refine z_iconst C (nI 0) dX6_rowPlace_17 (by decide) ?_
    refine z_aload_n C 0 dX6_rowPlace_18 rfl rfl ?_
    refine z_iload_n C 1 dX6_rowPlace_19 rfl rfl ?_
    refine z_sipush C (nI 329) dX6_rowPlace_20 (by decide) ?_
    refine z_callVr C kX6_of gX6_rowPlace_X6_of (mX6_of_R X.2.1 a kp ty pl gd od vU vS vN vX vM vT vB vK vY vZ vR vC vV x hx) dX6_rowPlace_23 [0, 1] [.int (nI 0), .ref (a 0)] 0 rfl nd_0_1 rfl rfl rfl (by decide) (by decide) (Nat.le_of_ble_eq_true rfl) rfl ?_
    refine z_callVr C kX6_placeOf gX6_rowPlace_X6_placeOf (mX6_placeOf_0 X.2.1 a kp ty pl gd od vU vS vN vX vM vT vB vK vY vZ vR vC vV (vR x) hO) dX6_rowPlace_26 [0, 1] [] 0 rfl nd_0_1 rfl rfl rfl (by decide) (by decide) (Nat.le_of_ble_eq_true rfl) rfl ?_
    exact z_iret C N dX6_rowPlace_29 (rfl) (by unfold mPlR; rw [if_neg (Int32.not_lt.mpr h_1)])
  · refine z_bipush C (-5) dX6_rowPlace_11 (by decide) ?_
    refine z_goto C 29 dX6_rowPlace_13 (by decide) ?_
    exact z_iret C N dX6_rowPlace_29 (rfl) (by unfold mPlR; rw [if_pos (Int32.not_le.mp h_1)])

theorem kX6_columnPlace : zY yX6_columnPlace wsX6_columnPlace cX6_columnPlace 2 (some .int) 1 := ⟨⟨_, rfl⟩, ⟨by decide +kernel, by decide +kernel, by decide +kernel⟩, by decide +kernel⟩
set_option maxHeartbeats 400000 in
set_option maxRecDepth 100000 in
theorem mX6_columnPlace (E : zE) (a : Nat → Nat) (kp ty pl : Nat) (gd : Bool) (od : Nat) (vU vS : Nat → Nat) (vN : Nat → Int32) (vX vM : Nat) (vT : Bool) (vB vK vY vZ vR vC vV : Nat → Int32) (x : Nat) (hO : okM vU vS vM vK) (hx : x < 60) : zM E yX6_columnPlace wsX6_columnPlace 3 [.ref (a 0), .int (nI x)] [((a 0), .inr (6, [.ref (a 1), .ref (a 2), .ref (a 3), .int (nI kp), .int (nI ty), .ref (a 4), .int (nI pl), .int (zb gd), .int (nI od), .ref (a 5)])), ((a 1), .inl (E.2.2.1, 512, .inl (mRow vU vS vN vX vM vT vB vK vY vZ vR vC vV)))] [((a 0), .inr (6, [.ref (a 1), .ref (a 2), .ref (a 3), .int (nI kp), .int (nI ty), .ref (a 4), .int (nI pl), .int (zb gd), .int (nI od), .ref (a 5)])), ((a 1), .inl (E.2.2.1, 512, .inl (mRow vU vS vN vX vM vT vB vK vY vZ vR vC vV)))] (some (.int (mPlC vC vS vN vU x))) := by
  refine zM.of kX6_columnPlace (Nat.le_of_ble_eq_true rfl) rfl [some (.ref (a 0)), some (.int (nI x))] rfl (Nat.le_of_ble_eq_true rfl) ?_
  intro X eX C N
  subst eX
  obtain ⟨hu0, hu1, hM, hk1, hk2, hk3⟩ := id hO
  refine z_aload_n C 0 dX6_columnPlace_0 rfl rfl ?_
  refine z_iload_n C 1 dX6_columnPlace_1 rfl rfl ?_
  refine z_sipush C (nI 389) dX6_columnPlace_2 (by decide) ?_
  refine z_callVr C kX6_of gX6_columnPlace_X6_of (mX6_of_C X.2.1 a kp ty pl gd od vU vS vN vX vM vT vB vK vY vZ vR vC vV x hx) dX6_columnPlace_5 [0, 1] [] 0 rfl nd_0_1 rfl rfl rfl (by decide) (by decide) (Nat.le_of_ble_eq_true rfl) rfl ?_
  refine z_if_ge C 16 dX6_columnPlace_8 (by decide) (fun h_1 => ?_) (fun h_1 => ?_)
  · refine z_aload_n C 0 dX6_columnPlace_16 rfl rfl ?_
    refine z_iconst C (nI 1) dX6_columnPlace_17 (by decide) ?_
    refine z_aload_n C 0 dX6_columnPlace_18 rfl rfl ?_
    refine z_iload_n C 1 dX6_columnPlace_19 rfl rfl ?_
    refine z_sipush C (nI 389) dX6_columnPlace_20 (by decide) ?_
    refine z_callVr C kX6_of gX6_columnPlace_X6_of (mX6_of_C X.2.1 a kp ty pl gd od vU vS vN vX vM vT vB vK vY vZ vR vC vV x hx) dX6_columnPlace_23 [0, 1] [.int (nI 1), .ref (a 0)] 0 rfl nd_0_1 rfl rfl rfl (by decide) (by decide) (Nat.le_of_ble_eq_true rfl) rfl ?_
    refine z_callVr C kX6_placeOf gX6_columnPlace_X6_placeOf (mX6_placeOf_1 X.2.1 a kp ty pl gd od vU vS vN vX vM vT vB vK vY vZ vR vC vV (vC x) hO) dX6_columnPlace_26 [0, 1] [] 0 rfl nd_0_1 rfl rfl rfl (by decide) (by decide) (Nat.le_of_ble_eq_true rfl) rfl ?_
    exact z_iret C N dX6_columnPlace_29 (rfl) (by unfold mPlC; rw [if_neg (Int32.not_lt.mpr h_1)])
  · refine z_bipush C (-5) dX6_columnPlace_11 (by decide) ?_
    refine z_goto C 29 dX6_columnPlace_13 (by decide) ?_
    exact z_iret C N dX6_columnPlace_29 (rfl) (by unfold mPlC; rw [if_pos (Int32.not_le.mp h_1)])

theorem kX6_change : zY yX6_change wsX6_change cX6_change 6 (some .int) 2 := ⟨⟨_, rfl⟩, ⟨by decide +kernel, by decide +kernel, by decide +kernel⟩, by decide +kernel⟩
set_option maxHeartbeats 400000 in
set_option maxRecDepth 100000 in
theorem mX6_change_b (E : zE) (a : Nat → Nat) (kp ty pl : Nat) (gd : Bool) (od : Nat) (vU vS : Nat → Nat) (vN : Nat → Int32) (vX vM : Nat) (vT : Bool) (vB vK vY vZ vR vC vV : Nat → Int32) (x wh : Int32) (hO : okM vU vS vM vK) (hx : x < 0 ∨ (¬ x < 0 ∧ nI (vM) ≤ x)) : zM E yX6_change wsX6_change 5 [.ref (a 0), .int x, .int wh] [((a 0), .inr (6, [.ref (a 1), .ref (a 2), .ref (a 3), .int (nI kp), .int (nI ty), .ref (a 4), .int (nI pl), .int (zb gd), .int (nI od), .ref (a 5)])), ((a 1), .inl (E.2.2.1, 512, .inl (mRow vU vS vN vX vM vT vB vK vY vZ vR vC vV)))] [((a 0), .inr (6, [.ref (a 1), .ref (a 2), .ref (a 3), .int (nI kp), .int (nI ty), .ref (a 4), .int (nI pl), .int (zb gd), .int (nI od), .ref (a 5)])), ((a 1), .inl (E.2.2.1, 512, .inl (mRow vU vS vN vX vM vT vB vK vY vZ vR vC vV)))] (some (.int (-1))) := by
  refine zM.of kX6_change (Nat.le_of_ble_eq_true rfl) rfl [some (.ref (a 0)), some (.int x), some (.int wh), none, none, none] rfl (Nat.le_of_ble_eq_true rfl) ?_
  intro X eX C N
  subst eX
  obtain ⟨hu0, hu1, hM, hk1, hk2, hk3⟩ := id hO
  refine z_aload_n C 0 dX6_change_0 rfl rfl ?_
  refine z_iload_n C 1 dX6_change_1 rfl rfl ?_
  refine z_callVr C kX6_noChange gX6_change_X6_noChange (mX6_noChange_n X.2.1 a kp ty pl gd od vU vS vN vX vM vT vB vK vY vZ vR vC vV x hO hx) dX6_change_2 [0, 1] [] 0 rfl nd_0_1 rfl rfl rfl (by decide) (by decide) (Nat.le_of_ble_eq_true rfl) rfl ?_
  refine z_bif_eq_f C 10 dX6_change_5 (by decide) rfl ?_
  refine z_iconst C (-1) dX6_change_8 (by decide) ?_
  exact z_iret C N dX6_change_9 (rfl) (rfl)

theorem fX6_change_7 : zF wsX6_change RX6 7 6 0 RX6 TX6 10 := ⟨by decide +kernel, rfl, by decide, by decide +kernel, rfl⟩
set_option maxHeartbeats 400000 in
set_option maxRecDepth 100000 in
theorem mX6_change (E : zE) (a : Nat → Nat) (kp ty pl : Nat) (gd : Bool) (od : Nat) (vU vS : Nat → Nat) (vN : Nat → Int32) (vX vM : Nat) (vT : Bool) (vB vK vY vZ vR vC vV : Nat → Int32) (x : Nat) (wh : Int32) (hO : okM vU vS vM vK) (hx : x < vM) (hl : vZ x = 0 → vK x = nI 4 → mpx vS vN vU 0 (vR x) < vU 0 ∧ mpx vS vN vU 1 (vC x) < vU 1) : zM E yX6_change wsX6_change 5 [.ref (a 0), .int (nI x), .int wh] [((a 0), .inr (6, [.ref (a 1), .ref (a 2), .ref (a 3), .int (nI kp), .int (nI ty), .ref (a 4), .int (nI pl), .int (zb gd), .int (nI od), .ref (a 5)])), ((a 1), .inl (E.2.2.1, 512, .inl (mRow vU vS vN vX vM vT vB vK vY vZ vR vC vV)))] [((a 0), .inr (6, [.ref (a 1), .ref (a 2), .ref (a 3), .int (nI kp), .int (nI ty), .ref (a 4), .int (nI pl), .int (zb gd), .int (nI od), .ref (a 5)])), ((a 1), .inl (E.2.2.1, 512, .inl (mRow vU vS vN vX vM vT vB vK vY vZ vR vC vV)))] (some (.int (if wh = nI 0 then vK x else if wh = nI 1 then vY x else if wh = nI 2 then vZ x else if wh = nI 3 then mPlR vR vS vN vU x else if wh = nI 4 then mPlC vC vS vN vU x else if wh = nI 5 then (if vK x = nI 4 then vV x else -5) else if wh = nI 6 then (if vK x = nI 4 ∧ vZ x = 0 then mVB vZ vK vR vC vB vS vV x (vR x) (vC x) (mpx vS vN vU 0 (vR x)) (mpx vS vN vU 1 (vC x)) else -5) else if wh = nI 7 then nI (zc (fun y => mrs vZ vK vR vC x y) (vM)) else if wh = nI 8 then nI (zc (fun y => mrs vZ vK vR vC y x) (vM)) else -2))) := by
  refine zM.of kX6_change (Nat.le_of_ble_eq_true rfl) rfl [some (.ref (a 0)), some (.int (nI x)), some (.int wh), none, none, none] rfl (Nat.le_of_ble_eq_true rfl) ?_
  intro X eX C N
  subst eX
  obtain ⟨hu0, hu1, hM, hk1, hk2, hk3⟩ := id hO
  refine z_aload_n C 0 dX6_change_0 rfl rfl ?_
  refine z_iload_n C 1 dX6_change_1 rfl rfl ?_
  refine z_callVr C kX6_noChange gX6_change_X6_noChange (mX6_noChange_y X.2.1 a kp ty pl gd od vU vS vN vX vM vT vB vK vY vZ vR vC vV x hO hx) dX6_change_2 [0, 1] [] 0 rfl nd_0_1 rfl rfl rfl (by decide) (by decide) (Nat.le_of_ble_eq_true rfl) rfl ?_
  refine z_bif_eq_t C 10 dX6_change_5 (by decide) rfl ?_
  refine z_iconst C (nI 0) dX6_change_10 (by decide) ?_
  refine z_istore_n C 3 dX6_change_11 rfl (Nat.le_of_ble_eq_true rfl) ?_
  refine z_iconst C (nI 0) dX6_change_12 (by decide) ?_
  refine z_istore C dX6_change_13 (Nat.le_of_ble_eq_true rfl) ?_
  refine z_iconst C (nI 0) dX6_change_15 (by decide) ?_
  refine z_istore C dX6_change_16 (Nat.le_of_ble_eq_true rfl) ?_
  have hL18 : ∀ (dd : Nat) (k : Nat) (b9 : Nat) (a9 : Nat), vM - k = dd → (k ≤ vM) → (b9 = zc (fun y => mrs vZ vK vR vC x y) k) → (a9 = zc (fun y => mrs vZ vK vR vC y x) k) → (b9 ≤ k) → (a9 ≤ k) → zG X 0 0 [((a 0), .inr (6, [.ref (a 1), .ref (a 2), .ref (a 3), .int (nI kp), .int (nI ty), .ref (a 4), .int (nI pl), .int (zb gd), .int (nI od), .ref (a 5)])), ((a 1), .inl (X.2.1.2.2.1, 512, .inl (mRow vU vS vN vX vM vT vB vK vY vZ vR vC vV)))] [some (.ref (a 0)), some (.int (nI x)), some (.int wh), some (.int (nI b9)), some (.int (nI a9)), some (.int (nI k))] [] 18 := by
    intro dd
    induction dd using Nat.strongRecOn with
    | _ dd ih18 =>
    intro k b9 a9 hdd hk hb ha hbb hab
    refine z_iload C dX6_change_18 rfl ?_
    refine z_aload_n C 0 dX6_change_20 rfl rfl ?_
    refine z_get C fX6_change_7 0 dX6_change_21 rfl rfl ?_
    refine z_bipush C (nI 51) dX6_change_24 (by decide) ?_
    refine z_ialdN C 1 dX6_change_26 rfl (by omega) (by decide) ?_
    refine z_top (y := nI (vM)) (zMr_M) ?_
    refine z_ncmp_ge C 74 dX6_change_27 (by decide) (by omega) (by omega) (fun h_1 => ?_) (fun h_1 => ?_)
    · refine z_aload_n C 0 dX6_change_74 rfl rfl ?_
      refine z_iload_n C 1 dX6_change_75 rfl rfl ?_
      refine z_sipush C (nI 149) dX6_change_76 (by decide) ?_
      refine z_callVr C kX6_of gX6_change_X6_of (mX6_of_K X.2.1 a kp ty pl gd od vU vS vN vX vM vT vB vK vY vZ vR vC vV x (by first | assumption | omega)) dX6_change_79 [0, 1] [] 0 rfl nd_0_1 rfl rfl rfl (by decide) (by decide) (Nat.le_of_ble_eq_true rfl) rfl ?_
      refine z_iconst C (nI 4) dX6_change_82 (by decide) ?_
      refine z_icmp_ne C 90 dX6_change_83 (by decide) (fun h_2 => ?_) (fun h_2 => ?_)
      · refine z_iconst C (nI 0) dX6_change_90 (by decide) ?_
        refine z_istore C dX6_change_91 (Nat.le_of_ble_eq_true rfl) ?_
        refine z_iload_n C 2 dX6_change_93 rfl rfl ?_
        by_cases hs_3 : wh = nI 0
        · refine z_tsAt C 0 144 dX6_change_94 (by rw [hs_3]; decide) (by decide) rfl (by decide) ?_
          refine z_aload_n C 0 dX6_change_144 rfl rfl ?_
          refine z_iload_n C 1 dX6_change_145 rfl rfl ?_
          refine z_sipush C (nI 149) dX6_change_146 (by decide) ?_
          refine z_callVr C kX6_of gX6_change_X6_of (mX6_of_K X.2.1 a kp ty pl gd od vU vS vN vX vM vT vB vK vY vZ vR vC vV x (by first | assumption | omega)) dX6_change_149 [0, 1] [] 0 rfl nd_0_1 rfl rfl rfl (by decide) (by decide) (Nat.le_of_ble_eq_true rfl) rfl ?_
          exact z_iret C N dX6_change_152 (rfl) (by (repeat (first | rw [if_pos (by assumption)] | rw [if_neg (by assumption)])) <;> (first | rfl | (rw [hb, show k = vM by omega]) | (rw [ha, show k = vM by omega]) | simp [nI_eq, zz_0, h_1, h_2, hs_3]))
        by_cases hs_4 : wh = nI 1
        · refine z_tsAt C 1 153 dX6_change_94 (by rw [hs_4]; decide) (by decide) rfl (by decide) ?_
          refine z_aload_n C 0 dX6_change_153 rfl rfl ?_
          refine z_iload_n C 1 dX6_change_154 rfl rfl ?_
          refine z_sipush C (nI 209) dX6_change_155 (by decide) ?_
          refine z_callVr C kX6_of gX6_change_X6_of (mX6_of_Y X.2.1 a kp ty pl gd od vU vS vN vX vM vT vB vK vY vZ vR vC vV x (by first | assumption | omega)) dX6_change_158 [0, 1] [] 0 rfl nd_0_1 rfl rfl rfl (by decide) (by decide) (Nat.le_of_ble_eq_true rfl) rfl ?_
          exact z_iret C N dX6_change_161 (rfl) (by (repeat (first | rw [if_pos (by assumption)] | rw [if_neg (by assumption)])) <;> (first | rfl | (rw [hb, show k = vM by omega]) | (rw [ha, show k = vM by omega]) | simp [nI_eq, zz_0, h_1, h_2, hs_3, hs_4]))
        by_cases hs_5 : wh = nI 2
        · refine z_tsAt C 2 162 dX6_change_94 (by rw [hs_5]; decide) (by decide) rfl (by decide) ?_
          refine z_aload_n C 0 dX6_change_162 rfl rfl ?_
          refine z_iload_n C 1 dX6_change_163 rfl rfl ?_
          refine z_sipush C (nI 269) dX6_change_164 (by decide) ?_
          refine z_callVr C kX6_of gX6_change_X6_of (mX6_of_Z X.2.1 a kp ty pl gd od vU vS vN vX vM vT vB vK vY vZ vR vC vV x (by first | assumption | omega)) dX6_change_167 [0, 1] [] 0 rfl nd_0_1 rfl rfl rfl (by decide) (by decide) (Nat.le_of_ble_eq_true rfl) rfl ?_
          exact z_iret C N dX6_change_170 (rfl) (by (repeat (first | rw [if_pos (by assumption)] | rw [if_neg (by assumption)])) <;> (first | rfl | (rw [hb, show k = vM by omega]) | (rw [ha, show k = vM by omega]) | simp [nI_eq, zz_0, h_1, h_2, hs_3, hs_4, hs_5]))
        by_cases hs_6 : wh = nI 3
        · refine z_tsAt C 3 171 dX6_change_94 (by rw [hs_6]; decide) (by decide) rfl (by decide) ?_
          refine z_aload_n C 0 dX6_change_171 rfl rfl ?_
          refine z_iload_n C 1 dX6_change_172 rfl rfl ?_
          refine z_callVr C kX6_rowPlace gX6_change_X6_rowPlace (mX6_rowPlace X.2.1 a kp ty pl gd od vU vS vN vX vM vT vB vK vY vZ vR vC vV x hO (by first | assumption | omega)) dX6_change_173 [0, 1] [] 0 rfl nd_0_1 rfl rfl rfl (by decide) (by decide) (Nat.le_of_ble_eq_true rfl) rfl ?_
          exact z_iret C N dX6_change_176 (rfl) (by (repeat (first | rw [if_pos (by assumption)] | rw [if_neg (by assumption)])) <;> (first | rfl | (rw [hb, show k = vM by omega]) | (rw [ha, show k = vM by omega]) | simp [nI_eq, zz_0, h_1, h_2, hs_3, hs_4, hs_5, hs_6]))
        by_cases hs_7 : wh = nI 4
        · refine z_tsAt C 4 177 dX6_change_94 (by rw [hs_7]; decide) (by decide) rfl (by decide) ?_
          refine z_aload_n C 0 dX6_change_177 rfl rfl ?_
          refine z_iload_n C 1 dX6_change_178 rfl rfl ?_
          refine z_callVr C kX6_columnPlace gX6_change_X6_columnPlace (mX6_columnPlace X.2.1 a kp ty pl gd od vU vS vN vX vM vT vB vK vY vZ vR vC vV x hO (by first | assumption | omega)) dX6_change_179 [0, 1] [] 0 rfl nd_0_1 rfl rfl rfl (by decide) (by decide) (Nat.le_of_ble_eq_true rfl) rfl ?_
          exact z_iret C N dX6_change_182 (rfl) (by (repeat (first | rw [if_pos (by assumption)] | rw [if_neg (by assumption)])) <;> (first | rfl | (rw [hb, show k = vM by omega]) | (rw [ha, show k = vM by omega]) | simp [nI_eq, zz_0, h_1, h_2, hs_3, hs_4, hs_5, hs_6, hs_7]))
        by_cases hs_8 : wh = nI 5
        · refine z_tsAt C 5 183 dX6_change_94 (by rw [hs_8]; decide) (by decide) rfl (by decide) ?_
          refine z_iload C dX6_change_183 rfl ?_
          refine z_nif_eq_t C 199 dX6_change_185 (by decide) (by omega) (by omega) ?_
          refine z_bipush C (-5) dX6_change_199 (by decide) ?_
          exact z_iret C N dX6_change_201 (rfl) (by (repeat (first | rw [if_pos (by assumption)] | rw [if_neg (by assumption)])) <;> (first | rfl | (rw [hb, show k = vM by omega]) | (rw [ha, show k = vM by omega]) | simp [nI_eq, zz_0, h_1, h_2, hs_3, hs_4, hs_5, hs_6, hs_7, hs_8]))
        by_cases hs_9 : wh = nI 6
        · refine z_tsAt C 6 202 dX6_change_94 (by rw [hs_9]; decide) (by decide) rfl (by decide) ?_
          refine z_iload C dX6_change_202 rfl ?_
          refine z_nif_eq_t C 239 dX6_change_204 (by decide) (by omega) (by omega) ?_
          refine z_bipush C (-5) dX6_change_239 (by decide) ?_
          exact z_iret C N dX6_change_241 (rfl) (by (repeat (first | rw [if_pos (by assumption)] | rw [if_neg (by assumption)])) <;> (first | rfl | (rw [hb, show k = vM by omega]) | (rw [ha, show k = vM by omega]) | simp [nI_eq, zz_0, h_1, h_2, hs_3, hs_4, hs_5, hs_6, hs_7, hs_8, hs_9]))
        by_cases hs_10 : wh = nI 7
        · refine z_tsAt C 7 242 dX6_change_94 (by rw [hs_10]; decide) (by decide) rfl (by decide) ?_
          refine z_iload_n C 3 dX6_change_242 rfl rfl ?_
          exact z_iret C N dX6_change_243 (rfl) (by (repeat (first | rw [if_pos (by assumption)] | rw [if_neg (by assumption)])) <;> (first | rfl | (rw [hb, show k = vM by omega]) | (rw [ha, show k = vM by omega]) | simp [nI_eq, zz_0, h_1, h_2, hs_3, hs_4, hs_5, hs_6, hs_7, hs_8, hs_9, hs_10]))
        by_cases hs_11 : wh = nI 8
        · refine z_tsAt C 8 244 dX6_change_94 (by rw [hs_11]; decide) (by decide) rfl (by decide) ?_
          refine z_iload C dX6_change_244 rfl ?_
          exact z_iret C N dX6_change_246 (rfl) (by (repeat (first | rw [if_pos (by assumption)] | rw [if_neg (by assumption)])) <;> (first | rfl | (rw [hb, show k = vM by omega]) | (rw [ha, show k = vM by omega]) | simp [nI_eq, zz_0, h_1, h_2, hs_3, hs_4, hs_5, hs_6, hs_7, hs_8, hs_9, hs_10, hs_11]))
        refine z_tsOut C 247 dX6_change_94 (by have e0 := z_neN (c := 0) (by decide) hs_3; have e1 := z_neN (c := 1) (by decide) hs_4; have e2 := z_neN (c := 2) (by decide) hs_5; have e3 := z_neN (c := 3) (by decide) hs_6; have e4 := z_neN (c := 4) (by decide) hs_7; have e5 := z_neN (c := 5) (by decide) hs_8; have e6 := z_neN (c := 6) (by decide) hs_9; have e7 := z_neN (c := 7) (by decide) hs_10; have e8 := z_neN (c := 8) (by decide) hs_11; omega) (by decide) ?_
        refine z_bipush C (-2) dX6_change_247 (by decide) ?_
        exact z_iret C N dX6_change_249 (rfl) (by (repeat (first | rw [if_pos (by assumption)] | rw [if_neg (by assumption)])) <;> (first | rfl | (rw [hb, show k = vM by omega]) | (rw [ha, show k = vM by omega]) | simp [nI_eq, zz_0, h_1, h_2, hs_3, hs_4, hs_5, hs_6, hs_7, hs_8, hs_9, hs_10, hs_11]))
      · refine z_iconst C (nI 1) dX6_change_86 (by decide) ?_
        refine z_goto C 91 dX6_change_87 (by decide) ?_
        refine z_istore C dX6_change_91 (Nat.le_of_ble_eq_true rfl) ?_
        refine z_iload_n C 2 dX6_change_93 rfl rfl ?_
        by_cases hs_12 : wh = nI 0
        · refine z_tsAt C 0 144 dX6_change_94 (by rw [hs_12]; decide) (by decide) rfl (by decide) ?_
          refine z_aload_n C 0 dX6_change_144 rfl rfl ?_
          refine z_iload_n C 1 dX6_change_145 rfl rfl ?_
          refine z_sipush C (nI 149) dX6_change_146 (by decide) ?_
          refine z_callVr C kX6_of gX6_change_X6_of (mX6_of_K X.2.1 a kp ty pl gd od vU vS vN vX vM vT vB vK vY vZ vR vC vV x (by first | assumption | omega)) dX6_change_149 [0, 1] [] 0 rfl nd_0_1 rfl rfl rfl (by decide) (by decide) (Nat.le_of_ble_eq_true rfl) rfl ?_
          exact z_iret C N dX6_change_152 (rfl) (by (repeat (first | rw [if_pos (by assumption)] | rw [if_neg (by assumption)])) <;> (first | rfl | (rw [hb, show k = vM by omega]) | (rw [ha, show k = vM by omega]) | simp [nI_eq, zz_0, h_1, h_2, hs_12]))
        by_cases hs_13 : wh = nI 1
        · refine z_tsAt C 1 153 dX6_change_94 (by rw [hs_13]; decide) (by decide) rfl (by decide) ?_
          refine z_aload_n C 0 dX6_change_153 rfl rfl ?_
          refine z_iload_n C 1 dX6_change_154 rfl rfl ?_
          refine z_sipush C (nI 209) dX6_change_155 (by decide) ?_
          refine z_callVr C kX6_of gX6_change_X6_of (mX6_of_Y X.2.1 a kp ty pl gd od vU vS vN vX vM vT vB vK vY vZ vR vC vV x (by first | assumption | omega)) dX6_change_158 [0, 1] [] 0 rfl nd_0_1 rfl rfl rfl (by decide) (by decide) (Nat.le_of_ble_eq_true rfl) rfl ?_
          exact z_iret C N dX6_change_161 (rfl) (by (repeat (first | rw [if_pos (by assumption)] | rw [if_neg (by assumption)])) <;> (first | rfl | (rw [hb, show k = vM by omega]) | (rw [ha, show k = vM by omega]) | simp [nI_eq, zz_0, h_1, h_2, hs_12, hs_13]))
        by_cases hs_14 : wh = nI 2
        · refine z_tsAt C 2 162 dX6_change_94 (by rw [hs_14]; decide) (by decide) rfl (by decide) ?_
          refine z_aload_n C 0 dX6_change_162 rfl rfl ?_
          refine z_iload_n C 1 dX6_change_163 rfl rfl ?_
          refine z_sipush C (nI 269) dX6_change_164 (by decide) ?_
          refine z_callVr C kX6_of gX6_change_X6_of (mX6_of_Z X.2.1 a kp ty pl gd od vU vS vN vX vM vT vB vK vY vZ vR vC vV x (by first | assumption | omega)) dX6_change_167 [0, 1] [] 0 rfl nd_0_1 rfl rfl rfl (by decide) (by decide) (Nat.le_of_ble_eq_true rfl) rfl ?_
          exact z_iret C N dX6_change_170 (rfl) (by (repeat (first | rw [if_pos (by assumption)] | rw [if_neg (by assumption)])) <;> (first | rfl | (rw [hb, show k = vM by omega]) | (rw [ha, show k = vM by omega]) | simp [nI_eq, zz_0, h_1, h_2, hs_12, hs_13, hs_14]))
        by_cases hs_15 : wh = nI 3
        · refine z_tsAt C 3 171 dX6_change_94 (by rw [hs_15]; decide) (by decide) rfl (by decide) ?_
          refine z_aload_n C 0 dX6_change_171 rfl rfl ?_
          refine z_iload_n C 1 dX6_change_172 rfl rfl ?_
          refine z_callVr C kX6_rowPlace gX6_change_X6_rowPlace (mX6_rowPlace X.2.1 a kp ty pl gd od vU vS vN vX vM vT vB vK vY vZ vR vC vV x hO (by first | assumption | omega)) dX6_change_173 [0, 1] [] 0 rfl nd_0_1 rfl rfl rfl (by decide) (by decide) (Nat.le_of_ble_eq_true rfl) rfl ?_
          exact z_iret C N dX6_change_176 (rfl) (by (repeat (first | rw [if_pos (by assumption)] | rw [if_neg (by assumption)])) <;> (first | rfl | (rw [hb, show k = vM by omega]) | (rw [ha, show k = vM by omega]) | simp [nI_eq, zz_0, h_1, h_2, hs_12, hs_13, hs_14, hs_15]))
        by_cases hs_16 : wh = nI 4
        · refine z_tsAt C 4 177 dX6_change_94 (by rw [hs_16]; decide) (by decide) rfl (by decide) ?_
          refine z_aload_n C 0 dX6_change_177 rfl rfl ?_
          refine z_iload_n C 1 dX6_change_178 rfl rfl ?_
          refine z_callVr C kX6_columnPlace gX6_change_X6_columnPlace (mX6_columnPlace X.2.1 a kp ty pl gd od vU vS vN vX vM vT vB vK vY vZ vR vC vV x hO (by first | assumption | omega)) dX6_change_179 [0, 1] [] 0 rfl nd_0_1 rfl rfl rfl (by decide) (by decide) (Nat.le_of_ble_eq_true rfl) rfl ?_
          exact z_iret C N dX6_change_182 (rfl) (by (repeat (first | rw [if_pos (by assumption)] | rw [if_neg (by assumption)])) <;> (first | rfl | (rw [hb, show k = vM by omega]) | (rw [ha, show k = vM by omega]) | simp [nI_eq, zz_0, h_1, h_2, hs_12, hs_13, hs_14, hs_15, hs_16]))
        by_cases hs_17 : wh = nI 5
        · refine z_tsAt C 5 183 dX6_change_94 (by rw [hs_17]; decide) (by decide) rfl (by decide) ?_
          refine z_iload C dX6_change_183 rfl ?_
          refine z_nif_eq_f C 199 dX6_change_185 (by decide) (by omega) (by omega) ?_
          refine z_aload_n C 0 dX6_change_188 rfl rfl ?_
          refine z_iload_n C 1 dX6_change_189 rfl rfl ?_
          refine z_sipush C (nI 449) dX6_change_190 (by decide) ?_
          refine z_callVr C kX6_of gX6_change_X6_of (mX6_of_V X.2.1 a kp ty pl gd od vU vS vN vX vM vT vB vK vY vZ vR vC vV x (by first | assumption | omega)) dX6_change_193 [0, 1] [] 0 rfl nd_0_1 rfl rfl rfl (by decide) (by decide) (Nat.le_of_ble_eq_true rfl) rfl ?_
          refine z_goto C 201 dX6_change_196 (by decide) ?_
          exact z_iret C N dX6_change_201 (rfl) (by (repeat (first | rw [if_pos (by assumption)] | rw [if_neg (by assumption)])) <;> (first | rfl | (rw [hb, show k = vM by omega]) | (rw [ha, show k = vM by omega]) | simp [nI_eq, zz_0, h_1, h_2, hs_12, hs_13, hs_14, hs_15, hs_16, hs_17]))
        by_cases hs_18 : wh = nI 6
        · refine z_tsAt C 6 202 dX6_change_94 (by rw [hs_18]; decide) (by decide) rfl (by decide) ?_
          refine z_iload C dX6_change_202 rfl ?_
          refine z_nif_eq_f C 239 dX6_change_204 (by decide) (by omega) (by omega) ?_
          refine z_aload_n C 0 dX6_change_207 rfl rfl ?_
          refine z_iload_n C 1 dX6_change_208 rfl rfl ?_
          refine z_callVr C kX6_isPending gX6_change_X6_isPending (mX6_isPending X.2.1 a kp ty pl gd od vU vS vN vX vM vT vB vK vY vZ vR vC vV x (by first | assumption | omega)) dX6_change_209 [0, 1] [] 0 rfl nd_0_1 rfl rfl rfl (by decide) (by decide) (Nat.le_of_ble_eq_true rfl) rfl ?_
          refine z_bif_eq C 239 dX6_change_212 (by decide) (fun h_19 => ?_) (fun h_19 => ?_)
          · refine z_bipush C (-5) dX6_change_239 (by decide) ?_
            exact z_iret C N dX6_change_241 (rfl) (by (repeat (first | rw [if_pos (by assumption)] | rw [if_neg (by assumption)])) <;> (first | rfl | (rw [hb, show k = vM by omega]) | (rw [ha, show k = vM by omega]) | simp [nI_eq, zz_0, h_1, h_2, hs_12, hs_13, hs_14, hs_15, hs_16, hs_17, hs_18, of_decide_eq_false h_19, h_19]))
          · refine z_aload_n C 0 dX6_change_215 rfl rfl ?_
            refine z_iload_n C 1 dX6_change_216 rfl rfl ?_
            refine z_aload_n C 0 dX6_change_217 rfl rfl ?_
            refine z_iload_n C 1 dX6_change_218 rfl rfl ?_
            refine z_sipush C (nI 329) dX6_change_219 (by decide) ?_
            refine z_callVr C kX6_of gX6_change_X6_of (mX6_of_R X.2.1 a kp ty pl gd od vU vS vN vX vM vT vB vK vY vZ vR vC vV x (by first | assumption | omega)) dX6_change_222 [0, 1] [.int (nI x), .ref (a 0)] 0 rfl nd_0_1 rfl rfl rfl (by decide) (by decide) (Nat.le_of_ble_eq_true rfl) rfl ?_
            refine z_aload_n C 0 dX6_change_225 rfl rfl ?_
            refine z_iload_n C 1 dX6_change_226 rfl rfl ?_
            refine z_sipush C (nI 389) dX6_change_227 (by decide) ?_
            refine z_callVr C kX6_of gX6_change_X6_of (mX6_of_C X.2.1 a kp ty pl gd od vU vS vN vX vM vT vB vK vY vZ vR vC vV x (by first | assumption | omega)) dX6_change_230 [0, 1] [.int (vR x), .int (nI x), .ref (a 0)] 0 rfl nd_0_1 rfl rfl rfl (by decide) (by decide) (Nat.le_of_ble_eq_true rfl) rfl ?_
            refine z_callVr C kX6_valueBelow gX6_change_X6_valueBelow (mX6_valueBelow X.2.1 a kp ty pl gd od vU vS vN vX vM vT vB vK vY vZ vR vC vV x (vR x) (vC x) (mpx vS vN vU 0 (vR x)) (mpx vS vN vU 1 (vC x)) hO (by first | assumption | omega) (mPl_x hu0 (hl (by simp_all) (by assumption)).1) ((hl (by simp_all) (by assumption)).1) (mPl_x (by omega) (hl (by simp_all) (by assumption)).2) ((hl (by simp_all) (by assumption)).2)) dX6_change_233 [0, 1] [] 0 rfl nd_0_1 rfl rfl rfl (by decide) (by decide) (Nat.le_of_ble_eq_true rfl) rfl ?_
            refine z_goto C 241 dX6_change_236 (by decide) ?_
            exact z_iret C N dX6_change_241 (rfl) (by (repeat (first | rw [if_pos (by assumption)] | rw [if_neg (by assumption)])) <;> (first | rfl | (rw [hb, show k = vM by omega]) | (rw [ha, show k = vM by omega]) | simp [nI_eq, zz_0, h_1, h_2, hs_12, hs_13, hs_14, hs_15, hs_16, hs_17, hs_18, of_decide_eq_true h_19, h_19]))
        by_cases hs_20 : wh = nI 7
        · refine z_tsAt C 7 242 dX6_change_94 (by rw [hs_20]; decide) (by decide) rfl (by decide) ?_
          refine z_iload_n C 3 dX6_change_242 rfl rfl ?_
          exact z_iret C N dX6_change_243 (rfl) (by (repeat (first | rw [if_pos (by assumption)] | rw [if_neg (by assumption)])) <;> (first | rfl | (rw [hb, show k = vM by omega]) | (rw [ha, show k = vM by omega]) | simp [nI_eq, zz_0, h_1, h_2, hs_12, hs_13, hs_14, hs_15, hs_16, hs_17, hs_18, hs_20]))
        by_cases hs_21 : wh = nI 8
        · refine z_tsAt C 8 244 dX6_change_94 (by rw [hs_21]; decide) (by decide) rfl (by decide) ?_
          refine z_iload C dX6_change_244 rfl ?_
          exact z_iret C N dX6_change_246 (rfl) (by (repeat (first | rw [if_pos (by assumption)] | rw [if_neg (by assumption)])) <;> (first | rfl | (rw [hb, show k = vM by omega]) | (rw [ha, show k = vM by omega]) | simp [nI_eq, zz_0, h_1, h_2, hs_12, hs_13, hs_14, hs_15, hs_16, hs_17, hs_18, hs_20, hs_21]))
        refine z_tsOut C 247 dX6_change_94 (by have e0 := z_neN (c := 0) (by decide) hs_12; have e1 := z_neN (c := 1) (by decide) hs_13; have e2 := z_neN (c := 2) (by decide) hs_14; have e3 := z_neN (c := 3) (by decide) hs_15; have e4 := z_neN (c := 4) (by decide) hs_16; have e5 := z_neN (c := 5) (by decide) hs_17; have e6 := z_neN (c := 6) (by decide) hs_18; have e7 := z_neN (c := 7) (by decide) hs_20; have e8 := z_neN (c := 8) (by decide) hs_21; omega) (by decide) ?_
        refine z_bipush C (-2) dX6_change_247 (by decide) ?_
        exact z_iret C N dX6_change_249 (rfl) (by (repeat (first | rw [if_pos (by assumption)] | rw [if_neg (by assumption)])) <;> (first | rfl | (rw [hb, show k = vM by omega]) | (rw [ha, show k = vM by omega]) | simp [nI_eq, zz_0, h_1, h_2, hs_12, hs_13, hs_14, hs_15, hs_16, hs_17, hs_18, hs_20, hs_21]))
    · refine z_iload_n C 3 dX6_change_30 rfl rfl ?_
      refine z_aload_n C 0 dX6_change_31 rfl rfl ?_
      refine z_iload_n C 1 dX6_change_32 rfl rfl ?_
      refine z_iload C dX6_change_33 rfl ?_
      refine z_callVr C kX6_rests gX6_change_X6_rests (mX6_rests X.2.1 a kp ty pl gd od vU vS vN vX vM vT vB vK vY vZ vR vC vV x k (by first | assumption | omega) (by first | assumption | omega)) dX6_change_35 [0, 1] [.int (nI b9)] 0 rfl nd_0_1 rfl rfl rfl (by decide) (by decide) (Nat.le_of_ble_eq_true rfl) rfl ?_
      refine z_bif_eq C 45 dX6_change_38 (by decide) (fun h_22 => ?_) (fun h_22 => ?_)
      · refine z_iconst C (nI 0) dX6_change_45 (by decide) ?_
        refine z_iadd C dX6_change_46 ?_
        refine z_top (y := nI b9) (nI_add _ _) ?_
        refine z_istore_n C 3 dX6_change_47 rfl (Nat.le_of_ble_eq_true rfl) ?_
        refine z_iload C dX6_change_48 rfl ?_
        refine z_aload_n C 0 dX6_change_50 rfl rfl ?_
        refine z_iload C dX6_change_51 rfl ?_
        refine z_iload_n C 1 dX6_change_53 rfl rfl ?_
        refine z_callVr C kX6_rests gX6_change_X6_rests (mX6_rests X.2.1 a kp ty pl gd od vU vS vN vX vM vT vB vK vY vZ vR vC vV k x (by first | assumption | omega) (by first | assumption | omega)) dX6_change_54 [0, 1] [.int (nI a9)] 0 rfl nd_0_1 rfl rfl rfl (by decide) (by decide) (Nat.le_of_ble_eq_true rfl) rfl ?_
        refine z_bif_eq C 64 dX6_change_57 (by decide) (fun h_23 => ?_) (fun h_23 => ?_)
        · refine z_iconst C (nI 0) dX6_change_64 (by decide) ?_
          refine z_iadd C dX6_change_65 ?_
          refine z_top (y := nI a9) (nI_add _ _) ?_
          refine z_istore C dX6_change_66 (Nat.le_of_ble_eq_true rfl) ?_
          refine z_iinc C (nI (k + 1)) dX6_change_68 rfl (zi_1 _) ?_
          refine z_goto C 18 dX6_change_71 (by decide) ?_
          exact ih18 (vM - (k + 1)) (by omega) (k + 1) b9 a9 rfl (by omega) (by have h8 := zc_s (p := (fun y => mrs vZ vK vR vC x y)) (k := k); simp only [h_22, h_23, if_true, Bool.false_eq_true, if_false] at h8; omega) (by have h8 := zc_s (p := (fun y => mrs vZ vK vR vC y x)) (k := k); simp only [h_22, h_23, if_true, Bool.false_eq_true, if_false] at h8; omega) (by omega) (by omega)
        · refine z_iconst C (nI 1) dX6_change_60 (by decide) ?_
          refine z_goto C 65 dX6_change_61 (by decide) ?_
          refine z_iadd C dX6_change_65 ?_
          refine z_top (y := nI (a9 + 1)) (nI_add _ _) ?_
          refine z_istore C dX6_change_66 (Nat.le_of_ble_eq_true rfl) ?_
          refine z_iinc C (nI (k + 1)) dX6_change_68 rfl (zi_1 _) ?_
          refine z_goto C 18 dX6_change_71 (by decide) ?_
          exact ih18 (vM - (k + 1)) (by omega) (k + 1) b9 (a9 + 1) rfl (by omega) (by have h8 := zc_s (p := (fun y => mrs vZ vK vR vC x y)) (k := k); simp only [h_22, h_23, if_true, Bool.false_eq_true, if_false] at h8; omega) (by have h8 := zc_s (p := (fun y => mrs vZ vK vR vC y x)) (k := k); simp only [h_22, h_23, if_true, Bool.false_eq_true, if_false] at h8; omega) (by omega) (by omega)
      · refine z_iconst C (nI 1) dX6_change_41 (by decide) ?_
        refine z_goto C 46 dX6_change_42 (by decide) ?_
        refine z_iadd C dX6_change_46 ?_
        refine z_top (y := nI (b9 + 1)) (nI_add _ _) ?_
        refine z_istore_n C 3 dX6_change_47 rfl (Nat.le_of_ble_eq_true rfl) ?_
        refine z_iload C dX6_change_48 rfl ?_
        refine z_aload_n C 0 dX6_change_50 rfl rfl ?_
        refine z_iload C dX6_change_51 rfl ?_
        refine z_iload_n C 1 dX6_change_53 rfl rfl ?_
        refine z_callVr C kX6_rests gX6_change_X6_rests (mX6_rests X.2.1 a kp ty pl gd od vU vS vN vX vM vT vB vK vY vZ vR vC vV k x (by first | assumption | omega) (by first | assumption | omega)) dX6_change_54 [0, 1] [.int (nI a9)] 0 rfl nd_0_1 rfl rfl rfl (by decide) (by decide) (Nat.le_of_ble_eq_true rfl) rfl ?_
        refine z_bif_eq C 64 dX6_change_57 (by decide) (fun h_24 => ?_) (fun h_24 => ?_)
        · refine z_iconst C (nI 0) dX6_change_64 (by decide) ?_
          refine z_iadd C dX6_change_65 ?_
          refine z_top (y := nI a9) (nI_add _ _) ?_
          refine z_istore C dX6_change_66 (Nat.le_of_ble_eq_true rfl) ?_
          refine z_iinc C (nI (k + 1)) dX6_change_68 rfl (zi_1 _) ?_
          refine z_goto C 18 dX6_change_71 (by decide) ?_
          exact ih18 (vM - (k + 1)) (by omega) (k + 1) (b9 + 1) a9 rfl (by omega) (by have h8 := zc_s (p := (fun y => mrs vZ vK vR vC x y)) (k := k); simp only [h_22, h_24, if_true, Bool.false_eq_true, if_false] at h8; omega) (by have h8 := zc_s (p := (fun y => mrs vZ vK vR vC y x)) (k := k); simp only [h_22, h_24, if_true, Bool.false_eq_true, if_false] at h8; omega) (by omega) (by omega)
        · refine z_iconst C (nI 1) dX6_change_60 (by decide) ?_
          refine z_goto C 65 dX6_change_61 (by decide) ?_
          refine z_iadd C dX6_change_65 ?_
          refine z_top (y := nI (a9 + 1)) (nI_add _ _) ?_
          refine z_istore C dX6_change_66 (Nat.le_of_ble_eq_true rfl) ?_
          refine z_iinc C (nI (k + 1)) dX6_change_68 rfl (zi_1 _) ?_
          refine z_goto C 18 dX6_change_71 (by decide) ?_
          exact ih18 (vM - (k + 1)) (by omega) (k + 1) (b9 + 1) (a9 + 1) rfl (by omega) (by have h8 := zc_s (p := (fun y => mrs vZ vK vR vC x y)) (k := k); simp only [h_22, h_24, if_true, Bool.false_eq_true, if_false] at h8; omega) (by have h8 := zc_s (p := (fun y => mrs vZ vK vR vC y x)) (k := k); simp only [h_22, h_24, if_true, Bool.false_eq_true, if_false] at h8; omega) (by omega) (by omega)
  exact hL18 _ 0 0 0 rfl (by omega) (rfl) (rfl) (by omega) (by omega)

theorem kX6_restsOn : zY yX6_restsOn wsX6_restsOn cX6_restsOn 3 (some .int) 2 := ⟨⟨_, rfl⟩, ⟨by decide +kernel, by decide +kernel, by decide +kernel⟩, by decide +kernel⟩
set_option maxHeartbeats 400000 in
set_option maxRecDepth 100000 in
theorem mX6_restsOn_b1 (E : zE) (a : Nat → Nat) (kp ty pl : Nat) (gd : Bool) (od : Nat) (vU vS : Nat → Nat) (vN : Nat → Int32) (vX vM : Nat) (vT : Bool) (vB vK vY vZ vR vC vV : Nat → Int32) (x y : Int32) (hO : okM vU vS vM vK) (hx : x < 0 ∨ (¬ x < 0 ∧ nI (vM) ≤ x)) : zM E yX6_restsOn wsX6_restsOn 4 [.ref (a 0), .int x, .int y] [((a 0), .inr (6, [.ref (a 1), .ref (a 2), .ref (a 3), .int (nI kp), .int (nI ty), .ref (a 4), .int (nI pl), .int (zb gd), .int (nI od), .ref (a 5)])), ((a 1), .inl (E.2.2.1, 512, .inl (mRow vU vS vN vX vM vT vB vK vY vZ vR vC vV)))] [((a 0), .inr (6, [.ref (a 1), .ref (a 2), .ref (a 3), .int (nI kp), .int (nI ty), .ref (a 4), .int (nI pl), .int (zb gd), .int (nI od), .ref (a 5)])), ((a 1), .inl (E.2.2.1, 512, .inl (mRow vU vS vN vX vM vT vB vK vY vZ vR vC vV)))] (some (.int (-1))) := by
  refine zM.of kX6_restsOn (Nat.le_of_ble_eq_true rfl) rfl [some (.ref (a 0)), some (.int x), some (.int y)] rfl (Nat.le_of_ble_eq_true rfl) ?_
  intro X eX C N
  subst eX
  obtain ⟨hu0, hu1, hM, hk1, hk2, hk3⟩ := id hO
  refine z_aload_n C 0 dX6_restsOn_0 rfl rfl ?_
  refine z_iload_n C 1 dX6_restsOn_1 rfl rfl ?_
  refine z_callVr C kX6_noChange gX6_restsOn_X6_noChange (mX6_noChange_n X.2.1 a kp ty pl gd od vU vS vN vX vM vT vB vK vY vZ vR vC vV x hO hx) dX6_restsOn_2 [0, 1] [] 0 rfl nd_0_1 rfl rfl rfl (by decide) (by decide) (Nat.le_of_ble_eq_true rfl) rfl ?_
  refine z_bif_ne_t C 16 dX6_restsOn_5 (by decide) rfl ?_
  refine z_iconst C (-1) dX6_restsOn_16 (by decide) ?_
  exact z_iret C N dX6_restsOn_17 (rfl) (rfl)

