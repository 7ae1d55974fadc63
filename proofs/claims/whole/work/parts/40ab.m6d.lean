set_option maxHeartbeats 400000 in
set_option maxRecDepth 100000 in
theorem mX6_rejectWith_2 (E : zE) (a : Nat → Nat) (kp ty pl : Nat) (gd : Bool) (od : Nat) (vU vS : Nat → Nat) (vN : Nat → Int32) (vX vM : Nat) (vT : Bool) (vB vK vY vZ vR vC vV : Nat → Int32) (x : Nat) (hO : okM vU vS vM vK) (hx : x < vM) (hkx : vK x = nI 2) (hj : mpx vS vN vU 1 (vC x) < vU 1) : zM E yX6_rejectWith wsX6_rejectWith 4 [.ref (a 0), .int (nI x)] [((a 0), .inr (6, [.ref (a 1), .ref (a 2), .ref (a 3), .int (nI kp), .int (nI ty), .ref (a 4), .int (nI pl), .int (zb gd), .int (nI od), .ref (a 5)])), ((a 1), .inl (E.2.2.1, 512, .inl (mRow vU vS vN vX vM vT vB vK vY vZ vR vC vV)))] [((a 0), .inr (6, [.ref (a 1), .ref (a 2), .ref (a 3), .int (nI kp), .int (nI ty), .ref (a 4), .int (nI pl), .int (zb gd), .int (nI od), .ref (a 5)])), ((a 1), .inl (E.2.2.1, 512, .inl (mRow (zUpN vU 1 (vU 1 - 1)) (mClL vS (12 * 1) (mpx vS vN vU 1 (vC x)) (vU 1 - 1)) vN vX vM vT vB vK vY (upd (mMk vZ (fun y => mrs vZ vK vR vC y x) (nI 2) vM) x (nI 2)) vR vC vV)))] (some (.int (nI (zc (fun y => mrs vZ vK vR vC y x) (vM) + 1)))) := by
  refine zM.of kX6_rejectWith (Nat.le_of_ble_eq_true rfl) rfl [some (.ref (a 0)), some (.int (nI x)), none, none] rfl (Nat.le_of_ble_eq_true rfl) ?_
  intro X eX C N
  subst eX
  obtain ⟨hu0, hu1, hM, hk1, hk2, hk3⟩ := id hO
  refine z_iconst C (nI 1) dX6_rejectWith_0 (by decide) ?_
  refine z_istore_n C 2 dX6_rejectWith_1 rfl (Nat.le_of_ble_eq_true rfl) ?_
  refine z_aload_n C 0 dX6_rejectWith_2 rfl rfl ?_
  refine z_get C fX6_rejectWith_7 0 dX6_rejectWith_3 rfl rfl ?_
  refine z_bipush C (nI 51) dX6_rejectWith_6 (by decide) ?_
  refine z_ialdN C 1 dX6_rejectWith_8 rfl (by omega) (by decide) ?_
  refine z_top (y := nI (vM)) (zMr_M) ?_
  refine z_iconst C (nI 1) dX6_rejectWith_9 (by decide) ?_
  refine z_isub C dX6_rejectWith_10 ?_
  refine z_top (y := nI (vM) + (-1)) (zi_s _) ?_
  refine z_istore_n C 3 dX6_rejectWith_11 rfl (Nat.le_of_ble_eq_true rfl) ?_
  have hL12 : ∀ (dd : Nat) (k : Nat) (z' : Nat → Int32) (n9 : Nat), k = dd → (k ≤ vM) → (z' = mMd (vZ) (fun y => mrs vZ vK vR vC y x) (nI 2) (vM) k) → (n9 + zc (fun y => mrs vZ vK vR vC y x) k = zc (fun y => mrs vZ vK vR vC y x) (vM) + 1) → zG X 0 0 [((a 0), .inr (6, [.ref (a 1), .ref (a 2), .ref (a 3), .int (nI kp), .int (nI ty), .ref (a 4), .int (nI pl), .int (zb gd), .int (nI od), .ref (a 5)])), ((a 1), .inl (X.2.1.2.2.1, 512, .inl (mRow vU vS vN vX vM vT vB vK vY z' vR vC vV)))] [some (.ref (a 0)), some (.int (nI x)), some (.int (nI n9)), some (.int (nI k + (-1)))] [] 12 := by
    intro dd
    induction dd using Nat.strongRecOn with
    | _ dd ih12 =>
    intro k z' n9 hdd hk hz hn
    have hN9 := zc_le (fun y => mrs vZ vK vR vC y x) (vM)
    have hn2 : n9 ≤ vM + 1 := by omega
    cases k with
    | zero =>
      refine z_cv (lv' := [some (.ref (a 0)), some (.int (nI x)), some (.int (nI n9)), some (.int (-1))]) rfl (rfl) rfl ?_
      refine z_iload_n C 3 dX6_rejectWith_12 rfl rfl ?_
      refine z_if_lt_t C 45 dX6_rejectWith_13 (by decide) (by decide) ?_
      refine z_aload_n C 0 dX6_rejectWith_45 rfl rfl ?_
      refine z_get C fX6_rejectWith_7 0 dX6_rejectWith_46 rfl rfl ?_
      refine z_sipush C (nI 269) dX6_rejectWith_49 (by decide) ?_
      refine z_iload_n C 1 dX6_rejectWith_52 rfl rfl ?_
      refine z_iadd C dX6_rejectWith_53 ?_
      refine z_top (y := nI (269 + x)) (nI_add _ _) ?_
      refine z_iconst C (nI 2) dX6_rejectWith_54 (by decide) ?_
      refine z_iastR C 1 dX6_rejectWith_55 rfl (by omega) (by decide) (f' := mRow vU vS vN vX vM vT vB vK vY (upd z' x (nI 2)) vR vC vV) ((congrArg (fun i9 => upd (mRow vU vS vN vX vM vT vB vK vY z' vR vC vV) i9 (nI 2)) (show 269 + x = 269 + (x) by omega)).trans (zMw_Z (by omega))) ?_
      refine z_cv (ws' := [((a 0), .inr (6, [.ref (a 1), .ref (a 2), .ref (a 3), .int (nI kp), .int (nI ty), .ref (a 4), .int (nI pl), .int (zb gd), .int (nI od), .ref (a 5)])), ((a 1), .inl (X.2.1.2.2.1, 512, .inl (mRow vU vS vN vX vM vT vB vK vY (upd (mMk vZ (fun y => mrs vZ vK vR vC y x) (nI 2) vM) x (nI 2)) vR vC vV)))]) (by rw [hz, mMd_0] <;> rfl) rfl rfl ?_
      refine z_aload_n C 0 dX6_rejectWith_56 rfl rfl ?_
      refine z_iload_n C 1 dX6_rejectWith_57 rfl rfl ?_
      refine z_sipush C (nI 149) dX6_rejectWith_58 (by decide) ?_
      refine z_callVr C kX6_of gX6_rejectWith_X6_of (mX6_of_K X.2.1 a kp ty pl gd od vU vS vN vX vM vT vB vK vY (upd (mMk vZ (fun y => mrs vZ vK vR vC y x) (nI 2) vM) x (nI 2)) vR vC vV x (by first | assumption | omega)) dX6_rejectWith_61 [0, 1] [] 0 rfl nd_0_1 rfl rfl rfl (by decide) (by decide) (Nat.le_of_ble_eq_true rfl) rfl ?_
      refine z_top (y := vK x) rfl ?_
      refine z_top (y := nI 2) (hkx) ?_
      refine z_istore_n C 3 dX6_rejectWith_64 rfl (Nat.le_of_ble_eq_true rfl) ?_
      refine z_iload_n C 3 dX6_rejectWith_65 rfl rfl ?_
      refine z_nif_eq_f C 74 dX6_rejectWith_66 (by decide) (by omega) (by omega) ?_
      refine z_iload_n C 3 dX6_rejectWith_69 rfl rfl ?_
      refine z_iconst C (nI 2) dX6_rejectWith_70 (by decide) ?_
      refine z_ncmp_ne_f C 106 dX6_rejectWith_71 (by decide) (by omega) (by omega) (by omega) ?_
      refine z_aload_n C 0 dX6_rejectWith_74 rfl rfl ?_
      refine z_iload_n C 3 dX6_rejectWith_75 rfl rfl ?_
      refine z_iconst C (nI 2) dX6_rejectWith_76 (by decide) ?_
      refine z_idiv C dX6_rejectWith_77 (by decide) ?_
      refine z_top (y := nI 1) (by decide) ?_
      refine z_aload_n C 0 dX6_rejectWith_78 rfl rfl ?_
      refine z_iload_n C 3 dX6_rejectWith_79 rfl rfl ?_
      refine z_iconst C (nI 2) dX6_rejectWith_80 (by decide) ?_
      refine z_idiv C dX6_rejectWith_81 (by decide) ?_
      refine z_top (y := nI 1) (by decide) ?_
      refine z_aload_n C 0 dX6_rejectWith_82 rfl rfl ?_
      refine z_iload_n C 1 dX6_rejectWith_83 rfl rfl ?_
      refine z_iload_n C 3 dX6_rejectWith_84 rfl rfl ?_
      refine z_nif_ne_t C 94 dX6_rejectWith_85 (by decide) (by omega) (by omega) ?_
      refine z_sipush C (nI 389) dX6_rejectWith_94 (by decide) ?_
      refine z_callVr C kX6_of gX6_rejectWith_X6_of (mX6_of_C X.2.1 a kp ty pl gd od vU vS vN vX vM vT vB vK vY (upd (mMk vZ (fun y => mrs vZ vK vR vC y x) (nI 2) vM) x (nI 2)) vR vC vV x (by first | assumption | omega)) dX6_rejectWith_97 [0, 1] [.int (nI 1), .ref (a 0), .int (nI 1), .ref (a 0)] 0 rfl nd_0_1 rfl rfl rfl (by decide) (by decide) (Nat.le_of_ble_eq_true rfl) rfl ?_
      refine z_top (y := vC x) rfl ?_
      refine z_callVr C kX6_placeOf gX6_rejectWith_X6_placeOf (mX6_placeOf_1 X.2.1 a kp ty pl gd od vU vS vN vX vM vT vB vK vY (upd (mMk vZ (fun y => mrs vZ vK vR vC y x) (nI 2) vM) x (nI 2)) vR vC vV (vC x) hO) dX6_rejectWith_100 [0, 1] [.int (nI 1), .ref (a 0)] 0 rfl nd_0_1 rfl rfl rfl (by decide) (by decide) (Nat.le_of_ble_eq_true rfl) rfl ?_
      refine z_top (y := mPl vS vN vU 1 (vC x)) rfl ?_
      refine z_top (y := nI (mpx vS vN vU 1 (vC x))) (mPl_x (by omega) hj) ?_
      refine z_callVv (wn := [((a 0), .inr (6, [.ref (a 1), .ref (a 2), .ref (a 3), .int (nI kp), .int (nI ty), .ref (a 4), .int (nI pl), .int (zb gd), .int (nI od), .ref (a 5)])), ((a 1), .inl (X.2.1.2.2.1, 512, .inl (mRow (zUpN vU 1 (vU 1 - 1)) (mClL vS (12 * 1) (mpx vS vN vU 1 (vC x)) (vU 1 - 1)) vN vX vM vT vB vK vY (upd (mMk vZ (fun y => mrs vZ vK vR vC y x) (nI 2) vM) x (nI 2)) vR vC vV)))]) C kX6_takeLine gX6_rejectWith_X6_takeLine (mX6_takeLine_1 X.2.1 a kp ty pl gd od vU vS vN vX vM vT vB vK vY (upd (mMk vZ (fun y => mrs vZ vK vR vC y x) (nI 2) vM) x (nI 2)) vR vC vV (mpx vS vN vU 1 (vC x)) hO hj) dX6_rejectWith_103 [0, 1] [] 0 rfl rfl nd_0_1 rfl rfl rfl (by decide) (by decide) (Nat.le_of_ble_eq_true rfl) rfl rfl ?_
      have hg_1 : okM (zUpN vU 1 (vU 1 - 1)) (mClL vS (12 * 1) (mpx vS vN vU 1 (vC x)) (vU 1 - 1)) vM vK := okM_Tk_1 (by assumption) (by omega)
      refine z_iload_n C 2 dX6_rejectWith_106 rfl rfl ?_
      exact z_iret C N dX6_rejectWith_107 (rfl) (congrArg (fun x => some (Value.int (nI x))) (show n9 = zc (fun y => mrs vZ vK vR vC y x) (vM) + 1 from by simpa [zc] using hn))
    | succ k =>
      refine z_cv (lv' := [some (.ref (a 0)), some (.int (nI x)), some (.int (nI n9)), some (.int (nI k))]) rfl (by rw [show nI (k + 1) + (-1) = nI k from pk_m1 k]) rfl ?_
      refine z_iload_n C 3 dX6_rejectWith_12 rfl rfl ?_
      refine z_nif_lt_f C 45 dX6_rejectWith_13 (by decide) (by omega) (by trivial) ?_
      refine z_aload_n C 0 dX6_rejectWith_16 rfl rfl ?_
      refine z_iload_n C 3 dX6_rejectWith_17 rfl rfl ?_
      refine z_iload_n C 1 dX6_rejectWith_18 rfl rfl ?_
      refine z_callVr C kX6_rests gX6_rejectWith_X6_rests (mX6_rests X.2.1 a kp ty pl gd od vU vS vN vX vM vT vB vK vY z' vR vC vV k x (by first | assumption | omega) (by first | assumption | omega)) dX6_rejectWith_19 [0, 1] [] 0 rfl nd_0_1 rfl rfl rfl (by decide) (by decide) (Nat.le_of_ble_eq_true rfl) rfl ?_
      refine z_bif_eq C 39 dX6_rejectWith_22 (by decide) (fun h_2 => ?_) (fun h_2 => ?_)
      · refine z_iinc C (nI k + (-1)) dX6_rejectWith_39 rfl (zi_m _) ?_
        refine z_goto C 12 dX6_rejectWith_42 (by decide) ?_
        exact ih12 (k) (by omega) k z' n9 rfl (by omega) (by subst hz; first | exact mMd_y (p := (fun y => mrs vZ vK vR vC y x)) (by omega) (mrs_Md.symm.trans h_2) | exact mMd_n (p := (fun y => mrs vZ vK vR vC y x)) (mrs_Md.symm.trans h_2)) (by subst hz; have h7 := mrs_Md.symm.trans h_2; have h8 := zc_s (p := (fun y => mrs vZ vK vR vC y x)) (k := k); simp only [h7, if_true, Bool.false_eq_true, if_false] at h8; omega)
      · refine z_aload_n C 0 dX6_rejectWith_25 rfl rfl ?_
        refine z_get C fX6_rejectWith_7 0 dX6_rejectWith_26 rfl rfl ?_
        refine z_sipush C (nI 269) dX6_rejectWith_29 (by decide) ?_
        refine z_iload_n C 3 dX6_rejectWith_32 rfl rfl ?_
        refine z_iadd C dX6_rejectWith_33 ?_
        refine z_top (y := nI (269 + k)) (nI_add _ _) ?_
        refine z_iconst C (nI 2) dX6_rejectWith_34 (by decide) ?_
        refine z_iastR C 1 dX6_rejectWith_35 rfl (by omega) (by decide) (f' := mRow vU vS vN vX vM vT vB vK vY (upd z' k (nI 2)) vR vC vV) ((congrArg (fun i9 => upd (mRow vU vS vN vX vM vT vB vK vY z' vR vC vV) i9 (nI 2)) (show 269 + k = 269 + (k) by omega)).trans (zMw_Z (by omega))) ?_
        refine z_iinc C (nI (n9 + 1)) dX6_rejectWith_36 rfl (zi_1 _) ?_
        refine z_iinc C (nI k + (-1)) dX6_rejectWith_39 rfl (zi_m _) ?_
        refine z_goto C 12 dX6_rejectWith_42 (by decide) ?_
        exact ih12 (k) (by omega) k (upd z' k (nI 2)) (n9 + 1) rfl (by omega) (by subst hz; first | exact mMd_y (p := (fun y => mrs vZ vK vR vC y x)) (by omega) (mrs_Md.symm.trans h_2) | exact mMd_n (p := (fun y => mrs vZ vK vR vC y x)) (mrs_Md.symm.trans h_2)) (by subst hz; have h7 := mrs_Md.symm.trans h_2; have h8 := zc_s (p := (fun y => mrs vZ vK vR vC y x)) (k := k); simp only [h7, if_true, Bool.false_eq_true, if_false] at h8; omega)
  exact hL12 _ (vM) (vZ) 1 rfl (Nat.le_refl _) ((mMd_m _ _ _ _).symm) (by omega)
