theorem kX6_isIn : zY yX6_isIn wsX6_isIn cX6_isIn 4 (some .boolean) 3 := ⟨⟨_, rfl⟩, ⟨by decide +kernel, by decide +kernel, by decide +kernel⟩, by decide +kernel⟩
set_option maxHeartbeats 400000 in
set_option maxRecDepth 100000 in
theorem mX6_isIn_0 (E : zE) (a : Nat → Nat) (kp ty pl : Nat) (gd : Bool) (od : Nat) (vU vS : Nat → Nat) (vN : Nat → Int32) (vX vM : Nat) (vT : Bool) (vB vK vY vZ vR vC vV : Nat → Int32) (v p : Nat) (hO : okM vU vS vM vK) (hv : v < 3) (hp : p < 12) : zM E yX6_isIn wsX6_isIn 5 [.ref (a 0), .int (nI v), .int (nI 0), .int (nI p)] [((a 0), .inr (6, [.ref (a 1), .ref (a 2), .ref (a 3), .int (nI kp), .int (nI ty), .ref (a 4), .int (nI pl), .int (zb gd), .int (nI od), .ref (a 5)])), ((a 1), .inl (E.2.2.1, 512, .inl (mRow vU vS vN vX vM vT vB vK vY vZ vR vC vV)))] [((a 0), .inr (6, [.ref (a 1), .ref (a 2), .ref (a 3), .int (nI kp), .int (nI ty), .ref (a 4), .int (nI pl), .int (zb gd), .int (nI od), .ref (a 5)])), ((a 1), .inl (E.2.2.1, 512, .inl (mRow vU vS vN vX vM vT vB vK vY vZ vR vC vV)))] (some (.int (zb (mVw vZ vK vR vC vS vN vM v 0 p)))) := by
  refine zM.of kX6_isIn (Nat.le_of_ble_eq_true rfl) rfl [some (.ref (a 0)), some (.int (nI v)), some (.int (nI 0)), some (.int (nI p))] rfl (Nat.le_of_ble_eq_true rfl) ?_
  intro X eX C N
  subst eX
  obtain ⟨hu0, hu1, hM, hk1, hk2, hk3⟩ := id hO
  refine z_iload_n C 1 dX6_isIn_0 rfl rfl ?_
  refine z_nif_eq C 30 dX6_isIn_1 (by decide) (by omega) (fun h_1 => ?_) (fun h_1 => ?_)
  · refine z_iconst C (nI 1) dX6_isIn_30 (by decide) ?_
    refine z_goto C 35 dX6_isIn_31 (by decide) ?_
    exact z_zret C N dX6_isIn_35 rfl (rfl) (congrArg (fun x => some (Value.int x)) (zb_t (by unfold mVw; (repeat (first | rw [if_pos (by omega)] | rw [if_neg (by omega)])) <;> simp [h_1])).symm)
  · refine z_iload_n C 1 dX6_isIn_4 rfl rfl ?_
    refine z_iconst C (nI 1) dX6_isIn_5 (by decide) ?_
    refine z_ncmp_ne C 21 dX6_isIn_6 (by decide) (by omega) (by omega) (fun h_2 => ?_) (fun h_2 => ?_)
    · refine z_aload_n C 0 dX6_isIn_21 rfl rfl ?_
      refine z_iload_n C 2 dX6_isIn_22 rfl rfl ?_
      refine z_iload_n C 3 dX6_isIn_23 rfl rfl ?_
      refine z_callVr C kX6_isNew gX6_isIn_X6_isNew (mX6_isNew_0 X.2.1 a kp ty pl gd od vU vS vN vX vM vT vB vK vY vZ vR vC vV p hO hp) dX6_isIn_24 [0, 1] [] 0 rfl nd_0_1 rfl rfl rfl (by decide) (by decide) (Nat.le_of_ble_eq_true rfl) rfl ?_
      refine z_bif_ne C 34 dX6_isIn_27 (by decide) (fun h_3 => ?_) (fun h_3 => ?_)
      · refine z_iconst C (nI 0) dX6_isIn_34 (by decide) ?_
        exact z_zret C N dX6_isIn_35 rfl (rfl) (congrArg (fun x => some (Value.int x)) (zb_f (by unfold mVw; (repeat (first | rw [if_pos (by omega)] | rw [if_neg (by omega)])) <;> simp [h_1, h_2, h_3])).symm)
      · refine z_iconst C (nI 1) dX6_isIn_30 (by decide) ?_
        refine z_goto C 35 dX6_isIn_31 (by decide) ?_
        exact z_zret C N dX6_isIn_35 rfl (rfl) (congrArg (fun x => some (Value.int x)) (zb_t (by unfold mVw; (repeat (first | rw [if_pos (by omega)] | rw [if_neg (by omega)])) <;> simp [h_1, h_2, h_3])).symm)
    · refine z_aload_n C 0 dX6_isIn_9 rfl rfl ?_
      refine z_iload_n C 2 dX6_isIn_10 rfl rfl ?_
      refine z_iload_n C 3 dX6_isIn_11 rfl rfl ?_
      refine z_callVr C kX6_isDoomed gX6_isIn_X6_isDoomed (mX6_isDoomed_0 X.2.1 a kp ty pl gd od vU vS vN vX vM vT vB vK vY vZ vR vC vV p hO hp) dX6_isIn_12 [0, 1] [] 0 rfl nd_0_1 rfl rfl rfl (by decide) (by decide) (Nat.le_of_ble_eq_true rfl) rfl ?_
      refine z_bif_ne C 34 dX6_isIn_15 (by decide) (fun h_4 => ?_) (fun h_4 => ?_)
      · refine z_iconst C (nI 0) dX6_isIn_34 (by decide) ?_
        exact z_zret C N dX6_isIn_35 rfl (rfl) (congrArg (fun x => some (Value.int x)) (zb_f (by unfold mVw; (repeat (first | rw [if_pos (by omega)] | rw [if_neg (by omega)])) <;> simp [h_1, h_2, h_4])).symm)
      · refine z_goto C 30 dX6_isIn_18 (by decide) ?_
        refine z_iconst C (nI 1) dX6_isIn_30 (by decide) ?_
        refine z_goto C 35 dX6_isIn_31 (by decide) ?_
        exact z_zret C N dX6_isIn_35 rfl (rfl) (congrArg (fun x => some (Value.int x)) (zb_t (by unfold mVw; (repeat (first | rw [if_pos (by omega)] | rw [if_neg (by omega)])) <;> simp [h_1, h_2, h_4])).symm)

theorem kX6_sizeOf : zY yX6_sizeOf wsX6_sizeOf cX6_sizeOf 5 (some .int) 2 := ⟨⟨_, rfl⟩, ⟨by decide +kernel, by decide +kernel, by decide +kernel⟩, by decide +kernel⟩
set_option maxHeartbeats 400000 in
set_option maxRecDepth 100000 in
theorem mX6_sizeOf_0 (E : zE) (a : Nat → Nat) (kp ty pl : Nat) (gd : Bool) (od : Nat) (vU vS : Nat → Nat) (vN : Nat → Int32) (vX vM : Nat) (vT : Bool) (vB vK vY vZ vR vC vV : Nat → Int32) (v : Nat) (hO : okM vU vS vM vK) (hv : v < 3) : zM E yX6_sizeOf wsX6_sizeOf 6 [.ref (a 0), .int (nI v), .int (nI 0)] [((a 0), .inr (6, [.ref (a 1), .ref (a 2), .ref (a 3), .int (nI kp), .int (nI ty), .ref (a 4), .int (nI pl), .int (zb gd), .int (nI od), .ref (a 5)])), ((a 1), .inl (E.2.2.1, 512, .inl (mRow vU vS vN vX vM vT vB vK vY vZ vR vC vV)))] [((a 0), .inr (6, [.ref (a 1), .ref (a 2), .ref (a 3), .int (nI kp), .int (nI ty), .ref (a 4), .int (nI pl), .int (zb gd), .int (nI od), .ref (a 5)])), ((a 1), .inl (E.2.2.1, 512, .inl (mRow vU vS vN vX vM vT vB vK vY vZ vR vC vV)))] (some (.int (nI (zc (fun p => mVw vZ vK vR vC vS vN vM v 0 p) (vU 0))))) := by
  refine zM.of kX6_sizeOf (Nat.le_of_ble_eq_true rfl) rfl [some (.ref (a 0)), some (.int (nI v)), some (.int (nI 0)), none, none] rfl (Nat.le_of_ble_eq_true rfl) ?_
  intro X eX C N
  subst eX
  obtain ⟨hu0, hu1, hM, hk1, hk2, hk3⟩ := id hO
  refine z_iconst C (nI 0) dX6_sizeOf_0 (by decide) ?_
  refine z_istore_n C 3 dX6_sizeOf_1 rfl (Nat.le_of_ble_eq_true rfl) ?_
  refine z_iconst C (nI 0) dX6_sizeOf_2 (by decide) ?_
  refine z_istore C dX6_sizeOf_3 (Nat.le_of_ble_eq_true rfl) ?_
  have hL5 : ∀ (dd : Nat) (k : Nat) (cn : Nat), vU 0 - k = dd → (k ≤ vU 0) → (cn = zc (fun p => mVw vZ vK vR vC vS vN vM v 0 p) k) → (cn ≤ k) → zG X 0 0 [((a 0), .inr (6, [.ref (a 1), .ref (a 2), .ref (a 3), .int (nI kp), .int (nI ty), .ref (a 4), .int (nI pl), .int (zb gd), .int (nI od), .ref (a 5)])), ((a 1), .inl (X.2.1.2.2.1, 512, .inl (mRow vU vS vN vX vM vT vB vK vY vZ vR vC vV)))] [some (.ref (a 0)), some (.int (nI v)), some (.int (nI 0)), some (.int (nI cn)), some (.int (nI k))] [] 5 := by
    intro dd
    induction dd using Nat.strongRecOn with
    | _ dd ih5 =>
    intro k cn hdd hk hc hcb
    refine z_iload C dX6_sizeOf_5 rfl ?_
    refine z_aload_n C 0 dX6_sizeOf_7 rfl rfl ?_
    refine z_iload_n C 2 dX6_sizeOf_8 rfl rfl ?_
    refine z_callVr C kX6_many gX6_sizeOf_X6_many (mX6_many_0 X.2.1 a kp ty pl gd od vU vS vN vX vM vT vB vK vY vZ vR vC vV ) dX6_sizeOf_9 [0, 1] [.int (nI k)] 0 rfl nd_0_1 rfl rfl rfl (by decide) (by decide) (Nat.le_of_ble_eq_true rfl) rfl ?_
    refine z_ncmp_ge C 40 dX6_sizeOf_12 (by decide) (by omega) (by omega) (fun h_1 => ?_) (fun h_1 => ?_)
    · refine z_iload_n C 3 dX6_sizeOf_40 rfl rfl ?_
      exact z_iret C N dX6_sizeOf_41 (rfl) (by rw [hc, show k = vU 0 by omega])
    · refine z_iload_n C 3 dX6_sizeOf_15 rfl rfl ?_
      refine z_aload_n C 0 dX6_sizeOf_16 rfl rfl ?_
      refine z_iload_n C 1 dX6_sizeOf_17 rfl rfl ?_
      refine z_iload_n C 2 dX6_sizeOf_18 rfl rfl ?_
      refine z_iload C dX6_sizeOf_19 rfl ?_
      refine z_callVr C kX6_isIn gX6_sizeOf_X6_isIn (mX6_isIn_0 X.2.1 a kp ty pl gd od vU vS vN vX vM vT vB vK vY vZ vR vC vV v k hO hv (by first | assumption | omega)) dX6_sizeOf_21 [0, 1] [.int (nI cn)] 0 rfl nd_0_1 rfl rfl rfl (by decide) (by decide) (Nat.le_of_ble_eq_true rfl) rfl ?_
      refine z_bif_eq C 31 dX6_sizeOf_24 (by decide) (fun h_2 => ?_) (fun h_2 => ?_)
      · refine z_iconst C (nI 0) dX6_sizeOf_31 (by decide) ?_
        refine z_iadd C dX6_sizeOf_32 ?_
        refine z_top (y := nI cn) (nI_add _ _) ?_
        refine z_istore_n C 3 dX6_sizeOf_33 rfl (Nat.le_of_ble_eq_true rfl) ?_
        refine z_iinc C (nI (k + 1)) dX6_sizeOf_34 rfl (zi_1 _) ?_
        refine z_goto C 5 dX6_sizeOf_37 (by decide) ?_
        exact ih5 (vU 0 - (k + 1)) (by omega) (k + 1) cn rfl (by omega) (by subst hc; first | exact (zc_y (by simp [h_1, h_2])).symm | exact (zc_n (by simp [h_1, h_2])).symm) (by omega)
      · refine z_iconst C (nI 1) dX6_sizeOf_27 (by decide) ?_
        refine z_goto C 32 dX6_sizeOf_28 (by decide) ?_
        refine z_iadd C dX6_sizeOf_32 ?_
        refine z_top (y := nI (cn + 1)) (nI_add _ _) ?_
        refine z_istore_n C 3 dX6_sizeOf_33 rfl (Nat.le_of_ble_eq_true rfl) ?_
        refine z_iinc C (nI (k + 1)) dX6_sizeOf_34 rfl (zi_1 _) ?_
        refine z_goto C 5 dX6_sizeOf_37 (by decide) ?_
        exact ih5 (vU 0 - (k + 1)) (by omega) (k + 1) (cn + 1) rfl (by omega) (by subst hc; first | exact (zc_y (by simp [h_1, h_2])).symm | exact (zc_n (by simp [h_1, h_2])).symm) (by omega)
  exact hL5 _ 0 0 rfl (by omega) (rfl) (by omega)

set_option maxHeartbeats 400000 in
set_option maxRecDepth 100000 in
theorem mX6_isIn_1 (E : zE) (a : Nat → Nat) (kp ty pl : Nat) (gd : Bool) (od : Nat) (vU vS : Nat → Nat) (vN : Nat → Int32) (vX vM : Nat) (vT : Bool) (vB vK vY vZ vR vC vV : Nat → Int32) (v p : Nat) (hO : okM vU vS vM vK) (hv : v < 3) (hp : p < 12) : zM E yX6_isIn wsX6_isIn 5 [.ref (a 0), .int (nI v), .int (nI 1), .int (nI p)] [((a 0), .inr (6, [.ref (a 1), .ref (a 2), .ref (a 3), .int (nI kp), .int (nI ty), .ref (a 4), .int (nI pl), .int (zb gd), .int (nI od), .ref (a 5)])), ((a 1), .inl (E.2.2.1, 512, .inl (mRow vU vS vN vX vM vT vB vK vY vZ vR vC vV)))] [((a 0), .inr (6, [.ref (a 1), .ref (a 2), .ref (a 3), .int (nI kp), .int (nI ty), .ref (a 4), .int (nI pl), .int (zb gd), .int (nI od), .ref (a 5)])), ((a 1), .inl (E.2.2.1, 512, .inl (mRow vU vS vN vX vM vT vB vK vY vZ vR vC vV)))] (some (.int (zb (mVw vZ vK vR vC vS vN vM v 1 p)))) := by
  refine zM.of kX6_isIn (Nat.le_of_ble_eq_true rfl) rfl [some (.ref (a 0)), some (.int (nI v)), some (.int (nI 1)), some (.int (nI p))] rfl (Nat.le_of_ble_eq_true rfl) ?_
  intro X eX C N
  subst eX
  obtain ⟨hu0, hu1, hM, hk1, hk2, hk3⟩ := id hO
  refine z_iload_n C 1 dX6_isIn_0 rfl rfl ?_
  refine z_nif_eq C 30 dX6_isIn_1 (by decide) (by omega) (fun h_1 => ?_) (fun h_1 => ?_)
  · refine z_iconst C (nI 1) dX6_isIn_30 (by decide) ?_
    refine z_goto C 35 dX6_isIn_31 (by decide) ?_
    exact z_zret C N dX6_isIn_35 rfl (rfl) (congrArg (fun x => some (Value.int x)) (zb_t (by unfold mVw; (repeat (first | rw [if_pos (by omega)] | rw [if_neg (by omega)])) <;> simp [h_1])).symm)
  · refine z_iload_n C 1 dX6_isIn_4 rfl rfl ?_
    refine z_iconst C (nI 1) dX6_isIn_5 (by decide) ?_
    refine z_ncmp_ne C 21 dX6_isIn_6 (by decide) (by omega) (by omega) (fun h_2 => ?_) (fun h_2 => ?_)
    · refine z_aload_n C 0 dX6_isIn_21 rfl rfl ?_
      refine z_iload_n C 2 dX6_isIn_22 rfl rfl ?_
      refine z_iload_n C 3 dX6_isIn_23 rfl rfl ?_
      refine z_callVr C kX6_isNew gX6_isIn_X6_isNew (mX6_isNew_1 X.2.1 a kp ty pl gd od vU vS vN vX vM vT vB vK vY vZ vR vC vV p hO hp) dX6_isIn_24 [0, 1] [] 0 rfl nd_0_1 rfl rfl rfl (by decide) (by decide) (Nat.le_of_ble_eq_true rfl) rfl ?_
      refine z_bif_ne C 34 dX6_isIn_27 (by decide) (fun h_3 => ?_) (fun h_3 => ?_)
      · refine z_iconst C (nI 0) dX6_isIn_34 (by decide) ?_
        exact z_zret C N dX6_isIn_35 rfl (rfl) (congrArg (fun x => some (Value.int x)) (zb_f (by unfold mVw; (repeat (first | rw [if_pos (by omega)] | rw [if_neg (by omega)])) <;> simp [h_1, h_2, h_3])).symm)
      · refine z_iconst C (nI 1) dX6_isIn_30 (by decide) ?_
        refine z_goto C 35 dX6_isIn_31 (by decide) ?_
        exact z_zret C N dX6_isIn_35 rfl (rfl) (congrArg (fun x => some (Value.int x)) (zb_t (by unfold mVw; (repeat (first | rw [if_pos (by omega)] | rw [if_neg (by omega)])) <;> simp [h_1, h_2, h_3])).symm)
    · refine z_aload_n C 0 dX6_isIn_9 rfl rfl ?_
      refine z_iload_n C 2 dX6_isIn_10 rfl rfl ?_
      refine z_iload_n C 3 dX6_isIn_11 rfl rfl ?_
      refine z_callVr C kX6_isDoomed gX6_isIn_X6_isDoomed (mX6_isDoomed_1 X.2.1 a kp ty pl gd od vU vS vN vX vM vT vB vK vY vZ vR vC vV p hO hp) dX6_isIn_12 [0, 1] [] 0 rfl nd_0_1 rfl rfl rfl (by decide) (by decide) (Nat.le_of_ble_eq_true rfl) rfl ?_
      refine z_bif_ne C 34 dX6_isIn_15 (by decide) (fun h_4 => ?_) (fun h_4 => ?_)
      · refine z_iconst C (nI 0) dX6_isIn_34 (by decide) ?_
        exact z_zret C N dX6_isIn_35 rfl (rfl) (congrArg (fun x => some (Value.int x)) (zb_f (by unfold mVw; (repeat (first | rw [if_pos (by omega)] | rw [if_neg (by omega)])) <;> simp [h_1, h_2, h_4])).symm)
      · refine z_goto C 30 dX6_isIn_18 (by decide) ?_
        refine z_iconst C (nI 1) dX6_isIn_30 (by decide) ?_
        refine z_goto C 35 dX6_isIn_31 (by decide) ?_
        exact z_zret C N dX6_isIn_35 rfl (rfl) (congrArg (fun x => some (Value.int x)) (zb_t (by unfold mVw; (repeat (first | rw [if_pos (by omega)] | rw [if_neg (by omega)])) <;> simp [h_1, h_2, h_4])).symm)

set_option maxHeartbeats 400000 in
set_option maxRecDepth 100000 in
theorem mX6_sizeOf_1 (E : zE) (a : Nat → Nat) (kp ty pl : Nat) (gd : Bool) (od : Nat) (vU vS : Nat → Nat) (vN : Nat → Int32) (vX vM : Nat) (vT : Bool) (vB vK vY vZ vR vC vV : Nat → Int32) (v : Nat) (hO : okM vU vS vM vK) (hv : v < 3) : zM E yX6_sizeOf wsX6_sizeOf 6 [.ref (a 0), .int (nI v), .int (nI 1)] [((a 0), .inr (6, [.ref (a 1), .ref (a 2), .ref (a 3), .int (nI kp), .int (nI ty), .ref (a 4), .int (nI pl), .int (zb gd), .int (nI od), .ref (a 5)])), ((a 1), .inl (E.2.2.1, 512, .inl (mRow vU vS vN vX vM vT vB vK vY vZ vR vC vV)))] [((a 0), .inr (6, [.ref (a 1), .ref (a 2), .ref (a 3), .int (nI kp), .int (nI ty), .ref (a 4), .int (nI pl), .int (zb gd), .int (nI od), .ref (a 5)])), ((a 1), .inl (E.2.2.1, 512, .inl (mRow vU vS vN vX vM vT vB vK vY vZ vR vC vV)))] (some (.int (nI (zc (fun p => mVw vZ vK vR vC vS vN vM v 1 p) (vU 1))))) := by
  refine zM.of kX6_sizeOf (Nat.le_of_ble_eq_true rfl) rfl [some (.ref (a 0)), some (.int (nI v)), some (.int (nI 1)), none, none] rfl (Nat.le_of_ble_eq_true rfl) ?_
  intro X eX C N
  subst eX
  obtain ⟨hu0, hu1, hM, hk1, hk2, hk3⟩ := id hO
  refine z_iconst C (nI 0) dX6_sizeOf_0 (by decide) ?_
  refine z_istore_n C 3 dX6_sizeOf_1 rfl (Nat.le_of_ble_eq_true rfl) ?_
  refine z_iconst C (nI 0) dX6_sizeOf_2 (by decide) ?_
  refine z_istore C dX6_sizeOf_3 (Nat.le_of_ble_eq_true rfl) ?_
  have hL5 : ∀ (dd : Nat) (k : Nat) (cn : Nat), vU 1 - k = dd → (k ≤ vU 1) → (cn = zc (fun p => mVw vZ vK vR vC vS vN vM v 1 p) k) → (cn ≤ k) → zG X 0 0 [((a 0), .inr (6, [.ref (a 1), .ref (a 2), .ref (a 3), .int (nI kp), .int (nI ty), .ref (a 4), .int (nI pl), .int (zb gd), .int (nI od), .ref (a 5)])), ((a 1), .inl (X.2.1.2.2.1, 512, .inl (mRow vU vS vN vX vM vT vB vK vY vZ vR vC vV)))] [some (.ref (a 0)), some (.int (nI v)), some (.int (nI 1)), some (.int (nI cn)), some (.int (nI k))] [] 5 := by
    intro dd
    induction dd using Nat.strongRecOn with
    | _ dd ih5 =>
    intro k cn hdd hk hc hcb
    refine z_iload C dX6_sizeOf_5 rfl ?_
    refine z_aload_n C 0 dX6_sizeOf_7 rfl rfl ?_
    refine z_iload_n C 2 dX6_sizeOf_8 rfl rfl ?_
    refine z_callVr C kX6_many gX6_sizeOf_X6_many (mX6_many_1 X.2.1 a kp ty pl gd od vU vS vN vX vM vT vB vK vY vZ vR vC vV ) dX6_sizeOf_9 [0, 1] [.int (nI k)] 0 rfl nd_0_1 rfl rfl rfl (by decide) (by decide) (Nat.le_of_ble_eq_true rfl) rfl ?_
    refine z_ncmp_ge C 40 dX6_sizeOf_12 (by decide) (by omega) (by omega) (fun h_1 => ?_) (fun h_1 => ?_)
    · refine z_iload_n C 3 dX6_sizeOf_40 rfl rfl ?_
      exact z_iret C N dX6_sizeOf_41 (rfl) (by rw [hc, show k = vU 1 by omega])
    · refine z_iload_n C 3 dX6_sizeOf_15 rfl rfl ?_
      refine z_aload_n C 0 dX6_sizeOf_16 rfl rfl ?_
      refine z_iload_n C 1 dX6_sizeOf_17 rfl rfl ?_
      refine z_iload_n C 2 dX6_sizeOf_18 rfl rfl ?_
      refine z_iload C dX6_sizeOf_19 rfl ?_
      refine z_callVr C kX6_isIn gX6_sizeOf_X6_isIn (mX6_isIn_1 X.2.1 a kp ty pl gd od vU vS vN vX vM vT vB vK vY vZ vR vC vV v k hO hv (by first | assumption | omega)) dX6_sizeOf_21 [0, 1] [.int (nI cn)] 0 rfl nd_0_1 rfl rfl rfl (by decide) (by decide) (Nat.le_of_ble_eq_true rfl) rfl ?_
      refine z_bif_eq C 31 dX6_sizeOf_24 (by decide) (fun h_2 => ?_) (fun h_2 => ?_)
      · refine z_iconst C (nI 0) dX6_sizeOf_31 (by decide) ?_
        refine z_iadd C dX6_sizeOf_32 ?_
        refine z_top (y := nI cn) (nI_add _ _) ?_
        refine z_istore_n C 3 dX6_sizeOf_33 rfl (Nat.le_of_ble_eq_true rfl) ?_
        refine z_iinc C (nI (k + 1)) dX6_sizeOf_34 rfl (zi_1 _) ?_
        refine z_goto C 5 dX6_sizeOf_37 (by decide) ?_
        exact ih5 (vU 1 - (k + 1)) (by omega) (k + 1) cn rfl (by omega) (by subst hc; first | exact (zc_y (by simp [h_1, h_2])).symm | exact (zc_n (by simp [h_1, h_2])).symm) (by omega)
      · refine z_iconst C (nI 1) dX6_sizeOf_27 (by decide) ?_
        refine z_goto C 32 dX6_sizeOf_28 (by decide) ?_
        refine z_iadd C dX6_sizeOf_32 ?_
        refine z_top (y := nI (cn + 1)) (nI_add _ _) ?_
        refine z_istore_n C 3 dX6_sizeOf_33 rfl (Nat.le_of_ble_eq_true rfl) ?_
        refine z_iinc C (nI (k + 1)) dX6_sizeOf_34 rfl (zi_1 _) ?_
        refine z_goto C 5 dX6_sizeOf_37 (by decide) ?_
        exact ih5 (vU 1 - (k + 1)) (by omega) (k + 1) (cn + 1) rfl (by omega) (by subst hc; first | exact (zc_y (by simp [h_1, h_2])).symm | exact (zc_n (by simp [h_1, h_2])).symm) (by omega)
  exact hL5 _ 0 0 rfl (by omega) (rfl) (by omega)

theorem kX6_size : zY yX6_size wsX6_size cX6_size 3 (some .int) 2 := ⟨⟨_, rfl⟩, ⟨by decide +kernel, by decide +kernel, by decide +kernel⟩, by decide +kernel⟩
set_option maxHeartbeats 400000 in
set_option maxRecDepth 100000 in
theorem mX6_size_b1 (E : zE) (a : Nat → Nat) (kp ty pl : Nat) (gd : Bool) (od : Nat) (vU vS : Nat → Nat) (vN : Nat → Int32) (vX vM : Nat) (vT : Bool) (vB vK vY vZ vR vC vV : Nat → Int32) (v ax : Int32) (hO : okM vU vS vM vK) (hx : v < 0 ∨ (¬ v < 0 ∧ nI 2 < v)) : zM E yX6_size wsX6_size 7 [.ref (a 0), .int v, .int ax] [((a 0), .inr (6, [.ref (a 1), .ref (a 2), .ref (a 3), .int (nI kp), .int (nI ty), .ref (a 4), .int (nI pl), .int (zb gd), .int (nI od), .ref (a 5)])), ((a 1), .inl (E.2.2.1, 512, .inl (mRow vU vS vN vX vM vT vB vK vY vZ vR vC vV)))] [((a 0), .inr (6, [.ref (a 1), .ref (a 2), .ref (a 3), .int (nI kp), .int (nI ty), .ref (a 4), .int (nI pl), .int (zb gd), .int (nI od), .ref (a 5)])), ((a 1), .inl (E.2.2.1, 512, .inl (mRow vU vS vN vX vM vT vB vK vY vZ vR vC vV)))] (some (.int (-1))) := by
  refine zM.of kX6_size (Nat.le_of_ble_eq_true rfl) rfl [some (.ref (a 0)), some (.int v), some (.int ax)] rfl (Nat.le_of_ble_eq_true rfl) ?_
  intro X eX C N
  subst eX
  obtain ⟨hu0, hu1, hM, hk1, hk2, hk3⟩ := id hO
  refine z_iload_n C 1 dX6_size_0 rfl rfl ?_
  refine z_iconst C (nI 0) dX6_size_1 (by decide) ?_
  refine z_iconst C (nI 2) dX6_size_2 (by decide) ?_
  refine z_callS C kX6_in gX6_size_X6_in (mX6_in_n X.2.1 v 2 hx) dX6_size_3 [] rfl (by decide) (by decide) (Nat.le_of_ble_eq_true rfl) rfl ?_
  refine z_bif_eq_t C 27 dX6_size_6 (by decide) rfl ?_
  refine z_iconst C (-1) dX6_size_27 (by decide) ?_
  exact z_iret C N dX6_size_28 (rfl) (rfl)

set_option maxHeartbeats 400000 in
set_option maxRecDepth 100000 in
theorem mX6_size_b2 (E : zE) (a : Nat → Nat) (kp ty pl : Nat) (gd : Bool) (od : Nat) (vU vS : Nat → Nat) (vN : Nat → Int32) (vX vM : Nat) (vT : Bool) (vB vK vY vZ vR vC vV : Nat → Int32) (v : Nat) (ax : Int32) (hO : okM vU vS vM vK) (hv : v < 3) (hax : ax < 0 ∨ (¬ ax < 0 ∧ nI 1 < ax)) : zM E yX6_size wsX6_size 7 [.ref (a 0), .int (nI v), .int ax] [((a 0), .inr (6, [.ref (a 1), .ref (a 2), .ref (a 3), .int (nI kp), .int (nI ty), .ref (a 4), .int (nI pl), .int (zb gd), .int (nI od), .ref (a 5)])), ((a 1), .inl (E.2.2.1, 512, .inl (mRow vU vS vN vX vM vT vB vK vY vZ vR vC vV)))] [((a 0), .inr (6, [.ref (a 1), .ref (a 2), .ref (a 3), .int (nI kp), .int (nI ty), .ref (a 4), .int (nI pl), .int (zb gd), .int (nI od), .ref (a 5)])), ((a 1), .inl (E.2.2.1, 512, .inl (mRow vU vS vN vX vM vT vB vK vY vZ vR vC vV)))] (some (.int (-1))) := by
  refine zM.of kX6_size (Nat.le_of_ble_eq_true rfl) rfl [some (.ref (a 0)), some (.int (nI v)), some (.int ax)] rfl (Nat.le_of_ble_eq_true rfl) ?_
  intro X eX C N
  subst eX
  obtain ⟨hu0, hu1, hM, hk1, hk2, hk3⟩ := id hO
  refine z_iload_n C 1 dX6_size_0 rfl rfl ?_
  refine z_iconst C (nI 0) dX6_size_1 (by decide) ?_
  refine z_iconst C (nI 2) dX6_size_2 (by decide) ?_
  refine z_callS C kX6_in gX6_size_X6_in (mX6_in_y X.2.1 v 2 (by first | assumption | omega) (by first | assumption | omega)) dX6_size_3 [] rfl (by decide) (by decide) (Nat.le_of_ble_eq_true rfl) rfl ?_
  refine z_bif_eq_f C 27 dX6_size_6 (by decide) rfl ?_
  refine z_iload_n C 2 dX6_size_9 rfl rfl ?_
  refine z_iconst C (nI 0) dX6_size_10 (by decide) ?_
  refine z_iconst C (nI 1) dX6_size_11 (by decide) ?_
  refine z_callS C kX6_in gX6_size_X6_in (mX6_in_n X.2.1 ax 1 hax) dX6_size_12 [] rfl (by decide) (by decide) (Nat.le_of_ble_eq_true rfl) rfl ?_
  refine z_bif_eq_t C 27 dX6_size_15 (by decide) rfl ?_
  refine z_iconst C (-1) dX6_size_27 (by decide) ?_
  exact z_iret C N dX6_size_28 (rfl) (rfl)

set_option maxHeartbeats 400000 in
set_option maxRecDepth 100000 in
theorem mX6_size_0 (E : zE) (a : Nat → Nat) (kp ty pl : Nat) (gd : Bool) (od : Nat) (vU vS : Nat → Nat) (vN : Nat → Int32) (vX vM : Nat) (vT : Bool) (vB vK vY vZ vR vC vV : Nat → Int32) (v : Nat) (hO : okM vU vS vM vK) (hv : v < 3) : zM E yX6_size wsX6_size 7 [.ref (a 0), .int (nI v), .int (nI 0)] [((a 0), .inr (6, [.ref (a 1), .ref (a 2), .ref (a 3), .int (nI kp), .int (nI ty), .ref (a 4), .int (nI pl), .int (zb gd), .int (nI od), .ref (a 5)])), ((a 1), .inl (E.2.2.1, 512, .inl (mRow vU vS vN vX vM vT vB vK vY vZ vR vC vV)))] [((a 0), .inr (6, [.ref (a 1), .ref (a 2), .ref (a 3), .int (nI kp), .int (nI ty), .ref (a 4), .int (nI pl), .int (zb gd), .int (nI od), .ref (a 5)])), ((a 1), .inl (E.2.2.1, 512, .inl (mRow vU vS vN vX vM vT vB vK vY vZ vR vC vV)))] (some (.int (nI (zc (fun p => mVw vZ vK vR vC vS vN vM v 0 p) (vU 0))))) := by
  refine zM.of kX6_size (Nat.le_of_ble_eq_true rfl) rfl [some (.ref (a 0)), some (.int (nI v)), some (.int (nI 0))] rfl (Nat.le_of_ble_eq_true rfl) ?_
  intro X eX C N
  subst eX
  obtain ⟨hu0, hu1, hM, hk1, hk2, hk3⟩ := id hO
  refine z_iload_n C 1 dX6_size_0 rfl rfl ?_
  refine z_iconst C (nI 0) dX6_size_1 (by decide) ?_
  refine z_iconst C (nI 2) dX6_size_2 (by decide) ?_
  refine z_callS C kX6_in gX6_size_X6_in (mX6_in_y X.2.1 v 2 (by first | assumption | omega) (by first | assumption | omega)) dX6_size_3 [] rfl (by decide) (by decide) (Nat.le_of_ble_eq_true rfl) rfl ?_
  refine z_bif_eq_f C 27 dX6_size_6 (by decide) rfl ?_
  refine z_iload_n C 2 dX6_size_9 rfl rfl ?_
  refine z_iconst C (nI 0) dX6_size_10 (by decide) ?_
  refine z_iconst C (nI 1) dX6_size_11 (by decide) ?_
  refine z_callS C kX6_in gX6_size_X6_in (mX6_in_y X.2.1 0 1 (by first | assumption | omega) (by first | assumption | omega)) dX6_size_12 [] rfl (by decide) (by decide) (Nat.le_of_ble_eq_true rfl) rfl ?_
  refine z_bif_eq_f C 27 dX6_size_15 (by decide) rfl ?_
  refine z_aload_n C 0 dX6_size_18 rfl rfl ?_
  refine z_iload_n C 1 dX6_size_19 rfl rfl ?_
  refine z_iload_n C 2 dX6_size_20 rfl rfl ?_
  refine z_callVr C kX6_sizeOf gX6_size_X6_sizeOf (mX6_sizeOf_0 X.2.1 a kp ty pl gd od vU vS vN vX vM vT vB vK vY vZ vR vC vV v hO hv) dX6_size_21 [0, 1] [] 0 rfl nd_0_1 rfl rfl rfl (by decide) (by decide) (Nat.le_of_ble_eq_true rfl) rfl ?_
  refine z_goto C 28 dX6_size_24 (by decide) ?_
  exact z_iret C N dX6_size_28 (rfl) (rfl)

set_option maxHeartbeats 400000 in
set_option maxRecDepth 100000 in
theorem mX6_size_1 (E : zE) (a : Nat → Nat) (kp ty pl : Nat) (gd : Bool) (od : Nat) (vU vS : Nat → Nat) (vN : Nat → Int32) (vX vM : Nat) (vT : Bool) (vB vK vY vZ vR vC vV : Nat → Int32) (v : Nat) (hO : okM vU vS vM vK) (hv : v < 3) : zM E yX6_size wsX6_size 7 [.ref (a 0), .int (nI v), .int (nI 1)] [((a 0), .inr (6, [.ref (a 1), .ref (a 2), .ref (a 3), .int (nI kp), .int (nI ty), .ref (a 4), .int (nI pl), .int (zb gd), .int (nI od), .ref (a 5)])), ((a 1), .inl (E.2.2.1, 512, .inl (mRow vU vS vN vX vM vT vB vK vY vZ vR vC vV)))] [((a 0), .inr (6, [.ref (a 1), .ref (a 2), .ref (a 3), .int (nI kp), .int (nI ty), .ref (a 4), .int (nI pl), .int (zb gd), .int (nI od), .ref (a 5)])), ((a 1), .inl (E.2.2.1, 512, .inl (mRow vU vS vN vX vM vT vB vK vY vZ vR vC vV)))] (some (.int (nI (zc (fun p => mVw vZ vK vR vC vS vN vM v 1 p) (vU 1))))) := by
  refine zM.of kX6_size (Nat.le_of_ble_eq_true rfl) rfl [some (.ref (a 0)), some (.int (nI v)), some (.int (nI 1))] rfl (Nat.le_of_ble_eq_true rfl) ?_
  intro X eX C N
  subst eX
  obtain ⟨hu0, hu1, hM, hk1, hk2, hk3⟩ := id hO
  refine z_iload_n C 1 dX6_size_0 rfl rfl ?_
  refine z_iconst C (nI 0) dX6_size_1 (by decide) ?_
  refine z_iconst C (nI 2) dX6_size_2 (by decide) ?_
  refine z_callS C kX6_in gX6_size_X6_in (mX6_in_y X.2.1 v 2 (by first | assumption | omega) (by first | assumption | omega)) dX6_size_3 [] rfl (by decide) (by decide) (Nat.le_of_ble_eq_true rfl) rfl ?_
  refine z_bif_eq_f C 27 dX6_size_6 (by decide) rfl ?_
  refine z_iload_n C 2 dX6_size_9 rfl rfl ?_
  refine z_iconst C (nI 0) dX6_size_10 (by decide) ?_
  refine z_iconst C (nI 1) dX6_size_11 (by decide) ?_
  refine z_callS C kX6_in gX6_size_X6_in (mX6_in_y X.2.1 1 1 (by first | assumption | omega) (by first | assumption | omega)) dX6_size_12 [] rfl (by decide) (by decide) (Nat.le_of_ble_eq_true rfl) rfl ?_
  refine z_bif_eq_f C 27 dX6_size_15 (by decide) rfl ?_
  refine z_aload_n C 0 dX6_size_18 rfl rfl ?_
  refine z_iload_n C 1 dX6_size_19 rfl rfl ?_
  refine z_iload_n C 2 dX6_size_20 rfl rfl ?_
  refine z_callVr C kX6_sizeOf gX6_size_X6_sizeOf (mX6_sizeOf_1 X.2.1 a kp ty pl gd od vU vS vN vX vM vT vB vK vY vZ vR vC vV v hO hv) dX6_size_21 [0, 1] [] 0 rfl nd_0_1 rfl rfl rfl (by decide) (by decide) (Nat.le_of_ble_eq_true rfl) rfl ?_
  refine z_goto C 28 dX6_size_24 (by decide) ?_
  exact z_iret C N dX6_size_28 (rfl) (rfl)

theorem kX6_fullPlace : zY yX6_fullPlace wsX6_fullPlace cX6_fullPlace 6 (some .int) 3 := ⟨⟨_, rfl⟩, ⟨by decide +kernel, by decide +kernel, by decide +kernel⟩, by decide +kernel⟩
set_option maxHeartbeats 400000 in
set_option maxRecDepth 100000 in
theorem mX6_fullPlace_0 (E : zE) (a : Nat → Nat) (kp ty pl : Nat) (gd : Bool) (od : Nat) (vU vS : Nat → Nat) (vN : Nat → Int32) (vX vM : Nat) (vT : Bool) (vB vK vY vZ vR vC vV : Nat → Int32) (v pq : Nat) (hO : okM vU vS vM vK) (hv : v < 3) (hpl : pq < 2147483648) : zM E yX6_fullPlace wsX6_fullPlace 6 [.ref (a 0), .int (nI v), .int (nI 0), .int (nI pq)] [((a 0), .inr (6, [.ref (a 1), .ref (a 2), .ref (a 3), .int (nI kp), .int (nI ty), .ref (a 4), .int (nI pl), .int (zb gd), .int (nI od), .ref (a 5)])), ((a 1), .inl (E.2.2.1, 512, .inl (mRow vU vS vN vX vM vT vB vK vY vZ vR vC vV)))] [((a 0), .inr (6, [.ref (a 1), .ref (a 2), .ref (a 3), .int (nI kp), .int (nI ty), .ref (a 4), .int (nI pl), .int (zb gd), .int (nI od), .ref (a 5)])), ((a 1), .inl (E.2.2.1, 512, .inl (mRow vU vS vN vX vM vT vB vK vY vZ vR vC vV)))] (some (.int (zf (pK (fun p => mVw vZ vK vR vC vS vN vM v 0 p) (nI pq)) (vU 0)))) := by
  refine zM.of kX6_fullPlace (Nat.le_of_ble_eq_true rfl) rfl [some (.ref (a 0)), some (.int (nI v)), some (.int (nI 0)), some (.int (nI pq)), none, none] rfl (Nat.le_of_ble_eq_true rfl) ?_
  intro X eX C N
  subst eX
  obtain ⟨hu0, hu1, hM, hk1, hk2, hk3⟩ := id hO
  refine z_iload_n C 3 dX6_fullPlace_0 rfl rfl ?_
  refine z_istore C dX6_fullPlace_1 (Nat.le_of_ble_eq_true rfl) ?_
  refine z_iconst C (nI 0) dX6_fullPlace_3 (by decide) ?_
  refine z_istore C dX6_fullPlace_4 (Nat.le_of_ble_eq_true rfl) ?_
  have hL6 : ∀ (dd : Nat) (k : Nat) (l9 : Nat), vU 0 - k = dd → (k ≤ vU 0) → (l9 + zc (fun p => mVw vZ vK vR vC vS vN vM v 0 p) k = pq) → (∀ j, j < k → (pK (fun p => mVw vZ vK vR vC vS vN vM v 0 p) (nI pq)) j = false) → zG X 0 0 [((a 0), .inr (6, [.ref (a 1), .ref (a 2), .ref (a 3), .int (nI kp), .int (nI ty), .ref (a 4), .int (nI pl), .int (zb gd), .int (nI od), .ref (a 5)])), ((a 1), .inl (X.2.1.2.2.1, 512, .inl (mRow vU vS vN vX vM vT vB vK vY vZ vR vC vV)))] [some (.ref (a 0)), some (.int (nI v)), some (.int (nI 0)), some (.int (nI pq)), some (.int (nI l9)), some (.int (nI k))] [] 6 := by
    intro dd
    induction dd using Nat.strongRecOn with
    | _ dd ih6 =>
    intro k l9 hdd hk hl hf
    refine z_iload C dX6_fullPlace_6 rfl ?_
    refine z_aload_n C 0 dX6_fullPlace_8 rfl rfl ?_
    refine z_iload_n C 2 dX6_fullPlace_9 rfl rfl ?_
    refine z_callVr C kX6_many gX6_fullPlace_X6_many (mX6_many_0 X.2.1 a kp ty pl gd od vU vS vN vX vM vT vB vK vY vZ vR vC vV ) dX6_fullPlace_10 [0, 1] [.int (nI k)] 0 rfl nd_0_1 rfl rfl rfl (by decide) (by decide) (Nat.le_of_ble_eq_true rfl) rfl ?_
    refine z_ncmp_ge C 44 dX6_fullPlace_13 (by decide) (by omega) (by omega) (fun h_1 => ?_) (fun h_1 => ?_)
    · refine z_bipush C (-5) dX6_fullPlace_44 (by decide) ?_
      exact z_iret C N dX6_fullPlace_46 (rfl) (by rw [zf_no (fun j hj => hf j (by omega))])
    · refine z_aload_n C 0 dX6_fullPlace_16 rfl rfl ?_
      refine z_iload_n C 1 dX6_fullPlace_17 rfl rfl ?_
      refine z_iload_n C 2 dX6_fullPlace_18 rfl rfl ?_
      refine z_iload C dX6_fullPlace_19 rfl ?_
      refine z_callVr C kX6_isIn gX6_fullPlace_X6_isIn (mX6_isIn_0 X.2.1 a kp ty pl gd od vU vS vN vX vM vT vB vK vY vZ vR vC vV v k hO hv (by first | assumption | omega)) dX6_fullPlace_21 [0, 1] [] 0 rfl nd_0_1 rfl rfl rfl (by decide) (by decide) (Nat.le_of_ble_eq_true rfl) rfl ?_
      refine z_bif_eq C 38 dX6_fullPlace_24 (by decide) (fun h_2 => ?_) (fun h_2 => ?_)
      · refine z_iinc C (nI (k + 1)) dX6_fullPlace_38 rfl (zi_1 _) ?_
        refine z_goto C 6 dX6_fullPlace_41 (by decide) ?_
        exact ih6 (vU 0 - (k + 1)) (by omega) (k + 1) l9 rfl (by omega) (by have h8 := zc_s (p := (fun p => mVw vZ vK vR vC vS vN vM v 0 p)) (k := k); simp only [h_2, if_true, Bool.false_eq_true, if_false] at h8; omega) (lt_s hf (by simp [pK, h_2]))
      · refine z_iload C dX6_fullPlace_27 rfl ?_
        refine z_nif_ne C 35 dX6_fullPlace_29 (by decide) (by omega) (fun h_3 => ?_) (fun h_3 => ?_)
        · refine z_iinc C (nI (l9 - 1)) dX6_fullPlace_35 rfl (zi_p (by omega)) ?_
          refine z_iinc C (nI (k + 1)) dX6_fullPlace_38 rfl (zi_1 _) ?_
          refine z_goto C 6 dX6_fullPlace_41 (by decide) ?_
          exact ih6 (vU 0 - (k + 1)) (by omega) (k + 1) (l9 - 1) rfl (by omega) (by have h8 := zc_s (p := (fun p => mVw vZ vK vR vC vS vN vM v 0 p)) (k := k); simp only [h_2, if_true, Bool.false_eq_true, if_false] at h8; omega) (lt_s hf (by have h9 := zc_le (fun p => mVw vZ vK vR vC vS vN vM v 0 p) k; simp only [pK, h_2, Bool.true_and, decide_eq_false_iff_not]; intro q; have := (nI_eq (by omega) (by omega)).mp q; omega))
        · refine z_iload C dX6_fullPlace_32 rfl ?_
          exact z_iret C N dX6_fullPlace_34 (rfl) (by rw [zf_at (k := k) (by omega) (by simp only [pK, h_2, Bool.true_and, decide_eq_true_eq]; exact congrArg nI (by omega)) hf (by omega)])
  exact hL6 _ 0 pq rfl (by omega) (rfl) (fun j h => absurd h (Nat.not_lt_zero j))

set_option maxHeartbeats 400000 in
set_option maxRecDepth 100000 in
theorem mX6_fullPlace_1 (E : zE) (a : Nat → Nat) (kp ty pl : Nat) (gd : Bool) (od : Nat) (vU vS : Nat → Nat) (vN : Nat → Int32) (vX vM : Nat) (vT : Bool) (vB vK vY vZ vR vC vV : Nat → Int32) (v pq : Nat) (hO : okM vU vS vM vK) (hv : v < 3) (hpl : pq < 2147483648) : zM E yX6_fullPlace wsX6_fullPlace 6 [.ref (a 0), .int (nI v), .int (nI 1), .int (nI pq)] [((a 0), .inr (6, [.ref (a 1), .ref (a 2), .ref (a 3), .int (nI kp), .int (nI ty), .ref (a 4), .int (nI pl), .int (zb gd), .int (nI od), .ref (a 5)])), ((a 1), .inl (E.2.2.1, 512, .inl (mRow vU vS vN vX vM vT vB vK vY vZ vR vC vV)))] [((a 0), .inr (6, [.ref (a 1), .ref (a 2), .ref (a 3), .int (nI kp), .int (nI ty), .ref (a 4), .int (nI pl), .int (zb gd), .int (nI od), .ref (a 5)])), ((a 1), .inl (E.2.2.1, 512, .inl (mRow vU vS vN vX vM vT vB vK vY vZ vR vC vV)))] (some (.int (zf (pK (fun p => mVw vZ vK vR vC vS vN vM v 1 p) (nI pq)) (vU 1)))) := by
  refine zM.of kX6_fullPlace (Nat.le_of_ble_eq_true rfl) rfl [some (.ref (a 0)), some (.int (nI v)), some (.int (nI 1)), some (.int (nI pq)), none, none] rfl (Nat.le_of_ble_eq_true rfl) ?_
  intro X eX C N
  subst eX
  obtain ⟨hu0, hu1, hM, hk1, hk2, hk3⟩ := id hO
  refine z_iload_n C 3 dX6_fullPlace_0 rfl rfl ?_
  refine z_istore C dX6_fullPlace_1 (Nat.le_of_ble_eq_true rfl) ?_
  refine z_iconst C (nI 0) dX6_fullPlace_3 (by decide) ?_
  refine z_istore C dX6_fullPlace_4 (Nat.le_of_ble_eq_true rfl) ?_
  have hL6 : ∀ (dd : Nat) (k : Nat) (l9 : Nat), vU 1 - k = dd → (k ≤ vU 1) → (l9 + zc (fun p => mVw vZ vK vR vC vS vN vM v 1 p) k = pq) → (∀ j, j < k → (pK (fun p => mVw vZ vK vR vC vS vN vM v 1 p) (nI pq)) j = false) → zG X 0 0 [((a 0), .inr (6, [.ref (a 1), .ref (a 2), .ref (a 3), .int (nI kp), .int (nI ty), .ref (a 4), .int (nI pl), .int (zb gd), .int (nI od), .ref (a 5)])), ((a 1), .inl (X.2.1.2.2.1, 512, .inl (mRow vU vS vN vX vM vT vB vK vY vZ vR vC vV)))] [some (.ref (a 0)), some (.int (nI v)), some (.int (nI 1)), some (.int (nI pq)), some (.int (nI l9)), some (.int (nI k))] [] 6 := by
    intro dd
    induction dd using Nat.strongRecOn with
    | _ dd ih6 =>
    intro k l9 hdd hk hl hf
    refine z_iload C dX6_fullPlace_6 rfl ?_
    refine z_aload_n C 0 dX6_fullPlace_8 rfl rfl ?_
    refine z_iload_n C 2 dX6_fullPlace_9 rfl rfl ?_
    refine z_callVr C kX6_many gX6_fullPlace_X6_many (mX6_many_1 X.2.1 a kp ty pl gd od vU vS vN vX vM vT vB vK vY vZ vR vC vV ) dX6_fullPlace_10 [0, 1] [.int (nI k)] 0 rfl nd_0_1 rfl rfl rfl (by decide) (by decide) (Nat.le_of_ble_eq_true rfl) rfl ?_
    refine z_ncmp_ge C 44 dX6_fullPlace_13 (by decide) (by omega) (by omega) (fun h_1 => ?_) (fun h_1 => ?_)
    · refine z_bipush C (-5) dX6_fullPlace_44 (by decide) ?_
      exact z_iret C N dX6_fullPlace_46 (rfl) (by rw [zf_no (fun j hj => hf j (by omega))])
    · refine z_aload_n C 0 dX6_fullPlace_16 rfl rfl ?_
      refine z_iload_n C 1 dX6_fullPlace_17 rfl rfl ?_
      refine z_iload_n C 2 dX6_fullPlace_18 rfl rfl ?_
      refine z_iload C dX6_fullPlace_19 rfl ?_
      refine z_callVr C kX6_isIn gX6_fullPlace_X6_isIn (mX6_isIn_1 X.2.1 a kp ty pl gd od vU vS vN vX vM vT vB vK vY vZ vR vC vV v k hO hv (by first | assumption | omega)) dX6_fullPlace_21 [0, 1] [] 0 rfl nd_0_1 rfl rfl rfl (by decide) (by decide) (Nat.le_of_ble_eq_true rfl) rfl ?_
      refine z_bif_eq C 38 dX6_fullPlace_24 (by decide) (fun h_2 => ?_) (fun h_2 => ?_)
      · refine z_iinc C (nI (k + 1)) dX6_fullPlace_38 rfl (zi_1 _) ?_
        refine z_goto C 6 dX6_fullPlace_41 (by decide) ?_
        exact ih6 (vU 1 - (k + 1)) (by omega) (k + 1) l9 rfl (by omega) (by have h8 := zc_s (p := (fun p => mVw vZ vK vR vC vS vN vM v 1 p)) (k := k); simp only [h_2, if_true, Bool.false_eq_true, if_false] at h8; omega) (lt_s hf (by simp [pK, h_2]))
      · refine z_iload C dX6_fullPlace_27 rfl ?_
        refine z_nif_ne C 35 dX6_fullPlace_29 (by decide) (by omega) (fun h_3 => ?_) (fun h_3 => ?_)
        · refine z_iinc C (nI (l9 - 1)) dX6_fullPlace_35 rfl (zi_p (by omega)) ?_
          refine z_iinc C (nI (k + 1)) dX6_fullPlace_38 rfl (zi_1 _) ?_
          refine z_goto C 6 dX6_fullPlace_41 (by decide) ?_
          exact ih6 (vU 1 - (k + 1)) (by omega) (k + 1) (l9 - 1) rfl (by omega) (by have h8 := zc_s (p := (fun p => mVw vZ vK vR vC vS vN vM v 1 p)) (k := k); simp only [h_2, if_true, Bool.false_eq_true, if_false] at h8; omega) (lt_s hf (by have h9 := zc_le (fun p => mVw vZ vK vR vC vS vN vM v 1 p) k; simp only [pK, h_2, Bool.true_and, decide_eq_false_iff_not]; intro q; have := (nI_eq (by omega) (by omega)).mp q; omega))
        · refine z_iload C dX6_fullPlace_32 rfl ?_
          exact z_iret C N dX6_fullPlace_34 (rfl) (by rw [zf_at (k := k) (by omega) (by simp only [pK, h_2, Bool.true_and, decide_eq_true_eq]; exact congrArg nI (by omega)) hf (by omega)])
  exact hL6 _ 0 pq rfl (by omega) (rfl) (fun j h => absurd h (Nat.not_lt_zero j))

theorem kX6_valueIn : zY yX6_valueIn wsX6_valueIn cX6_valueIn 4 (some .int) 3 := ⟨⟨_, rfl⟩, ⟨by decide +kernel, by decide +kernel, by decide +kernel⟩, by decide +kernel⟩
theorem fX6_valueIn_7 : zF wsX6_valueIn RX6 7 6 0 RX6 TX6 10 := ⟨by decide +kernel, rfl, by decide, by decide +kernel, rfl⟩
set_option maxHeartbeats 400000 in
set_option maxRecDepth 100000 in
theorem mX6_valueIn (E : zE) (a : Nat → Nat) (kp ty pl : Nat) (gd : Bool) (od : Nat) (vU vS : Nat → Nat) (vN : Nat → Int32) (vX vM : Nat) (vT : Bool) (vB vK vY vZ vR vC vV : Nat → Int32) (v r c : Nat) (hO : okM vU vS vM vK) (hW : nmM vU vS vN) (hv : v < 3) (hr : r < vU 0) (hc : c < vU 1) : zM E yX6_valueIn wsX6_valueIn 5 [.ref (a 0), .int (nI v), .int (nI r), .int (nI c)] [((a 0), .inr (6, [.ref (a 1), .ref (a 2), .ref (a 3), .int (nI kp), .int (nI ty), .ref (a 4), .int (nI pl), .int (zb gd), .int (nI od), .ref (a 5)])), ((a 1), .inl (E.2.2.1, 512, .inl (mRow vU vS vN vX vM vT vB vK vY vZ vR vC vV)))] [((a 0), .inr (6, [.ref (a 1), .ref (a 2), .ref (a 3), .int (nI kp), .int (nI ty), .ref (a 4), .int (nI pl), .int (zb gd), .int (nI od), .ref (a 5)])), ((a 1), .inl (E.2.2.1, 512, .inl (mRow vU vS vN vX vM vT vB vK vY vZ vR vC vV)))] (some (.int (mVv vZ vK vR vC vS vN vM vB vV v r c))) := by
  refine zM.of kX6_valueIn (Nat.le_of_ble_eq_true rfl) rfl [some (.ref (a 0)), some (.int (nI v)), some (.int (nI r)), some (.int (nI c))] rfl (Nat.le_of_ble_eq_true rfl) ?_
  intro X eX C N
  subst eX
  obtain ⟨hu0, hu1, hM, hk1, hk2, hk3⟩ := id hO
  refine z_iload_n C 1 dX6_valueIn_0 rfl rfl ?_
  refine z_iconst C (nI 2) dX6_valueIn_1 (by decide) ?_
  refine z_ncmp_ne C 19 dX6_valueIn_2 (by decide) (by omega) (by omega) (fun h_1 => ?_) (fun h_1 => ?_)
  · refine z_aload_n C 0 dX6_valueIn_19 rfl rfl ?_
    refine z_aload_n C 0 dX6_valueIn_20 rfl rfl ?_
    refine z_get C fX6_valueIn_7 0 dX6_valueIn_21 rfl rfl ?_
    refine z_bipush C (nI 51) dX6_valueIn_24 (by decide) ?_
    refine z_ialdN C 1 dX6_valueIn_26 rfl (by omega) (by decide) ?_
    refine z_top (y := nI (vM)) (zMr_M) ?_
    refine z_aload_n C 0 dX6_valueIn_27 rfl rfl ?_
    refine z_iconst C (nI 0) dX6_valueIn_28 (by decide) ?_
    refine z_iload_n C 2 dX6_valueIn_29 rfl rfl ?_
    refine z_callVr C kX6_nameAt gX6_valueIn_X6_nameAt (mX6_nameAt_0 X.2.1 a kp ty pl gd od vU vS vN vX vM vT vB vK vY vZ vR vC vV r hO (by first | assumption | omega)) dX6_valueIn_30 [0, 1] [.int (nI (vM)), .ref (a 0)] 0 rfl nd_0_1 rfl rfl rfl (by decide) (by decide) (Nat.le_of_ble_eq_true rfl) rfl ?_
    refine z_aload_n C 0 dX6_valueIn_33 rfl rfl ?_
    refine z_iconst C (nI 1) dX6_valueIn_34 (by decide) ?_
    refine z_iload_n C 3 dX6_valueIn_35 rfl rfl ?_
    refine z_callVr C kX6_nameAt gX6_valueIn_X6_nameAt (mX6_nameAt_1 X.2.1 a kp ty pl gd od vU vS vN vX vM vT vB vK vY vZ vR vC vV c hO (by first | assumption | omega)) dX6_valueIn_36 [0, 1] [.int (mN vS vN 0 r), .int (nI (vM)), .ref (a 0)] 0 rfl nd_0_1 rfl rfl rfl (by decide) (by decide) (Nat.le_of_ble_eq_true rfl) rfl ?_
    refine z_callVr C kX6_valueBelow gX6_valueIn_X6_valueBelow (mX6_valueBelow X.2.1 a kp ty pl gd od vU vS vN vX vM vT vB vK vY vZ vR vC vV (vM) (mN vS vN 0 r) (mN vS vN 1 c) r c hO hM (mPl_0 hW hO hr) (hr) (mPl_1 hW hO hc) (hc)) dX6_valueIn_39 [0, 1] [] 0 rfl nd_0_1 rfl rfl rfl (by decide) (by decide) (Nat.le_of_ble_eq_true rfl) rfl ?_
    exact z_iret C N dX6_valueIn_42 (rfl) (by unfold mVv; first | rw [if_pos (by omega)] | rw [if_neg (by omega)])
  · refine z_aload_n C 0 dX6_valueIn_5 rfl rfl ?_
    refine z_get C fX6_valueIn_7 0 dX6_valueIn_6 rfl rfl ?_
    refine z_aload_n C 0 dX6_valueIn_9 rfl rfl ?_
    refine z_iload_n C 2 dX6_valueIn_10 rfl rfl ?_
    refine z_iload_n C 3 dX6_valueIn_11 rfl rfl ?_
    refine z_callVr C kX6_baseAt gX6_valueIn_X6_baseAt (mX6_baseAt_0 X.2.1 a kp ty pl gd od vU vS vN vX vM vT vB vK vY vZ vR vC vV r c hO (by first | assumption | omega) (by first | assumption | omega)) dX6_valueIn_12 [0, 1] [.ref (a 1)] 0 rfl nd_0_1 rfl rfl rfl (by decide) (by decide) (Nat.le_of_ble_eq_true rfl) rfl ?_
    have hg_2 : mS vS 0 r < 12 := okM_r (by assumption) _
    have hg_3 : mS vS 1 c < 8 := okM_c (by assumption) _
    refine z_ialdN C 1 dX6_valueIn_15 rfl (by omega) (by decide) ?_
    refine z_top (y := mB vB vS r c) ((congrArg (mRow vU vS vN vX vM vT vB vK vY vZ vR vC vV) (show 53 + 8 * mS vS 0 r + mS vS 1 c = 53 + (8 * mS vS 0 r + mS vS 1 c) by omega)).trans (zMr_B (by omega))) ?_
    refine z_goto C 42 dX6_valueIn_16 (by decide) ?_
    exact z_iret C N dX6_valueIn_42 (rfl) (by unfold mVv; first | rw [if_pos (by omega)] | rw [if_neg (by omega)])

theorem kX6_cell : zY yX6_cell wsX6_cell cX6_cell 6 (some .int) 3 := ⟨⟨_, rfl⟩, ⟨by decide +kernel, by decide +kernel, by decide +kernel⟩, by decide +kernel⟩
set_option maxHeartbeats 400000 in
set_option maxRecDepth 100000 in
theorem mX6_cell_b1 (E : zE) (a : Nat → Nat) (kp ty pl : Nat) (gd : Bool) (od : Nat) (vU vS : Nat → Nat) (vN : Nat → Int32) (vX vM : Nat) (vT : Bool) (vB vK vY vZ vR vC vV : Nat → Int32) (v r c : Int32) (hO : okM vU vS vM vK) (hx : v < 0 ∨ (¬ v < 0 ∧ nI 2 < v)) : zM E yX6_cell wsX6_cell 7 [.ref (a 0), .int v, .int r, .int c] [((a 0), .inr (6, [.ref (a 1), .ref (a 2), .ref (a 3), .int (nI kp), .int (nI ty), .ref (a 4), .int (nI pl), .int (zb gd), .int (nI od), .ref (a 5)])), ((a 1), .inl (E.2.2.1, 512, .inl (mRow vU vS vN vX vM vT vB vK vY vZ vR vC vV)))] [((a 0), .inr (6, [.ref (a 1), .ref (a 2), .ref (a 3), .int (nI kp), .int (nI ty), .ref (a 4), .int (nI pl), .int (zb gd), .int (nI od), .ref (a 5)])), ((a 1), .inl (E.2.2.1, 512, .inl (mRow vU vS vN vX vM vT vB vK vY vZ vR vC vV)))] (some (.int (-1))) := by
  refine zM.of kX6_cell (Nat.le_of_ble_eq_true rfl) rfl [some (.ref (a 0)), some (.int v), some (.int r), some (.int c), none, none] rfl (Nat.le_of_ble_eq_true rfl) ?_
  intro X eX C N
  subst eX
  obtain ⟨hu0, hu1, hM, hk1, hk2, hk3⟩ := id hO
  refine z_iload_n C 1 dX6_cell_0 rfl rfl ?_
  refine z_iconst C (nI 0) dX6_cell_1 (by decide) ?_
  refine z_iconst C (nI 2) dX6_cell_2 (by decide) ?_
  refine z_callS C kX6_in gX6_cell_X6_in (mX6_in_n X.2.1 v 2 hx) dX6_cell_3 [] rfl (by decide) (by decide) (Nat.le_of_ble_eq_true rfl) rfl ?_
  refine z_bif_eq_t C 17 dX6_cell_6 (by decide) rfl ?_
  refine z_iconst C (-1) dX6_cell_17 (by decide) ?_
  exact z_iret C N dX6_cell_18 (rfl) (rfl)

set_option maxHeartbeats 400000 in
set_option maxRecDepth 100000 in
theorem mX6_cell_b2 (E : zE) (a : Nat → Nat) (kp ty pl : Nat) (gd : Bool) (od : Nat) (vU vS : Nat → Nat) (vN : Nat → Int32) (vX vM : Nat) (vT : Bool) (vB vK vY vZ vR vC vV : Nat → Int32) (v : Nat) (r c : Int32) (hO : okM vU vS vM vK) (hv : v < 3) (hr : r < 0) : zM E yX6_cell wsX6_cell 7 [.ref (a 0), .int (nI v), .int r, .int c] [((a 0), .inr (6, [.ref (a 1), .ref (a 2), .ref (a 3), .int (nI kp), .int (nI ty), .ref (a 4), .int (nI pl), .int (zb gd), .int (nI od), .ref (a 5)])), ((a 1), .inl (E.2.2.1, 512, .inl (mRow vU vS vN vX vM vT vB vK vY vZ vR vC vV)))] [((a 0), .inr (6, [.ref (a 1), .ref (a 2), .ref (a 3), .int (nI kp), .int (nI ty), .ref (a 4), .int (nI pl), .int (zb gd), .int (nI od), .ref (a 5)])), ((a 1), .inl (E.2.2.1, 512, .inl (mRow vU vS vN vX vM vT vB vK vY vZ vR vC vV)))] (some (.int (-1))) := by
  refine zM.of kX6_cell (Nat.le_of_ble_eq_true rfl) rfl [some (.ref (a 0)), some (.int (nI v)), some (.int r), some (.int c), none, none] rfl (Nat.le_of_ble_eq_true rfl) ?_
  intro X eX C N
  subst eX
  obtain ⟨hu0, hu1, hM, hk1, hk2, hk3⟩ := id hO
  refine z_iload_n C 1 dX6_cell_0 rfl rfl ?_
  refine z_iconst C (nI 0) dX6_cell_1 (by decide) ?_
  refine z_iconst C (nI 2) dX6_cell_2 (by decide) ?_
  refine z_callS C kX6_in gX6_cell_X6_in (mX6_in_y X.2.1 v 2 (by first | assumption | omega) (by first | assumption | omega)) dX6_cell_3 [] rfl (by decide) (by decide) (Nat.le_of_ble_eq_true rfl) rfl ?_
  refine z_bif_eq_f C 17 dX6_cell_6 (by decide) rfl ?_
  refine z_iload_n C 2 dX6_cell_9 rfl rfl ?_
  refine z_if_lt_t C 17 dX6_cell_10 (by decide) hr ?_
  refine z_iconst C (-1) dX6_cell_17 (by decide) ?_
  exact z_iret C N dX6_cell_18 (rfl) (rfl)

set_option maxHeartbeats 400000 in
set_option maxRecDepth 100000 in
theorem mX6_cell_b3 (E : zE) (a : Nat → Nat) (kp ty pl : Nat) (gd : Bool) (od : Nat) (vU vS : Nat → Nat) (vN : Nat → Int32) (vX vM : Nat) (vT : Bool) (vB vK vY vZ vR vC vV : Nat → Int32) (v : Nat) (r c : Int32) (hO : okM vU vS vM vK) (hv : v < 3) (hr : ¬ r < 0) (hc : c < 0) : zM E yX6_cell wsX6_cell 7 [.ref (a 0), .int (nI v), .int r, .int c] [((a 0), .inr (6, [.ref (a 1), .ref (a 2), .ref (a 3), .int (nI kp), .int (nI ty), .ref (a 4), .int (nI pl), .int (zb gd), .int (nI od), .ref (a 5)])), ((a 1), .inl (E.2.2.1, 512, .inl (mRow vU vS vN vX vM vT vB vK vY vZ vR vC vV)))] [((a 0), .inr (6, [.ref (a 1), .ref (a 2), .ref (a 3), .int (nI kp), .int (nI ty), .ref (a 4), .int (nI pl), .int (zb gd), .int (nI od), .ref (a 5)])), ((a 1), .inl (E.2.2.1, 512, .inl (mRow vU vS vN vX vM vT vB vK vY vZ vR vC vV)))] (some (.int (-1))) := by
  refine zM.of kX6_cell (Nat.le_of_ble_eq_true rfl) rfl [some (.ref (a 0)), some (.int (nI v)), some (.int r), some (.int c), none, none] rfl (Nat.le_of_ble_eq_true rfl) ?_
  intro X eX C N
  subst eX
  obtain ⟨hu0, hu1, hM, hk1, hk2, hk3⟩ := id hO
  refine z_iload_n C 1 dX6_cell_0 rfl rfl ?_
  refine z_iconst C (nI 0) dX6_cell_1 (by decide) ?_
  refine z_iconst C (nI 2) dX6_cell_2 (by decide) ?_
  refine z_callS C kX6_in gX6_cell_X6_in (mX6_in_y X.2.1 v 2 (by first | assumption | omega) (by first | assumption | omega)) dX6_cell_3 [] rfl (by decide) (by decide) (Nat.le_of_ble_eq_true rfl) rfl ?_
  refine z_bif_eq_f C 17 dX6_cell_6 (by decide) rfl ?_
  refine z_iload_n C 2 dX6_cell_9 rfl rfl ?_
  refine z_if_lt_f C 17 dX6_cell_10 (by decide) hr ?_
  refine z_iload_n C 3 dX6_cell_13 rfl rfl ?_
  refine z_if_ge_f C 19 dX6_cell_14 (by decide) (Int32.not_le.mpr hc) ?_
  refine z_iconst C (-1) dX6_cell_17 (by decide) ?_
  exact z_iret C N dX6_cell_18 (rfl) (rfl)

set_option maxHeartbeats 400000 in
set_option maxRecDepth 100000 in
theorem mX6_cell_n1 (E : zE) (a : Nat → Nat) (kp ty pl : Nat) (gd : Bool) (od : Nat) (vU vS : Nat → Nat) (vN : Nat → Int32) (vX vM : Nat) (vT : Bool) (vB vK vY vZ vR vC vV : Nat → Int32) (v r c : Nat) (hO : okM vU vS vM vK) (hv : v < 3) (hrb : r < 2147483648) (hcb : c < 2147483648) (hr : zf (pK (fun p => mVw vZ vK vR vC vS vN vM v 0 p) (nI r)) (vU 0) < 0) : zM E yX6_cell wsX6_cell 7 [.ref (a 0), .int (nI v), .int (nI r), .int (nI c)] [((a 0), .inr (6, [.ref (a 1), .ref (a 2), .ref (a 3), .int (nI kp), .int (nI ty), .ref (a 4), .int (nI pl), .int (zb gd), .int (nI od), .ref (a 5)])), ((a 1), .inl (E.2.2.1, 512, .inl (mRow vU vS vN vX vM vT vB vK vY vZ vR vC vV)))] [((a 0), .inr (6, [.ref (a 1), .ref (a 2), .ref (a 3), .int (nI kp), .int (nI ty), .ref (a 4), .int (nI pl), .int (zb gd), .int (nI od), .ref (a 5)])), ((a 1), .inl (E.2.2.1, 512, .inl (mRow vU vS vN vX vM vT vB vK vY vZ vR vC vV)))] (some (.int (-1))) := by
  refine zM.of kX6_cell (Nat.le_of_ble_eq_true rfl) rfl [some (.ref (a 0)), some (.int (nI v)), some (.int (nI r)), some (.int (nI c)), none, none] rfl (Nat.le_of_ble_eq_true rfl) ?_
  intro X eX C N
  subst eX
  obtain ⟨hu0, hu1, hM, hk1, hk2, hk3⟩ := id hO
  refine z_iload_n C 1 dX6_cell_0 rfl rfl ?_
  refine z_iconst C (nI 0) dX6_cell_1 (by decide) ?_
  refine z_iconst C (nI 2) dX6_cell_2 (by decide) ?_
  refine z_callS C kX6_in gX6_cell_X6_in (mX6_in_y X.2.1 v 2 (by first | assumption | omega) (by first | assumption | omega)) dX6_cell_3 [] rfl (by decide) (by decide) (Nat.le_of_ble_eq_true rfl) rfl ?_
  refine z_bif_eq_f C 17 dX6_cell_6 (by decide) rfl ?_
  refine z_iload_n C 2 dX6_cell_9 rfl rfl ?_
  refine z_nif_lt_f C 17 dX6_cell_10 (by decide) (by omega) (by trivial) ?_
  refine z_iload_n C 3 dX6_cell_13 rfl rfl ?_
  refine z_nif_ge_t C 19 dX6_cell_14 (by decide) (by omega) (by trivial) ?_
  refine z_aload_n C 0 dX6_cell_19 rfl rfl ?_
  refine z_iload_n C 1 dX6_cell_20 rfl rfl ?_
  refine z_iconst C (nI 0) dX6_cell_21 (by decide) ?_
  refine z_iload_n C 2 dX6_cell_22 rfl rfl ?_
  refine z_callVr C kX6_fullPlace gX6_cell_X6_fullPlace (mX6_fullPlace_0 X.2.1 a kp ty pl gd od vU vS vN vX vM vT vB vK vY vZ vR vC vV v r hO hv hrb) dX6_cell_23 [0, 1] [] 0 rfl nd_0_1 rfl rfl rfl (by decide) (by decide) (Nat.le_of_ble_eq_true rfl) rfl ?_
  refine z_istore C dX6_cell_26 (Nat.le_of_ble_eq_true rfl) ?_
  refine z_aload_n C 0 dX6_cell_28 rfl rfl ?_
  refine z_iload_n C 1 dX6_cell_29 rfl rfl ?_
  refine z_iconst C (nI 1) dX6_cell_30 (by decide) ?_
  refine z_iload_n C 3 dX6_cell_31 rfl rfl ?_
  refine z_callVr C kX6_fullPlace gX6_cell_X6_fullPlace (mX6_fullPlace_1 X.2.1 a kp ty pl gd od vU vS vN vX vM vT vB vK vY vZ vR vC vV v c hO hv hcb) dX6_cell_32 [0, 1] [] 0 rfl nd_0_1 rfl rfl rfl (by decide) (by decide) (Nat.le_of_ble_eq_true rfl) rfl ?_
  refine z_istore C dX6_cell_35 (Nat.le_of_ble_eq_true rfl) ?_
  refine z_iload C dX6_cell_37 rfl ?_
  refine z_if_lt_t C 47 dX6_cell_39 (by decide) hr ?_
  refine z_iconst C (-1) dX6_cell_47 (by decide) ?_
  refine z_goto C 60 dX6_cell_48 (by decide) ?_
  exact z_iret C N dX6_cell_60 (rfl) (rfl)

set_option maxHeartbeats 400000 in
set_option maxRecDepth 100000 in
theorem mX6_cell_n2 (E : zE) (a : Nat → Nat) (kp ty pl : Nat) (gd : Bool) (od : Nat) (vU vS : Nat → Nat) (vN : Nat → Int32) (vX vM : Nat) (vT : Bool) (vB vK vY vZ vR vC vV : Nat → Int32) (v r c x : Nat) (hO : okM vU vS vM vK) (hv : v < 3) (hrb : r < 2147483648) (hcb : c < 2147483648) (hr : zf (pK (fun p => mVw vZ vK vR vC vS vN vM v 0 p) (nI r)) (vU 0) = nI x) (hx : x < vU 0) (hc : zf (pK (fun p => mVw vZ vK vR vC vS vN vM v 1 p) (nI c)) (vU 1) < 0) : zM E yX6_cell wsX6_cell 7 [.ref (a 0), .int (nI v), .int (nI r), .int (nI c)] [((a 0), .inr (6, [.ref (a 1), .ref (a 2), .ref (a 3), .int (nI kp), .int (nI ty), .ref (a 4), .int (nI pl), .int (zb gd), .int (nI od), .ref (a 5)])), ((a 1), .inl (E.2.2.1, 512, .inl (mRow vU vS vN vX vM vT vB vK vY vZ vR vC vV)))] [((a 0), .inr (6, [.ref (a 1), .ref (a 2), .ref (a 3), .int (nI kp), .int (nI ty), .ref (a 4), .int (nI pl), .int (zb gd), .int (nI od), .ref (a 5)])), ((a 1), .inl (E.2.2.1, 512, .inl (mRow vU vS vN vX vM vT vB vK vY vZ vR vC vV)))] (some (.int (-1))) := by
  refine zM.of kX6_cell (Nat.le_of_ble_eq_true rfl) rfl [some (.ref (a 0)), some (.int (nI v)), some (.int (nI r)), some (.int (nI c)), none, none] rfl (Nat.le_of_ble_eq_true rfl) ?_
  intro X eX C N
  subst eX
  obtain ⟨hu0, hu1, hM, hk1, hk2, hk3⟩ := id hO
  refine z_iload_n C 1 dX6_cell_0 rfl rfl ?_
  refine z_iconst C (nI 0) dX6_cell_1 (by decide) ?_
  refine z_iconst C (nI 2) dX6_cell_2 (by decide) ?_
  refine z_callS C kX6_in gX6_cell_X6_in (mX6_in_y X.2.1 v 2 (by first | assumption | omega) (by first | assumption | omega)) dX6_cell_3 [] rfl (by decide) (by decide) (Nat.le_of_ble_eq_true rfl) rfl ?_
  refine z_bif_eq_f C 17 dX6_cell_6 (by decide) rfl ?_
  refine z_iload_n C 2 dX6_cell_9 rfl rfl ?_
  refine z_nif_lt_f C 17 dX6_cell_10 (by decide) (by omega) (by trivial) ?_
  refine z_iload_n C 3 dX6_cell_13 rfl rfl ?_
  refine z_nif_ge_t C 19 dX6_cell_14 (by decide) (by omega) (by trivial) ?_
  refine z_aload_n C 0 dX6_cell_19 rfl rfl ?_
  refine z_iload_n C 1 dX6_cell_20 rfl rfl ?_
  refine z_iconst C (nI 0) dX6_cell_21 (by decide) ?_
  refine z_iload_n C 2 dX6_cell_22 rfl rfl ?_
  refine z_callVr C kX6_fullPlace gX6_cell_X6_fullPlace (mX6_fullPlace_0 X.2.1 a kp ty pl gd od vU vS vN vX vM vT vB vK vY vZ vR vC vV v r hO hv hrb) dX6_cell_23 [0, 1] [] 0 rfl nd_0_1 rfl rfl rfl (by decide) (by decide) (Nat.le_of_ble_eq_true rfl) rfl ?_
  refine z_top (y := nI x) (hr) ?_
  refine z_istore C dX6_cell_26 (Nat.le_of_ble_eq_true rfl) ?_
  refine z_aload_n C 0 dX6_cell_28 rfl rfl ?_
  refine z_iload_n C 1 dX6_cell_29 rfl rfl ?_
  refine z_iconst C (nI 1) dX6_cell_30 (by decide) ?_
  refine z_iload_n C 3 dX6_cell_31 rfl rfl ?_
  refine z_callVr C kX6_fullPlace gX6_cell_X6_fullPlace (mX6_fullPlace_1 X.2.1 a kp ty pl gd od vU vS vN vX vM vT vB vK vY vZ vR vC vV v c hO hv hcb) dX6_cell_32 [0, 1] [] 0 rfl nd_0_1 rfl rfl rfl (by decide) (by decide) (Nat.le_of_ble_eq_true rfl) rfl ?_
  refine z_istore C dX6_cell_35 (Nat.le_of_ble_eq_true rfl) ?_
  refine z_iload C dX6_cell_37 rfl ?_
  refine z_nif_lt_f C 47 dX6_cell_39 (by decide) (by omega) (by trivial) ?_
  refine z_iload C dX6_cell_42 rfl ?_
  refine z_if_ge_f C 51 dX6_cell_44 (by decide) (Int32.not_le.mpr hc) ?_
  refine z_iconst C (-1) dX6_cell_47 (by decide) ?_
  refine z_goto C 60 dX6_cell_48 (by decide) ?_
  exact z_iret C N dX6_cell_60 (rfl) (rfl)

set_option maxHeartbeats 400000 in
set_option maxRecDepth 100000 in
theorem mX6_cell (E : zE) (a : Nat → Nat) (kp ty pl : Nat) (gd : Bool) (od : Nat) (vU vS : Nat → Nat) (vN : Nat → Int32) (vX vM : Nat) (vT : Bool) (vB vK vY vZ vR vC vV : Nat → Int32) (v r c x y : Nat) (hO : okM vU vS vM vK) (hW : nmM vU vS vN) (hv : v < 3) (hrb : r < 2147483648) (hcb : c < 2147483648) (hr : zf (pK (fun p => mVw vZ vK vR vC vS vN vM v 0 p) (nI r)) (vU 0) = nI x) (hx : x < vU 0) (hc : zf (pK (fun p => mVw vZ vK vR vC vS vN vM v 1 p) (nI c)) (vU 1) = nI y) (hy : y < vU 1) : zM E yX6_cell wsX6_cell 7 [.ref (a 0), .int (nI v), .int (nI r), .int (nI c)] [((a 0), .inr (6, [.ref (a 1), .ref (a 2), .ref (a 3), .int (nI kp), .int (nI ty), .ref (a 4), .int (nI pl), .int (zb gd), .int (nI od), .ref (a 5)])), ((a 1), .inl (E.2.2.1, 512, .inl (mRow vU vS vN vX vM vT vB vK vY vZ vR vC vV)))] [((a 0), .inr (6, [.ref (a 1), .ref (a 2), .ref (a 3), .int (nI kp), .int (nI ty), .ref (a 4), .int (nI pl), .int (zb gd), .int (nI od), .ref (a 5)])), ((a 1), .inl (E.2.2.1, 512, .inl (mRow vU vS vN vX vM vT vB vK vY vZ vR vC vV)))] (some (.int (mVv vZ vK vR vC vS vN vM vB vV v x y))) := by
  refine zM.of kX6_cell (Nat.le_of_ble_eq_true rfl) rfl [some (.ref (a 0)), some (.int (nI v)), some (.int (nI r)), some (.int (nI c)), none, none] rfl (Nat.le_of_ble_eq_true rfl) ?_
  intro X eX C N
  subst eX
  obtain ⟨hu0, hu1, hM, hk1, hk2, hk3⟩ := id hO
  refine z_iload_n C 1 dX6_cell_0 rfl rfl ?_
  refine z_iconst C (nI 0) dX6_cell_1 (by decide) ?_
  refine z_iconst C (nI 2) dX6_cell_2 (by decide) ?_
  refine z_callS C kX6_in gX6_cell_X6_in (mX6_in_y X.2.1 v 2 (by first | assumption | omega) (by first | assumption | omega)) dX6_cell_3 [] rfl (by decide) (by decide) (Nat.le_of_ble_eq_true rfl) rfl ?_
  refine z_bif_eq_f C 17 dX6_cell_6 (by decide) rfl ?_
  refine z_iload_n C 2 dX6_cell_9 rfl rfl ?_
  refine z_nif_lt_f C 17 dX6_cell_10 (by decide) (by omega) (by trivial) ?_
  refine z_iload_n C 3 dX6_cell_13 rfl rfl ?_
  refine z_nif_ge_t C 19 dX6_cell_14 (by decide) (by omega) (by trivial) ?_
  refine z_aload_n C 0 dX6_cell_19 rfl rfl ?_
  refine z_iload_n C 1 dX6_cell_20 rfl rfl ?_
  refine z_iconst C (nI 0) dX6_cell_21 (by decide) ?_
  refine z_iload_n C 2 dX6_cell_22 rfl rfl ?_
  refine z_callVr C kX6_fullPlace gX6_cell_X6_fullPlace (mX6_fullPlace_0 X.2.1 a kp ty pl gd od vU vS vN vX vM vT vB vK vY vZ vR vC vV v r hO hv hrb) dX6_cell_23 [0, 1] [] 0 rfl nd_0_1 rfl rfl rfl (by decide) (by decide) (Nat.le_of_ble_eq_true rfl) rfl ?_
  refine z_top (y := nI x) (hr) ?_
  refine z_istore C dX6_cell_26 (Nat.le_of_ble_eq_true rfl) ?_
  refine z_aload_n C 0 dX6_cell_28 rfl rfl ?_
  refine z_iload_n C 1 dX6_cell_29 rfl rfl ?_
  refine z_iconst C (nI 1) dX6_cell_30 (by decide) ?_
  refine z_iload_n C 3 dX6_cell_31 rfl rfl ?_
  refine z_callVr C kX6_fullPlace gX6_cell_X6_fullPlace (mX6_fullPlace_1 X.2.1 a kp ty pl gd od vU vS vN vX vM vT vB vK vY vZ vR vC vV v c hO hv hcb) dX6_cell_32 [0, 1] [] 0 rfl nd_0_1 rfl rfl rfl (by decide) (by decide) (Nat.le_of_ble_eq_true rfl) rfl ?_
  refine z_top (y := nI y) (hc) ?_
  refine z_istore C dX6_cell_35 (Nat.le_of_ble_eq_true rfl) ?_
  refine z_iload C dX6_cell_37 rfl ?_
  refine z_nif_lt_f C 47 dX6_cell_39 (by decide) (by omega) (by trivial) ?_
  refine z_iload C dX6_cell_42 rfl ?_
  refine z_nif_ge_t C 51 dX6_cell_44 (by decide) (by omega) (by trivial) ?_
  refine z_aload_n C 0 dX6_cell_51 rfl rfl ?_
  refine z_iload_n C 1 dX6_cell_52 rfl rfl ?_
  refine z_iload C dX6_cell_53 rfl ?_
  refine z_iload C dX6_cell_55 rfl ?_
  refine z_callVr C kX6_valueIn gX6_cell_X6_valueIn (mX6_valueIn X.2.1 a kp ty pl gd od vU vS vN vX vM vT vB vK vY vZ vR vC vV v x y hO hW hv hx hy) dX6_cell_57 [0, 1] [] 0 rfl nd_0_1 rfl rfl rfl (by decide) (by decide) (Nat.le_of_ble_eq_true rfl) rfl ?_
  exact z_iret C N dX6_cell_60 (rfl) (rfl)

theorem kX6_sum : zY yX6_sum wsX6_sum cX6_sum 5 (some .int) 1 := ⟨⟨_, rfl⟩, ⟨by decide +kernel, by decide +kernel, by decide +kernel⟩, by decide +kernel⟩
set_option maxHeartbeats 400000 in
set_option maxRecDepth 100000 in
theorem mX6_sum_b (E : zE) (a : Nat → Nat) (kp ty pl : Nat) (gd : Bool) (od : Nat) (vU vS : Nat → Nat) (vN : Nat → Int32) (vX vM : Nat) (vT : Bool) (vB vK vY vZ vR vC vV : Nat → Int32) (v : Int32) (hO : okM vU vS vM vK) (hx : v < 0 ∨ (¬ v < 0 ∧ nI 2 < v)) : zM E yX6_sum wsX6_sum 6 [.ref (a 0), .int v] [((a 0), .inr (6, [.ref (a 1), .ref (a 2), .ref (a 3), .int (nI kp), .int (nI ty), .ref (a 4), .int (nI pl), .int (zb gd), .int (nI od), .ref (a 5)])), ((a 1), .inl (E.2.2.1, 512, .inl (mRow vU vS vN vX vM vT vB vK vY vZ vR vC vV)))] [((a 0), .inr (6, [.ref (a 1), .ref (a 2), .ref (a 3), .int (nI kp), .int (nI ty), .ref (a 4), .int (nI pl), .int (zb gd), .int (nI od), .ref (a 5)])), ((a 1), .inl (E.2.2.1, 512, .inl (mRow vU vS vN vX vM vT vB vK vY vZ vR vC vV)))] (some (.int (-1))) := by
  refine zM.of kX6_sum (Nat.le_of_ble_eq_true rfl) rfl [some (.ref (a 0)), some (.int v), none, none, none] rfl (Nat.le_of_ble_eq_true rfl) ?_
  intro X eX C N
  subst eX
  obtain ⟨hu0, hu1, hM, hk1, hk2, hk3⟩ := id hO
  refine z_iload_n C 1 dX6_sum_0 rfl rfl ?_
  refine z_iconst C (nI 0) dX6_sum_1 (by decide) ?_
  refine z_iconst C (nI 2) dX6_sum_2 (by decide) ?_
  refine z_callS C kX6_in gX6_sum_X6_in (mX6_in_n X.2.1 v 2 hx) dX6_sum_3 [] rfl (by decide) (by decide) (Nat.le_of_ble_eq_true rfl) rfl ?_
  refine z_bif_ne_f C 11 dX6_sum_6 (by decide) rfl ?_
  refine z_iconst C (-1) dX6_sum_9 (by decide) ?_
  exact z_iret C N dX6_sum_10 (rfl) (rfl)

set_option maxHeartbeats 400000 in
set_option maxRecDepth 100000 in
theorem mX6_sum (E : zE) (a : Nat → Nat) (kp ty pl : Nat) (gd : Bool) (od : Nat) (vU vS : Nat → Nat) (vN : Nat → Int32) (vX vM : Nat) (vT : Bool) (vB vK vY vZ vR vC vV : Nat → Int32) (v : Nat) (hO : okM vU vS vM vK) (hW : nmM vU vS vN) (hv : v < 3) : zM E yX6_sum wsX6_sum 6 [.ref (a 0), .int (nI v)] [((a 0), .inr (6, [.ref (a 1), .ref (a 2), .ref (a 3), .int (nI kp), .int (nI ty), .ref (a 4), .int (nI pl), .int (zb gd), .int (nI od), .ref (a 5)])), ((a 1), .inl (E.2.2.1, 512, .inl (mRow vU vS vN vX vM vT vB vK vY vZ vR vC vV)))] [((a 0), .inr (6, [.ref (a 1), .ref (a 2), .ref (a 3), .int (nI kp), .int (nI ty), .ref (a 4), .int (nI pl), .int (zb gd), .int (nI od), .ref (a 5)])), ((a 1), .inl (E.2.2.1, 512, .inl (mRow vU vS vN vX vM vT vB vK vY vZ vR vC vV)))] (some (.int (zu (fun r => zu (fun c => if mVw vZ vK vR vC vS vN vM v 0 r && mVw vZ vK vR vC vS vN vM v 1 c then mVv vZ vK vR vC vS vN vM vB vV v r c else 0) (vU 1)) (vU 0)))) := by
  refine zM.of kX6_sum (Nat.le_of_ble_eq_true rfl) rfl [some (.ref (a 0)), some (.int (nI v)), none, none, none] rfl (Nat.le_of_ble_eq_true rfl) ?_
  intro X eX C N
  subst eX
  obtain ⟨hu0, hu1, hM, hk1, hk2, hk3⟩ := id hO
  refine z_iload_n C 1 dX6_sum_0 rfl rfl ?_
  refine z_iconst C (nI 0) dX6_sum_1 (by decide) ?_
  refine z_iconst C (nI 2) dX6_sum_2 (by decide) ?_
  refine z_callS C kX6_in gX6_sum_X6_in (mX6_in_y X.2.1 v 2 (by first | assumption | omega) (by first | assumption | omega)) dX6_sum_3 [] rfl (by decide) (by decide) (Nat.le_of_ble_eq_true rfl) rfl ?_
  refine z_bif_ne_t C 11 dX6_sum_6 (by decide) rfl ?_
  refine z_iconst C (nI 0) dX6_sum_11 (by decide) ?_
  refine z_istore_n C 2 dX6_sum_12 rfl (Nat.le_of_ble_eq_true rfl) ?_
  refine z_iconst C (nI 0) dX6_sum_13 (by decide) ?_
  refine z_istore_n C 3 dX6_sum_14 rfl (Nat.le_of_ble_eq_true rfl) ?_
  have hL15 : ∀ (dd : Nat) (k : Nat) (s9 : Int32), vU 0 - k = dd → (k ≤ vU 0) → (s9 = zu (fun r => zu (fun c => if mVw vZ vK vR vC vS vN vM v 0 r && mVw vZ vK vR vC vS vN vM v 1 c then mVv vZ vK vR vC vS vN vM vB vV v r c else 0) (vU 1)) k) → zG X 0 0 [((a 0), .inr (6, [.ref (a 1), .ref (a 2), .ref (a 3), .int (nI kp), .int (nI ty), .ref (a 4), .int (nI pl), .int (zb gd), .int (nI od), .ref (a 5)])), ((a 1), .inl (X.2.1.2.2.1, 512, .inl (mRow vU vS vN vX vM vT vB vK vY vZ vR vC vV)))] [some (.ref (a 0)), some (.int (nI v)), some (.int s9), some (.int (nI k)), none] [] 15 := by
    intro dd
    induction dd using Nat.strongRecOn with
    | _ dd ih15 =>
    intro k s9 hdd hk hs
    refine z_iload_n C 3 dX6_sum_15 rfl rfl ?_
    refine z_aload_n C 0 dX6_sum_16 rfl rfl ?_
    refine z_iconst C (nI 0) dX6_sum_17 (by decide) ?_
    refine z_callVr C kX6_many gX6_sum_X6_many (mX6_many_0 X.2.1 a kp ty pl gd od vU vS vN vX vM vT vB vK vY vZ vR vC vV ) dX6_sum_18 [0, 1] [.int (nI k)] 0 rfl nd_0_1 rfl rfl rfl (by decide) (by decide) (Nat.le_of_ble_eq_true rfl) rfl ?_
    refine z_ncmp_ge C 85 dX6_sum_21 (by decide) (by omega) (by omega) (fun h_1 => ?_) (fun h_1 => ?_)
    · refine z_iload_n C 2 dX6_sum_85 rfl rfl ?_
      exact z_iret C N dX6_sum_86 (rfl) (by rw [hs, show k = vU 0 by omega])
    · refine z_iconst C (nI 0) dX6_sum_24 (by decide) ?_
      refine z_istore C dX6_sum_25 (Nat.le_of_ble_eq_true rfl) ?_
      have hL27 : ∀ (dd : Nat) (m : Nat) (t9 : Int32), vU 1 - m = dd → (m ≤ vU 1) → (t9 = zu (fun r => zu (fun c => if mVw vZ vK vR vC vS vN vM v 0 r && mVw vZ vK vR vC vS vN vM v 1 c then mVv vZ vK vR vC vS vN vM vB vV v r c else 0) (vU 1)) k + zu (fun c => if mVw vZ vK vR vC vS vN vM v 0 k && mVw vZ vK vR vC vS vN vM v 1 c then mVv vZ vK vR vC vS vN vM vB vV v k c else 0) m) → zG X 0 0 [((a 0), .inr (6, [.ref (a 1), .ref (a 2), .ref (a 3), .int (nI kp), .int (nI ty), .ref (a 4), .int (nI pl), .int (zb gd), .int (nI od), .ref (a 5)])), ((a 1), .inl (X.2.1.2.2.1, 512, .inl (mRow vU vS vN vX vM vT vB vK vY vZ vR vC vV)))] [some (.ref (a 0)), some (.int (nI v)), some (.int t9), some (.int (nI k)), some (.int (nI m))] [] 27 := by
        intro dd
        induction dd using Nat.strongRecOn with
        | _ dd ih27 =>
        intro m t9 hdd hmb hm
        refine z_iload C dX6_sum_27 rfl ?_
        refine z_aload_n C 0 dX6_sum_29 rfl rfl ?_
        refine z_iconst C (nI 1) dX6_sum_30 (by decide) ?_
        refine z_callVr C kX6_many gX6_sum_X6_many (mX6_many_1 X.2.1 a kp ty pl gd od vU vS vN vX vM vT vB vK vY vZ vR vC vV ) dX6_sum_31 [0, 1] [.int (nI m)] 0 rfl nd_0_1 rfl rfl rfl (by decide) (by decide) (Nat.le_of_ble_eq_true rfl) rfl ?_
        refine z_ncmp_ge C 79 dX6_sum_34 (by decide) (by omega) (by omega) (fun h_2 => ?_) (fun h_2 => ?_)
        · refine z_iinc C (nI (k + 1)) dX6_sum_79 rfl (zi_1 _) ?_
          refine z_goto C 15 dX6_sum_82 (by decide) ?_
          refine z_kill 4 ?_
          exact ih15 (vU 0 - (k + 1)) (by omega) (k + 1) t9 rfl (by omega) (by rw [hm, show m = vU 1 by omega]; rfl)
        · refine z_iload_n C 2 dX6_sum_37 rfl rfl ?_
          refine z_aload_n C 0 dX6_sum_38 rfl rfl ?_
          refine z_iload_n C 1 dX6_sum_39 rfl rfl ?_
          refine z_iconst C (nI 0) dX6_sum_40 (by decide) ?_
          refine z_iload_n C 3 dX6_sum_41 rfl rfl ?_
          refine z_callVr C kX6_isIn gX6_sum_X6_isIn (mX6_isIn_0 X.2.1 a kp ty pl gd od vU vS vN vX vM vT vB vK vY vZ vR vC vV v k hO hv (by first | assumption | omega)) dX6_sum_42 [0, 1] [.int t9] 0 rfl nd_0_1 rfl rfl rfl (by decide) (by decide) (Nat.le_of_ble_eq_true rfl) rfl ?_
          refine z_bif_eq C 70 dX6_sum_45 (by decide) (fun h_3 => ?_) (fun h_3 => ?_)
          · refine z_iconst C (nI 0) dX6_sum_70 (by decide) ?_
            refine z_iadd C dX6_sum_71 ?_
            refine z_istore_n C 2 dX6_sum_72 rfl (Nat.le_of_ble_eq_true rfl) ?_
            refine z_iinc C (nI (m + 1)) dX6_sum_73 rfl (zi_1 _) ?_
            refine z_goto C 27 dX6_sum_76 (by decide) ?_
            exact ih27 (vU 1 - (m + 1)) (by omega) (m + 1) (t9 + (nI 0)) rfl (by omega) (by subst hm; simp [zu, h_3, zz_0, Int32.add_assoc])
          · refine z_aload_n C 0 dX6_sum_48 rfl rfl ?_
            refine z_iload_n C 1 dX6_sum_49 rfl rfl ?_
            refine z_iconst C (nI 1) dX6_sum_50 (by decide) ?_
            refine z_iload C dX6_sum_51 rfl ?_
            refine z_callVr C kX6_isIn gX6_sum_X6_isIn (mX6_isIn_1 X.2.1 a kp ty pl gd od vU vS vN vX vM vT vB vK vY vZ vR vC vV v m hO hv (by first | assumption | omega)) dX6_sum_53 [0, 1] [.int t9] 0 rfl nd_0_1 rfl rfl rfl (by decide) (by decide) (Nat.le_of_ble_eq_true rfl) rfl ?_
            refine z_bif_eq C 70 dX6_sum_56 (by decide) (fun h_4 => ?_) (fun h_4 => ?_)
            · refine z_iconst C (nI 0) dX6_sum_70 (by decide) ?_
              refine z_iadd C dX6_sum_71 ?_
              refine z_istore_n C 2 dX6_sum_72 rfl (Nat.le_of_ble_eq_true rfl) ?_
              refine z_iinc C (nI (m + 1)) dX6_sum_73 rfl (zi_1 _) ?_
              refine z_goto C 27 dX6_sum_76 (by decide) ?_
              exact ih27 (vU 1 - (m + 1)) (by omega) (m + 1) (t9 + (nI 0)) rfl (by omega) (by subst hm; simp [zu, h_3, h_4, zz_0, Int32.add_assoc])
            · refine z_aload_n C 0 dX6_sum_59 rfl rfl ?_
              refine z_iload_n C 1 dX6_sum_60 rfl rfl ?_
              refine z_iload_n C 3 dX6_sum_61 rfl rfl ?_
              refine z_iload C dX6_sum_62 rfl ?_
              refine z_callVr C kX6_valueIn gX6_sum_X6_valueIn (mX6_valueIn X.2.1 a kp ty pl gd od vU vS vN vX vM vT vB vK vY vZ vR vC vV v k m hO hW hv h_1 h_2) dX6_sum_64 [0, 1] [.int t9] 0 rfl nd_0_1 rfl rfl rfl (by decide) (by decide) (Nat.le_of_ble_eq_true rfl) rfl ?_
              refine z_goto C 71 dX6_sum_67 (by decide) ?_
              refine z_iadd C dX6_sum_71 ?_
              refine z_istore_n C 2 dX6_sum_72 rfl (Nat.le_of_ble_eq_true rfl) ?_
              refine z_iinc C (nI (m + 1)) dX6_sum_73 rfl (zi_1 _) ?_
              refine z_goto C 27 dX6_sum_76 (by decide) ?_
              exact ih27 (vU 1 - (m + 1)) (by omega) (m + 1) (t9 + (mVv vZ vK vR vC vS vN vM vB vV v k m)) rfl (by omega) (by subst hm; simp [zu, h_3, h_4, zz_0, Int32.add_assoc])
      exact hL27 _ 0 s9 rfl (by omega) (by rw [hs]; exact (Int32.add_zero _).symm)
  exact hL15 _ 0 (nI 0) rfl (by omega) (rfl)
