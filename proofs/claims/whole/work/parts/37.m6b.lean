theorem kX6_freeSlot : zY yX6_freeSlot wsX6_freeSlot cX6_freeSlot 4 (some .int) 1 := ⟨⟨_, rfl⟩, ⟨by decide +kernel, by decide +kernel, by decide +kernel⟩, by decide +kernel⟩
set_option maxHeartbeats 4000000 in
set_option maxRecDepth 100000 in
theorem mX6_freeSlot_0 (E : zE) (a : Nat → Nat) (kp ty pl : Nat) (gd : Bool) (od : Nat) (vU vS : Nat → Nat) (vN : Nat → Int32) (vX vM : Nat) (vT : Bool) (vB vK vY vZ vR vC vV : Nat → Int32)  (hO : okM vU vS vM vK) (hU : vU 0 < 12) : zM E yX6_freeSlot wsX6_freeSlot 1 [.ref (a 0), .int (nI 0)] [((a 0), .inr (6, [.ref (a 1), .ref (a 2), .ref (a 3), .int (nI kp), .int (nI ty), .ref (a 4), .int (nI pl), .int (zb gd), .int (nI od), .ref (a 5)])), ((a 1), .inl (E.2.2.1, 512, .inl (mRow vU vS vN vX vM vT vB vK vY vZ vR vC vV)))] [((a 0), .inr (6, [.ref (a 1), .ref (a 2), .ref (a 3), .int (nI kp), .int (nI ty), .ref (a 4), .int (nI pl), .int (zb gd), .int (nI od), .ref (a 5)])), ((a 1), .inl (E.2.2.1, 512, .inl (mRow vU vS vN vX vM vT vB vK vY vZ vR vC vV)))] (some (.int (nI (mFs vU vS 0)))) := by
  refine zM.of kX6_freeSlot (Nat.le_of_ble_eq_true rfl) rfl [some (.ref (a 0)), some (.int (nI 0)), none, none] rfl (Nat.le_of_ble_eq_true rfl) ?_
  intro X eX C N
  subst eX
  obtain ⟨hu0, hu1, hM, hk1, hk2, hk3⟩ := id hO
  refine z_iconst C (nI 0) dX6_freeSlot_0 (by decide) ?_
  refine z_istore_n C 2 dX6_freeSlot_1 rfl (Nat.le_of_ble_eq_true rfl) ?_
  refine z_iconst C (nI 0) dX6_freeSlot_2 (by decide) ?_
  refine z_istore_n C 3 dX6_freeSlot_3 rfl (Nat.le_of_ble_eq_true rfl) ?_
  have hL4 : ∀ (dd : Nat) (k : Nat) (u : Int32), vU 0 - k = dd → (k ≤ vU 0) → (∀ t, t < 32 → bt u t = mUd vS 0 k t) → zG X 0 0 [((a 0), .inr (6, [.ref (a 1), .ref (a 2), .ref (a 3), .int (nI kp), .int (nI ty), .ref (a 4), .int (nI pl), .int (zb gd), .int (nI od), .ref (a 5)])), ((a 1), .inl (X.2.1.2.2.1, 512, .inl (mRow vU vS vN vX vM vT vB vK vY vZ vR vC vV)))] [some (.ref (a 0)), some (.int (nI 0)), some (.int u), some (.int (nI k))] [] 4 := by
    intro dd
    induction dd using Nat.strongRecOn with
    | _ dd ih4 =>
    intro k u hdd hk hu
    refine z_iload_n C 3 dX6_freeSlot_4 rfl rfl ?_
    refine z_aload_n C 0 dX6_freeSlot_5 rfl rfl ?_
    refine z_iload_n C 1 dX6_freeSlot_6 rfl rfl ?_
    refine z_callVr C kX6_many gX6_freeSlot_X6_many (mX6_many_0 X.2.1 a kp ty pl gd od vU vS vN vX vM vT vB vK vY vZ vR vC vV ) dX6_freeSlot_7 [0, 1] [.int (nI k)] 0 rfl nd_0_1 rfl rfl rfl (by decide) (by decide) (Nat.le_of_ble_eq_true rfl) rfl ?_
    refine z_ncmp_ge C 30 dX6_freeSlot_10 (by decide) (by omega) (by omega) (fun h_1 => ?_) (fun h_1 => ?_)
    · refine z_iconst C (nI 0) dX6_freeSlot_30 (by decide) ?_
      refine z_istore_n C 3 dX6_freeSlot_31 rfl (Nat.le_of_ble_eq_true rfl) ?_
      have hL32 : ∀ (dd : Nat) (t : Nat), 13 - t = dd → (t ≤ 12) → (∀ j, j < t → mUd vS 0 (vU 0) j = true) → zG X 0 0 [((a 0), .inr (6, [.ref (a 1), .ref (a 2), .ref (a 3), .int (nI kp), .int (nI ty), .ref (a 4), .int (nI pl), .int (zb gd), .int (nI od), .ref (a 5)])), ((a 1), .inl (X.2.1.2.2.1, 512, .inl (mRow vU vS vN vX vM vT vB vK vY vZ vR vC vV)))] [some (.ref (a 0)), some (.int (nI 0)), some (.int u), some (.int (nI t))] [] 32 := by
        intro dd
        induction dd using Nat.strongRecOn with
        | _ dd ih32 =>
        intro t hdd ht hf
        refine z_iload_n C 2 dX6_freeSlot_32 rfl rfl ?_
        refine z_iload_n C 3 dX6_freeSlot_33 rfl rfl ?_
        refine z_ishr C dX6_freeSlot_34 ?_
        refine z_iconst C (nI 1) dX6_freeSlot_35 (by decide) ?_
        refine z_iand C dX6_freeSlot_36 ?_
        refine z_iconst C (nI 1) dX6_freeSlot_37 (by decide) ?_
        refine z_icmp_ne C 47 dX6_freeSlot_38 (by decide) (fun h_2 => ?_) (fun h_2 => ?_)
        · refine z_iload_n C 3 dX6_freeSlot_47 rfl rfl ?_
          exact z_iret C N dX6_freeSlot_48 (rfl) (congrArg (fun x => some (Value.int (nI x))) (mFs_eq ht hf (by rw [← show k = vU 0 by omega, ← hu t (by omega)]; exact Bool.eq_false_iff.mpr (fun q => absurd ((mF_bit (by omega)).mpr q) h_2))))
        · refine z_iinc C (nI (t + 1)) dX6_freeSlot_41 rfl (zi_1 _) ?_
          refine z_goto C 32 dX6_freeSlot_44 (by decide) ?_
          exact ih32 (13 - (t + 1)) (by omega) (t + 1) rfl (by have h7 := mUd_at ((hu t (by omega)).symm.trans ((mF_bit (by omega)).mp h_2)); obtain ⟨p9, -, h6⟩ := h7; have h9 := okM_r hO p9; have h8 := okM_c hO p9; omega) (fun j hj => (Nat.lt_or_ge j t).elim (fun q => hf j q) (fun q => by rw [show j = t by omega]; rw [show k = vU 0 by omega] at hu; exact (hu t (by omega)).symm.trans ((mF_bit (by omega)).mp h_2)))
      exact hL32 _ 0 rfl (by omega) (fun j h => absurd h (Nat.not_lt_zero j))
    · refine z_iload_n C 2 dX6_freeSlot_13 rfl rfl ?_
      refine z_iconst C (nI 1) dX6_freeSlot_14 (by decide) ?_
      refine z_aload_n C 0 dX6_freeSlot_15 rfl rfl ?_
      refine z_iload_n C 1 dX6_freeSlot_16 rfl rfl ?_
      refine z_iload_n C 3 dX6_freeSlot_17 rfl rfl ?_
      refine z_callVr C kX6_slot gX6_freeSlot_X6_slot (mX6_slot_0 X.2.1 a kp ty pl gd od vU vS vN vX vM vT vB vK vY vZ vR vC vV k hO (by first | assumption | omega)) dX6_freeSlot_18 [0, 1] [.int (nI 1), .int u] 0 rfl nd_0_1 rfl rfl rfl (by decide) (by decide) (Nat.le_of_ble_eq_true rfl) rfl ?_
      have hg_3 : mS vS 0 k < 12 := okM_r (by assumption) _
      refine z_ishl C dX6_freeSlot_21 ?_
      refine z_ior C dX6_freeSlot_22 ?_
      refine z_istore_n C 2 dX6_freeSlot_23 rfl (Nat.le_of_ble_eq_true rfl) ?_
      refine z_iinc C (nI (k + 1)) dX6_freeSlot_24 rfl (zi_1 _) ?_
      refine z_goto C 4 dX6_freeSlot_27 (by decide) ?_
      exact ih4 (vU 0 - (k + 1)) (by omega) (k + 1) (u ||| ((nI 1) <<< ((nI (mS vS 0 k)) &&& 31))) rfl (by omega) (mF_st (c := mS vS 0 k) (by have h9 := okM_r hO k; have h8 := okM_c hO k; omega) rfl hu)
  exact hL4 _ 0 (nI 0) rfl (by omega) (mF_0)

set_option maxHeartbeats 4000000 in
set_option maxRecDepth 100000 in
theorem mX6_freeSlot_1 (E : zE) (a : Nat → Nat) (kp ty pl : Nat) (gd : Bool) (od : Nat) (vU vS : Nat → Nat) (vN : Nat → Int32) (vX vM : Nat) (vT : Bool) (vB vK vY vZ vR vC vV : Nat → Int32)  (hO : okM vU vS vM vK) (hU : vU 1 < 8) : zM E yX6_freeSlot wsX6_freeSlot 1 [.ref (a 0), .int (nI 1)] [((a 0), .inr (6, [.ref (a 1), .ref (a 2), .ref (a 3), .int (nI kp), .int (nI ty), .ref (a 4), .int (nI pl), .int (zb gd), .int (nI od), .ref (a 5)])), ((a 1), .inl (E.2.2.1, 512, .inl (mRow vU vS vN vX vM vT vB vK vY vZ vR vC vV)))] [((a 0), .inr (6, [.ref (a 1), .ref (a 2), .ref (a 3), .int (nI kp), .int (nI ty), .ref (a 4), .int (nI pl), .int (zb gd), .int (nI od), .ref (a 5)])), ((a 1), .inl (E.2.2.1, 512, .inl (mRow vU vS vN vX vM vT vB vK vY vZ vR vC vV)))] (some (.int (nI (mFs vU vS 1)))) := by
  refine zM.of kX6_freeSlot (Nat.le_of_ble_eq_true rfl) rfl [some (.ref (a 0)), some (.int (nI 1)), none, none] rfl (Nat.le_of_ble_eq_true rfl) ?_
  intro X eX C N
  subst eX
  obtain ⟨hu0, hu1, hM, hk1, hk2, hk3⟩ := id hO
  refine z_iconst C (nI 0) dX6_freeSlot_0 (by decide) ?_
  refine z_istore_n C 2 dX6_freeSlot_1 rfl (Nat.le_of_ble_eq_true rfl) ?_
  refine z_iconst C (nI 0) dX6_freeSlot_2 (by decide) ?_
  refine z_istore_n C 3 dX6_freeSlot_3 rfl (Nat.le_of_ble_eq_true rfl) ?_
  have hL4 : ∀ (dd : Nat) (k : Nat) (u : Int32), vU 1 - k = dd → (k ≤ vU 1) → (∀ t, t < 32 → bt u t = mUd vS 1 k t) → zG X 0 0 [((a 0), .inr (6, [.ref (a 1), .ref (a 2), .ref (a 3), .int (nI kp), .int (nI ty), .ref (a 4), .int (nI pl), .int (zb gd), .int (nI od), .ref (a 5)])), ((a 1), .inl (X.2.1.2.2.1, 512, .inl (mRow vU vS vN vX vM vT vB vK vY vZ vR vC vV)))] [some (.ref (a 0)), some (.int (nI 1)), some (.int u), some (.int (nI k))] [] 4 := by
    intro dd
    induction dd using Nat.strongRecOn with
    | _ dd ih4 =>
    intro k u hdd hk hu
    refine z_iload_n C 3 dX6_freeSlot_4 rfl rfl ?_
    refine z_aload_n C 0 dX6_freeSlot_5 rfl rfl ?_
    refine z_iload_n C 1 dX6_freeSlot_6 rfl rfl ?_
    refine z_callVr C kX6_many gX6_freeSlot_X6_many (mX6_many_1 X.2.1 a kp ty pl gd od vU vS vN vX vM vT vB vK vY vZ vR vC vV ) dX6_freeSlot_7 [0, 1] [.int (nI k)] 0 rfl nd_0_1 rfl rfl rfl (by decide) (by decide) (Nat.le_of_ble_eq_true rfl) rfl ?_
    refine z_ncmp_ge C 30 dX6_freeSlot_10 (by decide) (by omega) (by omega) (fun h_1 => ?_) (fun h_1 => ?_)
    · refine z_iconst C (nI 0) dX6_freeSlot_30 (by decide) ?_
      refine z_istore_n C 3 dX6_freeSlot_31 rfl (Nat.le_of_ble_eq_true rfl) ?_
      have hL32 : ∀ (dd : Nat) (t : Nat), 13 - t = dd → (t ≤ 12) → (∀ j, j < t → mUd vS 1 (vU 1) j = true) → zG X 0 0 [((a 0), .inr (6, [.ref (a 1), .ref (a 2), .ref (a 3), .int (nI kp), .int (nI ty), .ref (a 4), .int (nI pl), .int (zb gd), .int (nI od), .ref (a 5)])), ((a 1), .inl (X.2.1.2.2.1, 512, .inl (mRow vU vS vN vX vM vT vB vK vY vZ vR vC vV)))] [some (.ref (a 0)), some (.int (nI 1)), some (.int u), some (.int (nI t))] [] 32 := by
        intro dd
        induction dd using Nat.strongRecOn with
        | _ dd ih32 =>
        intro t hdd ht hf
        refine z_iload_n C 2 dX6_freeSlot_32 rfl rfl ?_
        refine z_iload_n C 3 dX6_freeSlot_33 rfl rfl ?_
        refine z_ishr C dX6_freeSlot_34 ?_
        refine z_iconst C (nI 1) dX6_freeSlot_35 (by decide) ?_
        refine z_iand C dX6_freeSlot_36 ?_
        refine z_iconst C (nI 1) dX6_freeSlot_37 (by decide) ?_
        refine z_icmp_ne C 47 dX6_freeSlot_38 (by decide) (fun h_2 => ?_) (fun h_2 => ?_)
        · refine z_iload_n C 3 dX6_freeSlot_47 rfl rfl ?_
          exact z_iret C N dX6_freeSlot_48 (rfl) (congrArg (fun x => some (Value.int (nI x))) (mFs_eq ht hf (by rw [← show k = vU 1 by omega, ← hu t (by omega)]; exact Bool.eq_false_iff.mpr (fun q => absurd ((mF_bit (by omega)).mpr q) h_2))))
        · refine z_iinc C (nI (t + 1)) dX6_freeSlot_41 rfl (zi_1 _) ?_
          refine z_goto C 32 dX6_freeSlot_44 (by decide) ?_
          exact ih32 (13 - (t + 1)) (by omega) (t + 1) rfl (by have h7 := mUd_at ((hu t (by omega)).symm.trans ((mF_bit (by omega)).mp h_2)); obtain ⟨p9, -, h6⟩ := h7; have h9 := okM_r hO p9; have h8 := okM_c hO p9; omega) (fun j hj => (Nat.lt_or_ge j t).elim (fun q => hf j q) (fun q => by rw [show j = t by omega]; rw [show k = vU 1 by omega] at hu; exact (hu t (by omega)).symm.trans ((mF_bit (by omega)).mp h_2)))
      exact hL32 _ 0 rfl (by omega) (fun j h => absurd h (Nat.not_lt_zero j))
    · refine z_iload_n C 2 dX6_freeSlot_13 rfl rfl ?_
      refine z_iconst C (nI 1) dX6_freeSlot_14 (by decide) ?_
      refine z_aload_n C 0 dX6_freeSlot_15 rfl rfl ?_
      refine z_iload_n C 1 dX6_freeSlot_16 rfl rfl ?_
      refine z_iload_n C 3 dX6_freeSlot_17 rfl rfl ?_
      refine z_callVr C kX6_slot gX6_freeSlot_X6_slot (mX6_slot_1 X.2.1 a kp ty pl gd od vU vS vN vX vM vT vB vK vY vZ vR vC vV k hO (by first | assumption | omega)) dX6_freeSlot_18 [0, 1] [.int (nI 1), .int u] 0 rfl nd_0_1 rfl rfl rfl (by decide) (by decide) (Nat.le_of_ble_eq_true rfl) rfl ?_
      have hg_3 : mS vS 1 k < 8 := okM_c (by assumption) _
      refine z_ishl C dX6_freeSlot_21 ?_
      refine z_ior C dX6_freeSlot_22 ?_
      refine z_istore_n C 2 dX6_freeSlot_23 rfl (Nat.le_of_ble_eq_true rfl) ?_
      refine z_iinc C (nI (k + 1)) dX6_freeSlot_24 rfl (zi_1 _) ?_
      refine z_goto C 4 dX6_freeSlot_27 (by decide) ?_
      exact ih4 (vU 1 - (k + 1)) (by omega) (k + 1) (u ||| ((nI 1) <<< ((nI (mS vS 1 k)) &&& 31))) rfl (by omega) (mF_st (c := mS vS 1 k) (by have h9 := okM_r hO k; have h8 := okM_c hO k; omega) rfl hu)
  exact hL4 _ 0 (nI 0) rfl (by omega) (mF_0)

theorem kX6_putLine : zY yX6_putLine wsX6_putLine cX6_putLine 5 (some .int) 2 := ⟨⟨_, rfl⟩, ⟨by decide +kernel, by decide +kernel, by decide +kernel⟩, by decide +kernel⟩
theorem fX6_putLine_7 : zF wsX6_putLine RX6 7 6 0 RX6 TX6 10 := ⟨by decide +kernel, rfl, by decide, by decide +kernel, rfl⟩
set_option maxHeartbeats 4000000 in
set_option maxRecDepth 100000 in
theorem mX6_putLine_0 (E : zE) (a : Nat → Nat) (kp ty pl : Nat) (gd : Bool) (od : Nat) (vU vS : Nat → Nat) (vN : Nat → Int32) (vX vM : Nat) (vT : Bool) (vB vK vY vZ vR vC vV : Nat → Int32) (j : Nat) (hO : okM vU vS vM vK) (hU : vU 0 < 12) (hj : j ≤ vU 0) : zM E yX6_putLine wsX6_putLine 2 [.ref (a 0), .int (nI 0), .int (nI j)] [((a 0), .inr (6, [.ref (a 1), .ref (a 2), .ref (a 3), .int (nI kp), .int (nI ty), .ref (a 4), .int (nI pl), .int (zb gd), .int (nI od), .ref (a 5)])), ((a 1), .inl (E.2.2.1, 512, .inl (mRow vU vS vN vX vM vT vB vK vY vZ vR vC vV)))] [((a 0), .inr (6, [.ref (a 1), .ref (a 2), .ref (a 3), .int (nI kp), .int (nI ty), .ref (a 4), .int (nI pl), .int (zb gd), .int (nI od), .ref (a 5)])), ((a 1), .inl (E.2.2.1, 512, .inl (mRow (zUpN vU 0 (vU 0 + 1)) (mPuS vU vS 0 j) (mPuN vU vS vN vX 0) (vX + 1) vM vT (mClr vB (mCx (mPuS vU vS 0 j) 0 j) (vU 1)) vK vY vZ vR vC vV)))] (some (.int (nI (vX)))) := by
  refine zM.of kX6_putLine (Nat.le_of_ble_eq_true rfl) rfl [some (.ref (a 0)), some (.int (nI 0)), some (.int (nI j)), none, none] rfl (Nat.le_of_ble_eq_true rfl) ?_
  intro X eX C N
  subst eX
  obtain ⟨hu0, hu1, hM, hk1, hk2, hk3⟩ := id hO
  refine z_aload_n C 0 dX6_putLine_0 rfl rfl ?_
  refine z_iload_n C 1 dX6_putLine_1 rfl rfl ?_
  refine z_callVr C kX6_freeSlot gX6_putLine_X6_freeSlot (mX6_freeSlot_0 X.2.1 a kp ty pl gd od vU vS vN vX vM vT vB vK vY vZ vR vC vV hO hU) dX6_putLine_2 [0, 1] [] 0 rfl nd_0_1 rfl rfl rfl (by decide) (by decide) (Nat.le_of_ble_eq_true rfl) rfl ?_
  have hg_1 : mFs vU vS 0 ≤ vU 0 := mFs_le (by omega)
  refine z_istore_n C 3 dX6_putLine_5 rfl (Nat.le_of_ble_eq_true rfl) ?_
  refine z_aload_n C 0 dX6_putLine_6 rfl rfl ?_
  refine z_iload_n C 1 dX6_putLine_7 rfl rfl ?_
  refine z_callVr C kX6_many gX6_putLine_X6_many (mX6_many_0 X.2.1 a kp ty pl gd od vU vS vN vX vM vT vB vK vY vZ vR vC vV ) dX6_putLine_8 [0, 1] [] 0 rfl nd_0_1 rfl rfl rfl (by decide) (by decide) (Nat.le_of_ble_eq_true rfl) rfl ?_
  refine z_istore C dX6_putLine_11 (Nat.le_of_ble_eq_true rfl) ?_
  have hL13 : ∀ (dd : Nat) (k : Nat) (f' : Nat → Nat), k - j = dd → (j ≤ k) → (k ≤ vU 0) → (f' = mOpL (vS) (12 * 0) (vU 0) k) → zG X 0 0 [((a 0), .inr (6, [.ref (a 1), .ref (a 2), .ref (a 3), .int (nI kp), .int (nI ty), .ref (a 4), .int (nI pl), .int (zb gd), .int (nI od), .ref (a 5)])), ((a 1), .inl (X.2.1.2.2.1, 512, .inl (mRow vU f' vN vX vM vT vB vK vY vZ vR vC vV)))] [some (.ref (a 0)), some (.int (nI 0)), some (.int (nI j)), some (.int (nI (mFs vU vS 0))), some (.int (nI k))] [] 13 := by
    intro dd
    induction dd using Nat.strongRecOn with
    | _ dd ih13 =>
    intro k f' hdd hk hk2 hf
    refine z_iload C dX6_putLine_13 rfl ?_
    refine z_iload_n C 2 dX6_putLine_15 rfl rfl ?_
    refine z_ncmp_le C 55 dX6_putLine_16 (by decide) (by omega) (by omega) (fun h_2 => ?_) (fun h_2 => ?_)
    · refine z_aload_n C 0 dX6_putLine_55 rfl rfl ?_
      refine z_get C fX6_putLine_7 0 dX6_putLine_56 rfl rfl ?_
      refine z_iconst C (nI 2) dX6_putLine_59 (by decide) ?_
      refine z_bipush C (nI 12) dX6_putLine_60 (by decide) ?_
      refine z_iload_n C 1 dX6_putLine_62 rfl rfl ?_
      refine z_imul C dX6_putLine_63 ?_
      refine z_top (y := nI 0) (pk_mul _ _) ?_
      refine z_iadd C dX6_putLine_64 ?_
      refine z_top (y := nI 2) (nI_add _ _) ?_
      refine z_iload_n C 2 dX6_putLine_65 rfl rfl ?_
      refine z_iadd C dX6_putLine_66 ?_
      refine z_top (y := nI (2 + j)) (nI_add _ _) ?_
      refine z_iload_n C 3 dX6_putLine_67 rfl rfl ?_
      refine z_iastR C 1 dX6_putLine_68 rfl (by omega) (by decide) (f' := mRow vU (zUpN f' (12 * 0 + j) (mFs vU vS 0)) vN vX vM vT vB vK vY vZ vR vC vV) ((congrArg (fun i9 => upd (mRow vU f' vN vX vM vT vB vK vY vZ vR vC vV) i9 (nI (mFs vU vS 0))) (show 2 + j = 2 + (12 * 0 + j) by omega)).trans (zMw_S (by omega))) ?_
      refine z_aload_n C 0 dX6_putLine_69 rfl rfl ?_
      refine z_get C fX6_putLine_7 0 dX6_putLine_70 rfl rfl ?_
      refine z_iconst C (nI 0) dX6_putLine_73 (by decide) ?_
      refine z_iload_n C 1 dX6_putLine_74 rfl rfl ?_
      refine z_iadd C dX6_putLine_75 ?_
      refine z_top (y := nI 0) (nI_add _ _) ?_
      refine z_dup2 C dX6_putLine_76 rfl rfl ?_
      refine z_ialdN C 1 dX6_putLine_77 rfl (by omega) (by decide) ?_
      refine z_top (y := nI (vU 0)) ((congrArg (mRow vU (zUpN f' (12 * 0 + j) (mFs vU vS 0)) vN vX vM vT vB vK vY vZ vR vC vV) (show 0 = 0 + (0) by omega)).trans (zMr_U (by omega))) ?_
      refine z_iconst C (nI 1) dX6_putLine_78 (by decide) ?_
      refine z_iadd C dX6_putLine_79 ?_
      refine z_top (y := nI ((vU 0) + 1)) (nI_add _ _) ?_
      refine z_iastR C 1 dX6_putLine_80 rfl (by omega) (by decide) (f' := mRow (zUpN (vU) 0 ((vU 0) + 1)) (zUpN f' (12 * 0 + j) (mFs vU vS 0)) vN vX vM vT vB vK vY vZ vR vC vV) ((congrArg (fun i9 => upd (mRow vU (zUpN f' (12 * 0 + j) (mFs vU vS 0)) vN vX vM vT vB vK vY vZ vR vC vV) i9 (nI ((vU 0) + 1))) (show 0 = 0 + (0) by omega)).trans (zMw_U (by omega))) ?_
      refine z_aload_n C 0 dX6_putLine_81 rfl rfl ?_
      refine z_get C fX6_putLine_7 0 dX6_putLine_82 rfl rfl ?_
      refine z_bipush C (nI 26) dX6_putLine_85 (by decide) ?_
      refine z_bipush C (nI 12) dX6_putLine_87 (by decide) ?_
      refine z_iload_n C 1 dX6_putLine_89 rfl rfl ?_
      refine z_imul C dX6_putLine_90 ?_
      refine z_top (y := nI 0) (pk_mul _ _) ?_
      refine z_iadd C dX6_putLine_91 ?_
      refine z_top (y := nI 26) (nI_add _ _) ?_
      refine z_iload_n C 3 dX6_putLine_92 rfl rfl ?_
      refine z_iadd C dX6_putLine_93 ?_
      refine z_top (y := nI (26 + (mFs vU vS 0))) (nI_add _ _) ?_
      refine z_aload_n C 0 dX6_putLine_94 rfl rfl ?_
      refine z_get C fX6_putLine_7 0 dX6_putLine_95 rfl rfl ?_
      refine z_bipush C (nI 50) dX6_putLine_98 (by decide) ?_
      refine z_ialdN C 1 dX6_putLine_100 rfl (by omega) (by decide) ?_
      refine z_top (y := nI (vX)) (zMr_X) ?_
      refine z_iastR C 1 dX6_putLine_101 rfl (by omega) (by decide) (f' := mRow (zUpN (vU) 0 ((vU 0) + 1)) (zUpN f' (12 * 0 + j) (mFs vU vS 0)) (upd (vN) (12 * 0 + (mFs vU vS 0)) (nI (vX))) vX vM vT vB vK vY vZ vR vC vV) ((congrArg (fun i9 => upd (mRow (zUpN (vU) 0 ((vU 0) + 1)) (zUpN f' (12 * 0 + j) (mFs vU vS 0)) vN vX vM vT vB vK vY vZ vR vC vV) i9 (nI (vX))) (show 26 + (mFs vU vS 0) = 26 + (12 * 0 + (mFs vU vS 0)) by omega)).trans (zMw_N (by omega))) ?_
      refine z_aload_n C 0 dX6_putLine_102 rfl rfl ?_
      refine z_get C fX6_putLine_7 0 dX6_putLine_103 rfl rfl ?_
      refine z_bipush C (nI 50) dX6_putLine_106 (by decide) ?_
      refine z_dup2 C dX6_putLine_108 rfl rfl ?_
      refine z_ialdN C 1 dX6_putLine_109 rfl (by omega) (by decide) ?_
      refine z_top (y := nI (vX)) (zMr_X) ?_
      refine z_iconst C (nI 1) dX6_putLine_110 (by decide) ?_
      refine z_iadd C dX6_putLine_111 ?_
      refine z_top (y := nI ((vX) + 1)) (nI_add _ _) ?_
      refine z_iastR C 1 dX6_putLine_112 rfl (by omega) (by decide) (f' := mRow (zUpN (vU) 0 ((vU 0) + 1)) (zUpN f' (12 * 0 + j) (mFs vU vS 0)) (upd (vN) (12 * 0 + (mFs vU vS 0)) (nI (vX))) ((vX) + 1) vM vT vB vK vY vZ vR vC vV) (zMw_X (v := ((vX) + 1))) ?_
      refine z_cv (ws' := [((a 0), .inr (6, [.ref (a 1), .ref (a 2), .ref (a 3), .int (nI kp), .int (nI ty), .ref (a 4), .int (nI pl), .int (zb gd), .int (nI od), .ref (a 5)])), ((a 1), .inl (X.2.1.2.2.1, 512, .inl (mRow (zUpN vU 0 (vU 0 + 1)) (mPuS vU vS 0 j) (mPuN vU vS vN vX 0) (vX + 1) vM vT vB vK vY vZ vR vC vV)))]) (by rw [hf, show k = j by omega] <;> rfl) rfl rfl ?_
      have q_3 : okM (zUpN vU 0 (vU 0 + 1)) (mPuS vU vS 0 j) vM vK := okM_Pu0_0 hO hU hj
      have q_4 : (zUpN vU 0 (vU 0 + 1)) 1 = vU 1 := rfl
      refine z_iconst C (nI 0) dX6_putLine_113 (by decide) ?_
      refine z_istore C dX6_putLine_114 (Nat.le_of_ble_eq_true rfl) ?_
      have hL116 : ∀ (dd : Nat) (k : Nat) (b' : Nat → Int32), vU 1 - k = dd → (k ≤ vU 1) → (b' = mClr (vB) (mCx (mPuS vU vS 0 j) 0 j) k) → zG X 0 0 [((a 0), .inr (6, [.ref (a 1), .ref (a 2), .ref (a 3), .int (nI kp), .int (nI ty), .ref (a 4), .int (nI pl), .int (zb gd), .int (nI od), .ref (a 5)])), ((a 1), .inl (X.2.1.2.2.1, 512, .inl (mRow (zUpN vU 0 (vU 0 + 1)) (mPuS vU vS 0 j) (mPuN vU vS vN vX 0) (vX + 1) vM vT b' vK vY vZ vR vC vV)))] [some (.ref (a 0)), some (.int (nI 0)), some (.int (nI j)), some (.int (nI (mFs vU vS 0))), some (.int (nI k))] [] 116 := by
        intro dd
        induction dd using Nat.strongRecOn with
        | _ dd ih116 =>
        intro k b' hdd hk hb
        refine z_iload C dX6_putLine_116 rfl ?_
        refine z_aload_n C 0 dX6_putLine_118 rfl rfl ?_
        refine z_iconst C (nI 1) dX6_putLine_119 (by decide) ?_
        refine z_iload_n C 1 dX6_putLine_120 rfl rfl ?_
        refine z_isub C dX6_putLine_121 ?_
        refine z_top (y := nI 1) ((pk_sub (by omega)).trans (congrArg nI (by omega))) ?_
        refine z_callVr C kX6_many gX6_putLine_X6_many (mX6_many_1 X.2.1 a kp ty pl gd od (zUpN vU 0 (vU 0 + 1)) (mPuS vU vS 0 j) (mPuN vU vS vN vX 0) (vX + 1) vM vT b' vK vY vZ vR vC vV ) dX6_putLine_122 [0, 1] [.int (nI k)] 0 rfl nd_0_1 rfl rfl rfl (by decide) (by decide) (Nat.le_of_ble_eq_true rfl) rfl ?_
        refine z_top (y := nI ((zUpN vU 0 (vU 0 + 1)) 1)) rfl ?_
        refine z_ncmp_ge C 161 dX6_putLine_125 (by decide) (by omega) (by omega) (fun h_5 => ?_) (fun h_5 => ?_)
        · refine z_aload_n C 0 dX6_putLine_161 rfl rfl ?_
          refine z_get C fX6_putLine_7 0 dX6_putLine_162 rfl rfl ?_
          refine z_bipush C (nI 50) dX6_putLine_165 (by decide) ?_
          refine z_ialdN C 1 dX6_putLine_167 rfl (by omega) (by decide) ?_
          refine z_top (y := nI ((vX + 1))) (zMr_X) ?_
          refine z_iconst C (nI 1) dX6_putLine_168 (by decide) ?_
          refine z_isub C dX6_putLine_169 ?_
          refine z_top (y := nI ((vX + 1)) + (-1)) (zi_s _) ?_
          exact z_iret C N dX6_putLine_170 (by rw [hb, show k = vU 1 by omega] <;> rfl) (by show some (Value.int (nI (vX + 1) + (-1))) = _; rw [pk_m1])
        · refine z_aload_n C 0 dX6_putLine_128 rfl rfl ?_
          refine z_get C fX6_putLine_7 0 dX6_putLine_129 rfl rfl ?_
          refine z_iload_n C 1 dX6_putLine_132 rfl rfl ?_
          refine z_nif_ne_f C 146 dX6_putLine_133 (by decide) (by omega) (by omega) ?_
          refine z_aload_n C 0 dX6_putLine_136 rfl rfl ?_
          refine z_iload_n C 2 dX6_putLine_137 rfl rfl ?_
          refine z_iload C dX6_putLine_138 rfl ?_
          refine z_callVr C kX6_baseAt gX6_putLine_X6_baseAt (mX6_baseAt_0 X.2.1 a kp ty pl gd od (zUpN vU 0 (vU 0 + 1)) (mPuS vU vS 0 j) (mPuN vU vS vN vX 0) (vX + 1) vM vT b' vK vY vZ vR vC vV j k q_3 (by first | assumption | omega) (by first | assumption | omega)) dX6_putLine_140 [0, 1] [.ref (a 1)] 0 rfl nd_0_1 rfl rfl rfl (by decide) (by decide) (Nat.le_of_ble_eq_true rfl) rfl ?_
          refine z_top (y := nI (53 + 8 * mS (mPuS vU vS 0 j) 0 j + mS (mPuS vU vS 0 j) 1 k)) rfl ?_
          have hg_6 : mS (mPuS vU vS 0 j) 0 j < 12 := okM_r (by assumption) _
          have hg_7 : mS (mPuS vU vS 0 j) 1 k < 8 := okM_c (by assumption) _
          refine z_goto C 153 dX6_putLine_143 (by decide) ?_
          refine z_iconst C (nI 0) dX6_putLine_153 (by decide) ?_
          refine z_iastR C 1 dX6_putLine_154 rfl (by omega) (by decide) (f' := mRow (zUpN vU 0 (vU 0 + 1)) (mPuS vU vS 0 j) (mPuN vU vS vN vX 0) (vX + 1) vM vT (upd b' (8 * mS (mPuS vU vS 0 j) 0 j + mS (mPuS vU vS 0 j) 1 k) (nI 0)) vK vY vZ vR vC vV) ((congrArg (fun i9 => upd (mRow (zUpN vU 0 (vU 0 + 1)) (mPuS vU vS 0 j) (mPuN vU vS vN vX 0) (vX + 1) vM vT b' vK vY vZ vR vC vV) i9 (nI 0)) (show 53 + 8 * mS (mPuS vU vS 0 j) 0 j + mS (mPuS vU vS 0 j) 1 k = 53 + (8 * mS (mPuS vU vS 0 j) 0 j + mS (mPuS vU vS 0 j) 1 k) by omega)).trans (zMw_B (by omega))) ?_
          refine z_iinc C (nI (k + 1)) dX6_putLine_155 rfl (zi_1 _) ?_
          refine z_goto C 116 dX6_putLine_158 (by decide) ?_
          exact ih116 (vU 1 - (k + 1)) (by omega) (k + 1) (upd b' (8 * mS (mPuS vU vS 0 j) 0 j + mS (mPuS vU vS 0 j) 1 k) (nI 0)) rfl (by omega) (by subst hb; rfl)
      exact hL116 _ 0 (vB) rfl (by omega) (rfl)
    · obtain ⟨q, rfl⟩ : ∃ q9, k = q9 + 1 := ⟨k - 1, by omega⟩
      refine z_aload_n C 0 dX6_putLine_19 rfl rfl ?_
      refine z_get C fX6_putLine_7 0 dX6_putLine_20 rfl rfl ?_
      refine z_iconst C (nI 2) dX6_putLine_23 (by decide) ?_
      refine z_bipush C (nI 12) dX6_putLine_24 (by decide) ?_
      refine z_iload_n C 1 dX6_putLine_26 rfl rfl ?_
      refine z_imul C dX6_putLine_27 ?_
      refine z_top (y := nI 0) (pk_mul _ _) ?_
      refine z_iadd C dX6_putLine_28 ?_
      refine z_top (y := nI 2) (nI_add _ _) ?_
      refine z_iload C dX6_putLine_29 rfl ?_
      refine z_iadd C dX6_putLine_31 ?_
      refine z_top (y := nI (2 + (q + 1))) (nI_add _ _) ?_
      refine z_aload_n C 0 dX6_putLine_32 rfl rfl ?_
      refine z_get C fX6_putLine_7 0 dX6_putLine_33 rfl rfl ?_
      refine z_iconst C (nI 2) dX6_putLine_36 (by decide) ?_
      refine z_bipush C (nI 12) dX6_putLine_37 (by decide) ?_
      refine z_iload_n C 1 dX6_putLine_39 rfl rfl ?_
      refine z_imul C dX6_putLine_40 ?_
      refine z_top (y := nI 0) (pk_mul _ _) ?_
      refine z_iadd C dX6_putLine_41 ?_
      refine z_top (y := nI 2) (nI_add _ _) ?_
      refine z_iload C dX6_putLine_42 rfl ?_
      refine z_iadd C dX6_putLine_44 ?_
      refine z_top (y := nI (2 + (q + 1))) (nI_add _ _) ?_
      refine z_iconst C (nI 1) dX6_putLine_45 (by decide) ?_
      refine z_isub C dX6_putLine_46 ?_
      refine z_top (y := nI ((2 + (q + 1)) - 1)) ((pk_sub (by omega)).trans (congrArg nI (by omega))) ?_
      refine z_ialdN C 1 dX6_putLine_47 rfl (by omega) (by decide) ?_
      refine z_top (y := nI (mS f' 0 q)) ((congrArg (mRow vU f' vN vX vM vT vB vK vY vZ vR vC vV) (show (2 + (q + 1)) - 1 = 2 + (12 * 0 + q) by omega)).trans (zMr_S (by omega))) ?_
      refine z_iastR C 1 dX6_putLine_48 rfl (by omega) (by decide) (f' := mRow vU (zUpN f' (12 * 0 + (q + 1)) (mS f' 0 q)) vN vX vM vT vB vK vY vZ vR vC vV) ((congrArg (fun i9 => upd (mRow vU f' vN vX vM vT vB vK vY vZ vR vC vV) i9 (nI (mS f' 0 q))) (show 2 + (q + 1) = 2 + (12 * 0 + (q + 1)) by omega)).trans (zMw_S (by omega))) ?_
      refine z_iinc C (nI q) dX6_putLine_49 rfl (zi_m1 _) ?_
      refine z_goto C 13 dX6_putLine_52 (by decide) ?_
      exact ih13 (q - j) (by omega) q (zUpN f' (12 * 0 + (q + 1)) (mS f' 0 q)) rfl (by omega) (by omega) (by subst hf; exact mOpL_s (by omega))
  exact hL13 _ (vU 0) (vS) rfl (by omega) (by omega) ((mOpL_0 _ _ _).symm)

theorem kX6_takeLine : zY yX6_takeLine wsX6_takeLine cX6_takeLine 4 none 2 := ⟨⟨_, rfl⟩, ⟨by decide +kernel, by decide +kernel, by decide +kernel⟩, by decide +kernel⟩
theorem fX6_takeLine_7 : zF wsX6_takeLine RX6 7 6 0 RX6 TX6 10 := ⟨by decide +kernel, rfl, by decide, by decide +kernel, rfl⟩
set_option maxHeartbeats 4000000 in
set_option maxRecDepth 100000 in
theorem mX6_takeLine_0 (E : zE) (a : Nat → Nat) (kp ty pl : Nat) (gd : Bool) (od : Nat) (vU vS : Nat → Nat) (vN : Nat → Int32) (vX vM : Nat) (vT : Bool) (vB vK vY vZ vR vC vV : Nat → Int32) (j : Nat) (hO : okM vU vS vM vK) (hj : j < vU 0) : zM E yX6_takeLine wsX6_takeLine 1 [.ref (a 0), .int (nI 0), .int (nI j)] [((a 0), .inr (6, [.ref (a 1), .ref (a 2), .ref (a 3), .int (nI kp), .int (nI ty), .ref (a 4), .int (nI pl), .int (zb gd), .int (nI od), .ref (a 5)])), ((a 1), .inl (E.2.2.1, 512, .inl (mRow vU vS vN vX vM vT vB vK vY vZ vR vC vV)))] [((a 0), .inr (6, [.ref (a 1), .ref (a 2), .ref (a 3), .int (nI kp), .int (nI ty), .ref (a 4), .int (nI pl), .int (zb gd), .int (nI od), .ref (a 5)])), ((a 1), .inl (E.2.2.1, 512, .inl (mRow (zUpN vU 0 (vU 0 - 1)) (mClL vS (12 * 0) j (vU 0 - 1)) vN vX vM vT vB vK vY vZ vR vC vV)))] none := by
  refine zM.of kX6_takeLine (Nat.le_of_ble_eq_true rfl) rfl [some (.ref (a 0)), some (.int (nI 0)), some (.int (nI j)), none] rfl (Nat.le_of_ble_eq_true rfl) ?_
  intro X eX C N
  subst eX
  obtain ⟨hu0, hu1, hM, hk1, hk2, hk3⟩ := id hO
  refine z_aload_n C 0 dX6_takeLine_0 rfl rfl ?_
  refine z_get C fX6_takeLine_7 0 dX6_takeLine_1 rfl rfl ?_
  refine z_iconst C (nI 0) dX6_takeLine_4 (by decide) ?_
  refine z_iload_n C 1 dX6_takeLine_5 rfl rfl ?_
  refine z_iadd C dX6_takeLine_6 ?_
  refine z_top (y := nI 0) (nI_add _ _) ?_
  refine z_dup2 C dX6_takeLine_7 rfl rfl ?_
  refine z_ialdN C 1 dX6_takeLine_8 rfl (by omega) (by decide) ?_
  refine z_top (y := nI (vU 0)) ((congrArg (mRow vU vS vN vX vM vT vB vK vY vZ vR vC vV) (show 0 = 0 + (0) by omega)).trans (zMr_U (by omega))) ?_
  refine z_iconst C (nI 1) dX6_takeLine_9 (by decide) ?_
  refine z_isub C dX6_takeLine_10 ?_
  refine z_top (y := nI ((vU 0) - 1)) ((pk_sub (by omega)).trans (congrArg nI (by omega))) ?_
  refine z_iastR C 1 dX6_takeLine_11 rfl (by omega) (by decide) (f' := mRow (zUpN (vU) 0 ((vU 0) - 1)) vS vN vX vM vT vB vK vY vZ vR vC vV) ((congrArg (fun i9 => upd (mRow vU vS vN vX vM vT vB vK vY vZ vR vC vV) i9 (nI ((vU 0) - 1))) (show 0 = 0 + (0) by omega)).trans (zMw_U (by omega))) ?_
  refine z_iload_n C 2 dX6_takeLine_12 rfl rfl ?_
  refine z_istore_n C 3 dX6_takeLine_13 rfl (Nat.le_of_ble_eq_true rfl) ?_
  have hL14 : ∀ (dd : Nat) (k : Nat) (f' : Nat → Nat), vU 0 - k = dd → (j ≤ k) → (k ≤ vU 0 - 1) → (f' = mClL (vS) (12 * 0) j k) → zG X 0 0 [((a 0), .inr (6, [.ref (a 1), .ref (a 2), .ref (a 3), .int (nI kp), .int (nI ty), .ref (a 4), .int (nI pl), .int (zb gd), .int (nI od), .ref (a 5)])), ((a 1), .inl (X.2.1.2.2.1, 512, .inl (mRow (zUpN (vU) 0 (vU 0 - 1)) f' vN vX vM vT vB vK vY vZ vR vC vV)))] [some (.ref (a 0)), some (.int (nI 0)), some (.int (nI j)), some (.int (nI k))] [] 14 := by
    intro dd
    induction dd using Nat.strongRecOn with
    | _ dd ih14 =>
    intro k f' hdd hk hk2 hf
    refine z_iload_n C 3 dX6_takeLine_14 rfl rfl ?_
    refine z_aload_n C 0 dX6_takeLine_15 rfl rfl ?_
    refine z_iload_n C 1 dX6_takeLine_16 rfl rfl ?_
    refine z_callVr C kX6_many gX6_takeLine_X6_many (mX6_many_0 X.2.1 a kp ty pl gd od (zUpN (vU) 0 (vU 0 - 1)) f' vN vX vM vT vB vK vY vZ vR vC vV ) dX6_takeLine_17 [0, 1] [.int (nI k)] 0 rfl nd_0_1 rfl rfl rfl (by decide) (by decide) (Nat.le_of_ble_eq_true rfl) rfl ?_
    refine z_top (y := nI (vU 0 - 1)) rfl ?_
    refine z_ncmp_ge C 57 dX6_takeLine_20 (by decide) (by omega) (by omega) (fun h_1 => ?_) (fun h_1 => ?_)
    · exact z_vret C N dX6_takeLine_57 (by rw [hf, show k = vU 0 - 1 by omega] <;> rfl)
    · refine z_aload_n C 0 dX6_takeLine_23 rfl rfl ?_
      refine z_get C fX6_takeLine_7 0 dX6_takeLine_24 rfl rfl ?_
      refine z_iconst C (nI 2) dX6_takeLine_27 (by decide) ?_
      refine z_bipush C (nI 12) dX6_takeLine_28 (by decide) ?_
      refine z_iload_n C 1 dX6_takeLine_30 rfl rfl ?_
      refine z_imul C dX6_takeLine_31 ?_
      refine z_top (y := nI 0) (pk_mul _ _) ?_
      refine z_iadd C dX6_takeLine_32 ?_
      refine z_top (y := nI 2) (nI_add _ _) ?_
      refine z_iload_n C 3 dX6_takeLine_33 rfl rfl ?_
      refine z_iadd C dX6_takeLine_34 ?_
      refine z_top (y := nI (2 + k)) (nI_add _ _) ?_
      refine z_aload_n C 0 dX6_takeLine_35 rfl rfl ?_
      refine z_get C fX6_takeLine_7 0 dX6_takeLine_36 rfl rfl ?_
      refine z_iconst C (nI 2) dX6_takeLine_39 (by decide) ?_
      refine z_bipush C (nI 12) dX6_takeLine_40 (by decide) ?_
      refine z_iload_n C 1 dX6_takeLine_42 rfl rfl ?_
      refine z_imul C dX6_takeLine_43 ?_
      refine z_top (y := nI 0) (pk_mul _ _) ?_
      refine z_iadd C dX6_takeLine_44 ?_
      refine z_top (y := nI 2) (nI_add _ _) ?_
      refine z_iload_n C 3 dX6_takeLine_45 rfl rfl ?_
      refine z_iadd C dX6_takeLine_46 ?_
      refine z_top (y := nI (2 + k)) (nI_add _ _) ?_
      refine z_iconst C (nI 1) dX6_takeLine_47 (by decide) ?_
      refine z_iadd C dX6_takeLine_48 ?_
      refine z_top (y := nI (2 + k + 1)) (nI_add _ _) ?_
      refine z_ialdN C 1 dX6_takeLine_49 rfl (by omega) (by decide) ?_
      refine z_top (y := nI (mS f' 0 (k + 1))) ((congrArg (mRow (zUpN (vU) 0 (vU 0 - 1)) f' vN vX vM vT vB vK vY vZ vR vC vV) (show 2 + k + 1 = 2 + (12 * 0 + (k + 1)) by omega)).trans (zMr_S (by omega))) ?_
      refine z_iastR C 1 dX6_takeLine_50 rfl (by omega) (by decide) (f' := mRow (zUpN (vU) 0 (vU 0 - 1)) (zUpN f' (12 * 0 + k) (mS f' 0 (k + 1))) vN vX vM vT vB vK vY vZ vR vC vV) ((congrArg (fun i9 => upd (mRow (zUpN (vU) 0 (vU 0 - 1)) f' vN vX vM vT vB vK vY vZ vR vC vV) i9 (nI (mS f' 0 (k + 1)))) (show 2 + k = 2 + (12 * 0 + k) by omega)).trans (zMw_S (by omega))) ?_
      refine z_iinc C (nI (k + 1)) dX6_takeLine_51 rfl (zi_1 _) ?_
      refine z_goto C 14 dX6_takeLine_54 (by decide) ?_
      exact ih14 (vU 0 - (k + 1)) (by omega) (k + 1) (zUpN f' (12 * 0 + k) (mS f' 0 (k + 1))) rfl (by omega) (by omega) (by subst hf; exact mClL_s (by omega))
  exact hL14 _ j (vS) rfl (Nat.le_refl _) (by omega) ((mClL_0 _ _ _).symm)

set_option maxHeartbeats 4000000 in
set_option maxRecDepth 100000 in
theorem mX6_putLine_1 (E : zE) (a : Nat → Nat) (kp ty pl : Nat) (gd : Bool) (od : Nat) (vU vS : Nat → Nat) (vN : Nat → Int32) (vX vM : Nat) (vT : Bool) (vB vK vY vZ vR vC vV : Nat → Int32) (j : Nat) (hO : okM vU vS vM vK) (hU : vU 1 < 8) (hj : j ≤ vU 1) : zM E yX6_putLine wsX6_putLine 2 [.ref (a 0), .int (nI 1), .int (nI j)] [((a 0), .inr (6, [.ref (a 1), .ref (a 2), .ref (a 3), .int (nI kp), .int (nI ty), .ref (a 4), .int (nI pl), .int (zb gd), .int (nI od), .ref (a 5)])), ((a 1), .inl (E.2.2.1, 512, .inl (mRow vU vS vN vX vM vT vB vK vY vZ vR vC vV)))] [((a 0), .inr (6, [.ref (a 1), .ref (a 2), .ref (a 3), .int (nI kp), .int (nI ty), .ref (a 4), .int (nI pl), .int (zb gd), .int (nI od), .ref (a 5)])), ((a 1), .inl (E.2.2.1, 512, .inl (mRow (zUpN vU 1 (vU 1 + 1)) (mPuS vU vS 1 j) (mPuN vU vS vN vX 1) (vX + 1) vM vT (mClr vB (mCx (mPuS vU vS 1 j) 1 j) (vU 0)) vK vY vZ vR vC vV)))] (some (.int (nI (vX)))) := by
  refine zM.of kX6_putLine (Nat.le_of_ble_eq_true rfl) rfl [some (.ref (a 0)), some (.int (nI 1)), some (.int (nI j)), none, none] rfl (Nat.le_of_ble_eq_true rfl) ?_
  intro X eX C N
  subst eX
  obtain ⟨hu0, hu1, hM, hk1, hk2, hk3⟩ := id hO
  refine z_aload_n C 0 dX6_putLine_0 rfl rfl ?_
  refine z_iload_n C 1 dX6_putLine_1 rfl rfl ?_
  refine z_callVr C kX6_freeSlot gX6_putLine_X6_freeSlot (mX6_freeSlot_1 X.2.1 a kp ty pl gd od vU vS vN vX vM vT vB vK vY vZ vR vC vV hO hU) dX6_putLine_2 [0, 1] [] 0 rfl nd_0_1 rfl rfl rfl (by decide) (by decide) (Nat.le_of_ble_eq_true rfl) rfl ?_
  have hg_1 : mFs vU vS 1 ≤ vU 1 := mFs_le (by omega)
  refine z_istore_n C 3 dX6_putLine_5 rfl (Nat.le_of_ble_eq_true rfl) ?_
  refine z_aload_n C 0 dX6_putLine_6 rfl rfl ?_
  refine z_iload_n C 1 dX6_putLine_7 rfl rfl ?_
  refine z_callVr C kX6_many gX6_putLine_X6_many (mX6_many_1 X.2.1 a kp ty pl gd od vU vS vN vX vM vT vB vK vY vZ vR vC vV ) dX6_putLine_8 [0, 1] [] 0 rfl nd_0_1 rfl rfl rfl (by decide) (by decide) (Nat.le_of_ble_eq_true rfl) rfl ?_
  refine z_istore C dX6_putLine_11 (Nat.le_of_ble_eq_true rfl) ?_
  have hL13 : ∀ (dd : Nat) (k : Nat) (f' : Nat → Nat), k - j = dd → (j ≤ k) → (k ≤ vU 1) → (f' = mOpL (vS) (12 * 1) (vU 1) k) → zG X 0 0 [((a 0), .inr (6, [.ref (a 1), .ref (a 2), .ref (a 3), .int (nI kp), .int (nI ty), .ref (a 4), .int (nI pl), .int (zb gd), .int (nI od), .ref (a 5)])), ((a 1), .inl (X.2.1.2.2.1, 512, .inl (mRow vU f' vN vX vM vT vB vK vY vZ vR vC vV)))] [some (.ref (a 0)), some (.int (nI 1)), some (.int (nI j)), some (.int (nI (mFs vU vS 1))), some (.int (nI k))] [] 13 := by
    intro dd
    induction dd using Nat.strongRecOn with
    | _ dd ih13 =>
    intro k f' hdd hk hk2 hf
    refine z_iload C dX6_putLine_13 rfl ?_
    refine z_iload_n C 2 dX6_putLine_15 rfl rfl ?_
    refine z_ncmp_le C 55 dX6_putLine_16 (by decide) (by omega) (by omega) (fun h_2 => ?_) (fun h_2 => ?_)
    · refine z_aload_n C 0 dX6_putLine_55 rfl rfl ?_
      refine z_get C fX6_putLine_7 0 dX6_putLine_56 rfl rfl ?_
      refine z_iconst C (nI 2) dX6_putLine_59 (by decide) ?_
      refine z_bipush C (nI 12) dX6_putLine_60 (by decide) ?_
      refine z_iload_n C 1 dX6_putLine_62 rfl rfl ?_
      refine z_imul C dX6_putLine_63 ?_
      refine z_top (y := nI 12) (pk_mul _ _) ?_
      refine z_iadd C dX6_putLine_64 ?_
      refine z_top (y := nI 14) (nI_add _ _) ?_
      refine z_iload_n C 2 dX6_putLine_65 rfl rfl ?_
      refine z_iadd C dX6_putLine_66 ?_
      refine z_top (y := nI (14 + j)) (nI_add _ _) ?_
      refine z_iload_n C 3 dX6_putLine_67 rfl rfl ?_
      refine z_iastR C 1 dX6_putLine_68 rfl (by omega) (by decide) (f' := mRow vU (zUpN f' (12 * 1 + j) (mFs vU vS 1)) vN vX vM vT vB vK vY vZ vR vC vV) ((congrArg (fun i9 => upd (mRow vU f' vN vX vM vT vB vK vY vZ vR vC vV) i9 (nI (mFs vU vS 1))) (show 14 + j = 2 + (12 * 1 + j) by omega)).trans (zMw_S (by omega))) ?_
      refine z_aload_n C 0 dX6_putLine_69 rfl rfl ?_
      refine z_get C fX6_putLine_7 0 dX6_putLine_70 rfl rfl ?_
      refine z_iconst C (nI 0) dX6_putLine_73 (by decide) ?_
      refine z_iload_n C 1 dX6_putLine_74 rfl rfl ?_
      refine z_iadd C dX6_putLine_75 ?_
      refine z_top (y := nI 1) (nI_add _ _) ?_
      refine z_dup2 C dX6_putLine_76 rfl rfl ?_
      refine z_ialdN C 1 dX6_putLine_77 rfl (by omega) (by decide) ?_
      refine z_top (y := nI (vU 1)) ((congrArg (mRow vU (zUpN f' (12 * 1 + j) (mFs vU vS 1)) vN vX vM vT vB vK vY vZ vR vC vV) (show 1 = 0 + (1) by omega)).trans (zMr_U (by omega))) ?_
      refine z_iconst C (nI 1) dX6_putLine_78 (by decide) ?_
      refine z_iadd C dX6_putLine_79 ?_
      refine z_top (y := nI ((vU 1) + 1)) (nI_add _ _) ?_
      refine z_iastR C 1 dX6_putLine_80 rfl (by omega) (by decide) (f' := mRow (zUpN (vU) 1 ((vU 1) + 1)) (zUpN f' (12 * 1 + j) (mFs vU vS 1)) vN vX vM vT vB vK vY vZ vR vC vV) ((congrArg (fun i9 => upd (mRow vU (zUpN f' (12 * 1 + j) (mFs vU vS 1)) vN vX vM vT vB vK vY vZ vR vC vV) i9 (nI ((vU 1) + 1))) (show 1 = 0 + (1) by omega)).trans (zMw_U (by omega))) ?_
      refine z_aload_n C 0 dX6_putLine_81 rfl rfl ?_
      refine z_get C fX6_putLine_7 0 dX6_putLine_82 rfl rfl ?_
      refine z_bipush C (nI 26) dX6_putLine_85 (by decide) ?_
      refine z_bipush C (nI 12) dX6_putLine_87 (by decide) ?_
      refine z_iload_n C 1 dX6_putLine_89 rfl rfl ?_
      refine z_imul C dX6_putLine_90 ?_
      refine z_top (y := nI 12) (pk_mul _ _) ?_
      refine z_iadd C dX6_putLine_91 ?_
      refine z_top (y := nI 38) (nI_add _ _) ?_
      refine z_iload_n C 3 dX6_putLine_92 rfl rfl ?_
      refine z_iadd C dX6_putLine_93 ?_
      refine z_top (y := nI (38 + (mFs vU vS 1))) (nI_add _ _) ?_
      refine z_aload_n C 0 dX6_putLine_94 rfl rfl ?_
      refine z_get C fX6_putLine_7 0 dX6_putLine_95 rfl rfl ?_
      refine z_bipush C (nI 50) dX6_putLine_98 (by decide) ?_
      refine z_ialdN C 1 dX6_putLine_100 rfl (by omega) (by decide) ?_
      refine z_top (y := nI (vX)) (zMr_X) ?_
      refine z_iastR C 1 dX6_putLine_101 rfl (by omega) (by decide) (f' := mRow (zUpN (vU) 1 ((vU 1) + 1)) (zUpN f' (12 * 1 + j) (mFs vU vS 1)) (upd (vN) (12 * 1 + (mFs vU vS 1)) (nI (vX))) vX vM vT vB vK vY vZ vR vC vV) ((congrArg (fun i9 => upd (mRow (zUpN (vU) 1 ((vU 1) + 1)) (zUpN f' (12 * 1 + j) (mFs vU vS 1)) vN vX vM vT vB vK vY vZ vR vC vV) i9 (nI (vX))) (show 38 + (mFs vU vS 1) = 26 + (12 * 1 + (mFs vU vS 1)) by omega)).trans (zMw_N (by omega))) ?_
      refine z_aload_n C 0 dX6_putLine_102 rfl rfl ?_
      refine z_get C fX6_putLine_7 0 dX6_putLine_103 rfl rfl ?_
      refine z_bipush C (nI 50) dX6_putLine_106 (by decide) ?_
      refine z_dup2 C dX6_putLine_108 rfl rfl ?_
      refine z_ialdN C 1 dX6_putLine_109 rfl (by omega) (by decide) ?_
      refine z_top (y := nI (vX)) (zMr_X) ?_
      refine z_iconst C (nI 1) dX6_putLine_110 (by decide) ?_
      refine z_iadd C dX6_putLine_111 ?_
      refine z_top (y := nI ((vX) + 1)) (nI_add _ _) ?_
      refine z_iastR C 1 dX6_putLine_112 rfl (by omega) (by decide) (f' := mRow (zUpN (vU) 1 ((vU 1) + 1)) (zUpN f' (12 * 1 + j) (mFs vU vS 1)) (upd (vN) (12 * 1 + (mFs vU vS 1)) (nI (vX))) ((vX) + 1) vM vT vB vK vY vZ vR vC vV) (zMw_X (v := ((vX) + 1))) ?_
      refine z_cv (ws' := [((a 0), .inr (6, [.ref (a 1), .ref (a 2), .ref (a 3), .int (nI kp), .int (nI ty), .ref (a 4), .int (nI pl), .int (zb gd), .int (nI od), .ref (a 5)])), ((a 1), .inl (X.2.1.2.2.1, 512, .inl (mRow (zUpN vU 1 (vU 1 + 1)) (mPuS vU vS 1 j) (mPuN vU vS vN vX 1) (vX + 1) vM vT vB vK vY vZ vR vC vV)))]) (by rw [hf, show k = j by omega] <;> rfl) rfl rfl ?_
      have q_3 : okM (zUpN vU 1 (vU 1 + 1)) (mPuS vU vS 1 j) vM vK := okM_Pu0_1 hO hU hj
      have q_4 : (zUpN vU 1 (vU 1 + 1)) 0 = vU 0 := rfl
      refine z_iconst C (nI 0) dX6_putLine_113 (by decide) ?_
      refine z_istore C dX6_putLine_114 (Nat.le_of_ble_eq_true rfl) ?_
      have hL116 : ∀ (dd : Nat) (k : Nat) (b' : Nat → Int32), vU 0 - k = dd → (k ≤ vU 0) → (b' = mClr (vB) (mCx (mPuS vU vS 1 j) 1 j) k) → zG X 0 0 [((a 0), .inr (6, [.ref (a 1), .ref (a 2), .ref (a 3), .int (nI kp), .int (nI ty), .ref (a 4), .int (nI pl), .int (zb gd), .int (nI od), .ref (a 5)])), ((a 1), .inl (X.2.1.2.2.1, 512, .inl (mRow (zUpN vU 1 (vU 1 + 1)) (mPuS vU vS 1 j) (mPuN vU vS vN vX 1) (vX + 1) vM vT b' vK vY vZ vR vC vV)))] [some (.ref (a 0)), some (.int (nI 1)), some (.int (nI j)), some (.int (nI (mFs vU vS 1))), some (.int (nI k))] [] 116 := by
        intro dd
        induction dd using Nat.strongRecOn with
        | _ dd ih116 =>
        intro k b' hdd hk hb
        refine z_iload C dX6_putLine_116 rfl ?_
        refine z_aload_n C 0 dX6_putLine_118 rfl rfl ?_
        refine z_iconst C (nI 1) dX6_putLine_119 (by decide) ?_
        refine z_iload_n C 1 dX6_putLine_120 rfl rfl ?_
        refine z_isub C dX6_putLine_121 ?_
        refine z_top (y := nI 0) ((pk_sub (by omega)).trans (congrArg nI (by omega))) ?_
        refine z_callVr C kX6_many gX6_putLine_X6_many (mX6_many_0 X.2.1 a kp ty pl gd od (zUpN vU 1 (vU 1 + 1)) (mPuS vU vS 1 j) (mPuN vU vS vN vX 1) (vX + 1) vM vT b' vK vY vZ vR vC vV ) dX6_putLine_122 [0, 1] [.int (nI k)] 0 rfl nd_0_1 rfl rfl rfl (by decide) (by decide) (Nat.le_of_ble_eq_true rfl) rfl ?_
        refine z_top (y := nI ((zUpN vU 1 (vU 1 + 1)) 0)) rfl ?_
        refine z_ncmp_ge C 161 dX6_putLine_125 (by decide) (by omega) (by omega) (fun h_5 => ?_) (fun h_5 => ?_)
        · refine z_aload_n C 0 dX6_putLine_161 rfl rfl ?_
          refine z_get C fX6_putLine_7 0 dX6_putLine_162 rfl rfl ?_
          refine z_bipush C (nI 50) dX6_putLine_165 (by decide) ?_
          refine z_ialdN C 1 dX6_putLine_167 rfl (by omega) (by decide) ?_
          refine z_top (y := nI ((vX + 1))) (zMr_X) ?_
          refine z_iconst C (nI 1) dX6_putLine_168 (by decide) ?_
          refine z_isub C dX6_putLine_169 ?_
          refine z_top (y := nI ((vX + 1)) + (-1)) (zi_s _) ?_
          exact z_iret C N dX6_putLine_170 (by rw [hb, show k = vU 0 by omega] <;> rfl) (by show some (Value.int (nI (vX + 1) + (-1))) = _; rw [pk_m1])
        · refine z_aload_n C 0 dX6_putLine_128 rfl rfl ?_
          refine z_get C fX6_putLine_7 0 dX6_putLine_129 rfl rfl ?_
          refine z_iload_n C 1 dX6_putLine_132 rfl rfl ?_
          refine z_nif_ne_t C 146 dX6_putLine_133 (by decide) (by omega) (by omega) ?_
          refine z_aload_n C 0 dX6_putLine_146 rfl rfl ?_
          refine z_iload C dX6_putLine_147 rfl ?_
          refine z_iload_n C 2 dX6_putLine_149 rfl rfl ?_
          refine z_callVr C kX6_baseAt gX6_putLine_X6_baseAt (mX6_baseAt_0 X.2.1 a kp ty pl gd od (zUpN vU 1 (vU 1 + 1)) (mPuS vU vS 1 j) (mPuN vU vS vN vX 1) (vX + 1) vM vT b' vK vY vZ vR vC vV k j q_3 (by first | assumption | omega) (by first | assumption | omega)) dX6_putLine_150 [0, 1] [.ref (a 1)] 0 rfl nd_0_1 rfl rfl rfl (by decide) (by decide) (Nat.le_of_ble_eq_true rfl) rfl ?_
          refine z_top (y := nI (53 + 8 * mS (mPuS vU vS 1 j) 0 k + mS (mPuS vU vS 1 j) 1 j)) rfl ?_
          have hg_6 : mS (mPuS vU vS 1 j) 0 k < 12 := okM_r (by assumption) _
          have hg_7 : mS (mPuS vU vS 1 j) 1 j < 8 := okM_c (by assumption) _
          refine z_iconst C (nI 0) dX6_putLine_153 (by decide) ?_
          refine z_iastR C 1 dX6_putLine_154 rfl (by omega) (by decide) (f' := mRow (zUpN vU 1 (vU 1 + 1)) (mPuS vU vS 1 j) (mPuN vU vS vN vX 1) (vX + 1) vM vT (upd b' (8 * mS (mPuS vU vS 1 j) 0 k + mS (mPuS vU vS 1 j) 1 j) (nI 0)) vK vY vZ vR vC vV) ((congrArg (fun i9 => upd (mRow (zUpN vU 1 (vU 1 + 1)) (mPuS vU vS 1 j) (mPuN vU vS vN vX 1) (vX + 1) vM vT b' vK vY vZ vR vC vV) i9 (nI 0)) (show 53 + 8 * mS (mPuS vU vS 1 j) 0 k + mS (mPuS vU vS 1 j) 1 j = 53 + (8 * mS (mPuS vU vS 1 j) 0 k + mS (mPuS vU vS 1 j) 1 j) by omega)).trans (zMw_B (by omega))) ?_
          refine z_iinc C (nI (k + 1)) dX6_putLine_155 rfl (zi_1 _) ?_
          refine z_goto C 116 dX6_putLine_158 (by decide) ?_
          exact ih116 (vU 0 - (k + 1)) (by omega) (k + 1) (upd b' (8 * mS (mPuS vU vS 1 j) 0 k + mS (mPuS vU vS 1 j) 1 j) (nI 0)) rfl (by omega) (by subst hb; rfl)
      exact hL116 _ 0 (vB) rfl (by omega) (rfl)
    · obtain ⟨q, rfl⟩ : ∃ q9, k = q9 + 1 := ⟨k - 1, by omega⟩
      refine z_aload_n C 0 dX6_putLine_19 rfl rfl ?_
      refine z_get C fX6_putLine_7 0 dX6_putLine_20 rfl rfl ?_
      refine z_iconst C (nI 2) dX6_putLine_23 (by decide) ?_
      refine z_bipush C (nI 12) dX6_putLine_24 (by decide) ?_
      refine z_iload_n C 1 dX6_putLine_26 rfl rfl ?_
      refine z_imul C dX6_putLine_27 ?_
      refine z_top (y := nI 12) (pk_mul _ _) ?_
      refine z_iadd C dX6_putLine_28 ?_
      refine z_top (y := nI 14) (nI_add _ _) ?_
      refine z_iload C dX6_putLine_29 rfl ?_
      refine z_iadd C dX6_putLine_31 ?_
      refine z_top (y := nI (14 + (q + 1))) (nI_add _ _) ?_
      refine z_aload_n C 0 dX6_putLine_32 rfl rfl ?_
      refine z_get C fX6_putLine_7 0 dX6_putLine_33 rfl rfl ?_
      refine z_iconst C (nI 2) dX6_putLine_36 (by decide) ?_
      refine z_bipush C (nI 12) dX6_putLine_37 (by decide) ?_
      refine z_iload_n C 1 dX6_putLine_39 rfl rfl ?_
      refine z_imul C dX6_putLine_40 ?_
      refine z_top (y := nI 12) (pk_mul _ _) ?_
      refine z_iadd C dX6_putLine_41 ?_
      refine z_top (y := nI 14) (nI_add _ _) ?_
      refine z_iload C dX6_putLine_42 rfl ?_
      refine z_iadd C dX6_putLine_44 ?_
      refine z_top (y := nI (14 + (q + 1))) (nI_add _ _) ?_
      refine z_iconst C (nI 1) dX6_putLine_45 (by decide) ?_
      refine z_isub C dX6_putLine_46 ?_
      refine z_top (y := nI ((14 + (q + 1)) - 1)) ((pk_sub (by omega)).trans (congrArg nI (by omega))) ?_
      refine z_ialdN C 1 dX6_putLine_47 rfl (by omega) (by decide) ?_
      refine z_top (y := nI (mS f' 1 q)) ((congrArg (mRow vU f' vN vX vM vT vB vK vY vZ vR vC vV) (show (14 + (q + 1)) - 1 = 2 + (12 * 1 + q) by omega)).trans (zMr_S (by omega))) ?_
      refine z_iastR C 1 dX6_putLine_48 rfl (by omega) (by decide) (f' := mRow vU (zUpN f' (12 * 1 + (q + 1)) (mS f' 1 q)) vN vX vM vT vB vK vY vZ vR vC vV) ((congrArg (fun i9 => upd (mRow vU f' vN vX vM vT vB vK vY vZ vR vC vV) i9 (nI (mS f' 1 q))) (show 14 + (q + 1) = 2 + (12 * 1 + (q + 1)) by omega)).trans (zMw_S (by omega))) ?_
      refine z_iinc C (nI q) dX6_putLine_49 rfl (zi_m1 _) ?_
      refine z_goto C 13 dX6_putLine_52 (by decide) ?_
      exact ih13 (q - j) (by omega) q (zUpN f' (12 * 1 + (q + 1)) (mS f' 1 q)) rfl (by omega) (by omega) (by subst hf; exact mOpL_s (by omega))
  exact hL13 _ (vU 1) (vS) rfl (by omega) (by omega) ((mOpL_0 _ _ _).symm)

set_option maxHeartbeats 4000000 in
set_option maxRecDepth 100000 in
theorem mX6_takeLine_1 (E : zE) (a : Nat → Nat) (kp ty pl : Nat) (gd : Bool) (od : Nat) (vU vS : Nat → Nat) (vN : Nat → Int32) (vX vM : Nat) (vT : Bool) (vB vK vY vZ vR vC vV : Nat → Int32) (j : Nat) (hO : okM vU vS vM vK) (hj : j < vU 1) : zM E yX6_takeLine wsX6_takeLine 1 [.ref (a 0), .int (nI 1), .int (nI j)] [((a 0), .inr (6, [.ref (a 1), .ref (a 2), .ref (a 3), .int (nI kp), .int (nI ty), .ref (a 4), .int (nI pl), .int (zb gd), .int (nI od), .ref (a 5)])), ((a 1), .inl (E.2.2.1, 512, .inl (mRow vU vS vN vX vM vT vB vK vY vZ vR vC vV)))] [((a 0), .inr (6, [.ref (a 1), .ref (a 2), .ref (a 3), .int (nI kp), .int (nI ty), .ref (a 4), .int (nI pl), .int (zb gd), .int (nI od), .ref (a 5)])), ((a 1), .inl (E.2.2.1, 512, .inl (mRow (zUpN vU 1 (vU 1 - 1)) (mClL vS (12 * 1) j (vU 1 - 1)) vN vX vM vT vB vK vY vZ vR vC vV)))] none := by
  refine zM.of kX6_takeLine (Nat.le_of_ble_eq_true rfl) rfl [some (.ref (a 0)), some (.int (nI 1)), some (.int (nI j)), none] rfl (Nat.le_of_ble_eq_true rfl) ?_
  intro X eX C N
  subst eX
  obtain ⟨hu0, hu1, hM, hk1, hk2, hk3⟩ := id hO
  refine z_aload_n C 0 dX6_takeLine_0 rfl rfl ?_
  refine z_get C fX6_takeLine_7 0 dX6_takeLine_1 rfl rfl ?_
  refine z_iconst C (nI 0) dX6_takeLine_4 (by decide) ?_
  refine z_iload_n C 1 dX6_takeLine_5 rfl rfl ?_
  refine z_iadd C dX6_takeLine_6 ?_
  refine z_top (y := nI 1) (nI_add _ _) ?_
  refine z_dup2 C dX6_takeLine_7 rfl rfl ?_
  refine z_ialdN C 1 dX6_takeLine_8 rfl (by omega) (by decide) ?_
  refine z_top (y := nI (vU 1)) ((congrArg (mRow vU vS vN vX vM vT vB vK vY vZ vR vC vV) (show 1 = 0 + (1) by omega)).trans (zMr_U (by omega))) ?_
  refine z_iconst C (nI 1) dX6_takeLine_9 (by decide) ?_
  refine z_isub C dX6_takeLine_10 ?_
  refine z_top (y := nI ((vU 1) - 1)) ((pk_sub (by omega)).trans (congrArg nI (by omega))) ?_
  refine z_iastR C 1 dX6_takeLine_11 rfl (by omega) (by decide) (f' := mRow (zUpN (vU) 1 ((vU 1) - 1)) vS vN vX vM vT vB vK vY vZ vR vC vV) ((congrArg (fun i9 => upd (mRow vU vS vN vX vM vT vB vK vY vZ vR vC vV) i9 (nI ((vU 1) - 1))) (show 1 = 0 + (1) by omega)).trans (zMw_U (by omega))) ?_
  refine z_iload_n C 2 dX6_takeLine_12 rfl rfl ?_
  refine z_istore_n C 3 dX6_takeLine_13 rfl (Nat.le_of_ble_eq_true rfl) ?_
  have hL14 : ∀ (dd : Nat) (k : Nat) (f' : Nat → Nat), vU 1 - k = dd → (j ≤ k) → (k ≤ vU 1 - 1) → (f' = mClL (vS) (12 * 1) j k) → zG X 0 0 [((a 0), .inr (6, [.ref (a 1), .ref (a 2), .ref (a 3), .int (nI kp), .int (nI ty), .ref (a 4), .int (nI pl), .int (zb gd), .int (nI od), .ref (a 5)])), ((a 1), .inl (X.2.1.2.2.1, 512, .inl (mRow (zUpN (vU) 1 (vU 1 - 1)) f' vN vX vM vT vB vK vY vZ vR vC vV)))] [some (.ref (a 0)), some (.int (nI 1)), some (.int (nI j)), some (.int (nI k))] [] 14 := by
    intro dd
    induction dd using Nat.strongRecOn with
    | _ dd ih14 =>
    intro k f' hdd hk hk2 hf
    refine z_iload_n C 3 dX6_takeLine_14 rfl rfl ?_
    refine z_aload_n C 0 dX6_takeLine_15 rfl rfl ?_
    refine z_iload_n C 1 dX6_takeLine_16 rfl rfl ?_
    refine z_callVr C kX6_many gX6_takeLine_X6_many (mX6_many_1 X.2.1 a kp ty pl gd od (zUpN (vU) 1 (vU 1 - 1)) f' vN vX vM vT vB vK vY vZ vR vC vV ) dX6_takeLine_17 [0, 1] [.int (nI k)] 0 rfl nd_0_1 rfl rfl rfl (by decide) (by decide) (Nat.le_of_ble_eq_true rfl) rfl ?_
    refine z_top (y := nI (vU 1 - 1)) rfl ?_
    refine z_ncmp_ge C 57 dX6_takeLine_20 (by decide) (by omega) (by omega) (fun h_1 => ?_) (fun h_1 => ?_)
    · exact z_vret C N dX6_takeLine_57 (by rw [hf, show k = vU 1 - 1 by omega] <;> rfl)
    · refine z_aload_n C 0 dX6_takeLine_23 rfl rfl ?_
      refine z_get C fX6_takeLine_7 0 dX6_takeLine_24 rfl rfl ?_
      refine z_iconst C (nI 2) dX6_takeLine_27 (by decide) ?_
      refine z_bipush C (nI 12) dX6_takeLine_28 (by decide) ?_
      refine z_iload_n C 1 dX6_takeLine_30 rfl rfl ?_
      refine z_imul C dX6_takeLine_31 ?_
      refine z_top (y := nI 12) (pk_mul _ _) ?_
      refine z_iadd C dX6_takeLine_32 ?_
      refine z_top (y := nI 14) (nI_add _ _) ?_
      refine z_iload_n C 3 dX6_takeLine_33 rfl rfl ?_
      refine z_iadd C dX6_takeLine_34 ?_
      refine z_top (y := nI (14 + k)) (nI_add _ _) ?_
      refine z_aload_n C 0 dX6_takeLine_35 rfl rfl ?_
      refine z_get C fX6_takeLine_7 0 dX6_takeLine_36 rfl rfl ?_
      refine z_iconst C (nI 2) dX6_takeLine_39 (by decide) ?_
      refine z_bipush C (nI 12) dX6_takeLine_40 (by decide) ?_
      refine z_iload_n C 1 dX6_takeLine_42 rfl rfl ?_
      refine z_imul C dX6_takeLine_43 ?_
      refine z_top (y := nI 12) (pk_mul _ _) ?_
      refine z_iadd C dX6_takeLine_44 ?_
      refine z_top (y := nI 14) (nI_add _ _) ?_
      refine z_iload_n C 3 dX6_takeLine_45 rfl rfl ?_
      refine z_iadd C dX6_takeLine_46 ?_
      refine z_top (y := nI (14 + k)) (nI_add _ _) ?_
      refine z_iconst C (nI 1) dX6_takeLine_47 (by decide) ?_
      refine z_iadd C dX6_takeLine_48 ?_
      refine z_top (y := nI (14 + k + 1)) (nI_add _ _) ?_
      refine z_ialdN C 1 dX6_takeLine_49 rfl (by omega) (by decide) ?_
      refine z_top (y := nI (mS f' 1 (k + 1))) ((congrArg (mRow (zUpN (vU) 1 (vU 1 - 1)) f' vN vX vM vT vB vK vY vZ vR vC vV) (show 14 + k + 1 = 2 + (12 * 1 + (k + 1)) by omega)).trans (zMr_S (by omega))) ?_
      refine z_iastR C 1 dX6_takeLine_50 rfl (by omega) (by decide) (f' := mRow (zUpN (vU) 1 (vU 1 - 1)) (zUpN f' (12 * 1 + k) (mS f' 1 (k + 1))) vN vX vM vT vB vK vY vZ vR vC vV) ((congrArg (fun i9 => upd (mRow (zUpN (vU) 1 (vU 1 - 1)) f' vN vX vM vT vB vK vY vZ vR vC vV) i9 (nI (mS f' 1 (k + 1)))) (show 14 + k = 2 + (12 * 1 + k) by omega)).trans (zMw_S (by omega))) ?_
      refine z_iinc C (nI (k + 1)) dX6_takeLine_51 rfl (zi_1 _) ?_
      refine z_goto C 14 dX6_takeLine_54 (by decide) ?_
      exact ih14 (vU 1 - (k + 1)) (by omega) (k + 1) (zUpN f' (12 * 1 + k) (mS f' 1 (k + 1))) rfl (by omega) (by omega) (by subst hf; exact mClL_s (by omega))
  exact hL14 _ j (vS) rfl (Nat.le_refl _) (by omega) ((mClL_0 _ _ _).symm)

theorem kX6_make : zY yX6_make wsX6_make cX6_make 7 (some .int) 5 := ⟨⟨_, rfl⟩, ⟨by decide +kernel, by decide +kernel, by decide +kernel⟩, by decide +kernel⟩
theorem fX6_make_7 : zF wsX6_make RX6 7 6 0 RX6 TX6 10 := ⟨by decide +kernel, rfl, by decide, by decide +kernel, rfl⟩
set_option maxHeartbeats 4000000 in
set_option maxRecDepth 100000 in
theorem mX6_make (E : zE) (a : Nat → Nat) (kp ty pl : Nat) (gd : Bool) (od : Nat) (vU vS : Nat → Nat) (vN : Nat → Int32) (vX vM : Nat) (vT : Bool) (vB vK vY vZ vR vC vV : Nat → Int32) (kd au r c v : Int32) (hO : okM vU vS vM vK) (hm : vM < 60) : zM E yX6_make wsX6_make 0 [.ref (a 0), .int kd, .int au, .int r, .int c, .int v] [((a 0), .inr (6, [.ref (a 1), .ref (a 2), .ref (a 3), .int (nI kp), .int (nI ty), .ref (a 4), .int (nI pl), .int (zb gd), .int (nI od), .ref (a 5)])), ((a 1), .inl (E.2.2.1, 512, .inl (mRow vU vS vN vX vM vT vB vK vY vZ vR vC vV)))] [((a 0), .inr (6, [.ref (a 1), .ref (a 2), .ref (a 3), .int (nI kp), .int (nI ty), .ref (a 4), .int (nI pl), .int (zb gd), .int (nI od), .ref (a 5)])), ((a 1), .inl (E.2.2.1, 512, .inl (mRow vU vS vN vX (vM + 1) vT vB (upd vK vM kd) (upd vY vM au) (upd vZ vM (nI 0)) (upd vR vM r) (upd vC vM c) (upd vV vM v))))] (some (.int (nI (vM)))) := by
  refine zM.of kX6_make (Nat.le_of_ble_eq_true rfl) rfl [some (.ref (a 0)), some (.int kd), some (.int au), some (.int r), some (.int c), some (.int v), none] rfl (Nat.le_of_ble_eq_true rfl) ?_
  intro X eX C N
  subst eX
  obtain ⟨hu0, hu1, hM, hk1, hk2, hk3⟩ := id hO
  refine z_aload_n C 0 dX6_make_0 rfl rfl ?_
  refine z_get C fX6_make_7 0 dX6_make_1 rfl rfl ?_
  refine z_bipush C (nI 51) dX6_make_4 (by decide) ?_
  refine z_ialdN C 1 dX6_make_6 rfl (by omega) (by decide) ?_
  refine z_top (y := nI (vM)) (zMr_M) ?_
  refine z_istore C dX6_make_7 (Nat.le_of_ble_eq_true rfl) ?_
  refine z_aload_n C 0 dX6_make_9 rfl rfl ?_
  refine z_get C fX6_make_7 0 dX6_make_10 rfl rfl ?_
  refine z_sipush C (nI 149) dX6_make_13 (by decide) ?_
  refine z_iload C dX6_make_16 rfl ?_
  refine z_iadd C dX6_make_18 ?_
  refine z_top (y := nI (149 + (vM))) (nI_add _ _) ?_
  refine z_iload_n C 1 dX6_make_19 rfl rfl ?_
  refine z_iastR C 1 dX6_make_20 rfl (by omega) (by decide) (f' := mRow vU vS vN vX vM vT vB (upd (vK) (vM) kd) vY vZ vR vC vV) ((congrArg (fun i9 => upd (mRow vU vS vN vX vM vT vB vK vY vZ vR vC vV) i9 kd) (show 149 + (vM) = 149 + (vM) by omega)).trans (zMw_K (by omega))) ?_
  refine z_aload_n C 0 dX6_make_21 rfl rfl ?_
  refine z_get C fX6_make_7 0 dX6_make_22 rfl rfl ?_
  refine z_sipush C (nI 209) dX6_make_25 (by decide) ?_
  refine z_iload C dX6_make_28 rfl ?_
  refine z_iadd C dX6_make_30 ?_
  refine z_top (y := nI (209 + (vM))) (nI_add _ _) ?_
  refine z_iload_n C 2 dX6_make_31 rfl rfl ?_
  refine z_iastR C 1 dX6_make_32 rfl (by omega) (by decide) (f' := mRow vU vS vN vX vM vT vB (upd (vK) (vM) kd) (upd (vY) (vM) au) vZ vR vC vV) ((congrArg (fun i9 => upd (mRow vU vS vN vX vM vT vB (upd (vK) (vM) kd) vY vZ vR vC vV) i9 au) (show 209 + (vM) = 209 + (vM) by omega)).trans (zMw_Y (by omega))) ?_
  refine z_aload_n C 0 dX6_make_33 rfl rfl ?_
  refine z_get C fX6_make_7 0 dX6_make_34 rfl rfl ?_
  refine z_sipush C (nI 269) dX6_make_37 (by decide) ?_
  refine z_iload C dX6_make_40 rfl ?_
  refine z_iadd C dX6_make_42 ?_
  refine z_top (y := nI (269 + (vM))) (nI_add _ _) ?_
  refine z_iconst C (nI 0) dX6_make_43 (by decide) ?_
  refine z_iastR C 1 dX6_make_44 rfl (by omega) (by decide) (f' := mRow vU vS vN vX vM vT vB (upd (vK) (vM) kd) (upd (vY) (vM) au) (upd (vZ) (vM) (nI 0)) vR vC vV) ((congrArg (fun i9 => upd (mRow vU vS vN vX vM vT vB (upd (vK) (vM) kd) (upd (vY) (vM) au) vZ vR vC vV) i9 (nI 0)) (show 269 + (vM) = 269 + (vM) by omega)).trans (zMw_Z (by omega))) ?_
  refine z_aload_n C 0 dX6_make_45 rfl rfl ?_
  refine z_get C fX6_make_7 0 dX6_make_46 rfl rfl ?_
  refine z_sipush C (nI 329) dX6_make_49 (by decide) ?_
  refine z_iload C dX6_make_52 rfl ?_
  refine z_iadd C dX6_make_54 ?_
  refine z_top (y := nI (329 + (vM))) (nI_add _ _) ?_
  refine z_iload_n C 3 dX6_make_55 rfl rfl ?_
  refine z_iastR C 1 dX6_make_56 rfl (by omega) (by decide) (f' := mRow vU vS vN vX vM vT vB (upd (vK) (vM) kd) (upd (vY) (vM) au) (upd (vZ) (vM) (nI 0)) (upd (vR) (vM) r) vC vV) ((congrArg (fun i9 => upd (mRow vU vS vN vX vM vT vB (upd (vK) (vM) kd) (upd (vY) (vM) au) (upd (vZ) (vM) (nI 0)) vR vC vV) i9 r) (show 329 + (vM) = 329 + (vM) by omega)).trans (zMw_R (by omega))) ?_
  refine z_aload_n C 0 dX6_make_57 rfl rfl ?_
  refine z_get C fX6_make_7 0 dX6_make_58 rfl rfl ?_
  refine z_sipush C (nI 389) dX6_make_61 (by decide) ?_
  refine z_iload C dX6_make_64 rfl ?_
  refine z_iadd C dX6_make_66 ?_
  refine z_top (y := nI (389 + (vM))) (nI_add _ _) ?_
  refine z_iload C dX6_make_67 rfl ?_
  refine z_iastR C 1 dX6_make_69 rfl (by omega) (by decide) (f' := mRow vU vS vN vX vM vT vB (upd (vK) (vM) kd) (upd (vY) (vM) au) (upd (vZ) (vM) (nI 0)) (upd (vR) (vM) r) (upd (vC) (vM) c) vV) ((congrArg (fun i9 => upd (mRow vU vS vN vX vM vT vB (upd (vK) (vM) kd) (upd (vY) (vM) au) (upd (vZ) (vM) (nI 0)) (upd (vR) (vM) r) vC vV) i9 c) (show 389 + (vM) = 389 + (vM) by omega)).trans (zMw_C (by omega))) ?_
  refine z_aload_n C 0 dX6_make_70 rfl rfl ?_
  refine z_get C fX6_make_7 0 dX6_make_71 rfl rfl ?_
  refine z_sipush C (nI 449) dX6_make_74 (by decide) ?_
  refine z_iload C dX6_make_77 rfl ?_
  refine z_iadd C dX6_make_79 ?_
  refine z_top (y := nI (449 + (vM))) (nI_add _ _) ?_
  refine z_iload C dX6_make_80 rfl ?_
  refine z_iastR C 1 dX6_make_82 rfl (by omega) (by decide) (f' := mRow vU vS vN vX vM vT vB (upd (vK) (vM) kd) (upd (vY) (vM) au) (upd (vZ) (vM) (nI 0)) (upd (vR) (vM) r) (upd (vC) (vM) c) (upd (vV) (vM) v)) ((congrArg (fun i9 => upd (mRow vU vS vN vX vM vT vB (upd (vK) (vM) kd) (upd (vY) (vM) au) (upd (vZ) (vM) (nI 0)) (upd (vR) (vM) r) (upd (vC) (vM) c) vV) i9 v) (show 449 + (vM) = 449 + (vM) by omega)).trans (zMw_V (by omega))) ?_
  refine z_aload_n C 0 dX6_make_83 rfl rfl ?_
  refine z_get C fX6_make_7 0 dX6_make_84 rfl rfl ?_
  refine z_bipush C (nI 51) dX6_make_87 (by decide) ?_
  refine z_dup2 C dX6_make_89 rfl rfl ?_
  refine z_ialdN C 1 dX6_make_90 rfl (by omega) (by decide) ?_
  refine z_top (y := nI (vM)) (zMr_M) ?_
  refine z_iconst C (nI 1) dX6_make_91 (by decide) ?_
  refine z_iadd C dX6_make_92 ?_
  refine z_top (y := nI ((vM) + 1)) (nI_add _ _) ?_
  refine z_iastR C 1 dX6_make_93 rfl (by omega) (by decide) (f' := mRow vU vS vN vX ((vM) + 1) vT vB (upd (vK) (vM) kd) (upd (vY) (vM) au) (upd (vZ) (vM) (nI 0)) (upd (vR) (vM) r) (upd (vC) (vM) c) (upd (vV) (vM) v)) (zMw_M (v := ((vM) + 1))) ?_
  refine z_iload C dX6_make_94 rfl ?_
  exact z_iret C N dX6_make_96 (rfl) (rfl)

theorem kX6_isTracked : zY yX6_isTracked wsX6_isTracked cX6_isTracked 1 (some .boolean) 0 := ⟨⟨_, rfl⟩, ⟨by decide +kernel, by decide +kernel, by decide +kernel⟩, by decide +kernel⟩
theorem fX6_isTracked_7 : zF wsX6_isTracked RX6 7 6 0 RX6 TX6 10 := ⟨by decide +kernel, rfl, by decide, by decide +kernel, rfl⟩
set_option maxHeartbeats 4000000 in
set_option maxRecDepth 100000 in
theorem mX6_isTracked (E : zE) (a : Nat → Nat) (kp ty pl : Nat) (gd : Bool) (od : Nat) (vU vS : Nat → Nat) (vN : Nat → Int32) (vX vM : Nat) (vT : Bool) (vB vK vY vZ vR vC vV : Nat → Int32)   : zM E yX6_isTracked wsX6_isTracked 0 [.ref (a 0)] [((a 0), .inr (6, [.ref (a 1), .ref (a 2), .ref (a 3), .int (nI kp), .int (nI ty), .ref (a 4), .int (nI pl), .int (zb gd), .int (nI od), .ref (a 5)])), ((a 1), .inl (E.2.2.1, 512, .inl (mRow vU vS vN vX vM vT vB vK vY vZ vR vC vV)))] [((a 0), .inr (6, [.ref (a 1), .ref (a 2), .ref (a 3), .int (nI kp), .int (nI ty), .ref (a 4), .int (nI pl), .int (zb gd), .int (nI od), .ref (a 5)])), ((a 1), .inl (E.2.2.1, 512, .inl (mRow vU vS vN vX vM vT vB vK vY vZ vR vC vV)))] (some (.int (zb (vT)))) := by
  refine zM.of kX6_isTracked (Nat.le_of_ble_eq_true rfl) rfl [some (.ref (a 0))] rfl (Nat.le_of_ble_eq_true rfl) ?_
  intro X eX C N
  subst eX
  refine z_aload_n C 0 dX6_isTracked_0 rfl rfl ?_
  refine z_get C fX6_isTracked_7 0 dX6_isTracked_1 rfl rfl ?_
  refine z_bipush C (nI 52) dX6_isTracked_4 (by decide) ?_
  refine z_ialdN C 1 dX6_isTracked_6 rfl (by omega) (by decide) ?_
  refine z_top (y := zb (vT)) (zMr_T) ?_
  refine z_iconst C (nI 1) dX6_isTracked_7 (by decide) ?_
  refine z_icmp_ne C 15 dX6_isTracked_8 (by decide) (fun h_1 => ?_) (fun h_1 => ?_)
  · refine z_iconst C (nI 0) dX6_isTracked_15 (by decide) ?_
    exact z_zret C N dX6_isTracked_16 rfl (rfl) (by rw [zb_f (Bool.eq_false_iff.mpr (fun q => absurd ((zb_1).mpr q) h_1))])
  · refine z_iconst C (nI 1) dX6_isTracked_11 (by decide) ?_
    refine z_goto C 16 dX6_isTracked_12 (by decide) ?_
    exact z_zret C N dX6_isTracked_16 rfl (rfl) (by rw [zb_t ((zb_1).mp h_1)])

theorem kX6_isAtLine : zY yX6_isAtLine wsX6_isAtLine cX6_isAtLine 5 (some .boolean) 3 := ⟨⟨_, rfl⟩, ⟨by decide +kernel, by decide +kernel, by decide +kernel⟩, by decide +kernel⟩
set_option maxHeartbeats 4000000 in
set_option maxRecDepth 100000 in
theorem mX6_isAtLine (E : zE) (a : Nat → Nat) (kp ty pl : Nat) (gd : Bool) (od : Nat) (vU vS : Nat → Nat) (vN : Nat → Int32) (vX vM : Nat) (vT : Bool) (vB vK vY vZ vR vC vV : Nat → Int32) (x : Nat) (ax nm : Int32) (hx : x < 60) : zM E yX6_isAtLine wsX6_isAtLine 1 [.ref (a 0), .int (nI x), .int ax, .int nm] [((a 0), .inr (6, [.ref (a 1), .ref (a 2), .ref (a 3), .int (nI kp), .int (nI ty), .ref (a 4), .int (nI pl), .int (zb gd), .int (nI od), .ref (a 5)])), ((a 1), .inl (E.2.2.1, 512, .inl (mRow vU vS vN vX vM vT vB vK vY vZ vR vC vV)))] [((a 0), .inr (6, [.ref (a 1), .ref (a 2), .ref (a 3), .int (nI kp), .int (nI ty), .ref (a 4), .int (nI pl), .int (zb gd), .int (nI od), .ref (a 5)])), ((a 1), .inl (E.2.2.1, 512, .inl (mRow vU vS vN vX vM vT vB vK vY vZ vR vC vV)))] (some (.int (zb (mAt vK vR vC x ax nm)))) := by
  refine zM.of kX6_isAtLine (Nat.le_of_ble_eq_true rfl) rfl [some (.ref (a 0)), some (.int (nI x)), some (.int ax), some (.int nm), none] rfl (Nat.le_of_ble_eq_true rfl) ?_
  intro X eX C N
  subst eX
  refine z_aload_n C 0 dX6_isAtLine_0 rfl rfl ?_
  refine z_iload_n C 1 dX6_isAtLine_1 rfl rfl ?_
  refine z_sipush C (nI 149) dX6_isAtLine_2 (by decide) ?_
  refine z_callVr C kX6_of gX6_isAtLine_X6_of (mX6_of_K X.2.1 a kp ty pl gd od vU vS vN vX vM vT vB vK vY vZ vR vC vV x hx) dX6_isAtLine_5 [0, 1] [] 0 rfl nd_0_1 rfl rfl rfl (by decide) (by decide) (Nat.le_of_ble_eq_true rfl) rfl ?_
  refine z_istore C dX6_isAtLine_8 (Nat.le_of_ble_eq_true rfl) ?_
  refine z_iload C dX6_isAtLine_10 rfl ?_
  refine z_iconst C (nI 4) dX6_isAtLine_12 (by decide) ?_
  refine z_icmp_eq C 24 dX6_isAtLine_13 (by decide) (fun h_1 => ?_) (fun h_1 => ?_)
  · refine z_aload_n C 0 dX6_isAtLine_24 rfl rfl ?_
    refine z_iload_n C 1 dX6_isAtLine_25 rfl rfl ?_
    refine z_iload_n C 2 dX6_isAtLine_26 rfl rfl ?_
    refine z_if_ne C 36 dX6_isAtLine_27 (by decide) (fun h_2 => ?_) (fun h_2 => ?_)
    · refine z_sipush C (nI 389) dX6_isAtLine_36 (by decide) ?_
      refine z_callVr C kX6_of gX6_isAtLine_X6_of (mX6_of_C X.2.1 a kp ty pl gd od vU vS vN vX vM vT vB vK vY vZ vR vC vV x hx) dX6_isAtLine_39 [0, 1] [] 0 rfl nd_0_1 rfl rfl rfl (by decide) (by decide) (Nat.le_of_ble_eq_true rfl) rfl ?_
      refine z_iload_n C 3 dX6_isAtLine_42 rfl rfl ?_
      refine z_icmp_ne C 50 dX6_isAtLine_43 (by decide) (fun h_3 => ?_) (fun h_3 => ?_)
      · refine z_iconst C (nI 0) dX6_isAtLine_50 (by decide) ?_
        exact z_zret C N dX6_isAtLine_51 rfl (rfl) (congrArg (fun x => some (Value.int x)) (zb_f (by simp [mAt, nI_eq, zz_0, zz_0s, h_1, h_2, h_3])).symm)
      · refine z_iconst C (nI 1) dX6_isAtLine_46 (by decide) ?_
        refine z_goto C 51 dX6_isAtLine_47 (by decide) ?_
        exact z_zret C N dX6_isAtLine_51 rfl (rfl) (congrArg (fun x => some (Value.int x)) (zb_t (by simp [mAt, nI_eq, zz_0, zz_0s, h_1, h_2, h_3])).symm)
    · refine z_sipush C (nI 329) dX6_isAtLine_30 (by decide) ?_
      refine z_goto C 39 dX6_isAtLine_33 (by decide) ?_
      refine z_callVr C kX6_of gX6_isAtLine_X6_of (mX6_of_R X.2.1 a kp ty pl gd od vU vS vN vX vM vT vB vK vY vZ vR vC vV x hx) dX6_isAtLine_39 [0, 1] [] 0 rfl nd_0_1 rfl rfl rfl (by decide) (by decide) (Nat.le_of_ble_eq_true rfl) rfl ?_
      refine z_iload_n C 3 dX6_isAtLine_42 rfl rfl ?_
      refine z_icmp_ne C 50 dX6_isAtLine_43 (by decide) (fun h_4 => ?_) (fun h_4 => ?_)
      · refine z_iconst C (nI 0) dX6_isAtLine_50 (by decide) ?_
        exact z_zret C N dX6_isAtLine_51 rfl (rfl) (congrArg (fun x => some (Value.int x)) (zb_f (by simp [mAt, nI_eq, zz_0, zz_0s, h_1, h_2, h_4])).symm)
      · refine z_iconst C (nI 1) dX6_isAtLine_46 (by decide) ?_
        refine z_goto C 51 dX6_isAtLine_47 (by decide) ?_
        exact z_zret C N dX6_isAtLine_51 rfl (rfl) (congrArg (fun x => some (Value.int x)) (zb_t (by simp [mAt, nI_eq, zz_0, zz_0s, h_1, h_2, h_4])).symm)
  · refine z_iload C dX6_isAtLine_16 rfl ?_
    refine z_iconst C (nI 2) dX6_isAtLine_18 (by decide) ?_
    refine z_idiv C dX6_isAtLine_19 (by decide) ?_
    refine z_iload_n C 2 dX6_isAtLine_20 rfl rfl ?_
    refine z_icmp_ne C 50 dX6_isAtLine_21 (by decide) (fun h_5 => ?_) (fun h_5 => ?_)
    · refine z_iconst C (nI 0) dX6_isAtLine_50 (by decide) ?_
      exact z_zret C N dX6_isAtLine_51 rfl (rfl) (congrArg (fun x => some (Value.int x)) (zb_f (by simp [mAt, nI_eq, zz_0, zz_0s, h_1, h_5])).symm)
    · refine z_aload_n C 0 dX6_isAtLine_24 rfl rfl ?_
      refine z_iload_n C 1 dX6_isAtLine_25 rfl rfl ?_
      refine z_iload_n C 2 dX6_isAtLine_26 rfl rfl ?_
      refine z_if_ne C 36 dX6_isAtLine_27 (by decide) (fun h_6 => ?_) (fun h_6 => ?_)
      · refine z_sipush C (nI 389) dX6_isAtLine_36 (by decide) ?_
        refine z_callVr C kX6_of gX6_isAtLine_X6_of (mX6_of_C X.2.1 a kp ty pl gd od vU vS vN vX vM vT vB vK vY vZ vR vC vV x hx) dX6_isAtLine_39 [0, 1] [] 0 rfl nd_0_1 rfl rfl rfl (by decide) (by decide) (Nat.le_of_ble_eq_true rfl) rfl ?_
        refine z_iload_n C 3 dX6_isAtLine_42 rfl rfl ?_
        refine z_icmp_ne C 50 dX6_isAtLine_43 (by decide) (fun h_7 => ?_) (fun h_7 => ?_)
        · refine z_iconst C (nI 0) dX6_isAtLine_50 (by decide) ?_
          exact z_zret C N dX6_isAtLine_51 rfl (rfl) (congrArg (fun x => some (Value.int x)) (zb_f (by simp [mAt, nI_eq, zz_0, zz_0s, h_1, h_5, h_6, h_7])).symm)
        · refine z_iconst C (nI 1) dX6_isAtLine_46 (by decide) ?_
          refine z_goto C 51 dX6_isAtLine_47 (by decide) ?_
          exact z_zret C N dX6_isAtLine_51 rfl (rfl) (congrArg (fun x => some (Value.int x)) (zb_t (by simp [mAt, nI_eq, zz_0, zz_0s, h_1, h_5, h_6, h_7])).symm)
      · refine z_sipush C (nI 329) dX6_isAtLine_30 (by decide) ?_
        refine z_goto C 39 dX6_isAtLine_33 (by decide) ?_
        refine z_callVr C kX6_of gX6_isAtLine_X6_of (mX6_of_R X.2.1 a kp ty pl gd od vU vS vN vX vM vT vB vK vY vZ vR vC vV x hx) dX6_isAtLine_39 [0, 1] [] 0 rfl nd_0_1 rfl rfl rfl (by decide) (by decide) (Nat.le_of_ble_eq_true rfl) rfl ?_
        refine z_iload_n C 3 dX6_isAtLine_42 rfl rfl ?_
        refine z_icmp_ne C 50 dX6_isAtLine_43 (by decide) (fun h_8 => ?_) (fun h_8 => ?_)
        · refine z_iconst C (nI 0) dX6_isAtLine_50 (by decide) ?_
          exact z_zret C N dX6_isAtLine_51 rfl (rfl) (congrArg (fun x => some (Value.int x)) (zb_f (by simp [mAt, nI_eq, zz_0, zz_0s, h_1, h_5, h_6, h_8])).symm)
        · refine z_iconst C (nI 1) dX6_isAtLine_46 (by decide) ?_
          refine z_goto C 51 dX6_isAtLine_47 (by decide) ?_
          exact z_zret C N dX6_isAtLine_51 rfl (rfl) (congrArg (fun x => some (Value.int x)) (zb_t (by simp [mAt, nI_eq, zz_0, zz_0s, h_1, h_5, h_6, h_8])).symm)

theorem kX6_dissolveAt : zY yX6_dissolveAt wsX6_dissolveAt cX6_dissolveAt 6 none 3 := ⟨⟨_, rfl⟩, ⟨by decide +kernel, by decide +kernel, by decide +kernel⟩, by decide +kernel⟩
theorem fX6_dissolveAt_7 : zF wsX6_dissolveAt RX6 7 6 0 RX6 TX6 10 := ⟨by decide +kernel, rfl, by decide, by decide +kernel, rfl⟩
set_option maxHeartbeats 4000000 in
set_option maxRecDepth 100000 in
theorem mX6_dissolveAt_0t (E : zE) (a : Nat → Nat) (kp ty pl : Nat) (gd : Bool) (od : Nat) (vU vS : Nat → Nat) (vN : Nat → Int32) (vX vM : Nat) (vT : Bool) (vB vK vY vZ vR vC vV : Nat → Int32) (nm : Int32) (hO : okM vU vS vM vK) : zM E yX6_dissolveAt wsX6_dissolveAt 2 [.ref (a 0), .int (nI 0), .int nm, .int (nI 1)] [((a 0), .inr (6, [.ref (a 1), .ref (a 2), .ref (a 3), .int (nI kp), .int (nI ty), .ref (a 4), .int (nI pl), .int (zb gd), .int (nI od), .ref (a 5)])), ((a 1), .inl (E.2.2.1, 512, .inl (mRow vU vS vN vX vM vT vB vK vY vZ vR vC vV)))] [((a 0), .inr (6, [.ref (a 1), .ref (a 2), .ref (a 3), .int (nI kp), .int (nI ty), .ref (a 4), .int (nI pl), .int (zb gd), .int (nI od), .ref (a 5)])), ((a 1), .inl (E.2.2.1, 512, .inl (mRow vU vS vN vX vM vT vB vK vY (mMk vZ (mDp vZ vK vR vC (nI 0) nm true) (nI 3) vM) vR vC vV)))] none := by
  refine zM.of kX6_dissolveAt (Nat.le_of_ble_eq_true rfl) rfl [some (.ref (a 0)), some (.int (nI 0)), some (.int nm), some (.int (nI 1)), none, none] rfl (Nat.le_of_ble_eq_true rfl) ?_
  intro X eX C N
  subst eX
  obtain ⟨hu0, hu1, hM, hk1, hk2, hk3⟩ := id hO
  refine z_iconst C (nI 0) dX6_dissolveAt_0 (by decide) ?_
  refine z_istore C dX6_dissolveAt_1 (Nat.le_of_ble_eq_true rfl) ?_
  have hL3 : ∀ (dd : Nat) (k : Nat) (z' : Nat → Int32), vM - k = dd → (k ≤ vM) → (z' = mMk (vZ) (mDp vZ vK vR vC (nI 0) nm true) (nI 3) k) → zG X 0 0 [((a 0), .inr (6, [.ref (a 1), .ref (a 2), .ref (a 3), .int (nI kp), .int (nI ty), .ref (a 4), .int (nI pl), .int (zb gd), .int (nI od), .ref (a 5)])), ((a 1), .inl (X.2.1.2.2.1, 512, .inl (mRow vU vS vN vX vM vT vB vK vY z' vR vC vV)))] [some (.ref (a 0)), some (.int (nI 0)), some (.int nm), some (.int (nI 1)), some (.int (nI k)), none] [] 3 := by
    intro dd
    induction dd using Nat.strongRecOn with
    | _ dd ih3 =>
    intro k z' hdd hk hz
    refine z_iload C dX6_dissolveAt_3 rfl ?_
    refine z_aload_n C 0 dX6_dissolveAt_5 rfl rfl ?_
    refine z_get C fX6_dissolveAt_7 0 dX6_dissolveAt_6 rfl rfl ?_
    refine z_bipush C (nI 51) dX6_dissolveAt_9 (by decide) ?_
    refine z_ialdN C 1 dX6_dissolveAt_11 rfl (by omega) (by decide) ?_
    refine z_top (y := nI (vM)) (zMr_M) ?_
    refine z_ncmp_ge C 96 dX6_dissolveAt_12 (by decide) (by omega) (by omega) (fun h_1 => ?_) (fun h_1 => ?_)
    · exact z_vret C N dX6_dissolveAt_96 (by rw [hz, show k = vM by omega] <;> rfl)
    · refine z_aload_n C 0 dX6_dissolveAt_15 rfl rfl ?_
      refine z_iload C dX6_dissolveAt_16 rfl ?_
      refine z_callVr C kX6_isPending gX6_dissolveAt_X6_isPending (mX6_isPending X.2.1 a kp ty pl gd od vU vS vN vX vM vT vB vK vY z' vR vC vV k (by first | assumption | omega)) dX6_dissolveAt_18 [0, 1] [] 0 rfl nd_0_1 rfl rfl rfl (by decide) (by decide) (Nat.le_of_ble_eq_true rfl) rfl ?_
      refine z_top (y := zb (decide (z' k = 0))) rfl ?_
      refine z_bif_eq C 56 dX6_dissolveAt_21 (by decide) (fun h_2 => ?_) (fun h_2 => ?_)
      · refine z_iconst C (nI 0) dX6_dissolveAt_56 (by decide) ?_
        refine z_istore C dX6_dissolveAt_57 (Nat.le_of_ble_eq_true rfl) ?_
        refine z_aload_n C 0 dX6_dissolveAt_59 rfl rfl ?_
        refine z_get C fX6_dissolveAt_7 0 dX6_dissolveAt_60 rfl rfl ?_
        refine z_sipush C (nI 269) dX6_dissolveAt_63 (by decide) ?_
        refine z_iload C dX6_dissolveAt_66 rfl ?_
        refine z_iadd C dX6_dissolveAt_68 ?_
        refine z_top (y := nI (269 + k)) (nI_add _ _) ?_
        refine z_iload C dX6_dissolveAt_69 rfl ?_
        refine z_nif_eq_t C 78 dX6_dissolveAt_71 (by decide) (by omega) (by omega) ?_
        refine z_aload_n C 0 dX6_dissolveAt_78 rfl rfl ?_
        refine z_get C fX6_dissolveAt_7 0 dX6_dissolveAt_79 rfl rfl ?_
        refine z_sipush C (nI 269) dX6_dissolveAt_82 (by decide) ?_
        refine z_iload C dX6_dissolveAt_85 rfl ?_
        refine z_iadd C dX6_dissolveAt_87 ?_
        refine z_top (y := nI (269 + k)) (nI_add _ _) ?_
        refine z_ialdN C 1 dX6_dissolveAt_88 rfl (by omega) (by decide) ?_
        refine z_top (y := z' k) ((congrArg (mRow vU vS vN vX vM vT vB vK vY z' vR vC vV) (show 269 + k = 269 + (k) by omega)).trans (zMr_Z (by omega))) ?_
        refine z_iastR C 1 dX6_dissolveAt_89 rfl (by omega) (by decide) (f' := mRow vU vS vN vX vM vT vB vK vY (upd z' k (z' k)) vR vC vV) ((congrArg (fun i9 => upd (mRow vU vS vN vX vM vT vB vK vY z' vR vC vV) i9 (z' k)) (show 269 + k = 269 + (k) by omega)).trans (zMw_Z (by omega))) ?_
        refine z_iinc C (nI (k + 1)) dX6_dissolveAt_90 rfl (zi_1 _) ?_
        refine z_goto C 3 dX6_dissolveAt_93 (by decide) ?_
        refine z_kill 5 ?_
        exact ih3 (vM - (k + 1)) (by omega) (k + 1) (upd z' k (z' k)) rfl (by omega) (by subst hz; (try simp only [mMk_ge (Nat.le_refl _)] at h_1 h_2); first | exact (mMk_y (by simp [mDp, h_1, of_decide_eq_false h_2, h_2])).symm | exact ((upd_id _ _).trans (mMk_n (by simp [mDp, h_1, of_decide_eq_false h_2, h_2])).symm))
      · refine z_aload_n C 0 dX6_dissolveAt_24 rfl rfl ?_
        refine z_iload C dX6_dissolveAt_25 rfl ?_
        refine z_iload_n C 1 dX6_dissolveAt_27 rfl rfl ?_
        refine z_iload_n C 2 dX6_dissolveAt_28 rfl rfl ?_
        refine z_callVr C kX6_isAtLine gX6_dissolveAt_X6_isAtLine (mX6_isAtLine X.2.1 a kp ty pl gd od vU vS vN vX vM vT vB vK vY z' vR vC vV k (nI 0) nm (by first | assumption | omega)) dX6_dissolveAt_29 [0, 1] [] 0 rfl nd_0_1 rfl rfl rfl (by decide) (by decide) (Nat.le_of_ble_eq_true rfl) rfl ?_
        refine z_top (y := zb (mAt vK vR vC k (nI 0) nm)) rfl ?_
        refine z_bif_eq C 56 dX6_dissolveAt_32 (by decide) (fun h_3 => ?_) (fun h_3 => ?_)
        · refine z_iconst C (nI 0) dX6_dissolveAt_56 (by decide) ?_
          refine z_istore C dX6_dissolveAt_57 (Nat.le_of_ble_eq_true rfl) ?_
          refine z_aload_n C 0 dX6_dissolveAt_59 rfl rfl ?_
          refine z_get C fX6_dissolveAt_7 0 dX6_dissolveAt_60 rfl rfl ?_
          refine z_sipush C (nI 269) dX6_dissolveAt_63 (by decide) ?_
          refine z_iload C dX6_dissolveAt_66 rfl ?_
          refine z_iadd C dX6_dissolveAt_68 ?_
          refine z_top (y := nI (269 + k)) (nI_add _ _) ?_
          refine z_iload C dX6_dissolveAt_69 rfl ?_
          refine z_nif_eq_t C 78 dX6_dissolveAt_71 (by decide) (by omega) (by omega) ?_
          refine z_aload_n C 0 dX6_dissolveAt_78 rfl rfl ?_
          refine z_get C fX6_dissolveAt_7 0 dX6_dissolveAt_79 rfl rfl ?_
          refine z_sipush C (nI 269) dX6_dissolveAt_82 (by decide) ?_
          refine z_iload C dX6_dissolveAt_85 rfl ?_
          refine z_iadd C dX6_dissolveAt_87 ?_
          refine z_top (y := nI (269 + k)) (nI_add _ _) ?_
          refine z_ialdN C 1 dX6_dissolveAt_88 rfl (by omega) (by decide) ?_
          refine z_top (y := z' k) ((congrArg (mRow vU vS vN vX vM vT vB vK vY z' vR vC vV) (show 269 + k = 269 + (k) by omega)).trans (zMr_Z (by omega))) ?_
          refine z_iastR C 1 dX6_dissolveAt_89 rfl (by omega) (by decide) (f' := mRow vU vS vN vX vM vT vB vK vY (upd z' k (z' k)) vR vC vV) ((congrArg (fun i9 => upd (mRow vU vS vN vX vM vT vB vK vY z' vR vC vV) i9 (z' k)) (show 269 + k = 269 + (k) by omega)).trans (zMw_Z (by omega))) ?_
          refine z_iinc C (nI (k + 1)) dX6_dissolveAt_90 rfl (zi_1 _) ?_
          refine z_goto C 3 dX6_dissolveAt_93 (by decide) ?_
          refine z_kill 5 ?_
          exact ih3 (vM - (k + 1)) (by omega) (k + 1) (upd z' k (z' k)) rfl (by omega) (by subst hz; (try simp only [mMk_ge (Nat.le_refl _)] at h_1 h_2 h_3); first | exact (mMk_y (by simp [mDp, h_1, of_decide_eq_true h_2, h_2, h_3])).symm | exact ((upd_id _ _).trans (mMk_n (by simp [mDp, h_1, of_decide_eq_true h_2, h_2, h_3])).symm))
        · refine z_iload_n C 3 dX6_dissolveAt_35 rfl rfl ?_
          refine z_nif_eq_f C 52 dX6_dissolveAt_36 (by decide) (by omega) (by omega) ?_
          refine z_aload_n C 0 dX6_dissolveAt_39 rfl rfl ?_
          refine z_iload C dX6_dissolveAt_40 rfl ?_
          refine z_sipush C (nI 149) dX6_dissolveAt_42 (by decide) ?_
          refine z_callVr C kX6_of gX6_dissolveAt_X6_of (mX6_of_K X.2.1 a kp ty pl gd od vU vS vN vX vM vT vB vK vY z' vR vC vV k (by first | assumption | omega)) dX6_dissolveAt_45 [0, 1] [] 0 rfl nd_0_1 rfl rfl rfl (by decide) (by decide) (Nat.le_of_ble_eq_true rfl) rfl ?_
          refine z_top (y := vK k) rfl ?_
          refine z_iconst C (nI 4) dX6_dissolveAt_48 (by decide) ?_
          refine z_icmp_ne C 56 dX6_dissolveAt_49 (by decide) (fun h_4 => ?_) (fun h_4 => ?_)
          · refine z_iconst C (nI 0) dX6_dissolveAt_56 (by decide) ?_
            refine z_istore C dX6_dissolveAt_57 (Nat.le_of_ble_eq_true rfl) ?_
            refine z_aload_n C 0 dX6_dissolveAt_59 rfl rfl ?_
            refine z_get C fX6_dissolveAt_7 0 dX6_dissolveAt_60 rfl rfl ?_
            refine z_sipush C (nI 269) dX6_dissolveAt_63 (by decide) ?_
            refine z_iload C dX6_dissolveAt_66 rfl ?_
            refine z_iadd C dX6_dissolveAt_68 ?_
            refine z_top (y := nI (269 + k)) (nI_add _ _) ?_
            refine z_iload C dX6_dissolveAt_69 rfl ?_
            refine z_nif_eq_t C 78 dX6_dissolveAt_71 (by decide) (by omega) (by omega) ?_
            refine z_aload_n C 0 dX6_dissolveAt_78 rfl rfl ?_
            refine z_get C fX6_dissolveAt_7 0 dX6_dissolveAt_79 rfl rfl ?_
            refine z_sipush C (nI 269) dX6_dissolveAt_82 (by decide) ?_
            refine z_iload C dX6_dissolveAt_85 rfl ?_
            refine z_iadd C dX6_dissolveAt_87 ?_
            refine z_top (y := nI (269 + k)) (nI_add _ _) ?_
            refine z_ialdN C 1 dX6_dissolveAt_88 rfl (by omega) (by decide) ?_
            refine z_top (y := z' k) ((congrArg (mRow vU vS vN vX vM vT vB vK vY z' vR vC vV) (show 269 + k = 269 + (k) by omega)).trans (zMr_Z (by omega))) ?_
            refine z_iastR C 1 dX6_dissolveAt_89 rfl (by omega) (by decide) (f' := mRow vU vS vN vX vM vT vB vK vY (upd z' k (z' k)) vR vC vV) ((congrArg (fun i9 => upd (mRow vU vS vN vX vM vT vB vK vY z' vR vC vV) i9 (z' k)) (show 269 + k = 269 + (k) by omega)).trans (zMw_Z (by omega))) ?_
            refine z_iinc C (nI (k + 1)) dX6_dissolveAt_90 rfl (zi_1 _) ?_
            refine z_goto C 3 dX6_dissolveAt_93 (by decide) ?_
            refine z_kill 5 ?_
            exact ih3 (vM - (k + 1)) (by omega) (k + 1) (upd z' k (z' k)) rfl (by omega) (by subst hz; (try simp only [mMk_ge (Nat.le_refl _)] at h_1 h_2 h_3 h_4); first | exact (mMk_y (by simp [mDp, h_1, of_decide_eq_true h_2, h_2, h_3, h_4])).symm | exact ((upd_id _ _).trans (mMk_n (by simp [mDp, h_1, of_decide_eq_true h_2, h_2, h_3, h_4])).symm))
          · refine z_iconst C (nI 1) dX6_dissolveAt_52 (by decide) ?_
            refine z_goto C 57 dX6_dissolveAt_53 (by decide) ?_
            refine z_istore C dX6_dissolveAt_57 (Nat.le_of_ble_eq_true rfl) ?_
            refine z_aload_n C 0 dX6_dissolveAt_59 rfl rfl ?_
            refine z_get C fX6_dissolveAt_7 0 dX6_dissolveAt_60 rfl rfl ?_
            refine z_sipush C (nI 269) dX6_dissolveAt_63 (by decide) ?_
            refine z_iload C dX6_dissolveAt_66 rfl ?_
            refine z_iadd C dX6_dissolveAt_68 ?_
            refine z_top (y := nI (269 + k)) (nI_add _ _) ?_
            refine z_iload C dX6_dissolveAt_69 rfl ?_
            refine z_nif_eq_f C 78 dX6_dissolveAt_71 (by decide) (by omega) (by omega) ?_
            refine z_iconst C (nI 3) dX6_dissolveAt_74 (by decide) ?_
            refine z_goto C 89 dX6_dissolveAt_75 (by decide) ?_
            refine z_iastR C 1 dX6_dissolveAt_89 rfl (by omega) (by decide) (f' := mRow vU vS vN vX vM vT vB vK vY (upd z' k (nI 3)) vR vC vV) ((congrArg (fun i9 => upd (mRow vU vS vN vX vM vT vB vK vY z' vR vC vV) i9 (nI 3)) (show 269 + k = 269 + (k) by omega)).trans (zMw_Z (by omega))) ?_
            refine z_iinc C (nI (k + 1)) dX6_dissolveAt_90 rfl (zi_1 _) ?_
            refine z_goto C 3 dX6_dissolveAt_93 (by decide) ?_
            refine z_kill 5 ?_
            exact ih3 (vM - (k + 1)) (by omega) (k + 1) (upd z' k (nI 3)) rfl (by omega) (by subst hz; (try simp only [mMk_ge (Nat.le_refl _)] at h_1 h_2 h_3 h_4); first | exact (mMk_y (by simp [mDp, h_1, of_decide_eq_true h_2, h_2, h_3, h_4])).symm | exact ((upd_id _ _).trans (mMk_n (by simp [mDp, h_1, of_decide_eq_true h_2, h_2, h_3, h_4])).symm))
  exact hL3 _ 0 (vZ) rfl (by omega) ((mMk_0 _ _ _).symm)

set_option maxHeartbeats 4000000 in
set_option maxRecDepth 100000 in
theorem mX6_dissolveAt_1t (E : zE) (a : Nat → Nat) (kp ty pl : Nat) (gd : Bool) (od : Nat) (vU vS : Nat → Nat) (vN : Nat → Int32) (vX vM : Nat) (vT : Bool) (vB vK vY vZ vR vC vV : Nat → Int32) (nm : Int32) (hO : okM vU vS vM vK) : zM E yX6_dissolveAt wsX6_dissolveAt 2 [.ref (a 0), .int (nI 1), .int nm, .int (nI 1)] [((a 0), .inr (6, [.ref (a 1), .ref (a 2), .ref (a 3), .int (nI kp), .int (nI ty), .ref (a 4), .int (nI pl), .int (zb gd), .int (nI od), .ref (a 5)])), ((a 1), .inl (E.2.2.1, 512, .inl (mRow vU vS vN vX vM vT vB vK vY vZ vR vC vV)))] [((a 0), .inr (6, [.ref (a 1), .ref (a 2), .ref (a 3), .int (nI kp), .int (nI ty), .ref (a 4), .int (nI pl), .int (zb gd), .int (nI od), .ref (a 5)])), ((a 1), .inl (E.2.2.1, 512, .inl (mRow vU vS vN vX vM vT vB vK vY (mMk vZ (mDp vZ vK vR vC (nI 1) nm true) (nI 3) vM) vR vC vV)))] none := by
  refine zM.of kX6_dissolveAt (Nat.le_of_ble_eq_true rfl) rfl [some (.ref (a 0)), some (.int (nI 1)), some (.int nm), some (.int (nI 1)), none, none] rfl (Nat.le_of_ble_eq_true rfl) ?_
  intro X eX C N
  subst eX
  obtain ⟨hu0, hu1, hM, hk1, hk2, hk3⟩ := id hO
  refine z_iconst C (nI 0) dX6_dissolveAt_0 (by decide) ?_
  refine z_istore C dX6_dissolveAt_1 (Nat.le_of_ble_eq_true rfl) ?_
  have hL3 : ∀ (dd : Nat) (k : Nat) (z' : Nat → Int32), vM - k = dd → (k ≤ vM) → (z' = mMk (vZ) (mDp vZ vK vR vC (nI 1) nm true) (nI 3) k) → zG X 0 0 [((a 0), .inr (6, [.ref (a 1), .ref (a 2), .ref (a 3), .int (nI kp), .int (nI ty), .ref (a 4), .int (nI pl), .int (zb gd), .int (nI od), .ref (a 5)])), ((a 1), .inl (X.2.1.2.2.1, 512, .inl (mRow vU vS vN vX vM vT vB vK vY z' vR vC vV)))] [some (.ref (a 0)), some (.int (nI 1)), some (.int nm), some (.int (nI 1)), some (.int (nI k)), none] [] 3 := by
    intro dd
    induction dd using Nat.strongRecOn with
    | _ dd ih3 =>
    intro k z' hdd hk hz
    refine z_iload C dX6_dissolveAt_3 rfl ?_
    refine z_aload_n C 0 dX6_dissolveAt_5 rfl rfl ?_
    refine z_get C fX6_dissolveAt_7 0 dX6_dissolveAt_6 rfl rfl ?_
    refine z_bipush C (nI 51) dX6_dissolveAt_9 (by decide) ?_
    refine z_ialdN C 1 dX6_dissolveAt_11 rfl (by omega) (by decide) ?_
    refine z_top (y := nI (vM)) (zMr_M) ?_
    refine z_ncmp_ge C 96 dX6_dissolveAt_12 (by decide) (by omega) (by omega) (fun h_1 => ?_) (fun h_1 => ?_)
    · exact z_vret C N dX6_dissolveAt_96 (by rw [hz, show k = vM by omega] <;> rfl)
    · refine z_aload_n C 0 dX6_dissolveAt_15 rfl rfl ?_
      refine z_iload C dX6_dissolveAt_16 rfl ?_
      refine z_callVr C kX6_isPending gX6_dissolveAt_X6_isPending (mX6_isPending X.2.1 a kp ty pl gd od vU vS vN vX vM vT vB vK vY z' vR vC vV k (by first | assumption | omega)) dX6_dissolveAt_18 [0, 1] [] 0 rfl nd_0_1 rfl rfl rfl (by decide) (by decide) (Nat.le_of_ble_eq_true rfl) rfl ?_
      refine z_top (y := zb (decide (z' k = 0))) rfl ?_
      refine z_bif_eq C 56 dX6_dissolveAt_21 (by decide) (fun h_2 => ?_) (fun h_2 => ?_)
      · refine z_iconst C (nI 0) dX6_dissolveAt_56 (by decide) ?_
        refine z_istore C dX6_dissolveAt_57 (Nat.le_of_ble_eq_true rfl) ?_
        refine z_aload_n C 0 dX6_dissolveAt_59 rfl rfl ?_
        refine z_get C fX6_dissolveAt_7 0 dX6_dissolveAt_60 rfl rfl ?_
        refine z_sipush C (nI 269) dX6_dissolveAt_63 (by decide) ?_
        refine z_iload C dX6_dissolveAt_66 rfl ?_
        refine z_iadd C dX6_dissolveAt_68 ?_
        refine z_top (y := nI (269 + k)) (nI_add _ _) ?_
        refine z_iload C dX6_dissolveAt_69 rfl ?_
        refine z_nif_eq_t C 78 dX6_dissolveAt_71 (by decide) (by omega) (by omega) ?_
        refine z_aload_n C 0 dX6_dissolveAt_78 rfl rfl ?_
        refine z_get C fX6_dissolveAt_7 0 dX6_dissolveAt_79 rfl rfl ?_
        refine z_sipush C (nI 269) dX6_dissolveAt_82 (by decide) ?_
        refine z_iload C dX6_dissolveAt_85 rfl ?_
        refine z_iadd C dX6_dissolveAt_87 ?_
        refine z_top (y := nI (269 + k)) (nI_add _ _) ?_
        refine z_ialdN C 1 dX6_dissolveAt_88 rfl (by omega) (by decide) ?_
        refine z_top (y := z' k) ((congrArg (mRow vU vS vN vX vM vT vB vK vY z' vR vC vV) (show 269 + k = 269 + (k) by omega)).trans (zMr_Z (by omega))) ?_
        refine z_iastR C 1 dX6_dissolveAt_89 rfl (by omega) (by decide) (f' := mRow vU vS vN vX vM vT vB vK vY (upd z' k (z' k)) vR vC vV) ((congrArg (fun i9 => upd (mRow vU vS vN vX vM vT vB vK vY z' vR vC vV) i9 (z' k)) (show 269 + k = 269 + (k) by omega)).trans (zMw_Z (by omega))) ?_
        refine z_iinc C (nI (k + 1)) dX6_dissolveAt_90 rfl (zi_1 _) ?_
        refine z_goto C 3 dX6_dissolveAt_93 (by decide) ?_
        refine z_kill 5 ?_
        exact ih3 (vM - (k + 1)) (by omega) (k + 1) (upd z' k (z' k)) rfl (by omega) (by subst hz; (try simp only [mMk_ge (Nat.le_refl _)] at h_1 h_2); first | exact (mMk_y (by simp [mDp, h_1, of_decide_eq_false h_2, h_2])).symm | exact ((upd_id _ _).trans (mMk_n (by simp [mDp, h_1, of_decide_eq_false h_2, h_2])).symm))
      · refine z_aload_n C 0 dX6_dissolveAt_24 rfl rfl ?_
        refine z_iload C dX6_dissolveAt_25 rfl ?_
        refine z_iload_n C 1 dX6_dissolveAt_27 rfl rfl ?_
        refine z_iload_n C 2 dX6_dissolveAt_28 rfl rfl ?_
        refine z_callVr C kX6_isAtLine gX6_dissolveAt_X6_isAtLine (mX6_isAtLine X.2.1 a kp ty pl gd od vU vS vN vX vM vT vB vK vY z' vR vC vV k (nI 1) nm (by first | assumption | omega)) dX6_dissolveAt_29 [0, 1] [] 0 rfl nd_0_1 rfl rfl rfl (by decide) (by decide) (Nat.le_of_ble_eq_true rfl) rfl ?_
        refine z_top (y := zb (mAt vK vR vC k (nI 1) nm)) rfl ?_
        refine z_bif_eq C 56 dX6_dissolveAt_32 (by decide) (fun h_3 => ?_) (fun h_3 => ?_)
        · refine z_iconst C (nI 0) dX6_dissolveAt_56 (by decide) ?_
          refine z_istore C dX6_dissolveAt_57 (Nat.le_of_ble_eq_true rfl) ?_
          refine z_aload_n C 0 dX6_dissolveAt_59 rfl rfl ?_
          refine z_get C fX6_dissolveAt_7 0 dX6_dissolveAt_60 rfl rfl ?_
          refine z_sipush C (nI 269) dX6_dissolveAt_63 (by decide) ?_
          refine z_iload C dX6_dissolveAt_66 rfl ?_
          refine z_iadd C dX6_dissolveAt_68 ?_
          refine z_top (y := nI (269 + k)) (nI_add _ _) ?_
          refine z_iload C dX6_dissolveAt_69 rfl ?_
          refine z_nif_eq_t C 78 dX6_dissolveAt_71 (by decide) (by omega) (by omega) ?_
          refine z_aload_n C 0 dX6_dissolveAt_78 rfl rfl ?_
          refine z_get C fX6_dissolveAt_7 0 dX6_dissolveAt_79 rfl rfl ?_
          refine z_sipush C (nI 269) dX6_dissolveAt_82 (by decide) ?_
          refine z_iload C dX6_dissolveAt_85 rfl ?_
          refine z_iadd C dX6_dissolveAt_87 ?_
          refine z_top (y := nI (269 + k)) (nI_add _ _) ?_
          refine z_ialdN C 1 dX6_dissolveAt_88 rfl (by omega) (by decide) ?_
          refine z_top (y := z' k) ((congrArg (mRow vU vS vN vX vM vT vB vK vY z' vR vC vV) (show 269 + k = 269 + (k) by omega)).trans (zMr_Z (by omega))) ?_
          refine z_iastR C 1 dX6_dissolveAt_89 rfl (by omega) (by decide) (f' := mRow vU vS vN vX vM vT vB vK vY (upd z' k (z' k)) vR vC vV) ((congrArg (fun i9 => upd (mRow vU vS vN vX vM vT vB vK vY z' vR vC vV) i9 (z' k)) (show 269 + k = 269 + (k) by omega)).trans (zMw_Z (by omega))) ?_
          refine z_iinc C (nI (k + 1)) dX6_dissolveAt_90 rfl (zi_1 _) ?_
          refine z_goto C 3 dX6_dissolveAt_93 (by decide) ?_
          refine z_kill 5 ?_
          exact ih3 (vM - (k + 1)) (by omega) (k + 1) (upd z' k (z' k)) rfl (by omega) (by subst hz; (try simp only [mMk_ge (Nat.le_refl _)] at h_1 h_2 h_3); first | exact (mMk_y (by simp [mDp, h_1, of_decide_eq_true h_2, h_2, h_3])).symm | exact ((upd_id _ _).trans (mMk_n (by simp [mDp, h_1, of_decide_eq_true h_2, h_2, h_3])).symm))
        · refine z_iload_n C 3 dX6_dissolveAt_35 rfl rfl ?_
          refine z_nif_eq_f C 52 dX6_dissolveAt_36 (by decide) (by omega) (by omega) ?_
          refine z_aload_n C 0 dX6_dissolveAt_39 rfl rfl ?_
          refine z_iload C dX6_dissolveAt_40 rfl ?_
          refine z_sipush C (nI 149) dX6_dissolveAt_42 (by decide) ?_
          refine z_callVr C kX6_of gX6_dissolveAt_X6_of (mX6_of_K X.2.1 a kp ty pl gd od vU vS vN vX vM vT vB vK vY z' vR vC vV k (by first | assumption | omega)) dX6_dissolveAt_45 [0, 1] [] 0 rfl nd_0_1 rfl rfl rfl (by decide) (by decide) (Nat.le_of_ble_eq_true rfl) rfl ?_
          refine z_top (y := vK k) rfl ?_
          refine z_iconst C (nI 4) dX6_dissolveAt_48 (by decide) ?_
          refine z_icmp_ne C 56 dX6_dissolveAt_49 (by decide) (fun h_4 => ?_) (fun h_4 => ?_)
          · refine z_iconst C (nI 0) dX6_dissolveAt_56 (by decide) ?_
            refine z_istore C dX6_dissolveAt_57 (Nat.le_of_ble_eq_true rfl) ?_
            refine z_aload_n C 0 dX6_dissolveAt_59 rfl rfl ?_
            refine z_get C fX6_dissolveAt_7 0 dX6_dissolveAt_60 rfl rfl ?_
            refine z_sipush C (nI 269) dX6_dissolveAt_63 (by decide) ?_
            refine z_iload C dX6_dissolveAt_66 rfl ?_
            refine z_iadd C dX6_dissolveAt_68 ?_
            refine z_top (y := nI (269 + k)) (nI_add _ _) ?_
            refine z_iload C dX6_dissolveAt_69 rfl ?_
            refine z_nif_eq_t C 78 dX6_dissolveAt_71 (by decide) (by omega) (by omega) ?_
            refine z_aload_n C 0 dX6_dissolveAt_78 rfl rfl ?_
            refine z_get C fX6_dissolveAt_7 0 dX6_dissolveAt_79 rfl rfl ?_
            refine z_sipush C (nI 269) dX6_dissolveAt_82 (by decide) ?_
            refine z_iload C dX6_dissolveAt_85 rfl ?_
            refine z_iadd C dX6_dissolveAt_87 ?_
            refine z_top (y := nI (269 + k)) (nI_add _ _) ?_
            refine z_ialdN C 1 dX6_dissolveAt_88 rfl (by omega) (by decide) ?_
            refine z_top (y := z' k) ((congrArg (mRow vU vS vN vX vM vT vB vK vY z' vR vC vV) (show 269 + k = 269 + (k) by omega)).trans (zMr_Z (by omega))) ?_
            refine z_iastR C 1 dX6_dissolveAt_89 rfl (by omega) (by decide) (f' := mRow vU vS vN vX vM vT vB vK vY (upd z' k (z' k)) vR vC vV) ((congrArg (fun i9 => upd (mRow vU vS vN vX vM vT vB vK vY z' vR vC vV) i9 (z' k)) (show 269 + k = 269 + (k) by omega)).trans (zMw_Z (by omega))) ?_
            refine z_iinc C (nI (k + 1)) dX6_dissolveAt_90 rfl (zi_1 _) ?_
            refine z_goto C 3 dX6_dissolveAt_93 (by decide) ?_
            refine z_kill 5 ?_
            exact ih3 (vM - (k + 1)) (by omega) (k + 1) (upd z' k (z' k)) rfl (by omega) (by subst hz; (try simp only [mMk_ge (Nat.le_refl _)] at h_1 h_2 h_3 h_4); first | exact (mMk_y (by simp [mDp, h_1, of_decide_eq_true h_2, h_2, h_3, h_4])).symm | exact ((upd_id _ _).trans (mMk_n (by simp [mDp, h_1, of_decide_eq_true h_2, h_2, h_3, h_4])).symm))
          · refine z_iconst C (nI 1) dX6_dissolveAt_52 (by decide) ?_
            refine z_goto C 57 dX6_dissolveAt_53 (by decide) ?_
            refine z_istore C dX6_dissolveAt_57 (Nat.le_of_ble_eq_true rfl) ?_
            refine z_aload_n C 0 dX6_dissolveAt_59 rfl rfl ?_
            refine z_get C fX6_dissolveAt_7 0 dX6_dissolveAt_60 rfl rfl ?_
            refine z_sipush C (nI 269) dX6_dissolveAt_63 (by decide) ?_
            refine z_iload C dX6_dissolveAt_66 rfl ?_
            refine z_iadd C dX6_dissolveAt_68 ?_
            refine z_top (y := nI (269 + k)) (nI_add _ _) ?_
            refine z_iload C dX6_dissolveAt_69 rfl ?_
            refine z_nif_eq_f C 78 dX6_dissolveAt_71 (by decide) (by omega) (by omega) ?_
            refine z_iconst C (nI 3) dX6_dissolveAt_74 (by decide) ?_
            refine z_goto C 89 dX6_dissolveAt_75 (by decide) ?_
            refine z_iastR C 1 dX6_dissolveAt_89 rfl (by omega) (by decide) (f' := mRow vU vS vN vX vM vT vB vK vY (upd z' k (nI 3)) vR vC vV) ((congrArg (fun i9 => upd (mRow vU vS vN vX vM vT vB vK vY z' vR vC vV) i9 (nI 3)) (show 269 + k = 269 + (k) by omega)).trans (zMw_Z (by omega))) ?_
            refine z_iinc C (nI (k + 1)) dX6_dissolveAt_90 rfl (zi_1 _) ?_
            refine z_goto C 3 dX6_dissolveAt_93 (by decide) ?_
            refine z_kill 5 ?_
            exact ih3 (vM - (k + 1)) (by omega) (k + 1) (upd z' k (nI 3)) rfl (by omega) (by subst hz; (try simp only [mMk_ge (Nat.le_refl _)] at h_1 h_2 h_3 h_4); first | exact (mMk_y (by simp [mDp, h_1, of_decide_eq_true h_2, h_2, h_3, h_4])).symm | exact ((upd_id _ _).trans (mMk_n (by simp [mDp, h_1, of_decide_eq_true h_2, h_2, h_3, h_4])).symm))
  exact hL3 _ 0 (vZ) rfl (by omega) ((mMk_0 _ _ _).symm)

set_option maxHeartbeats 4000000 in
set_option maxRecDepth 100000 in
theorem mX6_dissolveAt_0f (E : zE) (a : Nat → Nat) (kp ty pl : Nat) (gd : Bool) (od : Nat) (vU vS : Nat → Nat) (vN : Nat → Int32) (vX vM : Nat) (vT : Bool) (vB vK vY vZ vR vC vV : Nat → Int32) (nm : Int32) (hO : okM vU vS vM vK) : zM E yX6_dissolveAt wsX6_dissolveAt 2 [.ref (a 0), .int (nI 0), .int nm, .int (nI 0)] [((a 0), .inr (6, [.ref (a 1), .ref (a 2), .ref (a 3), .int (nI kp), .int (nI ty), .ref (a 4), .int (nI pl), .int (zb gd), .int (nI od), .ref (a 5)])), ((a 1), .inl (E.2.2.1, 512, .inl (mRow vU vS vN vX vM vT vB vK vY vZ vR vC vV)))] [((a 0), .inr (6, [.ref (a 1), .ref (a 2), .ref (a 3), .int (nI kp), .int (nI ty), .ref (a 4), .int (nI pl), .int (zb gd), .int (nI od), .ref (a 5)])), ((a 1), .inl (E.2.2.1, 512, .inl (mRow vU vS vN vX vM vT vB vK vY (mMk vZ (mDp vZ vK vR vC (nI 0) nm false) (nI 3) vM) vR vC vV)))] none := by
  refine zM.of kX6_dissolveAt (Nat.le_of_ble_eq_true rfl) rfl [some (.ref (a 0)), some (.int (nI 0)), some (.int nm), some (.int (nI 0)), none, none] rfl (Nat.le_of_ble_eq_true rfl) ?_
  intro X eX C N
  subst eX
  obtain ⟨hu0, hu1, hM, hk1, hk2, hk3⟩ := id hO
  refine z_iconst C (nI 0) dX6_dissolveAt_0 (by decide) ?_
  refine z_istore C dX6_dissolveAt_1 (Nat.le_of_ble_eq_true rfl) ?_
  have hL3 : ∀ (dd : Nat) (k : Nat) (z' : Nat → Int32), vM - k = dd → (k ≤ vM) → (z' = mMk (vZ) (mDp vZ vK vR vC (nI 0) nm false) (nI 3) k) → zG X 0 0 [((a 0), .inr (6, [.ref (a 1), .ref (a 2), .ref (a 3), .int (nI kp), .int (nI ty), .ref (a 4), .int (nI pl), .int (zb gd), .int (nI od), .ref (a 5)])), ((a 1), .inl (X.2.1.2.2.1, 512, .inl (mRow vU vS vN vX vM vT vB vK vY z' vR vC vV)))] [some (.ref (a 0)), some (.int (nI 0)), some (.int nm), some (.int (nI 0)), some (.int (nI k)), none] [] 3 := by
    intro dd
    induction dd using Nat.strongRecOn with
    | _ dd ih3 =>
    intro k z' hdd hk hz
    refine z_iload C dX6_dissolveAt_3 rfl ?_
    refine z_aload_n C 0 dX6_dissolveAt_5 rfl rfl ?_
    refine z_get C fX6_dissolveAt_7 0 dX6_dissolveAt_6 rfl rfl ?_
    refine z_bipush C (nI 51) dX6_dissolveAt_9 (by decide) ?_
    refine z_ialdN C 1 dX6_dissolveAt_11 rfl (by omega) (by decide) ?_
    refine z_top (y := nI (vM)) (zMr_M) ?_
    refine z_ncmp_ge C 96 dX6_dissolveAt_12 (by decide) (by omega) (by omega) (fun h_1 => ?_) (fun h_1 => ?_)
    · exact z_vret C N dX6_dissolveAt_96 (by rw [hz, show k = vM by omega] <;> rfl)
    · refine z_aload_n C 0 dX6_dissolveAt_15 rfl rfl ?_
      refine z_iload C dX6_dissolveAt_16 rfl ?_
      refine z_callVr C kX6_isPending gX6_dissolveAt_X6_isPending (mX6_isPending X.2.1 a kp ty pl gd od vU vS vN vX vM vT vB vK vY z' vR vC vV k (by first | assumption | omega)) dX6_dissolveAt_18 [0, 1] [] 0 rfl nd_0_1 rfl rfl rfl (by decide) (by decide) (Nat.le_of_ble_eq_true rfl) rfl ?_
      refine z_top (y := zb (decide (z' k = 0))) rfl ?_
      refine z_bif_eq C 56 dX6_dissolveAt_21 (by decide) (fun h_2 => ?_) (fun h_2 => ?_)
      · refine z_iconst C (nI 0) dX6_dissolveAt_56 (by decide) ?_
        refine z_istore C dX6_dissolveAt_57 (Nat.le_of_ble_eq_true rfl) ?_
        refine z_aload_n C 0 dX6_dissolveAt_59 rfl rfl ?_
        refine z_get C fX6_dissolveAt_7 0 dX6_dissolveAt_60 rfl rfl ?_
        refine z_sipush C (nI 269) dX6_dissolveAt_63 (by decide) ?_
        refine z_iload C dX6_dissolveAt_66 rfl ?_
        refine z_iadd C dX6_dissolveAt_68 ?_
        refine z_top (y := nI (269 + k)) (nI_add _ _) ?_
        refine z_iload C dX6_dissolveAt_69 rfl ?_
        refine z_nif_eq_t C 78 dX6_dissolveAt_71 (by decide) (by omega) (by omega) ?_
        refine z_aload_n C 0 dX6_dissolveAt_78 rfl rfl ?_
        refine z_get C fX6_dissolveAt_7 0 dX6_dissolveAt_79 rfl rfl ?_
        refine z_sipush C (nI 269) dX6_dissolveAt_82 (by decide) ?_
        refine z_iload C dX6_dissolveAt_85 rfl ?_
        refine z_iadd C dX6_dissolveAt_87 ?_
        refine z_top (y := nI (269 + k)) (nI_add _ _) ?_
        refine z_ialdN C 1 dX6_dissolveAt_88 rfl (by omega) (by decide) ?_
        refine z_top (y := z' k) ((congrArg (mRow vU vS vN vX vM vT vB vK vY z' vR vC vV) (show 269 + k = 269 + (k) by omega)).trans (zMr_Z (by omega))) ?_
        refine z_iastR C 1 dX6_dissolveAt_89 rfl (by omega) (by decide) (f' := mRow vU vS vN vX vM vT vB vK vY (upd z' k (z' k)) vR vC vV) ((congrArg (fun i9 => upd (mRow vU vS vN vX vM vT vB vK vY z' vR vC vV) i9 (z' k)) (show 269 + k = 269 + (k) by omega)).trans (zMw_Z (by omega))) ?_
        refine z_iinc C (nI (k + 1)) dX6_dissolveAt_90 rfl (zi_1 _) ?_
        refine z_goto C 3 dX6_dissolveAt_93 (by decide) ?_
        refine z_kill 5 ?_
        exact ih3 (vM - (k + 1)) (by omega) (k + 1) (upd z' k (z' k)) rfl (by omega) (by subst hz; (try simp only [mMk_ge (Nat.le_refl _)] at h_1 h_2); first | exact (mMk_y (by simp [mDp, h_1, of_decide_eq_false h_2, h_2])).symm | exact ((upd_id _ _).trans (mMk_n (by simp [mDp, h_1, of_decide_eq_false h_2, h_2])).symm))
      · refine z_aload_n C 0 dX6_dissolveAt_24 rfl rfl ?_
        refine z_iload C dX6_dissolveAt_25 rfl ?_
        refine z_iload_n C 1 dX6_dissolveAt_27 rfl rfl ?_
        refine z_iload_n C 2 dX6_dissolveAt_28 rfl rfl ?_
        refine z_callVr C kX6_isAtLine gX6_dissolveAt_X6_isAtLine (mX6_isAtLine X.2.1 a kp ty pl gd od vU vS vN vX vM vT vB vK vY z' vR vC vV k (nI 0) nm (by first | assumption | omega)) dX6_dissolveAt_29 [0, 1] [] 0 rfl nd_0_1 rfl rfl rfl (by decide) (by decide) (Nat.le_of_ble_eq_true rfl) rfl ?_
        refine z_top (y := zb (mAt vK vR vC k (nI 0) nm)) rfl ?_
        refine z_bif_eq C 56 dX6_dissolveAt_32 (by decide) (fun h_3 => ?_) (fun h_3 => ?_)
        · refine z_iconst C (nI 0) dX6_dissolveAt_56 (by decide) ?_
          refine z_istore C dX6_dissolveAt_57 (Nat.le_of_ble_eq_true rfl) ?_
          refine z_aload_n C 0 dX6_dissolveAt_59 rfl rfl ?_
          refine z_get C fX6_dissolveAt_7 0 dX6_dissolveAt_60 rfl rfl ?_
          refine z_sipush C (nI 269) dX6_dissolveAt_63 (by decide) ?_
          refine z_iload C dX6_dissolveAt_66 rfl ?_
          refine z_iadd C dX6_dissolveAt_68 ?_
          refine z_top (y := nI (269 + k)) (nI_add _ _) ?_
          refine z_iload C dX6_dissolveAt_69 rfl ?_
          refine z_nif_eq_t C 78 dX6_dissolveAt_71 (by decide) (by omega) (by omega) ?_
          refine z_aload_n C 0 dX6_dissolveAt_78 rfl rfl ?_
          refine z_get C fX6_dissolveAt_7 0 dX6_dissolveAt_79 rfl rfl ?_
          refine z_sipush C (nI 269) dX6_dissolveAt_82 (by decide) ?_
          refine z_iload C dX6_dissolveAt_85 rfl ?_
          refine z_iadd C dX6_dissolveAt_87 ?_
          refine z_top (y := nI (269 + k)) (nI_add _ _) ?_
          refine z_ialdN C 1 dX6_dissolveAt_88 rfl (by omega) (by decide) ?_
          refine z_top (y := z' k) ((congrArg (mRow vU vS vN vX vM vT vB vK vY z' vR vC vV) (show 269 + k = 269 + (k) by omega)).trans (zMr_Z (by omega))) ?_
          refine z_iastR C 1 dX6_dissolveAt_89 rfl (by omega) (by decide) (f' := mRow vU vS vN vX vM vT vB vK vY (upd z' k (z' k)) vR vC vV) ((congrArg (fun i9 => upd (mRow vU vS vN vX vM vT vB vK vY z' vR vC vV) i9 (z' k)) (show 269 + k = 269 + (k) by omega)).trans (zMw_Z (by omega))) ?_
          refine z_iinc C (nI (k + 1)) dX6_dissolveAt_90 rfl (zi_1 _) ?_
          refine z_goto C 3 dX6_dissolveAt_93 (by decide) ?_
          refine z_kill 5 ?_
          exact ih3 (vM - (k + 1)) (by omega) (k + 1) (upd z' k (z' k)) rfl (by omega) (by subst hz; (try simp only [mMk_ge (Nat.le_refl _)] at h_1 h_2 h_3); first | exact (mMk_y (by simp [mDp, h_1, of_decide_eq_true h_2, h_2, h_3])).symm | exact ((upd_id _ _).trans (mMk_n (by simp [mDp, h_1, of_decide_eq_true h_2, h_2, h_3])).symm))
        · refine z_iload_n C 3 dX6_dissolveAt_35 rfl rfl ?_
          refine z_nif_eq_t C 52 dX6_dissolveAt_36 (by decide) (by omega) (by omega) ?_
          refine z_iconst C (nI 1) dX6_dissolveAt_52 (by decide) ?_
          refine z_goto C 57 dX6_dissolveAt_53 (by decide) ?_
          refine z_istore C dX6_dissolveAt_57 (Nat.le_of_ble_eq_true rfl) ?_
          refine z_aload_n C 0 dX6_dissolveAt_59 rfl rfl ?_
          refine z_get C fX6_dissolveAt_7 0 dX6_dissolveAt_60 rfl rfl ?_
          refine z_sipush C (nI 269) dX6_dissolveAt_63 (by decide) ?_
          refine z_iload C dX6_dissolveAt_66 rfl ?_
          refine z_iadd C dX6_dissolveAt_68 ?_
          refine z_top (y := nI (269 + k)) (nI_add _ _) ?_
          refine z_iload C dX6_dissolveAt_69 rfl ?_
          refine z_nif_eq_f C 78 dX6_dissolveAt_71 (by decide) (by omega) (by omega) ?_
          refine z_iconst C (nI 3) dX6_dissolveAt_74 (by decide) ?_
          refine z_goto C 89 dX6_dissolveAt_75 (by decide) ?_
          refine z_iastR C 1 dX6_dissolveAt_89 rfl (by omega) (by decide) (f' := mRow vU vS vN vX vM vT vB vK vY (upd z' k (nI 3)) vR vC vV) ((congrArg (fun i9 => upd (mRow vU vS vN vX vM vT vB vK vY z' vR vC vV) i9 (nI 3)) (show 269 + k = 269 + (k) by omega)).trans (zMw_Z (by omega))) ?_
          refine z_iinc C (nI (k + 1)) dX6_dissolveAt_90 rfl (zi_1 _) ?_
          refine z_goto C 3 dX6_dissolveAt_93 (by decide) ?_
          refine z_kill 5 ?_
          exact ih3 (vM - (k + 1)) (by omega) (k + 1) (upd z' k (nI 3)) rfl (by omega) (by subst hz; (try simp only [mMk_ge (Nat.le_refl _)] at h_1 h_2 h_3); first | exact (mMk_y (by simp [mDp, h_1, of_decide_eq_true h_2, h_2, h_3])).symm | exact ((upd_id _ _).trans (mMk_n (by simp [mDp, h_1, of_decide_eq_true h_2, h_2, h_3])).symm))
  exact hL3 _ 0 (vZ) rfl (by omega) ((mMk_0 _ _ _).symm)

set_option maxHeartbeats 4000000 in
set_option maxRecDepth 100000 in
theorem mX6_dissolveAt_1f (E : zE) (a : Nat → Nat) (kp ty pl : Nat) (gd : Bool) (od : Nat) (vU vS : Nat → Nat) (vN : Nat → Int32) (vX vM : Nat) (vT : Bool) (vB vK vY vZ vR vC vV : Nat → Int32) (nm : Int32) (hO : okM vU vS vM vK) : zM E yX6_dissolveAt wsX6_dissolveAt 2 [.ref (a 0), .int (nI 1), .int nm, .int (nI 0)] [((a 0), .inr (6, [.ref (a 1), .ref (a 2), .ref (a 3), .int (nI kp), .int (nI ty), .ref (a 4), .int (nI pl), .int (zb gd), .int (nI od), .ref (a 5)])), ((a 1), .inl (E.2.2.1, 512, .inl (mRow vU vS vN vX vM vT vB vK vY vZ vR vC vV)))] [((a 0), .inr (6, [.ref (a 1), .ref (a 2), .ref (a 3), .int (nI kp), .int (nI ty), .ref (a 4), .int (nI pl), .int (zb gd), .int (nI od), .ref (a 5)])), ((a 1), .inl (E.2.2.1, 512, .inl (mRow vU vS vN vX vM vT vB vK vY (mMk vZ (mDp vZ vK vR vC (nI 1) nm false) (nI 3) vM) vR vC vV)))] none := by
  refine zM.of kX6_dissolveAt (Nat.le_of_ble_eq_true rfl) rfl [some (.ref (a 0)), some (.int (nI 1)), some (.int nm), some (.int (nI 0)), none, none] rfl (Nat.le_of_ble_eq_true rfl) ?_
  intro X eX C N
  subst eX
  obtain ⟨hu0, hu1, hM, hk1, hk2, hk3⟩ := id hO
  refine z_iconst C (nI 0) dX6_dissolveAt_0 (by decide) ?_
  refine z_istore C dX6_dissolveAt_1 (Nat.le_of_ble_eq_true rfl) ?_
  have hL3 : ∀ (dd : Nat) (k : Nat) (z' : Nat → Int32), vM - k = dd → (k ≤ vM) → (z' = mMk (vZ) (mDp vZ vK vR vC (nI 1) nm false) (nI 3) k) → zG X 0 0 [((a 0), .inr (6, [.ref (a 1), .ref (a 2), .ref (a 3), .int (nI kp), .int (nI ty), .ref (a 4), .int (nI pl), .int (zb gd), .int (nI od), .ref (a 5)])), ((a 1), .inl (X.2.1.2.2.1, 512, .inl (mRow vU vS vN vX vM vT vB vK vY z' vR vC vV)))] [some (.ref (a 0)), some (.int (nI 1)), some (.int nm), some (.int (nI 0)), some (.int (nI k)), none] [] 3 := by
    intro dd
    induction dd using Nat.strongRecOn with
    | _ dd ih3 =>
    intro k z' hdd hk hz
    refine z_iload C dX6_dissolveAt_3 rfl ?_
    refine z_aload_n C 0 dX6_dissolveAt_5 rfl rfl ?_
    refine z_get C fX6_dissolveAt_7 0 dX6_dissolveAt_6 rfl rfl ?_
    refine z_bipush C (nI 51) dX6_dissolveAt_9 (by decide) ?_
    refine z_ialdN C 1 dX6_dissolveAt_11 rfl (by omega) (by decide) ?_
    refine z_top (y := nI (vM)) (zMr_M) ?_
    refine z_ncmp_ge C 96 dX6_dissolveAt_12 (by decide) (by omega) (by omega) (fun h_1 => ?_) (fun h_1 => ?_)
    · exact z_vret C N dX6_dissolveAt_96 (by rw [hz, show k = vM by omega] <;> rfl)
    · refine z_aload_n C 0 dX6_dissolveAt_15 rfl rfl ?_
      refine z_iload C dX6_dissolveAt_16 rfl ?_
      refine z_callVr C kX6_isPending gX6_dissolveAt_X6_isPending (mX6_isPending X.2.1 a kp ty pl gd od vU vS vN vX vM vT vB vK vY z' vR vC vV k (by first | assumption | omega)) dX6_dissolveAt_18 [0, 1] [] 0 rfl nd_0_1 rfl rfl rfl (by decide) (by decide) (Nat.le_of_ble_eq_true rfl) rfl ?_
      refine z_top (y := zb (decide (z' k = 0))) rfl ?_
      refine z_bif_eq C 56 dX6_dissolveAt_21 (by decide) (fun h_2 => ?_) (fun h_2 => ?_)
      · refine z_iconst C (nI 0) dX6_dissolveAt_56 (by decide) ?_
        refine z_istore C dX6_dissolveAt_57 (Nat.le_of_ble_eq_true rfl) ?_
        refine z_aload_n C 0 dX6_dissolveAt_59 rfl rfl ?_
        refine z_get C fX6_dissolveAt_7 0 dX6_dissolveAt_60 rfl rfl ?_
        refine z_sipush C (nI 269) dX6_dissolveAt_63 (by decide) ?_
        refine z_iload C dX6_dissolveAt_66 rfl ?_
        refine z_iadd C dX6_dissolveAt_68 ?_
        refine z_top (y := nI (269 + k)) (nI_add _ _) ?_
        refine z_iload C dX6_dissolveAt_69 rfl ?_
        refine z_nif_eq_t C 78 dX6_dissolveAt_71 (by decide) (by omega) (by omega) ?_
        refine z_aload_n C 0 dX6_dissolveAt_78 rfl rfl ?_
        refine z_get C fX6_dissolveAt_7 0 dX6_dissolveAt_79 rfl rfl ?_
        refine z_sipush C (nI 269) dX6_dissolveAt_82 (by decide) ?_
        refine z_iload C dX6_dissolveAt_85 rfl ?_
        refine z_iadd C dX6_dissolveAt_87 ?_
        refine z_top (y := nI (269 + k)) (nI_add _ _) ?_
        refine z_ialdN C 1 dX6_dissolveAt_88 rfl (by omega) (by decide) ?_
        refine z_top (y := z' k) ((congrArg (mRow vU vS vN vX vM vT vB vK vY z' vR vC vV) (show 269 + k = 269 + (k) by omega)).trans (zMr_Z (by omega))) ?_
        refine z_iastR C 1 dX6_dissolveAt_89 rfl (by omega) (by decide) (f' := mRow vU vS vN vX vM vT vB vK vY (upd z' k (z' k)) vR vC vV) ((congrArg (fun i9 => upd (mRow vU vS vN vX vM vT vB vK vY z' vR vC vV) i9 (z' k)) (show 269 + k = 269 + (k) by omega)).trans (zMw_Z (by omega))) ?_
        refine z_iinc C (nI (k + 1)) dX6_dissolveAt_90 rfl (zi_1 _) ?_
        refine z_goto C 3 dX6_dissolveAt_93 (by decide) ?_
        refine z_kill 5 ?_
        exact ih3 (vM - (k + 1)) (by omega) (k + 1) (upd z' k (z' k)) rfl (by omega) (by subst hz; (try simp only [mMk_ge (Nat.le_refl _)] at h_1 h_2); first | exact (mMk_y (by simp [mDp, h_1, of_decide_eq_false h_2, h_2])).symm | exact ((upd_id _ _).trans (mMk_n (by simp [mDp, h_1, of_decide_eq_false h_2, h_2])).symm))
      · refine z_aload_n C 0 dX6_dissolveAt_24 rfl rfl ?_
        refine z_iload C dX6_dissolveAt_25 rfl ?_
        refine z_iload_n C 1 dX6_dissolveAt_27 rfl rfl ?_
        refine z_iload_n C 2 dX6_dissolveAt_28 rfl rfl ?_
        refine z_callVr C kX6_isAtLine gX6_dissolveAt_X6_isAtLine (mX6_isAtLine X.2.1 a kp ty pl gd od vU vS vN vX vM vT vB vK vY z' vR vC vV k (nI 1) nm (by first | assumption | omega)) dX6_dissolveAt_29 [0, 1] [] 0 rfl nd_0_1 rfl rfl rfl (by decide) (by decide) (Nat.le_of_ble_eq_true rfl) rfl ?_
        refine z_top (y := zb (mAt vK vR vC k (nI 1) nm)) rfl ?_
        refine z_bif_eq C 56 dX6_dissolveAt_32 (by decide) (fun h_3 => ?_) (fun h_3 => ?_)
        · refine z_iconst C (nI 0) dX6_dissolveAt_56 (by decide) ?_
          refine z_istore C dX6_dissolveAt_57 (Nat.le_of_ble_eq_true rfl) ?_
          refine z_aload_n C 0 dX6_dissolveAt_59 rfl rfl ?_
          refine z_get C fX6_dissolveAt_7 0 dX6_dissolveAt_60 rfl rfl ?_
          refine z_sipush C (nI 269) dX6_dissolveAt_63 (by decide) ?_
          refine z_iload C dX6_dissolveAt_66 rfl ?_
          refine z_iadd C dX6_dissolveAt_68 ?_
          refine z_top (y := nI (269 + k)) (nI_add _ _) ?_
          refine z_iload C dX6_dissolveAt_69 rfl ?_
          refine z_nif_eq_t C 78 dX6_dissolveAt_71 (by decide) (by omega) (by omega) ?_
          refine z_aload_n C 0 dX6_dissolveAt_78 rfl rfl ?_
          refine z_get C fX6_dissolveAt_7 0 dX6_dissolveAt_79 rfl rfl ?_
          refine z_sipush C (nI 269) dX6_dissolveAt_82 (by decide) ?_
          refine z_iload C dX6_dissolveAt_85 rfl ?_
          refine z_iadd C dX6_dissolveAt_87 ?_
          refine z_top (y := nI (269 + k)) (nI_add _ _) ?_
          refine z_ialdN C 1 dX6_dissolveAt_88 rfl (by omega) (by decide) ?_
          refine z_top (y := z' k) ((congrArg (mRow vU vS vN vX vM vT vB vK vY z' vR vC vV) (show 269 + k = 269 + (k) by omega)).trans (zMr_Z (by omega))) ?_
          refine z_iastR C 1 dX6_dissolveAt_89 rfl (by omega) (by decide) (f' := mRow vU vS vN vX vM vT vB vK vY (upd z' k (z' k)) vR vC vV) ((congrArg (fun i9 => upd (mRow vU vS vN vX vM vT vB vK vY z' vR vC vV) i9 (z' k)) (show 269 + k = 269 + (k) by omega)).trans (zMw_Z (by omega))) ?_
          refine z_iinc C (nI (k + 1)) dX6_dissolveAt_90 rfl (zi_1 _) ?_
          refine z_goto C 3 dX6_dissolveAt_93 (by decide) ?_
          refine z_kill 5 ?_
          exact ih3 (vM - (k + 1)) (by omega) (k + 1) (upd z' k (z' k)) rfl (by omega) (by subst hz; (try simp only [mMk_ge (Nat.le_refl _)] at h_1 h_2 h_3); first | exact (mMk_y (by simp [mDp, h_1, of_decide_eq_true h_2, h_2, h_3])).symm | exact ((upd_id _ _).trans (mMk_n (by simp [mDp, h_1, of_decide_eq_true h_2, h_2, h_3])).symm))
        · refine z_iload_n C 3 dX6_dissolveAt_35 rfl rfl ?_
          refine z_nif_eq_t C 52 dX6_dissolveAt_36 (by decide) (by omega) (by omega) ?_
          refine z_iconst C (nI 1) dX6_dissolveAt_52 (by decide) ?_
          refine z_goto C 57 dX6_dissolveAt_53 (by decide) ?_
          refine z_istore C dX6_dissolveAt_57 (Nat.le_of_ble_eq_true rfl) ?_
          refine z_aload_n C 0 dX6_dissolveAt_59 rfl rfl ?_
          refine z_get C fX6_dissolveAt_7 0 dX6_dissolveAt_60 rfl rfl ?_
          refine z_sipush C (nI 269) dX6_dissolveAt_63 (by decide) ?_
          refine z_iload C dX6_dissolveAt_66 rfl ?_
          refine z_iadd C dX6_dissolveAt_68 ?_
          refine z_top (y := nI (269 + k)) (nI_add _ _) ?_
          refine z_iload C dX6_dissolveAt_69 rfl ?_
          refine z_nif_eq_f C 78 dX6_dissolveAt_71 (by decide) (by omega) (by omega) ?_
          refine z_iconst C (nI 3) dX6_dissolveAt_74 (by decide) ?_
          refine z_goto C 89 dX6_dissolveAt_75 (by decide) ?_
          refine z_iastR C 1 dX6_dissolveAt_89 rfl (by omega) (by decide) (f' := mRow vU vS vN vX vM vT vB vK vY (upd z' k (nI 3)) vR vC vV) ((congrArg (fun i9 => upd (mRow vU vS vN vX vM vT vB vK vY z' vR vC vV) i9 (nI 3)) (show 269 + k = 269 + (k) by omega)).trans (zMw_Z (by omega))) ?_
          refine z_iinc C (nI (k + 1)) dX6_dissolveAt_90 rfl (zi_1 _) ?_
          refine z_goto C 3 dX6_dissolveAt_93 (by decide) ?_
          refine z_kill 5 ?_
          exact ih3 (vM - (k + 1)) (by omega) (k + 1) (upd z' k (nI 3)) rfl (by omega) (by subst hz; (try simp only [mMk_ge (Nat.le_refl _)] at h_1 h_2 h_3); first | exact (mMk_y (by simp [mDp, h_1, of_decide_eq_true h_2, h_2, h_3])).symm | exact ((upd_id _ _).trans (mMk_n (by simp [mDp, h_1, of_decide_eq_true h_2, h_2, h_3])).symm))
  exact hL3 _ 0 (vZ) rfl (by omega) ((mMk_0 _ _ _).symm)

theorem kX6_pendingOnes : zY yX6_pendingOnes wsX6_pendingOnes cX6_pendingOnes 3 (some .int) 0 := ⟨⟨_, rfl⟩, ⟨by decide +kernel, by decide +kernel, by decide +kernel⟩, by decide +kernel⟩
theorem fX6_pendingOnes_7 : zF wsX6_pendingOnes RX6 7 6 0 RX6 TX6 10 := ⟨by decide +kernel, rfl, by decide, by decide +kernel, rfl⟩
set_option maxHeartbeats 4000000 in
set_option maxRecDepth 100000 in
theorem mX6_pendingOnes (E : zE) (a : Nat → Nat) (kp ty pl : Nat) (gd : Bool) (od : Nat) (vU vS : Nat → Nat) (vN : Nat → Int32) (vX vM : Nat) (vT : Bool) (vB vK vY vZ vR vC vV : Nat → Int32)  (hO : okM vU vS vM vK) : zM E yX6_pendingOnes wsX6_pendingOnes 2 [.ref (a 0)] [((a 0), .inr (6, [.ref (a 1), .ref (a 2), .ref (a 3), .int (nI kp), .int (nI ty), .ref (a 4), .int (nI pl), .int (zb gd), .int (nI od), .ref (a 5)])), ((a 1), .inl (E.2.2.1, 512, .inl (mRow vU vS vN vX vM vT vB vK vY vZ vR vC vV)))] [((a 0), .inr (6, [.ref (a 1), .ref (a 2), .ref (a 3), .int (nI kp), .int (nI ty), .ref (a 4), .int (nI pl), .int (zb gd), .int (nI od), .ref (a 5)])), ((a 1), .inl (E.2.2.1, 512, .inl (mRow vU vS vN vX vM vT vB vK vY vZ vR vC vV)))] (some (.int (nI (zc (mP0 vZ) (vM))))) := by
  refine zM.of kX6_pendingOnes (Nat.le_of_ble_eq_true rfl) rfl [some (.ref (a 0)), none, none] rfl (Nat.le_of_ble_eq_true rfl) ?_
  intro X eX C N
  subst eX
  obtain ⟨hu0, hu1, hM, hk1, hk2, hk3⟩ := id hO
  refine z_iconst C (nI 0) dX6_pendingOnes_0 (by decide) ?_
  refine z_istore_n C 1 dX6_pendingOnes_1 rfl (Nat.le_of_ble_eq_true rfl) ?_
  refine z_iconst C (nI 0) dX6_pendingOnes_2 (by decide) ?_
  refine z_istore_n C 2 dX6_pendingOnes_3 rfl (Nat.le_of_ble_eq_true rfl) ?_
  have hL4 : ∀ (dd : Nat) (k : Nat) (cn : Nat), vM - k = dd → (k ≤ vM) → (cn = zc (mP0 vZ) k) → (cn ≤ k) → zG X 0 0 [((a 0), .inr (6, [.ref (a 1), .ref (a 2), .ref (a 3), .int (nI kp), .int (nI ty), .ref (a 4), .int (nI pl), .int (zb gd), .int (nI od), .ref (a 5)])), ((a 1), .inl (X.2.1.2.2.1, 512, .inl (mRow vU vS vN vX vM vT vB vK vY vZ vR vC vV)))] [some (.ref (a 0)), some (.int (nI cn)), some (.int (nI k))] [] 4 := by
    intro dd
    induction dd using Nat.strongRecOn with
    | _ dd ih4 =>
    intro k cn hdd hk hc hcb
    refine z_iload_n C 2 dX6_pendingOnes_4 rfl rfl ?_
    refine z_aload_n C 0 dX6_pendingOnes_5 rfl rfl ?_
    refine z_get C fX6_pendingOnes_7 0 dX6_pendingOnes_6 rfl rfl ?_
    refine z_bipush C (nI 51) dX6_pendingOnes_9 (by decide) ?_
    refine z_ialdN C 1 dX6_pendingOnes_11 rfl (by omega) (by decide) ?_
    refine z_top (y := nI (vM)) (zMr_M) ?_
    refine z_ncmp_ge C 37 dX6_pendingOnes_12 (by decide) (by omega) (by omega) (fun h_1 => ?_) (fun h_1 => ?_)
    · refine z_iload_n C 1 dX6_pendingOnes_37 rfl rfl ?_
      exact z_iret C N dX6_pendingOnes_38 (rfl) (by rw [hc, show k = vM by omega])
    · refine z_iload_n C 1 dX6_pendingOnes_15 rfl rfl ?_
      refine z_aload_n C 0 dX6_pendingOnes_16 rfl rfl ?_
      refine z_iload_n C 2 dX6_pendingOnes_17 rfl rfl ?_
      refine z_callVr C kX6_isPending gX6_pendingOnes_X6_isPending (mX6_isPending X.2.1 a kp ty pl gd od vU vS vN vX vM vT vB vK vY vZ vR vC vV k (by first | assumption | omega)) dX6_pendingOnes_18 [0, 1] [.int (nI cn)] 0 rfl nd_0_1 rfl rfl rfl (by decide) (by decide) (Nat.le_of_ble_eq_true rfl) rfl ?_
      refine z_bif_eq C 28 dX6_pendingOnes_21 (by decide) (fun h_2 => ?_) (fun h_2 => ?_)
      · refine z_iconst C (nI 0) dX6_pendingOnes_28 (by decide) ?_
        refine z_iadd C dX6_pendingOnes_29 ?_
        refine z_top (y := nI cn) (nI_add _ _) ?_
        refine z_istore_n C 1 dX6_pendingOnes_30 rfl (Nat.le_of_ble_eq_true rfl) ?_
        refine z_iinc C (nI (k + 1)) dX6_pendingOnes_31 rfl (zi_1 _) ?_
        refine z_goto C 4 dX6_pendingOnes_34 (by decide) ?_
        exact ih4 (vM - (k + 1)) (by omega) (k + 1) cn rfl (by omega) (by subst hc; first | exact (zc_y (by simp [mP0, nI_eq, zz_0, zz_0s, h_1, of_decide_eq_false h_2, h_2])).symm | exact (zc_n (by simp [mP0, nI_eq, zz_0, zz_0s, h_1, of_decide_eq_false h_2, h_2])).symm) (by omega)
      · refine z_iconst C (nI 1) dX6_pendingOnes_24 (by decide) ?_
        refine z_goto C 29 dX6_pendingOnes_25 (by decide) ?_
        refine z_iadd C dX6_pendingOnes_29 ?_
        refine z_top (y := nI (cn + 1)) (nI_add _ _) ?_
        refine z_istore_n C 1 dX6_pendingOnes_30 rfl (Nat.le_of_ble_eq_true rfl) ?_
        refine z_iinc C (nI (k + 1)) dX6_pendingOnes_31 rfl (zi_1 _) ?_
        refine z_goto C 4 dX6_pendingOnes_34 (by decide) ?_
        exact ih4 (vM - (k + 1)) (by omega) (k + 1) (cn + 1) rfl (by omega) (by subst hc; first | exact (zc_y (by simp [mP0, nI_eq, zz_0, zz_0s, h_1, of_decide_eq_true h_2, h_2])).symm | exact (zc_n (by simp [mP0, nI_eq, zz_0, zz_0s, h_1, of_decide_eq_true h_2, h_2])).symm) (by omega)
  exact hL4 _ 0 0 rfl (by omega) (rfl) (by omega)

theorem kX6_rests : zY yX6_rests wsX6_rests cX6_rests 7 (some .boolean) 2 := ⟨⟨_, rfl⟩, ⟨by decide +kernel, by decide +kernel, by decide +kernel⟩, by decide +kernel⟩
set_option maxHeartbeats 4000000 in
set_option maxRecDepth 100000 in
theorem mX6_rests (E : zE) (a : Nat → Nat) (kp ty pl : Nat) (gd : Bool) (od : Nat) (vU vS : Nat → Nat) (vN : Nat → Int32) (vX vM : Nat) (vT : Bool) (vB vK vY vZ vR vC vV : Nat → Int32) (x y : Nat) (hx : x < 60) (hy : y < 60) : zM E yX6_rests wsX6_rests 3 [.ref (a 0), .int (nI x), .int (nI y)] [((a 0), .inr (6, [.ref (a 1), .ref (a 2), .ref (a 3), .int (nI kp), .int (nI ty), .ref (a 4), .int (nI pl), .int (zb gd), .int (nI od), .ref (a 5)])), ((a 1), .inl (E.2.2.1, 512, .inl (mRow vU vS vN vX vM vT vB vK vY vZ vR vC vV)))] [((a 0), .inr (6, [.ref (a 1), .ref (a 2), .ref (a 3), .int (nI kp), .int (nI ty), .ref (a 4), .int (nI pl), .int (zb gd), .int (nI od), .ref (a 5)])), ((a 1), .inl (E.2.2.1, 512, .inl (mRow vU vS vN vX vM vT vB vK vY vZ vR vC vV)))] (some (.int (zb (mrs vZ vK vR vC x y)))) := by
  refine zM.of kX6_rests (Nat.le_of_ble_eq_true rfl) rfl [some (.ref (a 0)), some (.int (nI x)), some (.int (nI y)), none, none, none, none] rfl (Nat.le_of_ble_eq_true rfl) ?_
  intro X eX C N
  subst eX
  refine z_iload_n C 1 dX6_rests_0 rfl rfl ?_
  refine z_iload_n C 2 dX6_rests_1 rfl rfl ?_
  refine z_ncmp_eq C 21 dX6_rests_2 (by decide) (by omega) (by omega) (fun h_1 => ?_) (fun h_1 => ?_)
  · refine z_iconst C (nI 0) dX6_rests_21 (by decide) ?_
    exact z_zret C N dX6_rests_22 rfl (rfl) (congrArg (fun x => some (Value.int x)) (zb_f (by first | (simp [mrs, nI_eq, zz_0, zz_0s, h_1]; done) | (simp [mrs, nI_eq, zz_0, zz_0s, h_1]; intro q; omega) | (simp [mrs, nI_eq, zz_0, zz_0s, h_1]; simpa [nI_eq, zz_0, zz_0s] using h_1))).symm)
  · refine z_aload_n C 0 dX6_rests_5 rfl rfl ?_
    refine z_iload_n C 1 dX6_rests_6 rfl rfl ?_
    refine z_callVr C kX6_isPending gX6_rests_X6_isPending (mX6_isPending X.2.1 a kp ty pl gd od vU vS vN vX vM vT vB vK vY vZ vR vC vV x hx) dX6_rests_7 [0, 1] [] 0 rfl nd_0_1 rfl rfl rfl (by decide) (by decide) (Nat.le_of_ble_eq_true rfl) rfl ?_
    refine z_bif_eq C 21 dX6_rests_10 (by decide) (fun h_2 => ?_) (fun h_2 => ?_)
    · refine z_iconst C (nI 0) dX6_rests_21 (by decide) ?_
      exact z_zret C N dX6_rests_22 rfl (rfl) (congrArg (fun x => some (Value.int x)) (zb_f (by first | (simp [mrs, nI_eq, zz_0, zz_0s, h_1, of_decide_eq_false h_2, h_2]; done) | (simp [mrs, nI_eq, zz_0, zz_0s, h_1, of_decide_eq_false h_2, h_2]; intro q; omega) | (simp [mrs, nI_eq, zz_0, zz_0s, h_1, of_decide_eq_false h_2, h_2]; simpa [nI_eq, zz_0, zz_0s, h_1, of_decide_eq_false h_2] using h_2))).symm)
    · refine z_aload_n C 0 dX6_rests_13 rfl rfl ?_
      refine z_iload_n C 2 dX6_rests_14 rfl rfl ?_
      refine z_callVr C kX6_isPending gX6_rests_X6_isPending (mX6_isPending X.2.1 a kp ty pl gd od vU vS vN vX vM vT vB vK vY vZ vR vC vV y hy) dX6_rests_15 [0, 1] [] 0 rfl nd_0_1 rfl rfl rfl (by decide) (by decide) (Nat.le_of_ble_eq_true rfl) rfl ?_
      refine z_bif_ne C 23 dX6_rests_18 (by decide) (fun h_3 => ?_) (fun h_3 => ?_)
      · refine z_aload_n C 0 dX6_rests_23 rfl rfl ?_
        refine z_iload_n C 1 dX6_rests_24 rfl rfl ?_
        refine z_sipush C (nI 149) dX6_rests_25 (by decide) ?_
        refine z_callVr C kX6_of gX6_rests_X6_of (mX6_of_K X.2.1 a kp ty pl gd od vU vS vN vX vM vT vB vK vY vZ vR vC vV x hx) dX6_rests_28 [0, 1] [] 0 rfl nd_0_1 rfl rfl rfl (by decide) (by decide) (Nat.le_of_ble_eq_true rfl) rfl ?_
        refine z_istore_n C 3 dX6_rests_31 rfl (Nat.le_of_ble_eq_true rfl) ?_
        refine z_aload_n C 0 dX6_rests_32 rfl rfl ?_
        refine z_iload_n C 2 dX6_rests_33 rfl rfl ?_
        refine z_sipush C (nI 149) dX6_rests_34 (by decide) ?_
        refine z_callVr C kX6_of gX6_rests_X6_of (mX6_of_K X.2.1 a kp ty pl gd od vU vS vN vX vM vT vB vK vY vZ vR vC vV y hy) dX6_rests_37 [0, 1] [] 0 rfl nd_0_1 rfl rfl rfl (by decide) (by decide) (Nat.le_of_ble_eq_true rfl) rfl ?_
        refine z_istore C dX6_rests_40 (Nat.le_of_ble_eq_true rfl) ?_
        refine z_iload C dX6_rests_42 rfl ?_
        refine z_iconst C (nI 4) dX6_rests_44 (by decide) ?_
        refine z_icmp_ne C 88 dX6_rests_45 (by decide) (fun h_4 => ?_) (fun h_4 => ?_)
        · refine z_iload C dX6_rests_88 rfl ?_
          refine z_iconst C (nI 2) dX6_rests_90 (by decide) ?_
          refine z_irem C dX6_rests_91 (by decide) ?_
          refine z_iconst C (nI 1) dX6_rests_92 (by decide) ?_
          refine z_icmp_ne C 98 dX6_rests_93 (by decide) (fun h_5 => ?_) (fun h_5 => ?_)
          · refine z_iload_n C 3 dX6_rests_98 rfl rfl ?_
            refine z_iconst C (nI 4) dX6_rests_99 (by decide) ?_
            refine z_icmp_ne C 107 dX6_rests_100 (by decide) (fun h_6 => ?_) (fun h_6 => ?_)
            · refine z_iconst C (nI 0) dX6_rests_107 (by decide) ?_
              refine z_istore C dX6_rests_108 (Nat.le_of_ble_eq_true rfl) ?_
              refine z_iload_n C 3 dX6_rests_110 rfl rfl ?_
              refine z_iload C dX6_rests_111 rfl ?_
              refine z_iconst C (nI 1) dX6_rests_113 (by decide) ?_
              refine z_iadd C dX6_rests_114 ?_
              refine z_icmp_ne C 122 dX6_rests_115 (by decide) (fun h_7 => ?_) (fun h_7 => ?_)
              · refine z_iconst C (nI 0) dX6_rests_122 (by decide) ?_
                refine z_istore C dX6_rests_123 (Nat.le_of_ble_eq_true rfl) ?_
                refine z_iload C dX6_rests_125 rfl ?_
                refine z_nif_ne_f C 135 dX6_rests_127 (by decide) (by omega) (by omega) ?_
                refine z_iload C dX6_rests_130 rfl ?_
                refine z_nif_eq_t C 170 dX6_rests_132 (by decide) (by omega) (by omega) ?_
                refine z_iconst C (nI 0) dX6_rests_170 (by decide) ?_
                exact z_zret C N dX6_rests_171 rfl (rfl) (congrArg (fun x => some (Value.int x)) (zb_f (by first | (simp [mrs, nI_eq, zz_0, zz_0s, h_1, of_decide_eq_true h_2, h_2, of_decide_eq_true h_3, h_3, h_4, h_5, h_6, h_7]; done) | (simp [mrs, nI_eq, zz_0, zz_0s, h_1, of_decide_eq_true h_2, h_2, of_decide_eq_true h_3, h_3, h_4, h_5, h_6, h_7]; intro q; omega) | (simp [mrs, nI_eq, zz_0, zz_0s, h_1, of_decide_eq_true h_2, h_2, of_decide_eq_true h_3, h_3, h_4, h_5, h_6, h_7]; simpa [nI_eq, zz_0, zz_0s, h_1, of_decide_eq_true h_2, h_2, of_decide_eq_true h_3, h_3, h_4, h_5, h_6] using h_7))).symm)
              · refine z_iconst C (nI 1) dX6_rests_118 (by decide) ?_
                refine z_goto C 123 dX6_rests_119 (by decide) ?_
                refine z_istore C dX6_rests_123 (Nat.le_of_ble_eq_true rfl) ?_
                refine z_iload C dX6_rests_125 rfl ?_
                refine z_nif_ne_f C 135 dX6_rests_127 (by decide) (by omega) (by omega) ?_
                refine z_iload C dX6_rests_130 rfl ?_
                refine z_nif_eq_f C 170 dX6_rests_132 (by decide) (by omega) (by omega) ?_
                refine z_aload_n C 0 dX6_rests_135 rfl rfl ?_
                refine z_iload_n C 1 dX6_rests_136 rfl rfl ?_
                refine z_iload C dX6_rests_137 rfl ?_
                refine z_iconst C (nI 2) dX6_rests_139 (by decide) ?_
                refine z_idiv C dX6_rests_140 (by decide) ?_
                refine z_aload_n C 0 dX6_rests_141 rfl rfl ?_
                refine z_iload_n C 2 dX6_rests_142 rfl rfl ?_
                refine z_iload C dX6_rests_143 rfl ?_
                refine z_if_ne C 154 dX6_rests_145 (by decide) (fun h_8 => ?_) (fun h_8 => ?_)
                · refine z_sipush C (nI 389) dX6_rests_154 (by decide) ?_
                  refine z_callVr C kX6_of gX6_rests_X6_of (mX6_of_C X.2.1 a kp ty pl gd od vU vS vN vX vM vT vB vK vY vZ vR vC vV y hy) dX6_rests_157 [0, 1] [.int ((vK y) / (nI 2)), .int (nI x), .ref (a 0)] 0 rfl nd_0_1 rfl rfl rfl (by decide) (by decide) (Nat.le_of_ble_eq_true rfl) rfl ?_
                  refine z_callVr C kX6_isAtLine gX6_rests_X6_isAtLine (mX6_isAtLine X.2.1 a kp ty pl gd od vU vS vN vX vM vT vB vK vY vZ vR vC vV x ((vK y) / (nI 2)) (vC y) hx) dX6_rests_160 [0, 1] [] 0 rfl nd_0_1 rfl rfl rfl (by decide) (by decide) (Nat.le_of_ble_eq_true rfl) rfl ?_
                  refine z_bif_eq C 170 dX6_rests_163 (by decide) (fun h_9 => ?_) (fun h_9 => ?_)
                  · refine z_iconst C (nI 0) dX6_rests_170 (by decide) ?_
                    exact z_zret C N dX6_rests_171 rfl (rfl) (congrArg (fun x => some (Value.int x)) (zb_f (by first | (simp [mrs, nI_eq, zz_0, zz_0s, h_1, of_decide_eq_true h_2, h_2, of_decide_eq_true h_3, h_3, h_4, h_5, h_6, h_7, h_8, h_9]; done) | (simp [mrs, nI_eq, zz_0, zz_0s, h_1, of_decide_eq_true h_2, h_2, of_decide_eq_true h_3, h_3, h_4, h_5, h_6, h_7, h_8, h_9]; intro q; omega) | (simp [mrs, nI_eq, zz_0, zz_0s, h_1, of_decide_eq_true h_2, h_2, of_decide_eq_true h_3, h_3, h_4, h_5, h_6, h_7, h_8, h_9]; simpa [nI_eq, zz_0, zz_0s, h_1, of_decide_eq_true h_2, h_2, of_decide_eq_true h_3, h_3, h_4, h_5, h_6, h_7, h_8] using h_9))).symm)
                  · refine z_iconst C (nI 1) dX6_rests_166 (by decide) ?_
                    refine z_goto C 171 dX6_rests_167 (by decide) ?_
                    exact z_zret C N dX6_rests_171 rfl (rfl) (congrArg (fun x => some (Value.int x)) (zb_t (by first | (simp [mrs, nI_eq, zz_0, zz_0s, h_1, of_decide_eq_true h_2, h_2, of_decide_eq_true h_3, h_3, h_4, h_5, h_6, h_7, h_8, h_9]; done) | (simp [mrs, nI_eq, zz_0, zz_0s, h_1, of_decide_eq_true h_2, h_2, of_decide_eq_true h_3, h_3, h_4, h_5, h_6, h_7, h_8, h_9]; intro q; omega) | (simp [mrs, nI_eq, zz_0, zz_0s, h_1, of_decide_eq_true h_2, h_2, of_decide_eq_true h_3, h_3, h_4, h_5, h_6, h_7, h_8, h_9]; simpa [nI_eq, zz_0, zz_0s, h_1, of_decide_eq_true h_2, h_2, of_decide_eq_true h_3, h_3, h_4, h_5, h_6, h_7, h_8] using h_9))).symm)
                · refine z_sipush C (nI 329) dX6_rests_148 (by decide) ?_
                  refine z_goto C 157 dX6_rests_151 (by decide) ?_
                  refine z_callVr C kX6_of gX6_rests_X6_of (mX6_of_R X.2.1 a kp ty pl gd od vU vS vN vX vM vT vB vK vY vZ vR vC vV y hy) dX6_rests_157 [0, 1] [.int ((vK y) / (nI 2)), .int (nI x), .ref (a 0)] 0 rfl nd_0_1 rfl rfl rfl (by decide) (by decide) (Nat.le_of_ble_eq_true rfl) rfl ?_
                  refine z_callVr C kX6_isAtLine gX6_rests_X6_isAtLine (mX6_isAtLine X.2.1 a kp ty pl gd od vU vS vN vX vM vT vB vK vY vZ vR vC vV x ((vK y) / (nI 2)) (vR y) hx) dX6_rests_160 [0, 1] [] 0 rfl nd_0_1 rfl rfl rfl (by decide) (by decide) (Nat.le_of_ble_eq_true rfl) rfl ?_
                  refine z_bif_eq C 170 dX6_rests_163 (by decide) (fun h_10 => ?_) (fun h_10 => ?_)
                  · refine z_iconst C (nI 0) dX6_rests_170 (by decide) ?_
                    exact z_zret C N dX6_rests_171 rfl (rfl) (congrArg (fun x => some (Value.int x)) (zb_f (by first | (simp [mrs, nI_eq, zz_0, zz_0s, h_1, of_decide_eq_true h_2, h_2, of_decide_eq_true h_3, h_3, h_4, h_5, h_6, h_7, h_8, h_10]; done) | (simp [mrs, nI_eq, zz_0, zz_0s, h_1, of_decide_eq_true h_2, h_2, of_decide_eq_true h_3, h_3, h_4, h_5, h_6, h_7, h_8, h_10]; intro q; omega) | (simp [mrs, nI_eq, zz_0, zz_0s, h_1, of_decide_eq_true h_2, h_2, of_decide_eq_true h_3, h_3, h_4, h_5, h_6, h_7, h_8, h_10]; simpa [nI_eq, zz_0, zz_0s, h_1, of_decide_eq_true h_2, h_2, of_decide_eq_true h_3, h_3, h_4, h_5, h_6, h_7, h_8] using h_10))).symm)
                  · refine z_iconst C (nI 1) dX6_rests_166 (by decide) ?_
                    refine z_goto C 171 dX6_rests_167 (by decide) ?_
                    exact z_zret C N dX6_rests_171 rfl (rfl) (congrArg (fun x => some (Value.int x)) (zb_t (by first | (simp [mrs, nI_eq, zz_0, zz_0s, h_1, of_decide_eq_true h_2, h_2, of_decide_eq_true h_3, h_3, h_4, h_5, h_6, h_7, h_8, h_10]; done) | (simp [mrs, nI_eq, zz_0, zz_0s, h_1, of_decide_eq_true h_2, h_2, of_decide_eq_true h_3, h_3, h_4, h_5, h_6, h_7, h_8, h_10]; intro q; omega) | (simp [mrs, nI_eq, zz_0, zz_0s, h_1, of_decide_eq_true h_2, h_2, of_decide_eq_true h_3, h_3, h_4, h_5, h_6, h_7, h_8, h_10]; simpa [nI_eq, zz_0, zz_0s, h_1, of_decide_eq_true h_2, h_2, of_decide_eq_true h_3, h_3, h_4, h_5, h_6, h_7, h_8] using h_10))).symm)
            · refine z_iconst C (nI 1) dX6_rests_103 (by decide) ?_
              refine z_goto C 108 dX6_rests_104 (by decide) ?_
              refine z_istore C dX6_rests_108 (Nat.le_of_ble_eq_true rfl) ?_
              refine z_iload_n C 3 dX6_rests_110 rfl rfl ?_
              refine z_iload C dX6_rests_111 rfl ?_
              refine z_iconst C (nI 1) dX6_rests_113 (by decide) ?_
              refine z_iadd C dX6_rests_114 ?_
              refine z_icmp_ne C 122 dX6_rests_115 (by decide) (fun h_11 => ?_) (fun h_11 => ?_)
              · refine z_iconst C (nI 0) dX6_rests_122 (by decide) ?_
                refine z_istore C dX6_rests_123 (Nat.le_of_ble_eq_true rfl) ?_
                refine z_iload C dX6_rests_125 rfl ?_
                refine z_nif_ne_t C 135 dX6_rests_127 (by decide) (by omega) (by omega) ?_
                refine z_aload_n C 0 dX6_rests_135 rfl rfl ?_
                refine z_iload_n C 1 dX6_rests_136 rfl rfl ?_
                refine z_iload C dX6_rests_137 rfl ?_
                refine z_iconst C (nI 2) dX6_rests_139 (by decide) ?_
                refine z_idiv C dX6_rests_140 (by decide) ?_
                refine z_aload_n C 0 dX6_rests_141 rfl rfl ?_
                refine z_iload_n C 2 dX6_rests_142 rfl rfl ?_
                refine z_iload C dX6_rests_143 rfl ?_
                refine z_if_ne C 154 dX6_rests_145 (by decide) (fun h_12 => ?_) (fun h_12 => ?_)
                · refine z_sipush C (nI 389) dX6_rests_154 (by decide) ?_
                  refine z_callVr C kX6_of gX6_rests_X6_of (mX6_of_C X.2.1 a kp ty pl gd od vU vS vN vX vM vT vB vK vY vZ vR vC vV y hy) dX6_rests_157 [0, 1] [.int ((vK y) / (nI 2)), .int (nI x), .ref (a 0)] 0 rfl nd_0_1 rfl rfl rfl (by decide) (by decide) (Nat.le_of_ble_eq_true rfl) rfl ?_
                  refine z_callVr C kX6_isAtLine gX6_rests_X6_isAtLine (mX6_isAtLine X.2.1 a kp ty pl gd od vU vS vN vX vM vT vB vK vY vZ vR vC vV x ((vK y) / (nI 2)) (vC y) hx) dX6_rests_160 [0, 1] [] 0 rfl nd_0_1 rfl rfl rfl (by decide) (by decide) (Nat.le_of_ble_eq_true rfl) rfl ?_
                  refine z_bif_eq C 170 dX6_rests_163 (by decide) (fun h_13 => ?_) (fun h_13 => ?_)
                  · refine z_iconst C (nI 0) dX6_rests_170 (by decide) ?_
                    exact z_zret C N dX6_rests_171 rfl (rfl) (congrArg (fun x => some (Value.int x)) (zb_f (by first | (simp [mrs, nI_eq, zz_0, zz_0s, h_1, of_decide_eq_true h_2, h_2, of_decide_eq_true h_3, h_3, h_4, h_5, h_6, h_11, h_12, h_13]; done) | (simp [mrs, nI_eq, zz_0, zz_0s, h_1, of_decide_eq_true h_2, h_2, of_decide_eq_true h_3, h_3, h_4, h_5, h_6, h_11, h_12, h_13]; intro q; omega) | (simp [mrs, nI_eq, zz_0, zz_0s, h_1, of_decide_eq_true h_2, h_2, of_decide_eq_true h_3, h_3, h_4, h_5, h_6, h_11, h_12, h_13]; simpa [nI_eq, zz_0, zz_0s, h_1, of_decide_eq_true h_2, h_2, of_decide_eq_true h_3, h_3, h_4, h_5, h_6, h_11, h_12] using h_13))).symm)
                  · refine z_iconst C (nI 1) dX6_rests_166 (by decide) ?_
                    refine z_goto C 171 dX6_rests_167 (by decide) ?_
                    exact z_zret C N dX6_rests_171 rfl (rfl) (congrArg (fun x => some (Value.int x)) (zb_t (by first | (simp [mrs, nI_eq, zz_0, zz_0s, h_1, of_decide_eq_true h_2, h_2, of_decide_eq_true h_3, h_3, h_4, h_5, h_6, h_11, h_12, h_13]; done) | (simp [mrs, nI_eq, zz_0, zz_0s, h_1, of_decide_eq_true h_2, h_2, of_decide_eq_true h_3, h_3, h_4, h_5, h_6, h_11, h_12, h_13]; intro q; omega) | (simp [mrs, nI_eq, zz_0, zz_0s, h_1, of_decide_eq_true h_2, h_2, of_decide_eq_true h_3, h_3, h_4, h_5, h_6, h_11, h_12, h_13]; simpa [nI_eq, zz_0, zz_0s, h_1, of_decide_eq_true h_2, h_2, of_decide_eq_true h_3, h_3, h_4, h_5, h_6, h_11, h_12] using h_13))).symm)
                · refine z_sipush C (nI 329) dX6_rests_148 (by decide) ?_
                  refine z_goto C 157 dX6_rests_151 (by decide) ?_
                  refine z_callVr C kX6_of gX6_rests_X6_of (mX6_of_R X.2.1 a kp ty pl gd od vU vS vN vX vM vT vB vK vY vZ vR vC vV y hy) dX6_rests_157 [0, 1] [.int ((vK y) / (nI 2)), .int (nI x), .ref (a 0)] 0 rfl nd_0_1 rfl rfl rfl (by decide) (by decide) (Nat.le_of_ble_eq_true rfl) rfl ?_
                  refine z_callVr C kX6_isAtLine gX6_rests_X6_isAtLine (mX6_isAtLine X.2.1 a kp ty pl gd od vU vS vN vX vM vT vB vK vY vZ vR vC vV x ((vK y) / (nI 2)) (vR y) hx) dX6_rests_160 [0, 1] [] 0 rfl nd_0_1 rfl rfl rfl (by decide) (by decide) (Nat.le_of_ble_eq_true rfl) rfl ?_
                  refine z_bif_eq C 170 dX6_rests_163 (by decide) (fun h_14 => ?_) (fun h_14 => ?_)
                  · refine z_iconst C (nI 0) dX6_rests_170 (by decide) ?_
                    exact z_zret C N dX6_rests_171 rfl (rfl) (congrArg (fun x => some (Value.int x)) (zb_f (by first | (simp [mrs, nI_eq, zz_0, zz_0s, h_1, of_decide_eq_true h_2, h_2, of_decide_eq_true h_3, h_3, h_4, h_5, h_6, h_11, h_12, h_14]; done) | (simp [mrs, nI_eq, zz_0, zz_0s, h_1, of_decide_eq_true h_2, h_2, of_decide_eq_true h_3, h_3, h_4, h_5, h_6, h_11, h_12, h_14]; intro q; omega) | (simp [mrs, nI_eq, zz_0, zz_0s, h_1, of_decide_eq_true h_2, h_2, of_decide_eq_true h_3, h_3, h_4, h_5, h_6, h_11, h_12, h_14]; simpa [nI_eq, zz_0, zz_0s, h_1, of_decide_eq_true h_2, h_2, of_decide_eq_true h_3, h_3, h_4, h_5, h_6, h_11, h_12] using h_14))).symm)
                  · refine z_iconst C (nI 1) dX6_rests_166 (by decide) ?_
                    refine z_goto C 171 dX6_rests_167 (by decide) ?_
                    exact z_zret C N dX6_rests_171 rfl (rfl) (congrArg (fun x => some (Value.int x)) (zb_t (by first | (simp [mrs, nI_eq, zz_0, zz_0s, h_1, of_decide_eq_true h_2, h_2, of_decide_eq_true h_3, h_3, h_4, h_5, h_6, h_11, h_12, h_14]; done) | (simp [mrs, nI_eq, zz_0, zz_0s, h_1, of_decide_eq_true h_2, h_2, of_decide_eq_true h_3, h_3, h_4, h_5, h_6, h_11, h_12, h_14]; intro q; omega) | (simp [mrs, nI_eq, zz_0, zz_0s, h_1, of_decide_eq_true h_2, h_2, of_decide_eq_true h_3, h_3, h_4, h_5, h_6, h_11, h_12, h_14]; simpa [nI_eq, zz_0, zz_0s, h_1, of_decide_eq_true h_2, h_2, of_decide_eq_true h_3, h_3, h_4, h_5, h_6, h_11, h_12] using h_14))).symm)
              · refine z_iconst C (nI 1) dX6_rests_118 (by decide) ?_
                refine z_goto C 123 dX6_rests_119 (by decide) ?_
                refine z_istore C dX6_rests_123 (Nat.le_of_ble_eq_true rfl) ?_
                refine z_iload C dX6_rests_125 rfl ?_
                refine z_nif_ne_t C 135 dX6_rests_127 (by decide) (by omega) (by omega) ?_
                refine z_aload_n C 0 dX6_rests_135 rfl rfl ?_
                refine z_iload_n C 1 dX6_rests_136 rfl rfl ?_
                refine z_iload C dX6_rests_137 rfl ?_
                refine z_iconst C (nI 2) dX6_rests_139 (by decide) ?_
                refine z_idiv C dX6_rests_140 (by decide) ?_
                refine z_aload_n C 0 dX6_rests_141 rfl rfl ?_
                refine z_iload_n C 2 dX6_rests_142 rfl rfl ?_
                refine z_iload C dX6_rests_143 rfl ?_
                refine z_if_ne C 154 dX6_rests_145 (by decide) (fun h_15 => ?_) (fun h_15 => ?_)
                · refine z_sipush C (nI 389) dX6_rests_154 (by decide) ?_
                  refine z_callVr C kX6_of gX6_rests_X6_of (mX6_of_C X.2.1 a kp ty pl gd od vU vS vN vX vM vT vB vK vY vZ vR vC vV y hy) dX6_rests_157 [0, 1] [.int ((vK y) / (nI 2)), .int (nI x), .ref (a 0)] 0 rfl nd_0_1 rfl rfl rfl (by decide) (by decide) (Nat.le_of_ble_eq_true rfl) rfl ?_
                  refine z_callVr C kX6_isAtLine gX6_rests_X6_isAtLine (mX6_isAtLine X.2.1 a kp ty pl gd od vU vS vN vX vM vT vB vK vY vZ vR vC vV x ((vK y) / (nI 2)) (vC y) hx) dX6_rests_160 [0, 1] [] 0 rfl nd_0_1 rfl rfl rfl (by decide) (by decide) (Nat.le_of_ble_eq_true rfl) rfl ?_
                  refine z_bif_eq C 170 dX6_rests_163 (by decide) (fun h_16 => ?_) (fun h_16 => ?_)
                  · refine z_iconst C (nI 0) dX6_rests_170 (by decide) ?_
                    exact z_zret C N dX6_rests_171 rfl (rfl) (congrArg (fun x => some (Value.int x)) (zb_f (by first | (simp [mrs, nI_eq, zz_0, zz_0s, h_1, of_decide_eq_true h_2, h_2, of_decide_eq_true h_3, h_3, h_4, h_5, h_6, h_11, h_15, h_16]; done) | (simp [mrs, nI_eq, zz_0, zz_0s, h_1, of_decide_eq_true h_2, h_2, of_decide_eq_true h_3, h_3, h_4, h_5, h_6, h_11, h_15, h_16]; intro q; omega) | (simp [mrs, nI_eq, zz_0, zz_0s, h_1, of_decide_eq_true h_2, h_2, of_decide_eq_true h_3, h_3, h_4, h_5, h_6, h_11, h_15, h_16]; simpa [nI_eq, zz_0, zz_0s, h_1, of_decide_eq_true h_2, h_2, of_decide_eq_true h_3, h_3, h_4, h_5, h_6, h_11, h_15] using h_16))).symm)
                  · refine z_iconst C (nI 1) dX6_rests_166 (by decide) ?_
                    refine z_goto C 171 dX6_rests_167 (by decide) ?_
                    exact z_zret C N dX6_rests_171 rfl (rfl) (congrArg (fun x => some (Value.int x)) (zb_t (by first | (simp [mrs, nI_eq, zz_0, zz_0s, h_1, of_decide_eq_true h_2, h_2, of_decide_eq_true h_3, h_3, h_4, h_5, h_6, h_11, h_15, h_16]; done) | (simp [mrs, nI_eq, zz_0, zz_0s, h_1, of_decide_eq_true h_2, h_2, of_decide_eq_true h_3, h_3, h_4, h_5, h_6, h_11, h_15, h_16]; intro q; omega) | (simp [mrs, nI_eq, zz_0, zz_0s, h_1, of_decide_eq_true h_2, h_2, of_decide_eq_true h_3, h_3, h_4, h_5, h_6, h_11, h_15, h_16]; simpa [nI_eq, zz_0, zz_0s, h_1, of_decide_eq_true h_2, h_2, of_decide_eq_true h_3, h_3, h_4, h_5, h_6, h_11, h_15] using h_16))).symm)
                · refine z_sipush C (nI 329) dX6_rests_148 (by decide) ?_
                  refine z_goto C 157 dX6_rests_151 (by decide) ?_
                  refine z_callVr C kX6_of gX6_rests_X6_of (mX6_of_R X.2.1 a kp ty pl gd od vU vS vN vX vM vT vB vK vY vZ vR vC vV y hy) dX6_rests_157 [0, 1] [.int ((vK y) / (nI 2)), .int (nI x), .ref (a 0)] 0 rfl nd_0_1 rfl rfl rfl (by decide) (by decide) (Nat.le_of_ble_eq_true rfl) rfl ?_
                  refine z_callVr C kX6_isAtLine gX6_rests_X6_isAtLine (mX6_isAtLine X.2.1 a kp ty pl gd od vU vS vN vX vM vT vB vK vY vZ vR vC vV x ((vK y) / (nI 2)) (vR y) hx) dX6_rests_160 [0, 1] [] 0 rfl nd_0_1 rfl rfl rfl (by decide) (by decide) (Nat.le_of_ble_eq_true rfl) rfl ?_
                  refine z_bif_eq C 170 dX6_rests_163 (by decide) (fun h_17 => ?_) (fun h_17 => ?_)
                  · refine z_iconst C (nI 0) dX6_rests_170 (by decide) ?_
                    exact z_zret C N dX6_rests_171 rfl (rfl) (congrArg (fun x => some (Value.int x)) (zb_f (by first | (simp [mrs, nI_eq, zz_0, zz_0s, h_1, of_decide_eq_true h_2, h_2, of_decide_eq_true h_3, h_3, h_4, h_5, h_6, h_11, h_15, h_17]; done) | (simp [mrs, nI_eq, zz_0, zz_0s, h_1, of_decide_eq_true h_2, h_2, of_decide_eq_true h_3, h_3, h_4, h_5, h_6, h_11, h_15, h_17]; intro q; omega) | (simp [mrs, nI_eq, zz_0, zz_0s, h_1, of_decide_eq_true h_2, h_2, of_decide_eq_true h_3, h_3, h_4, h_5, h_6, h_11, h_15, h_17]; simpa [nI_eq, zz_0, zz_0s, h_1, of_decide_eq_true h_2, h_2, of_decide_eq_true h_3, h_3, h_4, h_5, h_6, h_11, h_15] using h_17))).symm)
                  · refine z_iconst C (nI 1) dX6_rests_166 (by decide) ?_
                    refine z_goto C 171 dX6_rests_167 (by decide) ?_
                    exact z_zret C N dX6_rests_171 rfl (rfl) (congrArg (fun x => some (Value.int x)) (zb_t (by first | (simp [mrs, nI_eq, zz_0, zz_0s, h_1, of_decide_eq_true h_2, h_2, of_decide_eq_true h_3, h_3, h_4, h_5, h_6, h_11, h_15, h_17]; done) | (simp [mrs, nI_eq, zz_0, zz_0s, h_1, of_decide_eq_true h_2, h_2, of_decide_eq_true h_3, h_3, h_4, h_5, h_6, h_11, h_15, h_17]; intro q; omega) | (simp [mrs, nI_eq, zz_0, zz_0s, h_1, of_decide_eq_true h_2, h_2, of_decide_eq_true h_3, h_3, h_4, h_5, h_6, h_11, h_15, h_17]; simpa [nI_eq, zz_0, zz_0s, h_1, of_decide_eq_true h_2, h_2, of_decide_eq_true h_3, h_3, h_4, h_5, h_6, h_11, h_15] using h_17))).symm)
          · refine z_iconst C (nI 0) dX6_rests_96 (by decide) ?_
            exact z_zret C N dX6_rests_97 rfl (rfl) (congrArg (fun x => some (Value.int x)) (zb_f (by first | (simp [mrs, nI_eq, zz_0, zz_0s, h_1, of_decide_eq_true h_2, h_2, of_decide_eq_true h_3, h_3, h_4, h_5]; done) | (simp [mrs, nI_eq, zz_0, zz_0s, h_1, of_decide_eq_true h_2, h_2, of_decide_eq_true h_3, h_3, h_4, h_5]; intro q; omega) | (simp [mrs, nI_eq, zz_0, zz_0s, h_1, of_decide_eq_true h_2, h_2, of_decide_eq_true h_3, h_3, h_4, h_5]; simpa [nI_eq, zz_0, zz_0s, h_1, of_decide_eq_true h_2, h_2, of_decide_eq_true h_3, h_3, h_4] using h_5))).symm)
        · refine z_iload_n C 3 dX6_rests_48 rfl rfl ?_
          refine z_iconst C (nI 4) dX6_rests_49 (by decide) ?_
          refine z_icmp_ne C 86 dX6_rests_50 (by decide) (fun h_18 => ?_) (fun h_18 => ?_)
          · refine z_iconst C (nI 0) dX6_rests_86 (by decide) ?_
            exact z_zret C N dX6_rests_87 rfl (rfl) (congrArg (fun x => some (Value.int x)) (zb_f (by first | (simp [mrs, nI_eq, zz_0, zz_0s, h_1, of_decide_eq_true h_2, h_2, of_decide_eq_true h_3, h_3, h_4, h_18]; done) | (simp [mrs, nI_eq, zz_0, zz_0s, h_1, of_decide_eq_true h_2, h_2, of_decide_eq_true h_3, h_3, h_4, h_18]; intro q; omega) | (simp [mrs, nI_eq, zz_0, zz_0s, h_1, of_decide_eq_true h_2, h_2, of_decide_eq_true h_3, h_3, h_4, h_18]; simpa [nI_eq, zz_0, zz_0s, h_1, of_decide_eq_true h_2, h_2, of_decide_eq_true h_3, h_3, h_4] using h_18))).symm)
          · refine z_iload_n C 2 dX6_rests_53 rfl rfl ?_
            refine z_iload_n C 1 dX6_rests_54 rfl rfl ?_
            refine z_ncmp_ge C 86 dX6_rests_55 (by decide) (by omega) (by omega) (fun h_19 => ?_) (fun h_19 => ?_)
            · refine z_iconst C (nI 0) dX6_rests_86 (by decide) ?_
              exact z_zret C N dX6_rests_87 rfl (rfl) (congrArg (fun x => some (Value.int x)) (zb_f (by first | (simp [mrs, nI_eq, zz_0, zz_0s, h_1, of_decide_eq_true h_2, h_2, of_decide_eq_true h_3, h_3, h_4, h_18, h_19]; done) | (simp [mrs, nI_eq, zz_0, zz_0s, h_1, of_decide_eq_true h_2, h_2, of_decide_eq_true h_3, h_3, h_4, h_18, h_19]; intro q; omega) | (simp [mrs, nI_eq, zz_0, zz_0s, h_1, of_decide_eq_true h_2, h_2, of_decide_eq_true h_3, h_3, h_4, h_18, h_19]; simpa [nI_eq, zz_0, zz_0s, h_1, of_decide_eq_true h_2, h_2, of_decide_eq_true h_3, h_3, h_4, h_18] using h_19))).symm)
            · refine z_aload_n C 0 dX6_rests_58 rfl rfl ?_
              refine z_iload_n C 2 dX6_rests_59 rfl rfl ?_
              refine z_aload_n C 0 dX6_rests_60 rfl rfl ?_
              refine z_iload_n C 1 dX6_rests_61 rfl rfl ?_
              refine z_sipush C (nI 329) dX6_rests_62 (by decide) ?_
              refine z_callVr C kX6_of gX6_rests_X6_of (mX6_of_R X.2.1 a kp ty pl gd od vU vS vN vX vM vT vB vK vY vZ vR vC vV x hx) dX6_rests_65 [0, 1] [.int (nI y), .ref (a 0)] 0 rfl nd_0_1 rfl rfl rfl (by decide) (by decide) (Nat.le_of_ble_eq_true rfl) rfl ?_
              refine z_aload_n C 0 dX6_rests_68 rfl rfl ?_
              refine z_iload_n C 1 dX6_rests_69 rfl rfl ?_
              refine z_sipush C (nI 389) dX6_rests_70 (by decide) ?_
              refine z_callVr C kX6_of gX6_rests_X6_of (mX6_of_C X.2.1 a kp ty pl gd od vU vS vN vX vM vT vB vK vY vZ vR vC vV x hx) dX6_rests_73 [0, 1] [.int (vR x), .int (nI y), .ref (a 0)] 0 rfl nd_0_1 rfl rfl rfl (by decide) (by decide) (Nat.le_of_ble_eq_true rfl) rfl ?_
              refine z_callVr C kX6_isSettingOf gX6_rests_X6_isSettingOf (mX6_isSettingOf X.2.1 a kp ty pl gd od vU vS vN vX vM vT vB vK vY vZ vR vC vV y (vR x) (vC x) hy) dX6_rests_76 [0, 1] [] 0 rfl nd_0_1 rfl rfl rfl (by decide) (by decide) (Nat.le_of_ble_eq_true rfl) rfl ?_
              refine z_bif_eq C 86 dX6_rests_79 (by decide) (fun h_20 => ?_) (fun h_20 => ?_)
              · refine z_iconst C (nI 0) dX6_rests_86 (by decide) ?_
                exact z_zret C N dX6_rests_87 rfl (rfl) (congrArg (fun x => some (Value.int x)) (zb_f (by first | (simp [mrs, nI_eq, zz_0, zz_0s, h_1, of_decide_eq_true h_2, h_2, of_decide_eq_true h_3, h_3, h_4, h_18, h_19, h_20]; done) | (simp [mrs, nI_eq, zz_0, zz_0s, h_1, of_decide_eq_true h_2, h_2, of_decide_eq_true h_3, h_3, h_4, h_18, h_19, h_20]; intro q; omega) | (simp [mrs, nI_eq, zz_0, zz_0s, h_1, of_decide_eq_true h_2, h_2, of_decide_eq_true h_3, h_3, h_4, h_18, h_19, h_20]; simpa [nI_eq, zz_0, zz_0s, h_1, of_decide_eq_true h_2, h_2, of_decide_eq_true h_3, h_3, h_4, h_18, h_19] using h_20))).symm)
              · refine z_iconst C (nI 1) dX6_rests_82 (by decide) ?_
                refine z_goto C 87 dX6_rests_83 (by decide) ?_
                exact z_zret C N dX6_rests_87 rfl (rfl) (congrArg (fun x => some (Value.int x)) (zb_t (by first | (simp [mrs, nI_eq, zz_0, zz_0s, h_1, of_decide_eq_true h_2, h_2, of_decide_eq_true h_3, h_3, h_4, h_18, h_19, h_20]; done) | (simp [mrs, nI_eq, zz_0, zz_0s, h_1, of_decide_eq_true h_2, h_2, of_decide_eq_true h_3, h_3, h_4, h_18, h_19, h_20]; intro q; omega) | (simp [mrs, nI_eq, zz_0, zz_0s, h_1, of_decide_eq_true h_2, h_2, of_decide_eq_true h_3, h_3, h_4, h_18, h_19, h_20]; simpa [nI_eq, zz_0, zz_0s, h_1, of_decide_eq_true h_2, h_2, of_decide_eq_true h_3, h_3, h_4, h_18, h_19] using h_20))).symm)
      · refine z_iconst C (nI 0) dX6_rests_21 (by decide) ?_
        exact z_zret C N dX6_rests_22 rfl (rfl) (congrArg (fun x => some (Value.int x)) (zb_f (by first | (simp [mrs, nI_eq, zz_0, zz_0s, h_1, of_decide_eq_true h_2, h_2, of_decide_eq_false h_3, h_3]; done) | (simp [mrs, nI_eq, zz_0, zz_0s, h_1, of_decide_eq_true h_2, h_2, of_decide_eq_false h_3, h_3]; intro q; omega) | (simp [mrs, nI_eq, zz_0, zz_0s, h_1, of_decide_eq_true h_2, h_2, of_decide_eq_false h_3, h_3]; simpa [nI_eq, zz_0, zz_0s, h_1, of_decide_eq_true h_2, h_2, of_decide_eq_false h_3] using h_3))).symm)
