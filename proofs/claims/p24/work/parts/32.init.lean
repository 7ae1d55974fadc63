/-! the constructors of the class -/
def in9 (j v : Nat) (f : Nat → Int32) : Nat → Int32 := upd f j (nI v)
theorem kX0_init : zY yX0_init wsX0_init cX0_init 1 none 0 := ⟨⟨_, rfl⟩, ⟨by decide +kernel, by decide +kernel, by decide +kernel⟩, by decide +kernel⟩
theorem fX0_init_9 : zF wsX0_init RX0 9 0 0 RX0 TX0 2 := ⟨by decide +kernel, rfl, by decide, by decide +kernel, rfl⟩
theorem fuX0_0 : zFt 0 2 TX0 tyX0 true := ⟨tyX0_ok, nmX0, rfl⟩
set_option maxHeartbeats 4000000 in
set_option maxRecDepth 100000 in
theorem mX0_init (E : zE) (h : Nat) : zMI E yX0_init wsX0_init 1 1 360 [.ref h] [(h, .inr (0, [.null, .int 0]))] (fun q => [(h, .inr (0, [.ref (q 0), .int 0])), (q 0, .inl (E.2.2.1, 360, .inl (fun _ => 0)))]) := by
  refine zMI.of kX0_init rfl (Nat.le_of_ble_eq_true rfl) rfl [some (.ref h)] rfl (Nat.le_of_ble_eq_true rfl) ?_
  intro X eX C N
  subst eX
  refine z_aload_n C 0 dX0_init_0 rfl rfl ?_
  refine z_obj C (by decide +kernel) (by decide +kernel) (by decide +kernel) dX0_init_1 (by decide) ?_
  refine z_aload_n C 0 dX0_init_4 rfl rfl ?_
  refine z_sipush C (nI 360) dX0_init_5 (by decide) ?_
  refine z_newI C N (by decide +kernel) (by decide) (nI_clamp (by decide)) (by decide) rfl rfl (by decide) (by decide) dX0_init_8 (fun q0 => ?_)
  have C := N.cells C (k' := 1) (n' := 360) (by decide) (by decide)
  refine z_putF C N fX0_init_9 fuX0_0 0 dX0_init_10 rfl rfl rfl (Nat.le_of_ble_eq_true rfl) ?_
  exact z_vretI C N dX0_init_13 (fun _ => q0) [0, 1] rfl (by decide) (by decide) (by decide)
theorem kX3_init : zY yX3_init wsX3_init cX3_init 1 none 0 := ⟨⟨_, rfl⟩, ⟨by decide +kernel, by decide +kernel, by decide +kernel⟩, by decide +kernel⟩
theorem fX3_init_9 : zF wsX3_init RX3 9 3 0 RX3 TX3 8 := ⟨by decide +kernel, rfl, by decide, by decide +kernel, rfl⟩
theorem fuX3_0 : zFt 0 8 TX3 tyX3 true := ⟨tyX3_ok, nmX3, rfl⟩
set_option maxHeartbeats 4000000 in
set_option maxRecDepth 100000 in
theorem mX3_init (E : zE) (h : Nat) : zMI E yX3_init wsX3_init 1 1 60 [.ref h] [(h, .inr (3, [.null, .int 0, .int 0, .int 0, .int 0, .int 0, .int 0, .int 0]))] (fun q => [(h, .inr (3, [.ref (q 0), .int 0, .int 0, .int 0, .int 0, .int 0, .int 0, .int 0])), (q 0, .inl (E.2.2.2.1, 60, .inl (fun _ => 0)))]) := by
  refine zMI.of kX3_init rfl (Nat.le_of_ble_eq_true rfl) rfl [some (.ref h)] rfl (Nat.le_of_ble_eq_true rfl) ?_
  intro X eX C N
  subst eX
  refine z_aload_n C 0 dX3_init_0 rfl rfl ?_
  refine z_obj C (by decide +kernel) (by decide +kernel) (by decide +kernel) dX3_init_1 (by decide) ?_
  refine z_aload_n C 0 dX3_init_4 rfl rfl ?_
  refine z_bipush C (nI 60) dX3_init_5 (by decide) ?_
  refine z_newC C N (by decide +kernel) (by decide) (nI_clamp (by decide)) (by decide) rfl rfl (by decide) (by decide) dX3_init_7 (fun q0 => ?_)
  have C := N.cells C (k' := 1) (n' := 60) (by decide) (by decide)
  refine z_putF C N fX3_init_9 fuX3_0 0 dX3_init_9 rfl rfl rfl (Nat.le_of_ble_eq_true rfl) ?_
  exact z_vretI C N dX3_init_12 (fun _ => q0) [0, 1] rfl (by decide) (by decide) (by decide)
theorem kX2_init : zY yX2_init wsX2_init cX2_init 3 none 1 := ⟨⟨_, rfl⟩, ⟨by decide +kernel, by decide +kernel, by decide +kernel⟩, by decide +kernel⟩
theorem fX2_init_15 : zF wsX2_init RX2 15 2 0 RX2 TX2 2 := ⟨by decide +kernel, rfl, by decide, by decide +kernel, rfl⟩
theorem fuX2_0 : zFt 0 2 TX2 tyX2 true := ⟨tyX2_ok, nmX2, rfl⟩
theorem fxX2_init : zMax wsX2_init RX2 9 := ⟨by decide +kernel, by decide +kernel, by decide +kernel, by decide +kernel⟩
set_option maxHeartbeats 4000000 in
set_option maxRecDepth 100000 in
theorem mX2_init (E : zE) (h M : Nat) (hM : M < 1000) : zMI E yX2_init wsX2_init 2 1 M [.ref h, .int (nI M)] [(h, .inr (2, [.null, .int 0]))] (fun q => [(h, .inr (2, [.ref (q 0), .int 0])), (q 0, .inl (E.2.2.1, M, .inl nI))]) := by
  refine zMI.of kX2_init rfl (Nat.le_of_ble_eq_true rfl) rfl [some (.ref h), some (.int (nI M)), none] rfl (Nat.le_of_ble_eq_true rfl) ?_
  intro X eX C N
  subst eX
  refine z_aload_n C 0 dX2_init_0 rfl rfl ?_
  refine z_obj C (by decide +kernel) (by decide +kernel) (by decide +kernel) dX2_init_1 (by decide) ?_
  refine z_aload_n C 0 dX2_init_4 rfl rfl ?_
  refine z_iload_n C 1 dX2_init_5 rfl rfl ?_
  refine z_iconst C (nI 0) dX2_init_6 (by decide) ?_
  refine z_mmax C fxX2_init dX2_init_7 (by decide) (Nat.le_of_ble_eq_true rfl) ?_
  refine z_top (y := nI M) (if_neg (fun q => by rw [nI_ltI (by omega) (by decide)] at q; omega)) ?_
  refine z_newI C N (by decide +kernel) (fun q => nI_pos (by omega) q) (nI_clamp (by omega)) (by omega) rfl (Nat.zero_add M) (by decide) (Nat.le_refl M) dX2_init_10 (fun q0 => ?_)
  have C := N.cells C (k' := 1) (n' := M) (by decide) (Nat.le_refl M)
  refine z_putF C N fX2_init_15 fuX2_0 0 dX2_init_12 rfl rfl rfl (Nat.le_of_ble_eq_true rfl) ?_
  refine z_iconst C (nI 0) dX2_init_15 (by decide) ?_
  refine z_istore_n C 2 dX2_init_16 rfl (Nat.le_of_ble_eq_true rfl) ?_
  have hL : ∀ (dd i : Nat) (g : Nat → Int32), M - i = dd → i ≤ M → (∀ j, j < i → g j = nI j) → zG X 1 M [(h, .inr (2, [.ref q0, .int 0])), (q0, .inl (X.2.1.2.2.1, M, .inl g))] [some (.ref h), some (.int (nI M)), some (.int (nI i))] [] 17 := by
    intro dd
    induction dd with
    | zero =>
      intro i g h1 h2 h3
      refine z_iload_n C 2 dX2_init_17 rfl rfl ?_
      refine z_aload_n C 0 dX2_init_18 rfl rfl ?_
      refine z_get C fX2_init_15 0 dX2_init_19 rfl rfl ?_
      refine z_alen C 1 dX2_init_22 rfl ?_
      refine z_ncmp_ge_t C 39 dX2_init_23 (by decide) (by omega) (by omega) (by omega) ?_
      refine z_ext 1 nI rfl (fun j hj => h3 j (by omega)) ?_
      exact z_vretI C N dX2_init_39 (fun _ => q0) [0, 1] rfl (by decide) (by decide) (Nat.le_refl M)
    | succ dd ih =>
      intro i g h1 h2 h3
      refine z_iload_n C 2 dX2_init_17 rfl rfl ?_
      refine z_aload_n C 0 dX2_init_18 rfl rfl ?_
      refine z_get C fX2_init_15 0 dX2_init_19 rfl rfl ?_
      refine z_alen C 1 dX2_init_22 rfl ?_
      refine z_ncmp_ge_f C 39 dX2_init_23 (by decide) (by omega) (by omega) (by omega) ?_
      refine z_aload_n C 0 dX2_init_26 rfl rfl ?_
      refine z_get C fX2_init_15 0 dX2_init_27 rfl rfl ?_
      refine z_iload_n C 2 dX2_init_30 rfl rfl ?_
      refine z_iload_n C 2 dX2_init_31 rfl rfl ?_
      refine z_iastN C 1 dX2_init_32 rfl (by omega) (by omega) ?_
      refine z_iinc C (nI (i + 1)) dX2_init_33 rfl (zi_1 _) ?_
      refine z_goto C 17 dX2_init_36 (by decide) ?_
      refine ih (i + 1) (upd g i (nI i)) (by omega) (by omega) (fun j hj => ?_)
      simp only [upd]
      split
      · rename_i e
        rw [e]
      · exact h3 j (by omega)
  exact hL _ 0 _ rfl (Nat.zero_le _) (fun j hj => absurd hj (Nat.not_lt_zero _))
