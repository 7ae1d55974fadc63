/-! the constructors of Table, History, TrackedTable -/
theorem kX4_init : zY yX4_init wsX4_init cX4_init 1 none 0 := ⟨⟨_, rfl⟩, ⟨(by decide +kernel), (by decide +kernel), (by decide +kernel)⟩, (by decide +kernel)⟩
theorem fX4_init_14 : zF wsX4_init RX4 14 4 0 RX4 TX4 5 := ⟨(by decide +kernel), rfl, by decide, (by decide +kernel), rfl⟩
theorem fX4_init_20 : zF wsX4_init RX4 20 4 1 RX4 TX4 5 := ⟨(by decide +kernel), rfl, by decide, (by decide +kernel), rfl⟩
theorem fX4_init_23 : zF wsX4_init RX4 23 4 2 RX4 TX4 5 := ⟨(by decide +kernel), rfl, by decide, (by decide +kernel), rfl⟩
theorem fX4_init_30 : zF wsX4_init RX4 30 4 3 RX4 TX4 5 := ⟨(by decide +kernel), rfl, by decide, (by decide +kernel), rfl⟩
theorem fX4_init_34 : zF wsX4_init RX4 34 4 4 RX4 TX4 5 := ⟨(by decide +kernel), rfl, by decide, (by decide +kernel), rfl⟩
theorem fuX4_0 : zFt 0 5 TX4 tyX4 true := ⟨tyX4_ok, nmX4, rfl⟩
theorem fuX4_1 : zFt 1 5 TX4 tyX4 true := ⟨tyX4_ok, nmX4, rfl⟩
theorem fuX4_2 : zFt 2 5 TX4 tyX4 true := ⟨tyX4_ok, nmX4, rfl⟩
theorem fuX4_3 : zFt 3 5 TX4 tyX4 true := ⟨tyX4_ok, nmX4, rfl⟩
set_option maxHeartbeats 4000000 in
set_option maxRecDepth 100000 in
theorem mX4_init (E : zE) (h : Nat) : zMI E yX4_init wsX4_init 3 7 482 [.ref h] [(h, .inr (4, [.null, .null, .null, .null, .int 0]))] (fun q => [(h, .inr (4, [.ref (q 1), .ref (q 3), .ref (q 5), .ref (q 6), .int (nI 1)])), (q 1, .inr (2, [.ref (q 2), .int 0])), (q 2, .inl (E.2.2.1, 12, .inl nI)), (q 3, .inr (2, [.ref (q 4), .int 0])), (q 4, .inl (E.2.2.1, 8, .inl nI)), (q 5, .inl (E.2.2.1, 96, .inl (fun _ => 0))), (q 6, .inr (0, [.ref (q 7), .int 0])), (q 7, .inl (E.2.2.1, 360, .inl (fun _ => 0)))]) := by
  refine zMI.of kX4_init rfl (Nat.le_of_ble_eq_true rfl) rfl [some (.ref h)] rfl (Nat.le_of_ble_eq_true rfl) ?_
  intro X eX C N
  subst eX
  refine z_aload_n C 0 dX4_init_0 rfl rfl ?_
  refine z_obj C (by decide +kernel) (by decide +kernel) (by decide +kernel) dX4_init_1 (by decide) ?_
  refine z_aload_n C 0 dX4_init_4 rfl rfl ?_
  refine z_new C N 2 tyX2 (by decide +kernel) tyX2_ok (by decide +kernel) (by decide +kernel) (by decide +kernel) rfl (fs := [.null, .int 0]) (fun j hj => by rcases (show j = 0 ∨ j = 1 by omega) with rfl | rfl <;> rfl) rfl rfl (k' := 1) (n' := 2) (by decide) (by decide) dX4_init_5 (fun a => ?_)
  have C := N.cells C (k' := 1) (n' := 2) (by decide) (by decide)
  refine z_dup C dX4_init_8 rfl ?_
  refine z_bipush C (nI 12) dX4_init_9 (by decide) ?_
  refine z_callI (wr := [(h, .inr (4, [.null, .null, .null, .null, .int 0]))]) C N kX2_init rfl gX4_init_X2_init (by decide +kernel) (by decide +kernel) (by decide +kernel) (mX2_init X.2.1 a 12 (by decide)) dX4_init_11 [1] [0] [.ref a, .ref h] rfl rfl (by decide) (by decide) (by decide) rfl (Nat.le_of_ble_eq_true rfl) (Nat.le_of_ble_eq_true rfl) (by simp [Value.category]) rfl rfl rfl (k' := 2) (n' := 14) (by decide) (by decide) (fun qa => ?_)
  have C := N.cells C (k' := 2) (n' := 14) (by decide) (by decide)
  refine z_putF C N fX4_init_14 fuX4_0 0 dX4_init_14 rfl rfl rfl (Nat.le_of_ble_eq_true rfl) ?_
  refine z_aload_n C 0 dX4_init_17 rfl rfl ?_
  refine z_new C N 2 tyX2 (by decide +kernel) tyX2_ok (by decide +kernel) (by decide +kernel) (by decide +kernel) rfl (fs := [.null, .int 0]) (fun j hj => by rcases (show j = 0 ∨ j = 1 by omega) with rfl | rfl <;> rfl) rfl rfl (k' := 3) (n' := 16) (by decide) (by decide) dX4_init_18 (fun b => ?_)
  have C := N.cells C (k' := 3) (n' := 16) (by decide) (by decide)
  refine z_dup C dX4_init_21 rfl ?_
  refine z_bipush C (nI 8) dX4_init_22 (by decide) ?_
  refine z_callI (wr := [(h, .inr (4, [.ref a, .null, .null, .null, .int 0])), (a, .inr (2, [.ref (qa 0), .int 0])), (qa 0, .inl (X.2.1.2.2.1, 12, .inl nI))]) C N kX2_init rfl gX4_init_X2_init (by decide +kernel) (by decide +kernel) (by decide +kernel) (mX2_init X.2.1 b 8 (by decide)) dX4_init_24 [3] [0, 1, 2] [.ref b, .ref h] rfl rfl (by decide) (by decide) (by decide) rfl (Nat.le_of_ble_eq_true rfl) (Nat.le_of_ble_eq_true rfl) (by simp [Value.category]) rfl rfl rfl (k' := 4) (n' := 24) (by decide) (by decide) (fun qb => ?_)
  have C := N.cells C (k' := 4) (n' := 24) (by decide) (by decide)
  refine z_putF C N fX4_init_20 fuX4_1 0 dX4_init_27 rfl rfl rfl (Nat.le_of_ble_eq_true rfl) ?_
  refine z_aload_n C 0 dX4_init_30 rfl rfl ?_
  refine z_bipush C (nI 96) dX4_init_31 (by decide) ?_
  refine z_newI C N (by decide +kernel) (by decide) (nI_clamp (by decide)) (by decide) rfl rfl (k' := 5) (n' := 120) (by decide) (by decide) dX4_init_33 (fun c => ?_)
  have C := N.cells C (k' := 5) (n' := 120) (by decide) (by decide)
  refine z_putF C N fX4_init_23 fuX4_2 0 dX4_init_35 rfl rfl rfl (Nat.le_of_ble_eq_true rfl) ?_
  refine z_aload_n C 0 dX4_init_38 rfl rfl ?_
  refine z_new C N 0 tyX0 (by decide +kernel) tyX0_ok (by decide +kernel) (by decide +kernel) (by decide +kernel) rfl (fs := [.null, .int 0]) (fun j hj => by rcases (show j = 0 ∨ j = 1 by omega) with rfl | rfl <;> rfl) rfl rfl (k' := 6) (n' := 122) (by decide) (by decide) dX4_init_39 (fun g => ?_)
  have C := N.cells C (k' := 6) (n' := 122) (by decide) (by decide)
  refine z_dup C dX4_init_42 rfl ?_
  refine z_callIN (wr := [(h, .inr (4, [.ref a, .ref b, .ref c, .null, .int 0])), (a, .inr (2, [.ref (qa 0), .int 0])), (qa 0, .inl (X.2.1.2.2.1, 12, .inl nI)), (b, .inr (2, [.ref (qb 0), .int 0])), (qb 0, .inl (X.2.1.2.2.1, 8, .inl nI)), (c, .inl (X.2.1.2.2.1, 96, .inl (fun _ => 0)))]) C N kX0_init rfl gX4_init_X0_init_n29 (by decide +kernel) (by simp [zNest]) (by decide +kernel) (mX0_init X.2.1 g) dX4_init_43 [6] [0, 1, 2, 3, 4, 5] [.ref g, .ref h] rfl rfl (by decide) (by decide) (by decide) rfl (Nat.le_of_ble_eq_true rfl) (Nat.le_of_ble_eq_true rfl) (by simp [Value.category]) rfl rfl rfl (k' := 7) (n' := 482) (by decide) (by decide) (fun qg => ?_)
  have C := N.cells C (k' := 7) (n' := 482) (by decide) (by decide)
  refine z_putF C N fX4_init_30 fuX4_3 0 dX4_init_46 rfl rfl rfl (Nat.le_of_ble_eq_true rfl) ?_
  refine z_aload_n C 0 dX4_init_49 rfl rfl ?_
  refine z_iconst C (nI 1) dX4_init_50 (by decide) ?_
  refine z_put C fX4_init_34 ftX4_4 0 dX4_init_51 rfl rfl rfl (Nat.le_of_ble_eq_true rfl) ?_
  exact z_vretI C N dX4_init_54 (fun i => match i with | 1 => a | 2 => qa 0 | 3 => b | 4 => qb 0 | 5 => c | 6 => g | _ => qg 0) [0, 1, 2, 3, 4, 5, 6, 7] rfl (by decide) (by decide) (by decide)
