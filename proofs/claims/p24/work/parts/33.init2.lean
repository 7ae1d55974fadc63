/-! the constructors of Table, History, TrackedTable -/
theorem kX4_init : zY yX4_init wsX4_init cX4_init 1 none 0 := ⟨⟨_, rfl⟩, ⟨(by decide +kernel), (by decide +kernel), (by decide +kernel)⟩, (by decide +kernel)⟩
theorem fX4_init_14 : zF wsX4_init RX4 14 4 0 RX4 TX4 5 := ⟨(by decide +kernel), rfl, by decide, (by decide +kernel), rfl⟩
theorem fX4_init_20 : zF wsX4_init RX4 20 4 1 RX4 TX4 5 := ⟨(by decide +kernel), rfl, by decide, (by decide +kernel), rfl⟩
theorem fX4_init_23 : zF wsX4_init RX4 23 4 2 RX4 TX4 5 := ⟨(by decide +kernel), rfl, by decide, (by decide +kernel), rfl⟩
theorem fX4_init_30 : zF wsX4_init RX4 30 4 3 RX4 TX4 5 := ⟨(by decide +kernel), rfl, by decide, (by decide +kernel), rfl⟩
theorem fX4_init_34 : zF wsX4_init RX4 34 4 4 RX4 TX4 5 := ⟨(by decide +kernel), rfl, by decide, (by decide +kernel), rfl⟩
theorem fuX4_0 : zFt 0 5 TX4 tyX4 true := ⟨tyX4_ok, nmX4, rfl⟩
theorem fuX4_1 : zFt 1 5 TX4 tyX4 true := ⟨tyX4_ok, nmX4, rfl⟩
theorem fuX4_2 : zFt 2 5 TX4 tyX4 true := ⟨tyX4_ok, nmX4, rfl⟩
theorem fuX4_3 : zFt 3 5 TX4 tyX4 true := ⟨tyX4_ok, nmX4, rfl⟩
set_option maxHeartbeats 4000000 in
set_option maxRecDepth 100000 in
theorem mX4_init (E : zE) (h : Nat) : zMI E yX4_init wsX4_init 3 7 482 [.ref h] [(h, .inr (4, [.null, .null, .null, .null, .int 0]))] (fun q => [(h, .inr (4, [.ref (q 1), .ref (q 3), .ref (q 5), .ref (q 6), .int (nI 1)])), (q 1, .inr (2, [.ref (q 2), .int 0])), (q 2, .inl (E.2.2.1, 12, .inl nI)), (q 3, .inr (2, [.ref (q 4), .int 0])), (q 4, .inl (E.2.2.1, 8, .inl nI)), (q 5, .inl (E.2.2.1, 96, .inl (fun _ => 0))), (q 6, .inr (0, [.ref (q 7), .int 0])), (q 7, .inl (E.2.2.1, 360, .inl (fun _ => 0)))]) := by
  refine zMI.of kX4_init rfl (Nat.le_of_ble_eq_true rfl) rfl [some (.ref h)] rfl (Nat.le_of_ble_eq_true rfl) ?_
  intro X eX C N
  subst eX
  refine z_aload_n C 0 dX4_init_0 rfl rfl ?_
  refine z_obj C (by decide +kernel) (by decide +kernel) (by decide +kernel) dX4_init_1 (by decide) ?_
  refine z_aload_n C 0 dX4_init_4 rfl rfl ?_
  refine z_new C N 2 tyX2 (by decide +kernel) tyX2_ok (by decide +kernel) (by decide +kernel) (by decide +kernel) rfl (fs := [.null, .int 0]) (fun j hj => by rcases (show j = 0 ∨ j = 1 by omega) with rfl | rfl <;> rfl) rfl rfl (k' := 1) (n' := 2) (by decide) (by decide) dX4_init_5 (fun a => ?_)
  have C := N.cells C (k' := 1) (n' := 2) (by decide) (by decide)
  refine z_dup C dX4_init_8 rfl ?_
  refine z_bipush C (nI 12) dX4_init_9 (by decide) ?_
  refine z_callI (wr := [(h, .inr (4, [.null, .null, .null, .null, .int 0]))]) C N kX2_init rfl gX4_init_X2_init (by decide +kernel) (by decide +kernel) (by decide +kernel) (mX2_init X.2.1 a 12 (by decide)) dX4_init_11 [1] [0] [.ref a, .ref h] rfl rfl (by decide) (by decide) (by decide) rfl (Nat.le_of_ble_eq_true rfl) (Nat.le_of_ble_eq_true rfl) (by simp [Value.category]) rfl rfl rfl (k' := 2) (n' := 14) (by decide) (by decide) (fun qa => ?_)
  have C := N.cells C (k' := 2) (n' := 14) (by decide) (by decide)
  refine z_putF C N fX4_init_14 fuX4_0 0 dX4_init_14 rfl rfl rfl (Nat.le_of_ble_eq_true rfl) ?_
  refine z_aload_n C 0 dX4_init_17 rfl rfl ?_
  refine z_new C N 2 tyX2 (by decide +kernel) tyX2_ok (by decide +kernel) (by decide +kernel) (by decide +kernel) rfl (fs := [.null, .int 0]) (fun j hj => by rcases (show j = 0 ∨ j = 1 by omega) with rfl | rfl <;> rfl) rfl rfl (k' := 3) (n' := 16) (by decide) (by decide) dX4_init_18 (fun b => ?_)
  have C := N.cells C (k' := 3) (n' := 16) (by decide) (by decide)
  refine z_dup C dX4_init_21 rfl ?_
  refine z_bipush C (nI 8) dX4_init_22 (by decide) ?_
  refine z_callI (wr := [(h, .inr (4, [.ref a, .null, .null, .null, .int 0])), (a, .inr (2, [.ref (qa 0), .int 0])), (qa 0, .inl (X.2.1.2.2.1, 12, .inl nI))]) C N kX2_init rfl gX4_init_X2_init (by decide +kernel) (by decide +kernel) (by decide +kernel) (mX2_init X.2.1 b 8 (by decide)) dX4_init_24 [3] [0, 1, 2] [.ref b, .ref h] rfl rfl (by decide) (by decide) (by decide) rfl (Nat.le_of_ble_eq_true rfl) (Nat.le_of_ble_eq_true rfl) (by simp [Value.category]) rfl rfl rfl (k' := 4) (n' := 24) (by decide) (by decide) (fun qb => ?_)
  have C := N.cells C (k' := 4) (n' := 24) (by decide) (by decide)
  refine z_putF C N fX4_init_20 fuX4_1 0 dX4_init_27 rfl rfl rfl (Nat.le_of_ble_eq_true rfl) ?_
  refine z_aload_n C 0 dX4_init_30 rfl rfl ?_
  refine z_bipush C (nI 96) dX4_init_31 (by decide) ?_
  refine z_newI C N (by decide +kernel) (by decide) (nI_clamp (by decide)) (by decide) rfl rfl (k' := 5) (n' := 120) (by decide) (by decide) dX4_init_33 (fun c => ?_)
  have C := N.cells C (k' := 5) (n' := 120) (by decide) (by decide)
  refine z_putF C N fX4_init_23 fuX4_2 0 dX4_init_35 rfl rfl rfl (Nat.le_of_ble_eq_true rfl) ?_
  refine z_aload_n C 0 dX4_init_38 rfl rfl ?_
  refine z_new C N 0 tyX0 (by decide +kernel) tyX0_ok (by decide +kernel) (by decide +kernel) (by decide +kernel) rfl (fs := [.null, .int 0]) (fun j hj => by rcases (show j = 0 ∨ j = 1 by omega) with rfl | rfl <;> rfl) rfl rfl (k' := 6) (n' := 122) (by decide) (by decide) dX4_init_39 (fun g => ?_)
  have C := N.cells C (k' := 6) (n' := 122) (by decide) (by decide)
  refine z_dup C dX4_init_42 rfl ?_
  refine z_callIN (wr := [(h, .inr (4, [.ref a, .ref b, .ref c, .null, .int 0])), (a, .inr (2, [.ref (qa 0), .int 0])), (qa 0, .inl (X.2.1.2.2.1, 12, .inl nI)), (b, .inr (2, [.ref (qb 0), .int 0])), (qb 0, .inl (X.2.1.2.2.1, 8, .inl nI)), (c, .inl (X.2.1.2.2.1, 96, .inl (fun _ => 0)))]) C N kX0_init rfl gX4_init_X0_init_n29 (by decide +kernel) (List.mem_of_getElem? (i := 1) rfl) (by decide +kernel) (mX0_init X.2.1 g) dX4_init_43 [6] [0, 1, 2, 3, 4, 5] [.ref g, .ref h] rfl rfl (by decide) (by decide) (by decide) rfl (Nat.le_of_ble_eq_true rfl) (Nat.le_of_ble_eq_true rfl) (by simp [Value.category]) rfl rfl rfl (k' := 7) (n' := 482) (by decide) (by decide) (fun qg => ?_)
  have C := N.cells C (k' := 7) (n' := 482) (by decide) (by decide)
  refine z_putF C N fX4_init_30 fuX4_3 0 dX4_init_46 rfl rfl rfl (Nat.le_of_ble_eq_true rfl) ?_
  refine z_aload_n C 0 dX4_init_49 rfl rfl ?_
  refine z_iconst C (nI 1) dX4_init_50 (by decide) ?_
  refine z_put C fX4_init_34 ftX4_4 0 dX4_init_51 rfl rfl rfl (Nat.le_of_ble_eq_true rfl) ?_
  exact z_vretI C N dX4_init_54 (fun i => match i with | 1 => a | 2 => qa 0 | 3 => b | 4 => qb 0 | 5 => c | 6 => g | _ => qg 0) [0, 1, 2, 3, 4, 5, 6, 7] rfl (by decide) (by decide) (by decide)
theorem z_cellq {cA : ClassId} {N : Nat} {f f' : Nat → Option Nat} (hf : ∀ j, j < N → f j = f' j) : vp_cell cA (N, .inr (.inr (.inr (.inr f)))) = vp_cell cA (N, .inr (.inr (.inr (.inr f')))) := by
  rw [vp_cell_q, vp_cell_q]
  unfold arrV
  congr 1
  congr 1
  funext j
  show va_rf (f j.val) = va_rf (f' j.val)
  rw [hf j.val j.isLt]
theorem z_extq {X : zX} {k n : Nat} {ws : va_W} {lv : List (Option Value)} {st : List Value} {pc : Nat} (q0 : Nat) {a N : Nat} {cA : ClassId} {f : Nat → Option Nat} (f' : Nat → Option Nat) (he : ws[q0]? = some (a, .inl (cA, N, .inr (.inr (.inr (.inr f)))))) (hf : ∀ j, j < N → f j = f' j) (kk : zG X k n (ws.set q0 (a, .inl (cA, N, .inr (.inr (.inr (.inr f')))))) lv st pc) : zG X k n ws lv st pc := by
  obtain ⟨p, E, e, R, s, m, args, below, meth, c, Q, A, nL⟩ := X
  intro H locs ls hP hD hS hL
  refine kk H locs ls (hP.set hD he ?_ (fun q _ => rfl)) (hD.set he) hS hL
  show H[a]? = some (vp_cell cA (N, .inr (.inr (.inr (.inr f')))))
  rw [← z_cellq hf]
  exact hP q0 _ he
theorem kX1_init : zY yX1_init wsX1_init cX1_init 2 none 0 := ⟨⟨_, rfl⟩, ⟨(by decide +kernel), (by decide +kernel), (by decide +kernel)⟩, (by decide +kernel)⟩
theorem fX1_init_13 : zF wsX1_init RX1 13 1 0 RX1 TX1 3 := ⟨(by decide +kernel), rfl, by decide, (by decide +kernel), rfl⟩
theorem fuX1_0 : zFt 0 3 TX1 tyX1 true := ⟨tyX1_ok, nmX1, rfl⟩
set_option maxHeartbeats 4000000 in
set_option maxRecDepth 100000 in
theorem mX1_init (E : zE) (h : Nat) : zMI E yX1_init wsX1_init 4 41 2440 [.ref h] [(h, .inr (1, [.null, .int 0, .int 0]))] (fun q => [(h, .inr (1, [.ref (q 0), .int 0, .int 0])), (q 0, .inl (E.2.2.2.2, 5, .inr (.inr (.inr (.inr (fun i9 => some (q (0 + 1 + 8 * i9)))))))), (q 1, .inr (4, [.ref (q 2), .ref (q 4), .ref (q 6), .ref (q 7), .int (nI 1)])), (q 2, .inr (2, [.ref (q 3), .int 0])), (q 3, .inl (E.2.2.1, 12, .inl nI)), (q 4, .inr (2, [.ref (q 5), .int 0])), (q 5, .inl (E.2.2.1, 8, .inl nI)), (q 6, .inl (E.2.2.1, 96, .inl (fun _ => 0))), (q 7, .inr (0, [.ref (q 8), .int 0])), (q 8, .inl (E.2.2.1, 360, .inl (fun _ => 0))), (q 9, .inr (4, [.ref (q 10), .ref (q 12), .ref (q 14), .ref (q 15), .int (nI 1)])), (q 10, .inr (2, [.ref (q 11), .int 0])), (q 11, .inl (E.2.2.1, 12, .inl nI)), (q 12, .inr (2, [.ref (q 13), .int 0])), (q 13, .inl (E.2.2.1, 8, .inl nI)), (q 14, .inl (E.2.2.1, 96, .inl (fun _ => 0))), (q 15, .inr (0, [.ref (q 16), .int 0])), (q 16, .inl (E.2.2.1, 360, .inl (fun _ => 0))), (q 17, .inr (4, [.ref (q 18), .ref (q 20), .ref (q 22), .ref (q 23), .int (nI 1)])), (q 18, .inr (2, [.ref (q 19), .int 0])), (q 19, .inl (E.2.2.1, 12, .inl nI)), (q 20, .inr (2, [.ref (q 21), .int 0])), (q 21, .inl (E.2.2.1, 8, .inl nI)), (q 22, .inl (E.2.2.1, 96, .inl (fun _ => 0))), (q 23, .inr (0, [.ref (q 24), .int 0])), (q 24, .inl (E.2.2.1, 360, .inl (fun _ => 0))), (q 25, .inr (4, [.ref (q 26), .ref (q 28), .ref (q 30), .ref (q 31), .int (nI 1)])), (q 26, .inr (2, [.ref (q 27), .int 0])), (q 27, .inl (E.2.2.1, 12, .inl nI)), (q 28, .inr (2, [.ref (q 29), .int 0])), (q 29, .inl (E.2.2.1, 8, .inl nI)), (q 30, .inl (E.2.2.1, 96, .inl (fun _ => 0))), (q 31, .inr (0, [.ref (q 32), .int 0])), (q 32, .inl (E.2.2.1, 360, .inl (fun _ => 0))), (q 33, .inr (4, [.ref (q 34), .ref (q 36), .ref (q 38), .ref (q 39), .int (nI 1)])), (q 34, .inr (2, [.ref (q 35), .int 0])), (q 35, .inl (E.2.2.1, 12, .inl nI)), (q 36, .inr (2, [.ref (q 37), .int 0])), (q 37, .inl (E.2.2.1, 8, .inl nI)), (q 38, .inl (E.2.2.1, 96, .inl (fun _ => 0))), (q 39, .inr (0, [.ref (q 40), .int 0])), (q 40, .inl (E.2.2.1, 360, .inl (fun _ => 0)))]) := by
  refine zMI.of kX1_init rfl (Nat.le_of_ble_eq_true rfl) rfl [some (.ref h), none] rfl (Nat.le_of_ble_eq_true rfl) ?_
  intro X eX C N
  subst eX
  refine z_aload_n C 0 dX1_init_0 rfl rfl ?_
  refine z_obj C (by decide +kernel) (by decide +kernel) (by decide +kernel) dX1_init_1 (by decide) ?_
  refine z_aload_n C 0 dX1_init_4 rfl rfl ?_
  refine z_iconst C (nI 5) dX1_init_5 (by decide) ?_
  refine z_newQ C N (by decide +kernel) (by decide) (nI_clamp (by decide)) (by decide) rfl rfl (k' := 1) (n' := 5) (by decide) (by decide) dX1_init_6 (fun r0 => ?_)
  have C := N.cells C (k' := 1) (n' := 5) (by decide) (by decide)
  refine z_putF C N fX1_init_13 fuX1_0 0 dX1_init_9 rfl rfl rfl (Nat.le_of_ble_eq_true rfl) ?_
  refine z_iconst C (nI 0) dX1_init_12 (by decide) ?_
  refine z_istore_n C 1 dX1_init_13 rfl (Nat.le_of_ble_eq_true rfl) ?_
  refine z_iload_n C 1 dX1_init_14 rfl rfl ?_
  refine z_iconst C (nI 5) dX1_init_15 (by decide) ?_
  refine z_ncmp_ge_f C 38 dX1_init_16 (by decide) (by decide) (by decide) (by decide) ?_
  refine z_aload_n C 0 dX1_init_19 rfl rfl ?_
  refine z_get C fX1_init_13 0 dX1_init_20 rfl rfl ?_
  refine z_iload_n C 1 dX1_init_23 rfl rfl ?_
  refine z_new C N 4 tyX4 (by decide +kernel) tyX4_ok (by decide +kernel) (by decide +kernel) (by decide +kernel) rfl (fs := [.null, .null, .null, .null, .int 0]) (fun j hj => by rcases (show j = 0 ∨ j = 1 ∨ j = 2 ∨ j = 3 ∨ j = 4 by omega) with rfl | rfl | rfl | rfl | rfl <;> rfl) rfl rfl (k' := 2) (n' := 10) (by decide) (by decide) dX1_init_24 (fun a0 => ?_)
  have C := N.cells C (k' := 2) (n' := 10) (by decide) (by decide)
  refine z_dup C dX1_init_27 rfl ?_
  refine z_callIN (wr := [(h, .inr (1, [.ref r0, .int 0, .int 0])), (r0, .inl (X.2.1.2.2.2.2, 5, .inr (.inr (.inr (.inr (fun _ => none))))))]) C N kX4_init rfl gX1_init_X4_init_n17 (by decide +kernel) (List.mem_of_getElem? (i := 2) rfl) (by decide +kernel) (mX4_init X.2.1 a0) dX1_init_28 [2] [0, 1] [.ref a0, .int (nI 0), .ref r0] rfl rfl (by decide) (by decide) (by decide) rfl (Nat.le_of_ble_eq_true rfl) (Nat.le_of_ble_eq_true rfl) (by simp [Value.category]) rfl rfl rfl (k' := 9) (n' := 492) (by decide) (by decide) (fun q0 => ?_)
  have C := N.cells C (k' := 9) (n' := 492) (by decide) (by decide)
  refine z_astq C 1 2 dX1_init_31 rfl rfl rfl (by decide) (by decide) ?_
  refine z_iinc C (nI 1) dX1_init_32 rfl (zi_1 _) ?_
  refine z_goto C 14 dX1_init_35 (by decide) ?_
  refine z_iload_n C 1 dX1_init_14 rfl rfl ?_
  refine z_iconst C (nI 5) dX1_init_15 (by decide) ?_
  refine z_ncmp_ge_f C 38 dX1_init_16 (by decide) (by decide) (by decide) (by decide) ?_
  refine z_aload_n C 0 dX1_init_19 rfl rfl ?_
  refine z_get C fX1_init_13 0 dX1_init_20 rfl rfl ?_
  refine z_iload_n C 1 dX1_init_23 rfl rfl ?_
  refine z_new C N 4 tyX4 (by decide +kernel) tyX4_ok (by decide +kernel) (by decide +kernel) (by decide +kernel) rfl (fs := [.null, .null, .null, .null, .int 0]) (fun j hj => by rcases (show j = 0 ∨ j = 1 ∨ j = 2 ∨ j = 3 ∨ j = 4 by omega) with rfl | rfl | rfl | rfl | rfl <;> rfl) rfl rfl (k' := 10) (n' := 497) (by decide) (by decide) dX1_init_24 (fun a1 => ?_)
  have C := N.cells C (k' := 10) (n' := 497) (by decide) (by decide)
  refine z_dup C dX1_init_27 rfl ?_
  refine z_callIN (wr := [(h, .inr (1, [.ref r0, .int 0, .int 0])), (r0, .inl (X.2.1.2.2.2.2, 5, .inr (.inr (.inr (.inr (va_up (fun _ => none) 0 (some a0))))))), (a0, .inr (4, [.ref (q0 1), .ref (q0 3), .ref (q0 5), .ref (q0 6), .int (nI 1)])), (q0 1, .inr (2, [.ref (q0 2), .int 0])), (q0 2, .inl (X.2.1.2.2.1, 12, .inl nI)), (q0 3, .inr (2, [.ref (q0 4), .int 0])), (q0 4, .inl (X.2.1.2.2.1, 8, .inl nI)), (q0 5, .inl (X.2.1.2.2.1, 96, .inl (fun _ => 0))), (q0 6, .inr (0, [.ref (q0 7), .int 0])), (q0 7, .inl (X.2.1.2.2.1, 360, .inl (fun _ => 0)))]) C N kX4_init rfl gX1_init_X4_init_n17 (by decide +kernel) (List.mem_of_getElem? (i := 2) rfl) (by decide +kernel) (mX4_init X.2.1 a1) dX1_init_28 [10] [0, 1, 2, 3, 4, 5, 6, 7, 8, 9] [.ref a1, .int (nI 1), .ref r0] rfl rfl (by decide) (by decide) (by decide) rfl (Nat.le_of_ble_eq_true rfl) (Nat.le_of_ble_eq_true rfl) (by simp [Value.category]) rfl rfl rfl (k' := 17) (n' := 979) (by decide) (by decide) (fun q1 => ?_)
  have C := N.cells C (k' := 17) (n' := 979) (by decide) (by decide)
  refine z_astq C 1 10 dX1_init_31 rfl rfl rfl (by decide) (by decide) ?_
  refine z_iinc C (nI 2) dX1_init_32 rfl (zi_1 _) ?_
  refine z_goto C 14 dX1_init_35 (by decide) ?_
  refine z_iload_n C 1 dX1_init_14 rfl rfl ?_
  refine z_iconst C (nI 5) dX1_init_15 (by decide) ?_
  refine z_ncmp_ge_f C 38 dX1_init_16 (by decide) (by decide) (by decide) (by decide) ?_
  refine z_aload_n C 0 dX1_init_19 rfl rfl ?_
  refine z_get C fX1_init_13 0 dX1_init_20 rfl rfl ?_
  refine z_iload_n C 1 dX1_init_23 rfl rfl ?_
  refine z_new C N 4 tyX4 (by decide +kernel) tyX4_ok (by decide +kernel) (by decide +kernel) (by decide +kernel) rfl (fs := [.null, .null, .null, .null, .int 0]) (fun j hj => by rcases (show j = 0 ∨ j = 1 ∨ j = 2 ∨ j = 3 ∨ j = 4 by omega) with rfl | rfl | rfl | rfl | rfl <;> rfl) rfl rfl (k' := 18) (n' := 984) (by decide) (by decide) dX1_init_24 (fun a2 => ?_)
  have C := N.cells C (k' := 18) (n' := 984) (by decide) (by decide)
  refine z_dup C dX1_init_27 rfl ?_
  refine z_callIN (wr := [(h, .inr (1, [.ref r0, .int 0, .int 0])), (r0, .inl (X.2.1.2.2.2.2, 5, .inr (.inr (.inr (.inr (va_up (va_up (fun _ => none) 0 (some a0)) 1 (some a1))))))), (a0, .inr (4, [.ref (q0 1), .ref (q0 3), .ref (q0 5), .ref (q0 6), .int (nI 1)])), (q0 1, .inr (2, [.ref (q0 2), .int 0])), (q0 2, .inl (X.2.1.2.2.1, 12, .inl nI)), (q0 3, .inr (2, [.ref (q0 4), .int 0])), (q0 4, .inl (X.2.1.2.2.1, 8, .inl nI)), (q0 5, .inl (X.2.1.2.2.1, 96, .inl (fun _ => 0))), (q0 6, .inr (0, [.ref (q0 7), .int 0])), (q0 7, .inl (X.2.1.2.2.1, 360, .inl (fun _ => 0))), (a1, .inr (4, [.ref (q1 1), .ref (q1 3), .ref (q1 5), .ref (q1 6), .int (nI 1)])), (q1 1, .inr (2, [.ref (q1 2), .int 0])), (q1 2, .inl (X.2.1.2.2.1, 12, .inl nI)), (q1 3, .inr (2, [.ref (q1 4), .int 0])), (q1 4, .inl (X.2.1.2.2.1, 8, .inl nI)), (q1 5, .inl (X.2.1.2.2.1, 96, .inl (fun _ => 0))), (q1 6, .inr (0, [.ref (q1 7), .int 0])), (q1 7, .inl (X.2.1.2.2.1, 360, .inl (fun _ => 0)))]) C N kX4_init rfl gX1_init_X4_init_n17 (by decide +kernel) (List.mem_of_getElem? (i := 2) rfl) (by decide +kernel) (mX4_init X.2.1 a2) dX1_init_28 [18] [0, 1, 2, 3, 4, 5, 6, 7, 8, 9, 10, 11, 12, 13, 14, 15, 16, 17] [.ref a2, .int (nI 2), .ref r0] rfl rfl (by decide) (by decide) (by decide) rfl (Nat.le_of_ble_eq_true rfl) (Nat.le_of_ble_eq_true rfl) (by simp [Value.category]) rfl rfl rfl (k' := 25) (n' := 1466) (by decide) (by decide) (fun q2 => ?_)
  have C := N.cells C (k' := 25) (n' := 1466) (by decide) (by decide)
  refine z_astq C 1 18 dX1_init_31 rfl rfl rfl (by decide) (by decide) ?_
  refine z_iinc C (nI 3) dX1_init_32 rfl (zi_1 _) ?_
  refine z_goto C 14 dX1_init_35 (by decide) ?_
  refine z_iload_n C 1 dX1_init_14 rfl rfl ?_
  refine z_iconst C (nI 5) dX1_init_15 (by decide) ?_
  refine z_ncmp_ge_f C 38 dX1_init_16 (by decide) (by decide) (by decide) (by decide) ?_
  refine z_aload_n C 0 dX1_init_19 rfl rfl ?_
  refine z_get C fX1_init_13 0 dX1_init_20 rfl rfl ?_
  refine z_iload_n C 1 dX1_init_23 rfl rfl ?_
  refine z_new C N 4 tyX4 (by decide +kernel) tyX4_ok (by decide +kernel) (by decide +kernel) (by decide +kernel) rfl (fs := [.null, .null, .null, .null, .int 0]) (fun j hj => by rcases (show j = 0 ∨ j = 1 ∨ j = 2 ∨ j = 3 ∨ j = 4 by omega) with rfl | rfl | rfl | rfl | rfl <;> rfl) rfl rfl (k' := 26) (n' := 1471) (by decide) (by decide) dX1_init_24 (fun a3 => ?_)
  have C := N.cells C (k' := 26) (n' := 1471) (by decide) (by decide)
  refine z_dup C dX1_init_27 rfl ?_
  refine z_callIN (wr := [(h, .inr (1, [.ref r0, .int 0, .int 0])), (r0, .inl (X.2.1.2.2.2.2, 5, .inr (.inr (.inr (.inr (va_up (va_up (va_up (fun _ => none) 0 (some a0)) 1 (some a1)) 2 (some a2))))))), (a0, .inr (4, [.ref (q0 1), .ref (q0 3), .ref (q0 5), .ref (q0 6), .int (nI 1)])), (q0 1, .inr (2, [.ref (q0 2), .int 0])), (q0 2, .inl (X.2.1.2.2.1, 12, .inl nI)), (q0 3, .inr (2, [.ref (q0 4), .int 0])), (q0 4, .inl (X.2.1.2.2.1, 8, .inl nI)), (q0 5, .inl (X.2.1.2.2.1, 96, .inl (fun _ => 0))), (q0 6, .inr (0, [.ref (q0 7), .int 0])), (q0 7, .inl (X.2.1.2.2.1, 360, .inl (fun _ => 0))), (a1, .inr (4, [.ref (q1 1), .ref (q1 3), .ref (q1 5), .ref (q1 6), .int (nI 1)])), (q1 1, .inr (2, [.ref (q1 2), .int 0])), (q1 2, .inl (X.2.1.2.2.1, 12, .inl nI)), (q1 3, .inr (2, [.ref (q1 4), .int 0])), (q1 4, .inl (X.2.1.2.2.1, 8, .inl nI)), (q1 5, .inl (X.2.1.2.2.1, 96, .inl (fun _ => 0))), (q1 6, .inr (0, [.ref (q1 7), .int 0])), (q1 7, .inl (X.2.1.2.2.1, 360, .inl (fun _ => 0))), (a2, .inr (4, [.ref (q2 1), .ref (q2 3), .ref (q2 5), .ref (q2 6), .int (nI 1)])), (q2 1, .inr (2, [.ref (q2 2), .int 0])), (q2 2, .inl (X.2.1.2.2.1, 12, .inl nI)), (q2 3, .inr (2, [.ref (q2 4), .int 0])), (q2 4, .inl (X.2.1.2.2.1, 8, .inl nI)), (q2 5, .inl (X.2.1.2.2.1, 96, .inl (fun _ => 0))), (q2 6, .inr (0, [.ref (q2 7), .int 0])), (q2 7, .inl (X.2.1.2.2.1, 360, .inl (fun _ => 0)))]) C N kX4_init rfl gX1_init_X4_init_n17 (by decide +kernel) (List.mem_of_getElem? (i := 2) rfl) (by decide +kernel) (mX4_init X.2.1 a3) dX1_init_28 [26] [0, 1, 2, 3, 4, 5, 6, 7, 8, 9, 10, 11, 12, 13, 14, 15, 16, 17, 18, 19, 20, 21, 22, 23, 24, 25] [.ref a3, .int (nI 3), .ref r0] rfl rfl (by decide) (by decide) (by decide) rfl (Nat.le_of_ble_eq_true rfl) (Nat.le_of_ble_eq_true rfl) (by simp [Value.category]) rfl rfl rfl (k' := 33) (n' := 1953) (by decide) (by decide) (fun q3 => ?_)
  have C := N.cells C (k' := 33) (n' := 1953) (by decide) (by decide)
  refine z_astq C 1 26 dX1_init_31 rfl rfl rfl (by decide) (by decide) ?_
  refine z_iinc C (nI 4) dX1_init_32 rfl (zi_1 _) ?_
  refine z_goto C 14 dX1_init_35 (by decide) ?_
  refine z_iload_n C 1 dX1_init_14 rfl rfl ?_
  refine z_iconst C (nI 5) dX1_init_15 (by decide) ?_
  refine z_ncmp_ge_f C 38 dX1_init_16 (by decide) (by decide) (by decide) (by decide) ?_
  refine z_aload_n C 0 dX1_init_19 rfl rfl ?_
  refine z_get C fX1_init_13 0 dX1_init_20 rfl rfl ?_
  refine z_iload_n C 1 dX1_init_23 rfl rfl ?_
  refine z_new C N 4 tyX4 (by decide +kernel) tyX4_ok (by decide +kernel) (by decide +kernel) (by decide +kernel) rfl (fs := [.null, .null, .null, .null, .int 0]) (fun j hj => by rcases (show j = 0 ∨ j = 1 ∨ j = 2 ∨ j = 3 ∨ j = 4 by omega) with rfl | rfl | rfl | rfl | rfl <;> rfl) rfl rfl (k' := 34) (n' := 1958) (by decide) (by decide) dX1_init_24 (fun a4 => ?_)
  have C := N.cells C (k' := 34) (n' := 1958) (by decide) (by decide)
  refine z_dup C dX1_init_27 rfl ?_
  refine z_callIN (wr := [(h, .inr (1, [.ref r0, .int 0, .int 0])), (r0, .inl (X.2.1.2.2.2.2, 5, .inr (.inr (.inr (.inr (va_up (va_up (va_up (va_up (fun _ => none) 0 (some a0)) 1 (some a1)) 2 (some a2)) 3 (some a3))))))), (a0, .inr (4, [.ref (q0 1), .ref (q0 3), .ref (q0 5), .ref (q0 6), .int (nI 1)])), (q0 1, .inr (2, [.ref (q0 2), .int 0])), (q0 2, .inl (X.2.1.2.2.1, 12, .inl nI)), (q0 3, .inr (2, [.ref (q0 4), .int 0])), (q0 4, .inl (X.2.1.2.2.1, 8, .inl nI)), (q0 5, .inl (X.2.1.2.2.1, 96, .inl (fun _ => 0))), (q0 6, .inr (0, [.ref (q0 7), .int 0])), (q0 7, .inl (X.2.1.2.2.1, 360, .inl (fun _ => 0))), (a1, .inr (4, [.ref (q1 1), .ref (q1 3), .ref (q1 5), .ref (q1 6), .int (nI 1)])), (q1 1, .inr (2, [.ref (q1 2), .int 0])), (q1 2, .inl (X.2.1.2.2.1, 12, .inl nI)), (q1 3, .inr (2, [.ref (q1 4), .int 0])), (q1 4, .inl (X.2.1.2.2.1, 8, .inl nI)), (q1 5, .inl (X.2.1.2.2.1, 96, .inl (fun _ => 0))), (q1 6, .inr (0, [.ref (q1 7), .int 0])), (q1 7, .inl (X.2.1.2.2.1, 360, .inl (fun _ => 0))), (a2, .inr (4, [.ref (q2 1), .ref (q2 3), .ref (q2 5), .ref (q2 6), .int (nI 1)])), (q2 1, .inr (2, [.ref (q2 2), .int 0])), (q2 2, .inl (X.2.1.2.2.1, 12, .inl nI)), (q2 3, .inr (2, [.ref (q2 4), .int 0])), (q2 4, .inl (X.2.1.2.2.1, 8, .inl nI)), (q2 5, .inl (X.2.1.2.2.1, 96, .inl (fun _ => 0))), (q2 6, .inr (0, [.ref (q2 7), .int 0])), (q2 7, .inl (X.2.1.2.2.1, 360, .inl (fun _ => 0))), (a3, .inr (4, [.ref (q3 1), .ref (q3 3), .ref (q3 5), .ref (q3 6), .int (nI 1)])), (q3 1, .inr (2, [.ref (q3 2), .int 0])), (q3 2, .inl (X.2.1.2.2.1, 12, .inl nI)), (q3 3, .inr (2, [.ref (q3 4), .int 0])), (q3 4, .inl (X.2.1.2.2.1, 8, .inl nI)), (q3 5, .inl (X.2.1.2.2.1, 96, .inl (fun _ => 0))), (q3 6, .inr (0, [.ref (q3 7), .int 0])), (q3 7, .inl (X.2.1.2.2.1, 360, .inl (fun _ => 0)))]) C N kX4_init rfl gX1_init_X4_init_n17 (by decide +kernel) (List.mem_of_getElem? (i := 2) rfl) (by decide +kernel) (mX4_init X.2.1 a4) dX1_init_28 [34] [0, 1, 2, 3, 4, 5, 6, 7, 8, 9, 10, 11, 12, 13, 14, 15, 16, 17, 18, 19, 20, 21, 22, 23, 24, 25, 26, 27, 28, 29, 30, 31, 32, 33] [.ref a4, .int (nI 4), .ref r0] rfl rfl (by decide) (by decide) (by decide) rfl (Nat.le_of_ble_eq_true rfl) (Nat.le_of_ble_eq_true rfl) (by simp [Value.category]) rfl rfl rfl (k' := 41) (n' := 2440) (by decide) (by decide) (fun q4 => ?_)
  have C := N.cells C (k' := 41) (n' := 2440) (by decide) (by decide)
  refine z_astq C 1 34 dX1_init_31 rfl rfl rfl (by decide) (by decide) ?_
  refine z_iinc C (nI 5) dX1_init_32 rfl (zi_1 _) ?_
  refine z_goto C 14 dX1_init_35 (by decide) ?_
  refine z_iload_n C 1 dX1_init_14 rfl rfl ?_
  refine z_iconst C (nI 5) dX1_init_15 (by decide) ?_
  refine z_ncmp_ge_t C 38 dX1_init_16 (by decide) (by decide) (by decide) (by decide) ?_
  refine z_extq 1 (fun i9 => some ((fun i => if i = 0 then r0 else if i = 1 then a0 else if i < 9 then q0 (i - 1) else if i = 9 then a1 else if i < 17 then q1 (i - 9) else if i = 17 then a2 else if i < 25 then q2 (i - 17) else if i = 25 then a3 else if i < 33 then q3 (i - 25) else if i = 33 then a4 else q4 (i - 33)) (0 + 1 + 8 * i9))) rfl (fun j hj => by rcases (show j = 0 ∨ j = 1 ∨ j = 2 ∨ j = 3 ∨ j = 4 by omega) with rfl | rfl | rfl | rfl | rfl <;> rfl) ?_
  exact z_vretI C N dX1_init_38 (fun i => if i = 0 then r0 else if i = 1 then a0 else if i < 9 then q0 (i - 1) else if i = 9 then a1 else if i < 17 then q1 (i - 9) else if i = 17 then a2 else if i < 25 then q2 (i - 17) else if i = 25 then a3 else if i < 33 then q3 (i - 25) else if i = 33 then a4 else q4 (i - 33)) [0, 1, 2, 3, 4, 5, 6, 7, 8, 9, 10, 11, 12, 13, 14, 15, 16, 17, 18, 19, 20, 21, 22, 23, 24, 25, 26, 27, 28, 29, 30, 31, 32, 33, 34, 35, 36, 37, 38, 39, 40, 41] rfl (by decide +kernel) (by decide) (by decide)
theorem kX5_init : zY yX5_init wsX5_init cX5_init 1 none 0 := ⟨⟨_, rfl⟩, ⟨(by decide +kernel), (by decide +kernel), (by decide +kernel)⟩, (by decide +kernel)⟩
theorem fX5_init_10 : zF wsX5_init RX5 10 5 0 RX5 TX5 3 := ⟨(by decide +kernel), rfl, by decide, (by decide +kernel), rfl⟩
theorem fX5_init_19 : zF wsX5_init RX5 19 5 1 RX5 TX5 3 := ⟨(by decide +kernel), rfl, by decide, (by decide +kernel), rfl⟩
theorem fX5_init_26 : zF wsX5_init RX5 26 5 2 RX5 TX5 3 := ⟨(by decide +kernel), rfl, by decide, (by decide +kernel), rfl⟩
theorem fuX5_0 : zFt 0 3 TX5 tyX5 true := ⟨tyX5_ok, nmX5, rfl⟩
theorem fuX5_1 : zFt 1 3 TX5 tyX5 true := ⟨tyX5_ok, nmX5, rfl⟩
theorem fuX5_2 : zFt 2 3 TX5 tyX5 true := ⟨tyX5_ok, nmX5, rfl⟩
set_option maxHeartbeats 4000000 in
set_option maxRecDepth 100000 in
theorem mX5_init (E : zE) (h : Nat) : zMI E yX5_init wsX5_init 5 52 2998 [.ref h] [(h, .inr (5, [.null, .null, .null]))] (fun q => [(h, .inr (5, [.ref (q 0), .ref (q 8), .ref (q 50)])), (q 0, .inr (4, [.ref (q 1), .ref (q 3), .ref (q 5), .ref (q 6), .int (nI 1)])), (q 1, .inr (2, [.ref (q 2), .int 0])), (q 2, .inl (E.2.2.1, 12, .inl nI)), (q 3, .inr (2, [.ref (q 4), .int 0])), (q 4, .inl (E.2.2.1, 8, .inl nI)), (q 5, .inl (E.2.2.1, 96, .inl (fun _ => 0))), (q 6, .inr (0, [.ref (q 7), .int 0])), (q 7, .inl (E.2.2.1, 360, .inl (fun _ => 0))), (q 8, .inr (1, [.ref (q 9), .int 0, .int 0])), (q 9, .inl (E.2.2.2.2, 5, .inr (.inr (.inr (.inr (fun i9 => some (q (9 + 1 + 8 * i9)))))))), (q 10, .inr (4, [.ref (q 11), .ref (q 13), .ref (q 15), .ref (q 16), .int (nI 1)])), (q 11, .inr (2, [.ref (q 12), .int 0])), (q 12, .inl (E.2.2.1, 12, .inl nI)), (q 13, .inr (2, [.ref (q 14), .int 0])), (q 14, .inl (E.2.2.1, 8, .inl nI)), (q 15, .inl (E.2.2.1, 96, .inl (fun _ => 0))), (q 16, .inr (0, [.ref (q 17), .int 0])), (q 17, .inl (E.2.2.1, 360, .inl (fun _ => 0))), (q 18, .inr (4, [.ref (q 19), .ref (q 21), .ref (q 23), .ref (q 24), .int (nI 1)])), (q 19, .inr (2, [.ref (q 20), .int 0])), (q 20, .inl (E.2.2.1, 12, .inl nI)), (q 21, .inr (2, [.ref (q 22), .int 0])), (q 22, .inl (E.2.2.1, 8, .inl nI)), (q 23, .inl (E.2.2.1, 96, .inl (fun _ => 0))), (q 24, .inr (0, [.ref (q 25), .int 0])), (q 25, .inl (E.2.2.1, 360, .inl (fun _ => 0))), (q 26, .inr (4, [.ref (q 27), .ref (q 29), .ref (q 31), .ref (q 32), .int (nI 1)])), (q 27, .inr (2, [.ref (q 28), .int 0])), (q 28, .inl (E.2.2.1, 12, .inl nI)), (q 29, .inr (2, [.ref (q 30), .int 0])), (q 30, .inl (E.2.2.1, 8, .inl nI)), (q 31, .inl (E.2.2.1, 96, .inl (fun _ => 0))), (q 32, .inr (0, [.ref (q 33), .int 0])), (q 33, .inl (E.2.2.1, 360, .inl (fun _ => 0))), (q 34, .inr (4, [.ref (q 35), .ref (q 37), .ref (q 39), .ref (q 40), .int (nI 1)])), (q 35, .inr (2, [.ref (q 36), .int 0])), (q 36, .inl (E.2.2.1, 12, .inl nI)), (q 37, .inr (2, [.ref (q 38), .int 0])), (q 38, .inl (E.2.2.1, 8, .inl nI)), (q 39, .inl (E.2.2.1, 96, .inl (fun _ => 0))), (q 40, .inr (0, [.ref (q 41), .int 0])), (q 41, .inl (E.2.2.1, 360, .inl (fun _ => 0))), (q 42, .inr (4, [.ref (q 43), .ref (q 45), .ref (q 47), .ref (q 48), .int (nI 1)])), (q 43, .inr (2, [.ref (q 44), .int 0])), (q 44, .inl (E.2.2.1, 12, .inl nI)), (q 45, .inr (2, [.ref (q 46), .int 0])), (q 46, .inl (E.2.2.1, 8, .inl nI)), (q 47, .inl (E.2.2.1, 96, .inl (fun _ => 0))), (q 48, .inr (0, [.ref (q 49), .int 0])), (q 49, .inl (E.2.2.1, 360, .inl (fun _ => 0))), (q 50, .inr (3, [.ref (q 51), .int 0, .int 0, .int 0, .int 0, .int 0, .int 0, .int 0])), (q 51, .inl (E.2.2.2.1, 60, .inl (fun _ => 0)))]) := by
  refine zMI.of kX5_init rfl (Nat.le_of_ble_eq_true rfl) rfl [some (.ref h)] rfl (Nat.le_of_ble_eq_true rfl) ?_
  intro X eX C N
  subst eX
  refine z_aload_n C 0 dX5_init_0 rfl rfl ?_
  refine z_obj C (by decide +kernel) (by decide +kernel) (by decide +kernel) dX5_init_1 (by decide) ?_
  refine z_aload_n C 0 dX5_init_4 rfl rfl ?_
  refine z_new C N 4 tyX4 (by decide +kernel) tyX4_ok (by decide +kernel) (by decide +kernel) (by decide +kernel) rfl (fs := [.null, .null, .null, .null, .int 0]) (fun j hj => by rcases (show j = 0 ∨ j = 1 ∨ j = 2 ∨ j = 3 ∨ j = 4 by omega) with rfl | rfl | rfl | rfl | rfl <;> rfl) rfl rfl (k' := 1) (n' := 5) (by decide) (by decide) dX5_init_5 (fun a => ?_)
  have C := N.cells C (k' := 1) (n' := 5) (by decide) (by decide)
  refine z_dup C dX5_init_8 rfl ?_
  refine z_callIN (wr := [(h, .inr (5, [.null, .null, .null]))]) C N kX4_init rfl gX5_init_X4_init_n9 (by decide +kernel) (List.mem_of_getElem? (i := 0) rfl) (by decide +kernel) (mX4_init X.2.1 a) dX5_init_9 [1] [0] [.ref a, .ref h] rfl rfl (by decide) (by decide) (by decide) rfl (Nat.le_of_ble_eq_true rfl) (Nat.le_of_ble_eq_true rfl) (by simp [Value.category]) rfl rfl rfl (k' := 8) (n' := 487) (by decide) (by decide) (fun qa => ?_)
  have C := N.cells C (k' := 8) (n' := 487) (by decide) (by decide)
  refine z_putF C N fX5_init_10 fuX5_0 0 dX5_init_12 rfl rfl rfl (Nat.le_of_ble_eq_true rfl) ?_
  refine z_aload_n C 0 dX5_init_15 rfl rfl ?_
  refine z_new C N 1 tyX1 (by decide +kernel) tyX1_ok (by decide +kernel) (by decide +kernel) (by decide +kernel) rfl (fs := [.null, .int 0, .int 0]) (fun j hj => by rcases (show j = 0 ∨ j = 1 ∨ j = 2 by omega) with rfl | rfl | rfl <;> rfl) rfl rfl (k' := 9) (n' := 490) (by decide) (by decide) dX5_init_16 (fun b => ?_)
  have C := N.cells C (k' := 9) (n' := 490) (by decide) (by decide)
  refine z_dup C dX5_init_19 rfl ?_
  refine z_callI (wr := [(h, .inr (5, [.ref a, .null, .null])), (a, .inr (4, [.ref (qa 1), .ref (qa 3), .ref (qa 5), .ref (qa 6), .int (nI 1)])), (qa 1, .inr (2, [.ref (qa 2), .int 0])), (qa 2, .inl (X.2.1.2.2.1, 12, .inl nI)), (qa 3, .inr (2, [.ref (qa 4), .int 0])), (qa 4, .inl (X.2.1.2.2.1, 8, .inl nI)), (qa 5, .inl (X.2.1.2.2.1, 96, .inl (fun _ => 0))), (qa 6, .inr (0, [.ref (qa 7), .int 0])), (qa 7, .inl (X.2.1.2.2.1, 360, .inl (fun _ => 0)))]) C N kX1_init rfl gX5_init_X1_init (by decide +kernel) (by decide +kernel) (by decide +kernel) (mX1_init X.2.1 b) dX5_init_20 [9] [0, 1, 2, 3, 4, 5, 6, 7, 8] [.ref b, .ref h] rfl rfl (by decide) (by decide) (by decide) rfl (Nat.le_of_ble_eq_true rfl) (Nat.le_of_ble_eq_true rfl) (by simp [Value.category]) rfl rfl rfl (k' := 50) (n' := 2930) (by decide) (by decide) (fun qb => ?_)
  have C := N.cells C (k' := 50) (n' := 2930) (by decide) (by decide)
  refine z_putF C N fX5_init_19 fuX5_1 0 dX5_init_23 rfl rfl rfl (Nat.le_of_ble_eq_true rfl) ?_
  refine z_aload_n C 0 dX5_init_26 rfl rfl ?_
  refine z_new C N 3 tyX3 (by decide +kernel) tyX3_ok (by decide +kernel) (by decide +kernel) (by decide +kernel) rfl (fs := [.null, .int 0, .int 0, .int 0, .int 0, .int 0, .int 0, .int 0]) (fun j hj => by rcases (show j = 0 ∨ j = 1 ∨ j = 2 ∨ j = 3 ∨ j = 4 ∨ j = 5 ∨ j = 6 ∨ j = 7 by omega) with rfl | rfl | rfl | rfl | rfl | rfl | rfl | rfl <;> rfl) rfl rfl (k' := 51) (n' := 2938) (by decide) (by decide) dX5_init_27 (fun c => ?_)
  have C := N.cells C (k' := 51) (n' := 2938) (by decide) (by decide)
  refine z_dup C dX5_init_30 rfl ?_
  refine z_callIN (wr := [(h, .inr (5, [.ref a, .ref b, .null])), (a, .inr (4, [.ref (qa 1), .ref (qa 3), .ref (qa 5), .ref (qa 6), .int (nI 1)])), (qa 1, .inr (2, [.ref (qa 2), .int 0])), (qa 2, .inl (X.2.1.2.2.1, 12, .inl nI)), (qa 3, .inr (2, [.ref (qa 4), .int 0])), (qa 4, .inl (X.2.1.2.2.1, 8, .inl nI)), (qa 5, .inl (X.2.1.2.2.1, 96, .inl (fun _ => 0))), (qa 6, .inr (0, [.ref (qa 7), .int 0])), (qa 7, .inl (X.2.1.2.2.1, 360, .inl (fun _ => 0))), (b, .inr (1, [.ref (qb 0), .int 0, .int 0])), (qb 0, .inl (X.2.1.2.2.2.2, 5, .inr (.inr (.inr (.inr (fun i9 => some (qb (0 + 1 + 8 * i9)))))))), (qb 1, .inr (4, [.ref (qb 2), .ref (qb 4), .ref (qb 6), .ref (qb 7), .int (nI 1)])), (qb 2, .inr (2, [.ref (qb 3), .int 0])), (qb 3, .inl (X.2.1.2.2.1, 12, .inl nI)), (qb 4, .inr (2, [.ref (qb 5), .int 0])), (qb 5, .inl (X.2.1.2.2.1, 8, .inl nI)), (qb 6, .inl (X.2.1.2.2.1, 96, .inl (fun _ => 0))), (qb 7, .inr (0, [.ref (qb 8), .int 0])), (qb 8, .inl (X.2.1.2.2.1, 360, .inl (fun _ => 0))), (qb 9, .inr (4, [.ref (qb 10), .ref (qb 12), .ref (qb 14), .ref (qb 15), .int (nI 1)])), (qb 10, .inr (2, [.ref (qb 11), .int 0])), (qb 11, .inl (X.2.1.2.2.1, 12, .inl nI)), (qb 12, .inr (2, [.ref (qb 13), .int 0])), (qb 13, .inl (X.2.1.2.2.1, 8, .inl nI)), (qb 14, .inl (X.2.1.2.2.1, 96, .inl (fun _ => 0))), (qb 15, .inr (0, [.ref (qb 16), .int 0])), (qb 16, .inl (X.2.1.2.2.1, 360, .inl (fun _ => 0))), (qb 17, .inr (4, [.ref (qb 18), .ref (qb 20), .ref (qb 22), .ref (qb 23), .int (nI 1)])), (qb 18, .inr (2, [.ref (qb 19), .int 0])), (qb 19, .inl (X.2.1.2.2.1, 12, .inl nI)), (qb 20, .inr (2, [.ref (qb 21), .int 0])), (qb 21, .inl (X.2.1.2.2.1, 8, .inl nI)), (qb 22, .inl (X.2.1.2.2.1, 96, .inl (fun _ => 0))), (qb 23, .inr (0, [.ref (qb 24), .int 0])), (qb 24, .inl (X.2.1.2.2.1, 360, .inl (fun _ => 0))), (qb 25, .inr (4, [.ref (qb 26), .ref (qb 28), .ref (qb 30), .ref (qb 31), .int (nI 1)])), (qb 26, .inr (2, [.ref (qb 27), .int 0])), (qb 27, .inl (X.2.1.2.2.1, 12, .inl nI)), (qb 28, .inr (2, [.ref (qb 29), .int 0])), (qb 29, .inl (X.2.1.2.2.1, 8, .inl nI)), (qb 30, .inl (X.2.1.2.2.1, 96, .inl (fun _ => 0))), (qb 31, .inr (0, [.ref (qb 32), .int 0])), (qb 32, .inl (X.2.1.2.2.1, 360, .inl (fun _ => 0))), (qb 33, .inr (4, [.ref (qb 34), .ref (qb 36), .ref (qb 38), .ref (qb 39), .int (nI 1)])), (qb 34, .inr (2, [.ref (qb 35), .int 0])), (qb 35, .inl (X.2.1.2.2.1, 12, .inl nI)), (qb 36, .inr (2, [.ref (qb 37), .int 0])), (qb 37, .inl (X.2.1.2.2.1, 8, .inl nI)), (qb 38, .inl (X.2.1.2.2.1, 96, .inl (fun _ => 0))), (qb 39, .inr (0, [.ref (qb 40), .int 0])), (qb 40, .inl (X.2.1.2.2.1, 360, .inl (fun _ => 0)))]) C N kX3_init rfl gX5_init_X3_init_n25 (by decide +kernel) (List.mem_of_getElem? (i := 3) rfl) (by decide +kernel) (mX3_init X.2.1 c) dX5_init_31 [51] [0, 1, 2, 3, 4, 5, 6, 7, 8, 9, 10, 11, 12, 13, 14, 15, 16, 17, 18, 19, 20, 21, 22, 23, 24, 25, 26, 27, 28, 29, 30, 31, 32, 33, 34, 35, 36, 37, 38, 39, 40, 41, 42, 43, 44, 45, 46, 47, 48, 49, 50] [.ref c, .ref h] rfl rfl (by decide) (by decide) (by decide) rfl (Nat.le_of_ble_eq_true rfl) (Nat.le_of_ble_eq_true rfl) (by simp [Value.category]) rfl rfl rfl (k' := 52) (n' := 2998) (by decide) (by decide) (fun qc => ?_)
  have C := N.cells C (k' := 52) (n' := 2998) (by decide) (by decide)
  refine z_putF C N fX5_init_26 fuX5_2 0 dX5_init_34 rfl rfl rfl (Nat.le_of_ble_eq_true rfl) ?_
  refine z_extq 10 (fun i9 => some ((fun i => if i = 0 then a else if i < 8 then qa i else if i = 8 then b else if i < 50 then qb (i - 9) else if i = 50 then c else qc 0) (9 + 1 + 8 * i9))) rfl (fun j hj => by rcases (show j = 0 ∨ j = 1 ∨ j = 2 ∨ j = 3 ∨ j = 4 by omega) with rfl | rfl | rfl | rfl | rfl <;> rfl) ?_
  exact z_vretI C N dX5_init_37 (fun i => if i = 0 then a else if i < 8 then qa i else if i = 8 then b else if i < 50 then qb (i - 9) else if i = 50 then c else qc 0) [0, 1, 2, 3, 4, 5, 6, 7, 8, 9, 10, 11, 12, 13, 14, 15, 16, 17, 18, 19, 20, 21, 22, 23, 24, 25, 26, 27, 28, 29, 30, 31, 32, 33, 34, 35, 36, 37, 38, 39, 40, 41, 42, 43, 44, 45, 46, 47, 48, 49, 50, 51, 52] rfl (by decide +kernel) (by decide) (by decide)
