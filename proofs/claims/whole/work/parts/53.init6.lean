/-! the constructor of the model -/
def mz : zMs := (fun _ => 0, fun _ => 0, fun _ => 0, 0, 0, false, fun _ => 0, fun _ => 0, fun _ => 0, fun _ => 0, fun _ => 0, fun _ => 0, fun _ => 0)
def m0 : zMs := mwT mz true
theorem zSeg_z {lo n : Nat} {f r : Nat → Int32} (hf : ∀ j, f j = 0) (hr : r = fun _ => 0) : zSeg lo n f r = fun _ => 0 := by
  funext i
  simp only [zSeg]
  split
  · exact hf _
  · rw [hr]
theorem zMr_z : zMr mz = fun _ => 0 := by
  unfold zMr
  rw [mRow_d]
  have z0 : ∀ j : Nat, (fun _ : Nat => nI 0) j = 0 := fun _ => nI_0
  have z1 : ∀ j : Nat, (fun _ : Nat => (0 : Int32)) j = 0 := fun _ => rfl
  exact zSeg_z z0 (zSeg_z z0 (zSeg_z z1 (zSeg_z z0 (zSeg_z z0 (zSeg_z (fun _ => nI_0) (zSeg_z z1 (zSeg_z z1 (zSeg_z z1 (zSeg_z z1 (zSeg_z z1 (zSeg_z z1 (zSeg_z z1 rfl))))))))))))
theorem zMr_0 : upd (fun _ => (0 : Int32)) 52 (nI 1) = zMr m0 := by
  rw [← zMr_z]
  exact zMw_T (v := true)
theorem zHi_z : zHi (fun _ => mz) = fun _ => 0 := by
  funext i
  simp only [zHi]
  rw [zMr_z]
theorem zTx_z : (fun _ : Nat => (0 : Int32)) = fun j9 => nI ((fun _ : Nat => 0) j9) := by funext j; exact nI_0.symm

theorem kX6_init : zY yX6_init wsX6_init cX6_init 1 none 0 := ⟨⟨_, rfl⟩, ⟨(by decide +kernel), (by decide +kernel), (by decide +kernel)⟩, (by decide +kernel)⟩
theorem fX6_init_7 : zF wsX6_init RX6 7 6 0 RX6 TX6 10 := ⟨(by decide +kernel), rfl, by decide, (by decide +kernel), rfl⟩
theorem fuX6_0 : zFt 0 10 TX6 tyX6 true := ⟨tyX6_ok, nmX6, rfl⟩
theorem fX6_init_13 : zF wsX6_init RX6 13 6 1 RX6 TX6 10 := ⟨(by decide +kernel), rfl, by decide, (by decide +kernel), rfl⟩
theorem fuX6_1 : zFt 1 10 TX6 tyX6 true := ⟨tyX6_ok, nmX6, rfl⟩
theorem fX6_init_16 : zF wsX6_init RX6 16 6 2 RX6 TX6 10 := ⟨(by decide +kernel), rfl, by decide, (by decide +kernel), rfl⟩
theorem fuX6_2 : zFt 2 10 TX6 tyX6 true := ⟨tyX6_ok, nmX6, rfl⟩
theorem fX6_init_19 : zF wsX6_init RX6 19 6 5 RX6 TX6 10 := ⟨(by decide +kernel), rfl, by decide, (by decide +kernel), rfl⟩
theorem fuX6_5 : zFt 5 10 TX6 tyX6 true := ⟨tyX6_ok, nmX6, rfl⟩
theorem fX6_init_23 : zF wsX6_init RX6 23 6 9 RX6 TX6 10 := ⟨(by decide +kernel), rfl, by decide, (by decide +kernel), rfl⟩
theorem fuX6_9 : zFt 9 10 TX6 tyX6 true := ⟨tyX6_ok, nmX6, rfl⟩
set_option maxHeartbeats 4000000 in
set_option maxRecDepth 100000 in
theorem mX6_init (E : zE) (h : Nat) : zMI E yX6_init wsX6_init 1 5 3252 [.ref h] [(h, .inr (6, [.null, .null, .null, .int 0, .int 0, .null, .int 0, .int 0, .int 0, .null]))] (fun q => [(h, .inr (6, [.ref (q 0), .ref (q 1), .ref (q 2), .int 0, .int 0, .ref (q 3), .int 0, .int 0, .int 0, .ref (q 4)])), (q 0, .inl (E.2.2.1, 512, .inl (zMr m0))), (q 1, .inl (E.2.2.1, 512, .inl (zMr mz))), (q 2, .inl (E.2.2.1, 2048, .inl (zHi (fun _ => mz)))), (q 3, .inl (E.2.2.2.1, 60, .inl (fun j9 => nI ((fun _ : Nat => 0) j9)))), (q 4, .inl (E.2.2.1, 120, .inl (fun _ => 0)))]) := by
  refine zMI.of kX6_init rfl (Nat.le_of_ble_eq_true rfl) rfl [some (.ref h)] rfl (Nat.le_of_ble_eq_true rfl) ?_
  intro X eX C N
  subst eX
  refine z_aload_n C 0 dX6_init_0 rfl rfl ?_
  refine z_obj C (by decide +kernel) (by decide +kernel) (by decide +kernel) dX6_init_1 (by decide) ?_
  refine z_aload_n C 0 dX6_init_4 rfl rfl ?_
  refine z_sipush C (nI 512) dX6_init_5 (by decide) ?_
  refine z_newI C N (by decide +kernel) (by decide) (nI_clamp (by decide)) (by decide) rfl rfl (k' := 1) (n' := 512) (by decide) (by decide) dX6_init_8 (fun q0 => ?_)
  have C := N.cells C (k' := 1) (n' := 512) (by decide) (by decide)
  refine z_putF C N fX6_init_7 fuX6_0 0 dX6_init_10 rfl rfl rfl (Nat.le_of_ble_eq_true rfl) ?_
  refine z_aload_n C 0 dX6_init_13 rfl rfl ?_
  refine z_sipush C (nI 512) dX6_init_14 (by decide) ?_
  refine z_newI C N (by decide +kernel) (by decide) (nI_clamp (by decide)) (by decide) rfl rfl (k' := 2) (n' := 1024) (by decide) (by decide) dX6_init_17 (fun q1 => ?_)
  have C := N.cells C (k' := 2) (n' := 1024) (by decide) (by decide)
  refine z_putF C N fX6_init_13 fuX6_1 0 dX6_init_19 rfl rfl rfl (Nat.le_of_ble_eq_true rfl) ?_
  refine z_aload_n C 0 dX6_init_22 rfl rfl ?_
  refine z_sipush C (nI 2048) dX6_init_23 (by decide) ?_
  refine z_newI C N (by decide +kernel) (by decide) (nI_clamp (by decide)) (by decide) rfl rfl (k' := 3) (n' := 3072) (by decide) (by decide) dX6_init_26 (fun q2 => ?_)
  have C := N.cells C (k' := 3) (n' := 3072) (by decide) (by decide)
  refine z_putF C N fX6_init_16 fuX6_2 0 dX6_init_28 rfl rfl rfl (Nat.le_of_ble_eq_true rfl) ?_
  refine z_aload_n C 0 dX6_init_31 rfl rfl ?_
  refine z_bipush C (nI 60) dX6_init_32 (by decide) ?_
  refine z_newC C N (by decide +kernel) (by decide) (nI_clamp (by decide)) (by decide) rfl rfl (k' := 4) (n' := 3132) (by decide) (by decide) dX6_init_34 (fun q3 => ?_)
  have C := N.cells C (k' := 4) (n' := 3132) (by decide) (by decide)
  refine z_putF C N fX6_init_19 fuX6_5 0 dX6_init_36 rfl rfl rfl (Nat.le_of_ble_eq_true rfl) ?_
  refine z_aload_n C 0 dX6_init_39 rfl rfl ?_
  refine z_bipush C (nI 120) dX6_init_40 (by decide) ?_
  refine z_newI C N (by decide +kernel) (by decide) (nI_clamp (by decide)) (by decide) rfl rfl (k' := 5) (n' := 3252) (by decide) (by decide) dX6_init_42 (fun q4 => ?_)
  have C := N.cells C (k' := 5) (n' := 3252) (by decide) (by decide)
  refine z_putF C N fX6_init_23 fuX6_9 0 dX6_init_44 rfl rfl rfl (Nat.le_of_ble_eq_true rfl) ?_
  refine z_aload_n C 0 dX6_init_47 rfl rfl ?_
  refine z_get C fX6_init_7 0 dX6_init_48 rfl rfl ?_
  refine z_bipush C (nI 52) dX6_init_51 (by decide) ?_
  refine z_iconst C (nI 1) dX6_init_53 (by decide) ?_
  refine z_iastN C 1 dX6_init_54 rfl (by decide) (by decide) ?_
  have hw : ([(h, .inr (6, [.ref q0, .ref q1, .ref q2, .int 0, .int 0, .ref q3, .int 0, .int 0, .int 0, .ref q4])), (q0, .inl (X.2.1.2.2.1, 512, .inl (upd (fun _ => 0) 52 (nI 1)))), (q1, .inl (X.2.1.2.2.1, 512, .inl (fun _ => 0))), (q2, .inl (X.2.1.2.2.1, 2048, .inl (fun _ => 0))), (q3, .inl (X.2.1.2.2.2.1, 60, .inl (fun _ => 0))), (q4, .inl (X.2.1.2.2.1, 120, .inl (fun _ => 0)))] : va_W) = [(h, .inr (6, [.ref q0, .ref q1, .ref q2, .int 0, .int 0, .ref q3, .int 0, .int 0, .int 0, .ref q4])), (q0, .inl (X.2.1.2.2.1, 512, .inl (zMr m0))), (q1, .inl (X.2.1.2.2.1, 512, .inl (zMr mz))), (q2, .inl (X.2.1.2.2.1, 2048, .inl (zHi (fun _ => mz)))), (q3, .inl (X.2.1.2.2.2.1, 60, .inl (fun j9 => nI ((fun _ : Nat => 0) j9)))), (q4, .inl (X.2.1.2.2.1, 120, .inl (fun _ => 0)))] := by rw [zMr_0, zMr_z, zHi_z, ← zTx_z]
  refine z_cv (ws' := [(h, .inr (6, [.ref q0, .ref q1, .ref q2, .int 0, .int 0, .ref q3, .int 0, .int 0, .int 0, .ref q4])), (q0, .inl (X.2.1.2.2.1, 512, .inl (zMr m0))), (q1, .inl (X.2.1.2.2.1, 512, .inl (zMr mz))), (q2, .inl (X.2.1.2.2.1, 2048, .inl (zHi (fun _ => mz)))), (q3, .inl (X.2.1.2.2.2.1, 60, .inl (fun j9 => nI ((fun _ : Nat => 0) j9)))), (q4, .inl (X.2.1.2.2.1, 120, .inl (fun _ => 0)))]) hw rfl rfl ?_
  exact z_vretI C N dX6_init_55 (fun i => match i with | 0 => q0 | 1 => q1 | 2 => q2 | 3 => q3 | _ => q4) [0, 1, 2, 3, 4, 5] rfl (by decide) (by decide) (by decide)
