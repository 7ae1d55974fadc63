/-! the model: reading orders from the text -/
theorem zDg_f {c : Nat} (h : ¬ (48 ≤ c ∧ c ≤ 57)) : zDg c = false := by
  cases e : zDg c with
  | false => rfl
  | true => exact absurd (zDg_t e) h
theorem zDg_y {c : Nat} (h : 48 ≤ c ∧ c ≤ 57) : zDg c = true := by simp [zDg, h.1, h.2]
theorem zHe_in (tx : Nat → Nat) {ln p : Nat} (h : p < ln) : zHe tx ln p = tx p := by rw [zHe_d, if_pos h]
/-- the value that is kept of a number: 0 where there is none -/
noncomputable def mNv (tx : Nat → Nat) (ln d p : Nat) : Int32 := if zDg (zHe tx ln p) = true then (zRn tx ln d p).1 else nI 0
theorem zRn_n {tx : Nat → Nat} {ln m p : Nat} (h : zDg (zHe tx ln p) = false) : zRn tx ln m p = (-5, p) := by rw [zRn_d, if_neg (by rw [h]; decide)]
theorem zRn_0 {tx : Nat → Nat} {ln m p : Nat} (h : zHe tx ln p = 48) : zRn tx ln m p = (nI 0, p + 1) := by rw [zRn_d, if_pos (by rw [h]; decide), if_pos h]
theorem zRn_p {tx : Nat → Nat} {ln m p : Nat} (h : zDg (zHe tx ln p) = true) (h2 : zHe tx ln p ≠ 48) : zRn tx ln m p = (nI (zNL tx ln m p 0).1, (zNL tx ln m p 0).2) := by rw [zRn_d, if_pos h, if_neg h2]
theorem zNL_y {tx : Nat → Nat} {ln d p v : Nat} (h : zDg (zHe tx ln p) = true) : zNL tx ln (d + 1) p v = zNL tx ln d (p + 1) (10 * v + (zHe tx ln p - 48)) := by
  rw [zNL, if_pos h]
theorem zNL_n {tx : Nat → Nat} {ln d p v : Nat} (h : zDg (zHe tx ln p) = false) : zNL tx ln (d + 1) p v = (v, p) := by
  rw [zNL, if_neg (by rw [h]; decide)]
theorem zNL_z {tx : Nat → Nat} {ln p v : Nat} : zNL tx ln 0 p v = (v, p) := by rw [zNL]
theorem kX6_isAt : zY yX6_isAt wsX6_isAt cX6_isAt 3 (some .boolean) 2 := ⟨⟨_, rfl⟩, ⟨by decide +kernel, by decide +kernel, by decide +kernel⟩, by decide +kernel⟩
theorem fX6_isAt_161 : zF wsX6_isAt RX6 161 6 6 RX6 TX6 10 := ⟨by decide +kernel, rfl, by decide, by decide +kernel, rfl⟩
theorem fX6_isAt_158 : zF wsX6_isAt RX6 158 6 4 RX6 TX6 10 := ⟨by decide +kernel, rfl, by decide, by decide +kernel, rfl⟩
theorem fX6_isAt_19 : zF wsX6_isAt RX6 19 6 5 RX6 TX6 10 := ⟨by decide +kernel, rfl, by decide, by decide +kernel, rfl⟩
set_option maxHeartbeats 4000000 in
set_option maxRecDepth 100000 in
theorem mX6_isAt_d (E : zE) (a : Nat → Nat) (kp ty pl : Nat) (gd : Bool) (od : Nat) (tx : Nat → Nat)  (hty : ty ≤ 60) (htx : ∀ j, tx j < 65536) (hpl : pl ≤ ty) : zM E yX6_isAt wsX6_isAt 0 [.ref (a 0), .int (nI 48), .int (nI 57)] [((a 0), .inr (6, [.ref (a 1), .ref (a 2), .ref (a 3), .int (nI kp), .int (nI ty), .ref (a 4), .int (nI pl), .int (zb gd), .int (nI od), .ref (a 5)])), ((a 4), .inl (E.2.2.2.1, 60, .inl (fun j9 => nI (tx j9))))] [((a 0), .inr (6, [.ref (a 1), .ref (a 2), .ref (a 3), .int (nI kp), .int (nI ty), .ref (a 4), .int (nI pl), .int (zb gd), .int (nI od), .ref (a 5)])), ((a 4), .inl (E.2.2.2.1, 60, .inl (fun j9 => nI (tx j9))))] (some (.int (zb (zDg (zHe tx ty pl))))) := by
  refine zM.of kX6_isAt (Nat.le_of_ble_eq_true rfl) rfl [some (.ref (a 0)), some (.int (nI 48)), some (.int (nI 57))] rfl (Nat.le_of_ble_eq_true rfl) ?_
  intro X eX C N
  subst eX
  have htp := htx pl
  refine z_aload_n C 0 dX6_isAt_0 rfl rfl ?_
  refine z_get C fX6_isAt_161 0 dX6_isAt_1 rfl rfl ?_
  refine z_aload_n C 0 dX6_isAt_4 rfl rfl ?_
  refine z_get C fX6_isAt_158 0 dX6_isAt_5 rfl rfl ?_
  refine z_ncmp_ge C 41 dX6_isAt_8 (by decide) (by omega) (by omega) (fun h_1 => ?_) (fun h_1 => ?_)
  · refine z_iconst C (nI 0) dX6_isAt_41 (by decide) ?_
    exact z_zret C N dX6_isAt_42 rfl (rfl) (congrArg (fun x => some (Value.int x)) (zb_f (zDg_f (by rw [zHe_d]; split <;> omega))).symm)
  · refine z_aload_n C 0 dX6_isAt_11 rfl rfl ?_
    refine z_get C fX6_isAt_19 0 dX6_isAt_12 rfl rfl ?_
    refine z_aload_n C 0 dX6_isAt_15 rfl rfl ?_
    refine z_get C fX6_isAt_161 0 dX6_isAt_16 rfl rfl ?_
    refine z_caldN C 1 dX6_isAt_19 rfl (by omega) (by decide) ?_
    refine z_top (y := nI (tx pl)) rfl ?_
    refine z_iload_n C 1 dX6_isAt_20 rfl rfl ?_
    refine z_ncmp_lt C 41 dX6_isAt_21 (by decide) (by omega) (by omega) (fun h_2 => ?_) (fun h_2 => ?_)
    · refine z_iconst C (nI 0) dX6_isAt_41 (by decide) ?_
      exact z_zret C N dX6_isAt_42 rfl (rfl) (congrArg (fun x => some (Value.int x)) (zb_f (zDg_f (by rw [zHe_d]; split <;> omega))).symm)
    · refine z_aload_n C 0 dX6_isAt_24 rfl rfl ?_
      refine z_get C fX6_isAt_19 0 dX6_isAt_25 rfl rfl ?_
      refine z_aload_n C 0 dX6_isAt_28 rfl rfl ?_
      refine z_get C fX6_isAt_161 0 dX6_isAt_29 rfl rfl ?_
      refine z_caldN C 1 dX6_isAt_32 rfl (by omega) (by decide) ?_
      refine z_top (y := nI (tx pl)) rfl ?_
      refine z_iload_n C 2 dX6_isAt_33 rfl rfl ?_
      refine z_ncmp_gt C 41 dX6_isAt_34 (by decide) (by omega) (by omega) (fun h_3 => ?_) (fun h_3 => ?_)
      · refine z_iconst C (nI 0) dX6_isAt_41 (by decide) ?_
        exact z_zret C N dX6_isAt_42 rfl (rfl) (congrArg (fun x => some (Value.int x)) (zb_f (zDg_f (by rw [zHe_d]; split <;> omega))).symm)
      · refine z_iconst C (nI 1) dX6_isAt_37 (by decide) ?_
        refine z_goto C 42 dX6_isAt_38 (by decide) ?_
        exact z_zret C N dX6_isAt_42 rfl (rfl) (congrArg (fun x => some (Value.int x)) (zb_t (zDg_y (by rw [zHe_d]; split <;> omega))).symm)

set_option maxHeartbeats 4000000 in
set_option maxRecDepth 100000 in
theorem mX6_isAt (E : zE) (a : Nat → Nat) (kp ty pl : Nat) (gd : Bool) (od : Nat) (tx : Nat → Nat) (c : Nat) (hty : ty ≤ 60) (htx : ∀ j, tx j < 65536) (hpl : pl ≤ ty) (hc0 : 0 < c) (hc : c < 65536) : zM E yX6_isAt wsX6_isAt 0 [.ref (a 0), .int (nI c), .int (nI c)] [((a 0), .inr (6, [.ref (a 1), .ref (a 2), .ref (a 3), .int (nI kp), .int (nI ty), .ref (a 4), .int (nI pl), .int (zb gd), .int (nI od), .ref (a 5)])), ((a 4), .inl (E.2.2.2.1, 60, .inl (fun j9 => nI (tx j9))))] [((a 0), .inr (6, [.ref (a 1), .ref (a 2), .ref (a 3), .int (nI kp), .int (nI ty), .ref (a 4), .int (nI pl), .int (zb gd), .int (nI od), .ref (a 5)])), ((a 4), .inl (E.2.2.2.1, 60, .inl (fun j9 => nI (tx j9))))] (some (.int (zb (decide (zHe tx ty pl = c))))) := by
  refine zM.of kX6_isAt (Nat.le_of_ble_eq_true rfl) rfl [some (.ref (a 0)), some (.int (nI c)), some (.int (nI c))] rfl (Nat.le_of_ble_eq_true rfl) ?_
  intro X eX C N
  subst eX
  have htp := htx pl
  refine z_aload_n C 0 dX6_isAt_0 rfl rfl ?_
  refine z_get C fX6_isAt_161 0 dX6_isAt_1 rfl rfl ?_
  refine z_aload_n C 0 dX6_isAt_4 rfl rfl ?_
  refine z_get C fX6_isAt_158 0 dX6_isAt_5 rfl rfl ?_
  refine z_ncmp_ge C 41 dX6_isAt_8 (by decide) (by omega) (by omega) (fun h_1 => ?_) (fun h_1 => ?_)
  · refine z_iconst C (nI 0) dX6_isAt_41 (by decide) ?_
    exact z_zret C N dX6_isAt_42 rfl (rfl) (congrArg (fun x => some (Value.int x)) (zb_f (decide_eq_false (by rw [zHe_d]; split <;> omega))).symm)
  · refine z_aload_n C 0 dX6_isAt_11 rfl rfl ?_
    refine z_get C fX6_isAt_19 0 dX6_isAt_12 rfl rfl ?_
    refine z_aload_n C 0 dX6_isAt_15 rfl rfl ?_
    refine z_get C fX6_isAt_161 0 dX6_isAt_16 rfl rfl ?_
    refine z_caldN C 1 dX6_isAt_19 rfl (by omega) (by decide) ?_
    refine z_top (y := nI (tx pl)) rfl ?_
    refine z_iload_n C 1 dX6_isAt_20 rfl rfl ?_
    refine z_ncmp_lt C 41 dX6_isAt_21 (by decide) (by omega) (by omega) (fun h_2 => ?_) (fun h_2 => ?_)
    · refine z_iconst C (nI 0) dX6_isAt_41 (by decide) ?_
      exact z_zret C N dX6_isAt_42 rfl (rfl) (congrArg (fun x => some (Value.int x)) (zb_f (decide_eq_false (by rw [zHe_d]; split <;> omega))).symm)
    · refine z_aload_n C 0 dX6_isAt_24 rfl rfl ?_
      refine z_get C fX6_isAt_19 0 dX6_isAt_25 rfl rfl ?_
      refine z_aload_n C 0 dX6_isAt_28 rfl rfl ?_
      refine z_get C fX6_isAt_161 0 dX6_isAt_29 rfl rfl ?_
      refine z_caldN C 1 dX6_isAt_32 rfl (by omega) (by decide) ?_
      refine z_top (y := nI (tx pl)) rfl ?_
      refine z_iload_n C 2 dX6_isAt_33 rfl rfl ?_
      refine z_ncmp_gt C 41 dX6_isAt_34 (by decide) (by omega) (by omega) (fun h_3 => ?_) (fun h_3 => ?_)
      · refine z_iconst C (nI 0) dX6_isAt_41 (by decide) ?_
        exact z_zret C N dX6_isAt_42 rfl (rfl) (congrArg (fun x => some (Value.int x)) (zb_f (decide_eq_false (by rw [zHe_d]; split <;> omega))).symm)
      · refine z_iconst C (nI 1) dX6_isAt_37 (by decide) ?_
        refine z_goto C 42 dX6_isAt_38 (by decide) ?_
        exact z_zret C N dX6_isAt_42 rfl (rfl) (congrArg (fun x => some (Value.int x)) (zb_t (decide_eq_true (by rw [zHe_d]; split <;> omega))).symm)

theorem kX6_skips : zY yX6_skips wsX6_skips cX6_skips 3 (some .boolean) 1 := ⟨⟨_, rfl⟩, ⟨by decide +kernel, by decide +kernel, by decide +kernel⟩, by decide +kernel⟩
theorem fX6_skips_164 : zF wsX6_skips RX6 164 6 7 RX6 TX6 10 := ⟨by decide +kernel, rfl, by decide, by decide +kernel, rfl⟩
theorem fX6_skips_161 : zF wsX6_skips RX6 161 6 6 RX6 TX6 10 := ⟨by decide +kernel, rfl, by decide, by decide +kernel, rfl⟩
theorem ftX6_6 : zFt 6 10 TX6 tyX6 false := ⟨tyX6_ok, nmX6, rfl⟩
set_option maxHeartbeats 4000000 in
set_option maxRecDepth 100000 in
theorem mX6_skips_g (E : zE) (a : Nat → Nat) (kp ty pl : Nat) (od : Nat) (tx : Nat → Nat) (c : Nat) (hty : ty ≤ 60) (htx : ∀ j, tx j < 65536) (hpl : pl ≤ ty) (hc0 : 0 < c) (hc : c < 65536) : zM E yX6_skips wsX6_skips 1 [.ref (a 0), .int (nI c)] [((a 0), .inr (6, [.ref (a 1), .ref (a 2), .ref (a 3), .int (nI kp), .int (nI ty), .ref (a 4), .int (nI pl), .int (zb false), .int (nI od), .ref (a 5)])), ((a 4), .inl (E.2.2.2.1, 60, .inl (fun j9 => nI (tx j9))))] [((a 0), .inr (6, [.ref (a 1), .ref (a 2), .ref (a 3), .int (nI kp), .int (nI ty), .ref (a 4), .int (nI pl), .int (zb false), .int (nI od), .ref (a 5)])), ((a 4), .inl (E.2.2.2.1, 60, .inl (fun j9 => nI (tx j9))))] (some (.int (zb false))) := by
  refine zM.of kX6_skips (Nat.le_of_ble_eq_true rfl) rfl [some (.ref (a 0)), some (.int (nI c)), none] rfl (Nat.le_of_ble_eq_true rfl) ?_
  intro X eX C N
  subst eX
  refine z_aload_n C 0 dX6_skips_0 rfl rfl ?_
  refine z_get C fX6_skips_164 0 dX6_skips_1 rfl rfl ?_
  refine z_bif_eq_t C 20 dX6_skips_4 (by decide) rfl ?_
  refine z_iconst C (nI 0) dX6_skips_20 (by decide) ?_
  refine z_istore_n C 2 dX6_skips_21 rfl (Nat.le_of_ble_eq_true rfl) ?_
  refine z_aload_n C 0 dX6_skips_22 rfl rfl ?_
  refine z_dup C dX6_skips_23 rfl ?_
  refine z_get C fX6_skips_161 0 dX6_skips_24 rfl rfl ?_
  refine z_iload_n C 2 dX6_skips_27 rfl rfl ?_
  refine z_nif_eq_t C 35 dX6_skips_28 (by decide) (by omega) (by omega) ?_
  refine z_iconst C (nI 0) dX6_skips_35 (by decide) ?_
  refine z_iadd C dX6_skips_36 ?_
  refine z_top (y := nI pl) (nI_add _ _) ?_
  refine z_put C fX6_skips_161 ftX6_6 0 dX6_skips_37 rfl rfl rfl (Nat.le_of_ble_eq_true rfl) ?_
  refine z_iload_n C 2 dX6_skips_40 rfl rfl ?_
  exact z_zret C N dX6_skips_41 rfl (rfl) (rfl)

set_option maxHeartbeats 4000000 in
set_option maxRecDepth 100000 in
theorem mX6_skips_y (E : zE) (a : Nat → Nat) (kp ty pl : Nat) (od : Nat) (tx : Nat → Nat) (c : Nat) (hty : ty ≤ 60) (htx : ∀ j, tx j < 65536) (hpl : pl ≤ ty) (hc0 : 0 < c) (hc : c < 65536) (he : zHe tx ty pl = c) : zM E yX6_skips wsX6_skips 1 [.ref (a 0), .int (nI c)] [((a 0), .inr (6, [.ref (a 1), .ref (a 2), .ref (a 3), .int (nI kp), .int (nI ty), .ref (a 4), .int (nI pl), .int (zb true), .int (nI od), .ref (a 5)])), ((a 4), .inl (E.2.2.2.1, 60, .inl (fun j9 => nI (tx j9))))] [((a 0), .inr (6, [.ref (a 1), .ref (a 2), .ref (a 3), .int (nI kp), .int (nI ty), .ref (a 4), .int (nI (pl + 1)), .int (zb true), .int (nI od), .ref (a 5)])), ((a 4), .inl (E.2.2.2.1, 60, .inl (fun j9 => nI (tx j9))))] (some (.int (zb true))) := by
  refine zM.of kX6_skips (Nat.le_of_ble_eq_true rfl) rfl [some (.ref (a 0)), some (.int (nI c)), none] rfl (Nat.le_of_ble_eq_true rfl) ?_
  intro X eX C N
  subst eX
  refine z_aload_n C 0 dX6_skips_0 rfl rfl ?_
  refine z_get C fX6_skips_164 0 dX6_skips_1 rfl rfl ?_
  refine z_bif_eq_f C 20 dX6_skips_4 (by decide) rfl ?_
  refine z_aload_n C 0 dX6_skips_7 rfl rfl ?_
  refine z_iload_n C 1 dX6_skips_8 rfl rfl ?_
  refine z_iload_n C 1 dX6_skips_9 rfl rfl ?_
  refine z_callVr C kX6_isAt gX6_skips_X6_isAt (mX6_isAt X.2.1 a kp ty pl true od tx c hty htx hpl hc0 hc) dX6_skips_10 [0, 1] [] 0 rfl nd_0_1 rfl rfl rfl (by decide) (by decide) (Nat.le_of_ble_eq_true rfl) rfl ?_
  refine z_bif_eq_f C 20 dX6_skips_13 (by decide) (decide_eq_true (by omega)) ?_
  refine z_iconst C (nI 1) dX6_skips_16 (by decide) ?_
  refine z_goto C 21 dX6_skips_17 (by decide) ?_
  refine z_istore_n C 2 dX6_skips_21 rfl (Nat.le_of_ble_eq_true rfl) ?_
  refine z_aload_n C 0 dX6_skips_22 rfl rfl ?_
  refine z_dup C dX6_skips_23 rfl ?_
  refine z_get C fX6_skips_161 0 dX6_skips_24 rfl rfl ?_
  refine z_iload_n C 2 dX6_skips_27 rfl rfl ?_
  refine z_nif_eq_f C 35 dX6_skips_28 (by decide) (by omega) (by omega) ?_
  refine z_iconst C (nI 1) dX6_skips_31 (by decide) ?_
  refine z_goto C 36 dX6_skips_32 (by decide) ?_
  refine z_iadd C dX6_skips_36 ?_
  refine z_top (y := nI (pl + 1)) (nI_add _ _) ?_
  refine z_put C fX6_skips_161 ftX6_6 0 dX6_skips_37 rfl rfl rfl (Nat.le_of_ble_eq_true rfl) ?_
  refine z_iload_n C 2 dX6_skips_40 rfl rfl ?_
  exact z_zret C N dX6_skips_41 rfl (rfl) (rfl)

set_option maxHeartbeats 4000000 in
set_option maxRecDepth 100000 in
theorem mX6_skips_n (E : zE) (a : Nat → Nat) (kp ty pl : Nat) (od : Nat) (tx : Nat → Nat) (c : Nat) (hty : ty ≤ 60) (htx : ∀ j, tx j < 65536) (hpl : pl ≤ ty) (hc0 : 0 < c) (hc : c < 65536) (he : zHe tx ty pl ≠ c) : zM E yX6_skips wsX6_skips 1 [.ref (a 0), .int (nI c)] [((a 0), .inr (6, [.ref (a 1), .ref (a 2), .ref (a 3), .int (nI kp), .int (nI ty), .ref (a 4), .int (nI pl), .int (zb true), .int (nI od), .ref (a 5)])), ((a 4), .inl (E.2.2.2.1, 60, .inl (fun j9 => nI (tx j9))))] [((a 0), .inr (6, [.ref (a 1), .ref (a 2), .ref (a 3), .int (nI kp), .int (nI ty), .ref (a 4), .int (nI pl), .int (zb true), .int (nI od), .ref (a 5)])), ((a 4), .inl (E.2.2.2.1, 60, .inl (fun j9 => nI (tx j9))))] (some (.int (zb false))) := by
  refine zM.of kX6_skips (Nat.le_of_ble_eq_true rfl) rfl [some (.ref (a 0)), some (.int (nI c)), none] rfl (Nat.le_of_ble_eq_true rfl) ?_
  intro X eX C N
  subst eX
  have hlt0 : 0 ≤ ty := Nat.zero_le _
  refine z_aload_n C 0 dX6_skips_0 rfl rfl ?_
  refine z_get C fX6_skips_164 0 dX6_skips_1 rfl rfl ?_
  refine z_bif_eq_f C 20 dX6_skips_4 (by decide) rfl ?_
  refine z_aload_n C 0 dX6_skips_7 rfl rfl ?_
  refine z_iload_n C 1 dX6_skips_8 rfl rfl ?_
  refine z_iload_n C 1 dX6_skips_9 rfl rfl ?_
  refine z_callVr C kX6_isAt gX6_skips_X6_isAt (mX6_isAt X.2.1 a kp ty pl true od tx c hty htx hpl hc0 hc) dX6_skips_10 [0, 1] [] 0 rfl nd_0_1 rfl rfl rfl (by decide) (by decide) (Nat.le_of_ble_eq_true rfl) rfl ?_
  refine z_bif_eq_t C 20 dX6_skips_13 (by decide) (decide_eq_false (by omega)) ?_
  refine z_iconst C (nI 0) dX6_skips_20 (by decide) ?_
  refine z_istore_n C 2 dX6_skips_21 rfl (Nat.le_of_ble_eq_true rfl) ?_
  refine z_aload_n C 0 dX6_skips_22 rfl rfl ?_
  refine z_dup C dX6_skips_23 rfl ?_
  refine z_get C fX6_skips_161 0 dX6_skips_24 rfl rfl ?_
  refine z_iload_n C 2 dX6_skips_27 rfl rfl ?_
  refine z_nif_eq_t C 35 dX6_skips_28 (by decide) (by omega) (by omega) ?_
  refine z_iconst C (nI 0) dX6_skips_35 (by decide) ?_
  refine z_iadd C dX6_skips_36 ?_
  refine z_top (y := nI pl) (nI_add _ _) ?_
  refine z_put C fX6_skips_161 ftX6_6 0 dX6_skips_37 rfl rfl rfl (Nat.le_of_ble_eq_true rfl) ?_
  refine z_iload_n C 2 dX6_skips_40 rfl rfl ?_
  exact z_zret C N dX6_skips_41 rfl (rfl) (rfl)

theorem kX6_number : zY yX6_number wsX6_number cX6_number 4 (some .int) 1 := ⟨⟨_, rfl⟩, ⟨by decide +kernel, by decide +kernel, by decide +kernel⟩, by decide +kernel⟩
theorem fX6_number_161 : zF wsX6_number RX6 161 6 6 RX6 TX6 10 := ⟨by decide +kernel, rfl, by decide, by decide +kernel, rfl⟩
theorem fX6_number_164 : zF wsX6_number RX6 164 6 7 RX6 TX6 10 := ⟨by decide +kernel, rfl, by decide, by decide +kernel, rfl⟩
theorem ftX6_7 : zFt 7 10 TX6 tyX6 false := ⟨tyX6_ok, nmX6, rfl⟩
set_option maxHeartbeats 4000000 in
set_option maxRecDepth 100000 in
theorem mX6_number_g2 (E : zE) (a : Nat → Nat) (kp ty pl : Nat) (od : Nat) (tx : Nat → Nat)  (hty : ty ≤ 60) (htx : ∀ j, tx j < 65536) (hpl : pl ≤ ty) : zM E yX6_number wsX6_number 1 [.ref (a 0), .int (nI 2)] [((a 0), .inr (6, [.ref (a 1), .ref (a 2), .ref (a 3), .int (nI kp), .int (nI ty), .ref (a 4), .int (nI pl), .int (zb false), .int (nI od), .ref (a 5)])), ((a 4), .inl (E.2.2.2.1, 60, .inl (fun j9 => nI (tx j9))))] [((a 0), .inr (6, [.ref (a 1), .ref (a 2), .ref (a 3), .int (nI kp), .int (nI ty), .ref (a 4), .int (nI pl), .int (zb false), .int (nI od), .ref (a 5)])), ((a 4), .inl (E.2.2.2.1, 60, .inl (fun j9 => nI (tx j9))))] (some (.int (nI 0))) := by
  refine zM.of kX6_number (Nat.le_of_ble_eq_true rfl) rfl [some (.ref (a 0)), some (.int (nI 2)), none, none] rfl (Nat.le_of_ble_eq_true rfl) ?_
  intro X eX C N
  subst eX
  refine z_aload_n C 0 dX6_number_0 rfl rfl ?_
  refine z_get C fX6_number_161 0 dX6_number_1 rfl rfl ?_
  refine z_istore_n C 2 dX6_number_4 rfl (Nat.le_of_ble_eq_true rfl) ?_
  refine z_iconst C (nI 0) dX6_number_5 (by decide) ?_
  refine z_istore_n C 3 dX6_number_6 rfl (Nat.le_of_ble_eq_true rfl) ?_
  refine z_aload_n C 0 dX6_number_7 rfl rfl ?_
  refine z_aload_n C 0 dX6_number_8 rfl rfl ?_
  refine z_get C fX6_number_164 0 dX6_number_9 rfl rfl ?_
  refine z_bif_eq_t C 30 dX6_number_12 (by decide) rfl ?_
  refine z_iconst C (nI 0) dX6_number_30 (by decide) ?_
  refine z_put C fX6_number_164 ftX6_7 0 dX6_number_31 rfl rfl rfl (Nat.le_of_ble_eq_true rfl) ?_
  refine z_aload_n C 0 dX6_number_34 rfl rfl ?_
  refine z_get C fX6_number_164 0 dX6_number_35 rfl rfl ?_
  refine z_bif_eq_t C 105 dX6_number_38 (by decide) rfl ?_
  refine z_iload_n C 3 dX6_number_105 rfl rfl ?_
  exact z_iret C N dX6_number_106 (rfl) (rfl)

set_option maxHeartbeats 4000000 in
set_option maxRecDepth 100000 in
theorem mX6_number_n2 (E : zE) (a : Nat → Nat) (kp ty pl : Nat) (od : Nat) (tx : Nat → Nat)  (hty : ty ≤ 60) (htx : ∀ j, tx j < 65536) (hpl : pl ≤ ty) (hd : zDg (zHe tx ty pl) = false) : zM E yX6_number wsX6_number 1 [.ref (a 0), .int (nI 2)] [((a 0), .inr (6, [.ref (a 1), .ref (a 2), .ref (a 3), .int (nI kp), .int (nI ty), .ref (a 4), .int (nI pl), .int (zb true), .int (nI od), .ref (a 5)])), ((a 4), .inl (E.2.2.2.1, 60, .inl (fun j9 => nI (tx j9))))] [((a 0), .inr (6, [.ref (a 1), .ref (a 2), .ref (a 3), .int (nI kp), .int (nI ty), .ref (a 4), .int (nI pl), .int (zb false), .int (nI od), .ref (a 5)])), ((a 4), .inl (E.2.2.2.1, 60, .inl (fun j9 => nI (tx j9))))] (some (.int (nI 0))) := by
  refine zM.of kX6_number (Nat.le_of_ble_eq_true rfl) rfl [some (.ref (a 0)), some (.int (nI 2)), none, none] rfl (Nat.le_of_ble_eq_true rfl) ?_
  intro X eX C N
  subst eX
  refine z_aload_n C 0 dX6_number_0 rfl rfl ?_
  refine z_get C fX6_number_161 0 dX6_number_1 rfl rfl ?_
  refine z_istore_n C 2 dX6_number_4 rfl (Nat.le_of_ble_eq_true rfl) ?_
  refine z_iconst C (nI 0) dX6_number_5 (by decide) ?_
  refine z_istore_n C 3 dX6_number_6 rfl (Nat.le_of_ble_eq_true rfl) ?_
  refine z_aload_n C 0 dX6_number_7 rfl rfl ?_
  refine z_aload_n C 0 dX6_number_8 rfl rfl ?_
  refine z_get C fX6_number_164 0 dX6_number_9 rfl rfl ?_
  refine z_bif_eq_f C 30 dX6_number_12 (by decide) rfl ?_
  refine z_aload_n C 0 dX6_number_15 rfl rfl ?_
  refine z_bipush C (nI 48) dX6_number_16 (by decide) ?_
  refine z_bipush C (nI 57) dX6_number_18 (by decide) ?_
  refine z_callVr C kX6_isAt gX6_number_X6_isAt (mX6_isAt_d X.2.1 a kp ty pl true od tx hty htx hpl) dX6_number_20 [0, 1] [.ref (a 0)] 0 rfl nd_0_1 rfl rfl rfl (by decide) (by decide) (Nat.le_of_ble_eq_true rfl) rfl ?_
  refine z_bif_eq_t C 30 dX6_number_23 (by decide) hd ?_
  refine z_iconst C (nI 0) dX6_number_30 (by decide) ?_
  refine z_put C fX6_number_164 ftX6_7 0 dX6_number_31 rfl rfl rfl (Nat.le_of_ble_eq_true rfl) ?_
  refine z_aload_n C 0 dX6_number_34 rfl rfl ?_
  refine z_get C fX6_number_164 0 dX6_number_35 rfl rfl ?_
  refine z_bif_eq_t C 105 dX6_number_38 (by decide) rfl ?_
  refine z_iload_n C 3 dX6_number_105 rfl rfl ?_
  exact z_iret C N dX6_number_106 (rfl) (rfl)

theorem fX6_number_19 : zF wsX6_number RX6 19 6 5 RX6 TX6 10 := ⟨by decide +kernel, rfl, by decide, by decide +kernel, rfl⟩
set_option maxHeartbeats 4000000 in
set_option maxRecDepth 100000 in
theorem mX6_number_02 (E : zE) (a : Nat → Nat) (kp ty pl : Nat) (od : Nat) (tx : Nat → Nat)  (hty : ty ≤ 60) (htx : ∀ j, tx j < 65536) (hpl : pl ≤ ty) (hd : zDg (zHe tx ty pl) = true) (h48 : zHe tx ty pl = 48) : zM E yX6_number wsX6_number 1 [.ref (a 0), .int (nI 2)] [((a 0), .inr (6, [.ref (a 1), .ref (a 2), .ref (a 3), .int (nI kp), .int (nI ty), .ref (a 4), .int (nI pl), .int (zb true), .int (nI od), .ref (a 5)])), ((a 4), .inl (E.2.2.2.1, 60, .inl (fun j9 => nI (tx j9))))] [((a 0), .inr (6, [.ref (a 1), .ref (a 2), .ref (a 3), .int (nI kp), .int (nI ty), .ref (a 4), .int (nI (pl + 1)), .int (zb true), .int (nI od), .ref (a 5)])), ((a 4), .inl (E.2.2.2.1, 60, .inl (fun j9 => nI (tx j9))))] (some (.int (nI 0))) := by
  refine zM.of kX6_number (Nat.le_of_ble_eq_true rfl) rfl [some (.ref (a 0)), some (.int (nI 2)), none, none] rfl (Nat.le_of_ble_eq_true rfl) ?_
  intro X eX C N
  subst eX
  refine z_aload_n C 0 dX6_number_0 rfl rfl ?_
  refine z_get C fX6_number_161 0 dX6_number_1 rfl rfl ?_
  refine z_istore_n C 2 dX6_number_4 rfl (Nat.le_of_ble_eq_true rfl) ?_
  refine z_iconst C (nI 0) dX6_number_5 (by decide) ?_
  refine z_istore_n C 3 dX6_number_6 rfl (Nat.le_of_ble_eq_true rfl) ?_
  refine z_aload_n C 0 dX6_number_7 rfl rfl ?_
  refine z_aload_n C 0 dX6_number_8 rfl rfl ?_
  refine z_get C fX6_number_164 0 dX6_number_9 rfl rfl ?_
  refine z_bif_eq_f C 30 dX6_number_12 (by decide) rfl ?_
  refine z_aload_n C 0 dX6_number_15 rfl rfl ?_
  refine z_bipush C (nI 48) dX6_number_16 (by decide) ?_
  refine z_bipush C (nI 57) dX6_number_18 (by decide) ?_
  refine z_callVr C kX6_isAt gX6_number_X6_isAt (mX6_isAt_d X.2.1 a kp ty pl true od tx hty htx hpl) dX6_number_20 [0, 1] [.ref (a 0)] 0 rfl nd_0_1 rfl rfl rfl (by decide) (by decide) (Nat.le_of_ble_eq_true rfl) rfl ?_
  refine z_bif_eq_f C 30 dX6_number_23 (by decide) hd ?_
  refine z_iconst C (nI 1) dX6_number_26 (by decide) ?_
  refine z_goto C 31 dX6_number_27 (by decide) ?_
  refine z_put C fX6_number_164 ftX6_7 0 dX6_number_31 rfl rfl rfl (Nat.le_of_ble_eq_true rfl) ?_
  refine z_aload_n C 0 dX6_number_34 rfl rfl ?_
  refine z_get C fX6_number_164 0 dX6_number_35 rfl rfl ?_
  refine z_bif_eq_f C 105 dX6_number_38 (by decide) rfl ?_
  refine z_aload_n C 0 dX6_number_41 rfl rfl ?_
  refine z_get C fX6_number_161 0 dX6_number_42 rfl rfl ?_
  refine z_iload_n C 2 dX6_number_45 rfl rfl ?_
  refine z_iload_n C 1 dX6_number_46 rfl rfl ?_
  refine z_iadd C dX6_number_47 ?_
  refine z_top (y := nI (pl + 2)) (nI_add _ _) ?_
  refine z_ncmp_ge_f C 105 dX6_number_48 (by decide) (by omega) (by omega) (by omega) ?_
  refine z_aload_n C 0 dX6_number_51 rfl rfl ?_
  refine z_bipush C (nI 48) dX6_number_52 (by decide) ?_
  refine z_bipush C (nI 57) dX6_number_54 (by decide) ?_
  refine z_callVr C kX6_isAt gX6_number_X6_isAt (mX6_isAt_d X.2.1 a kp ty pl true od tx hty htx hpl) dX6_number_56 [0, 1] [] 0 rfl nd_0_1 rfl rfl rfl (by decide) (by decide) (Nat.le_of_ble_eq_true rfl) rfl ?_
  refine z_bif_eq_f C 105 dX6_number_59 (by decide) hd ?_
  refine z_aload_n C 0 dX6_number_62 rfl rfl ?_
  refine z_get C fX6_number_161 0 dX6_number_63 rfl rfl ?_
  refine z_iload_n C 2 dX6_number_66 rfl rfl ?_
  refine z_ncmp_eq_t C 74 dX6_number_67 (by decide) (by omega) (by omega) (by omega) ?_
  have hd_1 := zDg_t hd
  have hp_2 : pl + 1 ≤ ty := zHe_lt tx (by omega)
  refine z_bipush C (nI 10) dX6_number_74 (by decide) ?_
  refine z_iload_n C 3 dX6_number_76 rfl rfl ?_
  refine z_imul C dX6_number_77 ?_
  refine z_top (y := nI 0) (pk_mul _ _) ?_
  refine z_aload_n C 0 dX6_number_78 rfl rfl ?_
  refine z_get C fX6_number_19 0 dX6_number_79 rfl rfl ?_
  refine z_aload_n C 0 dX6_number_82 rfl rfl ?_
  refine z_get C fX6_number_161 0 dX6_number_83 rfl rfl ?_
  refine z_caldN C 1 dX6_number_86 rfl (by omega) (by decide) ?_
  refine z_top (y := nI (tx pl)) rfl ?_
  refine z_top (y := nI (zHe tx ty pl)) (congrArg nI (zHe_in tx (by omega)).symm) ?_
  refine z_iadd C dX6_number_87 ?_
  refine z_top (y := nI (zHe tx ty pl)) ((nI_add _ _).trans (congrArg nI (Nat.zero_add _))) ?_
  refine z_bipush C (nI 48) dX6_number_88 (by decide) ?_
  refine z_isub C dX6_number_90 ?_
  refine z_top (y := nI ((zHe tx ty pl) - 48)) ((pk_sub (by omega)).trans (congrArg nI (by omega))) ?_
  refine z_istore_n C 3 dX6_number_91 rfl (Nat.le_of_ble_eq_true rfl) ?_
  refine z_aload_n C 0 dX6_number_92 rfl rfl ?_
  refine z_dup C dX6_number_93 rfl ?_
  refine z_get C fX6_number_161 0 dX6_number_94 rfl rfl ?_
  refine z_iconst C (nI 1) dX6_number_97 (by decide) ?_
  refine z_iadd C dX6_number_98 ?_
  refine z_top (y := nI (pl + 1)) (nI_add _ _) ?_
  refine z_put C fX6_number_161 ftX6_6 0 dX6_number_99 rfl rfl rfl (Nat.le_of_ble_eq_true rfl) ?_
  refine z_goto C 34 dX6_number_102 (by decide) ?_
  refine z_aload_n C 0 dX6_number_34 rfl rfl ?_
  refine z_get C fX6_number_164 0 dX6_number_35 rfl rfl ?_
  refine z_bif_eq_f C 105 dX6_number_38 (by decide) rfl ?_
  refine z_aload_n C 0 dX6_number_41 rfl rfl ?_
  refine z_get C fX6_number_161 0 dX6_number_42 rfl rfl ?_
  refine z_iload_n C 2 dX6_number_45 rfl rfl ?_
  refine z_iload_n C 1 dX6_number_46 rfl rfl ?_
  refine z_iadd C dX6_number_47 ?_
  refine z_top (y := nI (pl + 2)) (nI_add _ _) ?_
  refine z_ncmp_ge_f C 105 dX6_number_48 (by decide) (by omega) (by omega) (by omega) ?_
  refine z_aload_n C 0 dX6_number_51 rfl rfl ?_
  refine z_bipush C (nI 48) dX6_number_52 (by decide) ?_
  refine z_bipush C (nI 57) dX6_number_54 (by decide) ?_
  refine z_callVr C kX6_isAt gX6_number_X6_isAt (mX6_isAt_d X.2.1 a kp ty (pl + 1) true od tx hty htx hp_2) dX6_number_56 [0, 1] [] 0 rfl nd_0_1 rfl rfl rfl (by decide) (by decide) (Nat.le_of_ble_eq_true rfl) rfl ?_
  refine z_bif_eq C 105 dX6_number_59 (by decide) (fun h_3 => ?_) (fun h_3 => ?_)
  · refine z_iload_n C 3 dX6_number_105 rfl rfl ?_
    exact z_iret C N dX6_number_106 (rfl) (congrArg (fun x => some (Value.int (nI x))) (by omega))
  · refine z_aload_n C 0 dX6_number_62 rfl rfl ?_
    refine z_get C fX6_number_161 0 dX6_number_63 rfl rfl ?_
    refine z_iload_n C 2 dX6_number_66 rfl rfl ?_
    refine z_ncmp_eq_f C 74 dX6_number_67 (by decide) (by omega) (by omega) (by omega) ?_
    refine z_iload_n C 3 dX6_number_70 rfl rfl ?_
    refine z_nif_le_t C 105 dX6_number_71 (by decide) (by omega) (by omega) ?_
    refine z_iload_n C 3 dX6_number_105 rfl rfl ?_
    exact z_iret C N dX6_number_106 (rfl) (congrArg (fun x => some (Value.int (nI x))) (by omega))

set_option maxHeartbeats 4000000 in
set_option maxRecDepth 100000 in
theorem mX6_number_p2 (E : zE) (a : Nat → Nat) (kp ty pl : Nat) (od : Nat) (tx : Nat → Nat)  (hty : ty ≤ 60) (htx : ∀ j, tx j < 65536) (hpl : pl ≤ ty) (hd : zDg (zHe tx ty pl) = true) (h48 : zHe tx ty pl ≠ 48) : zM E yX6_number wsX6_number 1 [.ref (a 0), .int (nI 2)] [((a 0), .inr (6, [.ref (a 1), .ref (a 2), .ref (a 3), .int (nI kp), .int (nI ty), .ref (a 4), .int (nI pl), .int (zb true), .int (nI od), .ref (a 5)])), ((a 4), .inl (E.2.2.2.1, 60, .inl (fun j9 => nI (tx j9))))] [((a 0), .inr (6, [.ref (a 1), .ref (a 2), .ref (a 3), .int (nI kp), .int (nI ty), .ref (a 4), .int (nI ((zRn tx ty 2 pl).2)), .int (zb true), .int (nI od), .ref (a 5)])), ((a 4), .inl (E.2.2.2.1, 60, .inl (fun j9 => nI (tx j9))))] (some (.int ((zRn tx ty 2 pl).1))) := by
  refine zM.of kX6_number (Nat.le_of_ble_eq_true rfl) rfl [some (.ref (a 0)), some (.int (nI 2)), none, none] rfl (Nat.le_of_ble_eq_true rfl) ?_
  intro X eX C N
  subst eX
  refine z_aload_n C 0 dX6_number_0 rfl rfl ?_
  refine z_get C fX6_number_161 0 dX6_number_1 rfl rfl ?_
  refine z_istore_n C 2 dX6_number_4 rfl (Nat.le_of_ble_eq_true rfl) ?_
  refine z_iconst C (nI 0) dX6_number_5 (by decide) ?_
  refine z_istore_n C 3 dX6_number_6 rfl (Nat.le_of_ble_eq_true rfl) ?_
  refine z_aload_n C 0 dX6_number_7 rfl rfl ?_
  refine z_aload_n C 0 dX6_number_8 rfl rfl ?_
  refine z_get C fX6_number_164 0 dX6_number_9 rfl rfl ?_
  refine z_bif_eq_f C 30 dX6_number_12 (by decide) rfl ?_
  refine z_aload_n C 0 dX6_number_15 rfl rfl ?_
  refine z_bipush C (nI 48) dX6_number_16 (by decide) ?_
  refine z_bipush C (nI 57) dX6_number_18 (by decide) ?_
  refine z_callVr C kX6_isAt gX6_number_X6_isAt (mX6_isAt_d X.2.1 a kp ty pl true od tx hty htx hpl) dX6_number_20 [0, 1] [.ref (a 0)] 0 rfl nd_0_1 rfl rfl rfl (by decide) (by decide) (Nat.le_of_ble_eq_true rfl) rfl ?_
  refine z_bif_eq_f C 30 dX6_number_23 (by decide) hd ?_
  refine z_iconst C (nI 1) dX6_number_26 (by decide) ?_
  refine z_goto C 31 dX6_number_27 (by decide) ?_
  refine z_put C fX6_number_164 ftX6_7 0 dX6_number_31 rfl rfl rfl (Nat.le_of_ble_eq_true rfl) ?_
  refine z_aload_n C 0 dX6_number_34 rfl rfl ?_
  refine z_get C fX6_number_164 0 dX6_number_35 rfl rfl ?_
  refine z_bif_eq_f C 105 dX6_number_38 (by decide) rfl ?_
  refine z_aload_n C 0 dX6_number_41 rfl rfl ?_
  refine z_get C fX6_number_161 0 dX6_number_42 rfl rfl ?_
  refine z_iload_n C 2 dX6_number_45 rfl rfl ?_
  refine z_iload_n C 1 dX6_number_46 rfl rfl ?_
  refine z_iadd C dX6_number_47 ?_
  refine z_top (y := nI (pl + 2)) (nI_add _ _) ?_
  refine z_ncmp_ge_f C 105 dX6_number_48 (by decide) (by omega) (by omega) (by omega) ?_
  refine z_aload_n C 0 dX6_number_51 rfl rfl ?_
  refine z_bipush C (nI 48) dX6_number_52 (by decide) ?_
  refine z_bipush C (nI 57) dX6_number_54 (by decide) ?_
  refine z_callVr C kX6_isAt gX6_number_X6_isAt (mX6_isAt_d X.2.1 a kp ty pl true od tx hty htx hpl) dX6_number_56 [0, 1] [] 0 rfl nd_0_1 rfl rfl rfl (by decide) (by decide) (Nat.le_of_ble_eq_true rfl) rfl ?_
  refine z_bif_eq_f C 105 dX6_number_59 (by decide) hd ?_
  refine z_aload_n C 0 dX6_number_62 rfl rfl ?_
  refine z_get C fX6_number_161 0 dX6_number_63 rfl rfl ?_
  refine z_iload_n C 2 dX6_number_66 rfl rfl ?_
  refine z_ncmp_eq_t C 74 dX6_number_67 (by decide) (by omega) (by omega) (by omega) ?_
  have hd_1 := zDg_t hd
  have hp_2 : pl + 1 ≤ ty := zHe_lt tx (by omega)
  refine z_bipush C (nI 10) dX6_number_74 (by decide) ?_
  refine z_iload_n C 3 dX6_number_76 rfl rfl ?_
  refine z_imul C dX6_number_77 ?_
  refine z_top (y := nI 0) (pk_mul _ _) ?_
  refine z_aload_n C 0 dX6_number_78 rfl rfl ?_
  refine z_get C fX6_number_19 0 dX6_number_79 rfl rfl ?_
  refine z_aload_n C 0 dX6_number_82 rfl rfl ?_
  refine z_get C fX6_number_161 0 dX6_number_83 rfl rfl ?_
  refine z_caldN C 1 dX6_number_86 rfl (by omega) (by decide) ?_
  refine z_top (y := nI (tx pl)) rfl ?_
  refine z_top (y := nI (zHe tx ty pl)) (congrArg nI (zHe_in tx (by omega)).symm) ?_
  refine z_iadd C dX6_number_87 ?_
  refine z_top (y := nI (zHe tx ty pl)) ((nI_add _ _).trans (congrArg nI (Nat.zero_add _))) ?_
  refine z_bipush C (nI 48) dX6_number_88 (by decide) ?_
  refine z_isub C dX6_number_90 ?_
  refine z_top (y := nI ((zHe tx ty pl) - 48)) ((pk_sub (by omega)).trans (congrArg nI (by omega))) ?_
  refine z_istore_n C 3 dX6_number_91 rfl (Nat.le_of_ble_eq_true rfl) ?_
  refine z_aload_n C 0 dX6_number_92 rfl rfl ?_
  refine z_dup C dX6_number_93 rfl ?_
  refine z_get C fX6_number_161 0 dX6_number_94 rfl rfl ?_
  refine z_iconst C (nI 1) dX6_number_97 (by decide) ?_
  refine z_iadd C dX6_number_98 ?_
  refine z_top (y := nI (pl + 1)) (nI_add _ _) ?_
  refine z_put C fX6_number_161 ftX6_6 0 dX6_number_99 rfl rfl rfl (Nat.le_of_ble_eq_true rfl) ?_
  refine z_goto C 34 dX6_number_102 (by decide) ?_
  refine z_aload_n C 0 dX6_number_34 rfl rfl ?_
  refine z_get C fX6_number_164 0 dX6_number_35 rfl rfl ?_
  refine z_bif_eq_f C 105 dX6_number_38 (by decide) rfl ?_
  refine z_aload_n C 0 dX6_number_41 rfl rfl ?_
  refine z_get C fX6_number_161 0 dX6_number_42 rfl rfl ?_
  refine z_iload_n C 2 dX6_number_45 rfl rfl ?_
  refine z_iload_n C 1 dX6_number_46 rfl rfl ?_
  refine z_iadd C dX6_number_47 ?_
  refine z_top (y := nI (pl + 2)) (nI_add _ _) ?_
  refine z_ncmp_ge_f C 105 dX6_number_48 (by decide) (by omega) (by omega) (by omega) ?_
  refine z_aload_n C 0 dX6_number_51 rfl rfl ?_
  refine z_bipush C (nI 48) dX6_number_52 (by decide) ?_
  refine z_bipush C (nI 57) dX6_number_54 (by decide) ?_
  refine z_callVr C kX6_isAt gX6_number_X6_isAt (mX6_isAt_d X.2.1 a kp ty (pl + 1) true od tx hty htx hp_2) dX6_number_56 [0, 1] [] 0 rfl nd_0_1 rfl rfl rfl (by decide) (by decide) (Nat.le_of_ble_eq_true rfl) rfl ?_
  refine z_bif_eq C 105 dX6_number_59 (by decide) (fun h_3 => ?_) (fun h_3 => ?_)
  · have hR : zRn tx ty 2 pl = (nI ((zHe tx ty pl) - 48), pl + 1) := by rw [zRn_p hd h48]; rw [zNL_y (d := 1) hd]; rw [zNL_n (d := 0) h_3]; exact Prod.ext (congrArg nI (by omega)) rfl
    refine z_iload_n C 3 dX6_number_105 rfl rfl ?_
    exact z_iret C N dX6_number_106 (by rw [hR] <;> rfl) (by rw [hR])
  · refine z_aload_n C 0 dX6_number_62 rfl rfl ?_
    refine z_get C fX6_number_161 0 dX6_number_63 rfl rfl ?_
    refine z_iload_n C 2 dX6_number_66 rfl rfl ?_
    refine z_ncmp_eq_f C 74 dX6_number_67 (by decide) (by omega) (by omega) (by omega) ?_
    refine z_iload_n C 3 dX6_number_70 rfl rfl ?_
    refine z_nif_le_f C 105 dX6_number_71 (by decide) (by omega) (by omega) ?_
    have hd_4 := zDg_t h_3
    have hp_5 : pl + 1 + 1 ≤ ty := zHe_lt tx (by omega)
    refine z_bipush C (nI 10) dX6_number_74 (by decide) ?_
    refine z_iload_n C 3 dX6_number_76 rfl rfl ?_
    refine z_imul C dX6_number_77 ?_
    refine z_top (y := nI (10 * ((zHe tx ty pl) - 48))) (pk_mul _ _) ?_
    refine z_aload_n C 0 dX6_number_78 rfl rfl ?_
    refine z_get C fX6_number_19 0 dX6_number_79 rfl rfl ?_
    refine z_aload_n C 0 dX6_number_82 rfl rfl ?_
    refine z_get C fX6_number_161 0 dX6_number_83 rfl rfl ?_
    refine z_caldN C 1 dX6_number_86 rfl (by omega) (by decide) ?_
    refine z_top (y := nI (tx (pl + 1))) rfl ?_
    refine z_top (y := nI (zHe tx ty (pl + 1))) (congrArg nI (zHe_in tx (by omega)).symm) ?_
    refine z_iadd C dX6_number_87 ?_
    refine z_top (y := nI ((10 * ((zHe tx ty pl) - 48)) + (zHe tx ty (pl + 1)))) (nI_add _ _) ?_
    refine z_bipush C (nI 48) dX6_number_88 (by decide) ?_
    refine z_isub C dX6_number_90 ?_
    refine z_top (y := nI (((10 * ((zHe tx ty pl) - 48)) + (zHe tx ty (pl + 1))) - 48)) ((pk_sub (by omega)).trans (congrArg nI (by omega))) ?_
    refine z_istore_n C 3 dX6_number_91 rfl (Nat.le_of_ble_eq_true rfl) ?_
    refine z_aload_n C 0 dX6_number_92 rfl rfl ?_
    refine z_dup C dX6_number_93 rfl ?_
    refine z_get C fX6_number_161 0 dX6_number_94 rfl rfl ?_
    refine z_iconst C (nI 1) dX6_number_97 (by decide) ?_
    refine z_iadd C dX6_number_98 ?_
    refine z_top (y := nI (pl + 2)) (nI_add _ _) ?_
    refine z_put C fX6_number_161 ftX6_6 0 dX6_number_99 rfl rfl rfl (Nat.le_of_ble_eq_true rfl) ?_
    refine z_goto C 34 dX6_number_102 (by decide) ?_
    refine z_aload_n C 0 dX6_number_34 rfl rfl ?_
    refine z_get C fX6_number_164 0 dX6_number_35 rfl rfl ?_
    refine z_bif_eq_f C 105 dX6_number_38 (by decide) rfl ?_
    refine z_aload_n C 0 dX6_number_41 rfl rfl ?_
    refine z_get C fX6_number_161 0 dX6_number_42 rfl rfl ?_
    refine z_iload_n C 2 dX6_number_45 rfl rfl ?_
    refine z_iload_n C 1 dX6_number_46 rfl rfl ?_
    refine z_iadd C dX6_number_47 ?_
    refine z_top (y := nI (pl + 2)) (nI_add _ _) ?_
    refine z_ncmp_ge_t C 105 dX6_number_48 (by decide) (by omega) (by omega) (by omega) ?_
    have hR : zRn tx ty 2 pl = (nI (((10 * ((zHe tx ty pl) - 48)) + (zHe tx ty (pl + 1))) - 48), pl + 2) := by rw [zRn_p hd h48]; rw [zNL_y (d := 1) hd]; rw [zNL_y (d := 0) h_3]; rw [zNL_z]; exact Prod.ext (congrArg nI (by omega)) rfl
    refine z_iload_n C 3 dX6_number_105 rfl rfl ?_
    exact z_iret C N dX6_number_106 (by rw [hR] <;> rfl) (by rw [hR])

set_option maxHeartbeats 400000 in
set_option maxRecDepth 100000 in
theorem mX6_number_u2 (E : zE) (a : Nat → Nat) (kp ty pl : Nat) (od : Nat) (tx : Nat → Nat) (hty : ty ≤ 60) (htx : ∀ j, tx j < 65536) (hpl : pl ≤ ty) : zM E yX6_number wsX6_number 1 [.ref (a 0), .int (nI 2)] [((a 0), .inr (6, [.ref (a 1), .ref (a 2), .ref (a 3), .int (nI kp), .int (nI ty), .ref (a 4), .int (nI pl), .int (zb true), .int (nI od), .ref (a 5)])), ((a 4), .inl (E.2.2.2.1, 60, .inl (fun j9 => nI (tx j9))))] [((a 0), .inr (6, [.ref (a 1), .ref (a 2), .ref (a 3), .int (nI kp), .int (nI ty), .ref (a 4), .int (nI ((zRn tx ty 2 pl).2)), .int (zb (zDg (zHe tx ty pl))), .int (nI od), .ref (a 5)])), ((a 4), .inl (E.2.2.2.1, 60, .inl (fun j9 => nI (tx j9))))] (some (.int (mNv tx ty 2 pl))) := by
  cases hd : zDg (zHe tx ty pl) with
  | false =>
    rw [zRn_n hd, show mNv tx ty 2 pl = nI 0 by rw [mNv, if_neg (by rw [hd]; decide)]]
    exact mX6_number_n2 E a kp ty pl od tx hty htx hpl hd
  | true =>
    rw [show mNv tx ty 2 pl = (zRn tx ty 2 pl).1 by rw [mNv, if_pos hd]]
    by_cases h48 : zHe tx ty pl = 48
    · rw [zRn_0 h48]
      exact mX6_number_02 E a kp ty pl od tx hty htx hpl hd h48
    · exact mX6_number_p2 E a kp ty pl od tx hty htx hpl hd h48

set_option maxHeartbeats 4000000 in
set_option maxRecDepth 100000 in
theorem mX6_number_g4 (E : zE) (a : Nat → Nat) (kp ty pl : Nat) (od : Nat) (tx : Nat → Nat)  (hty : ty ≤ 60) (htx : ∀ j, tx j < 65536) (hpl : pl ≤ ty) : zM E yX6_number wsX6_number 1 [.ref (a 0), .int (nI 4)] [((a 0), .inr (6, [.ref (a 1), .ref (a 2), .ref (a 3), .int (nI kp), .int (nI ty), .ref (a 4), .int (nI pl), .int (zb false), .int (nI od), .ref (a 5)])), ((a 4), .inl (E.2.2.2.1, 60, .inl (fun j9 => nI (tx j9))))] [((a 0), .inr (6, [.ref (a 1), .ref (a 2), .ref (a 3), .int (nI kp), .int (nI ty), .ref (a 4), .int (nI pl), .int (zb false), .int (nI od), .ref (a 5)])), ((a 4), .inl (E.2.2.2.1, 60, .inl (fun j9 => nI (tx j9))))] (some (.int (nI 0))) := by
  refine zM.of kX6_number (Nat.le_of_ble_eq_true rfl) rfl [some (.ref (a 0)), some (.int (nI 4)), none, none] rfl (Nat.le_of_ble_eq_true rfl) ?_
  intro X eX C N
  subst eX
  refine z_aload_n C 0 dX6_number_0 rfl rfl ?_
  refine z_get C fX6_number_161 0 dX6_number_1 rfl rfl ?_
  refine z_istore_n C 2 dX6_number_4 rfl (Nat.le_of_ble_eq_true rfl) ?_
  refine z_iconst C (nI 0) dX6_number_5 (by decide) ?_
  refine z_istore_n C 3 dX6_number_6 rfl (Nat.le_of_ble_eq_true rfl) ?_
  refine z_aload_n C 0 dX6_number_7 rfl rfl ?_
  refine z_aload_n C 0 dX6_number_8 rfl rfl ?_
  refine z_get C fX6_number_164 0 dX6_number_9 rfl rfl ?_
  refine z_bif_eq_t C 30 dX6_number_12 (by decide) rfl ?_
  refine z_iconst C (nI 0) dX6_number_30 (by decide) ?_
  refine z_put C fX6_number_164 ftX6_7 0 dX6_number_31 rfl rfl rfl (Nat.le_of_ble_eq_true rfl) ?_
  refine z_aload_n C 0 dX6_number_34 rfl rfl ?_
  refine z_get C fX6_number_164 0 dX6_number_35 rfl rfl ?_
  refine z_bif_eq_t C 105 dX6_number_38 (by decide) rfl ?_
  refine z_iload_n C 3 dX6_number_105 rfl rfl ?_
  exact z_iret C N dX6_number_106 (rfl) (rfl)

set_option maxHeartbeats 4000000 in
set_option maxRecDepth 100000 in
theorem mX6_number_n4 (E : zE) (a : Nat → Nat) (kp ty pl : Nat) (od : Nat) (tx : Nat → Nat)  (hty : ty ≤ 60) (htx : ∀ j, tx j < 65536) (hpl : pl ≤ ty) (hd : zDg (zHe tx ty pl) = false) : zM E yX6_number wsX6_number 1 [.ref (a 0), .int (nI 4)] [((a 0), .inr (6, [.ref (a 1), .ref (a 2), .ref (a 3), .int (nI kp), .int (nI ty), .ref (a 4), .int (nI pl), .int (zb true), .int (nI od), .ref (a 5)])), ((a 4), .inl (E.2.2.2.1, 60, .inl (fun j9 => nI (tx j9))))] [((a 0), .inr (6, [.ref (a 1), .ref (a 2), .ref (a 3), .int (nI kp), .int (nI ty), .ref (a 4), .int (nI pl), .int (zb false), .int (nI od), .ref (a 5)])), ((a 4), .inl (E.2.2.2.1, 60, .inl (fun j9 => nI (tx j9))))] (some (.int (nI 0))) := by
  refine zM.of kX6_number (Nat.le_of_ble_eq_true rfl) rfl [some (.ref (a 0)), some (.int (nI 4)), none, none] rfl (Nat.le_of_ble_eq_true rfl) ?_
  intro X eX C N
  subst eX
  refine z_aload_n C 0 dX6_number_0 rfl rfl ?_
  refine z_get C fX6_number_161 0 dX6_number_1 rfl rfl ?_
  refine z_istore_n C 2 dX6_number_4 rfl (Nat.le_of_ble_eq_true rfl) ?_
  refine z_iconst C (nI 0) dX6_number_5 (by decide) ?_
  refine z_istore_n C 3 dX6_number_6 rfl (Nat.le_of_ble_eq_true rfl) ?_
  refine z_aload_n C 0 dX6_number_7 rfl rfl ?_
  refine z_aload_n C 0 dX6_number_8 rfl rfl ?_
  refine z_get C fX6_number_164 0 dX6_number_9 rfl rfl ?_
  refine z_bif_eq_f C 30 dX6_number_12 (by decide) rfl ?_
  refine z_aload_n C 0 dX6_number_15 rfl rfl ?_
  refine z_bipush C (nI 48) dX6_number_16 (by decide) ?_
  refine z_bipush C (nI 57) dX6_number_18 (by decide) ?_
  refine z_callVr C kX6_isAt gX6_number_X6_isAt (mX6_isAt_d X.2.1 a kp ty pl true od tx hty htx hpl) dX6_number_20 [0, 1] [.ref (a 0)] 0 rfl nd_0_1 rfl rfl rfl (by decide) (by decide) (Nat.le_of_ble_eq_true rfl) rfl ?_
  refine z_bif_eq_t C 30 dX6_number_23 (by decide) hd ?_
  refine z_iconst C (nI 0) dX6_number_30 (by decide) ?_
  refine z_put C fX6_number_164 ftX6_7 0 dX6_number_31 rfl rfl rfl (Nat.le_of_ble_eq_true rfl) ?_
  refine z_aload_n C 0 dX6_number_34 rfl rfl ?_
  refine z_get C fX6_number_164 0 dX6_number_35 rfl rfl ?_
  refine z_bif_eq_t C 105 dX6_number_38 (by decide) rfl ?_
  refine z_iload_n C 3 dX6_number_105 rfl rfl ?_
  exact z_iret C N dX6_number_106 (rfl) (rfl)

set_option maxHeartbeats 4000000 in
set_option maxRecDepth 100000 in
theorem mX6_number_04 (E : zE) (a : Nat → Nat) (kp ty pl : Nat) (od : Nat) (tx : Nat → Nat)  (hty : ty ≤ 60) (htx : ∀ j, tx j < 65536) (hpl : pl ≤ ty) (hd : zDg (zHe tx ty pl) = true) (h48 : zHe tx ty pl = 48) : zM E yX6_number wsX6_number 1 [.ref (a 0), .int (nI 4)] [((a 0), .inr (6, [.ref (a 1), .ref (a 2), .ref (a 3), .int (nI kp), .int (nI ty), .ref (a 4), .int (nI pl), .int (zb true), .int (nI od), .ref (a 5)])), ((a 4), .inl (E.2.2.2.1, 60, .inl (fun j9 => nI (tx j9))))] [((a 0), .inr (6, [.ref (a 1), .ref (a 2), .ref (a 3), .int (nI kp), .int (nI ty), .ref (a 4), .int (nI (pl + 1)), .int (zb true), .int (nI od), .ref (a 5)])), ((a 4), .inl (E.2.2.2.1, 60, .inl (fun j9 => nI (tx j9))))] (some (.int (nI 0))) := by
  refine zM.of kX6_number (Nat.le_of_ble_eq_true rfl) rfl [some (.ref (a 0)), some (.int (nI 4)), none, none] rfl (Nat.le_of_ble_eq_true rfl) ?_
  intro X eX C N
  subst eX
  refine z_aload_n C 0 dX6_number_0 rfl rfl ?_
  refine z_get C fX6_number_161 0 dX6_number_1 rfl rfl ?_
  refine z_istore_n C 2 dX6_number_4 rfl (Nat.le_of_ble_eq_true rfl) ?_
  refine z_iconst C (nI 0) dX6_number_5 (by decide) ?_
  refine z_istore_n C 3 dX6_number_6 rfl (Nat.le_of_ble_eq_true rfl) ?_
  refine z_aload_n C 0 dX6_number_7 rfl rfl ?_
  refine z_aload_n C 0 dX6_number_8 rfl rfl ?_
  refine z_get C fX6_number_164 0 dX6_number_9 rfl rfl ?_
  refine z_bif_eq_f C 30 dX6_number_12 (by decide) rfl ?_
  refine z_aload_n C 0 dX6_number_15 rfl rfl ?_
  refine z_bipush C (nI 48) dX6_number_16 (by decide) ?_
  refine z_bipush C (nI 57) dX6_number_18 (by decide) ?_
  refine z_callVr C kX6_isAt gX6_number_X6_isAt (mX6_isAt_d X.2.1 a kp ty pl true od tx hty htx hpl) dX6_number_20 [0, 1] [.ref (a 0)] 0 rfl nd_0_1 rfl rfl rfl (by decide) (by decide) (Nat.le_of_ble_eq_true rfl) rfl ?_
  refine z_bif_eq_f C 30 dX6_number_23 (by decide) hd ?_
  refine z_iconst C (nI 1) dX6_number_26 (by decide) ?_
  refine z_goto C 31 dX6_number_27 (by decide) ?_
  refine z_put C fX6_number_164 ftX6_7 0 dX6_number_31 rfl rfl rfl (Nat.le_of_ble_eq_true rfl) ?_
  refine z_aload_n C 0 dX6_number_34 rfl rfl ?_
  refine z_get C fX6_number_164 0 dX6_number_35 rfl rfl ?_
  refine z_bif_eq_f C 105 dX6_number_38 (by decide) rfl ?_
  refine z_aload_n C 0 dX6_number_41 rfl rfl ?_
  refine z_get C fX6_number_161 0 dX6_number_42 rfl rfl ?_
  refine z_iload_n C 2 dX6_number_45 rfl rfl ?_
  refine z_iload_n C 1 dX6_number_46 rfl rfl ?_
  refine z_iadd C dX6_number_47 ?_
  refine z_top (y := nI (pl + 4)) (nI_add _ _) ?_
  refine z_ncmp_ge_f C 105 dX6_number_48 (by decide) (by omega) (by omega) (by omega) ?_
  refine z_aload_n C 0 dX6_number_51 rfl rfl ?_
  refine z_bipush C (nI 48) dX6_number_52 (by decide) ?_
  refine z_bipush C (nI 57) dX6_number_54 (by decide) ?_
  refine z_callVr C kX6_isAt gX6_number_X6_isAt (mX6_isAt_d X.2.1 a kp ty pl true od tx hty htx hpl) dX6_number_56 [0, 1] [] 0 rfl nd_0_1 rfl rfl rfl (by decide) (by decide) (Nat.le_of_ble_eq_true rfl) rfl ?_
  refine z_bif_eq_f C 105 dX6_number_59 (by decide) hd ?_
  refine z_aload_n C 0 dX6_number_62 rfl rfl ?_
  refine z_get C fX6_number_161 0 dX6_number_63 rfl rfl ?_
  refine z_iload_n C 2 dX6_number_66 rfl rfl ?_
  refine z_ncmp_eq_t C 74 dX6_number_67 (by decide) (by omega) (by omega) (by omega) ?_
  have hd_1 := zDg_t hd
  have hp_2 : pl + 1 ≤ ty := zHe_lt tx (by omega)
  refine z_bipush C (nI 10) dX6_number_74 (by decide) ?_
  refine z_iload_n C 3 dX6_number_76 rfl rfl ?_
  refine z_imul C dX6_number_77 ?_
  refine z_top (y := nI 0) (pk_mul _ _) ?_
  refine z_aload_n C 0 dX6_number_78 rfl rfl ?_
  refine z_get C fX6_number_19 0 dX6_number_79 rfl rfl ?_
  refine z_aload_n C 0 dX6_number_82 rfl rfl ?_
  refine z_get C fX6_number_161 0 dX6_number_83 rfl rfl ?_
  refine z_caldN C 1 dX6_number_86 rfl (by omega) (by decide) ?_
  refine z_top (y := nI (tx pl)) rfl ?_
  refine z_top (y := nI (zHe tx ty pl)) (congrArg nI (zHe_in tx (by omega)).symm) ?_
  refine z_iadd C dX6_number_87 ?_
  refine z_top (y := nI (zHe tx ty pl)) ((nI_add _ _).trans (congrArg nI (Nat.zero_add _))) ?_
  refine z_bipush C (nI 48) dX6_number_88 (by decide) ?_
  refine z_isub C dX6_number_90 ?_
  refine z_top (y := nI ((zHe tx ty pl) - 48)) ((pk_sub (by omega)).trans (congrArg nI (by omega))) ?_
  refine z_istore_n C 3 dX6_number_91 rfl (Nat.le_of_ble_eq_true rfl) ?_
  refine z_aload_n C 0 dX6_number_92 rfl rfl ?_
  refine z_dup C dX6_number_93 rfl ?_
  refine z_get C fX6_number_161 0 dX6_number_94 rfl rfl ?_
  refine z_iconst C (nI 1) dX6_number_97 (by decide) ?_
  refine z_iadd C dX6_number_98 ?_
  refine z_top (y := nI (pl + 1)) (nI_add _ _) ?_
  refine z_put C fX6_number_161 ftX6_6 0 dX6_number_99 rfl rfl rfl (Nat.le_of_ble_eq_true rfl) ?_
  refine z_goto C 34 dX6_number_102 (by decide) ?_
  refine z_aload_n C 0 dX6_number_34 rfl rfl ?_
  refine z_get C fX6_number_164 0 dX6_number_35 rfl rfl ?_
  refine z_bif_eq_f C 105 dX6_number_38 (by decide) rfl ?_
  refine z_aload_n C 0 dX6_number_41 rfl rfl ?_
  refine z_get C fX6_number_161 0 dX6_number_42 rfl rfl ?_
  refine z_iload_n C 2 dX6_number_45 rfl rfl ?_
  refine z_iload_n C 1 dX6_number_46 rfl rfl ?_
  refine z_iadd C dX6_number_47 ?_
  refine z_top (y := nI (pl + 4)) (nI_add _ _) ?_
  refine z_ncmp_ge_f C 105 dX6_number_48 (by decide) (by omega) (by omega) (by omega) ?_
  refine z_aload_n C 0 dX6_number_51 rfl rfl ?_
  refine z_bipush C (nI 48) dX6_number_52 (by decide) ?_
  refine z_bipush C (nI 57) dX6_number_54 (by decide) ?_
  refine z_callVr C kX6_isAt gX6_number_X6_isAt (mX6_isAt_d X.2.1 a kp ty (pl + 1) true od tx hty htx hp_2) dX6_number_56 [0, 1] [] 0 rfl nd_0_1 rfl rfl rfl (by decide) (by decide) (Nat.le_of_ble_eq_true rfl) rfl ?_
  refine z_bif_eq C 105 dX6_number_59 (by decide) (fun h_3 => ?_) (fun h_3 => ?_)
  · refine z_iload_n C 3 dX6_number_105 rfl rfl ?_
    exact z_iret C N dX6_number_106 (rfl) (congrArg (fun x => some (Value.int (nI x))) (by omega))
  · refine z_aload_n C 0 dX6_number_62 rfl rfl ?_
    refine z_get C fX6_number_161 0 dX6_number_63 rfl rfl ?_
    refine z_iload_n C 2 dX6_number_66 rfl rfl ?_
    refine z_ncmp_eq_f C 74 dX6_number_67 (by decide) (by omega) (by omega) (by omega) ?_
    refine z_iload_n C 3 dX6_number_70 rfl rfl ?_
    refine z_nif_le_t C 105 dX6_number_71 (by decide) (by omega) (by omega) ?_
    refine z_iload_n C 3 dX6_number_105 rfl rfl ?_
    exact z_iret C N dX6_number_106 (rfl) (congrArg (fun x => some (Value.int (nI x))) (by omega))

set_option maxHeartbeats 4000000 in
set_option maxRecDepth 100000 in
theorem mX6_number_p4 (E : zE) (a : Nat → Nat) (kp ty pl : Nat) (od : Nat) (tx : Nat → Nat)  (hty : ty ≤ 60) (htx : ∀ j, tx j < 65536) (hpl : pl ≤ ty) (hd : zDg (zHe tx ty pl) = true) (h48 : zHe tx ty pl ≠ 48) : zM E yX6_number wsX6_number 1 [.ref (a 0), .int (nI 4)] [((a 0), .inr (6, [.ref (a 1), .ref (a 2), .ref (a 3), .int (nI kp), .int (nI ty), .ref (a 4), .int (nI pl), .int (zb true), .int (nI od), .ref (a 5)])), ((a 4), .inl (E.2.2.2.1, 60, .inl (fun j9 => nI (tx j9))))] [((a 0), .inr (6, [.ref (a 1), .ref (a 2), .ref (a 3), .int (nI kp), .int (nI ty), .ref (a 4), .int (nI ((zRn tx ty 4 pl).2)), .int (zb true), .int (nI od), .ref (a 5)])), ((a 4), .inl (E.2.2.2.1, 60, .inl (fun j9 => nI (tx j9))))] (some (.int ((zRn tx ty 4 pl).1))) := by
  refine zM.of kX6_number (Nat.le_of_ble_eq_true rfl) rfl [some (.ref (a 0)), some (.int (nI 4)), none, none] rfl (Nat.le_of_ble_eq_true rfl) ?_
  intro X eX C N
  subst eX
  refine z_aload_n C 0 dX6_number_0 rfl rfl ?_
  refine z_get C fX6_number_161 0 dX6_number_1 rfl rfl ?_
  refine z_istore_n C 2 dX6_number_4 rfl (Nat.le_of_ble_eq_true rfl) ?_
  refine z_iconst C (nI 0) dX6_number_5 (by decide) ?_
  refine z_istore_n C 3 dX6_number_6 rfl (Nat.le_of_ble_eq_true rfl) ?_
  refine z_aload_n C 0 dX6_number_7 rfl rfl ?_
  refine z_aload_n C 0 dX6_number_8 rfl rfl ?_
  refine z_get C fX6_number_164 0 dX6_number_9 rfl rfl ?_
  refine z_bif_eq_f C 30 dX6_number_12 (by decide) rfl ?_
  refine z_aload_n C 0 dX6_number_15 rfl rfl ?_
  refine z_bipush C (nI 48) dX6_number_16 (by decide) ?_
  refine z_bipush C (nI 57) dX6_number_18 (by decide) ?_
  refine z_callVr C kX6_isAt gX6_number_X6_isAt (mX6_isAt_d X.2.1 a kp ty pl true od tx hty htx hpl) dX6_number_20 [0, 1] [.ref (a 0)] 0 rfl nd_0_1 rfl rfl rfl (by decide) (by decide) (Nat.le_of_ble_eq_true rfl) rfl ?_
  refine z_bif_eq_f C 30 dX6_number_23 (by decide) hd ?_
  refine z_iconst C (nI 1) dX6_number_26 (by decide) ?_
  refine z_goto C 31 dX6_number_27 (by decide) ?_
  refine z_put C fX6_number_164 ftX6_7 0 dX6_number_31 rfl rfl rfl (Nat.le_of_ble_eq_true rfl) ?_
  refine z_aload_n C 0 dX6_number_34 rfl rfl ?_
  refine z_get C fX6_number_164 0 dX6_number_35 rfl rfl ?_
  refine z_bif_eq_f C 105 dX6_number_38 (by decide) rfl ?_
  refine z_aload_n C 0 dX6_number_41 rfl rfl ?_
  refine z_get C fX6_number_161 0 dX6_number_42 rfl rfl ?_
  refine z_iload_n C 2 dX6_number_45 rfl rfl ?_
  refine z_iload_n C 1 dX6_number_46 rfl rfl ?_
  refine z_iadd C dX6_number_47 ?_
  refine z_top (y := nI (pl + 4)) (nI_add _ _) ?_
  refine z_ncmp_ge_f C 105 dX6_number_48 (by decide) (by omega) (by omega) (by omega) ?_
  refine z_aload_n C 0 dX6_number_51 rfl rfl ?_
  refine z_bipush C (nI 48) dX6_number_52 (by decide) ?_
  refine z_bipush C (nI 57) dX6_number_54 (by decide) ?_
  refine z_callVr C kX6_isAt gX6_number_X6_isAt (mX6_isAt_d X.2.1 a kp ty pl true od tx hty htx hpl) dX6_number_56 [0, 1] [] 0 rfl nd_0_1 rfl rfl rfl (by decide) (by decide) (Nat.le_of_ble_eq_true rfl) rfl ?_
  refine z_bif_eq_f C 105 dX6_number_59 (by decide) hd ?_
  refine z_aload_n C 0 dX6_number_62 rfl rfl ?_
  refine z_get C fX6_number_161 0 dX6_number_63 rfl rfl ?_
  refine z_iload_n C 2 dX6_number_66 rfl rfl ?_
  refine z_ncmp_eq_t C 74 dX6_number_67 (by decide) (by omega) (by omega) (by omega) ?_
  have hd_1 := zDg_t hd
  have hp_2 : pl + 1 ≤ ty := zHe_lt tx (by omega)
  refine z_bipush C (nI 10) dX6_number_74 (by decide) ?_
  refine z_iload_n C 3 dX6_number_76 rfl rfl ?_
  refine z_imul C dX6_number_77 ?_
  refine z_top (y := nI 0) (pk_mul _ _) ?_
  refine z_aload_n C 0 dX6_number_78 rfl rfl ?_
  refine z_get C fX6_number_19 0 dX6_number_79 rfl rfl ?_
  refine z_aload_n C 0 dX6_number_82 rfl rfl ?_
  refine z_get C fX6_number_161 0 dX6_number_83 rfl rfl ?_
  refine z_caldN C 1 dX6_number_86 rfl (by omega) (by decide) ?_
  refine z_top (y := nI (tx pl)) rfl ?_
  refine z_top (y := nI (zHe tx ty pl)) (congrArg nI (zHe_in tx (by omega)).symm) ?_
  refine z_iadd C dX6_number_87 ?_
  refine z_top (y := nI (zHe tx ty pl)) ((nI_add _ _).trans (congrArg nI (Nat.zero_add _))) ?_
  refine z_bipush C (nI 48) dX6_number_88 (by decide) ?_
  refine z_isub C dX6_number_90 ?_
  refine z_top (y := nI ((zHe tx ty pl) - 48)) ((pk_sub (by omega)).trans (congrArg nI (by omega))) ?_
  refine z_istore_n C 3 dX6_number_91 rfl (Nat.le_of_ble_eq_true rfl) ?_
  refine z_aload_n C 0 dX6_number_92 rfl rfl ?_
  refine z_dup C dX6_number_93 rfl ?_
  refine z_get C fX6_number_161 0 dX6_number_94 rfl rfl ?_
  refine z_iconst C (nI 1) dX6_number_97 (by decide) ?_
  refine z_iadd C dX6_number_98 ?_
  refine z_top (y := nI (pl + 1)) (nI_add _ _) ?_
  refine z_put C fX6_number_161 ftX6_6 0 dX6_number_99 rfl rfl rfl (Nat.le_of_ble_eq_true rfl) ?_
  refine z_goto C 34 dX6_number_102 (by decide) ?_
  refine z_aload_n C 0 dX6_number_34 rfl rfl ?_
  refine z_get C fX6_number_164 0 dX6_number_35 rfl rfl ?_
  refine z_bif_eq_f C 105 dX6_number_38 (by decide) rfl ?_
  refine z_aload_n C 0 dX6_number_41 rfl rfl ?_
  refine z_get C fX6_number_161 0 dX6_number_42 rfl rfl ?_
  refine z_iload_n C 2 dX6_number_45 rfl rfl ?_
  refine z_iload_n C 1 dX6_number_46 rfl rfl ?_
  refine z_iadd C dX6_number_47 ?_
  refine z_top (y := nI (pl + 4)) (nI_add _ _) ?_
  refine z_ncmp_ge_f C 105 dX6_number_48 (by decide) (by omega) (by omega) (by omega) ?_
  refine z_aload_n C 0 dX6_number_51 rfl rfl ?_
  refine z_bipush C (nI 48) dX6_number_52 (by decide) ?_
  refine z_bipush C (nI 57) dX6_number_54 (by decide) ?_
  refine z_callVr C kX6_isAt gX6_number_X6_isAt (mX6_isAt_d X.2.1 a kp ty (pl + 1) true od tx hty htx hp_2) dX6_number_56 [0, 1] [] 0 rfl nd_0_1 rfl rfl rfl (by decide) (by decide) (Nat.le_of_ble_eq_true rfl) rfl ?_
  refine z_bif_eq C 105 dX6_number_59 (by decide) (fun h_3 => ?_) (fun h_3 => ?_)
  · have hR : zRn tx ty 4 pl = (nI ((zHe tx ty pl) - 48), pl + 1) := by rw [zRn_p hd h48]; rw [zNL_y (d := 3) hd]; rw [zNL_n (d := 2) h_3]; exact Prod.ext (congrArg nI (by omega)) rfl
    refine z_iload_n C 3 dX6_number_105 rfl rfl ?_
    exact z_iret C N dX6_number_106 (by rw [hR] <;> rfl) (by rw [hR])
  · refine z_aload_n C 0 dX6_number_62 rfl rfl ?_
    refine z_get C fX6_number_161 0 dX6_number_63 rfl rfl ?_
    refine z_iload_n C 2 dX6_number_66 rfl rfl ?_
    refine z_ncmp_eq_f C 74 dX6_number_67 (by decide) (by omega) (by omega) (by omega) ?_
    refine z_iload_n C 3 dX6_number_70 rfl rfl ?_
    refine z_nif_le_f C 105 dX6_number_71 (by decide) (by omega) (by omega) ?_
    have hd_4 := zDg_t h_3
    have hp_5 : pl + 1 + 1 ≤ ty := zHe_lt tx (by omega)
    refine z_bipush C (nI 10) dX6_number_74 (by decide) ?_
    refine z_iload_n C 3 dX6_number_76 rfl rfl ?_
    refine z_imul C dX6_number_77 ?_
    refine z_top (y := nI (10 * ((zHe tx ty pl) - 48))) (pk_mul _ _) ?_
    refine z_aload_n C 0 dX6_number_78 rfl rfl ?_
    refine z_get C fX6_number_19 0 dX6_number_79 rfl rfl ?_
    refine z_aload_n C 0 dX6_number_82 rfl rfl ?_
    refine z_get C fX6_number_161 0 dX6_number_83 rfl rfl ?_
    refine z_caldN C 1 dX6_number_86 rfl (by omega) (by decide) ?_
    refine z_top (y := nI (tx (pl + 1))) rfl ?_
    refine z_top (y := nI (zHe tx ty (pl + 1))) (congrArg nI (zHe_in tx (by omega)).symm) ?_
    refine z_iadd C dX6_number_87 ?_
    refine z_top (y := nI ((10 * ((zHe tx ty pl) - 48)) + (zHe tx ty (pl + 1)))) (nI_add _ _) ?_
    refine z_bipush C (nI 48) dX6_number_88 (by decide) ?_
    refine z_isub C dX6_number_90 ?_
    refine z_top (y := nI (((10 * ((zHe tx ty pl) - 48)) + (zHe tx ty (pl + 1))) - 48)) ((pk_sub (by omega)).trans (congrArg nI (by omega))) ?_
    refine z_istore_n C 3 dX6_number_91 rfl (Nat.le_of_ble_eq_true rfl) ?_
    refine z_aload_n C 0 dX6_number_92 rfl rfl ?_
    refine z_dup C dX6_number_93 rfl ?_
    refine z_get C fX6_number_161 0 dX6_number_94 rfl rfl ?_
    refine z_iconst C (nI 1) dX6_number_97 (by decide) ?_
    refine z_iadd C dX6_number_98 ?_
    refine z_top (y := nI (pl + 2)) (nI_add _ _) ?_
    refine z_put C fX6_number_161 ftX6_6 0 dX6_number_99 rfl rfl rfl (Nat.le_of_ble_eq_true rfl) ?_
    refine z_goto C 34 dX6_number_102 (by decide) ?_
    refine z_aload_n C 0 dX6_number_34 rfl rfl ?_
    refine z_get C fX6_number_164 0 dX6_number_35 rfl rfl ?_
    refine z_bif_eq_f C 105 dX6_number_38 (by decide) rfl ?_
    refine z_aload_n C 0 dX6_number_41 rfl rfl ?_
    refine z_get C fX6_number_161 0 dX6_number_42 rfl rfl ?_
    refine z_iload_n C 2 dX6_number_45 rfl rfl ?_
    refine z_iload_n C 1 dX6_number_46 rfl rfl ?_
    refine z_iadd C dX6_number_47 ?_
    refine z_top (y := nI (pl + 4)) (nI_add _ _) ?_
    refine z_ncmp_ge_f C 105 dX6_number_48 (by decide) (by omega) (by omega) (by omega) ?_
    refine z_aload_n C 0 dX6_number_51 rfl rfl ?_
    refine z_bipush C (nI 48) dX6_number_52 (by decide) ?_
    refine z_bipush C (nI 57) dX6_number_54 (by decide) ?_
    refine z_callVr C kX6_isAt gX6_number_X6_isAt (mX6_isAt_d X.2.1 a kp ty (pl + 2) true od tx hty htx (by first | assumption | omega)) dX6_number_56 [0, 1] [] 0 rfl nd_0_1 rfl rfl rfl (by decide) (by decide) (Nat.le_of_ble_eq_true rfl) rfl ?_
    refine z_bif_eq C 105 dX6_number_59 (by decide) (fun h_6 => ?_) (fun h_6 => ?_)
    · have hR : zRn tx ty 4 pl = (nI (((10 * ((zHe tx ty pl) - 48)) + (zHe tx ty (pl + 1))) - 48), pl + 2) := by rw [zRn_p hd h48]; rw [zNL_y (d := 3) hd]; rw [zNL_y (d := 2) h_3]; rw [zNL_n (d := 1) h_6]; exact Prod.ext (congrArg nI (by omega)) rfl
      refine z_iload_n C 3 dX6_number_105 rfl rfl ?_
      exact z_iret C N dX6_number_106 (by rw [hR] <;> rfl) (by rw [hR])
    · refine z_aload_n C 0 dX6_number_62 rfl rfl ?_
      refine z_get C fX6_number_161 0 dX6_number_63 rfl rfl ?_
      refine z_iload_n C 2 dX6_number_66 rfl rfl ?_
      refine z_ncmp_eq_f C 74 dX6_number_67 (by decide) (by omega) (by omega) (by omega) ?_
      refine z_iload_n C 3 dX6_number_70 rfl rfl ?_
      refine z_nif_le_f C 105 dX6_number_71 (by decide) (by omega) (by omega) ?_
      have hd_7 := zDg_t h_6
      have hp_8 : pl + 2 + 1 ≤ ty := zHe_lt tx (by omega)
      refine z_bipush C (nI 10) dX6_number_74 (by decide) ?_
      refine z_iload_n C 3 dX6_number_76 rfl rfl ?_
      refine z_imul C dX6_number_77 ?_
      refine z_top (y := nI (10 * (((10 * ((zHe tx ty pl) - 48)) + (zHe tx ty (pl + 1))) - 48))) (pk_mul _ _) ?_
      refine z_aload_n C 0 dX6_number_78 rfl rfl ?_
      refine z_get C fX6_number_19 0 dX6_number_79 rfl rfl ?_
      refine z_aload_n C 0 dX6_number_82 rfl rfl ?_
      refine z_get C fX6_number_161 0 dX6_number_83 rfl rfl ?_
      refine z_caldN C 1 dX6_number_86 rfl (by omega) (by decide) ?_
      refine z_top (y := nI (tx (pl + 2))) rfl ?_
      refine z_top (y := nI (zHe tx ty (pl + 2))) (congrArg nI (zHe_in tx (by omega)).symm) ?_
      refine z_iadd C dX6_number_87 ?_
      refine z_top (y := nI (10 * (((10 * ((zHe tx ty pl) - 48)) + (zHe tx ty (pl + 1))) - 48) + (zHe tx ty (pl + 2)))) (nI_add _ _) ?_
      refine z_bipush C (nI 48) dX6_number_88 (by decide) ?_
      refine z_isub C dX6_number_90 ?_
      refine z_top (y := nI ((10 * (((10 * ((zHe tx ty pl) - 48)) + (zHe tx ty (pl + 1))) - 48) + (zHe tx ty (pl + 2))) - 48)) ((pk_sub (by omega)).trans (congrArg nI (by omega))) ?_
      refine z_istore_n C 3 dX6_number_91 rfl (Nat.le_of_ble_eq_true rfl) ?_
      refine z_aload_n C 0 dX6_number_92 rfl rfl ?_
      refine z_dup C dX6_number_93 rfl ?_
      refine z_get C fX6_number_161 0 dX6_number_94 rfl rfl ?_
      refine z_iconst C (nI 1) dX6_number_97 (by decide) ?_
      refine z_iadd C dX6_number_98 ?_
      refine z_top (y := nI (pl + 3)) (nI_add _ _) ?_
      refine z_put C fX6_number_161 ftX6_6 0 dX6_number_99 rfl rfl rfl (Nat.le_of_ble_eq_true rfl) ?_
      refine z_goto C 34 dX6_number_102 (by decide) ?_
      refine z_aload_n C 0 dX6_number_34 rfl rfl ?_
      refine z_get C fX6_number_164 0 dX6_number_35 rfl rfl ?_
      refine z_bif_eq_f C 105 dX6_number_38 (by decide) rfl ?_
      refine z_aload_n C 0 dX6_number_41 rfl rfl ?_
      refine z_get C fX6_number_161 0 dX6_number_42 rfl rfl ?_
      refine z_iload_n C 2 dX6_number_45 rfl rfl ?_
      refine z_iload_n C 1 dX6_number_46 rfl rfl ?_
      refine z_iadd C dX6_number_47 ?_
      refine z_top (y := nI (pl + 4)) (nI_add _ _) ?_
      refine z_ncmp_ge_f C 105 dX6_number_48 (by decide) (by omega) (by omega) (by omega) ?_
      refine z_aload_n C 0 dX6_number_51 rfl rfl ?_
      refine z_bipush C (nI 48) dX6_number_52 (by decide) ?_
      refine z_bipush C (nI 57) dX6_number_54 (by decide) ?_
      refine z_callVr C kX6_isAt gX6_number_X6_isAt (mX6_isAt_d X.2.1 a kp ty (pl + 3) true od tx hty htx (by first | assumption | omega)) dX6_number_56 [0, 1] [] 0 rfl nd_0_1 rfl rfl rfl (by decide) (by decide) (Nat.le_of_ble_eq_true rfl) rfl ?_
      refine z_bif_eq C 105 dX6_number_59 (by decide) (fun h_9 => ?_) (fun h_9 => ?_)
      · have hR : zRn tx ty 4 pl = (nI ((10 * (((10 * ((zHe tx ty pl) - 48)) + (zHe tx ty (pl + 1))) - 48) + (zHe tx ty (pl + 2))) - 48), pl + 3) := by rw [zRn_p hd h48]; rw [zNL_y (d := 3) hd]; rw [zNL_y (d := 2) h_3]; rw [zNL_y (d := 1) h_6]; rw [zNL_n (d := 0) h_9]; exact Prod.ext (congrArg nI (by omega)) rfl
        refine z_iload_n C 3 dX6_number_105 rfl rfl ?_
        exact z_iret C N dX6_number_106 (by rw [hR] <;> rfl) (by rw [hR])
      · refine z_aload_n C 0 dX6_number_62 rfl rfl ?_
        refine z_get C fX6_number_161 0 dX6_number_63 rfl rfl ?_
        refine z_iload_n C 2 dX6_number_66 rfl rfl ?_
        refine z_ncmp_eq_f C 74 dX6_number_67 (by decide) (by omega) (by omega) (by omega) ?_
        refine z_iload_n C 3 dX6_number_70 rfl rfl ?_
        refine z_nif_le_f C 105 dX6_number_71 (by decide) (by omega) (by omega) ?_
        have hd_10 := zDg_t h_9
        have hp_11 : pl + 3 + 1 ≤ ty := zHe_lt tx (by omega)
        refine z_bipush C (nI 10) dX6_number_74 (by decide) ?_
        refine z_iload_n C 3 dX6_number_76 rfl rfl ?_
        refine z_imul C dX6_number_77 ?_
        refine z_top (y := nI (10 * ((10 * (((10 * ((zHe tx ty pl) - 48)) + (zHe tx ty (pl + 1))) - 48) + (zHe tx ty (pl + 2))) - 48))) (pk_mul _ _) ?_
        refine z_aload_n C 0 dX6_number_78 rfl rfl ?_
        refine z_get C fX6_number_19 0 dX6_number_79 rfl rfl ?_
        refine z_aload_n C 0 dX6_number_82 rfl rfl ?_
        refine z_get C fX6_number_161 0 dX6_number_83 rfl rfl ?_
        refine z_caldN C 1 dX6_number_86 rfl (by omega) (by decide) ?_
        refine z_top (y := nI (tx (pl + 3))) rfl ?_
        refine z_top (y := nI (zHe tx ty (pl + 3))) (congrArg nI (zHe_in tx (by omega)).symm) ?_
        refine z_iadd C dX6_number_87 ?_
        refine z_top (y := nI (10 * ((10 * (((10 * ((zHe tx ty pl) - 48)) + (zHe tx ty (pl + 1))) - 48) + (zHe tx ty (pl + 2))) - 48) + (zHe tx ty (pl + 3)))) (nI_add _ _) ?_
        refine z_bipush C (nI 48) dX6_number_88 (by decide) ?_
        refine z_isub C dX6_number_90 ?_
        refine z_top (y := nI ((10 * ((10 * (((10 * ((zHe tx ty pl) - 48)) + (zHe tx ty (pl + 1))) - 48) + (zHe tx ty (pl + 2))) - 48) + (zHe tx ty (pl + 3))) - 48)) ((pk_sub (by omega)).trans (congrArg nI (by omega))) ?_
        refine z_istore_n C 3 dX6_number_91 rfl (Nat.le_of_ble_eq_true rfl) ?_
        refine z_aload_n C 0 dX6_number_92 rfl rfl ?_
        refine z_dup C dX6_number_93 rfl ?_
        refine z_get C fX6_number_161 0 dX6_number_94 rfl rfl ?_
        refine z_iconst C (nI 1) dX6_number_97 (by decide) ?_
        refine z_iadd C dX6_number_98 ?_
        refine z_top (y := nI (pl + 4)) (nI_add _ _) ?_
        refine z_put C fX6_number_161 ftX6_6 0 dX6_number_99 rfl rfl rfl (Nat.le_of_ble_eq_true rfl) ?_
        refine z_goto C 34 dX6_number_102 (by decide) ?_
        refine z_aload_n C 0 dX6_number_34 rfl rfl ?_
        refine z_get C fX6_number_164 0 dX6_number_35 rfl rfl ?_
        refine z_bif_eq_f C 105 dX6_number_38 (by decide) rfl ?_
        refine z_aload_n C 0 dX6_number_41 rfl rfl ?_
        refine z_get C fX6_number_161 0 dX6_number_42 rfl rfl ?_
        refine z_iload_n C 2 dX6_number_45 rfl rfl ?_
        refine z_iload_n C 1 dX6_number_46 rfl rfl ?_
        refine z_iadd C dX6_number_47 ?_
        refine z_top (y := nI (pl + 4)) (nI_add _ _) ?_
        refine z_ncmp_ge_t C 105 dX6_number_48 (by decide) (by omega) (by omega) (by omega) ?_
        have hR : zRn tx ty 4 pl = (nI ((10 * ((10 * (((10 * ((zHe tx ty pl) - 48)) + (zHe tx ty (pl + 1))) - 48) + (zHe tx ty (pl + 2))) - 48) + (zHe tx ty (pl + 3))) - 48), pl + 4) := by rw [zRn_p hd h48]; rw [zNL_y (d := 3) hd]; rw [zNL_y (d := 2) h_3]; rw [zNL_y (d := 1) h_6]; rw [zNL_y (d := 0) h_9]; rw [zNL_z]; exact Prod.ext (congrArg nI (by omega)) rfl
        refine z_iload_n C 3 dX6_number_105 rfl rfl ?_
        exact z_iret C N dX6_number_106 (by rw [hR] <;> rfl) (by rw [hR])

set_option maxHeartbeats 400000 in
set_option maxRecDepth 100000 in
theorem mX6_number_u4 (E : zE) (a : Nat → Nat) (kp ty pl : Nat) (od : Nat) (tx : Nat → Nat) (hty : ty ≤ 60) (htx : ∀ j, tx j < 65536) (hpl : pl ≤ ty) : zM E yX6_number wsX6_number 1 [.ref (a 0), .int (nI 4)] [((a 0), .inr (6, [.ref (a 1), .ref (a 2), .ref (a 3), .int (nI kp), .int (nI ty), .ref (a 4), .int (nI pl), .int (zb true), .int (nI od), .ref (a 5)])), ((a 4), .inl (E.2.2.2.1, 60, .inl (fun j9 => nI (tx j9))))] [((a 0), .inr (6, [.ref (a 1), .ref (a 2), .ref (a 3), .int (nI kp), .int (nI ty), .ref (a 4), .int (nI ((zRn tx ty 4 pl).2)), .int (zb (zDg (zHe tx ty pl))), .int (nI od), .ref (a 5)])), ((a 4), .inl (E.2.2.2.1, 60, .inl (fun j9 => nI (tx j9))))] (some (.int (mNv tx ty 4 pl))) := by
  cases hd : zDg (zHe tx ty pl) with
  | false =>
    rw [zRn_n hd, show mNv tx ty 4 pl = nI 0 by rw [mNv, if_neg (by rw [hd]; decide)]]
    exact mX6_number_n4 E a kp ty pl od tx hty htx hpl hd
  | true =>
    rw [show mNv tx ty 4 pl = (zRn tx ty 4 pl).1 by rw [mNv, if_pos hd]]
    by_cases h48 : zHe tx ty pl = 48
    · rw [zRn_0 h48]
      exact mX6_number_04 E a kp ty pl od tx hty htx hpl hd h48
    · exact mX6_number_p4 E a kp ty pl od tx hty htx hpl hd h48
