theorem kX6_run : zY yX6_run wsX6_run cX6_run 3 (some .int) 1 := ⟨⟨_, rfl⟩, ⟨by decide +kernel, by decide +kernel, by decide +kernel⟩, by decide +kernel⟩
set_option maxHeartbeats 400000 in
set_option maxRecDepth 100000 in
theorem mX6_run_b (E : zE) (a : Nat → Nat) (kp ty pl : Nat) (gd : Bool) (od : Nat) (s t : zMs) (Q : Nat → zMs) (tx : Nat → Nat) (oo : Nat → Int32) (au : Int32) (hO : okM (nU s) (nS s) (nM s) (nK s)) (hk4 : kp ≤ 4) (hty : ty ≤ 60) (htx : ∀ j, tx j < 65536) (hx : au < 0 ∨ (¬ au < 0 ∧ nI 4 ≤ au)) : zM E yX6_run wsX6_run 7 [.ref (a 0), .int au] [((a 0), .inr (6, [.ref (a 1), .ref (a 2), .ref (a 3), .int (nI kp), .int (nI ty), .ref (a 4), .int (nI pl), .int (zb gd), .int (nI od), .ref (a 5)])), ((a 1), .inl (E.2.2.1, 512, .inl (zMr s))), ((a 2), .inl (E.2.2.1, 512, .inl (zMr t))), ((a 3), .inl (E.2.2.1, 2048, .inl (zHi Q))), ((a 4), .inl (E.2.2.2.1, 60, .inl (fun j9 => nI (tx j9)))), ((a 5), .inl (E.2.2.1, 120, .inl oo))] [((a 0), .inr (6, [.ref (a 1), .ref (a 2), .ref (a 3), .int (nI kp), .int (nI ty), .ref (a 4), .int (nI pl), .int (zb gd), .int (nI od), .ref (a 5)])), ((a 1), .inl (E.2.2.1, 512, .inl (zMr s))), ((a 2), .inl (E.2.2.1, 512, .inl (zMr t))), ((a 3), .inl (E.2.2.1, 2048, .inl (zHi Q))), ((a 4), .inl (E.2.2.2.1, 60, .inl (fun j9 => nI (tx j9)))), ((a 5), .inl (E.2.2.1, 120, .inl oo))] (some (.int (-1))) := by
  refine zM.of kX6_run (Nat.le_of_ble_eq_true rfl) rfl [some (.ref (a 0)), some (.int au), none] rfl (Nat.le_of_ble_eq_true rfl) ?_
  intro X eX C N
  subst eX
  refine z_iload_n C 1 dX6_run_0 rfl rfl ?_
  refine z_callS C kX6_noAuthor gX6_run_X6_noAuthor (mX6_noAuthor_n X.2.1 au hx) dX6_run_1 [] rfl (by decide) (by decide) (Nat.le_of_ble_eq_true rfl) rfl ?_
  refine z_bif_eq_f C 9 dX6_run_4 (by decide) rfl ?_
  refine z_iconst C (-1) dX6_run_7 (by decide) ?_
  exact z_iret C N dX6_run_8 (rfl) (rfl)

theorem fX6_run_161 : zF wsX6_run RX6 161 6 6 RX6 TX6 10 := ⟨by decide +kernel, rfl, by decide, by decide +kernel, rfl⟩
theorem fX6_run_164 : zF wsX6_run RX6 164 6 7 RX6 TX6 10 := ⟨by decide +kernel, rfl, by decide, by decide +kernel, rfl⟩
theorem fX6_run_172 : zF wsX6_run RX6 172 6 8 RX6 TX6 10 := ⟨by decide +kernel, rfl, by decide, by decide +kernel, rfl⟩
theorem nd_0_4_5 : va_nd [0, 4, 5] = true := by decide +kernel
theorem nd_0_4 : va_nd [0, 4] = true := by decide +kernel
theorem fX6_run_158 : zF wsX6_run RX6 158 6 4 RX6 TX6 10 := ⟨by decide +kernel, rfl, by decide, by decide +kernel, rfl⟩
set_option maxHeartbeats 400000 in
set_option maxRecDepth 100000 in
theorem mX6_run_f (E : zE) (a : Nat → Nat) (kp ty pl : Nat) (gd : Bool) (od : Nat) (s t : zMs) (Q : Nat → zMs) (tx : Nat → Nat) (oo : Nat → Int32) (au : Nat) (p9 : Nat) (g9 : Bool) (o9 : Nat) (oo9 : Nat → Int32) (hO : okM (nU s) (nS s) (nM s) (nK s)) (hk4 : kp ≤ 4) (hty : ty ≤ 60) (htx : ∀ j, tx j < 65536) (hau : au < 4) (hr : mRA9 tx ty oo = (p9, g9, o9, oo9)) (hF : g9 = false ∨ p9 < ty) : zM E yX6_run wsX6_run 7 [.ref (a 0), .int (nI au)] [((a 0), .inr (6, [.ref (a 1), .ref (a 2), .ref (a 3), .int (nI kp), .int (nI ty), .ref (a 4), .int (nI pl), .int (zb gd), .int (nI od), .ref (a 5)])), ((a 1), .inl (E.2.2.1, 512, .inl (zMr s))), ((a 2), .inl (E.2.2.1, 512, .inl (zMr t))), ((a 3), .inl (E.2.2.1, 2048, .inl (zHi Q))), ((a 4), .inl (E.2.2.2.1, 60, .inl (fun j9 => nI (tx j9)))), ((a 5), .inl (E.2.2.1, 120, .inl oo))] [((a 0), .inr (6, [.ref (a 1), .ref (a 2), .ref (a 3), .int (nI kp), .int (nI ty), .ref (a 4), .int (nI p9), .int (zb g9), .int (nI o9), .ref (a 5)])), ((a 1), .inl (E.2.2.1, 512, .inl (zMr s))), ((a 2), .inl (E.2.2.1, 512, .inl (zMr t))), ((a 3), .inl (E.2.2.1, 2048, .inl (zHi Q))), ((a 4), .inl (E.2.2.2.1, 60, .inl (fun j9 => nI (tx j9)))), ((a 5), .inl (E.2.2.1, 120, .inl oo9))] (some (.int (((-100)) - (nI p9)))) := by
  refine zM.of kX6_run (Nat.le_of_ble_eq_true rfl) rfl [some (.ref (a 0)), some (.int (nI au)), none] rfl (Nat.le_of_ble_eq_true rfl) ?_
  intro X eX C N
  subst eX
  refine z_iload_n C 1 dX6_run_0 rfl rfl ?_
  refine z_callS C kX6_noAuthor gX6_run_X6_noAuthor (mX6_noAuthor_y X.2.1 au hau) dX6_run_1 [] rfl (by decide) (by decide) (Nat.le_of_ble_eq_true rfl) rfl ?_
  refine z_bif_eq_t C 9 dX6_run_4 (by decide) rfl ?_
  refine z_aload_n C 0 dX6_run_9 rfl rfl ?_
  refine z_iconst C (nI 0) dX6_run_10 (by decide) ?_
  refine z_put C fX6_run_161 ftX6_6 0 dX6_run_11 rfl rfl rfl (Nat.le_of_ble_eq_true rfl) ?_
  refine z_aload_n C 0 dX6_run_14 rfl rfl ?_
  refine z_iconst C (nI 1) dX6_run_15 (by decide) ?_
  refine z_put C fX6_run_164 ftX6_7 0 dX6_run_16 rfl rfl rfl (Nat.le_of_ble_eq_true rfl) ?_
  refine z_aload_n C 0 dX6_run_19 rfl rfl ?_
  refine z_iconst C (nI 0) dX6_run_20 (by decide) ?_
  refine z_put C fX6_run_172 ftX6_8 0 dX6_run_21 rfl rfl rfl (Nat.le_of_ble_eq_true rfl) ?_
  refine z_aload_n C 0 dX6_run_24 rfl rfl ?_
  refine z_callVv (wn := [((a 0), .inr (6, [.ref (a 1), .ref (a 2), .ref (a 3), .int (nI kp), .int (nI ty), .ref (a 4), .int (nI ((mRO tx ty 0 0 oo).1)), .int (zb ((mRO tx ty 0 0 oo).2.1)), .int (nI (0 + 1)), .ref (a 5)])), ((a 1), .inl (X.2.1.2.2.1, 512, .inl (zMr s))), ((a 2), .inl (X.2.1.2.2.1, 512, .inl (zMr t))), ((a 3), .inl (X.2.1.2.2.1, 2048, .inl (zHi Q))), ((a 4), .inl (X.2.1.2.2.2.1, 60, .inl (fun j9 => nI (tx j9)))), ((a 5), .inl (X.2.1.2.2.1, 120, .inl ((mRO tx ty 0 0 oo).2.2)))]) C kX6_readOrder gX6_run_X6_readOrder (mX6_readOrder X.2.1 a kp ty 0 0 tx oo hty htx (by first | assumption | omega) (by first | assumption | omega)) dX6_run_25 [0, 4, 5] [] 0 rfl rfl nd_0_4_5 rfl rfl rfl (by decide) (by decide) (Nat.le_of_ble_eq_true rfl) rfl rfl ?_
  have hg_1 : (mRO tx ty 0 0 oo).1 ≤ ty := mRO_le (by omega)
  have hL28 : ∀ (dd : Nat) (p8 : Nat) (g8 : Bool) (o8 : Nat) (f8 : Nat → Int32) (d8 : Nat), d8 = dd → (p8 ≤ ty) → (g8 = true → 4 * o8 ≤ p8 + 1) → (ty ≤ p8 + d8) → (mRL tx ty d8 p8 g8 o8 f8 = mRA9 tx ty oo) → (∀ k, k < o8 → kd5 (f8 (4 * k))) → zG X 0 0 [((a 0), .inr (6, [.ref (a 1), .ref (a 2), .ref (a 3), .int (nI kp), .int (nI ty), .ref (a 4), .int (nI p8), .int (zb g8), .int (nI o8), .ref (a 5)])), ((a 1), .inl (X.2.1.2.2.1, 512, .inl (zMr s))), ((a 2), .inl (X.2.1.2.2.1, 512, .inl (zMr t))), ((a 3), .inl (X.2.1.2.2.1, 2048, .inl (zHi Q))), ((a 4), .inl (X.2.1.2.2.2.1, 60, .inl (fun j9 => nI (tx j9)))), ((a 5), .inl (X.2.1.2.2.1, 120, .inl f8))] [some (.ref (a 0)), some (.int (nI au)), none] [] 28 := by
    intro dd
    induction dd using Nat.strongRecOn with
    | _ dd ih28 =>
    intro p8 g8 o8 f8 d8 hdd hp8 hg8 hd8 hR hkd
    by_cases hgt : g8 = true
    · subst hgt
      by_cases h32 : zHe tx ty p8 = 32
      · have hlt8 : p8 + 1 ≤ ty := zHe_lt tx (by omega)
        obtain ⟨d9, rfl⟩ : ∃ d9, d8 = d9 + 1 := ⟨d8 - 1, by omega⟩
        have hod8 : o8 < 28 := by have := hg8 rfl; omega
        refine z_aload_n C 0 dX6_run_28 rfl rfl ?_
        refine z_bipush C (nI 32) dX6_run_29 (by decide) ?_
        refine z_callV (wn := [((a 0), .inr (6, [.ref (a 1), .ref (a 2), .ref (a 3), .int (nI kp), .int (nI ty), .ref (a 4), .int (nI (p8 + 1)), .int (zb true), .int (nI o8), .ref (a 5)])), ((a 1), .inl (X.2.1.2.2.1, 512, .inl (zMr s))), ((a 2), .inl (X.2.1.2.2.1, 512, .inl (zMr t))), ((a 3), .inl (X.2.1.2.2.1, 2048, .inl (zHi Q))), ((a 4), .inl (X.2.1.2.2.2.1, 60, .inl (fun j9 => nI (tx j9)))), ((a 5), .inl (X.2.1.2.2.1, 120, .inl f8))]) C kX6_skips gX6_run_X6_skips (mX6_skips_y X.2.1 a kp ty p8 o8 tx 32 hty htx hp8 (by first | assumption | omega) (by first | assumption | omega) h32) dX6_run_31 [0, 4] [] 0 rfl rfl nd_0_4 rfl rfl rfl (by decide) (by decide) (Nat.le_of_ble_eq_true rfl) rfl rfl ?_
        have hg_2 : p8 + 1 ≤ ty := zHe_lt tx (by omega)
        refine z_bif_eq_f C 44 dX6_run_34 (by decide) rfl ?_
        refine z_aload_n C 0 dX6_run_37 rfl rfl ?_
        refine z_callVv (wn := [((a 0), .inr (6, [.ref (a 1), .ref (a 2), .ref (a 3), .int (nI kp), .int (nI ty), .ref (a 4), .int (nI ((mRO tx ty (p8 + 1) o8 f8).1)), .int (zb ((mRO tx ty (p8 + 1) o8 f8).2.1)), .int (nI (o8 + 1)), .ref (a 5)])), ((a 1), .inl (X.2.1.2.2.1, 512, .inl (zMr s))), ((a 2), .inl (X.2.1.2.2.1, 512, .inl (zMr t))), ((a 3), .inl (X.2.1.2.2.1, 2048, .inl (zHi Q))), ((a 4), .inl (X.2.1.2.2.2.1, 60, .inl (fun j9 => nI (tx j9)))), ((a 5), .inl (X.2.1.2.2.1, 120, .inl ((mRO tx ty (p8 + 1) o8 f8).2.2)))]) C kX6_readOrder gX6_run_X6_readOrder (mX6_readOrder X.2.1 a kp ty (p8 + 1) o8 tx f8 hty htx hlt8 hod8) dX6_run_38 [0, 4, 5] [] 0 rfl rfl nd_0_4_5 rfl rfl rfl (by decide) (by decide) (Nat.le_of_ble_eq_true rfl) rfl rfl ?_
        have hg_3 : (mRO tx ty (p8 + 1) o8 f8).1 ≤ ty := mRO_le (by omega)
        refine z_goto C 28 dX6_run_41 (by decide) ?_
        exact ih28 (d9) (by omega) ((mRO tx ty (p8 + 1) o8 f8).1) ((mRO tx ty (p8 + 1) o8 f8).2.1) (o8 + 1) ((mRO tx ty (p8 + 1) o8 f8).2.2) d9 rfl (mRO_le (by omega)) (fun q => by have h7 := mRO_gt q; have h8 := hg8 rfl; omega) (by have := mRO_ge tx ty (p8 + 1) o8 f8; omega) (by rw [← hR]; exact (mRL_y rfl h32).symm) (mRO_kd hkd)
      · have hE := ((mRL_n (d := d8) (od := o8) (oo := f8) (fun q : true = true ∧ zHe tx ty p8 = 32 => h32 q.2)).symm.trans hR).trans hr
        simp only [Prod.mk.injEq] at hE
        obtain ⟨e1, e0, e2, e3⟩ := hE
        subst e1 e0 e2 e3
        have hpt : p8 < ty := by simpa using hF
        refine z_aload_n C 0 dX6_run_28 rfl rfl ?_
        refine z_bipush C (nI 32) dX6_run_29 (by decide) ?_
        refine z_callVr C kX6_skips gX6_run_X6_skips (mX6_skips_n X.2.1 a kp ty p8 o8 tx 32 hty htx hp8 (by first | assumption | omega) (by first | assumption | omega) h32) dX6_run_31 [0, 4] [] 0 rfl nd_0_4 rfl rfl rfl (by decide) (by decide) (Nat.le_of_ble_eq_true rfl) rfl ?_
        refine z_bif_eq_t C 44 dX6_run_34 (by decide) rfl ?_
        refine z_aload_n C 0 dX6_run_44 rfl rfl ?_
        refine z_get C fX6_run_164 0 dX6_run_45 rfl rfl ?_
        refine z_bif_eq_f C 62 dX6_run_48 (by decide) rfl ?_
        refine z_aload_n C 0 dX6_run_51 rfl rfl ?_
        refine z_get C fX6_run_161 0 dX6_run_52 rfl rfl ?_
        refine z_aload_n C 0 dX6_run_55 rfl rfl ?_
        refine z_get C fX6_run_158 0 dX6_run_56 rfl rfl ?_
        refine z_ncmp_ge_f C 70 dX6_run_59 (by decide) (by omega) (by omega) (by omega) ?_
        refine z_bipush C (-100) dX6_run_62 (by decide) ?_
        refine z_aload_n C 0 dX6_run_64 rfl rfl ?_
        refine z_get C fX6_run_161 0 dX6_run_65 rfl rfl ?_
        refine z_isub C dX6_run_68 ?_
        exact z_iret C N dX6_run_69 (rfl) (rfl)
    · have hgf : g8 = false := by simpa using hgt
      subst hgf
      have hE := ((mRL_n (d := d8) (od := o8) (oo := f8) (fun q : false = true ∧ zHe tx ty p8 = 32 => absurd q.1 (by decide))).symm.trans hR).trans hr
      simp only [Prod.mk.injEq] at hE
      obtain ⟨e1, e0, e2, e3⟩ := hE
      subst e1 e0 e2 e3
      refine z_aload_n C 0 dX6_run_28 rfl rfl ?_
      refine z_bipush C (nI 32) dX6_run_29 (by decide) ?_
      refine z_callVr C kX6_skips gX6_run_X6_skips (mX6_skips_g X.2.1 a kp ty p8 o8 tx 32 hty htx hp8 (by first | assumption | omega) (by first | assumption | omega)) dX6_run_31 [0, 4] [] 0 rfl nd_0_4 rfl rfl rfl (by decide) (by decide) (Nat.le_of_ble_eq_true rfl) rfl ?_
      refine z_bif_eq_t C 44 dX6_run_34 (by decide) rfl ?_
      refine z_aload_n C 0 dX6_run_44 rfl rfl ?_
      refine z_get C fX6_run_164 0 dX6_run_45 rfl rfl ?_
      refine z_bif_eq_t C 62 dX6_run_48 (by decide) rfl ?_
      refine z_bipush C (-100) dX6_run_62 (by decide) ?_
      refine z_aload_n C 0 dX6_run_64 rfl rfl ?_
      refine z_get C fX6_run_161 0 dX6_run_65 rfl rfl ?_
      refine z_isub C dX6_run_68 ?_
      exact z_iret C N dX6_run_69 (rfl) (rfl)
  exact hL28 _ ((mRO tx ty 0 0 oo).1) ((mRO tx ty 0 0 oo).2.1) (0 + 1) ((mRO tx ty 0 0 oo).2.2) 60 rfl (mRO_le (Nat.zero_le _)) (fun q => by have := mRO_gt q; omega) (by omega) (rfl) (mRO_kd (fun k h => absurd h (Nat.not_lt_zero k)))

theorem nd_0_1_5 : va_nd [0, 1, 5] = true := by decide +kernel
set_option maxHeartbeats 400000 in
set_option maxRecDepth 100000 in
theorem mX6_run (E : zE) (a : Nat → Nat) (kp ty pl : Nat) (gd : Bool) (od : Nat) (s t : zMs) (Q : Nat → zMs) (tx : Nat → Nat) (oo : Nat → Int32) (au : Nat) (p9 : Nat) (o9 : Nat) (oo9 : Nat → Int32) (hO : okM (nU s) (nS s) (nM s) (nK s)) (hk4 : kp ≤ 4) (hty : ty ≤ 60) (htx : ∀ j, tx j < 65536) (hau : au < 4) (hr : mRA9 tx ty oo = (p9, true, o9, oo9)) (hp9 : ty ≤ p9) (hC : ∀ k, k ≤ o9 → okM (nU (mCO s (nI au) oo9 k)) (nS (mCO s (nI au) oo9 k)) (nM (mCO s (nI au) oo9 k)) (nK (mCO s (nI au) oo9 k)) ∧ nmM (nU (mCO s (nI au) oo9 k)) (nS (mCO s (nI au) oo9 k)) (nN (mCO s (nI au) oo9 k))) : zM E yX6_run wsX6_run 7 [.ref (a 0), .int (nI au)] [((a 0), .inr (6, [.ref (a 1), .ref (a 2), .ref (a 3), .int (nI kp), .int (nI ty), .ref (a 4), .int (nI pl), .int (zb gd), .int (nI od), .ref (a 5)])), ((a 1), .inl (E.2.2.1, 512, .inl (zMr s))), ((a 2), .inl (E.2.2.1, 512, .inl (zMr t))), ((a 3), .inl (E.2.2.1, 2048, .inl (zHi Q))), ((a 4), .inl (E.2.2.2.1, 60, .inl (fun j9 => nI (tx j9)))), ((a 5), .inl (E.2.2.1, 120, .inl oo))] [((a 0), .inr (6, [.ref (a 1), .ref (a 2), .ref (a 3), .int (nI (mHk (nI (mCn s (nI au) oo9 o9)) kp)), .int (nI ty), .ref (a 4), .int (nI p9), .int (zb true), .int (nI o9), .ref (a 5)])), ((a 1), .inl (E.2.2.1, 512, .inl (zMr (mCs s (nI au) oo9 o9)))), ((a 2), .inl (E.2.2.1, 512, .inl (zMr s))), ((a 3), .inl (E.2.2.1, 2048, .inl (zHi (mHq (nI (mCn s (nI au) oo9 o9)) Q kp s)))), ((a 4), .inl (E.2.2.2.1, 60, .inl (fun j9 => nI (tx j9)))), ((a 5), .inl (E.2.2.1, 120, .inl oo9))] (some (.int (nI (mCn s (nI au) oo9 o9)))) := by
  refine zM.of kX6_run (Nat.le_of_ble_eq_true rfl) rfl [some (.ref (a 0)), some (.int (nI au)), none] rfl (Nat.le_of_ble_eq_true rfl) ?_
  intro X eX C N
  subst eX
  refine z_iload_n C 1 dX6_run_0 rfl rfl ?_
  refine z_callS C kX6_noAuthor gX6_run_X6_noAuthor (mX6_noAuthor_y X.2.1 au hau) dX6_run_1 [] rfl (by decide) (by decide) (Nat.le_of_ble_eq_true rfl) rfl ?_
  refine z_bif_eq_t C 9 dX6_run_4 (by decide) rfl ?_
  refine z_aload_n C 0 dX6_run_9 rfl rfl ?_
  refine z_iconst C (nI 0) dX6_run_10 (by decide) ?_
  refine z_put C fX6_run_161 ftX6_6 0 dX6_run_11 rfl rfl rfl (Nat.le_of_ble_eq_true rfl) ?_
  refine z_aload_n C 0 dX6_run_14 rfl rfl ?_
  refine z_iconst C (nI 1) dX6_run_15 (by decide) ?_
  refine z_put C fX6_run_164 ftX6_7 0 dX6_run_16 rfl rfl rfl (Nat.le_of_ble_eq_true rfl) ?_
  refine z_aload_n C 0 dX6_run_19 rfl rfl ?_
  refine z_iconst C (nI 0) dX6_run_20 (by decide) ?_
  refine z_put C fX6_run_172 ftX6_8 0 dX6_run_21 rfl rfl rfl (Nat.le_of_ble_eq_true rfl) ?_
  refine z_aload_n C 0 dX6_run_24 rfl rfl ?_
  refine z_callVv (wn := [((a 0), .inr (6, [.ref (a 1), .ref (a 2), .ref (a 3), .int (nI kp), .int (nI ty), .ref (a 4), .int (nI ((mRO tx ty 0 0 oo).1)), .int (zb ((mRO tx ty 0 0 oo).2.1)), .int (nI (0 + 1)), .ref (a 5)])), ((a 1), .inl (X.2.1.2.2.1, 512, .inl (zMr s))), ((a 2), .inl (X.2.1.2.2.1, 512, .inl (zMr t))), ((a 3), .inl (X.2.1.2.2.1, 2048, .inl (zHi Q))), ((a 4), .inl (X.2.1.2.2.2.1, 60, .inl (fun j9 => nI (tx j9)))), ((a 5), .inl (X.2.1.2.2.1, 120, .inl ((mRO tx ty 0 0 oo).2.2)))]) C kX6_readOrder gX6_run_X6_readOrder (mX6_readOrder X.2.1 a kp ty 0 0 tx oo hty htx (by first | assumption | omega) (by first | assumption | omega)) dX6_run_25 [0, 4, 5] [] 0 rfl rfl nd_0_4_5 rfl rfl rfl (by decide) (by decide) (Nat.le_of_ble_eq_true rfl) rfl rfl ?_
  have hg_1 : (mRO tx ty 0 0 oo).1 ≤ ty := mRO_le (by omega)
  have hL28 : ∀ (dd : Nat) (p8 : Nat) (g8 : Bool) (o8 : Nat) (f8 : Nat → Int32) (d8 : Nat), d8 = dd → (p8 ≤ ty) → (g8 = true → 4 * o8 ≤ p8 + 1) → (ty ≤ p8 + d8) → (mRL tx ty d8 p8 g8 o8 f8 = mRA9 tx ty oo) → (∀ k, k < o8 → kd5 (f8 (4 * k))) → zG X 0 0 [((a 0), .inr (6, [.ref (a 1), .ref (a 2), .ref (a 3), .int (nI kp), .int (nI ty), .ref (a 4), .int (nI p8), .int (zb g8), .int (nI o8), .ref (a 5)])), ((a 1), .inl (X.2.1.2.2.1, 512, .inl (zMr s))), ((a 2), .inl (X.2.1.2.2.1, 512, .inl (zMr t))), ((a 3), .inl (X.2.1.2.2.1, 2048, .inl (zHi Q))), ((a 4), .inl (X.2.1.2.2.2.1, 60, .inl (fun j9 => nI (tx j9)))), ((a 5), .inl (X.2.1.2.2.1, 120, .inl f8))] [some (.ref (a 0)), some (.int (nI au)), none] [] 28 := by
    intro dd
    induction dd using Nat.strongRecOn with
    | _ dd ih28 =>
    intro p8 g8 o8 f8 d8 hdd hp8 hg8 hd8 hR hkd
    by_cases hgt : g8 = true
    · subst hgt
      by_cases h32 : zHe tx ty p8 = 32
      · have hlt8 : p8 + 1 ≤ ty := zHe_lt tx (by omega)
        obtain ⟨d9, rfl⟩ : ∃ d9, d8 = d9 + 1 := ⟨d8 - 1, by omega⟩
        have hod8 : o8 < 28 := by have := hg8 rfl; omega
        refine z_aload_n C 0 dX6_run_28 rfl rfl ?_
        refine z_bipush C (nI 32) dX6_run_29 (by decide) ?_
        refine z_callV (wn := [((a 0), .inr (6, [.ref (a 1), .ref (a 2), .ref (a 3), .int (nI kp), .int (nI ty), .ref (a 4), .int (nI (p8 + 1)), .int (zb true), .int (nI o8), .ref (a 5)])), ((a 1), .inl (X.2.1.2.2.1, 512, .inl (zMr s))), ((a 2), .inl (X.2.1.2.2.1, 512, .inl (zMr t))), ((a 3), .inl (X.2.1.2.2.1, 2048, .inl (zHi Q))), ((a 4), .inl (X.2.1.2.2.2.1, 60, .inl (fun j9 => nI (tx j9)))), ((a 5), .inl (X.2.1.2.2.1, 120, .inl f8))]) C kX6_skips gX6_run_X6_skips (mX6_skips_y X.2.1 a kp ty p8 o8 tx 32 hty htx hp8 (by first | assumption | omega) (by first | assumption | omega) h32) dX6_run_31 [0, 4] [] 0 rfl rfl nd_0_4 rfl rfl rfl (by decide) (by decide) (Nat.le_of_ble_eq_true rfl) rfl rfl ?_
        have hg_2 : p8 + 1 ≤ ty := zHe_lt tx (by omega)
        refine z_bif_eq_f C 44 dX6_run_34 (by decide) rfl ?_
        refine z_aload_n C 0 dX6_run_37 rfl rfl ?_
        refine z_callVv (wn := [((a 0), .inr (6, [.ref (a 1), .ref (a 2), .ref (a 3), .int (nI kp), .int (nI ty), .ref (a 4), .int (nI ((mRO tx ty (p8 + 1) o8 f8).1)), .int (zb ((mRO tx ty (p8 + 1) o8 f8).2.1)), .int (nI (o8 + 1)), .ref (a 5)])), ((a 1), .inl (X.2.1.2.2.1, 512, .inl (zMr s))), ((a 2), .inl (X.2.1.2.2.1, 512, .inl (zMr t))), ((a 3), .inl (X.2.1.2.2.1, 2048, .inl (zHi Q))), ((a 4), .inl (X.2.1.2.2.2.1, 60, .inl (fun j9 => nI (tx j9)))), ((a 5), .inl (X.2.1.2.2.1, 120, .inl ((mRO tx ty (p8 + 1) o8 f8).2.2)))]) C kX6_readOrder gX6_run_X6_readOrder (mX6_readOrder X.2.1 a kp ty (p8 + 1) o8 tx f8 hty htx hlt8 hod8) dX6_run_38 [0, 4, 5] [] 0 rfl rfl nd_0_4_5 rfl rfl rfl (by decide) (by decide) (Nat.le_of_ble_eq_true rfl) rfl rfl ?_
        have hg_3 : (mRO tx ty (p8 + 1) o8 f8).1 ≤ ty := mRO_le (by omega)
        refine z_goto C 28 dX6_run_41 (by decide) ?_
        exact ih28 (d9) (by omega) ((mRO tx ty (p8 + 1) o8 f8).1) ((mRO tx ty (p8 + 1) o8 f8).2.1) (o8 + 1) ((mRO tx ty (p8 + 1) o8 f8).2.2) d9 rfl (mRO_le (by omega)) (fun q => by have h7 := mRO_gt q; have h8 := hg8 rfl; omega) (by have := mRO_ge tx ty (p8 + 1) o8 f8; omega) (by rw [← hR]; exact (mRL_y rfl h32).symm) (mRO_kd hkd)
      · have hE := ((mRL_n (d := d8) (od := o8) (oo := f8) (fun q : true = true ∧ zHe tx ty p8 = 32 => h32 q.2)).symm.trans hR).trans hr
        simp only [Prod.mk.injEq, true_and] at hE
        obtain ⟨e1, e2, e3⟩ := hE
        subst e1 e2 e3
        refine z_aload_n C 0 dX6_run_28 rfl rfl ?_
        refine z_bipush C (nI 32) dX6_run_29 (by decide) ?_
        refine z_callVr C kX6_skips gX6_run_X6_skips (mX6_skips_n X.2.1 a kp ty p8 o8 tx 32 hty htx hp8 (by first | assumption | omega) (by first | assumption | omega) h32) dX6_run_31 [0, 4] [] 0 rfl nd_0_4 rfl rfl rfl (by decide) (by decide) (Nat.le_of_ble_eq_true rfl) rfl ?_
        refine z_bif_eq_t C 44 dX6_run_34 (by decide) rfl ?_
        refine z_aload_n C 0 dX6_run_44 rfl rfl ?_
        refine z_get C fX6_run_164 0 dX6_run_45 rfl rfl ?_
        refine z_bif_eq_f C 62 dX6_run_48 (by decide) rfl ?_
        refine z_aload_n C 0 dX6_run_51 rfl rfl ?_
        refine z_get C fX6_run_161 0 dX6_run_52 rfl rfl ?_
        refine z_aload_n C 0 dX6_run_55 rfl rfl ?_
        refine z_get C fX6_run_158 0 dX6_run_56 rfl rfl ?_
        refine z_ncmp_ge_t C 70 dX6_run_59 (by decide) (by omega) (by omega) (by omega) ?_
        refine z_aload_n C 0 dX6_run_70 rfl rfl ?_
        refine z_callVv (wn := [((a 0), .inr (6, [.ref (a 1), .ref (a 2), .ref (a 3), .int (nI kp), .int (nI ty), .ref (a 4), .int (nI p8), .int (zb true), .int (nI o8), .ref (a 5)])), ((a 1), .inl (X.2.1.2.2.1, 512, .inl (zMr s))), ((a 2), .inl (X.2.1.2.2.1, 512, .inl (zMr s))), ((a 3), .inl (X.2.1.2.2.1, 2048, .inl (zHi Q))), ((a 4), .inl (X.2.1.2.2.2.1, 60, .inl (fun j9 => nI (tx j9)))), ((a 5), .inl (X.2.1.2.2.1, 120, .inl f8))]) C kX6_begin gX6_run_X6_begin (mX6_begin X.2.1 a kp ty p8 true o8 s t ) dX6_run_71 [0, 1, 2] [] 0 rfl rfl nd_0_1_2 rfl rfl rfl (by decide) (by decide) (Nat.le_of_ble_eq_true rfl) rfl rfl ?_
        refine z_iconst C (nI 0) dX6_run_74 (by decide) ?_
        refine z_istore_n C 2 dX6_run_75 rfl (Nat.le_of_ble_eq_true rfl) ?_
        have hL76 : ∀ (dd : Nat) (m : Nat) (s' : zMs), o8 - m = dd → (m ≤ o8) → (s' = mCO s (nI au) f8 m) → (∀ j, j < m → mCe s (nI au) f8 j = false) → zG X 0 0 [((a 0), .inr (6, [.ref (a 1), .ref (a 2), .ref (a 3), .int (nI kp), .int (nI ty), .ref (a 4), .int (nI p8), .int (zb true), .int (nI o8), .ref (a 5)])), ((a 1), .inl (X.2.1.2.2.1, 512, .inl (zMr s'))), ((a 2), .inl (X.2.1.2.2.1, 512, .inl (zMr s))), ((a 3), .inl (X.2.1.2.2.1, 2048, .inl (zHi Q))), ((a 4), .inl (X.2.1.2.2.2.1, 60, .inl (fun j9 => nI (tx j9)))), ((a 5), .inl (X.2.1.2.2.1, 120, .inl f8))] [some (.ref (a 0)), some (.int (nI au)), some (.int (nI m))] [] 76 := by
          intro dd
          induction dd using Nat.strongRecOn with
          | _ dd ih76 =>
          intro m s' hdd hm hs' hne
          have hO9 : okM (nU s') (nS s') (nM s') (nK s') := by rw [hs']; exact (hC m hm).1
          have hW9 : nmM (nU s') (nS s') (nN s') := by rw [hs']; exact (hC m hm).2
          have hob : 4 * o8 ≤ p8 + 1 := hg8 rfl
          refine z_iload_n C 2 dX6_run_76 rfl rfl ?_
          refine z_aload_n C 0 dX6_run_77 rfl rfl ?_
          refine z_get C fX6_run_172 0 dX6_run_78 rfl rfl ?_
          refine z_ncmp_ge C 101 dX6_run_81 (by decide) (by omega) (by omega) (fun h_4 => ?_) (fun h_4 => ?_)
          · have hmo : m = o8 := by omega
            have hN : mCn s (nI au) f8 o8 = m := by have q1 := zix_no (p := mCe s (nI au) f8) (n := o8) (fun j hj => hne j (by omega)); have q2 := zix_le (mCe s (nI au) f8) o8; unfold mCn; omega
            have hT : mCs s (nI au) f8 o8 = s' := by rw [mCs, hN, if_neg (by omega), hs', hmo]
            refine z_aload_n C 0 dX6_run_101 rfl rfl ?_
            refine z_iload_n C 2 dX6_run_102 rfl rfl ?_
            refine z_callV (wn := [((a 0), .inr (6, [.ref (a 1), .ref (a 2), .ref (a 3), .int (nI (mHk (nI m) kp)), .int (nI ty), .ref (a 4), .int (nI p8), .int (zb true), .int (nI o8), .ref (a 5)])), ((a 1), .inl (X.2.1.2.2.1, 512, .inl (zMr s'))), ((a 2), .inl (X.2.1.2.2.1, 512, .inl (zMr s))), ((a 3), .inl (X.2.1.2.2.1, 2048, .inl (zHi (mHq (nI m) Q kp s)))), ((a 4), .inl (X.2.1.2.2.2.1, 60, .inl (fun j9 => nI (tx j9)))), ((a 5), .inl (X.2.1.2.2.1, 120, .inl f8))]) C kX6_done gX6_run_X6_done (mX6_done X.2.1 a kp ty p8 true o8 s Q (nI m) hk4) dX6_run_103 [0, 2, 3] [] 0 rfl rfl nd_0_2_3 rfl rfl rfl (by decide) (by decide) (Nat.le_of_ble_eq_true rfl) rfl rfl ?_
            exact z_iret C N dX6_run_106 (by rw [hN, hT] <;> rfl) (by rw [hN])
          · refine z_aload_n C 0 dX6_run_84 rfl rfl ?_
            refine z_iload_n C 1 dX6_run_85 rfl rfl ?_
            refine z_iconst C (nI 4) dX6_run_86 (by decide) ?_
            refine z_iload_n C 2 dX6_run_87 rfl rfl ?_
            refine z_imul C dX6_run_88 ?_
            refine z_top (y := nI (4 * m)) (pk_mul _ _) ?_
            refine z_callV (wn := [((a 0), .inr (6, [.ref (a 1), .ref (a 2), .ref (a 3), .int (nI kp), .int (nI ty), .ref (a 4), .int (nI p8), .int (zb true), .int (nI o8), .ref (a 5)])), ((a 1), .inl (X.2.1.2.2.1, 512, .inl (zMr ((mOb s' (nI au) f8 m).2)))), ((a 2), .inl (X.2.1.2.2.1, 512, .inl (zMr s))), ((a 3), .inl (X.2.1.2.2.1, 2048, .inl (zHi Q))), ((a 4), .inl (X.2.1.2.2.2.1, 60, .inl (fun j9 => nI (tx j9)))), ((a 5), .inl (X.2.1.2.2.1, 120, .inl f8))]) C kX6_carryOut gX6_run_X6_carryOut (mX6_carryOut X.2.1 a kp ty p8 true o8 s' f8 au m hO9 hW9 (by first | assumption | omega) (hkd m (by omega))) dX6_run_89 [0, 1, 5] [] 0 rfl rfl nd_0_1_5 rfl rfl rfl (by decide) (by decide) (Nat.le_of_ble_eq_true rfl) rfl rfl ?_
            refine z_if_lt C 101 dX6_run_92 (by decide) (fun h_5 => ?_) (fun h_5 => ?_)
            · have hN : mCn s (nI au) f8 o8 = m := zix_at (by subst hs'; exact decide_eq_true h_5) hne (by omega)
              have hT : mCs s (nI au) f8 o8 = (mOb s' (nI au) f8 m).2 := by rw [mCs, hN, if_pos (by omega), mCO, hs']
              refine z_aload_n C 0 dX6_run_101 rfl rfl ?_
              refine z_iload_n C 2 dX6_run_102 rfl rfl ?_
              refine z_callV (wn := [((a 0), .inr (6, [.ref (a 1), .ref (a 2), .ref (a 3), .int (nI (mHk (nI m) kp)), .int (nI ty), .ref (a 4), .int (nI p8), .int (zb true), .int (nI o8), .ref (a 5)])), ((a 1), .inl (X.2.1.2.2.1, 512, .inl (zMr ((mOb s' (nI au) f8 m).2)))), ((a 2), .inl (X.2.1.2.2.1, 512, .inl (zMr s))), ((a 3), .inl (X.2.1.2.2.1, 2048, .inl (zHi (mHq (nI m) Q kp s)))), ((a 4), .inl (X.2.1.2.2.2.1, 60, .inl (fun j9 => nI (tx j9)))), ((a 5), .inl (X.2.1.2.2.1, 120, .inl f8))]) C kX6_done gX6_run_X6_done (mX6_done X.2.1 a kp ty p8 true o8 s Q (nI m) hk4) dX6_run_103 [0, 2, 3] [] 0 rfl rfl nd_0_2_3 rfl rfl rfl (by decide) (by decide) (Nat.le_of_ble_eq_true rfl) rfl rfl ?_
              exact z_iret C N dX6_run_106 (by rw [hN, hT] <;> rfl) (by rw [hN])
            · refine z_iinc C (nI (m + 1)) dX6_run_95 rfl (zi_1 _) ?_
              refine z_goto C 76 dX6_run_98 (by decide) ?_
              exact ih76 (o8 - (m + 1)) (by omega) (m + 1) ((mOb s' (nI au) f8 m).2) rfl (by omega) (by subst hs'; rfl) (lt_s hne (by subst hs'; exact decide_eq_false h_5))
        exact hL76 _ 0 s rfl (by omega) (rfl) (fun j h => absurd h (Nat.not_lt_zero j))
    · have hgf : g8 = false := by simpa using hgt
      subst hgf
      have hE := ((mRL_n (d := d8) (od := o8) (oo := f8) (fun q : false = true ∧ zHe tx ty p8 = 32 => absurd q.1 (by decide))).symm.trans hR).trans hr
      simp only [Prod.mk.injEq] at hE
      exact absurd hE.2.1 (by decide)
  exact hL28 _ ((mRO tx ty 0 0 oo).1) ((mRO tx ty 0 0 oo).2.1) (0 + 1) ((mRO tx ty 0 0 oo).2.2) 60 rfl (mRO_le (Nat.zero_le _)) (fun q => by have := mRO_gt q; omega) (by omega) (rfl) (mRO_kd (fun k h => absurd h (Nat.not_lt_zero k)))
