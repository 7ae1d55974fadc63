set_option maxHeartbeats 400000 in
set_option maxRecDepth 100000 in
theorem mX6_readOrder (E : zE) (a : Nat → Nat) (kp ty pl : Nat) (od : Nat) (tx : Nat → Nat) (oo : Nat → Int32) (hty : ty ≤ 60) (htx : ∀ j, tx j < 65536) (hpl : pl ≤ ty) (hod : od < 28) : zM E yX6_readOrder wsX6_readOrder 2 [.ref (a 0)] [((a 0), .inr (6, [.ref (a 1), .ref (a 2), .ref (a 3), .int (nI kp), .int (nI ty), .ref (a 4), .int (nI pl), .int (zb true), .int (nI od), .ref (a 5)])), ((a 4), .inl (E.2.2.2.1, 60, .inl (fun j9 => nI (tx j9)))), ((a 5), .inl (E.2.2.1, 120, .inl oo))] [((a 0), .inr (6, [.ref (a 1), .ref (a 2), .ref (a 3), .int (nI kp), .int (nI ty), .ref (a 4), .int (nI ((mRO tx ty pl od oo).1)), .int (zb ((mRO tx ty pl od oo).2.1)), .int (nI (od + 1)), .ref (a 5)])), ((a 4), .inl (E.2.2.2.1, 60, .inl (fun j9 => nI (tx j9)))), ((a 5), .inl (E.2.2.1, 120, .inl ((mRO tx ty pl od oo).2.2)))] none := by
  by_cases h43 : zHe tx ty pl = 43
  · have h0 : zHe tx ty pl = 43 ∨ zHe tx ty pl = 45 := Or.inl h43
    by_cases h1 : zHe tx ty (pl + 1) = 114
    · rw [show (mRO tx ty pl od oo) = ((zRn tx ty 2 ((pl + 1) + 1)).2, zDg (zHe tx ty ((pl + 1) + 1)), upd (upd oo (4 * od) (nI 0)) ((4 * od) + 1) (mNv tx ty 2 ((pl + 1) + 1))) by unfold mRO; rw [if_pos h0, if_pos h1, if_pos h43]; rfl]
      exact mX6_readOrder_rp E a kp ty pl od tx oo hty htx hpl hod h43 h1
    · by_cases h2 : zHe tx ty (pl + 1) = 99
      · rw [show (mRO tx ty pl od oo) = ((zRn tx ty 2 ((pl + 1) + 1)).2, zDg (zHe tx ty ((pl + 1) + 1)), upd (upd oo (4 * od) (nI 1)) ((4 * od) + 1) (mNv tx ty 2 ((pl + 1) + 1))) by unfold mRO; rw [if_pos h0, if_neg h1, if_pos h2, if_pos h43]; rfl]
        exact mX6_readOrder_cp E a kp ty pl od tx oo hty htx hpl hod h43 h2
      · rw [show (mRO tx ty pl od oo) = (pl + 1, false, upd (upd oo (4 * od) (nI 1)) ((4 * od) + 1) (nI 0)) by unfold mRO; rw [if_pos h0, if_neg h1, if_neg h2, if_pos h43]; rfl]
        exact mX6_readOrder_np E a kp ty pl od tx oo hty htx hpl hod h43 h1 h2
  · by_cases h45 : zHe tx ty pl = 45
    · have h0 : zHe tx ty pl = 43 ∨ zHe tx ty pl = 45 := Or.inr h45
      by_cases h1 : zHe tx ty (pl + 1) = 114
      · rw [show (mRO tx ty pl od oo) = ((zRn tx ty 2 ((pl + 1) + 1)).2, zDg (zHe tx ty ((pl + 1) + 1)), upd (upd oo (4 * od) (nI 2)) ((4 * od) + 1) (mNv tx ty 2 ((pl + 1) + 1))) by unfold mRO; rw [if_pos h0, if_pos h1, if_neg h43]; rfl]
        exact mX6_readOrder_rm E a kp ty pl od tx oo hty htx hpl hod h45 h1
      · by_cases h2 : zHe tx ty (pl + 1) = 99
        · rw [show (mRO tx ty pl od oo) = ((zRn tx ty 2 ((pl + 1) + 1)).2, zDg (zHe tx ty ((pl + 1) + 1)), upd (upd oo (4 * od) (nI 3)) ((4 * od) + 1) (mNv tx ty 2 ((pl + 1) + 1))) by unfold mRO; rw [if_pos h0, if_neg h1, if_pos h2, if_neg h43]; rfl]
          exact mX6_readOrder_cm E a kp ty pl od tx oo hty htx hpl hod h45 h2
        · rw [show (mRO tx ty pl od oo) = (pl + 1, false, upd (upd oo (4 * od) (nI 3)) ((4 * od) + 1) (nI 0)) by unfold mRO; rw [if_pos h0, if_neg h1, if_neg h2, if_neg h43]; rfl]
          exact mX6_readOrder_nm E a kp ty pl od tx oo hty htx hpl hod h45 h1 h2
    · have h0 : ¬ (zHe tx ty pl = 43 ∨ zHe tx ty pl = 45) := fun z => z.elim h43 h45
      by_cases d1 : zDg (zHe tx ty pl) = false
      · rw [show (mRO tx ty pl od oo) = ((zRn tx ty 2 pl).2, false, upd (upd (upd (upd oo (4 * od) (nI 4)) ((4 * od) + 1) (mNv tx ty 2 pl)) ((4 * od) + 2) (nI 0)) ((4 * od) + 3) (nI 0)) by unfold mRO; rw [if_neg h0, if_pos d1]; rfl]
        exact mX6_readOrder_s0b E a kp ty pl od tx oo hty htx hpl hod h43 h45 d1
      · have d1' : zDg (zHe tx ty pl) = true := by simpa using d1
        by_cases h2 : zHe tx ty ((zRn tx ty 2 pl).2) = 46
        · by_cases d2 : zDg (zHe tx ty ((zRn tx ty 2 pl).2 + 1)) = false
          · rw [show (mRO tx ty pl od oo) = ((zRn tx ty 2 (((zRn tx ty 2 pl).2) + 1)).2, false, upd (upd (upd (upd oo (4 * od) (nI 4)) ((4 * od) + 1) (mNv tx ty 2 pl)) ((4 * od) + 2) (mNv tx ty 2 (((zRn tx ty 2 pl).2) + 1))) ((4 * od) + 3) (nI 0)) by unfold mRO; rw [if_neg h0, if_neg d1, if_pos h2, if_pos d2]; rfl]
            exact mX6_readOrder_s1c E a kp ty pl od tx oo hty htx hpl hod h43 h45 d1' h2 d2
          · have d2' : zDg (zHe tx ty ((zRn tx ty 2 pl).2 + 1)) = true := by simpa using d2
            by_cases h4 : zHe tx ty ((zRn tx ty 2 ((zRn tx ty 2 pl).2 + 1)).2) = 61
            · rw [show (mRO tx ty pl od oo) = ((zRn tx ty 4 (((zRn tx ty 2 (((zRn tx ty 2 pl).2) + 1)).2) + 1)).2, zDg (zHe tx ty (((zRn tx ty 2 (((zRn tx ty 2 pl).2) + 1)).2) + 1)), upd (upd (upd (upd oo (4 * od) (nI 4)) ((4 * od) + 1) (mNv tx ty 2 pl)) ((4 * od) + 2) (mNv tx ty 2 (((zRn tx ty 2 pl).2) + 1))) ((4 * od) + 3) (mNv tx ty 4 (((zRn tx ty 2 (((zRn tx ty 2 pl).2) + 1)).2) + 1))) by unfold mRO; rw [if_neg h0, if_neg d1, if_pos h2, if_neg d2, if_pos h4]; rfl]
              exact mX6_readOrder_s1a E a kp ty pl od tx oo hty htx hpl hod h43 h45 d1' h2 d2' h4
            · rw [show (mRO tx ty pl od oo) = ((zRn tx ty 2 (((zRn tx ty 2 pl).2) + 1)).2, false, upd (upd (upd (upd oo (4 * od) (nI 4)) ((4 * od) + 1) (mNv tx ty 2 pl)) ((4 * od) + 2) (mNv tx ty 2 (((zRn tx ty 2 pl).2) + 1))) ((4 * od) + 3) (nI 0)) by unfold mRO; rw [if_neg h0, if_neg d1, if_pos h2, if_neg d2, if_neg h4]; rfl]
              exact mX6_readOrder_s1b E a kp ty pl od tx oo hty htx hpl hod h43 h45 d1' h2 d2' h4
        · rw [show (mRO tx ty pl od oo) = ((zRn tx ty 2 pl).2, false, upd (upd (upd (upd oo (4 * od) (nI 4)) ((4 * od) + 1) (mNv tx ty 2 pl)) ((4 * od) + 2) (nI 0)) ((4 * od) + 3) (nI 0)) by unfold mRO; rw [if_neg h0, if_neg d1, if_neg h2]; rfl]
          exact mX6_readOrder_s0a E a kp ty pl od tx oo hty htx hpl hod h43 h45 d1' h2

theorem kX6_carryOut : zY yX6_carryOut wsX6_carryOut cX6_carryOut 4 (some .int) 2 := ⟨⟨_, rfl⟩, ⟨by decide +kernel, by decide +kernel, by decide +kernel⟩, by decide +kernel⟩
theorem fX6_carryOut_23 : zF wsX6_carryOut RX6 23 6 9 RX6 TX6 10 := ⟨by decide +kernel, rfl, by decide, by decide +kernel, rfl⟩
set_option maxHeartbeats 400000 in
set_option maxRecDepth 100000 in
theorem mX6_carryOut_0 (E : zE) (a : Nat → Nat) (kp ty pl : Nat) (gd : Bool) (od : Nat) (s : zMs) (oo : Nat → Int32) (au k : Nat) (hO : okM (nU s) (nS s) (nM s) (nK s)) (hW : nmM (nU s) (nS s) (nN s)) (hk : k < 28) (hw : oo (4 * k) = nI 0) : zM E yX6_carryOut wsX6_carryOut 6 [.ref (a 0), .int (nI au), .int (nI (4 * k))] [((a 0), .inr (6, [.ref (a 1), .ref (a 2), .ref (a 3), .int (nI kp), .int (nI ty), .ref (a 4), .int (nI pl), .int (zb gd), .int (nI od), .ref (a 5)])), ((a 1), .inl (E.2.2.1, 512, .inl (zMr s))), ((a 5), .inl (E.2.2.1, 120, .inl oo))] [((a 0), .inr (6, [.ref (a 1), .ref (a 2), .ref (a 3), .int (nI kp), .int (nI ty), .ref (a 4), .int (nI pl), .int (zb gd), .int (nI od), .ref (a 5)])), ((a 1), .inl (E.2.2.1, 512, .inl (zMr ((mIns s (nI au) (nI 0) (oo (4 * k + 1))).2)))), ((a 5), .inl (E.2.2.1, 120, .inl oo))] (some (.int ((mIns s (nI au) (nI 0) (oo (4 * k + 1))).1))) := by
  refine zM.of kX6_carryOut (Nat.le_of_ble_eq_true rfl) rfl [some (.ref (a 0)), some (.int (nI au)), some (.int (nI (4 * k))), none] rfl (Nat.le_of_ble_eq_true rfl) ?_
  intro X eX C N
  subst eX
  refine z_aload_n C 0 dX6_carryOut_0 rfl rfl ?_
  refine z_get C fX6_carryOut_23 0 dX6_carryOut_1 rfl rfl ?_
  refine z_iload_n C 2 dX6_carryOut_4 rfl rfl ?_
  refine z_ialdN C 2 dX6_carryOut_5 rfl (by omega) (by decide) ?_
  refine z_top (y := nI 0) (hw) ?_
  refine z_istore_n C 3 dX6_carryOut_6 rfl (Nat.le_of_ble_eq_true rfl) ?_
  refine z_iload_n C 3 dX6_carryOut_7 rfl rfl ?_
  refine z_iconst C (nI 4) dX6_carryOut_8 (by decide) ?_
  refine z_ncmp_ne_t C 42 dX6_carryOut_9 (by decide) (by omega) (by omega) (by omega) ?_
  refine z_iload_n C 3 dX6_carryOut_42 rfl rfl ?_
  refine z_iconst C (nI 2) dX6_carryOut_43 (by decide) ?_
  refine z_ncmp_ge_f C 64 dX6_carryOut_44 (by decide) (by omega) (by omega) (by omega) ?_
  refine z_aload_n C 0 dX6_carryOut_47 rfl rfl ?_
  refine z_iload_n C 1 dX6_carryOut_48 rfl rfl ?_
  refine z_iload_n C 3 dX6_carryOut_49 rfl rfl ?_
  refine z_aload_n C 0 dX6_carryOut_50 rfl rfl ?_
  refine z_get C fX6_carryOut_23 0 dX6_carryOut_51 rfl rfl ?_
  refine z_iload_n C 2 dX6_carryOut_54 rfl rfl ?_
  refine z_iconst C (nI 1) dX6_carryOut_55 (by decide) ?_
  refine z_iadd C dX6_carryOut_56 ?_
  refine z_top (y := nI ((4 * k) + 1)) (nI_add _ _) ?_
  refine z_ialdN C 2 dX6_carryOut_57 rfl (by omega) (by decide) ?_
  refine z_callV (wn := [((a 0), .inr (6, [.ref (a 1), .ref (a 2), .ref (a 3), .int (nI kp), .int (nI ty), .ref (a 4), .int (nI pl), .int (zb gd), .int (nI od), .ref (a 5)])), ((a 1), .inl (X.2.1.2.2.1, 512, .inl (zMr ((mIns s (nI au) (nI 0) (oo ((4 * k) + 1))).2)))), ((a 5), .inl (X.2.1.2.2.1, 120, .inl oo))]) C kX6_doInsert gX6_carryOut_X6_doInsert (mX6_doInsert X.2.1 a kp ty pl gd od s (nI au) (nI 0) (oo ((4 * k) + 1)) hO) dX6_carryOut_58 [0, 1] [] 0 rfl rfl nd_0_1 rfl rfl rfl (by decide) (by decide) (Nat.le_of_ble_eq_true rfl) rfl rfl ?_
  refine z_goto C 80 dX6_carryOut_61 (by decide) ?_
  exact z_iret C N dX6_carryOut_80 (rfl) (rfl)

set_option maxHeartbeats 400000 in
set_option maxRecDepth 100000 in
theorem mX6_carryOut_1 (E : zE) (a : Nat → Nat) (kp ty pl : Nat) (gd : Bool) (od : Nat) (s : zMs) (oo : Nat → Int32) (au k : Nat) (hO : okM (nU s) (nS s) (nM s) (nK s)) (hW : nmM (nU s) (nS s) (nN s)) (hk : k < 28) (hw : oo (4 * k) = nI 1) : zM E yX6_carryOut wsX6_carryOut 6 [.ref (a 0), .int (nI au), .int (nI (4 * k))] [((a 0), .inr (6, [.ref (a 1), .ref (a 2), .ref (a 3), .int (nI kp), .int (nI ty), .ref (a 4), .int (nI pl), .int (zb gd), .int (nI od), .ref (a 5)])), ((a 1), .inl (E.2.2.1, 512, .inl (zMr s))), ((a 5), .inl (E.2.2.1, 120, .inl oo))] [((a 0), .inr (6, [.ref (a 1), .ref (a 2), .ref (a 3), .int (nI kp), .int (nI ty), .ref (a 4), .int (nI pl), .int (zb gd), .int (nI od), .ref (a 5)])), ((a 1), .inl (E.2.2.1, 512, .inl (zMr ((mIns s (nI au) (nI 1) (oo (4 * k + 1))).2)))), ((a 5), .inl (E.2.2.1, 120, .inl oo))] (some (.int ((mIns s (nI au) (nI 1) (oo (4 * k + 1))).1))) := by
  refine zM.of kX6_carryOut (Nat.le_of_ble_eq_true rfl) rfl [some (.ref (a 0)), some (.int (nI au)), some (.int (nI (4 * k))), none] rfl (Nat.le_of_ble_eq_true rfl) ?_
  intro X eX C N
  subst eX
  refine z_aload_n C 0 dX6_carryOut_0 rfl rfl ?_
  refine z_get C fX6_carryOut_23 0 dX6_carryOut_1 rfl rfl ?_
  refine z_iload_n C 2 dX6_carryOut_4 rfl rfl ?_
  refine z_ialdN C 2 dX6_carryOut_5 rfl (by omega) (by decide) ?_
  refine z_top (y := nI 1) (hw) ?_
  refine z_istore_n C 3 dX6_carryOut_6 rfl (Nat.le_of_ble_eq_true rfl) ?_
  refine z_iload_n C 3 dX6_carryOut_7 rfl rfl ?_
  refine z_iconst C (nI 4) dX6_carryOut_8 (by decide) ?_
  refine z_ncmp_ne_t C 42 dX6_carryOut_9 (by decide) (by omega) (by omega) (by omega) ?_
  refine z_iload_n C 3 dX6_carryOut_42 rfl rfl ?_
  refine z_iconst C (nI 2) dX6_carryOut_43 (by decide) ?_
  refine z_ncmp_ge_f C 64 dX6_carryOut_44 (by decide) (by omega) (by omega) (by omega) ?_
  refine z_aload_n C 0 dX6_carryOut_47 rfl rfl ?_
  refine z_iload_n C 1 dX6_carryOut_48 rfl rfl ?_
  refine z_iload_n C 3 dX6_carryOut_49 rfl rfl ?_
  refine z_aload_n C 0 dX6_carryOut_50 rfl rfl ?_
  refine z_get C fX6_carryOut_23 0 dX6_carryOut_51 rfl rfl ?_
  refine z_iload_n C 2 dX6_carryOut_54 rfl rfl ?_
  refine z_iconst C (nI 1) dX6_carryOut_55 (by decide) ?_
  refine z_iadd C dX6_carryOut_56 ?_
  refine z_top (y := nI ((4 * k) + 1)) (nI_add _ _) ?_
  refine z_ialdN C 2 dX6_carryOut_57 rfl (by omega) (by decide) ?_
  refine z_callV (wn := [((a 0), .inr (6, [.ref (a 1), .ref (a 2), .ref (a 3), .int (nI kp), .int (nI ty), .ref (a 4), .int (nI pl), .int (zb gd), .int (nI od), .ref (a 5)])), ((a 1), .inl (X.2.1.2.2.1, 512, .inl (zMr ((mIns s (nI au) (nI 1) (oo ((4 * k) + 1))).2)))), ((a 5), .inl (X.2.1.2.2.1, 120, .inl oo))]) C kX6_doInsert gX6_carryOut_X6_doInsert (mX6_doInsert X.2.1 a kp ty pl gd od s (nI au) (nI 1) (oo ((4 * k) + 1)) hO) dX6_carryOut_58 [0, 1] [] 0 rfl rfl nd_0_1 rfl rfl rfl (by decide) (by decide) (Nat.le_of_ble_eq_true rfl) rfl rfl ?_
  refine z_goto C 80 dX6_carryOut_61 (by decide) ?_
  exact z_iret C N dX6_carryOut_80 (rfl) (rfl)

set_option maxHeartbeats 400000 in
set_option maxRecDepth 100000 in
theorem mX6_carryOut_2 (E : zE) (a : Nat → Nat) (kp ty pl : Nat) (gd : Bool) (od : Nat) (s : zMs) (oo : Nat → Int32) (au k : Nat) (hO : okM (nU s) (nS s) (nM s) (nK s)) (hW : nmM (nU s) (nS s) (nN s)) (hk : k < 28) (hw : oo (4 * k) = nI 2) : zM E yX6_carryOut wsX6_carryOut 6 [.ref (a 0), .int (nI au), .int (nI (4 * k))] [((a 0), .inr (6, [.ref (a 1), .ref (a 2), .ref (a 3), .int (nI kp), .int (nI ty), .ref (a 4), .int (nI pl), .int (zb gd), .int (nI od), .ref (a 5)])), ((a 1), .inl (E.2.2.1, 512, .inl (zMr s))), ((a 5), .inl (E.2.2.1, 120, .inl oo))] [((a 0), .inr (6, [.ref (a 1), .ref (a 2), .ref (a 3), .int (nI kp), .int (nI ty), .ref (a 4), .int (nI pl), .int (zb gd), .int (nI od), .ref (a 5)])), ((a 1), .inl (E.2.2.1, 512, .inl (zMr ((mRem s (nI au) (nI 0) (oo (4 * k + 1))).2)))), ((a 5), .inl (E.2.2.1, 120, .inl oo))] (some (.int ((mRem s (nI au) (nI 0) (oo (4 * k + 1))).1))) := by
  refine zM.of kX6_carryOut (Nat.le_of_ble_eq_true rfl) rfl [some (.ref (a 0)), some (.int (nI au)), some (.int (nI (4 * k))), none] rfl (Nat.le_of_ble_eq_true rfl) ?_
  intro X eX C N
  subst eX
  refine z_aload_n C 0 dX6_carryOut_0 rfl rfl ?_
  refine z_get C fX6_carryOut_23 0 dX6_carryOut_1 rfl rfl ?_
  refine z_iload_n C 2 dX6_carryOut_4 rfl rfl ?_
  refine z_ialdN C 2 dX6_carryOut_5 rfl (by omega) (by decide) ?_
  refine z_top (y := nI 2) (hw) ?_
  refine z_istore_n C 3 dX6_carryOut_6 rfl (Nat.le_of_ble_eq_true rfl) ?_
  refine z_iload_n C 3 dX6_carryOut_7 rfl rfl ?_
  refine z_iconst C (nI 4) dX6_carryOut_8 (by decide) ?_
  refine z_ncmp_ne_t C 42 dX6_carryOut_9 (by decide) (by omega) (by omega) (by omega) ?_
  refine z_iload_n C 3 dX6_carryOut_42 rfl rfl ?_
  refine z_iconst C (nI 2) dX6_carryOut_43 (by decide) ?_
  refine z_ncmp_ge_t C 64 dX6_carryOut_44 (by decide) (by omega) (by omega) (by omega) ?_
  refine z_aload_n C 0 dX6_carryOut_64 rfl rfl ?_
  refine z_iload_n C 1 dX6_carryOut_65 rfl rfl ?_
  refine z_iload_n C 3 dX6_carryOut_66 rfl rfl ?_
  refine z_iconst C (nI 2) dX6_carryOut_67 (by decide) ?_
  refine z_isub C dX6_carryOut_68 ?_
  refine z_top (y := nI 0) ((pk_sub (by omega)).trans (congrArg nI (by omega))) ?_
  refine z_aload_n C 0 dX6_carryOut_69 rfl rfl ?_
  refine z_get C fX6_carryOut_23 0 dX6_carryOut_70 rfl rfl ?_
  refine z_iload_n C 2 dX6_carryOut_73 rfl rfl ?_
  refine z_iconst C (nI 1) dX6_carryOut_74 (by decide) ?_
  refine z_iadd C dX6_carryOut_75 ?_
  refine z_top (y := nI ((4 * k) + 1)) (nI_add _ _) ?_
  refine z_ialdN C 2 dX6_carryOut_76 rfl (by omega) (by decide) ?_
  refine z_callV (wn := [((a 0), .inr (6, [.ref (a 1), .ref (a 2), .ref (a 3), .int (nI kp), .int (nI ty), .ref (a 4), .int (nI pl), .int (zb gd), .int (nI od), .ref (a 5)])), ((a 1), .inl (X.2.1.2.2.1, 512, .inl (zMr ((mRem s (nI au) (nI 0) (oo ((4 * k) + 1))).2)))), ((a 5), .inl (X.2.1.2.2.1, 120, .inl oo))]) C kX6_doRemove gX6_carryOut_X6_doRemove (mX6_doRemove X.2.1 a kp ty pl gd od s (nI au) (nI 0) (oo ((4 * k) + 1)) hO) dX6_carryOut_77 [0, 1] [] 0 rfl rfl nd_0_1 rfl rfl rfl (by decide) (by decide) (Nat.le_of_ble_eq_true rfl) rfl rfl ?_
  exact z_iret C N dX6_carryOut_80 (rfl) (rfl)

set_option maxHeartbeats 400000 in
set_option maxRecDepth 100000 in
theorem mX6_carryOut_3 (E : zE) (a : Nat → Nat) (kp ty pl : Nat) (gd : Bool) (od : Nat) (s : zMs) (oo : Nat → Int32) (au k : Nat) (hO : okM (nU s) (nS s) (nM s) (nK s)) (hW : nmM (nU s) (nS s) (nN s)) (hk : k < 28) (hw : oo (4 * k) = nI 3) : zM E yX6_carryOut wsX6_carryOut 6 [.ref (a 0), .int (nI au), .int (nI (4 * k))] [((a 0), .inr (6, [.ref (a 1), .ref (a 2), .ref (a 3), .int (nI kp), .int (nI ty), .ref (a 4), .int (nI pl), .int (zb gd), .int (nI od), .ref (a 5)])), ((a 1), .inl (E.2.2.1, 512, .inl (zMr s))), ((a 5), .inl (E.2.2.1, 120, .inl oo))] [((a 0), .inr (6, [.ref (a 1), .ref (a 2), .ref (a 3), .int (nI kp), .int (nI ty), .ref (a 4), .int (nI pl), .int (zb gd), .int (nI od), .ref (a 5)])), ((a 1), .inl (E.2.2.1, 512, .inl (zMr ((mRem s (nI au) (nI 1) (oo (4 * k + 1))).2)))), ((a 5), .inl (E.2.2.1, 120, .inl oo))] (some (.int ((mRem s (nI au) (nI 1) (oo (4 * k + 1))).1))) := by
  refine zM.of kX6_carryOut (Nat.le_of_ble_eq_true rfl) rfl [some (.ref (a 0)), some (.int (nI au)), some (.int (nI (4 * k))), none] rfl (Nat.le_of_ble_eq_true rfl) ?_
  intro X eX C N
  subst eX
  refine z_aload_n C 0 dX6_carryOut_0 rfl rfl ?_
  refine z_get C fX6_carryOut_23 0 dX6_carryOut_1 rfl rfl ?_
  refine z_iload_n C 2 dX6_carryOut_4 rfl rfl ?_
  refine z_ialdN C 2 dX6_carryOut_5 rfl (by omega) (by decide) ?_
  refine z_top (y := nI 3) (hw) ?_
  refine z_istore_n C 3 dX6_carryOut_6 rfl (Nat.le_of_ble_eq_true rfl) ?_
  refine z_iload_n C 3 dX6_carryOut_7 rfl rfl ?_
  refine z_iconst C (nI 4) dX6_carryOut_8 (by decide) ?_
  refine z_ncmp_ne_t C 42 dX6_carryOut_9 (by decide) (by omega) (by omega) (by omega) ?_
  refine z_iload_n C 3 dX6_carryOut_42 rfl rfl ?_
  refine z_iconst C (nI 2) dX6_carryOut_43 (by decide) ?_
  refine z_ncmp_ge_t C 64 dX6_carryOut_44 (by decide) (by omega) (by omega) (by omega) ?_
  refine z_aload_n C 0 dX6_carryOut_64 rfl rfl ?_
  refine z_iload_n C 1 dX6_carryOut_65 rfl rfl ?_
  refine z_iload_n C 3 dX6_carryOut_66 rfl rfl ?_
  refine z_iconst C (nI 2) dX6_carryOut_67 (by decide) ?_
  refine z_isub C dX6_carryOut_68 ?_
  refine z_top (y := nI 1) ((pk_sub (by omega)).trans (congrArg nI (by omega))) ?_
  refine z_aload_n C 0 dX6_carryOut_69 rfl rfl ?_
  refine z_get C fX6_carryOut_23 0 dX6_carryOut_70 rfl rfl ?_
  refine z_iload_n C 2 dX6_carryOut_73 rfl rfl ?_
  refine z_iconst C (nI 1) dX6_carryOut_74 (by decide) ?_
  refine z_iadd C dX6_carryOut_75 ?_
  refine z_top (y := nI ((4 * k) + 1)) (nI_add _ _) ?_
  refine z_ialdN C 2 dX6_carryOut_76 rfl (by omega) (by decide) ?_
  refine z_callV (wn := [((a 0), .inr (6, [.ref (a 1), .ref (a 2), .ref (a 3), .int (nI kp), .int (nI ty), .ref (a 4), .int (nI pl), .int (zb gd), .int (nI od), .ref (a 5)])), ((a 1), .inl (X.2.1.2.2.1, 512, .inl (zMr ((mRem s (nI au) (nI 1) (oo ((4 * k) + 1))).2)))), ((a 5), .inl (X.2.1.2.2.1, 120, .inl oo))]) C kX6_doRemove gX6_carryOut_X6_doRemove (mX6_doRemove X.2.1 a kp ty pl gd od s (nI au) (nI 1) (oo ((4 * k) + 1)) hO) dX6_carryOut_77 [0, 1] [] 0 rfl rfl nd_0_1 rfl rfl rfl (by decide) (by decide) (Nat.le_of_ble_eq_true rfl) rfl rfl ?_
  exact z_iret C N dX6_carryOut_80 (rfl) (rfl)

set_option maxHeartbeats 400000 in
set_option maxRecDepth 100000 in
theorem mX6_carryOut_4 (E : zE) (a : Nat → Nat) (kp ty pl : Nat) (gd : Bool) (od : Nat) (s : zMs) (oo : Nat → Int32) (au k : Nat) (hO : okM (nU s) (nS s) (nM s) (nK s)) (hW : nmM (nU s) (nS s) (nN s)) (hk : k < 28) (hw : oo (4 * k) = nI 4) : zM E yX6_carryOut wsX6_carryOut 6 [.ref (a 0), .int (nI au), .int (nI (4 * k))] [((a 0), .inr (6, [.ref (a 1), .ref (a 2), .ref (a 3), .int (nI kp), .int (nI ty), .ref (a 4), .int (nI pl), .int (zb gd), .int (nI od), .ref (a 5)])), ((a 1), .inl (E.2.2.1, 512, .inl (zMr s))), ((a 5), .inl (E.2.2.1, 120, .inl oo))] [((a 0), .inr (6, [.ref (a 1), .ref (a 2), .ref (a 3), .int (nI kp), .int (nI ty), .ref (a 4), .int (nI pl), .int (zb gd), .int (nI od), .ref (a 5)])), ((a 1), .inl (E.2.2.1, 512, .inl (zMr ((mSet s (nI au) (oo (4 * k + 1)) (oo (4 * k + 2)) (oo (4 * k + 3))).2)))), ((a 5), .inl (E.2.2.1, 120, .inl oo))] (some (.int ((mSet s (nI au) (oo (4 * k + 1)) (oo (4 * k + 2)) (oo (4 * k + 3))).1))) := by
  refine zM.of kX6_carryOut (Nat.le_of_ble_eq_true rfl) rfl [some (.ref (a 0)), some (.int (nI au)), some (.int (nI (4 * k))), none] rfl (Nat.le_of_ble_eq_true rfl) ?_
  intro X eX C N
  subst eX
  refine z_aload_n C 0 dX6_carryOut_0 rfl rfl ?_
  refine z_get C fX6_carryOut_23 0 dX6_carryOut_1 rfl rfl ?_
  refine z_iload_n C 2 dX6_carryOut_4 rfl rfl ?_
  refine z_ialdN C 2 dX6_carryOut_5 rfl (by omega) (by decide) ?_
  refine z_top (y := nI 4) (hw) ?_
  refine z_istore_n C 3 dX6_carryOut_6 rfl (Nat.le_of_ble_eq_true rfl) ?_
  refine z_iload_n C 3 dX6_carryOut_7 rfl rfl ?_
  refine z_iconst C (nI 4) dX6_carryOut_8 (by decide) ?_
  refine z_ncmp_ne_f C 42 dX6_carryOut_9 (by decide) (by omega) (by omega) (by omega) ?_
  refine z_aload_n C 0 dX6_carryOut_12 rfl rfl ?_
  refine z_iload_n C 1 dX6_carryOut_13 rfl rfl ?_
  refine z_aload_n C 0 dX6_carryOut_14 rfl rfl ?_
  refine z_get C fX6_carryOut_23 0 dX6_carryOut_15 rfl rfl ?_
  refine z_iload_n C 2 dX6_carryOut_18 rfl rfl ?_
  refine z_iconst C (nI 1) dX6_carryOut_19 (by decide) ?_
  refine z_iadd C dX6_carryOut_20 ?_
  refine z_top (y := nI ((4 * k) + 1)) (nI_add _ _) ?_
  refine z_ialdN C 2 dX6_carryOut_21 rfl (by omega) (by decide) ?_
  refine z_aload_n C 0 dX6_carryOut_22 rfl rfl ?_
  refine z_get C fX6_carryOut_23 0 dX6_carryOut_23 rfl rfl ?_
  refine z_iload_n C 2 dX6_carryOut_26 rfl rfl ?_
  refine z_iconst C (nI 2) dX6_carryOut_27 (by decide) ?_
  refine z_iadd C dX6_carryOut_28 ?_
  refine z_top (y := nI ((4 * k) + 2)) (nI_add _ _) ?_
  refine z_ialdN C 2 dX6_carryOut_29 rfl (by omega) (by decide) ?_
  refine z_aload_n C 0 dX6_carryOut_30 rfl rfl ?_
  refine z_get C fX6_carryOut_23 0 dX6_carryOut_31 rfl rfl ?_
  refine z_iload_n C 2 dX6_carryOut_34 rfl rfl ?_
  refine z_iconst C (nI 3) dX6_carryOut_35 (by decide) ?_
  refine z_iadd C dX6_carryOut_36 ?_
  refine z_top (y := nI ((4 * k) + 3)) (nI_add _ _) ?_
  refine z_ialdN C 2 dX6_carryOut_37 rfl (by omega) (by decide) ?_
  refine z_callV (wn := [((a 0), .inr (6, [.ref (a 1), .ref (a 2), .ref (a 3), .int (nI kp), .int (nI ty), .ref (a 4), .int (nI pl), .int (zb gd), .int (nI od), .ref (a 5)])), ((a 1), .inl (X.2.1.2.2.1, 512, .inl (zMr ((mSet s (nI au) (oo ((4 * k) + 1)) (oo ((4 * k) + 2)) (oo ((4 * k) + 3))).2)))), ((a 5), .inl (X.2.1.2.2.1, 120, .inl oo))]) C kX6_doSet gX6_carryOut_X6_doSet (mX6_doSet X.2.1 a kp ty pl gd od s (nI au) (oo ((4 * k) + 1)) (oo ((4 * k) + 2)) (oo ((4 * k) + 3)) hO hW) dX6_carryOut_38 [0, 1] [] 0 rfl rfl nd_0_1 rfl rfl rfl (by decide) (by decide) (Nat.le_of_ble_eq_true rfl) rfl rfl ?_
  exact z_iret C N dX6_carryOut_41 (rfl) (rfl)

set_option maxHeartbeats 400000 in
set_option maxRecDepth 100000 in
theorem mX6_carryOut (E : zE) (a : Nat → Nat) (kp ty pl : Nat) (gd : Bool) (od : Nat) (s : zMs) (oo : Nat → Int32) (au k : Nat) (hO : okM (nU s) (nS s) (nM s) (nK s)) (hW : nmM (nU s) (nS s) (nN s)) (hk : k < 28) (hw : oo (4 * k) = nI 0 ∨ oo (4 * k) = nI 1 ∨ oo (4 * k) = nI 2 ∨ oo (4 * k) = nI 3 ∨ oo (4 * k) = nI 4) : zM E yX6_carryOut wsX6_carryOut 6 [.ref (a 0), .int (nI au), .int (nI (4 * k))] [((a 0), .inr (6, [.ref (a 1), .ref (a 2), .ref (a 3), .int (nI kp), .int (nI ty), .ref (a 4), .int (nI pl), .int (zb gd), .int (nI od), .ref (a 5)])), ((a 1), .inl (E.2.2.1, 512, .inl (zMr s))), ((a 5), .inl (E.2.2.1, 120, .inl oo))] [((a 0), .inr (6, [.ref (a 1), .ref (a 2), .ref (a 3), .int (nI kp), .int (nI ty), .ref (a 4), .int (nI pl), .int (zb gd), .int (nI od), .ref (a 5)])), ((a 1), .inl (E.2.2.1, 512, .inl (zMr ((mOb s (nI au) oo k).2)))), ((a 5), .inl (E.2.2.1, 120, .inl oo))] (some (.int (mOb s (nI au) oo k).1)) := by
  rcases hw with h | h | h | h | h
  · rw [show mOb s (nI au) oo k = mIns s (nI au) (nI 0) (oo (4 * k + 1)) by simp [mOb, h, nI_eq]]
    exact mX6_carryOut_0 E a kp ty pl gd od s oo au k hO hW hk h
  · rw [show mOb s (nI au) oo k = mIns s (nI au) (nI 1) (oo (4 * k + 1)) by simp [mOb, h, nI_eq]]
    exact mX6_carryOut_1 E a kp ty pl gd od s oo au k hO hW hk h
  · rw [show mOb s (nI au) oo k = mRem s (nI au) (nI 0) (oo (4 * k + 1)) by simp [mOb, h, nI_eq]]
    exact mX6_carryOut_2 E a kp ty pl gd od s oo au k hO hW hk h
  · rw [show mOb s (nI au) oo k = mRem s (nI au) (nI 1) (oo (4 * k + 1)) by simp [mOb, h, nI_eq]]
    exact mX6_carryOut_3 E a kp ty pl gd od s oo au k hO hW hk h
  · rw [show mOb s (nI au) oo k = mSet s (nI au) (oo (4 * k + 1)) (oo (4 * k + 2)) (oo (4 * k + 3)) by simp [mOb, h, nI_eq]]
    exact mX6_carryOut_4 E a kp ty pl gd od s oo au k hO hW hk h
