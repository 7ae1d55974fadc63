theorem kX4_settleAll : zY yX4_settleAll wsX4_settleAll cX4_settleAll 6 (some .int) 2 := ⟨⟨_, rfl⟩, ⟨by decide +kernel, by decide +kernel, by decide +kernel⟩, by decide +kernel⟩
theorem fX4_settleAll_30 : zF wsX4_settleAll RX4 30 4 3 RX4 TX4 5 := ⟨by decide +kernel, rfl, by decide, by decide +kernel, rfl⟩
theorem fX4_settleAll_128 : zF wsX4_settleAll RX4 128 0 1 RX0 TX0 2 := ⟨by decide +kernel, rfl, by decide, by decide +kernel, rfl⟩
set_option maxHeartbeats 4000000 in
set_option maxRecDepth 100000 in
theorem mX4_settleAll (E : zE) (a : Nat → Nat) (S : zSt) (au : Int32) (bb : Bool) (hS : okS S) : zM E yX4_settleAll wsX4_settleAll 7 [.ref (a 0), .int au, .int (zb bb)] [((a 0), .inr (4, [.ref (a 1), .ref (a 3), .ref (a 5), .ref (a 6), .int (zb (tK S))])), ((a 1), .inr (2, [.ref (a 2), .int (nI (rU S))])), ((a 2), .inl (E.2.2.1, 12, .inl (rO S))), ((a 3), .inr (2, [.ref (a 4), .int (nI (cU S))])), ((a 4), .inl (E.2.2.1, 8, .inl (cO S))), ((a 5), .inl (E.2.2.1, 96, .inl (bS S))), ((a 6), .inr (0, [.ref (a 7), .int (nI (mK S))])), ((a 7), .inl (E.2.2.1, 360, .inl (fA S)))] [((a 0), .inr (4, [.ref (a 1), .ref (a 3), .ref (a 5), .ref (a 6), .int (zb (tK ((zSL S au bb (mK S)).1)))])), ((a 1), .inr (2, [.ref (a 2), .int (nI (rU ((zSL S au bb (mK S)).1)))])), ((a 2), .inl (E.2.2.1, 12, .inl (rO ((zSL S au bb (mK S)).1)))), ((a 3), .inr (2, [.ref (a 4), .int (nI (cU ((zSL S au bb (mK S)).1)))])), ((a 4), .inl (E.2.2.1, 8, .inl (cO ((zSL S au bb (mK S)).1)))), ((a 5), .inl (E.2.2.1, 96, .inl (bS ((zSL S au bb (mK S)).1)))), ((a 6), .inr (0, [.ref (a 7), .int (nI (mK ((zSL S au bb (mK S)).1)))])), ((a 7), .inl (E.2.2.1, 360, .inl (fA ((zSL S au bb (mK S)).1))))] (some (.int (nI ((zSL S au bb (mK S)).2)))) := by
  refine zM.of kX4_settleAll (Nat.le_of_ble_eq_true rfl) rfl [some (.ref (a 0)), some (.int au), some (.int (zb bb)), none, none, none] rfl (Nat.le_of_ble_eq_true rfl) ?_
  intro X eX C N
  subst eX
  obtain ⟨hur, huc, hM⟩ := id hS
  refine z_iconst C (nI 0) dX4_settleAll_0 (by decide) ?_
  refine z_istore_n C 3 dX4_settleAll_1 rfl (Nat.le_of_ble_eq_true rfl) ?_
  refine z_iconst C (nI 0) dX4_settleAll_2 (by decide) ?_
  refine z_istore C dX4_settleAll_3 (Nat.le_of_ble_eq_true rfl) ?_
  have hL5 : ∀ (dd : Nat) (k : Nat) (S' : zSt) (n9 : Nat), mK S - k = dd → (k ≤ mK S) → (S' = (zSL S au bb k).1) → (n9 = (zSL S au bb k).2) → (okS S') → (mK S' = mK S) → (n9 ≤ k * 61) → zG X 0 0 [((a 0), .inr (4, [.ref (a 1), .ref (a 3), .ref (a 5), .ref (a 6), .int (zb (tK S'))])), ((a 1), .inr (2, [.ref (a 2), .int (nI (rU S'))])), ((a 2), .inl (X.2.1.2.2.1, 12, .inl (rO S'))), ((a 3), .inr (2, [.ref (a 4), .int (nI (cU S'))])), ((a 4), .inl (X.2.1.2.2.1, 8, .inl (cO S'))), ((a 5), .inl (X.2.1.2.2.1, 96, .inl (bS S'))), ((a 6), .inr (0, [.ref (a 7), .int (nI (mK S'))])), ((a 7), .inl (X.2.1.2.2.1, 360, .inl (fA S')))] [some (.ref (a 0)), some (.int au), some (.int (zb bb)), some (.int (nI n9)), some (.int (nI k)), none] [] 5 := by
    intro dd
    induction dd using Nat.strongRecOn with
    | _ dd ih5 =>
    intro k S' n9 hdd hk hS' hn hok hmk hnb
    obtain ⟨hur2, huc2, hM2⟩ := id hok
    refine z_iload C dX4_settleAll_5 rfl ?_
    refine z_aload_n C 0 dX4_settleAll_7 rfl rfl ?_
    refine z_get C fX4_settleAll_30 0 dX4_settleAll_8 rfl rfl ?_
    refine z_get C fX4_settleAll_128 6 dX4_settleAll_11 rfl rfl ?_
    refine z_ncmp_ge C 88 dX4_settleAll_14 (by decide) (by omega) (by omega) (fun h_1 => ?_) (fun h_1 => ?_)
    · refine z_iload_n C 3 dX4_settleAll_88 rfl rfl ?_
      exact z_iret C N dX4_settleAll_89 (by rw [hS', show k = mK S by omega] <;> rfl) (by rw [hn, show k = mK S by omega])
    · refine z_iload_n C 1 dX4_settleAll_17 rfl rfl ?_
      refine z_iconst C (-1) dX4_settleAll_18 (by decide) ?_
      refine z_icmp_eq C 36 dX4_settleAll_19 (by decide) (fun h_2 => ?_) (fun h_2 => ?_)
      · refine z_iconst C (nI 1) dX4_settleAll_36 (by decide) ?_
        refine z_goto C 41 dX4_settleAll_37 (by decide) ?_
        refine z_istore C dX4_settleAll_41 (Nat.le_of_ble_eq_true rfl) ?_
        refine z_iload C dX4_settleAll_43 rfl ?_
        refine z_nif_eq_f C 82 dX4_settleAll_45 (by decide) (by omega) (by omega) ?_
        refine z_aload_n C 0 dX4_settleAll_48 rfl rfl ?_
        refine z_get C fX4_settleAll_30 0 dX4_settleAll_49 rfl rfl ?_
        refine z_iload C dX4_settleAll_52 rfl ?_
        refine z_callVr C kX0_isPending gX4_settleAll_X0_isPending (mX0_isPending X.2.1 (a 6) (a 7) (fA S') (mK S') k hM2 h_1) dX4_settleAll_54 [6, 7] [] 6 rfl nd_6_7 rfl rfl rfl (by decide) (by decide) (Nat.le_of_ble_eq_true rfl) rfl ?_
        refine z_bif_eq C 82 dX4_settleAll_57 (by decide) (fun h_3 => ?_) (fun h_3 => ?_)
        · refine z_iinc C (nI (k + 1)) dX4_settleAll_82 rfl (zi_1 _) ?_
          refine z_goto C 5 dX4_settleAll_85 (by decide) ?_
          refine z_kill 5 ?_
          exact ih5 (mK S - (k + 1)) (by omega) (k + 1) S' n9 rfl (by omega) (by have q9 : zSC S' au k = false := (by simp [zSC, h_1, h_2, of_decide_eq_false h_3, h_3]); subst hS'; rw [zSL_n q9]) (by have q9 : zSC S' au k = false := (by simp [zSC, h_1, h_2, of_decide_eq_false h_3, h_3]); subst hS' hn; rw [zSL_n q9]) (hok) (hmk) (by omega)
        · refine z_iload_n C 3 dX4_settleAll_60 rfl rfl ?_
          refine z_iload_n C 2 dX4_settleAll_61 rfl rfl ?_
          refine z_bif_eq C 74 dX4_settleAll_62 (by decide) (fun h_4 => ?_) (fun h_4 => ?_)
          · refine z_aload_n C 0 dX4_settleAll_74 rfl rfl ?_
            refine z_iload C dX4_settleAll_75 rfl ?_
            refine z_callV (wn := [((a 0), .inr (4, [.ref (a 1), .ref (a 3), .ref (a 5), .ref (a 6), .int (zb (tK (zRW S' k)))])), ((a 1), .inr (2, [.ref (a 2), .int (nI (rU (zRW S' k)))])), ((a 2), .inl (X.2.1.2.2.1, 12, .inl (rO (zRW S' k)))), ((a 3), .inr (2, [.ref (a 4), .int (nI (cU (zRW S' k)))])), ((a 4), .inl (X.2.1.2.2.1, 8, .inl (cO (zRW S' k)))), ((a 5), .inl (X.2.1.2.2.1, 96, .inl (bS (zRW S' k)))), ((a 6), .inr (0, [.ref (a 7), .int (nI (mK (zRW S' k)))])), ((a 7), .inl (X.2.1.2.2.1, 360, .inl (fA (zRW S' k))))]) C kX4_rejectWhole gX4_settleAll_X4_rejectWhole (mX4_rejectWhole X.2.1 a S' k hok h_1) dX4_settleAll_77 [0, 1, 2, 3, 4, 5, 6, 7] [.int (nI n9)] 0 rfl rfl nd_0_1_2_3_4_5_6_7 rfl rfl rfl (by decide) (by decide) (Nat.le_of_ble_eq_true rfl) rfl rfl ?_
            refine z_iadd C dX4_settleAll_80 ?_
            refine z_top (y := nI (n9 + (zRWn S' k))) (nI_add _ _) ?_
            refine z_istore_n C 3 dX4_settleAll_81 rfl (Nat.le_of_ble_eq_true rfl) ?_
            refine z_iinc C (nI (k + 1)) dX4_settleAll_82 rfl (zi_1 _) ?_
            refine z_goto C 5 dX4_settleAll_85 (by decide) ?_
            refine z_kill 5 ?_
            exact ih5 (mK S - (k + 1)) (by omega) (k + 1) (zRW S' k) (n9 + (zRWn S' k)) rfl (by omega) (by have q9 : zSC S' au k = true := (by simp [zSC, h_1, h_2, of_decide_eq_true h_3, h_3, h_4]); subst hS'; rw [zSL_r q9 (by assumption)]) (by have q9 : zSC S' au k = true := (by simp [zSC, h_1, h_2, of_decide_eq_true h_3, h_3, h_4]); subst hS' hn; rw [zSL_r q9 (by assumption)]) ((zRW_ok hok).1) ((zRW_ok hok).2.1.trans hmk) (by have := (zRW_ok hok (x := k)).2.2; omega)
          · refine z_aload_n C 0 dX4_settleAll_65 rfl rfl ?_
            refine z_iload C dX4_settleAll_66 rfl ?_
            refine z_callV (wn := [((a 0), .inr (4, [.ref (a 1), .ref (a 3), .ref (a 5), .ref (a 6), .int (zb (tK (zAW S' k)))])), ((a 1), .inr (2, [.ref (a 2), .int (nI (rU (zAW S' k)))])), ((a 2), .inl (X.2.1.2.2.1, 12, .inl (rO (zAW S' k)))), ((a 3), .inr (2, [.ref (a 4), .int (nI (cU (zAW S' k)))])), ((a 4), .inl (X.2.1.2.2.1, 8, .inl (cO (zAW S' k)))), ((a 5), .inl (X.2.1.2.2.1, 96, .inl (bS (zAW S' k)))), ((a 6), .inr (0, [.ref (a 7), .int (nI (mK (zAW S' k)))])), ((a 7), .inl (X.2.1.2.2.1, 360, .inl (fA (zAW S' k))))]) C kX4_acceptWhole gX4_settleAll_X4_acceptWhole (mX4_acceptWhole X.2.1 a S' k hok h_1) dX4_settleAll_68 [0, 1, 2, 3, 4, 5, 6, 7] [.int (nI n9)] 0 rfl rfl nd_0_1_2_3_4_5_6_7 rfl rfl rfl (by decide) (by decide) (Nat.le_of_ble_eq_true rfl) rfl rfl ?_
            refine z_goto C 80 dX4_settleAll_71 (by decide) ?_
            refine z_iadd C dX4_settleAll_80 ?_
            refine z_top (y := nI (n9 + (zAWn S' k))) (nI_add _ _) ?_
            refine z_istore_n C 3 dX4_settleAll_81 rfl (Nat.le_of_ble_eq_true rfl) ?_
            refine z_iinc C (nI (k + 1)) dX4_settleAll_82 rfl (zi_1 _) ?_
            refine z_goto C 5 dX4_settleAll_85 (by decide) ?_
            refine z_kill 5 ?_
            exact ih5 (mK S - (k + 1)) (by omega) (k + 1) (zAW S' k) (n9 + (zAWn S' k)) rfl (by omega) (by have q9 : zSC S' au k = true := (by simp [zSC, h_1, h_2, of_decide_eq_true h_3, h_3, h_4]); subst hS'; rw [zSL_a q9 (by assumption)]) (by have q9 : zSC S' au k = true := (by simp [zSC, h_1, h_2, of_decide_eq_true h_3, h_3, h_4]); subst hS' hn; rw [zSL_a q9 (by assumption)]) ((zAW_ok hok).1) ((zAW_ok hok).2.1.trans hmk) (by have := (zAW_ok hok (x := k)).2.2; omega)
      · refine z_aload_n C 0 dX4_settleAll_22 rfl rfl ?_
        refine z_get C fX4_settleAll_30 0 dX4_settleAll_23 rfl rfl ?_
        refine z_iload C dX4_settleAll_26 rfl ?_
        refine z_iconst C (nI 1) dX4_settleAll_28 (by decide) ?_
        refine z_callVr C kX0_fact gX4_settleAll_X0_fact (mX0_fact X.2.1 (a 6) (a 7) (fA S') (mK S') k 1 hM2 h_1 (by first | assumption | omega)) dX4_settleAll_29 [6, 7] [] 6 rfl nd_6_7 rfl rfl rfl (by decide) (by decide) (Nat.le_of_ble_eq_true rfl) rfl ?_
        refine z_iload_n C 1 dX4_settleAll_32 rfl rfl ?_
        refine z_icmp_ne C 40 dX4_settleAll_33 (by decide) (fun h_5 => ?_) (fun h_5 => ?_)
        · refine z_iconst C (nI 0) dX4_settleAll_40 (by decide) ?_
          refine z_istore C dX4_settleAll_41 (Nat.le_of_ble_eq_true rfl) ?_
          refine z_iload C dX4_settleAll_43 rfl ?_
          refine z_nif_eq_t C 82 dX4_settleAll_45 (by decide) (by omega) (by omega) ?_
          refine z_iinc C (nI (k + 1)) dX4_settleAll_82 rfl (zi_1 _) ?_
          refine z_goto C 5 dX4_settleAll_85 (by decide) ?_
          refine z_kill 5 ?_
          exact ih5 (mK S - (k + 1)) (by omega) (k + 1) S' n9 rfl (by omega) (by have q9 : zSC S' au k = false := (by simp [zSC, h_1, h_2, h_5]); subst hS'; rw [zSL_n q9]) (by have q9 : zSC S' au k = false := (by simp [zSC, h_1, h_2, h_5]); subst hS' hn; rw [zSL_n q9]) (hok) (hmk) (by omega)
        · refine z_iconst C (nI 1) dX4_settleAll_36 (by decide) ?_
          refine z_goto C 41 dX4_settleAll_37 (by decide) ?_
          refine z_istore C dX4_settleAll_41 (Nat.le_of_ble_eq_true rfl) ?_
          refine z_iload C dX4_settleAll_43 rfl ?_
          refine z_nif_eq_f C 82 dX4_settleAll_45 (by decide) (by omega) (by omega) ?_
          refine z_aload_n C 0 dX4_settleAll_48 rfl rfl ?_
          refine z_get C fX4_settleAll_30 0 dX4_settleAll_49 rfl rfl ?_
          refine z_iload C dX4_settleAll_52 rfl ?_
          refine z_callVr C kX0_isPending gX4_settleAll_X0_isPending (mX0_isPending X.2.1 (a 6) (a 7) (fA S') (mK S') k hM2 h_1) dX4_settleAll_54 [6, 7] [] 6 rfl nd_6_7 rfl rfl rfl (by decide) (by decide) (Nat.le_of_ble_eq_true rfl) rfl ?_
          refine z_bif_eq C 82 dX4_settleAll_57 (by decide) (fun h_6 => ?_) (fun h_6 => ?_)
          · refine z_iinc C (nI (k + 1)) dX4_settleAll_82 rfl (zi_1 _) ?_
            refine z_goto C 5 dX4_settleAll_85 (by decide) ?_
            refine z_kill 5 ?_
            exact ih5 (mK S - (k + 1)) (by omega) (k + 1) S' n9 rfl (by omega) (by have q9 : zSC S' au k = false := (by simp [zSC, h_1, h_2, h_5, of_decide_eq_false h_6, h_6]); subst hS'; rw [zSL_n q9]) (by have q9 : zSC S' au k = false := (by simp [zSC, h_1, h_2, h_5, of_decide_eq_false h_6, h_6]); subst hS' hn; rw [zSL_n q9]) (hok) (hmk) (by omega)
          · refine z_iload_n C 3 dX4_settleAll_60 rfl rfl ?_
            refine z_iload_n C 2 dX4_settleAll_61 rfl rfl ?_
            refine z_bif_eq C 74 dX4_settleAll_62 (by decide) (fun h_7 => ?_) (fun h_7 => ?_)
            · refine z_aload_n C 0 dX4_settleAll_74 rfl rfl ?_
              refine z_iload C dX4_settleAll_75 rfl ?_
              refine z_callV (wn := [((a 0), .inr (4, [.ref (a 1), .ref (a 3), .ref (a 5), .ref (a 6), .int (zb (tK (zRW S' k)))])), ((a 1), .inr (2, [.ref (a 2), .int (nI (rU (zRW S' k)))])), ((a 2), .inl (X.2.1.2.2.1, 12, .inl (rO (zRW S' k)))), ((a 3), .inr (2, [.ref (a 4), .int (nI (cU (zRW S' k)))])), ((a 4), .inl (X.2.1.2.2.1, 8, .inl (cO (zRW S' k)))), ((a 5), .inl (X.2.1.2.2.1, 96, .inl (bS (zRW S' k)))), ((a 6), .inr (0, [.ref (a 7), .int (nI (mK (zRW S' k)))])), ((a 7), .inl (X.2.1.2.2.1, 360, .inl (fA (zRW S' k))))]) C kX4_rejectWhole gX4_settleAll_X4_rejectWhole (mX4_rejectWhole X.2.1 a S' k hok h_1) dX4_settleAll_77 [0, 1, 2, 3, 4, 5, 6, 7] [.int (nI n9)] 0 rfl rfl nd_0_1_2_3_4_5_6_7 rfl rfl rfl (by decide) (by decide) (Nat.le_of_ble_eq_true rfl) rfl rfl ?_
              refine z_iadd C dX4_settleAll_80 ?_
              refine z_top (y := nI (n9 + (zRWn S' k))) (nI_add _ _) ?_
              refine z_istore_n C 3 dX4_settleAll_81 rfl (Nat.le_of_ble_eq_true rfl) ?_
              refine z_iinc C (nI (k + 1)) dX4_settleAll_82 rfl (zi_1 _) ?_
              refine z_goto C 5 dX4_settleAll_85 (by decide) ?_
              refine z_kill 5 ?_
              exact ih5 (mK S - (k + 1)) (by omega) (k + 1) (zRW S' k) (n9 + (zRWn S' k)) rfl (by omega) (by have q9 : zSC S' au k = true := (by simp [zSC, h_1, h_2, h_5, of_decide_eq_true h_6, h_6, h_7]); subst hS'; rw [zSL_r q9 (by assumption)]) (by have q9 : zSC S' au k = true := (by simp [zSC, h_1, h_2, h_5, of_decide_eq_true h_6, h_6, h_7]); subst hS' hn; rw [zSL_r q9 (by assumption)]) ((zRW_ok hok).1) ((zRW_ok hok).2.1.trans hmk) (by have := (zRW_ok hok (x := k)).2.2; omega)
            · refine z_aload_n C 0 dX4_settleAll_65 rfl rfl ?_
              refine z_iload C dX4_settleAll_66 rfl ?_
              refine z_callV (wn := [((a 0), .inr (4, [.ref (a 1), .ref (a 3), .ref (a 5), .ref (a 6), .int (zb (tK (zAW S' k)))])), ((a 1), .inr (2, [.ref (a 2), .int (nI (rU (zAW S' k)))])), ((a 2), .inl (X.2.1.2.2.1, 12, .inl (rO (zAW S' k)))), ((a 3), .inr (2, [.ref (a 4), .int (nI (cU (zAW S' k)))])), ((a 4), .inl (X.2.1.2.2.1, 8, .inl (cO (zAW S' k)))), ((a 5), .inl (X.2.1.2.2.1, 96, .inl (bS (zAW S' k)))), ((a 6), .inr (0, [.ref (a 7), .int (nI (mK (zAW S' k)))])), ((a 7), .inl (X.2.1.2.2.1, 360, .inl (fA (zAW S' k))))]) C kX4_acceptWhole gX4_settleAll_X4_acceptWhole (mX4_acceptWhole X.2.1 a S' k hok h_1) dX4_settleAll_68 [0, 1, 2, 3, 4, 5, 6, 7] [.int (nI n9)] 0 rfl rfl nd_0_1_2_3_4_5_6_7 rfl rfl rfl (by decide) (by decide) (Nat.le_of_ble_eq_true rfl) rfl rfl ?_
              refine z_goto C 80 dX4_settleAll_71 (by decide) ?_
              refine z_iadd C dX4_settleAll_80 ?_
              refine z_top (y := nI (n9 + (zAWn S' k))) (nI_add _ _) ?_
              refine z_istore_n C 3 dX4_settleAll_81 rfl (Nat.le_of_ble_eq_true rfl) ?_
              refine z_iinc C (nI (k + 1)) dX4_settleAll_82 rfl (zi_1 _) ?_
              refine z_goto C 5 dX4_settleAll_85 (by decide) ?_
              refine z_kill 5 ?_
              exact ih5 (mK S - (k + 1)) (by omega) (k + 1) (zAW S' k) (n9 + (zAWn S' k)) rfl (by omega) (by have q9 : zSC S' au k = true := (by simp [zSC, h_1, h_2, h_5, of_decide_eq_true h_6, h_6, h_7]); subst hS'; rw [zSL_a q9 (by assumption)]) (by have q9 : zSC S' au k = true := (by simp [zSC, h_1, h_2, h_5, of_decide_eq_true h_6, h_6, h_7]); subst hS' hn; rw [zSL_a q9 (by assumption)]) ((zAW_ok hok).1) ((zAW_ok hok).2.1.trans hmk) (by have := (zAW_ok hok (x := k)).2.2; omega)
  exact hL5 _ 0 S 0 rfl (by omega) (rfl) (rfl) (hS) (rfl) (by omega)

