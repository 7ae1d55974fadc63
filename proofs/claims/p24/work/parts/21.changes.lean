theorem kX0_isFull : zY yX0_isFull wsX0_isFull cX0_isFull 1 (some .boolean) 0 := ⟨⟨_, rfl⟩, ⟨by decide +kernel, by decide +kernel, by decide +kernel⟩, by decide +kernel⟩
theorem fX0_isFull_15 : zF wsX0_isFull RX0 15 0 1 RX0 TX0 2 := ⟨by decide +kernel, rfl, by decide, by decide +kernel, rfl⟩
set_option maxHeartbeats 4000000 in
set_option maxRecDepth 100000 in
theorem mX0_isFull (E : zE) (h0 h1 : Nat) (g : Nat → Int32) (M : Nat)  (hM : M ≤ 60) : zM E yX0_isFull wsX0_isFull 0 [.ref h0] [(h0, .inr (0, [.ref h1, .int (nI M)])), (h1, .inl (E.2.2.1, 360, .inl g))] [(h0, .inr (0, [.ref h1, .int (nI M)])), (h1, .inl (E.2.2.1, 360, .inl g))] (some (.int (zb (decide (60 ≤ M))))) := by
  refine zM.of kX0_isFull (Nat.le_of_ble_eq_true rfl) rfl [some (.ref h0)] rfl (Nat.le_of_ble_eq_true rfl) ?_
  intro X eX C N
  subst eX
  refine z_aload_n C 0 dX0_isFull_0 rfl rfl ?_
  refine z_get C fX0_isFull_15 0 dX0_isFull_1 rfl rfl ?_
  refine z_bipush C (nI 60) dX0_isFull_4 (by decide) ?_
  refine z_ncmp_lt C 13 dX0_isFull_6 (by decide) (by omega) (by omega) (fun h_1 => ?_) (fun h_1 => ?_)
  · refine z_iconst C (nI 0) dX0_isFull_13 (by decide) ?_
    exact z_zret C N dX0_isFull_14 rfl (rfl) (congrArg (fun x => some (Value.int x)) (zb_f (by simp [h_1])).symm)
  · refine z_iconst C (nI 1) dX0_isFull_9 (by decide) ?_
    refine z_goto C 14 dX0_isFull_10 (by decide) ?_
    exact z_zret C N dX0_isFull_14 rfl (rfl) (congrArg (fun x => some (Value.int x)) (zb_t (by simp [h_1])).symm)

theorem kX0_isMade : zY yX0_isMade wsX0_isMade cX0_isMade 2 (some .boolean) 1 := ⟨⟨_, rfl⟩, ⟨by decide +kernel, by decide +kernel, by decide +kernel⟩, by decide +kernel⟩
theorem fX0_isMade_15 : zF wsX0_isMade RX0 15 0 1 RX0 TX0 2 := ⟨by decide +kernel, rfl, by decide, by decide +kernel, rfl⟩
set_option maxHeartbeats 4000000 in
set_option maxRecDepth 100000 in
theorem mX0_isMade_in (E : zE) (h0 h1 : Nat) (g : Nat → Int32) (M : Nat) (k : Nat) (hM : M ≤ 60) (hk : k < M) : zM E yX0_isMade wsX0_isMade 0 [.ref h0, .int (nI k)] [(h0, .inr (0, [.ref h1, .int (nI M)])), (h1, .inl (E.2.2.1, 360, .inl g))] [(h0, .inr (0, [.ref h1, .int (nI M)])), (h1, .inl (E.2.2.1, 360, .inl g))] (some (.int (zb true))) := by
  refine zM.of kX0_isMade (Nat.le_of_ble_eq_true rfl) rfl [some (.ref h0), some (.int (nI k))] rfl (Nat.le_of_ble_eq_true rfl) ?_
  intro X eX C N
  subst eX
  refine z_iload_n C 1 dX0_isMade_0 rfl rfl ?_
  refine z_nif_lt_f C 22 dX0_isMade_1 (by decide) (by omega) (by trivial) ?_
  refine z_iload_n C 1 dX0_isMade_4 rfl rfl ?_
  refine z_aload_n C 0 dX0_isMade_5 rfl rfl ?_
  refine z_get C fX0_isMade_15 0 dX0_isMade_6 rfl rfl ?_
  refine z_ncmp_ge_f C 22 dX0_isMade_9 (by decide) (by omega) (by omega) (by omega) ?_
  refine z_iload_n C 1 dX0_isMade_12 rfl rfl ?_
  refine z_bipush C (nI 60) dX0_isMade_13 (by decide) ?_
  refine z_ncmp_ge_f C 22 dX0_isMade_15 (by decide) (by omega) (by omega) (by omega) ?_
  refine z_iconst C (nI 1) dX0_isMade_18 (by decide) ?_
  refine z_goto C 23 dX0_isMade_19 (by decide) ?_
  exact z_zret C N dX0_isMade_23 rfl (rfl) (rfl)

set_option maxHeartbeats 4000000 in
set_option maxRecDepth 100000 in
theorem mX0_isMade_out (E : zE) (h0 h1 : Nat) (g : Nat → Int32) (M : Nat) (x : Int32) (hx : x < 0 ∨ (¬ x < 0 ∧ nI M ≤ x)) : zM E yX0_isMade wsX0_isMade 0 [.ref h0, .int x] [(h0, .inr (0, [.ref h1, .int (nI M)])), (h1, .inl (E.2.2.1, 360, .inl g))] [(h0, .inr (0, [.ref h1, .int (nI M)])), (h1, .inl (E.2.2.1, 360, .inl g))] (some (.int (zb false))) := by
  refine zM.of kX0_isMade (Nat.le_of_ble_eq_true rfl) rfl [some (.ref h0), some (.int x)] rfl (Nat.le_of_ble_eq_true rfl) ?_
  intro X eX C N
  subst eX
  rcases hx with hx | ⟨hx0, hx1⟩
  · refine z_iload_n C 1 dX0_isMade_0 rfl rfl ?_
    refine z_if_lt_t C 22 dX0_isMade_1 (by decide) hx ?_
    refine z_iconst C (nI 0) dX0_isMade_22 (by decide) ?_
    exact z_zret C N dX0_isMade_23 rfl (rfl) (rfl)
  · refine z_iload_n C 1 dX0_isMade_0 rfl rfl ?_
    refine z_if_lt_f C 22 dX0_isMade_1 (by decide) hx0 ?_
    refine z_iload_n C 1 dX0_isMade_4 rfl rfl ?_
    refine z_aload_n C 0 dX0_isMade_5 rfl rfl ?_
    refine z_get C fX0_isMade_15 0 dX0_isMade_6 rfl rfl ?_
    refine z_icmp_ge_t C 22 dX0_isMade_9 (by decide) hx1 ?_
    refine z_iconst C (nI 0) dX0_isMade_22 (by decide) ?_
    exact z_zret C N dX0_isMade_23 rfl (rfl) (rfl)

theorem kX0_fact : zY yX0_fact wsX0_fact cX0_fact 3 (some .int) 2 := ⟨⟨_, rfl⟩, ⟨by decide +kernel, by decide +kernel, by decide +kernel⟩, by decide +kernel⟩
theorem fX0_fact_15 : zF wsX0_fact RX0 15 0 1 RX0 TX0 2 := ⟨by decide +kernel, rfl, by decide, by decide +kernel, rfl⟩
theorem fX0_fact_9 : zF wsX0_fact RX0 9 0 0 RX0 TX0 2 := ⟨by decide +kernel, rfl, by decide, by decide +kernel, rfl⟩
set_option maxHeartbeats 4000000 in
set_option maxRecDepth 100000 in
theorem mX0_fact (E : zE) (h0 h1 : Nat) (g : Nat → Int32) (M : Nat) (k w : Nat) (hM : M ≤ 60) (hk : k < M) (hw : w < 6) : zM E yX0_fact wsX0_fact 0 [.ref h0, .int (nI k), .int (nI w)] [(h0, .inr (0, [.ref h1, .int (nI M)])), (h1, .inl (E.2.2.1, 360, .inl g))] [(h0, .inr (0, [.ref h1, .int (nI M)])), (h1, .inl (E.2.2.1, 360, .inl g))] (some (.int (g (6 * k + w)))) := by
  refine zM.of kX0_fact (Nat.le_of_ble_eq_true rfl) rfl [some (.ref h0), some (.int (nI k)), some (.int (nI w))] rfl (Nat.le_of_ble_eq_true rfl) ?_
  intro X eX C N
  subst eX
  refine z_iload_n C 1 dX0_fact_0 rfl rfl ?_
  refine z_nif_lt_f C 28 dX0_fact_1 (by decide) (by omega) (by trivial) ?_
  refine z_iload_n C 1 dX0_fact_4 rfl rfl ?_
  refine z_aload_n C 0 dX0_fact_5 rfl rfl ?_
  refine z_get C fX0_fact_15 0 dX0_fact_6 rfl rfl ?_
  refine z_ncmp_ge_f C 28 dX0_fact_9 (by decide) (by omega) (by omega) (by omega) ?_
  refine z_iload_n C 1 dX0_fact_12 rfl rfl ?_
  refine z_bipush C (nI 60) dX0_fact_13 (by decide) ?_
  refine z_ncmp_ge_f C 28 dX0_fact_15 (by decide) (by omega) (by omega) (by omega) ?_
  refine z_iload_n C 2 dX0_fact_18 rfl rfl ?_
  refine z_nif_lt_f C 28 dX0_fact_19 (by decide) (by omega) (by trivial) ?_
  refine z_iload_n C 2 dX0_fact_22 rfl rfl ?_
  refine z_bipush C (nI 6) dX0_fact_23 (by decide) ?_
  refine z_ncmp_lt_t C 31 dX0_fact_25 (by decide) (by omega) (by omega) (by omega) ?_
  refine z_aload_n C 0 dX0_fact_31 rfl rfl ?_
  refine z_get C fX0_fact_9 0 dX0_fact_32 rfl rfl ?_
  refine z_iload_n C 1 dX0_fact_35 rfl rfl ?_
  refine z_bipush C (nI 6) dX0_fact_36 (by decide) ?_
  refine z_imul C dX0_fact_38 ?_
  refine z_top (y := nI (6 * k)) ((pk_mul _ _).trans (congrArg nI (Nat.mul_comm _ _))) ?_
  refine z_iload_n C 2 dX0_fact_39 rfl rfl ?_
  refine z_iadd C dX0_fact_40 ?_
  refine z_top (y := nI ((6 * k) + w)) (nI_add _ _) ?_
  refine z_ialdN C 1 dX0_fact_41 rfl (by omega) (by decide) ?_
  exact z_iret C N dX0_fact_42 (rfl) (rfl)

theorem kX0_isPending : zY yX0_isPending wsX0_isPending cX0_isPending 2 (some .boolean) 1 := ⟨⟨_, rfl⟩, ⟨by decide +kernel, by decide +kernel, by decide +kernel⟩, by decide +kernel⟩
theorem nd_0_1 : va_nd [0, 1] = true := by decide +kernel
set_option maxHeartbeats 4000000 in
set_option maxRecDepth 100000 in
theorem mX0_isPending (E : zE) (h0 h1 : Nat) (g : Nat → Int32) (M : Nat) (k : Nat) (hM : M ≤ 60) (hk : k < M) : zM E yX0_isPending wsX0_isPending 1 [.ref h0, .int (nI k)] [(h0, .inr (0, [.ref h1, .int (nI M)])), (h1, .inl (E.2.2.1, 360, .inl g))] [(h0, .inr (0, [.ref h1, .int (nI M)])), (h1, .inl (E.2.2.1, 360, .inl g))] (some (.int (zb (decide (g (6 * k + 2) = 0))))) := by
  refine zM.of kX0_isPending (Nat.le_of_ble_eq_true rfl) rfl [some (.ref h0), some (.int (nI k))] rfl (Nat.le_of_ble_eq_true rfl) ?_
  intro X eX C N
  subst eX
  refine z_aload_n C 0 dX0_isPending_0 rfl rfl ?_
  refine z_iload_n C 1 dX0_isPending_1 rfl rfl ?_
  refine z_iconst C (nI 2) dX0_isPending_2 (by decide) ?_
  refine z_callVr C kX0_fact gX0_isPending_X0_fact (mX0_fact X.2.1 h0 h1 g M k 2 hM hk (by first | assumption | omega)) dX0_isPending_3 [0, 1] [] 0 rfl nd_0_1 rfl rfl rfl (by decide) (by decide) (Nat.le_of_ble_eq_true rfl) rfl ?_
  refine z_if_ne C 13 dX0_isPending_6 (by decide) (fun h_1 => ?_) (fun h_1 => ?_)
  · refine z_iconst C (nI 0) dX0_isPending_13 (by decide) ?_
    exact z_zret C N dX0_isPending_14 rfl (rfl) (congrArg (fun x => some (Value.int x)) (zb_f (by simp [h_1])).symm)
  · refine z_iconst C (nI 1) dX0_isPending_9 (by decide) ?_
    refine z_goto C 14 dX0_isPending_10 (by decide) ?_
    exact z_zret C N dX0_isPending_14 rfl (rfl) (congrArg (fun x => some (Value.int x)) (zb_t (by simp [h_1])).symm)

theorem kX0_put : zY yX0_put wsX0_put cX0_put 4 none 3 := ⟨⟨_, rfl⟩, ⟨by decide +kernel, by decide +kernel, by decide +kernel⟩, by decide +kernel⟩
theorem fX0_put_9 : zF wsX0_put RX0 9 0 0 RX0 TX0 2 := ⟨by decide +kernel, rfl, by decide, by decide +kernel, rfl⟩
set_option maxHeartbeats 4000000 in
set_option maxRecDepth 100000 in
theorem mX0_put (E : zE) (h0 h1 : Nat) (g : Nat → Int32) (M : Nat) (k w : Nat) (v : Int32) (hM : M ≤ 60) (hk : k < M) (hw : w < 6) : zM E yX0_put wsX0_put 1 [.ref h0, .int (nI k), .int (nI w), .int v] [(h0, .inr (0, [.ref h1, .int (nI M)])), (h1, .inl (E.2.2.1, 360, .inl g))] [(h0, .inr (0, [.ref h1, .int (nI M)])), (h1, .inl (E.2.2.1, 360, .inl (upd g (6 * k + w) v)))] none := by
  refine zM.of kX0_put (Nat.le_of_ble_eq_true rfl) rfl [some (.ref h0), some (.int (nI k)), some (.int (nI w)), some (.int v)] rfl (Nat.le_of_ble_eq_true rfl) ?_
  intro X eX C N
  subst eX
  refine z_aload_n C 0 dX0_put_0 rfl rfl ?_
  refine z_iload_n C 1 dX0_put_1 rfl rfl ?_
  refine z_callVr C kX0_isMade gX0_put_X0_isMade (mX0_isMade_in X.2.1 h0 h1 g M k hM hk) dX0_put_2 [0, 1] [] 0 rfl nd_0_1 rfl rfl rfl (by decide) (by decide) (Nat.le_of_ble_eq_true rfl) rfl ?_
  refine z_bif_eq_f C 30 dX0_put_5 (by decide) rfl ?_
  refine z_iload_n C 2 dX0_put_8 rfl rfl ?_
  refine z_nif_lt_f C 30 dX0_put_9 (by decide) (by omega) (by trivial) ?_
  refine z_iload_n C 2 dX0_put_12 rfl rfl ?_
  refine z_bipush C (nI 6) dX0_put_13 (by decide) ?_
  refine z_ncmp_ge_f C 30 dX0_put_15 (by decide) (by omega) (by omega) (by omega) ?_
  refine z_aload_n C 0 dX0_put_18 rfl rfl ?_
  refine z_get C fX0_put_9 0 dX0_put_19 rfl rfl ?_
  refine z_iload_n C 1 dX0_put_22 rfl rfl ?_
  refine z_bipush C (nI 6) dX0_put_23 (by decide) ?_
  refine z_imul C dX0_put_25 ?_
  refine z_top (y := nI (6 * k)) ((pk_mul _ _).trans (congrArg nI (Nat.mul_comm _ _))) ?_
  refine z_iload_n C 2 dX0_put_26 rfl rfl ?_
  refine z_iadd C dX0_put_27 ?_
  refine z_top (y := nI ((6 * k) + w)) (nI_add _ _) ?_
  refine z_iload_n C 3 dX0_put_28 rfl rfl ?_
  refine z_iastN C 1 dX0_put_29 rfl (by omega) (by decide) ?_
  exact z_vret C N dX0_put_30 (rfl)

theorem kX0_add : zY yX0_add wsX0_add cX0_add 7 (some .int) 5 := ⟨⟨_, rfl⟩, ⟨by decide +kernel, by decide +kernel, by decide +kernel⟩, by decide +kernel⟩
theorem fX0_add_15 : zF wsX0_add RX0 15 0 1 RX0 TX0 2 := ⟨by decide +kernel, rfl, by decide, by decide +kernel, rfl⟩
theorem ftX0_1 : zFt 1 2 TX0 tyX0 false := ⟨tyX0_ok, nmX0, rfl⟩
set_option maxHeartbeats 4000000 in
set_option maxRecDepth 100000 in
theorem mX0_add (E : zE) (h0 h1 : Nat) (g : Nat → Int32) (M : Nat) (kd au r c v : Int32) (hM : M < 60) : zM E yX0_add wsX0_add 2 [.ref h0, .int kd, .int au, .int r, .int c, .int v] [(h0, .inr (0, [.ref h1, .int (nI M)])), (h1, .inl (E.2.2.1, 360, .inl g))] [(h0, .inr (0, [.ref h1, .int (nI (M + 1))])), (h1, .inl (E.2.2.1, 360, .inl (zAdd g M kd au r c v)))] (some (.int (nI M))) := by
  refine zM.of kX0_add (Nat.le_of_ble_eq_true rfl) rfl [some (.ref h0), some (.int kd), some (.int au), some (.int r), some (.int c), some (.int v), none] rfl (Nat.le_of_ble_eq_true rfl) ?_
  intro X eX C N
  subst eX
  refine z_aload_n C 0 dX0_add_0 rfl rfl ?_
  refine z_callVr C kX0_isFull gX0_add_X0_isFull (mX0_isFull X.2.1 h0 h1 g M (by first | assumption | omega)) dX0_add_1 [0, 1] [] 0 rfl nd_0_1 rfl rfl rfl (by decide) (by decide) (Nat.le_of_ble_eq_true rfl) rfl ?_
  refine z_bif_eq_t C 10 dX0_add_4 (by decide) (decide_eq_false (by omega)) ?_
  refine z_aload_n C 0 dX0_add_10 rfl rfl ?_
  refine z_get C fX0_add_15 0 dX0_add_11 rfl rfl ?_
  refine z_istore C dX0_add_14 (Nat.le_of_ble_eq_true rfl) ?_
  refine z_aload_n C 0 dX0_add_16 rfl rfl ?_
  refine z_dup C dX0_add_17 rfl ?_
  refine z_get C fX0_add_15 0 dX0_add_18 rfl rfl ?_
  refine z_iconst C (nI 1) dX0_add_21 (by decide) ?_
  refine z_iadd C dX0_add_22 ?_
  refine z_top (y := nI (M + 1)) (nI_add _ _) ?_
  refine z_put C fX0_add_15 ftX0_1 0 dX0_add_23 rfl rfl rfl (Nat.le_of_ble_eq_true rfl) ?_
  refine z_aload_n C 0 dX0_add_26 rfl rfl ?_
  refine z_iload C dX0_add_27 rfl ?_
  refine z_iconst C (nI 0) dX0_add_29 (by decide) ?_
  refine z_iload_n C 1 dX0_add_30 rfl rfl ?_
  refine z_callVv (wn := [(h0, .inr (0, [.ref h1, .int (nI (M + 1))])), (h1, .inl (X.2.1.2.2.1, 360, .inl (upd g (6 * M + 0) kd)))]) C kX0_put gX0_add_X0_put (mX0_put X.2.1 h0 h1 g (M + 1) M 0 kd (by first | assumption | omega) (by first | assumption | omega) (by first | assumption | omega)) dX0_add_31 [0, 1] [] 0 rfl rfl nd_0_1 rfl rfl rfl (by decide) (by decide) (Nat.le_of_ble_eq_true rfl) rfl rfl ?_
  refine z_aload_n C 0 dX0_add_34 rfl rfl ?_
  refine z_iload C dX0_add_35 rfl ?_
  refine z_iconst C (nI 1) dX0_add_37 (by decide) ?_
  refine z_iload_n C 2 dX0_add_38 rfl rfl ?_
  refine z_callVv (wn := [(h0, .inr (0, [.ref h1, .int (nI (M + 1))])), (h1, .inl (X.2.1.2.2.1, 360, .inl (upd (upd g (6 * M + 0) kd) (6 * M + 1) au)))]) C kX0_put gX0_add_X0_put (mX0_put X.2.1 h0 h1 (upd g (6 * M + 0) kd) (M + 1) M 1 au (by first | assumption | omega) (by first | assumption | omega) (by first | assumption | omega)) dX0_add_39 [0, 1] [] 0 rfl rfl nd_0_1 rfl rfl rfl (by decide) (by decide) (Nat.le_of_ble_eq_true rfl) rfl rfl ?_
  refine z_aload_n C 0 dX0_add_42 rfl rfl ?_
  refine z_iload C dX0_add_43 rfl ?_
  refine z_iconst C (nI 2) dX0_add_45 (by decide) ?_
  refine z_iconst C (nI 0) dX0_add_46 (by decide) ?_
  refine z_callVv (wn := [(h0, .inr (0, [.ref h1, .int (nI (M + 1))])), (h1, .inl (X.2.1.2.2.1, 360, .inl (upd (upd (upd g (6 * M + 0) kd) (6 * M + 1) au) (6 * M + 2) (nI 0))))]) C kX0_put gX0_add_X0_put (mX0_put X.2.1 h0 h1 (upd (upd g (6 * M + 0) kd) (6 * M + 1) au) (M + 1) M 2 (nI 0) (by first | assumption | omega) (by first | assumption | omega) (by first | assumption | omega)) dX0_add_47 [0, 1] [] 0 rfl rfl nd_0_1 rfl rfl rfl (by decide) (by decide) (Nat.le_of_ble_eq_true rfl) rfl rfl ?_
  refine z_aload_n C 0 dX0_add_50 rfl rfl ?_
  refine z_iload C dX0_add_51 rfl ?_
  refine z_iconst C (nI 3) dX0_add_53 (by decide) ?_
  refine z_iload_n C 3 dX0_add_54 rfl rfl ?_
  refine z_callVv (wn := [(h0, .inr (0, [.ref h1, .int (nI (M + 1))])), (h1, .inl (X.2.1.2.2.1, 360, .inl (upd (upd (upd (upd g (6 * M + 0) kd) (6 * M + 1) au) (6 * M + 2) (nI 0)) (6 * M + 3) r)))]) C kX0_put gX0_add_X0_put (mX0_put X.2.1 h0 h1 (upd (upd (upd g (6 * M + 0) kd) (6 * M + 1) au) (6 * M + 2) (nI 0)) (M + 1) M 3 r (by first | assumption | omega) (by first | assumption | omega) (by first | assumption | omega)) dX0_add_55 [0, 1] [] 0 rfl rfl nd_0_1 rfl rfl rfl (by decide) (by decide) (Nat.le_of_ble_eq_true rfl) rfl rfl ?_
  refine z_aload_n C 0 dX0_add_58 rfl rfl ?_
  refine z_iload C dX0_add_59 rfl ?_
  refine z_iconst C (nI 4) dX0_add_61 (by decide) ?_
  refine z_iload C dX0_add_62 rfl ?_
  refine z_callVv (wn := [(h0, .inr (0, [.ref h1, .int (nI (M + 1))])), (h1, .inl (X.2.1.2.2.1, 360, .inl (upd (upd (upd (upd (upd g (6 * M + 0) kd) (6 * M + 1) au) (6 * M + 2) (nI 0)) (6 * M + 3) r) (6 * M + 4) c)))]) C kX0_put gX0_add_X0_put (mX0_put X.2.1 h0 h1 (upd (upd (upd (upd g (6 * M + 0) kd) (6 * M + 1) au) (6 * M + 2) (nI 0)) (6 * M + 3) r) (M + 1) M 4 c (by first | assumption | omega) (by first | assumption | omega) (by first | assumption | omega)) dX0_add_64 [0, 1] [] 0 rfl rfl nd_0_1 rfl rfl rfl (by decide) (by decide) (Nat.le_of_ble_eq_true rfl) rfl rfl ?_
  refine z_aload_n C 0 dX0_add_67 rfl rfl ?_
  refine z_iload C dX0_add_68 rfl ?_
  refine z_iconst C (nI 5) dX0_add_70 (by decide) ?_
  refine z_iload C dX0_add_71 rfl ?_
  refine z_callVv (wn := [(h0, .inr (0, [.ref h1, .int (nI (M + 1))])), (h1, .inl (X.2.1.2.2.1, 360, .inl (upd (upd (upd (upd (upd (upd g (6 * M + 0) kd) (6 * M + 1) au) (6 * M + 2) (nI 0)) (6 * M + 3) r) (6 * M + 4) c) (6 * M + 5) v)))]) C kX0_put gX0_add_X0_put (mX0_put X.2.1 h0 h1 (upd (upd (upd (upd (upd g (6 * M + 0) kd) (6 * M + 1) au) (6 * M + 2) (nI 0)) (6 * M + 3) r) (6 * M + 4) c) (M + 1) M 5 v (by first | assumption | omega) (by first | assumption | omega) (by first | assumption | omega)) dX0_add_73 [0, 1] [] 0 rfl rfl nd_0_1 rfl rfl rfl (by decide) (by decide) (Nat.le_of_ble_eq_true rfl) rfl rfl ?_
  refine z_iload C dX0_add_76 rfl ?_
  exact z_iret C N dX0_add_78 (rfl) (rfl)

set_option maxHeartbeats 4000000 in
set_option maxRecDepth 100000 in
theorem mX0_add_full (E : zE) (h0 h1 : Nat) (g : Nat → Int32) (M : Nat) (kd au r c v : Int32) (hM : M = 60) : zM E yX0_add wsX0_add 2 [.ref h0, .int kd, .int au, .int r, .int c, .int v] [(h0, .inr (0, [.ref h1, .int (nI M)])), (h1, .inl (E.2.2.1, 360, .inl g))] [(h0, .inr (0, [.ref h1, .int (nI M)])), (h1, .inl (E.2.2.1, 360, .inl g))] (some (.int (-3))) := by
  refine zM.of kX0_add (Nat.le_of_ble_eq_true rfl) rfl [some (.ref h0), some (.int kd), some (.int au), some (.int r), some (.int c), some (.int v), none] rfl (Nat.le_of_ble_eq_true rfl) ?_
  intro X eX C N
  subst eX
  refine z_aload_n C 0 dX0_add_0 rfl rfl ?_
  refine z_callVr C kX0_isFull gX0_add_X0_isFull (mX0_isFull X.2.1 h0 h1 g M (by first | assumption | omega)) dX0_add_1 [0, 1] [] 0 rfl nd_0_1 rfl rfl rfl (by decide) (by decide) (Nat.le_of_ble_eq_true rfl) rfl ?_
  refine z_bif_eq_f C 10 dX0_add_4 (by decide) (decide_eq_true (by omega)) ?_
  refine z_bipush C (-3) dX0_add_7 (by decide) ?_
  exact z_iret C N dX0_add_9 (rfl) (rfl)

theorem kX0_lineFact : zY yX0_lineFact wsX0_lineFact cX0_lineFact 1 (some .int) 1 := ⟨⟨_, rfl⟩, ⟨by decide +kernel, by decide +kernel, by decide +kernel⟩, by decide +kernel⟩
set_option maxHeartbeats 4000000 in
set_option maxRecDepth 100000 in
theorem mX0_lineFact_r (E : zE) (kk : Nat) (hk : kk < 2) : zM E yX0_lineFact wsX0_lineFact 0 [.int (nI kk)] [] [] (some (.int (nI 3))) := by
  refine zM.of kX0_lineFact (Nat.le_of_ble_eq_true rfl) rfl [some (.int (nI kk))] rfl (Nat.le_of_ble_eq_true rfl) ?_
  intro X eX C N
  subst eX
  refine z_iload_n C 0 dX0_lineFact_0 rfl rfl ?_
  refine z_nif_eq C 9 dX0_lineFact_1 (by decide) (by omega) (fun h_1 => ?_) (fun h_1 => ?_)
  · refine z_iconst C (nI 3) dX0_lineFact_9 (by decide) ?_
    refine z_goto C 14 dX0_lineFact_10 (by decide) ?_
    exact z_iret C N dX0_lineFact_14 (rfl) (rfl)
  · refine z_iload_n C 0 dX0_lineFact_4 rfl rfl ?_
    refine z_iconst C (nI 1) dX0_lineFact_5 (by decide) ?_
    refine z_ncmp_ne_f C 13 dX0_lineFact_6 (by decide) (by omega) (by omega) (by omega) ?_
    refine z_iconst C (nI 3) dX0_lineFact_9 (by decide) ?_
    refine z_goto C 14 dX0_lineFact_10 (by decide) ?_
    exact z_iret C N dX0_lineFact_14 (rfl) (rfl)

set_option maxHeartbeats 4000000 in
set_option maxRecDepth 100000 in
theorem mX0_lineFact_c (E : zE) (kk : Nat) (hk : 2 ≤ kk) (hk5 : kk < 5) : zM E yX0_lineFact wsX0_lineFact 0 [.int (nI kk)] [] [] (some (.int (nI 4))) := by
  refine zM.of kX0_lineFact (Nat.le_of_ble_eq_true rfl) rfl [some (.int (nI kk))] rfl (Nat.le_of_ble_eq_true rfl) ?_
  intro X eX C N
  subst eX
  refine z_iload_n C 0 dX0_lineFact_0 rfl rfl ?_
  refine z_nif_eq_f C 9 dX0_lineFact_1 (by decide) (by omega) (by omega) ?_
  refine z_iload_n C 0 dX0_lineFact_4 rfl rfl ?_
  refine z_iconst C (nI 1) dX0_lineFact_5 (by decide) ?_
  refine z_ncmp_ne_t C 13 dX0_lineFact_6 (by decide) (by omega) (by omega) (by omega) ?_
  refine z_iconst C (nI 4) dX0_lineFact_13 (by decide) ?_
  exact z_iret C N dX0_lineFact_14 (rfl) (rfl)

theorem kX0_addOfLine : zY yX0_addOfLine wsX0_addOfLine cX0_addOfLine 5 (some .int) 3 := ⟨⟨_, rfl⟩, ⟨by decide +kernel, by decide +kernel, by decide +kernel⟩, by decide +kernel⟩
set_option maxHeartbeats 4000000 in
set_option maxRecDepth 100000 in
theorem mX0_addOfLine_r (E : zE) (h0 h1 : Nat) (g : Nat → Int32) (M : Nat) (kk : Nat) (au sl : Int32) (hM : M < 60) (hkk : kk < 2) : zM E yX0_addOfLine wsX0_addOfLine 3 [.ref h0, .int (nI kk), .int au, .int sl] [(h0, .inr (0, [.ref h1, .int (nI M)])), (h1, .inl (E.2.2.1, 360, .inl g))] [(h0, .inr (0, [.ref h1, .int (nI (M + 1))])), (h1, .inl (E.2.2.1, 360, .inl (zAdd g M (nI kk) au sl (-5) (-5))))] (some (.int (nI M))) := by
  refine zM.of kX0_addOfLine (Nat.le_of_ble_eq_true rfl) rfl [some (.ref h0), some (.int (nI kk)), some (.int au), some (.int sl), none] rfl (Nat.le_of_ble_eq_true rfl) ?_
  intro X eX C N
  subst eX
  refine z_iload_n C 1 dX0_addOfLine_0 rfl rfl ?_
  refine z_callS C kX0_lineFact gX0_addOfLine_X0_lineFact (mX0_lineFact_r X.2.1 kk hkk) dX0_addOfLine_1 [] rfl (by decide) (by decide) (Nat.le_of_ble_eq_true rfl) rfl ?_
  refine z_iconst C (nI 3) dX0_addOfLine_4 (by decide) ?_
  refine z_ncmp_ne_f C 12 dX0_addOfLine_5 (by decide) (by omega) (by omega) (by omega) ?_
  refine z_iconst C (nI 1) dX0_addOfLine_8 (by decide) ?_
  refine z_goto C 13 dX0_addOfLine_9 (by decide) ?_
  refine z_istore C dX0_addOfLine_13 (Nat.le_of_ble_eq_true rfl) ?_
  refine z_aload_n C 0 dX0_addOfLine_15 rfl rfl ?_
  refine z_iload_n C 1 dX0_addOfLine_16 rfl rfl ?_
  refine z_iload_n C 2 dX0_addOfLine_17 rfl rfl ?_
  refine z_iload C dX0_addOfLine_18 rfl ?_
  refine z_nif_eq_f C 27 dX0_addOfLine_20 (by decide) (by omega) (by omega) ?_
  refine z_iload_n C 3 dX0_addOfLine_23 rfl rfl ?_
  refine z_goto C 29 dX0_addOfLine_24 (by decide) ?_
  refine z_iload C dX0_addOfLine_29 rfl ?_
  refine z_nif_eq_f C 39 dX0_addOfLine_31 (by decide) (by omega) (by omega) ?_
  refine z_bipush C (-5) dX0_addOfLine_34 (by decide) ?_
  refine z_goto C 40 dX0_addOfLine_36 (by decide) ?_
  refine z_bipush C (-5) dX0_addOfLine_40 (by decide) ?_
  refine z_callV (wn := [(h0, .inr (0, [.ref h1, .int (nI (M + 1))])), (h1, .inl (X.2.1.2.2.1, 360, .inl (zAdd g M (nI kk) au sl (-5) (-5))))]) C kX0_add gX0_addOfLine_X0_add (mX0_add X.2.1 h0 h1 g M (nI kk) au sl (-5) (-5) hM) dX0_addOfLine_42 [0, 1] [] 0 rfl rfl nd_0_1 rfl rfl rfl (by decide) (by decide) (Nat.le_of_ble_eq_true rfl) rfl rfl ?_
  exact z_iret C N dX0_addOfLine_45 (rfl) (rfl)

set_option maxHeartbeats 4000000 in
set_option maxRecDepth 100000 in
theorem mX0_addOfLine_r_full (E : zE) (h0 h1 : Nat) (g : Nat → Int32) (M : Nat) (kk : Nat) (au sl : Int32) (hM : M = 60) (hkk : kk < 2) : zM E yX0_addOfLine wsX0_addOfLine 3 [.ref h0, .int (nI kk), .int au, .int sl] [(h0, .inr (0, [.ref h1, .int (nI M)])), (h1, .inl (E.2.2.1, 360, .inl g))] [(h0, .inr (0, [.ref h1, .int (nI M)])), (h1, .inl (E.2.2.1, 360, .inl g))] (some (.int (-3))) := by
  refine zM.of kX0_addOfLine (Nat.le_of_ble_eq_true rfl) rfl [some (.ref h0), some (.int (nI kk)), some (.int au), some (.int sl), none] rfl (Nat.le_of_ble_eq_true rfl) ?_
  intro X eX C N
  subst eX
  refine z_iload_n C 1 dX0_addOfLine_0 rfl rfl ?_
  refine z_callS C kX0_lineFact gX0_addOfLine_X0_lineFact (mX0_lineFact_r X.2.1 kk hkk) dX0_addOfLine_1 [] rfl (by decide) (by decide) (Nat.le_of_ble_eq_true rfl) rfl ?_
  refine z_iconst C (nI 3) dX0_addOfLine_4 (by decide) ?_
  refine z_ncmp_ne_f C 12 dX0_addOfLine_5 (by decide) (by omega) (by omega) (by omega) ?_
  refine z_iconst C (nI 1) dX0_addOfLine_8 (by decide) ?_
  refine z_goto C 13 dX0_addOfLine_9 (by decide) ?_
  refine z_istore C dX0_addOfLine_13 (Nat.le_of_ble_eq_true rfl) ?_
  refine z_aload_n C 0 dX0_addOfLine_15 rfl rfl ?_
  refine z_iload_n C 1 dX0_addOfLine_16 rfl rfl ?_
  refine z_iload_n C 2 dX0_addOfLine_17 rfl rfl ?_
  refine z_iload C dX0_addOfLine_18 rfl ?_
  refine z_nif_eq_f C 27 dX0_addOfLine_20 (by decide) (by omega) (by omega) ?_
  refine z_iload_n C 3 dX0_addOfLine_23 rfl rfl ?_
  refine z_goto C 29 dX0_addOfLine_24 (by decide) ?_
  refine z_iload C dX0_addOfLine_29 rfl ?_
  refine z_nif_eq_f C 39 dX0_addOfLine_31 (by decide) (by omega) (by omega) ?_
  refine z_bipush C (-5) dX0_addOfLine_34 (by decide) ?_
  refine z_goto C 40 dX0_addOfLine_36 (by decide) ?_
  refine z_bipush C (-5) dX0_addOfLine_40 (by decide) ?_
  refine z_callVr C kX0_add gX0_addOfLine_X0_add (mX0_add_full X.2.1 h0 h1 g M (nI kk) au sl (-5) (-5) hM) dX0_addOfLine_42 [0, 1] [] 0 rfl nd_0_1 rfl rfl rfl (by decide) (by decide) (Nat.le_of_ble_eq_true rfl) rfl ?_
  exact z_iret C N dX0_addOfLine_45 (rfl) (rfl)

theorem kX0_pendingOfLine : zY yX0_pendingOfLine wsX0_pendingOfLine cX0_pendingOfLine 5 (some .int) 2 := ⟨⟨_, rfl⟩, ⟨by decide +kernel, by decide +kernel, by decide +kernel⟩, by decide +kernel⟩
theorem fX0_pendingOfLine_15 : zF wsX0_pendingOfLine RX0 15 0 1 RX0 TX0 2 := ⟨by decide +kernel, rfl, by decide, by decide +kernel, rfl⟩
set_option maxHeartbeats 4000000 in
set_option maxRecDepth 100000 in
theorem mX0_pendingOfLine_r (E : zE) (h0 h1 : Nat) (g : Nat → Int32) (M : Nat) (kk : Nat) (sl : Int32) (hM : M ≤ 60) (hkk : kk < 2) : zM E yX0_pendingOfLine wsX0_pendingOfLine 1 [.ref h0, .int (nI kk), .int sl] [(h0, .inr (0, [.ref h1, .int (nI M)])), (h1, .inl (E.2.2.1, 360, .inl g))] [(h0, .inr (0, [.ref h1, .int (nI M)])), (h1, .inl (E.2.2.1, 360, .inl g))] (some (.int (zf (pLn g (nI kk) 3 sl) M))) := by
  refine zM.of kX0_pendingOfLine (Nat.le_of_ble_eq_true rfl) rfl [some (.ref h0), some (.int (nI kk)), some (.int sl), none, none] rfl (Nat.le_of_ble_eq_true rfl) ?_
  intro X eX C N
  subst eX
  refine z_iload_n C 1 dX0_pendingOfLine_0 rfl rfl ?_
  refine z_callS C kX0_lineFact gX0_pendingOfLine_X0_lineFact (mX0_lineFact_r X.2.1 kk hkk) dX0_pendingOfLine_1 [] rfl (by decide) (by decide) (Nat.le_of_ble_eq_true rfl) rfl ?_
  refine z_istore_n C 3 dX0_pendingOfLine_4 rfl (Nat.le_of_ble_eq_true rfl) ?_
  refine z_iconst C (nI 0) dX0_pendingOfLine_5 (by decide) ?_
  refine z_istore C dX0_pendingOfLine_6 (Nat.le_of_ble_eq_true rfl) ?_
  have hL8 : ∀ (dd : Nat) (k : Nat), M - k = dd → (k ≤ M) → (∀ j, j < k → (pLn g (nI kk) 3 sl) j = false) → zG X 0 0 [(h0, .inr (0, [.ref h1, .int (nI M)])), (h1, .inl (X.2.1.2.2.1, 360, .inl g))] [some (.ref h0), some (.int (nI kk)), some (.int sl), some (.int (nI 3)), some (.int (nI k))] [] 8 := by
    intro dd
    induction dd using Nat.strongRecOn with
    | _ dd ih8 =>
    intro k hdd hk hf
    refine z_iload C dX0_pendingOfLine_8 rfl ?_
    refine z_aload_n C 0 dX0_pendingOfLine_10 rfl rfl ?_
    refine z_get C fX0_pendingOfLine_15 0 dX0_pendingOfLine_11 rfl rfl ?_
    refine z_ncmp_ge C 58 dX0_pendingOfLine_14 (by decide) (by omega) (by omega) (fun h_1 => ?_) (fun h_1 => ?_)
    · refine z_bipush C (-5) dX0_pendingOfLine_58 (by decide) ?_
      exact z_iret C N dX0_pendingOfLine_60 (rfl) (by rw [zf_no (fun j hj => hf j (by omega))])
    · refine z_aload_n C 0 dX0_pendingOfLine_17 rfl rfl ?_
      refine z_iload C dX0_pendingOfLine_18 rfl ?_
      refine z_iconst C (nI 2) dX0_pendingOfLine_20 (by decide) ?_
      refine z_callVr C kX0_fact gX0_pendingOfLine_X0_fact (mX0_fact X.2.1 h0 h1 g M k 2 hM h_1 (by first | assumption | omega)) dX0_pendingOfLine_21 [0, 1] [] 0 rfl nd_0_1 rfl rfl rfl (by decide) (by decide) (Nat.le_of_ble_eq_true rfl) rfl ?_
      refine z_if_ne C 52 dX0_pendingOfLine_24 (by decide) (fun h_2 => ?_) (fun h_2 => ?_)
      · refine z_iinc C (nI (k + 1)) dX0_pendingOfLine_52 rfl (zi_1 _) ?_
        refine z_goto C 8 dX0_pendingOfLine_55 (by decide) ?_
        exact ih8 (M - (k + 1)) (by omega) (k + 1) rfl (by omega) (lt_s hf (by simp [pLn, nI_eq, zz_0, zz_0s, h_1, h_2]))
      · refine z_aload_n C 0 dX0_pendingOfLine_27 rfl rfl ?_
        refine z_iload C dX0_pendingOfLine_28 rfl ?_
        refine z_iconst C (nI 0) dX0_pendingOfLine_30 (by decide) ?_
        refine z_callVr C kX0_fact gX0_pendingOfLine_X0_fact (mX0_fact X.2.1 h0 h1 g M k 0 hM h_1 (by first | assumption | omega)) dX0_pendingOfLine_31 [0, 1] [] 0 rfl nd_0_1 rfl rfl rfl (by decide) (by decide) (Nat.le_of_ble_eq_true rfl) rfl ?_
        refine z_top (y := g (6 * k)) rfl ?_
        refine z_iload_n C 1 dX0_pendingOfLine_34 rfl rfl ?_
        refine z_icmp_ne C 52 dX0_pendingOfLine_35 (by decide) (fun h_3 => ?_) (fun h_3 => ?_)
        · refine z_iinc C (nI (k + 1)) dX0_pendingOfLine_52 rfl (zi_1 _) ?_
          refine z_goto C 8 dX0_pendingOfLine_55 (by decide) ?_
          exact ih8 (M - (k + 1)) (by omega) (k + 1) rfl (by omega) (lt_s hf (by simp [pLn, nI_eq, zz_0, zz_0s, h_1, h_2, h_3]))
        · refine z_aload_n C 0 dX0_pendingOfLine_38 rfl rfl ?_
          refine z_iload C dX0_pendingOfLine_39 rfl ?_
          refine z_iload_n C 3 dX0_pendingOfLine_41 rfl rfl ?_
          refine z_callVr C kX0_fact gX0_pendingOfLine_X0_fact (mX0_fact X.2.1 h0 h1 g M k 3 hM h_1 (by first | assumption | omega)) dX0_pendingOfLine_42 [0, 1] [] 0 rfl nd_0_1 rfl rfl rfl (by decide) (by decide) (Nat.le_of_ble_eq_true rfl) rfl ?_
          refine z_iload_n C 2 dX0_pendingOfLine_45 rfl rfl ?_
          refine z_icmp_ne C 52 dX0_pendingOfLine_46 (by decide) (fun h_4 => ?_) (fun h_4 => ?_)
          · refine z_iinc C (nI (k + 1)) dX0_pendingOfLine_52 rfl (zi_1 _) ?_
            refine z_goto C 8 dX0_pendingOfLine_55 (by decide) ?_
            exact ih8 (M - (k + 1)) (by omega) (k + 1) rfl (by omega) (lt_s hf (by simp [pLn, nI_eq, zz_0, zz_0s, h_1, h_2, h_3, h_4]))
          · refine z_iload C dX0_pendingOfLine_49 rfl ?_
            exact z_iret C N dX0_pendingOfLine_51 (rfl) (by rw [zf_at (k := k) (by omega) (by simp [pLn, nI_eq, zz_0, zz_0s, h_1, h_2, h_3, h_4]) hf (by omega)])
  exact hL8 _ 0 rfl (by omega) (fun j h => absurd h (Nat.not_lt_zero j))

theorem kX0_insertionOf : zY yX0_insertionOf wsX0_insertionOf cX0_insertionOf 3 (some .int) 2 := ⟨⟨_, rfl⟩, ⟨by decide +kernel, by decide +kernel, by decide +kernel⟩, by decide +kernel⟩
set_option maxHeartbeats 4000000 in
set_option maxRecDepth 100000 in
theorem mX0_insertionOf_r (E : zE) (h0 h1 : Nat) (g : Nat → Int32) (M : Nat) (sl : Int32) (hM : M ≤ 60) : zM E yX0_insertionOf wsX0_insertionOf 2 [.ref h0, .int (nI 0), .int sl] [(h0, .inr (0, [.ref h1, .int (nI M)])), (h1, .inl (E.2.2.1, 360, .inl g))] [(h0, .inr (0, [.ref h1, .int (nI M)])), (h1, .inl (E.2.2.1, 360, .inl g))] (some (.int (zf (pLn g (nI 0) 3 sl) M))) := by
  refine zM.of kX0_insertionOf (Nat.le_of_ble_eq_true rfl) rfl [some (.ref h0), some (.int (nI 0)), some (.int sl)] rfl (Nat.le_of_ble_eq_true rfl) ?_
  intro X eX C N
  subst eX
  refine z_aload_n C 0 dX0_insertionOf_0 rfl rfl ?_
  refine z_iload_n C 1 dX0_insertionOf_1 rfl rfl ?_
  refine z_nif_ne_f C 9 dX0_insertionOf_2 (by decide) (by omega) (by omega) ?_
  refine z_iconst C (nI 0) dX0_insertionOf_5 (by decide) ?_
  refine z_goto C 10 dX0_insertionOf_6 (by decide) ?_
  refine z_iload_n C 2 dX0_insertionOf_10 rfl rfl ?_
  refine z_callVr C kX0_pendingOfLine gX0_insertionOf_X0_pendingOfLine (mX0_pendingOfLine_r X.2.1 h0 h1 g M 0 sl hM (by first | assumption | omega)) dX0_insertionOf_11 [0, 1] [] 0 rfl nd_0_1 rfl rfl rfl (by decide) (by decide) (Nat.le_of_ble_eq_true rfl) rfl ?_
  exact z_iret C N dX0_insertionOf_14 (rfl) (rfl)

theorem kX0_removalOf : zY yX0_removalOf wsX0_removalOf cX0_removalOf 3 (some .int) 2 := ⟨⟨_, rfl⟩, ⟨by decide +kernel, by decide +kernel, by decide +kernel⟩, by decide +kernel⟩
set_option maxHeartbeats 4000000 in
set_option maxRecDepth 100000 in
theorem mX0_removalOf_r (E : zE) (h0 h1 : Nat) (g : Nat → Int32) (M : Nat) (sl : Int32) (hM : M ≤ 60) : zM E yX0_removalOf wsX0_removalOf 2 [.ref h0, .int (nI 0), .int sl] [(h0, .inr (0, [.ref h1, .int (nI M)])), (h1, .inl (E.2.2.1, 360, .inl g))] [(h0, .inr (0, [.ref h1, .int (nI M)])), (h1, .inl (E.2.2.1, 360, .inl g))] (some (.int (zf (pLn g (nI 1) 3 sl) M))) := by
  refine zM.of kX0_removalOf (Nat.le_of_ble_eq_true rfl) rfl [some (.ref h0), some (.int (nI 0)), some (.int sl)] rfl (Nat.le_of_ble_eq_true rfl) ?_
  intro X eX C N
  subst eX
  refine z_aload_n C 0 dX0_removalOf_0 rfl rfl ?_
  refine z_iload_n C 1 dX0_removalOf_1 rfl rfl ?_
  refine z_nif_ne_f C 9 dX0_removalOf_2 (by decide) (by omega) (by omega) ?_
  refine z_iconst C (nI 1) dX0_removalOf_5 (by decide) ?_
  refine z_goto C 10 dX0_removalOf_6 (by decide) ?_
  refine z_iload_n C 2 dX0_removalOf_10 rfl rfl ?_
  refine z_callVr C kX0_pendingOfLine gX0_removalOf_X0_pendingOfLine (mX0_pendingOfLine_r X.2.1 h0 h1 g M 1 sl hM (by first | assumption | omega)) dX0_removalOf_11 [0, 1] [] 0 rfl nd_0_1 rfl rfl rfl (by decide) (by decide) (Nat.le_of_ble_eq_true rfl) rfl ?_
  exact z_iret C N dX0_removalOf_14 (rfl) (rfl)

theorem kX0_settingsOfLine : zY yX0_settingsOfLine wsX0_settingsOfLine cX0_settingsOfLine 6 (some .int) 2 := ⟨⟨_, rfl⟩, ⟨by decide +kernel, by decide +kernel, by decide +kernel⟩, by decide +kernel⟩
theorem fX0_settingsOfLine_15 : zF wsX0_settingsOfLine RX0 15 0 1 RX0 TX0 2 := ⟨by decide +kernel, rfl, by decide, by decide +kernel, rfl⟩
set_option maxHeartbeats 4000000 in
set_option maxRecDepth 100000 in
theorem mX0_settingsOfLine_r (E : zE) (h0 h1 : Nat) (g : Nat → Int32) (M : Nat) (sl : Int32) (hM : M ≤ 60) : zM E yX0_settingsOfLine wsX0_settingsOfLine 2 [.ref h0, .int (nI 0), .int sl] [(h0, .inr (0, [.ref h1, .int (nI M)])), (h1, .inl (E.2.2.1, 360, .inl g))] [(h0, .inr (0, [.ref h1, .int (nI M)])), (h1, .inl (E.2.2.1, 360, .inl g))] (some (.int (nI (zc (pSL g 3 sl) M)))) := by
  refine zM.of kX0_settingsOfLine (Nat.le_of_ble_eq_true rfl) rfl [some (.ref h0), some (.int (nI 0)), some (.int sl), none, none, none] rfl (Nat.le_of_ble_eq_true rfl) ?_
  intro X eX C N
  subst eX
  refine z_iload_n C 1 dX0_settingsOfLine_0 rfl rfl ?_
  refine z_nif_ne_f C 8 dX0_settingsOfLine_1 (by decide) (by omega) (by omega) ?_
  refine z_iconst C (nI 3) dX0_settingsOfLine_4 (by decide) ?_
  refine z_goto C 9 dX0_settingsOfLine_5 (by decide) ?_
  refine z_istore_n C 3 dX0_settingsOfLine_9 rfl (Nat.le_of_ble_eq_true rfl) ?_
  refine z_iconst C (nI 0) dX0_settingsOfLine_10 (by decide) ?_
  refine z_istore C dX0_settingsOfLine_11 (Nat.le_of_ble_eq_true rfl) ?_
  refine z_iconst C (nI 0) dX0_settingsOfLine_13 (by decide) ?_
  refine z_istore C dX0_settingsOfLine_14 (Nat.le_of_ble_eq_true rfl) ?_
  have hL16 : ∀ (dd : Nat) (k : Nat) (cn : Nat), M - k = dd → (k ≤ M) → (cn = zc (pSL g 3 sl) k) → (cn ≤ k) → zG X 0 0 [(h0, .inr (0, [.ref h1, .int (nI M)])), (h1, .inl (X.2.1.2.2.1, 360, .inl g))] [some (.ref h0), some (.int (nI 0)), some (.int sl), some (.int (nI 3)), some (.int (nI cn)), some (.int (nI k))] [] 16 := by
    intro dd
    induction dd using Nat.strongRecOn with
    | _ dd ih16 =>
    intro k cn hdd hk hc hcb
    refine z_iload C dX0_settingsOfLine_16 rfl ?_
    refine z_aload_n C 0 dX0_settingsOfLine_18 rfl rfl ?_
    refine z_get C fX0_settingsOfLine_15 0 dX0_settingsOfLine_19 rfl rfl ?_
    refine z_ncmp_ge C 65 dX0_settingsOfLine_22 (by decide) (by omega) (by omega) (fun h_1 => ?_) (fun h_1 => ?_)
    · refine z_iload C dX0_settingsOfLine_65 rfl ?_
      exact z_iret C N dX0_settingsOfLine_67 (rfl) (by rw [hc, show k = M by omega])
    · refine z_aload_n C 0 dX0_settingsOfLine_25 rfl rfl ?_
      refine z_iload C dX0_settingsOfLine_26 rfl ?_
      refine z_iconst C (nI 0) dX0_settingsOfLine_28 (by decide) ?_
      refine z_callVr C kX0_fact gX0_settingsOfLine_X0_fact (mX0_fact X.2.1 h0 h1 g M k 0 hM h_1 (by first | assumption | omega)) dX0_settingsOfLine_29 [0, 1] [] 0 rfl nd_0_1 rfl rfl rfl (by decide) (by decide) (Nat.le_of_ble_eq_true rfl) rfl ?_
      refine z_top (y := g (6 * k)) rfl ?_
      refine z_iconst C (nI 4) dX0_settingsOfLine_32 (by decide) ?_
      refine z_icmp_ne C 59 dX0_settingsOfLine_33 (by decide) (fun h_2 => ?_) (fun h_2 => ?_)
      · refine z_iinc C (nI (k + 1)) dX0_settingsOfLine_59 rfl (zi_1 _) ?_
        refine z_goto C 16 dX0_settingsOfLine_62 (by decide) ?_
        exact ih16 (M - (k + 1)) (by omega) (k + 1) cn rfl (by omega) (by subst hc; first | exact (zc_y (by simp [pSL, nI_eq, zz_0, zz_0s, h_1, h_2])).symm | exact (zc_n (by simp [pSL, nI_eq, zz_0, zz_0s, h_1, h_2])).symm) (by omega)
      · refine z_aload_n C 0 dX0_settingsOfLine_36 rfl rfl ?_
        refine z_iload C dX0_settingsOfLine_37 rfl ?_
        refine z_callVr C kX0_isPending gX0_settingsOfLine_X0_isPending (mX0_isPending X.2.1 h0 h1 g M k hM h_1) dX0_settingsOfLine_39 [0, 1] [] 0 rfl nd_0_1 rfl rfl rfl (by decide) (by decide) (Nat.le_of_ble_eq_true rfl) rfl ?_
        refine z_bif_eq C 59 dX0_settingsOfLine_42 (by decide) (fun h_3 => ?_) (fun h_3 => ?_)
        · refine z_iinc C (nI (k + 1)) dX0_settingsOfLine_59 rfl (zi_1 _) ?_
          refine z_goto C 16 dX0_settingsOfLine_62 (by decide) ?_
          exact ih16 (M - (k + 1)) (by omega) (k + 1) cn rfl (by omega) (by subst hc; first | exact (zc_y (by simp [pSL, nI_eq, zz_0, zz_0s, h_1, h_2, of_decide_eq_false h_3, h_3])).symm | exact (zc_n (by simp [pSL, nI_eq, zz_0, zz_0s, h_1, h_2, of_decide_eq_false h_3, h_3])).symm) (by omega)
        · refine z_aload_n C 0 dX0_settingsOfLine_45 rfl rfl ?_
          refine z_iload C dX0_settingsOfLine_46 rfl ?_
          refine z_iload_n C 3 dX0_settingsOfLine_48 rfl rfl ?_
          refine z_callVr C kX0_fact gX0_settingsOfLine_X0_fact (mX0_fact X.2.1 h0 h1 g M k 3 hM h_1 (by first | assumption | omega)) dX0_settingsOfLine_49 [0, 1] [] 0 rfl nd_0_1 rfl rfl rfl (by decide) (by decide) (Nat.le_of_ble_eq_true rfl) rfl ?_
          refine z_iload_n C 2 dX0_settingsOfLine_52 rfl rfl ?_
          refine z_icmp_ne C 59 dX0_settingsOfLine_53 (by decide) (fun h_4 => ?_) (fun h_4 => ?_)
          · refine z_iinc C (nI (k + 1)) dX0_settingsOfLine_59 rfl (zi_1 _) ?_
            refine z_goto C 16 dX0_settingsOfLine_62 (by decide) ?_
            exact ih16 (M - (k + 1)) (by omega) (k + 1) cn rfl (by omega) (by subst hc; first | exact (zc_y (by simp [pSL, nI_eq, zz_0, zz_0s, h_1, h_2, of_decide_eq_true h_3, h_3, h_4])).symm | exact (zc_n (by simp [pSL, nI_eq, zz_0, zz_0s, h_1, h_2, of_decide_eq_true h_3, h_3, h_4])).symm) (by omega)
          · refine z_iinc C (nI (cn + 1)) dX0_settingsOfLine_56 rfl (zi_1 _) ?_
            refine z_iinc C (nI (k + 1)) dX0_settingsOfLine_59 rfl (zi_1 _) ?_
            refine z_goto C 16 dX0_settingsOfLine_62 (by decide) ?_
            exact ih16 (M - (k + 1)) (by omega) (k + 1) (cn + 1) rfl (by omega) (by subst hc; first | exact (zc_y (by simp [pSL, nI_eq, zz_0, zz_0s, h_1, h_2, of_decide_eq_true h_3, h_3, h_4])).symm | exact (zc_n (by simp [pSL, nI_eq, zz_0, zz_0s, h_1, h_2, of_decide_eq_true h_3, h_3, h_4])).symm) (by omega)
  exact hL16 _ 0 0 rfl (by omega) (rfl) (by omega)

set_option maxHeartbeats 4000000 in
set_option maxRecDepth 100000 in
theorem mX0_addOfLine_c (E : zE) (h0 h1 : Nat) (g : Nat → Int32) (M : Nat) (kk : Nat) (au sl : Int32) (hM : M < 60) (hkk : 2 ≤ kk) (hkk5 : kk < 5) : zM E yX0_addOfLine wsX0_addOfLine 3 [.ref h0, .int (nI kk), .int au, .int sl] [(h0, .inr (0, [.ref h1, .int (nI M)])), (h1, .inl (E.2.2.1, 360, .inl g))] [(h0, .inr (0, [.ref h1, .int (nI (M + 1))])), (h1, .inl (E.2.2.1, 360, .inl (zAdd g M (nI kk) au (-5) sl (-5))))] (some (.int (nI M))) := by
  refine zM.of kX0_addOfLine (Nat.le_of_ble_eq_true rfl) rfl [some (.ref h0), some (.int (nI kk)), some (.int au), some (.int sl), none] rfl (Nat.le_of_ble_eq_true rfl) ?_
  intro X eX C N
  subst eX
  refine z_iload_n C 1 dX0_addOfLine_0 rfl rfl ?_
  refine z_callS C kX0_lineFact gX0_addOfLine_X0_lineFact (mX0_lineFact_c X.2.1 kk hkk hkk5) dX0_addOfLine_1 [] rfl (by decide) (by decide) (Nat.le_of_ble_eq_true rfl) rfl ?_
  refine z_iconst C (nI 3) dX0_addOfLine_4 (by decide) ?_
  refine z_ncmp_ne_t C 12 dX0_addOfLine_5 (by decide) (by omega) (by omega) (by omega) ?_
  refine z_iconst C (nI 0) dX0_addOfLine_12 (by decide) ?_
  refine z_istore C dX0_addOfLine_13 (Nat.le_of_ble_eq_true rfl) ?_
  refine z_aload_n C 0 dX0_addOfLine_15 rfl rfl ?_
  refine z_iload_n C 1 dX0_addOfLine_16 rfl rfl ?_
  refine z_iload_n C 2 dX0_addOfLine_17 rfl rfl ?_
  refine z_iload C dX0_addOfLine_18 rfl ?_
  refine z_nif_eq_t C 27 dX0_addOfLine_20 (by decide) (by omega) (by omega) ?_
  refine z_bipush C (-5) dX0_addOfLine_27 (by decide) ?_
  refine z_iload C dX0_addOfLine_29 rfl ?_
  refine z_nif_eq_t C 39 dX0_addOfLine_31 (by decide) (by omega) (by omega) ?_
  refine z_iload_n C 3 dX0_addOfLine_39 rfl rfl ?_
  refine z_bipush C (-5) dX0_addOfLine_40 (by decide) ?_
  refine z_callV (wn := [(h0, .inr (0, [.ref h1, .int (nI (M + 1))])), (h1, .inl (X.2.1.2.2.1, 360, .inl (zAdd g M (nI kk) au (-5) sl (-5))))]) C kX0_add gX0_addOfLine_X0_add (mX0_add X.2.1 h0 h1 g M (nI kk) au (-5) sl (-5) hM) dX0_addOfLine_42 [0, 1] [] 0 rfl rfl nd_0_1 rfl rfl rfl (by decide) (by decide) (Nat.le_of_ble_eq_true rfl) rfl rfl ?_
  exact z_iret C N dX0_addOfLine_45 (rfl) (rfl)

set_option maxHeartbeats 4000000 in
set_option maxRecDepth 100000 in
theorem mX0_addOfLine_c_full (E : zE) (h0 h1 : Nat) (g : Nat → Int32) (M : Nat) (kk : Nat) (au sl : Int32) (hM : M = 60) (hkk : 2 ≤ kk) (hkk5 : kk < 5) : zM E yX0_addOfLine wsX0_addOfLine 3 [.ref h0, .int (nI kk), .int au, .int sl] [(h0, .inr (0, [.ref h1, .int (nI M)])), (h1, .inl (E.2.2.1, 360, .inl g))] [(h0, .inr (0, [.ref h1, .int (nI M)])), (h1, .inl (E.2.2.1, 360, .inl g))] (some (.int (-3))) := by
  refine zM.of kX0_addOfLine (Nat.le_of_ble_eq_true rfl) rfl [some (.ref h0), some (.int (nI kk)), some (.int au), some (.int sl), none] rfl (Nat.le_of_ble_eq_true rfl) ?_
  intro X eX C N
  subst eX
  refine z_iload_n C 1 dX0_addOfLine_0 rfl rfl ?_
  refine z_callS C kX0_lineFact gX0_addOfLine_X0_lineFact (mX0_lineFact_c X.2.1 kk hkk hkk5) dX0_addOfLine_1 [] rfl (by decide) (by decide) (Nat.le_of_ble_eq_true rfl) rfl ?_
  refine z_iconst C (nI 3) dX0_addOfLine_4 (by decide) ?_
  refine z_ncmp_ne_t C 12 dX0_addOfLine_5 (by decide) (by omega) (by omega) (by omega) ?_
  refine z_iconst C (nI 0) dX0_addOfLine_12 (by decide) ?_
  refine z_istore C dX0_addOfLine_13 (Nat.le_of_ble_eq_true rfl) ?_
  refine z_aload_n C 0 dX0_addOfLine_15 rfl rfl ?_
  refine z_iload_n C 1 dX0_addOfLine_16 rfl rfl ?_
  refine z_iload_n C 2 dX0_addOfLine_17 rfl rfl ?_
  refine z_iload C dX0_addOfLine_18 rfl ?_
  refine z_nif_eq_t C 27 dX0_addOfLine_20 (by decide) (by omega) (by omega) ?_
  refine z_bipush C (-5) dX0_addOfLine_27 (by decide) ?_
  refine z_iload C dX0_addOfLine_29 rfl ?_
  refine z_nif_eq_t C 39 dX0_addOfLine_31 (by decide) (by omega) (by omega) ?_
  refine z_iload_n C 3 dX0_addOfLine_39 rfl rfl ?_
  refine z_bipush C (-5) dX0_addOfLine_40 (by decide) ?_
  refine z_callVr C kX0_add gX0_addOfLine_X0_add (mX0_add_full X.2.1 h0 h1 g M (nI kk) au (-5) sl (-5) hM) dX0_addOfLine_42 [0, 1] [] 0 rfl nd_0_1 rfl rfl rfl (by decide) (by decide) (Nat.le_of_ble_eq_true rfl) rfl ?_
  exact z_iret C N dX0_addOfLine_45 (rfl) (rfl)

set_option maxHeartbeats 4000000 in
set_option maxRecDepth 100000 in
theorem mX0_pendingOfLine_c (E : zE) (h0 h1 : Nat) (g : Nat → Int32) (M : Nat) (kk : Nat) (sl : Int32) (hM : M ≤ 60) (hkk : 2 ≤ kk) (hkk5 : kk < 5) : zM E yX0_pendingOfLine wsX0_pendingOfLine 1 [.ref h0, .int (nI kk), .int sl] [(h0, .inr (0, [.ref h1, .int (nI M)])), (h1, .inl (E.2.2.1, 360, .inl g))] [(h0, .inr (0, [.ref h1, .int (nI M)])), (h1, .inl (E.2.2.1, 360, .inl g))] (some (.int (zf (pLn g (nI kk) 4 sl) M))) := by
  refine zM.of kX0_pendingOfLine (Nat.le_of_ble_eq_true rfl) rfl [some (.ref h0), some (.int (nI kk)), some (.int sl), none, none] rfl (Nat.le_of_ble_eq_true rfl) ?_
  intro X eX C N
  subst eX
  refine z_iload_n C 1 dX0_pendingOfLine_0 rfl rfl ?_
  refine z_callS C kX0_lineFact gX0_pendingOfLine_X0_lineFact (mX0_lineFact_c X.2.1 kk hkk hkk5) dX0_pendingOfLine_1 [] rfl (by decide) (by decide) (Nat.le_of_ble_eq_true rfl) rfl ?_
  refine z_istore_n C 3 dX0_pendingOfLine_4 rfl (Nat.le_of_ble_eq_true rfl) ?_
  refine z_iconst C (nI 0) dX0_pendingOfLine_5 (by decide) ?_
  refine z_istore C dX0_pendingOfLine_6 (Nat.le_of_ble_eq_true rfl) ?_
  have hL8 : ∀ (dd : Nat) (k : Nat), M - k = dd → (k ≤ M) → (∀ j, j < k → (pLn g (nI kk) 4 sl) j = false) → zG X 0 0 [(h0, .inr (0, [.ref h1, .int (nI M)])), (h1, .inl (X.2.1.2.2.1, 360, .inl g))] [some (.ref h0), some (.int (nI kk)), some (.int sl), some (.int (nI 4)), some (.int (nI k))] [] 8 := by
    intro dd
    induction dd using Nat.strongRecOn with
    | _ dd ih8 =>
    intro k hdd hk hf
    refine z_iload C dX0_pendingOfLine_8 rfl ?_
    refine z_aload_n C 0 dX0_pendingOfLine_10 rfl rfl ?_
    refine z_get C fX0_pendingOfLine_15 0 dX0_pendingOfLine_11 rfl rfl ?_
    refine z_ncmp_ge C 58 dX0_pendingOfLine_14 (by decide) (by omega) (by omega) (fun h_1 => ?_) (fun h_1 => ?_)
    · refine z_bipush C (-5) dX0_pendingOfLine_58 (by decide) ?_
      exact z_iret C N dX0_pendingOfLine_60 (rfl) (by rw [zf_no (fun j hj => hf j (by omega))])
    · refine z_aload_n C 0 dX0_pendingOfLine_17 rfl rfl ?_
      refine z_iload C dX0_pendingOfLine_18 rfl ?_
      refine z_iconst C (nI 2) dX0_pendingOfLine_20 (by decide) ?_
      refine z_callVr C kX0_fact gX0_pendingOfLine_X0_fact (mX0_fact X.2.1 h0 h1 g M k 2 hM h_1 (by first | assumption | omega)) dX0_pendingOfLine_21 [0, 1] [] 0 rfl nd_0_1 rfl rfl rfl (by decide) (by decide) (Nat.le_of_ble_eq_true rfl) rfl ?_
      refine z_if_ne C 52 dX0_pendingOfLine_24 (by decide) (fun h_2 => ?_) (fun h_2 => ?_)
      · refine z_iinc C (nI (k + 1)) dX0_pendingOfLine_52 rfl (zi_1 _) ?_
        refine z_goto C 8 dX0_pendingOfLine_55 (by decide) ?_
        exact ih8 (M - (k + 1)) (by omega) (k + 1) rfl (by omega) (lt_s hf (by simp [pLn, nI_eq, zz_0, zz_0s, h_1, h_2]))
      · refine z_aload_n C 0 dX0_pendingOfLine_27 rfl rfl ?_
        refine z_iload C dX0_pendingOfLine_28 rfl ?_
        refine z_iconst C (nI 0) dX0_pendingOfLine_30 (by decide) ?_
        refine z_callVr C kX0_fact gX0_pendingOfLine_X0_fact (mX0_fact X.2.1 h0 h1 g M k 0 hM h_1 (by first | assumption | omega)) dX0_pendingOfLine_31 [0, 1] [] 0 rfl nd_0_1 rfl rfl rfl (by decide) (by decide) (Nat.le_of_ble_eq_true rfl) rfl ?_
        refine z_top (y := g (6 * k)) rfl ?_
        refine z_iload_n C 1 dX0_pendingOfLine_34 rfl rfl ?_
        refine z_icmp_ne C 52 dX0_pendingOfLine_35 (by decide) (fun h_3 => ?_) (fun h_3 => ?_)
        · refine z_iinc C (nI (k + 1)) dX0_pendingOfLine_52 rfl (zi_1 _) ?_
          refine z_goto C 8 dX0_pendingOfLine_55 (by decide) ?_
          exact ih8 (M - (k + 1)) (by omega) (k + 1) rfl (by omega) (lt_s hf (by simp [pLn, nI_eq, zz_0, zz_0s, h_1, h_2, h_3]))
        · refine z_aload_n C 0 dX0_pendingOfLine_38 rfl rfl ?_
          refine z_iload C dX0_pendingOfLine_39 rfl ?_
          refine z_iload_n C 3 dX0_pendingOfLine_41 rfl rfl ?_
          refine z_callVr C kX0_fact gX0_pendingOfLine_X0_fact (mX0_fact X.2.1 h0 h1 g M k 4 hM h_1 (by first | assumption | omega)) dX0_pendingOfLine_42 [0, 1] [] 0 rfl nd_0_1 rfl rfl rfl (by decide) (by decide) (Nat.le_of_ble_eq_true rfl) rfl ?_
          refine z_iload_n C 2 dX0_pendingOfLine_45 rfl rfl ?_
          refine z_icmp_ne C 52 dX0_pendingOfLine_46 (by decide) (fun h_4 => ?_) (fun h_4 => ?_)
          · refine z_iinc C (nI (k + 1)) dX0_pendingOfLine_52 rfl (zi_1 _) ?_
            refine z_goto C 8 dX0_pendingOfLine_55 (by decide) ?_
            exact ih8 (M - (k + 1)) (by omega) (k + 1) rfl (by omega) (lt_s hf (by simp [pLn, nI_eq, zz_0, zz_0s, h_1, h_2, h_3, h_4]))
          · refine z_iload C dX0_pendingOfLine_49 rfl ?_
            exact z_iret C N dX0_pendingOfLine_51 (rfl) (by rw [zf_at (k := k) (by omega) (by simp [pLn, nI_eq, zz_0, zz_0s, h_1, h_2, h_3, h_4]) hf (by omega)])
  exact hL8 _ 0 rfl (by omega) (fun j h => absurd h (Nat.not_lt_zero j))

set_option maxHeartbeats 4000000 in
set_option maxRecDepth 100000 in
theorem mX0_insertionOf_c (E : zE) (h0 h1 : Nat) (g : Nat → Int32) (M : Nat) (sl : Int32) (hM : M ≤ 60) : zM E yX0_insertionOf wsX0_insertionOf 2 [.ref h0, .int (nI 1), .int sl] [(h0, .inr (0, [.ref h1, .int (nI M)])), (h1, .inl (E.2.2.1, 360, .inl g))] [(h0, .inr (0, [.ref h1, .int (nI M)])), (h1, .inl (E.2.2.1, 360, .inl g))] (some (.int (zf (pLn g (nI 2) 4 sl) M))) := by
  refine zM.of kX0_insertionOf (Nat.le_of_ble_eq_true rfl) rfl [some (.ref h0), some (.int (nI 1)), some (.int sl)] rfl (Nat.le_of_ble_eq_true rfl) ?_
  intro X eX C N
  subst eX
  refine z_aload_n C 0 dX0_insertionOf_0 rfl rfl ?_
  refine z_iload_n C 1 dX0_insertionOf_1 rfl rfl ?_
  refine z_nif_ne_t C 9 dX0_insertionOf_2 (by decide) (by omega) (by omega) ?_
  refine z_iconst C (nI 2) dX0_insertionOf_9 (by decide) ?_
  refine z_iload_n C 2 dX0_insertionOf_10 rfl rfl ?_
  refine z_callVr C kX0_pendingOfLine gX0_insertionOf_X0_pendingOfLine (mX0_pendingOfLine_c X.2.1 h0 h1 g M 2 sl hM (by first | assumption | omega) (by first | assumption | omega)) dX0_insertionOf_11 [0, 1] [] 0 rfl nd_0_1 rfl rfl rfl (by decide) (by decide) (Nat.le_of_ble_eq_true rfl) rfl ?_
  exact z_iret C N dX0_insertionOf_14 (rfl) (rfl)

set_option maxHeartbeats 4000000 in
set_option maxRecDepth 100000 in
theorem mX0_removalOf_c (E : zE) (h0 h1 : Nat) (g : Nat → Int32) (M : Nat) (sl : Int32) (hM : M ≤ 60) : zM E yX0_removalOf wsX0_removalOf 2 [.ref h0, .int (nI 1), .int sl] [(h0, .inr (0, [.ref h1, .int (nI M)])), (h1, .inl (E.2.2.1, 360, .inl g))] [(h0, .inr (0, [.ref h1, .int (nI M)])), (h1, .inl (E.2.2.1, 360, .inl g))] (some (.int (zf (pLn g (nI 3) 4 sl) M))) := by
  refine zM.of kX0_removalOf (Nat.le_of_ble_eq_true rfl) rfl [some (.ref h0), some (.int (nI 1)), some (.int sl)] rfl (Nat.le_of_ble_eq_true rfl) ?_
  intro X eX C N
  subst eX
  refine z_aload_n C 0 dX0_removalOf_0 rfl rfl ?_
  refine z_iload_n C 1 dX0_removalOf_1 rfl rfl ?_
  refine z_nif_ne_t C 9 dX0_removalOf_2 (by decide) (by omega) (by omega) ?_
  refine z_iconst C (nI 3) dX0_removalOf_9 (by decide) ?_
  refine z_iload_n C 2 dX0_removalOf_10 rfl rfl ?_
  refine z_callVr C kX0_pendingOfLine gX0_removalOf_X0_pendingOfLine (mX0_pendingOfLine_c X.2.1 h0 h1 g M 3 sl hM (by first | assumption | omega) (by first | assumption | omega)) dX0_removalOf_11 [0, 1] [] 0 rfl nd_0_1 rfl rfl rfl (by decide) (by decide) (Nat.le_of_ble_eq_true rfl) rfl ?_
  exact z_iret C N dX0_removalOf_14 (rfl) (rfl)

set_option maxHeartbeats 4000000 in
set_option maxRecDepth 100000 in
theorem mX0_settingsOfLine_c (E : zE) (h0 h1 : Nat) (g : Nat → Int32) (M : Nat) (sl : Int32) (hM : M ≤ 60) : zM E yX0_settingsOfLine wsX0_settingsOfLine 2 [.ref h0, .int (nI 1), .int sl] [(h0, .inr (0, [.ref h1, .int (nI M)])), (h1, .inl (E.2.2.1, 360, .inl g))] [(h0, .inr (0, [.ref h1, .int (nI M)])), (h1, .inl (E.2.2.1, 360, .inl g))] (some (.int (nI (zc (pSL g 4 sl) M)))) := by
  refine zM.of kX0_settingsOfLine (Nat.le_of_ble_eq_true rfl) rfl [some (.ref h0), some (.int (nI 1)), some (.int sl), none, none, none] rfl (Nat.le_of_ble_eq_true rfl) ?_
  intro X eX C N
  subst eX
  refine z_iload_n C 1 dX0_settingsOfLine_0 rfl rfl ?_
  refine z_nif_ne_t C 8 dX0_settingsOfLine_1 (by decide) (by omega) (by omega) ?_
  refine z_iconst C (nI 4) dX0_settingsOfLine_8 (by decide) ?_
  refine z_istore_n C 3 dX0_settingsOfLine_9 rfl (Nat.le_of_ble_eq_true rfl) ?_
  refine z_iconst C (nI 0) dX0_settingsOfLine_10 (by decide) ?_
  refine z_istore C dX0_settingsOfLine_11 (Nat.le_of_ble_eq_true rfl) ?_
  refine z_iconst C (nI 0) dX0_settingsOfLine_13 (by decide) ?_
  refine z_istore C dX0_settingsOfLine_14 (Nat.le_of_ble_eq_true rfl) ?_
  have hL16 : ∀ (dd : Nat) (k : Nat) (cn : Nat), M - k = dd → (k ≤ M) → (cn = zc (pSL g 4 sl) k) → (cn ≤ k) → zG X 0 0 [(h0, .inr (0, [.ref h1, .int (nI M)])), (h1, .inl (X.2.1.2.2.1, 360, .inl g))] [some (.ref h0), some (.int (nI 1)), some (.int sl), some (.int (nI 4)), some (.int (nI cn)), some (.int (nI k))] [] 16 := by
    intro dd
    induction dd using Nat.strongRecOn with
    | _ dd ih16 =>
    intro k cn hdd hk hc hcb
    refine z_iload C dX0_settingsOfLine_16 rfl ?_
    refine z_aload_n C 0 dX0_settingsOfLine_18 rfl rfl ?_
    refine z_get C fX0_settingsOfLine_15 0 dX0_settingsOfLine_19 rfl rfl ?_
    refine z_ncmp_ge C 65 dX0_settingsOfLine_22 (by decide) (by omega) (by omega) (fun h_1 => ?_) (fun h_1 => ?_)
    · refine z_iload C dX0_settingsOfLine_65 rfl ?_
      exact z_iret C N dX0_settingsOfLine_67 (rfl) (by rw [hc, show k = M by omega])
    · refine z_aload_n C 0 dX0_settingsOfLine_25 rfl rfl ?_
      refine z_iload C dX0_settingsOfLine_26 rfl ?_
      refine z_iconst C (nI 0) dX0_settingsOfLine_28 (by decide) ?_
      refine z_callVr C kX0_fact gX0_settingsOfLine_X0_fact (mX0_fact X.2.1 h0 h1 g M k 0 hM h_1 (by first | assumption | omega)) dX0_settingsOfLine_29 [0, 1] [] 0 rfl nd_0_1 rfl rfl rfl (by decide) (by decide) (Nat.le_of_ble_eq_true rfl) rfl ?_
      refine z_top (y := g (6 * k)) rfl ?_
      refine z_iconst C (nI 4) dX0_settingsOfLine_32 (by decide) ?_
      refine z_icmp_ne C 59 dX0_settingsOfLine_33 (by decide) (fun h_2 => ?_) (fun h_2 => ?_)
      · refine z_iinc C (nI (k + 1)) dX0_settingsOfLine_59 rfl (zi_1 _) ?_
        refine z_goto C 16 dX0_settingsOfLine_62 (by decide) ?_
        exact ih16 (M - (k + 1)) (by omega) (k + 1) cn rfl (by omega) (by subst hc; first | exact (zc_y (by simp [pSL, nI_eq, zz_0, zz_0s, h_1, h_2])).symm | exact (zc_n (by simp [pSL, nI_eq, zz_0, zz_0s, h_1, h_2])).symm) (by omega)
      · refine z_aload_n C 0 dX0_settingsOfLine_36 rfl rfl ?_
        refine z_iload C dX0_settingsOfLine_37 rfl ?_
        refine z_callVr C kX0_isPending gX0_settingsOfLine_X0_isPending (mX0_isPending X.2.1 h0 h1 g M k hM h_1) dX0_settingsOfLine_39 [0, 1] [] 0 rfl nd_0_1 rfl rfl rfl (by decide) (by decide) (Nat.le_of_ble_eq_true rfl) rfl ?_
        refine z_bif_eq C 59 dX0_settingsOfLine_42 (by decide) (fun h_3 => ?_) (fun h_3 => ?_)
        · refine z_iinc C (nI (k + 1)) dX0_settingsOfLine_59 rfl (zi_1 _) ?_
          refine z_goto C 16 dX0_settingsOfLine_62 (by decide) ?_
          exact ih16 (M - (k + 1)) (by omega) (k + 1) cn rfl (by omega) (by subst hc; first | exact (zc_y (by simp [pSL, nI_eq, zz_0, zz_0s, h_1, h_2, of_decide_eq_false h_3, h_3])).symm | exact (zc_n (by simp [pSL, nI_eq, zz_0, zz_0s, h_1, h_2, of_decide_eq_false h_3, h_3])).symm) (by omega)
        · refine z_aload_n C 0 dX0_settingsOfLine_45 rfl rfl ?_
          refine z_iload C dX0_settingsOfLine_46 rfl ?_
          refine z_iload_n C 3 dX0_settingsOfLine_48 rfl rfl ?_
          refine z_callVr C kX0_fact gX0_settingsOfLine_X0_fact (mX0_fact X.2.1 h0 h1 g M k 4 hM h_1 (by first | assumption | omega)) dX0_settingsOfLine_49 [0, 1] [] 0 rfl nd_0_1 rfl rfl rfl (by decide) (by decide) (Nat.le_of_ble_eq_true rfl) rfl ?_
          refine z_iload_n C 2 dX0_settingsOfLine_52 rfl rfl ?_
          refine z_icmp_ne C 59 dX0_settingsOfLine_53 (by decide) (fun h_4 => ?_) (fun h_4 => ?_)
          · refine z_iinc C (nI (k + 1)) dX0_settingsOfLine_59 rfl (zi_1 _) ?_
            refine z_goto C 16 dX0_settingsOfLine_62 (by decide) ?_
            exact ih16 (M - (k + 1)) (by omega) (k + 1) cn rfl (by omega) (by subst hc; first | exact (zc_y (by simp [pSL, nI_eq, zz_0, zz_0s, h_1, h_2, of_decide_eq_true h_3, h_3, h_4])).symm | exact (zc_n (by simp [pSL, nI_eq, zz_0, zz_0s, h_1, h_2, of_decide_eq_true h_3, h_3, h_4])).symm) (by omega)
          · refine z_iinc C (nI (cn + 1)) dX0_settingsOfLine_56 rfl (zi_1 _) ?_
            refine z_iinc C (nI (k + 1)) dX0_settingsOfLine_59 rfl (zi_1 _) ?_
            refine z_goto C 16 dX0_settingsOfLine_62 (by decide) ?_
            exact ih16 (M - (k + 1)) (by omega) (k + 1) (cn + 1) rfl (by omega) (by subst hc; first | exact (zc_y (by simp [pSL, nI_eq, zz_0, zz_0s, h_1, h_2, of_decide_eq_true h_3, h_3, h_4])).symm | exact (zc_n (by simp [pSL, nI_eq, zz_0, zz_0s, h_1, h_2, of_decide_eq_true h_3, h_3, h_4])).symm) (by omega)
  exact hL16 _ 0 0 rfl (by omega) (rfl) (by omega)

theorem kX0_isSettingOf : zY yX0_isSettingOf wsX0_isSettingOf cX0_isSettingOf 5 (some .boolean) 3 := ⟨⟨_, rfl⟩, ⟨by decide +kernel, by decide +kernel, by decide +kernel⟩, by decide +kernel⟩
theorem fX0_isSettingOf_15 : zF wsX0_isSettingOf RX0 15 0 1 RX0 TX0 2 := ⟨by decide +kernel, rfl, by decide, by decide +kernel, rfl⟩
theorem fX0_isSettingOf_9 : zF wsX0_isSettingOf RX0 9 0 0 RX0 TX0 2 := ⟨by decide +kernel, rfl, by decide, by decide +kernel, rfl⟩
set_option maxHeartbeats 4000000 in
set_option maxRecDepth 100000 in
theorem mX0_isSettingOf (E : zE) (h0 h1 : Nat) (g : Nat → Int32) (M : Nat) (k : Nat) (r c : Int32) (hM : M ≤ 60) (hk : k < M) : zM E yX0_isSettingOf wsX0_isSettingOf 0 [.ref h0, .int (nI k), .int r, .int c] [(h0, .inr (0, [.ref h1, .int (nI M)])), (h1, .inl (E.2.2.1, 360, .inl g))] [(h0, .inr (0, [.ref h1, .int (nI M)])), (h1, .inl (E.2.2.1, 360, .inl g))] (some (.int (zb (pS g r c k)))) := by
  refine zM.of kX0_isSettingOf (Nat.le_of_ble_eq_true rfl) rfl [some (.ref h0), some (.int (nI k)), some (.int r), some (.int c), none] rfl (Nat.le_of_ble_eq_true rfl) ?_
  intro X eX C N
  subst eX
  refine z_iload_n C 1 dX0_isSettingOf_0 rfl rfl ?_
  refine z_nif_lt_f C 18 dX0_isSettingOf_1 (by decide) (by omega) (by trivial) ?_
  refine z_iload_n C 1 dX0_isSettingOf_4 rfl rfl ?_
  refine z_aload_n C 0 dX0_isSettingOf_5 rfl rfl ?_
  refine z_get C fX0_isSettingOf_15 0 dX0_isSettingOf_6 rfl rfl ?_
  refine z_ncmp_ge_f C 18 dX0_isSettingOf_9 (by decide) (by omega) (by omega) (by omega) ?_
  refine z_iload_n C 1 dX0_isSettingOf_12 rfl rfl ?_
  refine z_bipush C (nI 60) dX0_isSettingOf_13 (by decide) ?_
  refine z_ncmp_lt_t C 20 dX0_isSettingOf_15 (by decide) (by omega) (by omega) (by omega) ?_
  refine z_iload_n C 1 dX0_isSettingOf_20 rfl rfl ?_
  refine z_bipush C (nI 6) dX0_isSettingOf_21 (by decide) ?_
  refine z_imul C dX0_isSettingOf_23 ?_
  refine z_top (y := nI (6 * k)) ((pk_mul _ _).trans (congrArg nI (Nat.mul_comm _ _))) ?_
  refine z_istore C dX0_isSettingOf_24 (Nat.le_of_ble_eq_true rfl) ?_
  refine z_aload_n C 0 dX0_isSettingOf_26 rfl rfl ?_
  refine z_get C fX0_isSettingOf_9 0 dX0_isSettingOf_27 rfl rfl ?_
  refine z_iload C dX0_isSettingOf_30 rfl ?_
  refine z_iconst C (nI 2) dX0_isSettingOf_32 (by decide) ?_
  refine z_iadd C dX0_isSettingOf_33 ?_
  refine z_top (y := nI ((6 * k) + 2)) (nI_add _ _) ?_
  refine z_ialdN C 1 dX0_isSettingOf_34 rfl (by omega) (by decide) ?_
  refine z_if_ne C 81 dX0_isSettingOf_35 (by decide) (fun h_1 => ?_) (fun h_1 => ?_)
  · refine z_iconst C (nI 0) dX0_isSettingOf_81 (by decide) ?_
    exact z_zret C N dX0_isSettingOf_82 rfl (rfl) (congrArg (fun x => some (Value.int x)) (zb_f (by simp [pS, h_1])).symm)
  · refine z_aload_n C 0 dX0_isSettingOf_38 rfl rfl ?_
    refine z_get C fX0_isSettingOf_9 0 dX0_isSettingOf_39 rfl rfl ?_
    refine z_iload C dX0_isSettingOf_42 rfl ?_
    refine z_iconst C (nI 0) dX0_isSettingOf_44 (by decide) ?_
    refine z_iadd C dX0_isSettingOf_45 ?_
    refine z_top (y := nI (6 * k)) (nI_add _ _) ?_
    refine z_ialdN C 1 dX0_isSettingOf_46 rfl (by omega) (by decide) ?_
    refine z_iconst C (nI 4) dX0_isSettingOf_47 (by decide) ?_
    refine z_icmp_ne C 81 dX0_isSettingOf_48 (by decide) (fun h_2 => ?_) (fun h_2 => ?_)
    · refine z_iconst C (nI 0) dX0_isSettingOf_81 (by decide) ?_
      exact z_zret C N dX0_isSettingOf_82 rfl (rfl) (congrArg (fun x => some (Value.int x)) (zb_f (by simp [pS, h_1, h_2])).symm)
    · refine z_aload_n C 0 dX0_isSettingOf_51 rfl rfl ?_
      refine z_get C fX0_isSettingOf_9 0 dX0_isSettingOf_52 rfl rfl ?_
      refine z_iload C dX0_isSettingOf_55 rfl ?_
      refine z_iconst C (nI 3) dX0_isSettingOf_57 (by decide) ?_
      refine z_iadd C dX0_isSettingOf_58 ?_
      refine z_top (y := nI ((6 * k) + 3)) (nI_add _ _) ?_
      refine z_ialdN C 1 dX0_isSettingOf_59 rfl (by omega) (by decide) ?_
      refine z_iload_n C 2 dX0_isSettingOf_60 rfl rfl ?_
      refine z_icmp_ne C 81 dX0_isSettingOf_61 (by decide) (fun h_3 => ?_) (fun h_3 => ?_)
      · refine z_iconst C (nI 0) dX0_isSettingOf_81 (by decide) ?_
        exact z_zret C N dX0_isSettingOf_82 rfl (rfl) (congrArg (fun x => some (Value.int x)) (zb_f (by simp [pS, h_1, h_2, h_3])).symm)
      · refine z_aload_n C 0 dX0_isSettingOf_64 rfl rfl ?_
        refine z_get C fX0_isSettingOf_9 0 dX0_isSettingOf_65 rfl rfl ?_
        refine z_iload C dX0_isSettingOf_68 rfl ?_
        refine z_iconst C (nI 4) dX0_isSettingOf_70 (by decide) ?_
        refine z_iadd C dX0_isSettingOf_71 ?_
        refine z_top (y := nI ((6 * k) + 4)) (nI_add _ _) ?_
        refine z_ialdN C 1 dX0_isSettingOf_72 rfl (by omega) (by decide) ?_
        refine z_iload_n C 3 dX0_isSettingOf_73 rfl rfl ?_
        refine z_icmp_ne C 81 dX0_isSettingOf_74 (by decide) (fun h_4 => ?_) (fun h_4 => ?_)
        · refine z_iconst C (nI 0) dX0_isSettingOf_81 (by decide) ?_
          exact z_zret C N dX0_isSettingOf_82 rfl (rfl) (congrArg (fun x => some (Value.int x)) (zb_f (by simp [pS, h_1, h_2, h_3, h_4])).symm)
        · refine z_iconst C (nI 1) dX0_isSettingOf_77 (by decide) ?_
          refine z_goto C 82 dX0_isSettingOf_78 (by decide) ?_
          exact z_zret C N dX0_isSettingOf_82 rfl (rfl) (congrArg (fun x => some (Value.int x)) (zb_t (by simp [pS, h_1, h_2, h_3, h_4])).symm)

theorem kX0_settingsOfCell : zY yX0_settingsOfCell wsX0_settingsOfCell cX0_settingsOfCell 5 (some .int) 2 := ⟨⟨_, rfl⟩, ⟨by decide +kernel, by decide +kernel, by decide +kernel⟩, by decide +kernel⟩
theorem fX0_settingsOfCell_15 : zF wsX0_settingsOfCell RX0 15 0 1 RX0 TX0 2 := ⟨by decide +kernel, rfl, by decide, by decide +kernel, rfl⟩
set_option maxHeartbeats 4000000 in
set_option maxRecDepth 100000 in
theorem mX0_settingsOfCell (E : zE) (h0 h1 : Nat) (g : Nat → Int32) (M : Nat) (r c : Int32) (hM : M ≤ 60) : zM E yX0_settingsOfCell wsX0_settingsOfCell 1 [.ref h0, .int r, .int c] [(h0, .inr (0, [.ref h1, .int (nI M)])), (h1, .inl (E.2.2.1, 360, .inl g))] [(h0, .inr (0, [.ref h1, .int (nI M)])), (h1, .inl (E.2.2.1, 360, .inl g))] (some (.int (nI (zc (pS g r c) M)))) := by
  refine zM.of kX0_settingsOfCell (Nat.le_of_ble_eq_true rfl) rfl [some (.ref h0), some (.int r), some (.int c), none, none] rfl (Nat.le_of_ble_eq_true rfl) ?_
  intro X eX C N
  subst eX
  refine z_iconst C (nI 0) dX0_settingsOfCell_0 (by decide) ?_
  refine z_istore_n C 3 dX0_settingsOfCell_1 rfl (Nat.le_of_ble_eq_true rfl) ?_
  refine z_iconst C (nI 0) dX0_settingsOfCell_2 (by decide) ?_
  refine z_istore C dX0_settingsOfCell_3 (Nat.le_of_ble_eq_true rfl) ?_
  have hL5 : ∀ (dd : Nat) (k : Nat) (cn : Nat), M - k = dd → (k ≤ M) → (cn = zc (pS g r c) k) → (cn ≤ k) → zG X 0 0 [(h0, .inr (0, [.ref h1, .int (nI M)])), (h1, .inl (X.2.1.2.2.1, 360, .inl g))] [some (.ref h0), some (.int r), some (.int c), some (.int (nI cn)), some (.int (nI k))] [] 5 := by
    intro dd
    induction dd using Nat.strongRecOn with
    | _ dd ih5 =>
    intro k cn hdd hk hc hcb
    refine z_iload C dX0_settingsOfCell_5 rfl ?_
    refine z_aload_n C 0 dX0_settingsOfCell_7 rfl rfl ?_
    refine z_get C fX0_settingsOfCell_15 0 dX0_settingsOfCell_8 rfl rfl ?_
    refine z_ncmp_ge C 34 dX0_settingsOfCell_11 (by decide) (by omega) (by omega) (fun h_1 => ?_) (fun h_1 => ?_)
    · refine z_iload_n C 3 dX0_settingsOfCell_34 rfl rfl ?_
      exact z_iret C N dX0_settingsOfCell_35 (rfl) (by rw [hc, show k = M by omega])
    · refine z_aload_n C 0 dX0_settingsOfCell_14 rfl rfl ?_
      refine z_iload C dX0_settingsOfCell_15 rfl ?_
      refine z_iload_n C 1 dX0_settingsOfCell_17 rfl rfl ?_
      refine z_iload_n C 2 dX0_settingsOfCell_18 rfl rfl ?_
      refine z_callVr C kX0_isSettingOf gX0_settingsOfCell_X0_isSettingOf (mX0_isSettingOf X.2.1 h0 h1 g M k r c hM h_1) dX0_settingsOfCell_19 [0, 1] [] 0 rfl nd_0_1 rfl rfl rfl (by decide) (by decide) (Nat.le_of_ble_eq_true rfl) rfl ?_
      refine z_bif_eq C 28 dX0_settingsOfCell_22 (by decide) (fun h_2 => ?_) (fun h_2 => ?_)
      · refine z_iinc C (nI (k + 1)) dX0_settingsOfCell_28 rfl (zi_1 _) ?_
        refine z_goto C 5 dX0_settingsOfCell_31 (by decide) ?_
        exact ih5 (M - (k + 1)) (by omega) (k + 1) cn rfl (by omega) (by subst hc; first | exact (zc_y (by simp [h_1, h_2])).symm | exact (zc_n (by simp [h_1, h_2])).symm) (by omega)
      · refine z_iinc C (nI (cn + 1)) dX0_settingsOfCell_25 rfl (zi_1 _) ?_
        refine z_iinc C (nI (k + 1)) dX0_settingsOfCell_28 rfl (zi_1 _) ?_
        refine z_goto C 5 dX0_settingsOfCell_31 (by decide) ?_
        exact ih5 (M - (k + 1)) (by omega) (k + 1) (cn + 1) rfl (by omega) (by subst hc; first | exact (zc_y (by simp [h_1, h_2])).symm | exact (zc_n (by simp [h_1, h_2])).symm) (by omega)
  exact hL5 _ 0 0 rfl (by omega) (rfl) (by omega)

theorem kX0_settingAt : zY yX0_settingAt wsX0_settingAt cX0_settingAt 6 (some .int) 3 := ⟨⟨_, rfl⟩, ⟨by decide +kernel, by decide +kernel, by decide +kernel⟩, by decide +kernel⟩
theorem fX0_settingAt_15 : zF wsX0_settingAt RX0 15 0 1 RX0 TX0 2 := ⟨by decide +kernel, rfl, by decide, by decide +kernel, rfl⟩
set_option maxHeartbeats 4000000 in
set_option maxRecDepth 100000 in
theorem mX0_settingAt (E : zE) (h0 h1 : Nat) (g : Nat → Int32) (M : Nat) (r c x : Int32) (hM : M ≤ 60) : zM E yX0_settingAt wsX0_settingAt 1 [.ref h0, .int r, .int c, .int x] [(h0, .inr (0, [.ref h1, .int (nI M)])), (h1, .inl (E.2.2.1, 360, .inl g))] [(h0, .inr (0, [.ref h1, .int (nI M)])), (h1, .inl (E.2.2.1, 360, .inl g))] (some (.int (zf (pK (pS g r c) x) M))) := by
  refine zM.of kX0_settingAt (Nat.le_of_ble_eq_true rfl) rfl [some (.ref h0), some (.int r), some (.int c), some (.int x), none, none] rfl (Nat.le_of_ble_eq_true rfl) ?_
  intro X eX C N
  subst eX
  refine z_iconst C (nI 0) dX0_settingAt_0 (by decide) ?_
  refine z_istore C dX0_settingAt_1 (Nat.le_of_ble_eq_true rfl) ?_
  refine z_iconst C (nI 0) dX0_settingAt_3 (by decide) ?_
  refine z_istore C dX0_settingAt_4 (Nat.le_of_ble_eq_true rfl) ?_
  have hL6 : ∀ (dd : Nat) (k : Nat) (c1 : Nat), M - k = dd → (k ≤ M) → (c1 = zc (pS g r c) k) → (c1 ≤ k) → (∀ j, j < k → (pK (pS g r c) x) j = false) → zG X 0 0 [(h0, .inr (0, [.ref h1, .int (nI M)])), (h1, .inl (X.2.1.2.2.1, 360, .inl g))] [some (.ref h0), some (.int r), some (.int c), some (.int x), some (.int (nI c1)), some (.int (nI k))] [] 6 := by
    intro dd
    induction dd using Nat.strongRecOn with
    | _ dd ih6 =>
    intro k c1 hdd hk hc hcb hf
    refine z_iload C dX0_settingAt_6 rfl ?_
    refine z_aload_n C 0 dX0_settingAt_8 rfl rfl ?_
    refine z_get C fX0_settingAt_15 0 dX0_settingAt_9 rfl rfl ?_
    refine z_ncmp_ge C 44 dX0_settingAt_12 (by decide) (by omega) (by omega) (fun h_1 => ?_) (fun h_1 => ?_)
    · refine z_bipush C (-5) dX0_settingAt_44 (by decide) ?_
      exact z_iret C N dX0_settingAt_46 (rfl) (by rw [zf_no (fun j hj => hf j (by omega))])
    · refine z_aload_n C 0 dX0_settingAt_15 rfl rfl ?_
      refine z_iload C dX0_settingAt_16 rfl ?_
      refine z_iload_n C 1 dX0_settingAt_18 rfl rfl ?_
      refine z_iload_n C 2 dX0_settingAt_19 rfl rfl ?_
      refine z_callVr C kX0_isSettingOf gX0_settingAt_X0_isSettingOf (mX0_isSettingOf X.2.1 h0 h1 g M k r c hM h_1) dX0_settingAt_20 [0, 1] [] 0 rfl nd_0_1 rfl rfl rfl (by decide) (by decide) (Nat.le_of_ble_eq_true rfl) rfl ?_
      refine z_bif_eq C 38 dX0_settingAt_23 (by decide) (fun h_2 => ?_) (fun h_2 => ?_)
      · refine z_iinc C (nI (k + 1)) dX0_settingAt_38 rfl (zi_1 _) ?_
        refine z_goto C 6 dX0_settingAt_41 (by decide) ?_
        exact ih6 (M - (k + 1)) (by omega) (k + 1) c1 rfl (by omega) (by subst hc; first | exact (zc_y (by simp [h_1, h_2])).symm | exact (zc_n (by simp [h_1, h_2])).symm) (by omega) (lt_s hf (by subst hc; simp [pK, h_1, h_2]))
      · refine z_iload C dX0_settingAt_26 rfl ?_
        refine z_iload_n C 3 dX0_settingAt_28 rfl rfl ?_
        refine z_icmp_ne C 35 dX0_settingAt_29 (by decide) (fun h_3 => ?_) (fun h_3 => ?_)
        · refine z_iinc C (nI (c1 + 1)) dX0_settingAt_35 rfl (zi_1 _) ?_
          refine z_iinc C (nI (k + 1)) dX0_settingAt_38 rfl (zi_1 _) ?_
          refine z_goto C 6 dX0_settingAt_41 (by decide) ?_
          exact ih6 (M - (k + 1)) (by omega) (k + 1) (c1 + 1) rfl (by omega) (by subst hc; first | exact (zc_y (by simp [h_1, h_2, h_3])).symm | exact (zc_n (by simp [h_1, h_2, h_3])).symm) (by omega) (lt_s hf (by subst hc; simp [pK, h_1, h_2, h_3]))
        · refine z_iload C dX0_settingAt_32 rfl ?_
          exact z_iret C N dX0_settingAt_34 (rfl) (by rw [zf_at (k := k) (by omega) (by subst hc; simp [pK, h_1, h_2, h_3]) hf (by omega)])
  exact hL6 _ 0 0 rfl (by omega) (rfl) (by omega) (fun j h => absurd h (Nat.not_lt_zero j))

theorem kX0_settingUnder : zY yX0_settingUnder wsX0_settingUnder cX0_settingUnder 5 (some .int) 3 := ⟨⟨_, rfl⟩, ⟨by decide +kernel, by decide +kernel, by decide +kernel⟩, by decide +kernel⟩
theorem fX0_settingUnder_15 : zF wsX0_settingUnder RX0 15 0 1 RX0 TX0 2 := ⟨by decide +kernel, rfl, by decide, by decide +kernel, rfl⟩
theorem mn_X0_settingUnder : zMin wsX0_settingUnder RX0 53 := ⟨by decide +kernel, by decide +kernel, by decide +kernel, by decide +kernel⟩
set_option maxHeartbeats 4000000 in
set_option maxRecDepth 100000 in
theorem mX0_settingUnder (E : zE) (h0 h1 : Nat) (g : Nat → Int32) (M : Nat) (q : Nat) (r c : Int32) (hM : M ≤ 60) (hq : q ≤ 60) : zM E yX0_settingUnder wsX0_settingUnder 1 [.ref h0, .int (nI q), .int r, .int c] [(h0, .inr (0, [.ref h1, .int (nI M)])), (h1, .inl (E.2.2.1, 360, .inl g))] [(h0, .inr (0, [.ref h1, .int (nI M)])), (h1, .inl (E.2.2.1, 360, .inl g))] (some (.int (zg (pS g r c) (min q M)))) := by
  refine zM.of kX0_settingUnder (Nat.le_of_ble_eq_true rfl) rfl [some (.ref h0), some (.int (nI q)), some (.int r), some (.int c), none] rfl (Nat.le_of_ble_eq_true rfl) ?_
  intro X eX C N
  subst eX
  refine z_iload_n C 1 dX0_settingUnder_0 rfl rfl ?_
  refine z_aload_n C 0 dX0_settingUnder_1 rfl rfl ?_
  refine z_get C fX0_settingUnder_15 0 dX0_settingUnder_2 rfl rfl ?_
  refine z_mmin C mn_X0_settingUnder dX0_settingUnder_5 (by decide) (Nat.le_of_ble_eq_true rfl) ?_
  refine z_top (y := nI (min q M)) (z_min (by omega) (by omega)) ?_
  refine z_iconst C (nI 1) dX0_settingUnder_8 (by decide) ?_
  refine z_isub C dX0_settingUnder_9 ?_
  refine z_top (y := nI (min q M) + (-1)) (zi_s _) ?_
  refine z_istore C dX0_settingUnder_10 (Nat.le_of_ble_eq_true rfl) ?_
  have hL12 : ∀ (dd : Nat) (k : Nat), k = dd → (k ≤ min q M) → (∀ j, k ≤ j → j < min q M → (pS g r c) j = false) → zG X 0 0 [(h0, .inr (0, [.ref h1, .int (nI M)])), (h1, .inl (X.2.1.2.2.1, 360, .inl g))] [some (.ref h0), some (.int (nI q)), some (.int r), some (.int c), some (.int (nI k + (-1)))] [] 12 := by
    intro dd
    induction dd using Nat.strongRecOn with
    | _ dd ih12 =>
    intro k hdd hk hf
    cases k with
    | zero =>
      refine z_cv (lv' := [some (.ref h0), some (.int (nI q)), some (.int r), some (.int c), some (.int (-1))]) rfl (rfl) rfl ?_
      refine z_iload C dX0_settingUnder_12 rfl ?_
      refine z_if_lt_t C 37 dX0_settingUnder_14 (by decide) (by decide) ?_
      refine z_bipush C (-5) dX0_settingUnder_37 (by decide) ?_
      exact z_iret C N dX0_settingUnder_39 (rfl) (by rw [zg_no (fun j hj => hf j (Nat.zero_le _) hj)])
    | succ k =>
      refine z_cv (lv' := [some (.ref h0), some (.int (nI q)), some (.int r), some (.int c), some (.int (nI k))]) rfl (by rw [show nI (k + 1) + (-1) = nI k from pk_m1 k]) rfl ?_
      refine z_iload C dX0_settingUnder_12 rfl ?_
      refine z_nif_lt_f C 37 dX0_settingUnder_14 (by decide) (by omega) (by trivial) ?_
      refine z_aload_n C 0 dX0_settingUnder_17 rfl rfl ?_
      refine z_iload C dX0_settingUnder_18 rfl ?_
      refine z_iload_n C 2 dX0_settingUnder_20 rfl rfl ?_
      refine z_iload_n C 3 dX0_settingUnder_21 rfl rfl ?_
      refine z_callVr C kX0_isSettingOf gX0_settingUnder_X0_isSettingOf (mX0_isSettingOf X.2.1 h0 h1 g M k r c hM (by first | assumption | omega)) dX0_settingUnder_22 [0, 1] [] 0 rfl nd_0_1 rfl rfl rfl (by decide) (by decide) (Nat.le_of_ble_eq_true rfl) rfl ?_
      refine z_bif_eq C 31 dX0_settingUnder_25 (by decide) (fun h_1 => ?_) (fun h_1 => ?_)
      · refine z_iinc C (nI k + (-1)) dX0_settingUnder_31 rfl (zi_m _) ?_
        refine z_goto C 12 dX0_settingUnder_34 (by decide) ?_
        exact ih12 (k) (by omega) k rfl (by omega) (fun j a b => (Nat.eq_or_lt_of_le a).elim (fun e => by subst e; simp [h_1]) (fun e => hf j e b))
      · refine z_iload C dX0_settingUnder_28 rfl ?_
        exact z_iret C N dX0_settingUnder_30 (rfl) (by rw [zg_at (k := k) (by simp [h_1]) (fun j a b => hf j a b) (by omega)])
  exact hL12 _ (min q M) rfl (Nat.le_refl _) (fun j a b => absurd b (by omega))

theorem kX0_rests : zY yX0_rests wsX0_rests cX0_rests 6 (some .boolean) 2 := ⟨⟨_, rfl⟩, ⟨by decide +kernel, by decide +kernel, by decide +kernel⟩, by decide +kernel⟩
set_option maxHeartbeats 4000000 in
set_option maxRecDepth 100000 in
theorem mX0_rests (E : zE) (h0 h1 : Nat) (g : Nat → Int32) (M : Nat) (a b : Nat) (hM : M ≤ 60) (ha : a < M) (hb : b < M) : zM E yX0_rests wsX0_rests 2 [.ref h0, .int (nI a), .int (nI b)] [(h0, .inr (0, [.ref h1, .int (nI M)])), (h1, .inl (E.2.2.1, 360, .inl g))] [(h0, .inr (0, [.ref h1, .int (nI M)])), (h1, .inl (E.2.2.1, 360, .inl g))] (some (.int (zb (zrs g a b)))) := by
  refine zM.of kX0_rests (Nat.le_of_ble_eq_true rfl) rfl [some (.ref h0), some (.int (nI a)), some (.int (nI b)), none, none, none] rfl (Nat.le_of_ble_eq_true rfl) ?_
  intro X eX C N
  subst eX
  refine z_aload_n C 0 dX0_rests_0 rfl rfl ?_
  refine z_iload_n C 1 dX0_rests_1 rfl rfl ?_
  refine z_callVr C kX0_isPending gX0_rests_X0_isPending (mX0_isPending X.2.1 h0 h1 g M a hM ha) dX0_rests_2 [0, 1] [] 0 rfl nd_0_1 rfl rfl rfl (by decide) (by decide) (Nat.le_of_ble_eq_true rfl) rfl ?_
  refine z_bif_eq C 16 dX0_rests_5 (by decide) (fun h_1 => ?_) (fun h_1 => ?_)
  · refine z_iconst C (nI 0) dX0_rests_16 (by decide) ?_
    exact z_zret C N dX0_rests_17 rfl (rfl) (congrArg (fun x => some (Value.int x)) (zb_f (by simp [zrs, nI_eq, zz_0, zz_0s, of_decide_eq_false h_1, h_1])).symm)
  · refine z_aload_n C 0 dX0_rests_8 rfl rfl ?_
    refine z_iload_n C 2 dX0_rests_9 rfl rfl ?_
    refine z_callVr C kX0_isPending gX0_rests_X0_isPending (mX0_isPending X.2.1 h0 h1 g M b hM hb) dX0_rests_10 [0, 1] [] 0 rfl nd_0_1 rfl rfl rfl (by decide) (by decide) (Nat.le_of_ble_eq_true rfl) rfl ?_
    refine z_bif_ne C 18 dX0_rests_13 (by decide) (fun h_2 => ?_) (fun h_2 => ?_)
    · refine z_aload_n C 0 dX0_rests_18 rfl rfl ?_
      refine z_iload_n C 1 dX0_rests_19 rfl rfl ?_
      refine z_iconst C (nI 3) dX0_rests_20 (by decide) ?_
      refine z_callVr C kX0_fact gX0_rests_X0_fact (mX0_fact X.2.1 h0 h1 g M a 3 hM ha (by first | assumption | omega)) dX0_rests_21 [0, 1] [] 0 rfl nd_0_1 rfl rfl rfl (by decide) (by decide) (Nat.le_of_ble_eq_true rfl) rfl ?_
      refine z_aload_n C 0 dX0_rests_24 rfl rfl ?_
      refine z_iload_n C 2 dX0_rests_25 rfl rfl ?_
      refine z_iconst C (nI 3) dX0_rests_26 (by decide) ?_
      refine z_callVr C kX0_fact gX0_rests_X0_fact (mX0_fact X.2.1 h0 h1 g M b 3 hM hb (by first | assumption | omega)) dX0_rests_27 [0, 1] [.int (g (6 * a + 3))] 0 rfl nd_0_1 rfl rfl rfl (by decide) (by decide) (Nat.le_of_ble_eq_true rfl) rfl ?_
      refine z_icmp_ne C 37 dX0_rests_30 (by decide) (fun h_3 => ?_) (fun h_3 => ?_)
      · refine z_iconst C (nI 0) dX0_rests_37 (by decide) ?_
        refine z_istore_n C 3 dX0_rests_38 rfl (Nat.le_of_ble_eq_true rfl) ?_
        refine z_aload_n C 0 dX0_rests_39 rfl rfl ?_
        refine z_iload_n C 1 dX0_rests_40 rfl rfl ?_
        refine z_iconst C (nI 4) dX0_rests_41 (by decide) ?_
        refine z_callVr C kX0_fact gX0_rests_X0_fact (mX0_fact X.2.1 h0 h1 g M a 4 hM ha (by first | assumption | omega)) dX0_rests_42 [0, 1] [] 0 rfl nd_0_1 rfl rfl rfl (by decide) (by decide) (Nat.le_of_ble_eq_true rfl) rfl ?_
        refine z_aload_n C 0 dX0_rests_45 rfl rfl ?_
        refine z_iload_n C 2 dX0_rests_46 rfl rfl ?_
        refine z_iconst C (nI 4) dX0_rests_47 (by decide) ?_
        refine z_callVr C kX0_fact gX0_rests_X0_fact (mX0_fact X.2.1 h0 h1 g M b 4 hM hb (by first | assumption | omega)) dX0_rests_48 [0, 1] [.int (g (6 * a + 4))] 0 rfl nd_0_1 rfl rfl rfl (by decide) (by decide) (Nat.le_of_ble_eq_true rfl) rfl ?_
        refine z_icmp_ne C 58 dX0_rests_51 (by decide) (fun h_4 => ?_) (fun h_4 => ?_)
        · refine z_iconst C (nI 0) dX0_rests_58 (by decide) ?_
          refine z_istore C dX0_rests_59 (Nat.le_of_ble_eq_true rfl) ?_
          refine z_aload_n C 0 dX0_rests_61 rfl rfl ?_
          refine z_iload_n C 2 dX0_rests_62 rfl rfl ?_
          refine z_iconst C (nI 0) dX0_rests_63 (by decide) ?_
          refine z_callVr C kX0_fact gX0_rests_X0_fact (mX0_fact X.2.1 h0 h1 g M b 0 hM hb (by first | assumption | omega)) dX0_rests_64 [0, 1] [] 0 rfl nd_0_1 rfl rfl rfl (by decide) (by decide) (Nat.le_of_ble_eq_true rfl) rfl ?_
          refine z_top (y := g (6 * b)) rfl ?_
          refine z_istore C dX0_rests_67 (Nat.le_of_ble_eq_true rfl) ?_
          refine z_aload_n C 0 dX0_rests_69 rfl rfl ?_
          refine z_iload_n C 1 dX0_rests_70 rfl rfl ?_
          refine z_iconst C (nI 0) dX0_rests_71 (by decide) ?_
          refine z_callVr C kX0_fact gX0_rests_X0_fact (mX0_fact X.2.1 h0 h1 g M a 0 hM ha (by first | assumption | omega)) dX0_rests_72 [0, 1] [] 0 rfl nd_0_1 rfl rfl rfl (by decide) (by decide) (Nat.le_of_ble_eq_true rfl) rfl ?_
          refine z_top (y := g (6 * a)) rfl ?_
          by_cases hs_5 : g (6 * a) = nI 1
          · refine z_tsAt C 1 104 dX0_rests_75 (by rw [hs_5]; decide) (by decide) rfl (by decide) ?_
            refine z_iload C dX0_rests_104 rfl ?_
            refine z_if_ne C 117 dX0_rests_106 (by decide) (fun h_6 => ?_) (fun h_6 => ?_)
            · refine z_iconst C (nI 0) dX0_rests_117 (by decide) ?_
              exact z_zret C N dX0_rests_118 rfl (rfl) (congrArg (fun x => some (Value.int x)) (zb_f (by simp [zrs, nI_eq, zz_0, zz_0s, of_decide_eq_true h_1, h_1, of_decide_eq_true h_2, h_2, h_3, h_4, hs_5, h_6])).symm)
            · refine z_iload_n C 3 dX0_rests_109 rfl rfl ?_
              refine z_nif_eq_t C 117 dX0_rests_110 (by decide) (by omega) (by omega) ?_
              refine z_iconst C (nI 0) dX0_rests_117 (by decide) ?_
              exact z_zret C N dX0_rests_118 rfl (rfl) (congrArg (fun x => some (Value.int x)) (zb_f (by simp [zrs, nI_eq, zz_0, zz_0s, of_decide_eq_true h_1, h_1, of_decide_eq_true h_2, h_2, h_3, h_4, hs_5, h_6])).symm)
          by_cases hs_7 : g (6 * a) = nI 2
          · refine z_tsAt C 2 182 dX0_rests_75 (by rw [hs_7]; decide) (by decide) rfl (by decide) ?_
            refine z_iconst C (nI 0) dX0_rests_182 (by decide) ?_
            exact z_zret C N dX0_rests_183 rfl (rfl) (congrArg (fun x => some (Value.int x)) (zb_f (by simp [zrs, nI_eq, zz_0, zz_0s, of_decide_eq_true h_1, h_1, of_decide_eq_true h_2, h_2, h_3, h_4, hs_5, hs_7])).symm)
          by_cases hs_8 : g (6 * a) = nI 3
          · refine z_tsAt C 3 119 dX0_rests_75 (by rw [hs_8]; decide) (by decide) rfl (by decide) ?_
            refine z_iload C dX0_rests_119 rfl ?_
            refine z_iconst C (nI 2) dX0_rests_121 (by decide) ?_
            refine z_icmp_ne C 134 dX0_rests_122 (by decide) (fun h_9 => ?_) (fun h_9 => ?_)
            · refine z_iconst C (nI 0) dX0_rests_134 (by decide) ?_
              exact z_zret C N dX0_rests_135 rfl (rfl) (congrArg (fun x => some (Value.int x)) (zb_f (by simp [zrs, nI_eq, zz_0, zz_0s, of_decide_eq_true h_1, h_1, of_decide_eq_true h_2, h_2, h_3, h_4, hs_5, hs_7, hs_8, h_9])).symm)
            · refine z_iload C dX0_rests_125 rfl ?_
              refine z_nif_eq_t C 134 dX0_rests_127 (by decide) (by omega) (by omega) ?_
              refine z_iconst C (nI 0) dX0_rests_134 (by decide) ?_
              exact z_zret C N dX0_rests_135 rfl (rfl) (congrArg (fun x => some (Value.int x)) (zb_f (by simp [zrs, nI_eq, zz_0, zz_0s, of_decide_eq_true h_1, h_1, of_decide_eq_true h_2, h_2, h_3, h_4, hs_5, hs_7, hs_8, h_9])).symm)
          by_cases hs_10 : g (6 * a) = nI 4
          · refine z_tsAt C 4 136 dX0_rests_75 (by rw [hs_10]; decide) (by decide) rfl (by decide) ?_
            refine z_iload C dX0_rests_136 rfl ?_
            refine z_if_ne C 145 dX0_rests_138 (by decide) (fun h_11 => ?_) (fun h_11 => ?_)
            · refine z_iload C dX0_rests_145 rfl ?_
              refine z_iconst C (nI 2) dX0_rests_147 (by decide) ?_
              refine z_icmp_ne C 156 dX0_rests_148 (by decide) (fun h_12 => ?_) (fun h_12 => ?_)
              · refine z_iload C dX0_rests_156 rfl ?_
                refine z_iconst C (nI 4) dX0_rests_158 (by decide) ?_
                refine z_icmp_ne C 180 dX0_rests_159 (by decide) (fun h_13 => ?_) (fun h_13 => ?_)
                · refine z_iconst C (nI 0) dX0_rests_180 (by decide) ?_
                  exact z_zret C N dX0_rests_181 rfl (rfl) (congrArg (fun x => some (Value.int x)) (zb_f (by simp [zrs, nI_eq, zz_0, zz_0s, of_decide_eq_true h_1, h_1, of_decide_eq_true h_2, h_2, h_3, h_4, hs_5, hs_7, hs_8, hs_10, h_11, h_12, h_13])).symm)
                · refine z_iload_n C 3 dX0_rests_162 rfl rfl ?_
                  refine z_nif_eq_t C 180 dX0_rests_163 (by decide) (by omega) (by omega) ?_
                  refine z_iconst C (nI 0) dX0_rests_180 (by decide) ?_
                  exact z_zret C N dX0_rests_181 rfl (rfl) (congrArg (fun x => some (Value.int x)) (zb_f (by simp [zrs, nI_eq, zz_0, zz_0s, of_decide_eq_true h_1, h_1, of_decide_eq_true h_2, h_2, h_3, h_4, hs_5, hs_7, hs_8, hs_10, h_11, h_12, h_13])).symm)
              · refine z_iload C dX0_rests_151 rfl ?_
                refine z_nif_ne_f C 176 dX0_rests_153 (by decide) (by omega) (by omega) ?_
                refine z_iload C dX0_rests_156 rfl ?_
                refine z_iconst C (nI 4) dX0_rests_158 (by decide) ?_
                refine z_icmp_ne_t C 180 dX0_rests_159 (by decide) (fun q => absurd (h_12.symm.trans q) (by decide)) ?_
                refine z_iconst C (nI 0) dX0_rests_180 (by decide) ?_
                exact z_zret C N dX0_rests_181 rfl (rfl) (congrArg (fun x => some (Value.int x)) (zb_f (by simp [zrs, nI_eq, zz_0, zz_0s, of_decide_eq_true h_1, h_1, of_decide_eq_true h_2, h_2, h_3, h_4, hs_5, hs_7, hs_8, hs_10, h_11, h_12])).symm)
            · refine z_iload_n C 3 dX0_rests_141 rfl rfl ?_
              refine z_nif_ne_f C 176 dX0_rests_142 (by decide) (by omega) (by omega) ?_
              refine z_iload C dX0_rests_145 rfl ?_
              refine z_iconst C (nI 2) dX0_rests_147 (by decide) ?_
              refine z_icmp_ne_t C 156 dX0_rests_148 (by decide) (fun q => absurd (h_11.symm.trans q) (by decide)) ?_
              refine z_iload C dX0_rests_156 rfl ?_
              refine z_iconst C (nI 4) dX0_rests_158 (by decide) ?_
              refine z_icmp_ne_t C 180 dX0_rests_159 (by decide) (fun q => absurd (h_11.symm.trans q) (by decide)) ?_
              refine z_iconst C (nI 0) dX0_rests_180 (by decide) ?_
              exact z_zret C N dX0_rests_181 rfl (rfl) (congrArg (fun x => some (Value.int x)) (zb_f (by simp [zrs, nI_eq, zz_0, zz_0s, of_decide_eq_true h_1, h_1, of_decide_eq_true h_2, h_2, h_3, h_4, hs_5, hs_7, hs_8, hs_10, h_11])).symm)
          refine z_tsOut C 182 dX0_rests_75 (by have e1 := z_neN (c := 1) (by decide) hs_5; have e2 := z_neN (c := 2) (by decide) hs_7; have e3 := z_neN (c := 3) (by decide) hs_8; have e4 := z_neN (c := 4) (by decide) hs_10; omega) (by decide) ?_
          refine z_iconst C (nI 0) dX0_rests_182 (by decide) ?_
          exact z_zret C N dX0_rests_183 rfl (rfl) (congrArg (fun x => some (Value.int x)) (zb_f (by simp [zrs, nI_eq, zz_0, zz_0s, of_decide_eq_true h_1, h_1, of_decide_eq_true h_2, h_2, h_3, h_4, hs_5, hs_7, hs_8, hs_10])).symm)
        · refine z_iconst C (nI 1) dX0_rests_54 (by decide) ?_
          refine z_goto C 59 dX0_rests_55 (by decide) ?_
          refine z_istore C dX0_rests_59 (Nat.le_of_ble_eq_true rfl) ?_
          refine z_aload_n C 0 dX0_rests_61 rfl rfl ?_
          refine z_iload_n C 2 dX0_rests_62 rfl rfl ?_
          refine z_iconst C (nI 0) dX0_rests_63 (by decide) ?_
          refine z_callVr C kX0_fact gX0_rests_X0_fact (mX0_fact X.2.1 h0 h1 g M b 0 hM hb (by first | assumption | omega)) dX0_rests_64 [0, 1] [] 0 rfl nd_0_1 rfl rfl rfl (by decide) (by decide) (Nat.le_of_ble_eq_true rfl) rfl ?_
          refine z_top (y := g (6 * b)) rfl ?_
          refine z_istore C dX0_rests_67 (Nat.le_of_ble_eq_true rfl) ?_
          refine z_aload_n C 0 dX0_rests_69 rfl rfl ?_
          refine z_iload_n C 1 dX0_rests_70 rfl rfl ?_
          refine z_iconst C (nI 0) dX0_rests_71 (by decide) ?_
          refine z_callVr C kX0_fact gX0_rests_X0_fact (mX0_fact X.2.1 h0 h1 g M a 0 hM ha (by first | assumption | omega)) dX0_rests_72 [0, 1] [] 0 rfl nd_0_1 rfl rfl rfl (by decide) (by decide) (Nat.le_of_ble_eq_true rfl) rfl ?_
          refine z_top (y := g (6 * a)) rfl ?_
          by_cases hs_14 : g (6 * a) = nI 1
          · refine z_tsAt C 1 104 dX0_rests_75 (by rw [hs_14]; decide) (by decide) rfl (by decide) ?_
            refine z_iload C dX0_rests_104 rfl ?_
            refine z_if_ne C 117 dX0_rests_106 (by decide) (fun h_15 => ?_) (fun h_15 => ?_)
            · refine z_iconst C (nI 0) dX0_rests_117 (by decide) ?_
              exact z_zret C N dX0_rests_118 rfl (rfl) (congrArg (fun x => some (Value.int x)) (zb_f (by simp [zrs, nI_eq, zz_0, zz_0s, of_decide_eq_true h_1, h_1, of_decide_eq_true h_2, h_2, h_3, h_4, hs_14, h_15])).symm)
            · refine z_iload_n C 3 dX0_rests_109 rfl rfl ?_
              refine z_nif_eq_t C 117 dX0_rests_110 (by decide) (by omega) (by omega) ?_
              refine z_iconst C (nI 0) dX0_rests_117 (by decide) ?_
              exact z_zret C N dX0_rests_118 rfl (rfl) (congrArg (fun x => some (Value.int x)) (zb_f (by simp [zrs, nI_eq, zz_0, zz_0s, of_decide_eq_true h_1, h_1, of_decide_eq_true h_2, h_2, h_3, h_4, hs_14, h_15])).symm)
          by_cases hs_16 : g (6 * a) = nI 2
          · refine z_tsAt C 2 182 dX0_rests_75 (by rw [hs_16]; decide) (by decide) rfl (by decide) ?_
            refine z_iconst C (nI 0) dX0_rests_182 (by decide) ?_
            exact z_zret C N dX0_rests_183 rfl (rfl) (congrArg (fun x => some (Value.int x)) (zb_f (by simp [zrs, nI_eq, zz_0, zz_0s, of_decide_eq_true h_1, h_1, of_decide_eq_true h_2, h_2, h_3, h_4, hs_14, hs_16])).symm)
          by_cases hs_17 : g (6 * a) = nI 3
          · refine z_tsAt C 3 119 dX0_rests_75 (by rw [hs_17]; decide) (by decide) rfl (by decide) ?_
            refine z_iload C dX0_rests_119 rfl ?_
            refine z_iconst C (nI 2) dX0_rests_121 (by decide) ?_
            refine z_icmp_ne C 134 dX0_rests_122 (by decide) (fun h_18 => ?_) (fun h_18 => ?_)
            · refine z_iconst C (nI 0) dX0_rests_134 (by decide) ?_
              exact z_zret C N dX0_rests_135 rfl (rfl) (congrArg (fun x => some (Value.int x)) (zb_f (by simp [zrs, nI_eq, zz_0, zz_0s, of_decide_eq_true h_1, h_1, of_decide_eq_true h_2, h_2, h_3, h_4, hs_14, hs_16, hs_17, h_18])).symm)
            · refine z_iload C dX0_rests_125 rfl ?_
              refine z_nif_eq_f C 134 dX0_rests_127 (by decide) (by omega) (by omega) ?_
              refine z_iconst C (nI 1) dX0_rests_130 (by decide) ?_
              refine z_goto C 135 dX0_rests_131 (by decide) ?_
              exact z_zret C N dX0_rests_135 rfl (rfl) (congrArg (fun x => some (Value.int x)) (zb_t (by simp [zrs, nI_eq, zz_0, zz_0s, of_decide_eq_true h_1, h_1, of_decide_eq_true h_2, h_2, h_3, h_4, hs_14, hs_16, hs_17, h_18])).symm)
          by_cases hs_19 : g (6 * a) = nI 4
          · refine z_tsAt C 4 136 dX0_rests_75 (by rw [hs_19]; decide) (by decide) rfl (by decide) ?_
            refine z_iload C dX0_rests_136 rfl ?_
            refine z_if_ne C 145 dX0_rests_138 (by decide) (fun h_20 => ?_) (fun h_20 => ?_)
            · refine z_iload C dX0_rests_145 rfl ?_
              refine z_iconst C (nI 2) dX0_rests_147 (by decide) ?_
              refine z_icmp_ne C 156 dX0_rests_148 (by decide) (fun h_21 => ?_) (fun h_21 => ?_)
              · refine z_iload C dX0_rests_156 rfl ?_
                refine z_iconst C (nI 4) dX0_rests_158 (by decide) ?_
                refine z_icmp_ne C 180 dX0_rests_159 (by decide) (fun h_22 => ?_) (fun h_22 => ?_)
                · refine z_iconst C (nI 0) dX0_rests_180 (by decide) ?_
                  exact z_zret C N dX0_rests_181 rfl (rfl) (congrArg (fun x => some (Value.int x)) (zb_f (by simp [zrs, nI_eq, zz_0, zz_0s, of_decide_eq_true h_1, h_1, of_decide_eq_true h_2, h_2, h_3, h_4, hs_14, hs_16, hs_17, hs_19, h_20, h_21, h_22])).symm)
                · refine z_iload_n C 3 dX0_rests_162 rfl rfl ?_
                  refine z_nif_eq_t C 180 dX0_rests_163 (by decide) (by omega) (by omega) ?_
                  refine z_iconst C (nI 0) dX0_rests_180 (by decide) ?_
                  exact z_zret C N dX0_rests_181 rfl (rfl) (congrArg (fun x => some (Value.int x)) (zb_f (by simp [zrs, nI_eq, zz_0, zz_0s, of_decide_eq_true h_1, h_1, of_decide_eq_true h_2, h_2, h_3, h_4, hs_14, hs_16, hs_17, hs_19, h_20, h_21, h_22])).symm)
              · refine z_iload C dX0_rests_151 rfl ?_
                refine z_nif_ne_t C 176 dX0_rests_153 (by decide) (by omega) (by omega) ?_
                refine z_iconst C (nI 1) dX0_rests_176 (by decide) ?_
                refine z_goto C 181 dX0_rests_177 (by decide) ?_
                exact z_zret C N dX0_rests_181 rfl (rfl) (congrArg (fun x => some (Value.int x)) (zb_t (by simp [zrs, nI_eq, zz_0, zz_0s, of_decide_eq_true h_1, h_1, of_decide_eq_true h_2, h_2, h_3, h_4, hs_14, hs_16, hs_17, hs_19, h_20, h_21])).symm)
            · refine z_iload_n C 3 dX0_rests_141 rfl rfl ?_
              refine z_nif_ne_f C 176 dX0_rests_142 (by decide) (by omega) (by omega) ?_
              refine z_iload C dX0_rests_145 rfl ?_
              refine z_iconst C (nI 2) dX0_rests_147 (by decide) ?_
              refine z_icmp_ne_t C 156 dX0_rests_148 (by decide) (fun q => absurd (h_20.symm.trans q) (by decide)) ?_
              refine z_iload C dX0_rests_156 rfl ?_
              refine z_iconst C (nI 4) dX0_rests_158 (by decide) ?_
              refine z_icmp_ne_t C 180 dX0_rests_159 (by decide) (fun q => absurd (h_20.symm.trans q) (by decide)) ?_
              refine z_iconst C (nI 0) dX0_rests_180 (by decide) ?_
              exact z_zret C N dX0_rests_181 rfl (rfl) (congrArg (fun x => some (Value.int x)) (zb_f (by simp [zrs, nI_eq, zz_0, zz_0s, of_decide_eq_true h_1, h_1, of_decide_eq_true h_2, h_2, h_3, h_4, hs_14, hs_16, hs_17, hs_19, h_20])).symm)
          refine z_tsOut C 182 dX0_rests_75 (by have e1 := z_neN (c := 1) (by decide) hs_14; have e2 := z_neN (c := 2) (by decide) hs_16; have e3 := z_neN (c := 3) (by decide) hs_17; have e4 := z_neN (c := 4) (by decide) hs_19; omega) (by decide) ?_
          refine z_iconst C (nI 0) dX0_rests_182 (by decide) ?_
          exact z_zret C N dX0_rests_183 rfl (rfl) (congrArg (fun x => some (Value.int x)) (zb_f (by simp [zrs, nI_eq, zz_0, zz_0s, of_decide_eq_true h_1, h_1, of_decide_eq_true h_2, h_2, h_3, h_4, hs_14, hs_16, hs_17, hs_19])).symm)
      · refine z_iconst C (nI 1) dX0_rests_33 (by decide) ?_
        refine z_goto C 38 dX0_rests_34 (by decide) ?_
        refine z_istore_n C 3 dX0_rests_38 rfl (Nat.le_of_ble_eq_true rfl) ?_
        refine z_aload_n C 0 dX0_rests_39 rfl rfl ?_
        refine z_iload_n C 1 dX0_rests_40 rfl rfl ?_
        refine z_iconst C (nI 4) dX0_rests_41 (by decide) ?_
        refine z_callVr C kX0_fact gX0_rests_X0_fact (mX0_fact X.2.1 h0 h1 g M a 4 hM ha (by first | assumption | omega)) dX0_rests_42 [0, 1] [] 0 rfl nd_0_1 rfl rfl rfl (by decide) (by decide) (Nat.le_of_ble_eq_true rfl) rfl ?_
        refine z_aload_n C 0 dX0_rests_45 rfl rfl ?_
        refine z_iload_n C 2 dX0_rests_46 rfl rfl ?_
        refine z_iconst C (nI 4) dX0_rests_47 (by decide) ?_
        refine z_callVr C kX0_fact gX0_rests_X0_fact (mX0_fact X.2.1 h0 h1 g M b 4 hM hb (by first | assumption | omega)) dX0_rests_48 [0, 1] [.int (g (6 * a + 4))] 0 rfl nd_0_1 rfl rfl rfl (by decide) (by decide) (Nat.le_of_ble_eq_true rfl) rfl ?_
        refine z_icmp_ne C 58 dX0_rests_51 (by decide) (fun h_23 => ?_) (fun h_23 => ?_)
        · refine z_iconst C (nI 0) dX0_rests_58 (by decide) ?_
          refine z_istore C dX0_rests_59 (Nat.le_of_ble_eq_true rfl) ?_
          refine z_aload_n C 0 dX0_rests_61 rfl rfl ?_
          refine z_iload_n C 2 dX0_rests_62 rfl rfl ?_
          refine z_iconst C (nI 0) dX0_rests_63 (by decide) ?_
          refine z_callVr C kX0_fact gX0_rests_X0_fact (mX0_fact X.2.1 h0 h1 g M b 0 hM hb (by first | assumption | omega)) dX0_rests_64 [0, 1] [] 0 rfl nd_0_1 rfl rfl rfl (by decide) (by decide) (Nat.le_of_ble_eq_true rfl) rfl ?_
          refine z_top (y := g (6 * b)) rfl ?_
          refine z_istore C dX0_rests_67 (Nat.le_of_ble_eq_true rfl) ?_
          refine z_aload_n C 0 dX0_rests_69 rfl rfl ?_
          refine z_iload_n C 1 dX0_rests_70 rfl rfl ?_
          refine z_iconst C (nI 0) dX0_rests_71 (by decide) ?_
          refine z_callVr C kX0_fact gX0_rests_X0_fact (mX0_fact X.2.1 h0 h1 g M a 0 hM ha (by first | assumption | omega)) dX0_rests_72 [0, 1] [] 0 rfl nd_0_1 rfl rfl rfl (by decide) (by decide) (Nat.le_of_ble_eq_true rfl) rfl ?_
          refine z_top (y := g (6 * a)) rfl ?_
          by_cases hs_24 : g (6 * a) = nI 1
          · refine z_tsAt C 1 104 dX0_rests_75 (by rw [hs_24]; decide) (by decide) rfl (by decide) ?_
            refine z_iload C dX0_rests_104 rfl ?_
            refine z_if_ne C 117 dX0_rests_106 (by decide) (fun h_25 => ?_) (fun h_25 => ?_)
            · refine z_iconst C (nI 0) dX0_rests_117 (by decide) ?_
              exact z_zret C N dX0_rests_118 rfl (rfl) (congrArg (fun x => some (Value.int x)) (zb_f (by simp [zrs, nI_eq, zz_0, zz_0s, of_decide_eq_true h_1, h_1, of_decide_eq_true h_2, h_2, h_3, h_23, hs_24, h_25])).symm)
            · refine z_iload_n C 3 dX0_rests_109 rfl rfl ?_
              refine z_nif_eq_f C 117 dX0_rests_110 (by decide) (by omega) (by omega) ?_
              refine z_iconst C (nI 1) dX0_rests_113 (by decide) ?_
              refine z_goto C 118 dX0_rests_114 (by decide) ?_
              exact z_zret C N dX0_rests_118 rfl (rfl) (congrArg (fun x => some (Value.int x)) (zb_t (by simp [zrs, nI_eq, zz_0, zz_0s, of_decide_eq_true h_1, h_1, of_decide_eq_true h_2, h_2, h_3, h_23, hs_24, h_25])).symm)
          by_cases hs_26 : g (6 * a) = nI 2
          · refine z_tsAt C 2 182 dX0_rests_75 (by rw [hs_26]; decide) (by decide) rfl (by decide) ?_
            refine z_iconst C (nI 0) dX0_rests_182 (by decide) ?_
            exact z_zret C N dX0_rests_183 rfl (rfl) (congrArg (fun x => some (Value.int x)) (zb_f (by simp [zrs, nI_eq, zz_0, zz_0s, of_decide_eq_true h_1, h_1, of_decide_eq_true h_2, h_2, h_3, h_23, hs_24, hs_26])).symm)
          by_cases hs_27 : g (6 * a) = nI 3
          · refine z_tsAt C 3 119 dX0_rests_75 (by rw [hs_27]; decide) (by decide) rfl (by decide) ?_
            refine z_iload C dX0_rests_119 rfl ?_
            refine z_iconst C (nI 2) dX0_rests_121 (by decide) ?_
            refine z_icmp_ne C 134 dX0_rests_122 (by decide) (fun h_28 => ?_) (fun h_28 => ?_)
            · refine z_iconst C (nI 0) dX0_rests_134 (by decide) ?_
              exact z_zret C N dX0_rests_135 rfl (rfl) (congrArg (fun x => some (Value.int x)) (zb_f (by simp [zrs, nI_eq, zz_0, zz_0s, of_decide_eq_true h_1, h_1, of_decide_eq_true h_2, h_2, h_3, h_23, hs_24, hs_26, hs_27, h_28])).symm)
            · refine z_iload C dX0_rests_125 rfl ?_
              refine z_nif_eq_t C 134 dX0_rests_127 (by decide) (by omega) (by omega) ?_
              refine z_iconst C (nI 0) dX0_rests_134 (by decide) ?_
              exact z_zret C N dX0_rests_135 rfl (rfl) (congrArg (fun x => some (Value.int x)) (zb_f (by simp [zrs, nI_eq, zz_0, zz_0s, of_decide_eq_true h_1, h_1, of_decide_eq_true h_2, h_2, h_3, h_23, hs_24, hs_26, hs_27, h_28])).symm)
          by_cases hs_29 : g (6 * a) = nI 4
          · refine z_tsAt C 4 136 dX0_rests_75 (by rw [hs_29]; decide) (by decide) rfl (by decide) ?_
            refine z_iload C dX0_rests_136 rfl ?_
            refine z_if_ne C 145 dX0_rests_138 (by decide) (fun h_30 => ?_) (fun h_30 => ?_)
            · refine z_iload C dX0_rests_145 rfl ?_
              refine z_iconst C (nI 2) dX0_rests_147 (by decide) ?_
              refine z_icmp_ne C 156 dX0_rests_148 (by decide) (fun h_31 => ?_) (fun h_31 => ?_)
              · refine z_iload C dX0_rests_156 rfl ?_
                refine z_iconst C (nI 4) dX0_rests_158 (by decide) ?_
                refine z_icmp_ne C 180 dX0_rests_159 (by decide) (fun h_32 => ?_) (fun h_32 => ?_)
                · refine z_iconst C (nI 0) dX0_rests_180 (by decide) ?_
                  exact z_zret C N dX0_rests_181 rfl (rfl) (congrArg (fun x => some (Value.int x)) (zb_f (by simp [zrs, nI_eq, zz_0, zz_0s, of_decide_eq_true h_1, h_1, of_decide_eq_true h_2, h_2, h_3, h_23, hs_24, hs_26, hs_27, hs_29, h_30, h_31, h_32])).symm)
                · refine z_iload_n C 3 dX0_rests_162 rfl rfl ?_
                  refine z_nif_eq_f C 180 dX0_rests_163 (by decide) (by omega) (by omega) ?_
                  refine z_iload C dX0_rests_166 rfl ?_
                  refine z_nif_eq_t C 180 dX0_rests_168 (by decide) (by omega) (by omega) ?_
                  refine z_iconst C (nI 0) dX0_rests_180 (by decide) ?_
                  exact z_zret C N dX0_rests_181 rfl (rfl) (congrArg (fun x => some (Value.int x)) (zb_f (by simp [zrs, nI_eq, zz_0, zz_0s, of_decide_eq_true h_1, h_1, of_decide_eq_true h_2, h_2, h_3, h_23, hs_24, hs_26, hs_27, hs_29, h_30, h_31, h_32])).symm)
              · refine z_iload C dX0_rests_151 rfl ?_
                refine z_nif_ne_f C 176 dX0_rests_153 (by decide) (by omega) (by omega) ?_
                refine z_iload C dX0_rests_156 rfl ?_
                refine z_iconst C (nI 4) dX0_rests_158 (by decide) ?_
                refine z_icmp_ne_t C 180 dX0_rests_159 (by decide) (fun q => absurd (h_31.symm.trans q) (by decide)) ?_
                refine z_iconst C (nI 0) dX0_rests_180 (by decide) ?_
                exact z_zret C N dX0_rests_181 rfl (rfl) (congrArg (fun x => some (Value.int x)) (zb_f (by simp [zrs, nI_eq, zz_0, zz_0s, of_decide_eq_true h_1, h_1, of_decide_eq_true h_2, h_2, h_3, h_23, hs_24, hs_26, hs_27, hs_29, h_30, h_31])).symm)
            · refine z_iload_n C 3 dX0_rests_141 rfl rfl ?_
              refine z_nif_ne_t C 176 dX0_rests_142 (by decide) (by omega) (by omega) ?_
              refine z_iconst C (nI 1) dX0_rests_176 (by decide) ?_
              refine z_goto C 181 dX0_rests_177 (by decide) ?_
              exact z_zret C N dX0_rests_181 rfl (rfl) (congrArg (fun x => some (Value.int x)) (zb_t (by simp [zrs, nI_eq, zz_0, zz_0s, of_decide_eq_true h_1, h_1, of_decide_eq_true h_2, h_2, h_3, h_23, hs_24, hs_26, hs_27, hs_29, h_30])).symm)
          refine z_tsOut C 182 dX0_rests_75 (by have e1 := z_neN (c := 1) (by decide) hs_24; have e2 := z_neN (c := 2) (by decide) hs_26; have e3 := z_neN (c := 3) (by decide) hs_27; have e4 := z_neN (c := 4) (by decide) hs_29; omega) (by decide) ?_
          refine z_iconst C (nI 0) dX0_rests_182 (by decide) ?_
          exact z_zret C N dX0_rests_183 rfl (rfl) (congrArg (fun x => some (Value.int x)) (zb_f (by simp [zrs, nI_eq, zz_0, zz_0s, of_decide_eq_true h_1, h_1, of_decide_eq_true h_2, h_2, h_3, h_23, hs_24, hs_26, hs_27, hs_29])).symm)
        · refine z_iconst C (nI 1) dX0_rests_54 (by decide) ?_
          refine z_goto C 59 dX0_rests_55 (by decide) ?_
          refine z_istore C dX0_rests_59 (Nat.le_of_ble_eq_true rfl) ?_
          refine z_aload_n C 0 dX0_rests_61 rfl rfl ?_
          refine z_iload_n C 2 dX0_rests_62 rfl rfl ?_
          refine z_iconst C (nI 0) dX0_rests_63 (by decide) ?_
          refine z_callVr C kX0_fact gX0_rests_X0_fact (mX0_fact X.2.1 h0 h1 g M b 0 hM hb (by first | assumption | omega)) dX0_rests_64 [0, 1] [] 0 rfl nd_0_1 rfl rfl rfl (by decide) (by decide) (Nat.le_of_ble_eq_true rfl) rfl ?_
          refine z_top (y := g (6 * b)) rfl ?_
          refine z_istore C dX0_rests_67 (Nat.le_of_ble_eq_true rfl) ?_
          refine z_aload_n C 0 dX0_rests_69 rfl rfl ?_
          refine z_iload_n C 1 dX0_rests_70 rfl rfl ?_
          refine z_iconst C (nI 0) dX0_rests_71 (by decide) ?_
          refine z_callVr C kX0_fact gX0_rests_X0_fact (mX0_fact X.2.1 h0 h1 g M a 0 hM ha (by first | assumption | omega)) dX0_rests_72 [0, 1] [] 0 rfl nd_0_1 rfl rfl rfl (by decide) (by decide) (Nat.le_of_ble_eq_true rfl) rfl ?_
          refine z_top (y := g (6 * a)) rfl ?_
          by_cases hs_33 : g (6 * a) = nI 1
          · refine z_tsAt C 1 104 dX0_rests_75 (by rw [hs_33]; decide) (by decide) rfl (by decide) ?_
            refine z_iload C dX0_rests_104 rfl ?_
            refine z_if_ne C 117 dX0_rests_106 (by decide) (fun h_34 => ?_) (fun h_34 => ?_)
            · refine z_iconst C (nI 0) dX0_rests_117 (by decide) ?_
              exact z_zret C N dX0_rests_118 rfl (rfl) (congrArg (fun x => some (Value.int x)) (zb_f (by simp [zrs, nI_eq, zz_0, zz_0s, of_decide_eq_true h_1, h_1, of_decide_eq_true h_2, h_2, h_3, h_23, hs_33, h_34])).symm)
            · refine z_iload_n C 3 dX0_rests_109 rfl rfl ?_
              refine z_nif_eq_f C 117 dX0_rests_110 (by decide) (by omega) (by omega) ?_
              refine z_iconst C (nI 1) dX0_rests_113 (by decide) ?_
              refine z_goto C 118 dX0_rests_114 (by decide) ?_
              exact z_zret C N dX0_rests_118 rfl (rfl) (congrArg (fun x => some (Value.int x)) (zb_t (by simp [zrs, nI_eq, zz_0, zz_0s, of_decide_eq_true h_1, h_1, of_decide_eq_true h_2, h_2, h_3, h_23, hs_33, h_34])).symm)
          by_cases hs_35 : g (6 * a) = nI 2
          · refine z_tsAt C 2 182 dX0_rests_75 (by rw [hs_35]; decide) (by decide) rfl (by decide) ?_
            refine z_iconst C (nI 0) dX0_rests_182 (by decide) ?_
            exact z_zret C N dX0_rests_183 rfl (rfl) (congrArg (fun x => some (Value.int x)) (zb_f (by simp [zrs, nI_eq, zz_0, zz_0s, of_decide_eq_true h_1, h_1, of_decide_eq_true h_2, h_2, h_3, h_23, hs_33, hs_35])).symm)
          by_cases hs_36 : g (6 * a) = nI 3
          · refine z_tsAt C 3 119 dX0_rests_75 (by rw [hs_36]; decide) (by decide) rfl (by decide) ?_
            refine z_iload C dX0_rests_119 rfl ?_
            refine z_iconst C (nI 2) dX0_rests_121 (by decide) ?_
            refine z_icmp_ne C 134 dX0_rests_122 (by decide) (fun h_37 => ?_) (fun h_37 => ?_)
            · refine z_iconst C (nI 0) dX0_rests_134 (by decide) ?_
              exact z_zret C N dX0_rests_135 rfl (rfl) (congrArg (fun x => some (Value.int x)) (zb_f (by simp [zrs, nI_eq, zz_0, zz_0s, of_decide_eq_true h_1, h_1, of_decide_eq_true h_2, h_2, h_3, h_23, hs_33, hs_35, hs_36, h_37])).symm)
            · refine z_iload C dX0_rests_125 rfl ?_
              refine z_nif_eq_f C 134 dX0_rests_127 (by decide) (by omega) (by omega) ?_
              refine z_iconst C (nI 1) dX0_rests_130 (by decide) ?_
              refine z_goto C 135 dX0_rests_131 (by decide) ?_
              exact z_zret C N dX0_rests_135 rfl (rfl) (congrArg (fun x => some (Value.int x)) (zb_t (by simp [zrs, nI_eq, zz_0, zz_0s, of_decide_eq_true h_1, h_1, of_decide_eq_true h_2, h_2, h_3, h_23, hs_33, hs_35, hs_36, h_37])).symm)
          by_cases hs_38 : g (6 * a) = nI 4
          · refine z_tsAt C 4 136 dX0_rests_75 (by rw [hs_38]; decide) (by decide) rfl (by decide) ?_
            refine z_iload C dX0_rests_136 rfl ?_
            refine z_if_ne C 145 dX0_rests_138 (by decide) (fun h_39 => ?_) (fun h_39 => ?_)
            · refine z_iload C dX0_rests_145 rfl ?_
              refine z_iconst C (nI 2) dX0_rests_147 (by decide) ?_
              refine z_icmp_ne C 156 dX0_rests_148 (by decide) (fun h_40 => ?_) (fun h_40 => ?_)
              · refine z_iload C dX0_rests_156 rfl ?_
                refine z_iconst C (nI 4) dX0_rests_158 (by decide) ?_
                refine z_icmp_ne C 180 dX0_rests_159 (by decide) (fun h_41 => ?_) (fun h_41 => ?_)
                · refine z_iconst C (nI 0) dX0_rests_180 (by decide) ?_
                  exact z_zret C N dX0_rests_181 rfl (rfl) (congrArg (fun x => some (Value.int x)) (zb_f (by simp [zrs, nI_eq, zz_0, zz_0s, of_decide_eq_true h_1, h_1, of_decide_eq_true h_2, h_2, h_3, h_23, hs_33, hs_35, hs_36, hs_38, h_39, h_40, h_41])).symm)
                · refine z_iload_n C 3 dX0_rests_162 rfl rfl ?_
                  refine z_nif_eq_f C 180 dX0_rests_163 (by decide) (by omega) (by omega) ?_
                  refine z_iload C dX0_rests_166 rfl ?_
                  refine z_nif_eq_f C 180 dX0_rests_168 (by decide) (by omega) (by omega) ?_
                  refine z_iload_n C 2 dX0_rests_171 rfl rfl ?_
                  refine z_iload_n C 1 dX0_rests_172 rfl rfl ?_
                  refine z_ncmp_ge C 180 dX0_rests_173 (by decide) (by omega) (by omega) (fun h_42 => ?_) (fun h_42 => ?_)
                  · refine z_iconst C (nI 0) dX0_rests_180 (by decide) ?_
                    exact z_zret C N dX0_rests_181 rfl (rfl) (congrArg (fun x => some (Value.int x)) (zb_f (by simp [zrs, nI_eq, zz_0, zz_0s, of_decide_eq_true h_1, h_1, of_decide_eq_true h_2, h_2, h_3, h_23, hs_33, hs_35, hs_36, hs_38, h_39, h_40, h_41, h_42])).symm)
                  · refine z_iconst C (nI 1) dX0_rests_176 (by decide) ?_
                    refine z_goto C 181 dX0_rests_177 (by decide) ?_
                    exact z_zret C N dX0_rests_181 rfl (rfl) (congrArg (fun x => some (Value.int x)) (zb_t (by simp [zrs, nI_eq, zz_0, zz_0s, of_decide_eq_true h_1, h_1, of_decide_eq_true h_2, h_2, h_3, h_23, hs_33, hs_35, hs_36, hs_38, h_39, h_40, h_41, h_42])).symm)
              · refine z_iload C dX0_rests_151 rfl ?_
                refine z_nif_ne_t C 176 dX0_rests_153 (by decide) (by omega) (by omega) ?_
                refine z_iconst C (nI 1) dX0_rests_176 (by decide) ?_
                refine z_goto C 181 dX0_rests_177 (by decide) ?_
                exact z_zret C N dX0_rests_181 rfl (rfl) (congrArg (fun x => some (Value.int x)) (zb_t (by simp [zrs, nI_eq, zz_0, zz_0s, of_decide_eq_true h_1, h_1, of_decide_eq_true h_2, h_2, h_3, h_23, hs_33, hs_35, hs_36, hs_38, h_39, h_40])).symm)
            · refine z_iload_n C 3 dX0_rests_141 rfl rfl ?_
              refine z_nif_ne_t C 176 dX0_rests_142 (by decide) (by omega) (by omega) ?_
              refine z_iconst C (nI 1) dX0_rests_176 (by decide) ?_
              refine z_goto C 181 dX0_rests_177 (by decide) ?_
              exact z_zret C N dX0_rests_181 rfl (rfl) (congrArg (fun x => some (Value.int x)) (zb_t (by simp [zrs, nI_eq, zz_0, zz_0s, of_decide_eq_true h_1, h_1, of_decide_eq_true h_2, h_2, h_3, h_23, hs_33, hs_35, hs_36, hs_38, h_39])).symm)
          refine z_tsOut C 182 dX0_rests_75 (by have e1 := z_neN (c := 1) (by decide) hs_33; have e2 := z_neN (c := 2) (by decide) hs_35; have e3 := z_neN (c := 3) (by decide) hs_36; have e4 := z_neN (c := 4) (by decide) hs_38; omega) (by decide) ?_
          refine z_iconst C (nI 0) dX0_rests_182 (by decide) ?_
          exact z_zret C N dX0_rests_183 rfl (rfl) (congrArg (fun x => some (Value.int x)) (zb_f (by simp [zrs, nI_eq, zz_0, zz_0s, of_decide_eq_true h_1, h_1, of_decide_eq_true h_2, h_2, h_3, h_23, hs_33, hs_35, hs_36, hs_38])).symm)
    · refine z_iconst C (nI 0) dX0_rests_16 (by decide) ?_
      exact z_zret C N dX0_rests_17 rfl (rfl) (congrArg (fun x => some (Value.int x)) (zb_f (by simp [zrs, nI_eq, zz_0, zz_0s, of_decide_eq_true h_1, h_1, of_decide_eq_false h_2, h_2])).symm)

theorem kX0_supportsOf : zY yX0_supportsOf wsX0_supportsOf cX0_supportsOf 4 (some .int) 1 := ⟨⟨_, rfl⟩, ⟨by decide +kernel, by decide +kernel, by decide +kernel⟩, by decide +kernel⟩
theorem fX0_supportsOf_15 : zF wsX0_supportsOf RX0 15 0 1 RX0 TX0 2 := ⟨by decide +kernel, rfl, by decide, by decide +kernel, rfl⟩
set_option maxHeartbeats 4000000 in
set_option maxRecDepth 100000 in
theorem mX0_supportsOf (E : zE) (h0 h1 : Nat) (g : Nat → Int32) (M : Nat) (x : Nat) (hM : M ≤ 60) (hx : x < M) : zM E yX0_supportsOf wsX0_supportsOf 3 [.ref h0, .int (nI x)] [(h0, .inr (0, [.ref h1, .int (nI M)])), (h1, .inl (E.2.2.1, 360, .inl g))] [(h0, .inr (0, [.ref h1, .int (nI M)])), (h1, .inl (E.2.2.1, 360, .inl g))] (some (.int (nI (zc (fun j => zrs g x j) M)))) := by
  refine zM.of kX0_supportsOf (Nat.le_of_ble_eq_true rfl) rfl [some (.ref h0), some (.int (nI x)), none, none] rfl (Nat.le_of_ble_eq_true rfl) ?_
  intro X eX C N
  subst eX
  refine z_iconst C (nI 0) dX0_supportsOf_0 (by decide) ?_
  refine z_istore_n C 2 dX0_supportsOf_1 rfl (Nat.le_of_ble_eq_true rfl) ?_
  refine z_iconst C (nI 0) dX0_supportsOf_2 (by decide) ?_
  refine z_istore_n C 3 dX0_supportsOf_3 rfl (Nat.le_of_ble_eq_true rfl) ?_
  have hL4 : ∀ (dd : Nat) (k : Nat) (cn : Nat), M - k = dd → (k ≤ M) → (cn = zc (fun j => zrs g x j) k) → (cn ≤ k) → zG X 0 0 [(h0, .inr (0, [.ref h1, .int (nI M)])), (h1, .inl (X.2.1.2.2.1, 360, .inl g))] [some (.ref h0), some (.int (nI x)), some (.int (nI cn)), some (.int (nI k))] [] 4 := by
    intro dd
    induction dd using Nat.strongRecOn with
    | _ dd ih4 =>
    intro k cn hdd hk hc hcb
    refine z_iload_n C 3 dX0_supportsOf_4 rfl rfl ?_
    refine z_aload_n C 0 dX0_supportsOf_5 rfl rfl ?_
    refine z_get C fX0_supportsOf_15 0 dX0_supportsOf_6 rfl rfl ?_
    refine z_ncmp_ge C 30 dX0_supportsOf_9 (by decide) (by omega) (by omega) (fun h_1 => ?_) (fun h_1 => ?_)
    · refine z_iload_n C 2 dX0_supportsOf_30 rfl rfl ?_
      exact z_iret C N dX0_supportsOf_31 (rfl) (by rw [hc, show k = M by omega])
    · refine z_aload_n C 0 dX0_supportsOf_12 rfl rfl ?_
      refine z_iload_n C 1 dX0_supportsOf_13 rfl rfl ?_
      refine z_iload_n C 3 dX0_supportsOf_14 rfl rfl ?_
      refine z_callVr C kX0_rests gX0_supportsOf_X0_rests (mX0_rests X.2.1 h0 h1 g M x k hM hx h_1) dX0_supportsOf_15 [0, 1] [] 0 rfl nd_0_1 rfl rfl rfl (by decide) (by decide) (Nat.le_of_ble_eq_true rfl) rfl ?_
      refine z_bif_eq C 24 dX0_supportsOf_18 (by decide) (fun h_2 => ?_) (fun h_2 => ?_)
      · refine z_iinc C (nI (k + 1)) dX0_supportsOf_24 rfl (zi_1 _) ?_
        refine z_goto C 4 dX0_supportsOf_27 (by decide) ?_
        exact ih4 (M - (k + 1)) (by omega) (k + 1) cn rfl (by omega) (by subst hc; first | exact (zc_y (by simp [h_1, h_2])).symm | exact (zc_n (by simp [h_1, h_2])).symm) (by omega)
      · refine z_iinc C (nI (cn + 1)) dX0_supportsOf_21 rfl (zi_1 _) ?_
        refine z_iinc C (nI (k + 1)) dX0_supportsOf_24 rfl (zi_1 _) ?_
        refine z_goto C 4 dX0_supportsOf_27 (by decide) ?_
        exact ih4 (M - (k + 1)) (by omega) (k + 1) (cn + 1) rfl (by omega) (by subst hc; first | exact (zc_y (by simp [h_1, h_2])).symm | exact (zc_n (by simp [h_1, h_2])).symm) (by omega)
  exact hL4 _ 0 0 rfl (by omega) (rfl) (by omega)

theorem kX0_dependentsOf : zY yX0_dependentsOf wsX0_dependentsOf cX0_dependentsOf 4 (some .int) 1 := ⟨⟨_, rfl⟩, ⟨by decide +kernel, by decide +kernel, by decide +kernel⟩, by decide +kernel⟩
theorem fX0_dependentsOf_15 : zF wsX0_dependentsOf RX0 15 0 1 RX0 TX0 2 := ⟨by decide +kernel, rfl, by decide, by decide +kernel, rfl⟩
set_option maxHeartbeats 4000000 in
set_option maxRecDepth 100000 in
theorem mX0_dependentsOf (E : zE) (h0 h1 : Nat) (g : Nat → Int32) (M : Nat) (x : Nat) (hM : M ≤ 60) (hx : x < M) : zM E yX0_dependentsOf wsX0_dependentsOf 3 [.ref h0, .int (nI x)] [(h0, .inr (0, [.ref h1, .int (nI M)])), (h1, .inl (E.2.2.1, 360, .inl g))] [(h0, .inr (0, [.ref h1, .int (nI M)])), (h1, .inl (E.2.2.1, 360, .inl g))] (some (.int (nI (zc (fun j => zrs g j x) M)))) := by
  refine zM.of kX0_dependentsOf (Nat.le_of_ble_eq_true rfl) rfl [some (.ref h0), some (.int (nI x)), none, none] rfl (Nat.le_of_ble_eq_true rfl) ?_
  intro X eX C N
  subst eX
  refine z_iconst C (nI 0) dX0_dependentsOf_0 (by decide) ?_
  refine z_istore_n C 2 dX0_dependentsOf_1 rfl (Nat.le_of_ble_eq_true rfl) ?_
  refine z_iconst C (nI 0) dX0_dependentsOf_2 (by decide) ?_
  refine z_istore_n C 3 dX0_dependentsOf_3 rfl (Nat.le_of_ble_eq_true rfl) ?_
  have hL4 : ∀ (dd : Nat) (k : Nat) (cn : Nat), M - k = dd → (k ≤ M) → (cn = zc (fun j => zrs g j x) k) → (cn ≤ k) → zG X 0 0 [(h0, .inr (0, [.ref h1, .int (nI M)])), (h1, .inl (X.2.1.2.2.1, 360, .inl g))] [some (.ref h0), some (.int (nI x)), some (.int (nI cn)), some (.int (nI k))] [] 4 := by
    intro dd
    induction dd using Nat.strongRecOn with
    | _ dd ih4 =>
    intro k cn hdd hk hc hcb
    refine z_iload_n C 3 dX0_dependentsOf_4 rfl rfl ?_
    refine z_aload_n C 0 dX0_dependentsOf_5 rfl rfl ?_
    refine z_get C fX0_dependentsOf_15 0 dX0_dependentsOf_6 rfl rfl ?_
    refine z_ncmp_ge C 30 dX0_dependentsOf_9 (by decide) (by omega) (by omega) (fun h_1 => ?_) (fun h_1 => ?_)
    · refine z_iload_n C 2 dX0_dependentsOf_30 rfl rfl ?_
      exact z_iret C N dX0_dependentsOf_31 (rfl) (by rw [hc, show k = M by omega])
    · refine z_aload_n C 0 dX0_dependentsOf_12 rfl rfl ?_
      refine z_iload_n C 3 dX0_dependentsOf_13 rfl rfl ?_
      refine z_iload_n C 1 dX0_dependentsOf_14 rfl rfl ?_
      refine z_callVr C kX0_rests gX0_dependentsOf_X0_rests (mX0_rests X.2.1 h0 h1 g M k x hM h_1 hx) dX0_dependentsOf_15 [0, 1] [] 0 rfl nd_0_1 rfl rfl rfl (by decide) (by decide) (Nat.le_of_ble_eq_true rfl) rfl ?_
      refine z_bif_eq C 24 dX0_dependentsOf_18 (by decide) (fun h_2 => ?_) (fun h_2 => ?_)
      · refine z_iinc C (nI (k + 1)) dX0_dependentsOf_24 rfl (zi_1 _) ?_
        refine z_goto C 4 dX0_dependentsOf_27 (by decide) ?_
        exact ih4 (M - (k + 1)) (by omega) (k + 1) cn rfl (by omega) (by subst hc; first | exact (zc_y (by simp [h_1, h_2])).symm | exact (zc_n (by simp [h_1, h_2])).symm) (by omega)
      · refine z_iinc C (nI (cn + 1)) dX0_dependentsOf_21 rfl (zi_1 _) ?_
        refine z_iinc C (nI (k + 1)) dX0_dependentsOf_24 rfl (zi_1 _) ?_
        refine z_goto C 4 dX0_dependentsOf_27 (by decide) ?_
        exact ih4 (M - (k + 1)) (by omega) (k + 1) (cn + 1) rfl (by omega) (by subst hc; first | exact (zc_y (by simp [h_1, h_2])).symm | exact (zc_n (by simp [h_1, h_2])).symm) (by omega)
  exact hL4 _ 0 0 rfl (by omega) (rfl) (by omega)

theorem kX0_inState : zY yX0_inState wsX0_inState cX0_inState 5 (some .int) 2 := ⟨⟨_, rfl⟩, ⟨by decide +kernel, by decide +kernel, by decide +kernel⟩, by decide +kernel⟩
theorem fX0_inState_15 : zF wsX0_inState RX0 15 0 1 RX0 TX0 2 := ⟨by decide +kernel, rfl, by decide, by decide +kernel, rfl⟩
set_option maxHeartbeats 4000000 in
set_option maxRecDepth 100000 in
theorem mX0_inState (E : zE) (h0 h1 : Nat) (g : Nat → Int32) (M : Nat) (au stt : Int32) (hM : M ≤ 60) : zM E yX0_inState wsX0_inState 1 [.ref h0, .int au, .int stt] [(h0, .inr (0, [.ref h1, .int (nI M)])), (h1, .inl (E.2.2.1, 360, .inl g))] [(h0, .inr (0, [.ref h1, .int (nI M)])), (h1, .inl (E.2.2.1, 360, .inl g))] (some (.int (nI (zc (pIS g au stt) M)))) := by
  refine zM.of kX0_inState (Nat.le_of_ble_eq_true rfl) rfl [some (.ref h0), some (.int au), some (.int stt), none, none] rfl (Nat.le_of_ble_eq_true rfl) ?_
  intro X eX C N
  subst eX
  refine z_iconst C (nI 0) dX0_inState_0 (by decide) ?_
  refine z_istore_n C 3 dX0_inState_1 rfl (Nat.le_of_ble_eq_true rfl) ?_
  refine z_iconst C (nI 0) dX0_inState_2 (by decide) ?_
  refine z_istore C dX0_inState_3 (Nat.le_of_ble_eq_true rfl) ?_
  have hL5 : ∀ (dd : Nat) (k : Nat) (cn : Nat), M - k = dd → (k ≤ M) → (cn = zc (pIS g au stt) k) → (cn ≤ k) → zG X 0 0 [(h0, .inr (0, [.ref h1, .int (nI M)])), (h1, .inl (X.2.1.2.2.1, 360, .inl g))] [some (.ref h0), some (.int au), some (.int stt), some (.int (nI cn)), some (.int (nI k))] [] 5 := by
    intro dd
    induction dd using Nat.strongRecOn with
    | _ dd ih5 =>
    intro k cn hdd hk hc hcb
    refine z_iload C dX0_inState_5 rfl ?_
    refine z_aload_n C 0 dX0_inState_7 rfl rfl ?_
    refine z_get C fX0_inState_15 0 dX0_inState_8 rfl rfl ?_
    refine z_ncmp_ge C 50 dX0_inState_11 (by decide) (by omega) (by omega) (fun h_1 => ?_) (fun h_1 => ?_)
    · refine z_iload_n C 3 dX0_inState_50 rfl rfl ?_
      exact z_iret C N dX0_inState_51 (rfl) (by rw [hc, show k = M by omega])
    · refine z_aload_n C 0 dX0_inState_14 rfl rfl ?_
      refine z_iload C dX0_inState_15 rfl ?_
      refine z_iconst C (nI 2) dX0_inState_17 (by decide) ?_
      refine z_callVr C kX0_fact gX0_inState_X0_fact (mX0_fact X.2.1 h0 h1 g M k 2 hM h_1 (by first | assumption | omega)) dX0_inState_18 [0, 1] [] 0 rfl nd_0_1 rfl rfl rfl (by decide) (by decide) (Nat.le_of_ble_eq_true rfl) rfl ?_
      refine z_iload_n C 2 dX0_inState_21 rfl rfl ?_
      refine z_icmp_ne C 44 dX0_inState_22 (by decide) (fun h_2 => ?_) (fun h_2 => ?_)
      · refine z_iinc C (nI (k + 1)) dX0_inState_44 rfl (zi_1 _) ?_
        refine z_goto C 5 dX0_inState_47 (by decide) ?_
        exact ih5 (M - (k + 1)) (by omega) (k + 1) cn rfl (by omega) (by subst hc; first | exact (zc_y (by simp [pIS, h_1, h_2])).symm | exact (zc_n (by simp [pIS, h_1, h_2])).symm) (by omega)
      · refine z_iload_n C 1 dX0_inState_25 rfl rfl ?_
        refine z_iconst C (-1) dX0_inState_26 (by decide) ?_
        refine z_icmp_eq C 41 dX0_inState_27 (by decide) (fun h_3 => ?_) (fun h_3 => ?_)
        · refine z_iinc C (nI (cn + 1)) dX0_inState_41 rfl (zi_1 _) ?_
          refine z_iinc C (nI (k + 1)) dX0_inState_44 rfl (zi_1 _) ?_
          refine z_goto C 5 dX0_inState_47 (by decide) ?_
          exact ih5 (M - (k + 1)) (by omega) (k + 1) (cn + 1) rfl (by omega) (by subst hc; first | exact (zc_y (by simp [pIS, h_1, h_2, h_3])).symm | exact (zc_n (by simp [pIS, h_1, h_2, h_3])).symm) (by omega)
        · refine z_aload_n C 0 dX0_inState_30 rfl rfl ?_
          refine z_iload C dX0_inState_31 rfl ?_
          refine z_iconst C (nI 1) dX0_inState_33 (by decide) ?_
          refine z_callVr C kX0_fact gX0_inState_X0_fact (mX0_fact X.2.1 h0 h1 g M k 1 hM h_1 (by first | assumption | omega)) dX0_inState_34 [0, 1] [] 0 rfl nd_0_1 rfl rfl rfl (by decide) (by decide) (Nat.le_of_ble_eq_true rfl) rfl ?_
          refine z_iload_n C 1 dX0_inState_37 rfl rfl ?_
          refine z_icmp_ne C 44 dX0_inState_38 (by decide) (fun h_4 => ?_) (fun h_4 => ?_)
          · refine z_iinc C (nI (k + 1)) dX0_inState_44 rfl (zi_1 _) ?_
            refine z_goto C 5 dX0_inState_47 (by decide) ?_
            exact ih5 (M - (k + 1)) (by omega) (k + 1) cn rfl (by omega) (by subst hc; first | exact (zc_y (by simp [pIS, h_1, h_2, h_3, h_4])).symm | exact (zc_n (by simp [pIS, h_1, h_2, h_3, h_4])).symm) (by omega)
          · refine z_iinc C (nI (cn + 1)) dX0_inState_41 rfl (zi_1 _) ?_
            refine z_iinc C (nI (k + 1)) dX0_inState_44 rfl (zi_1 _) ?_
            refine z_goto C 5 dX0_inState_47 (by decide) ?_
            exact ih5 (M - (k + 1)) (by omega) (k + 1) (cn + 1) rfl (by omega) (by subst hc; first | exact (zc_y (by simp [pIS, h_1, h_2, h_3, h_4])).symm | exact (zc_n (by simp [pIS, h_1, h_2, h_3, h_4])).symm) (by omega)
  exact hL5 _ 0 0 rfl (by omega) (rfl) (by omega)

theorem kX0_pendingOf : zY yX0_pendingOf wsX0_pendingOf cX0_pendingOf 4 (some .int) 1 := ⟨⟨_, rfl⟩, ⟨by decide +kernel, by decide +kernel, by decide +kernel⟩, by decide +kernel⟩
theorem fX0_pendingOf_15 : zF wsX0_pendingOf RX0 15 0 1 RX0 TX0 2 := ⟨by decide +kernel, rfl, by decide, by decide +kernel, rfl⟩
set_option maxHeartbeats 4000000 in
set_option maxRecDepth 100000 in
theorem mX0_pendingOf (E : zE) (h0 h1 : Nat) (g : Nat → Int32) (M : Nat) (kd : Int32) (hM : M ≤ 60) : zM E yX0_pendingOf wsX0_pendingOf 2 [.ref h0, .int kd] [(h0, .inr (0, [.ref h1, .int (nI M)])), (h1, .inl (E.2.2.1, 360, .inl g))] [(h0, .inr (0, [.ref h1, .int (nI M)])), (h1, .inl (E.2.2.1, 360, .inl g))] (some (.int (nI (zc (pPO g kd) M)))) := by
  refine zM.of kX0_pendingOf (Nat.le_of_ble_eq_true rfl) rfl [some (.ref h0), some (.int kd), none, none] rfl (Nat.le_of_ble_eq_true rfl) ?_
  intro X eX C N
  subst eX
  refine z_iconst C (nI 0) dX0_pendingOf_0 (by decide) ?_
  refine z_istore_n C 2 dX0_pendingOf_1 rfl (Nat.le_of_ble_eq_true rfl) ?_
  refine z_iconst C (nI 0) dX0_pendingOf_2 (by decide) ?_
  refine z_istore_n C 3 dX0_pendingOf_3 rfl (Nat.le_of_ble_eq_true rfl) ?_
  have hL4 : ∀ (dd : Nat) (k : Nat) (cn : Nat), M - k = dd → (k ≤ M) → (cn = zc (pPO g kd) k) → (cn ≤ k) → zG X 0 0 [(h0, .inr (0, [.ref h1, .int (nI M)])), (h1, .inl (X.2.1.2.2.1, 360, .inl g))] [some (.ref h0), some (.int kd), some (.int (nI cn)), some (.int (nI k))] [] 4 := by
    intro dd
    induction dd using Nat.strongRecOn with
    | _ dd ih4 =>
    intro k cn hdd hk hc hcb
    refine z_iload_n C 3 dX0_pendingOf_4 rfl rfl ?_
    refine z_aload_n C 0 dX0_pendingOf_5 rfl rfl ?_
    refine z_get C fX0_pendingOf_15 0 dX0_pendingOf_6 rfl rfl ?_
    refine z_ncmp_ge C 39 dX0_pendingOf_9 (by decide) (by omega) (by omega) (fun h_1 => ?_) (fun h_1 => ?_)
    · refine z_iload_n C 2 dX0_pendingOf_39 rfl rfl ?_
      exact z_iret C N dX0_pendingOf_40 (rfl) (by rw [hc, show k = M by omega])
    · refine z_aload_n C 0 dX0_pendingOf_12 rfl rfl ?_
      refine z_iload_n C 3 dX0_pendingOf_13 rfl rfl ?_
      refine z_iconst C (nI 0) dX0_pendingOf_14 (by decide) ?_
      refine z_callVr C kX0_fact gX0_pendingOf_X0_fact (mX0_fact X.2.1 h0 h1 g M k 0 hM h_1 (by first | assumption | omega)) dX0_pendingOf_15 [0, 1] [] 0 rfl nd_0_1 rfl rfl rfl (by decide) (by decide) (Nat.le_of_ble_eq_true rfl) rfl ?_
      refine z_top (y := g (6 * k)) rfl ?_
      refine z_iload_n C 1 dX0_pendingOf_18 rfl rfl ?_
      refine z_icmp_ne C 33 dX0_pendingOf_19 (by decide) (fun h_2 => ?_) (fun h_2 => ?_)
      · refine z_iinc C (nI (k + 1)) dX0_pendingOf_33 rfl (zi_1 _) ?_
        refine z_goto C 4 dX0_pendingOf_36 (by decide) ?_
        exact ih4 (M - (k + 1)) (by omega) (k + 1) cn rfl (by omega) (by subst hc; first | exact (zc_y (by simp [pPO, h_1, h_2])).symm | exact (zc_n (by simp [pPO, h_1, h_2])).symm) (by omega)
      · refine z_aload_n C 0 dX0_pendingOf_22 rfl rfl ?_
        refine z_iload_n C 3 dX0_pendingOf_23 rfl rfl ?_
        refine z_callVr C kX0_isPending gX0_pendingOf_X0_isPending (mX0_isPending X.2.1 h0 h1 g M k hM h_1) dX0_pendingOf_24 [0, 1] [] 0 rfl nd_0_1 rfl rfl rfl (by decide) (by decide) (Nat.le_of_ble_eq_true rfl) rfl ?_
        refine z_bif_eq C 33 dX0_pendingOf_27 (by decide) (fun h_3 => ?_) (fun h_3 => ?_)
        · refine z_iinc C (nI (k + 1)) dX0_pendingOf_33 rfl (zi_1 _) ?_
          refine z_goto C 4 dX0_pendingOf_36 (by decide) ?_
          exact ih4 (M - (k + 1)) (by omega) (k + 1) cn rfl (by omega) (by subst hc; first | exact (zc_y (by simp [pPO, h_1, h_2, of_decide_eq_false h_3, h_3])).symm | exact (zc_n (by simp [pPO, h_1, h_2, of_decide_eq_false h_3, h_3])).symm) (by omega)
        · refine z_iinc C (nI (cn + 1)) dX0_pendingOf_30 rfl (zi_1 _) ?_
          refine z_iinc C (nI (k + 1)) dX0_pendingOf_33 rfl (zi_1 _) ?_
          refine z_goto C 4 dX0_pendingOf_36 (by decide) ?_
          exact ih4 (M - (k + 1)) (by omega) (k + 1) (cn + 1) rfl (by omega) (by subst hc; first | exact (zc_y (by simp [pPO, h_1, h_2, of_decide_eq_true h_3, h_3])).symm | exact (zc_n (by simp [pPO, h_1, h_2, of_decide_eq_true h_3, h_3])).symm) (by omega)
  exact hL4 _ 0 0 rfl (by omega) (rfl) (by omega)

theorem kX0_dissolveCell : zY yX0_dissolveCell wsX0_dissolveCell cX0_dissolveCell 4 none 2 := ⟨⟨_, rfl⟩, ⟨by decide +kernel, by decide +kernel, by decide +kernel⟩, by decide +kernel⟩
theorem fX0_dissolveCell_15 : zF wsX0_dissolveCell RX0 15 0 1 RX0 TX0 2 := ⟨by decide +kernel, rfl, by decide, by decide +kernel, rfl⟩
set_option maxHeartbeats 4000000 in
set_option maxRecDepth 100000 in
theorem mX0_dissolveCell (E : zE) (h0 h1 : Nat) (g : Nat → Int32) (M : Nat) (r c : Int32) (hM : M ≤ 60) : zM E yX0_dissolveCell wsX0_dissolveCell 2 [.ref h0, .int r, .int c] [(h0, .inr (0, [.ref h1, .int (nI M)])), (h1, .inl (E.2.2.1, 360, .inl g))] [(h0, .inr (0, [.ref h1, .int (nI M)])), (h1, .inl (E.2.2.1, 360, .inl (zMk g (pS g r c) (nI 3) M)))] none := by
  refine zM.of kX0_dissolveCell (Nat.le_of_ble_eq_true rfl) rfl [some (.ref h0), some (.int r), some (.int c), none] rfl (Nat.le_of_ble_eq_true rfl) ?_
  intro X eX C N
  subst eX
  refine z_iconst C (nI 0) dX0_dissolveCell_0 (by decide) ?_
  refine z_istore_n C 3 dX0_dissolveCell_1 rfl (Nat.le_of_ble_eq_true rfl) ?_
  have hL2 : ∀ (dd : Nat) (k : Nat) (g' : Nat → Int32), M - k = dd → (k ≤ M) → (g' = zMk g (pS g r c) (nI 3) k) → zG X 0 0 [(h0, .inr (0, [.ref h1, .int (nI M)])), (h1, .inl (X.2.1.2.2.1, 360, .inl g'))] [some (.ref h0), some (.int r), some (.int c), some (.int (nI k))] [] 2 := by
    intro dd
    induction dd using Nat.strongRecOn with
    | _ dd ih2 =>
    intro k g' hdd hk hg
    refine z_iload_n C 3 dX0_dissolveCell_2 rfl rfl ?_
    refine z_aload_n C 0 dX0_dissolveCell_3 rfl rfl ?_
    refine z_get C fX0_dissolveCell_15 0 dX0_dissolveCell_4 rfl rfl ?_
    refine z_ncmp_ge C 33 dX0_dissolveCell_7 (by decide) (by omega) (by omega) (fun h_1 => ?_) (fun h_1 => ?_)
    · exact z_vret C N dX0_dissolveCell_33 (by rw [hg, show k = M by omega])
    · refine z_aload_n C 0 dX0_dissolveCell_10 rfl rfl ?_
      refine z_iload_n C 3 dX0_dissolveCell_11 rfl rfl ?_
      refine z_iload_n C 1 dX0_dissolveCell_12 rfl rfl ?_
      refine z_iload_n C 2 dX0_dissolveCell_13 rfl rfl ?_
      refine z_callVr C kX0_isSettingOf gX0_dissolveCell_X0_isSettingOf (mX0_isSettingOf X.2.1 h0 h1 g' M k r c hM h_1) dX0_dissolveCell_14 [0, 1] [] 0 rfl nd_0_1 rfl rfl rfl (by decide) (by decide) (Nat.le_of_ble_eq_true rfl) rfl ?_
      refine z_bif_eq C 27 dX0_dissolveCell_17 (by decide) (fun h_2 => ?_) (fun h_2 => ?_)
      · refine z_iinc C (nI (k + 1)) dX0_dissolveCell_27 rfl (zi_1 _) ?_
        refine z_goto C 2 dX0_dissolveCell_30 (by decide) ?_
        exact ih2 (M - (k + 1)) (by omega) (k + 1) g' rfl (by omega) (by subst hg; first | exact (zMk_y (by simpa [pS, zMk_ge (Nat.le_refl _), zMk_g0 (Nat.le_refl _)] using h_2)).symm | exact (zMk_n (by simpa [pS, zMk_ge (Nat.le_refl _), zMk_g0 (Nat.le_refl _)] using h_2)).symm)
      · refine z_aload_n C 0 dX0_dissolveCell_20 rfl rfl ?_
        refine z_iload_n C 3 dX0_dissolveCell_21 rfl rfl ?_
        refine z_iconst C (nI 2) dX0_dissolveCell_22 (by decide) ?_
        refine z_iconst C (nI 3) dX0_dissolveCell_23 (by decide) ?_
        refine z_callVv (wn := [(h0, .inr (0, [.ref h1, .int (nI M)])), (h1, .inl (X.2.1.2.2.1, 360, .inl (upd g' (6 * k + 2) (nI 3))))]) C kX0_put gX0_dissolveCell_X0_put (mX0_put X.2.1 h0 h1 g' M k 2 (nI 3) hM h_1 (by first | assumption | omega)) dX0_dissolveCell_24 [0, 1] [] 0 rfl rfl nd_0_1 rfl rfl rfl (by decide) (by decide) (Nat.le_of_ble_eq_true rfl) rfl rfl ?_
        refine z_iinc C (nI (k + 1)) dX0_dissolveCell_27 rfl (zi_1 _) ?_
        refine z_goto C 2 dX0_dissolveCell_30 (by decide) ?_
        exact ih2 (M - (k + 1)) (by omega) (k + 1) (upd g' (6 * k + 2) (nI 3)) rfl (by omega) (by subst hg; first | exact (zMk_y (by simpa [pS, zMk_ge (Nat.le_refl _), zMk_g0 (Nat.le_refl _)] using h_2)).symm | exact (zMk_n (by simpa [pS, zMk_ge (Nat.le_refl _), zMk_g0 (Nat.le_refl _)] using h_2)).symm)
  exact hL2 _ 0 g rfl (by omega) ((zMk_0 _ _ _).symm)

theorem kX0_leaveLine : zY yX0_leaveLine wsX0_leaveLine cX0_leaveLine 5 none 2 := ⟨⟨_, rfl⟩, ⟨by decide +kernel, by decide +kernel, by decide +kernel⟩, by decide +kernel⟩
theorem fX0_leaveLine_15 : zF wsX0_leaveLine RX0 15 0 1 RX0 TX0 2 := ⟨by decide +kernel, rfl, by decide, by decide +kernel, rfl⟩
set_option maxHeartbeats 4000000 in
set_option maxRecDepth 100000 in
theorem mX0_leaveLine_r (E : zE) (h0 h1 : Nat) (g : Nat → Int32) (M : Nat) (sl : Int32) (hM : M ≤ 60) : zM E yX0_leaveLine wsX0_leaveLine 2 [.ref h0, .int (nI 0), .int sl] [(h0, .inr (0, [.ref h1, .int (nI M)])), (h1, .inl (E.2.2.1, 360, .inl g))] [(h0, .inr (0, [.ref h1, .int (nI M)])), (h1, .inl (E.2.2.1, 360, .inl (zLv g 3 sl M)))] none := by
  refine zM.of kX0_leaveLine (Nat.le_of_ble_eq_true rfl) rfl [some (.ref h0), some (.int (nI 0)), some (.int sl), none, none] rfl (Nat.le_of_ble_eq_true rfl) ?_
  intro X eX C N
  subst eX
  refine z_iload_n C 1 dX0_leaveLine_0 rfl rfl ?_
  refine z_nif_ne_f C 8 dX0_leaveLine_1 (by decide) (by omega) (by omega) ?_
  refine z_iconst C (nI 3) dX0_leaveLine_4 (by decide) ?_
  refine z_goto C 9 dX0_leaveLine_5 (by decide) ?_
  refine z_istore_n C 3 dX0_leaveLine_9 rfl (Nat.le_of_ble_eq_true rfl) ?_
  refine z_iconst C (nI 0) dX0_leaveLine_10 (by decide) ?_
  refine z_istore C dX0_leaveLine_11 (Nat.le_of_ble_eq_true rfl) ?_
  have hL13 : ∀ (dd : Nat) (k : Nat) (g' : Nat → Int32), M - k = dd → (k ≤ M) → (g' = zLv g 3 sl k) → zG X 0 0 [(h0, .inr (0, [.ref h1, .int (nI M)])), (h1, .inl (X.2.1.2.2.1, 360, .inl g'))] [some (.ref h0), some (.int (nI 0)), some (.int sl), some (.int (nI 3)), some (.int (nI k))] [] 13 := by
    intro dd
    induction dd using Nat.strongRecOn with
    | _ dd ih13 =>
    intro k g' hdd hk hg
    refine z_iload C dX0_leaveLine_13 rfl ?_
    refine z_aload_n C 0 dX0_leaveLine_15 rfl rfl ?_
    refine z_get C fX0_leaveLine_15 0 dX0_leaveLine_16 rfl rfl ?_
    refine z_ncmp_ge C 65 dX0_leaveLine_19 (by decide) (by omega) (by omega) (fun h_1 => ?_) (fun h_1 => ?_)
    · exact z_vret C N dX0_leaveLine_65 (by rw [hg, show k = M by omega])
    · refine z_aload_n C 0 dX0_leaveLine_22 rfl rfl ?_
      refine z_iload C dX0_leaveLine_23 rfl ?_
      refine z_iload_n C 3 dX0_leaveLine_25 rfl rfl ?_
      refine z_callVr C kX0_fact gX0_leaveLine_X0_fact (mX0_fact X.2.1 h0 h1 g' M k 3 hM h_1 (by first | assumption | omega)) dX0_leaveLine_26 [0, 1] [] 0 rfl nd_0_1 rfl rfl rfl (by decide) (by decide) (Nat.le_of_ble_eq_true rfl) rfl ?_
      refine z_iload_n C 2 dX0_leaveLine_29 rfl rfl ?_
      refine z_icmp_ne C 59 dX0_leaveLine_30 (by decide) (fun h_2 => ?_) (fun h_2 => ?_)
      · refine z_iinc C (nI (k + 1)) dX0_leaveLine_59 rfl (zi_1 _) ?_
        refine z_goto C 13 dX0_leaveLine_62 (by decide) ?_
        exact ih13 (M - (k + 1)) (by omega) (k + 1) g' rfl (by omega) (by subst hg; simp only [zLv_ge (Nat.le_refl _) (show 3 < 6 by decide), zLv_ge (Nat.le_refl _) (show 2 < 6 by decide), decide_eq_true_eq, decide_eq_false_iff_not] at h_1 h_2; first | exact (zLv_n (by assumption)).symm | exact (zLv_y (by decide) (by decide) (by assumption) (by assumption)).symm | exact (zLv_z (by decide) (by assumption) (by assumption)).symm)
      · refine z_aload_n C 0 dX0_leaveLine_33 rfl rfl ?_
        refine z_iload C dX0_leaveLine_34 rfl ?_
        refine z_callVr C kX0_isPending gX0_leaveLine_X0_isPending (mX0_isPending X.2.1 h0 h1 g' M k hM h_1) dX0_leaveLine_36 [0, 1] [] 0 rfl nd_0_1 rfl rfl rfl (by decide) (by decide) (Nat.le_of_ble_eq_true rfl) rfl ?_
        refine z_bif_eq C 50 dX0_leaveLine_39 (by decide) (fun h_3 => ?_) (fun h_3 => ?_)
        · refine z_aload_n C 0 dX0_leaveLine_50 rfl rfl ?_
          refine z_iload C dX0_leaveLine_51 rfl ?_
          refine z_iload_n C 3 dX0_leaveLine_53 rfl rfl ?_
          refine z_bipush C (-5) dX0_leaveLine_54 (by decide) ?_
          refine z_callVv (wn := [(h0, .inr (0, [.ref h1, .int (nI M)])), (h1, .inl (X.2.1.2.2.1, 360, .inl (upd g' (6 * k + 3) (-5))))]) C kX0_put gX0_leaveLine_X0_put (mX0_put X.2.1 h0 h1 g' M k 3 (-5) hM h_1 (by first | assumption | omega)) dX0_leaveLine_56 [0, 1] [] 0 rfl rfl nd_0_1 rfl rfl rfl (by decide) (by decide) (Nat.le_of_ble_eq_true rfl) rfl rfl ?_
          refine z_iinc C (nI (k + 1)) dX0_leaveLine_59 rfl (zi_1 _) ?_
          refine z_goto C 13 dX0_leaveLine_62 (by decide) ?_
          exact ih13 (M - (k + 1)) (by omega) (k + 1) (upd g' (6 * k + 3) (-5)) rfl (by omega) (by subst hg; simp only [zLv_ge (Nat.le_refl _) (show 3 < 6 by decide), zLv_ge (Nat.le_refl _) (show 2 < 6 by decide), decide_eq_true_eq, decide_eq_false_iff_not] at h_1 h_2 h_3; first | exact (zLv_n (by assumption)).symm | exact (zLv_y (by decide) (by decide) (by assumption) (by assumption)).symm | exact (zLv_z (by decide) (by assumption) (by assumption)).symm)
        · refine z_aload_n C 0 dX0_leaveLine_42 rfl rfl ?_
          refine z_iload C dX0_leaveLine_43 rfl ?_
          refine z_iconst C (nI 2) dX0_leaveLine_45 (by decide) ?_
          refine z_iconst C (nI 3) dX0_leaveLine_46 (by decide) ?_
          refine z_callVv (wn := [(h0, .inr (0, [.ref h1, .int (nI M)])), (h1, .inl (X.2.1.2.2.1, 360, .inl (upd g' (6 * k + 2) (nI 3))))]) C kX0_put gX0_leaveLine_X0_put (mX0_put X.2.1 h0 h1 g' M k 2 (nI 3) hM h_1 (by first | assumption | omega)) dX0_leaveLine_47 [0, 1] [] 0 rfl rfl nd_0_1 rfl rfl rfl (by decide) (by decide) (Nat.le_of_ble_eq_true rfl) rfl rfl ?_
          refine z_aload_n C 0 dX0_leaveLine_50 rfl rfl ?_
          refine z_iload C dX0_leaveLine_51 rfl ?_
          refine z_iload_n C 3 dX0_leaveLine_53 rfl rfl ?_
          refine z_bipush C (-5) dX0_leaveLine_54 (by decide) ?_
          refine z_callVv (wn := [(h0, .inr (0, [.ref h1, .int (nI M)])), (h1, .inl (X.2.1.2.2.1, 360, .inl (upd (upd g' (6 * k + 2) (nI 3)) (6 * k + 3) (-5))))]) C kX0_put gX0_leaveLine_X0_put (mX0_put X.2.1 h0 h1 (upd g' (6 * k + 2) (nI 3)) M k 3 (-5) hM h_1 (by first | assumption | omega)) dX0_leaveLine_56 [0, 1] [] 0 rfl rfl nd_0_1 rfl rfl rfl (by decide) (by decide) (Nat.le_of_ble_eq_true rfl) rfl rfl ?_
          refine z_iinc C (nI (k + 1)) dX0_leaveLine_59 rfl (zi_1 _) ?_
          refine z_goto C 13 dX0_leaveLine_62 (by decide) ?_
          exact ih13 (M - (k + 1)) (by omega) (k + 1) (upd (upd g' (6 * k + 2) (nI 3)) (6 * k + 3) (-5)) rfl (by omega) (by subst hg; simp only [zLv_ge (Nat.le_refl _) (show 3 < 6 by decide), zLv_ge (Nat.le_refl _) (show 2 < 6 by decide), decide_eq_true_eq, decide_eq_false_iff_not] at h_1 h_2 h_3; first | exact (zLv_n (by assumption)).symm | exact (zLv_y (by decide) (by decide) (by assumption) (by assumption)).symm | exact (zLv_z (by decide) (by assumption) (by assumption)).symm)
  exact hL13 _ 0 g rfl (by omega) ((zLv_0 _ _ _).symm)

set_option maxHeartbeats 4000000 in
set_option maxRecDepth 100000 in
theorem mX0_leaveLine_c (E : zE) (h0 h1 : Nat) (g : Nat → Int32) (M : Nat) (sl : Int32) (hM : M ≤ 60) : zM E yX0_leaveLine wsX0_leaveLine 2 [.ref h0, .int (nI 1), .int sl] [(h0, .inr (0, [.ref h1, .int (nI M)])), (h1, .inl (E.2.2.1, 360, .inl g))] [(h0, .inr (0, [.ref h1, .int (nI M)])), (h1, .inl (E.2.2.1, 360, .inl (zLv g 4 sl M)))] none := by
  refine zM.of kX0_leaveLine (Nat.le_of_ble_eq_true rfl) rfl [some (.ref h0), some (.int (nI 1)), some (.int sl), none, none] rfl (Nat.le_of_ble_eq_true rfl) ?_
  intro X eX C N
  subst eX
  refine z_iload_n C 1 dX0_leaveLine_0 rfl rfl ?_
  refine z_nif_ne_t C 8 dX0_leaveLine_1 (by decide) (by omega) (by omega) ?_
  refine z_iconst C (nI 4) dX0_leaveLine_8 (by decide) ?_
  refine z_istore_n C 3 dX0_leaveLine_9 rfl (Nat.le_of_ble_eq_true rfl) ?_
  refine z_iconst C (nI 0) dX0_leaveLine_10 (by decide) ?_
  refine z_istore C dX0_leaveLine_11 (Nat.le_of_ble_eq_true rfl) ?_
  have hL13 : ∀ (dd : Nat) (k : Nat) (g' : Nat → Int32), M - k = dd → (k ≤ M) → (g' = zLv g 4 sl k) → zG X 0 0 [(h0, .inr (0, [.ref h1, .int (nI M)])), (h1, .inl (X.2.1.2.2.1, 360, .inl g'))] [some (.ref h0), some (.int (nI 1)), some (.int sl), some (.int (nI 4)), some (.int (nI k))] [] 13 := by
    intro dd
    induction dd using Nat.strongRecOn with
    | _ dd ih13 =>
    intro k g' hdd hk hg
    refine z_iload C dX0_leaveLine_13 rfl ?_
    refine z_aload_n C 0 dX0_leaveLine_15 rfl rfl ?_
    refine z_get C fX0_leaveLine_15 0 dX0_leaveLine_16 rfl rfl ?_
    refine z_ncmp_ge C 65 dX0_leaveLine_19 (by decide) (by omega) (by omega) (fun h_1 => ?_) (fun h_1 => ?_)
    · exact z_vret C N dX0_leaveLine_65 (by rw [hg, show k = M by omega])
    · refine z_aload_n C 0 dX0_leaveLine_22 rfl rfl ?_
      refine z_iload C dX0_leaveLine_23 rfl ?_
      refine z_iload_n C 3 dX0_leaveLine_25 rfl rfl ?_
      refine z_callVr C kX0_fact gX0_leaveLine_X0_fact (mX0_fact X.2.1 h0 h1 g' M k 4 hM h_1 (by first | assumption | omega)) dX0_leaveLine_26 [0, 1] [] 0 rfl nd_0_1 rfl rfl rfl (by decide) (by decide) (Nat.le_of_ble_eq_true rfl) rfl ?_
      refine z_iload_n C 2 dX0_leaveLine_29 rfl rfl ?_
      refine z_icmp_ne C 59 dX0_leaveLine_30 (by decide) (fun h_2 => ?_) (fun h_2 => ?_)
      · refine z_iinc C (nI (k + 1)) dX0_leaveLine_59 rfl (zi_1 _) ?_
        refine z_goto C 13 dX0_leaveLine_62 (by decide) ?_
        exact ih13 (M - (k + 1)) (by omega) (k + 1) g' rfl (by omega) (by subst hg; simp only [zLv_ge (Nat.le_refl _) (show 4 < 6 by decide), zLv_ge (Nat.le_refl _) (show 2 < 6 by decide), decide_eq_true_eq, decide_eq_false_iff_not] at h_1 h_2; first | exact (zLv_n (by assumption)).symm | exact (zLv_y (by decide) (by decide) (by assumption) (by assumption)).symm | exact (zLv_z (by decide) (by assumption) (by assumption)).symm)
      · refine z_aload_n C 0 dX0_leaveLine_33 rfl rfl ?_
        refine z_iload C dX0_leaveLine_34 rfl ?_
        refine z_callVr C kX0_isPending gX0_leaveLine_X0_isPending (mX0_isPending X.2.1 h0 h1 g' M k hM h_1) dX0_leaveLine_36 [0, 1] [] 0 rfl nd_0_1 rfl rfl rfl (by decide) (by decide) (Nat.le_of_ble_eq_true rfl) rfl ?_
        refine z_bif_eq C 50 dX0_leaveLine_39 (by decide) (fun h_3 => ?_) (fun h_3 => ?_)
        · refine z_aload_n C 0 dX0_leaveLine_50 rfl rfl ?_
          refine z_iload C dX0_leaveLine_51 rfl ?_
          refine z_iload_n C 3 dX0_leaveLine_53 rfl rfl ?_
          refine z_bipush C (-5) dX0_leaveLine_54 (by decide) ?_
          refine z_callVv (wn := [(h0, .inr (0, [.ref h1, .int (nI M)])), (h1, .inl (X.2.1.2.2.1, 360, .inl (upd g' (6 * k + 4) (-5))))]) C kX0_put gX0_leaveLine_X0_put (mX0_put X.2.1 h0 h1 g' M k 4 (-5) hM h_1 (by first | assumption | omega)) dX0_leaveLine_56 [0, 1] [] 0 rfl rfl nd_0_1 rfl rfl rfl (by decide) (by decide) (Nat.le_of_ble_eq_true rfl) rfl rfl ?_
          refine z_iinc C (nI (k + 1)) dX0_leaveLine_59 rfl (zi_1 _) ?_
          refine z_goto C 13 dX0_leaveLine_62 (by decide) ?_
          exact ih13 (M - (k + 1)) (by omega) (k + 1) (upd g' (6 * k + 4) (-5)) rfl (by omega) (by subst hg; simp only [zLv_ge (Nat.le_refl _) (show 4 < 6 by decide), zLv_ge (Nat.le_refl _) (show 2 < 6 by decide), decide_eq_true_eq, decide_eq_false_iff_not] at h_1 h_2 h_3; first | exact (zLv_n (by assumption)).symm | exact (zLv_y (by decide) (by decide) (by assumption) (by assumption)).symm | exact (zLv_z (by decide) (by assumption) (by assumption)).symm)
        · refine z_aload_n C 0 dX0_leaveLine_42 rfl rfl ?_
          refine z_iload C dX0_leaveLine_43 rfl ?_
          refine z_iconst C (nI 2) dX0_leaveLine_45 (by decide) ?_
          refine z_iconst C (nI 3) dX0_leaveLine_46 (by decide) ?_
          refine z_callVv (wn := [(h0, .inr (0, [.ref h1, .int (nI M)])), (h1, .inl (X.2.1.2.2.1, 360, .inl (upd g' (6 * k + 2) (nI 3))))]) C kX0_put gX0_leaveLine_X0_put (mX0_put X.2.1 h0 h1 g' M k 2 (nI 3) hM h_1 (by first | assumption | omega)) dX0_leaveLine_47 [0, 1] [] 0 rfl rfl nd_0_1 rfl rfl rfl (by decide) (by decide) (Nat.le_of_ble_eq_true rfl) rfl rfl ?_
          refine z_aload_n C 0 dX0_leaveLine_50 rfl rfl ?_
          refine z_iload C dX0_leaveLine_51 rfl ?_
          refine z_iload_n C 3 dX0_leaveLine_53 rfl rfl ?_
          refine z_bipush C (-5) dX0_leaveLine_54 (by decide) ?_
          refine z_callVv (wn := [(h0, .inr (0, [.ref h1, .int (nI M)])), (h1, .inl (X.2.1.2.2.1, 360, .inl (upd (upd g' (6 * k + 2) (nI 3)) (6 * k + 4) (-5))))]) C kX0_put gX0_leaveLine_X0_put (mX0_put X.2.1 h0 h1 (upd g' (6 * k + 2) (nI 3)) M k 4 (-5) hM h_1 (by first | assumption | omega)) dX0_leaveLine_56 [0, 1] [] 0 rfl rfl nd_0_1 rfl rfl rfl (by decide) (by decide) (Nat.le_of_ble_eq_true rfl) rfl rfl ?_
          refine z_iinc C (nI (k + 1)) dX0_leaveLine_59 rfl (zi_1 _) ?_
          refine z_goto C 13 dX0_leaveLine_62 (by decide) ?_
          exact ih13 (M - (k + 1)) (by omega) (k + 1) (upd (upd g' (6 * k + 2) (nI 3)) (6 * k + 4) (-5)) rfl (by omega) (by subst hg; simp only [zLv_ge (Nat.le_refl _) (show 4 < 6 by decide), zLv_ge (Nat.le_refl _) (show 2 < 6 by decide), decide_eq_true_eq, decide_eq_false_iff_not] at h_1 h_2 h_3; first | exact (zLv_n (by assumption)).symm | exact (zLv_y (by decide) (by decide) (by assumption) (by assumption)).symm | exact (zLv_z (by decide) (by assumption) (by assumption)).symm)
  exact hL13 _ 0 g rfl (by omega) ((zLv_0 _ _ _).symm)
