/-! the law: its loop, and from its entry -/
theorem law_ex {i L : Nat} (hL : L ≤ 2560) (hi : i ≤ L + 5) (h : L < i + 5) : nI L - nI 5 < nI i := by
  by_cases c : 5 ≤ L
  · rw [pk_sub c, Int32.lt_iff_toInt_lt, nI_toInt (by omega), nI_toInt (by omega)]
    omega
  · have k : ∀ n, n < 5 → nI n - nI 5 < 0 := by decide +kernel
    have k1 := Int32.lt_iff_toInt_lt.mp (k L (by omega))
    rw [Int32.lt_iff_toInt_lt, nI_toInt (n := i) (by omega)]
    have z : (0 : Int32).toInt = 0 := by decide
    omega
set_option maxHeartbeats 4000000 in
set_option maxRecDepth 100000 in
theorem law_loop {X : zX} {kk nn : Nat} (C : zC X kk nn code RL wsL_law 10) (hkk : kk ≤ 600000) (hnn : nn ≤ 7302250) {b L : Nat} {xs : Nat → Int32} (La : zLa X b L xs) (Le : zLe X b) (hL : L ≤ 2560) (x0 h0 h1 w0 w1 : Nat) (t : Nat → Nat) (r : Nat → Nat → Nat) (a : Nat → Nat) : ∀ (dd i B : Nat), L + 1 ≤ i + dd → i ≤ L + 5 → B ≤ 61 * i → LI X kk nn b x0 h0 h1 w0 w1 t r a i B := by
  intro dd
  induction dd with
  | zero =>
    intro i B hd hi hB S o kp Q tx ln ps pl gd od sm um Qm oo hR hH hT
    refine z_iload_n C 3 dL_law_18 rfl rfl ?_
    refine z_aload_n C 0 dL_law_19 rfl rfl ?_
    refine z_slen C La dL_law_20 ?_
    refine z_iconst C (nI 5) dL_law_21 (by decide) ?_
    refine z_isub C dL_law_22 ?_
    refine z_icmp_gt_t C 815 dL_law_23 (by decide) (law_ex hL hi (by omega)) ?_
    refine z_iconst C 1 dL_law_815 (by decide) ?_
    exact z_lend C Le hkk hnn dL_law_816
  | succ dd ih =>
    intro i B hd hi hB S o kp Q tx ln ps pl gd od sm um Qm oo hR hH hT
    refine z_iload_n C 3 dL_law_18 rfl rfl ?_
    refine z_aload_n C 0 dL_law_19 rfl rfl ?_
    refine z_slen C La dL_law_20 ?_
    refine z_iconst C (nI 5) dL_law_21 (by decide) ?_
    refine z_isub C dL_law_22 ?_
    by_cases hl : i + 5 ≤ L
    · have IH := ih (i + 5) (B + 61) (by omega) (by omega) (by omega)
      have hB2 : B < 2147483500 := by omega
      refine z_top (y := nI (L - 5)) (pk_sub (by omega)) ?_
      refine z_ncmp_gt_f C 815 dL_law_23 (by decide) (by omega) (by omega) (by omega) ?_
      refine z_aload_n C 0 dL_law_26 rfl rfl ?_
      refine z_iload_n C 3 dL_law_27 rfl rfl ?_
      refine z_sld C La (by omega) (by omega) dL_law_28 ?_
      refine z_bipush C (nI 31) dL_law_29 (by decide) ?_
      refine z_iand C dL_law_31 ?_
      by_cases e0 : xs i &&& nI 31 = nI 0
      · refine z_tsAt C 0 132 dL_law_32 (by rw [e0]; decide) (by decide) rfl (by decide) ?_
        exact law_track C La hL x0 h0 h1 w0 w1 t r a S o kp Q tx ln ps pl gd od sm um Qm oo i B hR hH hT hB2 hl IH
      by_cases e1 : xs i &&& nI 31 = nI 1
      · refine z_tsAt C 1 171 dL_law_32 (by rw [e1]; decide) (by decide) rfl (by decide) ?_
        exact law_insert C La hL x0 h0 h1 w0 w1 t r a S o kp Q tx ln ps pl gd od sm um Qm oo i B hR hH hT hB2 hl IH
      by_cases e2 : xs i &&& nI 31 = nI 2
      · refine z_tsAt C 2 214 dL_law_32 (by rw [e2]; decide) (by decide) rfl (by decide) ?_
        exact law_remove C La hL x0 h0 h1 w0 w1 t r a S o kp Q tx ln ps pl gd od sm um Qm oo i B hR hH hT hB2 hl IH
      by_cases e3 : xs i &&& nI 31 = nI 3
      · refine z_tsAt C 3 257 dL_law_32 (by rw [e3]; decide) (by decide) rfl (by decide) ?_
        exact law_set C La hL x0 h0 h1 w0 w1 t r a S o kp Q tx ln ps pl gd od sm um Qm oo i B hR hH hT hB2 hl IH
      by_cases e4 : xs i &&& nI 31 = nI 4
      · refine z_tsAt C 4 310 dL_law_32 (by rw [e4]; decide) (by decide) rfl (by decide) ?_
        exact law_accept C La hL x0 h0 h1 w0 w1 t r a S o kp Q tx ln ps pl gd od sm um Qm oo i B hR hH hT hB2 hl IH
      by_cases e5 : xs i &&& nI 31 = nI 5
      · refine z_tsAt C 5 333 dL_law_32 (by rw [e5]; decide) (by decide) rfl (by decide) ?_
        exact law_reject C La hL x0 h0 h1 w0 w1 t r a S o kp Q tx ln ps pl gd od sm um Qm oo i B hR hH hT hB2 hl IH
      by_cases e6 : xs i &&& nI 31 = nI 6
      · refine z_tsAt C 6 356 dL_law_32 (by rw [e6]; decide) (by decide) rfl (by decide) ?_
        exact law_settle C La hL x0 h0 h1 w0 w1 t r a S o kp Q tx ln ps pl gd od sm um Qm oo i B hR hH hT hB2 hl IH
      by_cases e7 : xs i &&& nI 31 = nI 7
      · refine z_tsAt C 7 405 dL_law_32 (by rw [e7]; decide) (by decide) rfl (by decide) ?_
        exact law_type C La hL x0 h0 h1 w0 w1 t r a S o kp Q tx ln ps pl gd od sm um Qm oo i B hR hH hT hB2 hl IH
      by_cases e8 : xs i &&& nI 31 = nI 8
      · refine z_tsAt C 8 430 dL_law_32 (by rw [e8]; decide) (by decide) rfl (by decide) ?_
        exact law_clearText C La hL x0 h0 h1 w0 w1 t r a S o kp Q tx ln ps pl gd od sm um Qm oo i B hR hH hT hB2 hl IH
      by_cases e9 : xs i &&& nI 31 = nI 9
      · refine z_tsAt C 9 443 dL_law_32 (by rw [e9]; decide) (by decide) rfl (by decide) ?_
        exact law_run C La hL x0 h0 h1 w0 w1 t r a S o kp Q tx ln ps pl gd od sm um Qm oo i B hR hH hT hB2 hl IH
      by_cases e10 : xs i &&& nI 31 = nI 10
      · refine z_tsAt C 10 466 dL_law_32 (by rw [e10]; decide) (by decide) rfl (by decide) ?_
        exact law_undo C La hL x0 h0 h1 w0 w1 t r a S o kp Q tx ln ps pl gd od sm um Qm oo i B hR hH hT hB2 hl IH
      by_cases e11 : xs i &&& nI 31 = nI 11
      · refine z_tsAt C 11 479 dL_law_32 (by rw [e11]; decide) (by decide) rfl (by decide) ?_
        exact law_size C La hL x0 h0 h1 w0 w1 t r a S o kp Q tx ln ps pl gd od sm um Qm oo i B hR hH hT hB2 hl IH
      by_cases e12 : xs i &&& nI 31 = nI 12
      · refine z_tsAt C 12 512 dL_law_32 (by rw [e12]; decide) (by decide) rfl (by decide) ?_
        exact law_cell C La hL x0 h0 h1 w0 w1 t r a S o kp Q tx ln ps pl gd od sm um Qm oo i B hR hH hT hB2 hl IH
      by_cases e13 : xs i &&& nI 31 = nI 13
      · refine z_tsAt C 13 555 dL_law_32 (by rw [e13]; decide) (by decide) rfl (by decide) ?_
        exact law_line C La hL x0 h0 h1 w0 w1 t r a S o kp Q tx ln ps pl gd od sm um Qm oo i B hR hH hT hB2 hl IH
      by_cases e14 : xs i &&& nI 31 = nI 14
      · refine z_tsAt C 14 598 dL_law_32 (by rw [e14]; decide) (by decide) rfl (by decide) ?_
        exact law_setting C La hL x0 h0 h1 w0 w1 t r a S o kp Q tx ln ps pl gd od sm um Qm oo i B hR hH hT hB2 hl IH
      by_cases e15 : xs i &&& nI 31 = nI 15
      · refine z_tsAt C 15 641 dL_law_32 (by rw [e15]; decide) (by decide) rfl (by decide) ?_
        exact law_change C La hL x0 h0 h1 w0 w1 t r a S o kp Q tx ln ps pl gd od sm um Qm oo i B hR hH hT hB2 hl IH
      by_cases e16 : xs i &&& nI 31 = nI 16
      · refine z_tsAt C 16 674 dL_law_32 (by rw [e16]; decide) (by decide) rfl (by decide) ?_
        exact law_restsOn C La hL x0 h0 h1 w0 w1 t r a S o kp Q tx ln ps pl gd od sm um Qm oo i B hR hH hT hB2 hl IH
      by_cases e17 : xs i &&& nI 31 = nI 17
      · refine z_tsAt C 17 707 dL_law_32 (by rw [e17]; decide) (by decide) rfl (by decide) ?_
        exact law_pending C La hL x0 h0 h1 w0 w1 t r a S o kp Q tx ln ps pl gd od sm um Qm oo i B hR hH hT hB2 hl IH
      by_cases e18 : xs i &&& nI 31 = nI 18
      · refine z_tsAt C 18 730 dL_law_32 (by rw [e18]; decide) (by decide) rfl (by decide) ?_
        exact law_author C La hL x0 h0 h1 w0 w1 t r a S o kp Q tx ln ps pl gd od sm um Qm oo i B hR hH hT hB2 hl IH
      by_cases e19 : xs i &&& nI 31 = nI 19
      · refine z_tsAt C 19 763 dL_law_32 (by rw [e19]; decide) (by decide) rfl (by decide) ?_
        exact law_sum C La hL x0 h0 h1 w0 w1 t r a S o kp Q tx ln ps pl gd od sm um Qm oo i B hR hH hT hB2 hl IH
      by_cases e20 : xs i &&& nI 31 = nI 20
      · refine z_tsAt C 20 786 dL_law_32 (by rw [e20]; decide) (by decide) rfl (by decide) ?_
        exact law_count C La hL x0 h0 h1 w0 w1 t r a S o kp Q tx ln ps pl gd od sm um Qm oo i B hR hH hT hB2 hl IH
      refine z_tsOut C 809 dL_law_32 (by have f0 := z_neN (c := 0) (by decide) e0; have f1 := z_neN (c := 1) (by decide) e1; have f2 := z_neN (c := 2) (by decide) e2; have f3 := z_neN (c := 3) (by decide) e3; have f4 := z_neN (c := 4) (by decide) e4; have f5 := z_neN (c := 5) (by decide) e5; have f6 := z_neN (c := 6) (by decide) e6; have f7 := z_neN (c := 7) (by decide) e7; have f8 := z_neN (c := 8) (by decide) e8; have f9 := z_neN (c := 9) (by decide) e9; have f10 := z_neN (c := 10) (by decide) e10; have f11 := z_neN (c := 11) (by decide) e11; have f12 := z_neN (c := 12) (by decide) e12; have f13 := z_neN (c := 13) (by decide) e13; have f14 := z_neN (c := 14) (by decide) e14; have f15 := z_neN (c := 15) (by decide) e15; have f16 := z_neN (c := 16) (by decide) e16; have f17 := z_neN (c := 17) (by decide) e17; have f18 := z_neN (c := 18) (by decide) e18; have f19 := z_neN (c := 19) (by decide) e19; have f20 := z_neN (c := 20) (by decide) e20; omega) (by decide) ?_
      refine z_iinc C (nI (i + 5)) dL_law_809 rfl (zi_5 _) ?_
      refine z_goto C 18 dL_law_812 (by decide) ?_
      exact IH S o kp Q tx ln ps pl gd od sm um Qm oo (RR_mono hR (by omega)) (HH_mono hH (by omega)) hT
    · refine z_icmp_gt_t C 815 dL_law_23 (by decide) (law_ex hL hi (by omega)) ?_
      refine z_iconst C 1 dL_law_815 (by decide) ?_
      exact z_lend C Le hkk hnn dL_law_816
def aj (h : Nat) (q : Nat → Nat) : Nat → Nat
  | 0 => h
  | j + 1 => q j
theorem ndL_0 : va_nd [0] = true := by decide +kernel
theorem ndL_53 : va_nd [53] = true := by decide +kernel
theorem ndL_e : va_nd [] = true := by decide +kernel
theorem law_w1 : Cond.classLink RL 7 RX5 ∈ wsL_law ∧ Cond.instantiable RX5 3 ∈ wsL_law ∧ Cond.initialized RX5 ∈ wsL_law ∧ Cond.methodLink RL 9 yX5_init ∈ wsL_law ∧ Cond.instanceMethod yX5_init ∈ wsL_law := ⟨by decide +kernel, by decide +kernel, by decide +kernel, by decide +kernel, by decide +kernel⟩
theorem law_w2 : Cond.classLink RL 10 RX6 ∈ wsL_law ∧ Cond.instantiable RX6 10 ∈ wsL_law ∧ Cond.initialized RX6 ∈ wsL_law ∧ Cond.methodLink RL 12 yX6_init ∈ wsL_law ∧ Cond.instanceMethod yX6_init ∈ wsL_law := ⟨by decide +kernel, by decide +kernel, by decide +kernel, by decide +kernel, by decide +kernel⟩
set_option maxHeartbeats 4000000 in
set_option maxRecDepth 100000 in
theorem law_start {X : zX} (C : zC X 0 0 code RL wsL_law 10) (M : zRm X) {b L : Nat} {xs : Nat → Int32} (La : zLa X b L xs) (Le : zLe X b) (hL : L ≤ 2560) : zG X 0 0 [] [some (.ref b), none, none, none] [] 0 := by
  refine z_newL C M 5 tyX5 inlX5 tyX5_ok law_w1.1 law_w1.2.1 law_w1.2.2.1 rfl (fs := [.null, .null, .null]) (fun j hj => by rcases (show j = 0 ∨ j = 1 ∨ j = 2 by omega) with rfl | rfl | rfl <;> rfl) rfl rfl (k' := 1) (n' := 3) (by decide) (by decide) dL_law_0 (fun q0 => ?_)
  have C := zC_mono C M (k' := 1) (n' := 3) (by decide) (by decide)
  refine z_dup C dL_law_3 rfl ?_
  refine z_callIL (wr := []) C M kX5_init rfl gL_law_X5_init law_w1.2.2.1 law_w1.2.2.2.1 law_w1.2.2.2.2 (mX5_init X.2.1 q0) dL_law_4 [0] [] [.ref q0] rfl rfl ndL_0 ndL_e (by decide) rfl (by decide) (Nat.le_of_ble_eq_true rfl) (by simp [Value.category]) rfl rfl rfl (k' := 53) (n' := 3001) (by decide) (by decide) (fun q => ?_)
  have C := zC_mono C M (k' := 53) (n' := 3001) (by decide) (by decide)
  refine z_cv (ws' := WRd X.2.1 q0 (q 8) (q 9) (q 50) (q 51) q (fun i j => q (10 + 8 * i + j)) S0 0 0 (fun _ => S0) (fun _ => 0) 0 (0, 0, 0, 0, 0, 0)) rfl rfl rfl ?_
  refine z_astore_n C 1 dL_law_7 rfl (Nat.le_of_ble_eq_true rfl) ?_
  refine z_newL C M 6 tyX6 inlX6 tyX6_ok law_w2.1 law_w2.2.1 law_w2.2.2.1 rfl (fs := [.null, .null, .null, .int 0, .int 0, .null, .int 0, .int 0, .int 0, .null]) (fun j hj => by rcases (show j = 0 ∨ j = 1 ∨ j = 2 ∨ j = 3 ∨ j = 4 ∨ j = 5 ∨ j = 6 ∨ j = 7 ∨ j = 8 ∨ j = 9 by omega) with rfl | rfl | rfl | rfl | rfl | rfl | rfl | rfl | rfl | rfl <;> rfl) rfl rfl (k' := 54) (n' := 3011) (by decide) (by decide) dL_law_8 (fun q1 => ?_)
  have C := zC_mono C M (k' := 54) (n' := 3011) (by decide) (by decide)
  refine z_dup C dL_law_11 rfl ?_
  refine z_callIL (wr := WRd X.2.1 q0 (q 8) (q 9) (q 50) (q 51) q (fun i j => q (10 + 8 * i + j)) S0 0 0 (fun _ => S0) (fun _ => 0) 0 (0, 0, 0, 0, 0, 0)) C M kX6_init rfl gL_law_X6_init law_w2.2.2.1 law_w2.2.2.2.1 law_w2.2.2.2.2 (mX6_init X.2.1 q1) dL_law_12 [53] [0, 1, 2, 3, 4, 5, 6, 7, 8, 9, 10, 11, 12, 13, 14, 15, 16, 17, 18, 19, 20, 21, 22, 23, 24, 25, 26, 27, 28, 29, 30, 31, 32, 33, 34, 35, 36, 37, 38, 39, 40, 41, 42, 43, 44, 45, 46, 47, 48, 49, 50, 51, 52] [.ref q1] rfl rfl ndL_53 ndL_R (by decide) rfl (by decide) (Nat.le_of_ble_eq_true rfl) (by simp [Value.category]) rfl rfl rfl (k' := 59) (n' := 6263) (by decide) (by decide) (fun q' => ?_)
  have C := zC_mono C M (k' := 59) (n' := 6263) (by decide) (by decide)
  refine z_cv (ws' := LWd X.2.1 q0 (q 8) (q 9) (q 50) (q 51) q (fun i j => q (10 + 8 * i + j)) (aj q1 q') S0 0 0 (fun _ => S0) (fun _ => 0) 0 (0, 0, 0, 0, 0, 0) 0 false 0 m0 mz (fun _ => mz) (fun _ => 0) 0 (fun _ => 0) 0) rfl rfl rfl ?_
  refine z_astore_n C 2 dL_law_15 rfl (Nat.le_of_ble_eq_true rfl) ?_
  refine z_iconst C (nI 0) dL_law_16 (by decide) ?_
  refine z_istore_n C 3 dL_law_17 rfl (Nat.le_of_ble_eq_true rfl) ?_
  exact law_loop C (by decide) (by decide) La Le hL q0 (q 8) (q 9) (q 50) (q 51) q (fun i j => q (10 + 8 * i + j)) (aj q1 q') (L + 1) 0 0 (by omega) (by omega) (by omega) S0 0 0 (fun _ => S0) (fun _ => 0) 0 (0, 0, 0, 0, 0, 0) 0 false 0 m0 mz (fun _ => mz) (fun _ => 0) RR_0 (HH_0 _ _) ⟨by decide, fun _ => (by decide : (0 : Nat) < 65536)⟩
theorem law_t1 : Cond.instantiable RX0 2 ∈ lw_tbl ∧ Cond.instantiable RX1 3 ∈ lw_tbl ∧ Cond.instantiable RX2 2 ∈ lw_tbl ∧ Cond.instantiable RX3 8 ∈ lw_tbl ∧ Cond.instantiable RX4 5 ∈ lw_tbl ∧ Cond.instantiable RX5 3 ∈ lw_tbl ∧ Cond.instantiable RX6 10 ∈ lw_tbl := ⟨by decide +kernel, by decide +kernel, by decide +kernel, by decide +kernel, by decide +kernel, by decide +kernel, by decide +kernel⟩
theorem law_t2 : Cond.arrayClass .int ∈ lw_tbl ∧ Cond.arrayClass .char ∈ lw_tbl ∧ Cond.arrayOver (.object RX4) ∈ lw_tbl := ⟨by decide +kernel, by decide +kernel, by decide +kernel⟩
theorem law_t3 : ∀ q ∈ zNest, Cond.methodLinkNest q.1 q.2.1 q.2.2.1 q.2.2.2 ∈ lw_tbl := by decide +kernel
theorem arrOf {s : State} {cA : ClassId} {kA : Class} {comp : ClassId} {ty : FieldType} (h1 : s.vm.classes[cA]? = some kA) (h2 : kA.kind = .array comp ty) : ArrOfT s cA ty := fun n z => ⟨fun k h => (by cases h), kA, h1, comp, h2⟩
/-! THE LAW, from its entry -/
set_option maxHeartbeats 4000000 in
set_option maxRecDepth 100000 in
theorem whole_start {p : Program} {e : Env} {s : State} {m : MethodId} {below : List Frame} {meth : Method} {c : Code} (l : Launch) (hflags : l.flags = flags0) {b L : Nat} {xs : Nat → Int32} (hL : L ≤ 2560) (C0 : lw_At p s m meth c b L xs) : W p l e room_1 s m #[Value.ref b] below meth c s.heap [] 0 0 (lw_Z below #[Value.ref b] s) (entryFrame m ([Value.ref b] : List Value).toArray 4) := by
  obtain ⟨hx, hb, hr, hml, hown, hts, hX, hbl, hlocks, hgv⟩ := id C0
  obtain ⟨t1, t2, t3, t4, t5, t6, t7⟩ := law_t1
  obtain ⟨u1, u2, u3⟩ := law_t2
  obtain ⟨c0, i0, K0⟩ := u_known (C := RX0) (T := TX0) (N := 2) (n := 2) hts inX0 (hts _ t1)
  obtain ⟨c1, i1, K1⟩ := u_known (C := RX1) (T := TX1) (N := 3) (n := 3) hts inX1 (hts _ t2)
  obtain ⟨c2, i2, K2⟩ := u_known (C := RX2) (T := TX2) (N := 2) (n := 2) hts inX2 (hts _ t3)
  obtain ⟨c3, i3, K3⟩ := u_known (C := RX3) (T := TX3) (N := 8) (n := 8) hts inX3 (hts _ t4)
  obtain ⟨c4, i4, K4⟩ := u_known (C := RX4) (T := TX4) (N := 5) (n := 5) hts inX4 (hts _ t5)
  obtain ⟨c5, i5, K5⟩ := u_known (C := RX5) (T := TX5) (N := 3) (n := 3) hts inX5 (hts _ t6)
  obtain ⟨c6, i6, K6⟩ := u_known (C := RX6) (T := TX6) (N := 10) (n := 10) hts inX6 (hts _ t7)
  obtain ⟨dC, dI, hKc⟩ : ∃ (dC : Nat → ClassId) (dI : Nat → Nat → Nat), ∀ (k : Nat) (q : vw_C), vwCl[k]? = some q → u_Kn s q.1 q.2.1 q.2.2 (dC k) (dI k) := by
    refine ⟨fun k => match k with | 0 => c0 | 1 => c1 | 2 => c2 | 3 => c3 | 4 => c4 | 5 => c5 | _ => c6, fun k => match k with | 0 => i0 | 1 => i1 | 2 => i2 | 3 => i3 | 4 => i4 | 5 => i5 | _ => i6, ?_⟩
    intro k q hq
    match k, hq with
    | 0, hq => cases hq; exact K0
    | 1, hq => cases hq; exact K1
    | 2, hq => cases hq; exact K2
    | 3, hq => cases hq; exact K3
    | 4, hq => cases hq; exact K4
    | 5, hq => cases hq; exact K5
    | 6, hq => cases hq; exact K6
    | k + 7, hq => simp [vwCl] at hq
  obtain ⟨cI, kI, pI, f1, f2, f3⟩ := Cond.arrayClass_spec (hts _ u1)
  obtain ⟨cC, kC, pC, g1, g2, g3⟩ := Cond.arrayClass_spec (hts _ u2)
  obtain ⟨pT, cT, kT, a1, a2, a3, a4, a5⟩ := Cond.arrayOver_spec (hts _ u3)
  have hKn : zKn (l, (dC, dI), cI, cC, cT) s := by
    refine ⟨⟨hKc, fun k q hq => ?_⟩, fun q hq => va_Nw.of rfl (hts _ (law_t3 q hq)), va_AO.of (hts _ u3)⟩
    match k, hq with
    | 0, hq => cases hq; exact ⟨arrOf f2 f3, f1⟩
    | 1, hq => cases hq; exact ⟨arrOf g2 g3, g1⟩
    | 2, hq => cases hq; exact ⟨arrOf a3 a4, kT, pT, a3, a4, a1, a5⟩
    | k + 3, hq => simp [zT] at hq
  have key := law_start (X := (p, (l, (dC, dI), cI, cC, cT), e, room_1, s, m, #[Value.ref b], below, meth, c, lw_Z below #[Value.ref b] s, (fun q : Nat => s.heap.size ≤ q), 4)) (b := b) (L := L) (xs := xs) ⟨hx, hb, hml, hown, fun w hw => hts w (wsL_law_in w hw), hKn, fun _ h => h, (by decide), (by decide), Nat.zero_le _, Nat.zero_le _⟩ ⟨rfl, rfl⟩ ⟨hX, hbl, Nat.not_le.mpr hbl⟩ ⟨rfl, rfl, hr, hlocks, rfl, rfl⟩ hL
  rw [lg_entry_eq]
  exact key s.heap [] _ (fun k q h => by simp at h) ⟨fun i j p q h => by simp at h, fun k q h => by simp at h⟩ va_S.rf (zH.entry [.ref b] 4 (fun v hv => by rcases List.mem_singleton.mp hv with rfl; rfl) (Nat.le_of_ble_eq_true rfl) (Nat.le_of_ble_eq_true rfl))
