/-! rows of lines: f their slots in order, u how many -/
def pE (f : Nat → Int32) (sl : Int32) : Nat → Bool := fun j => decide (f j = sl)
def zix (p : Nat → Bool) : Nat → Nat
  | 0 => 0
  | n + 1 => if zix p n < n then zix p n else if p n then n else n + 1
theorem zix_le (p : Nat → Bool) : ∀ n, zix p n ≤ n
  | 0 => Nat.le_refl 0
  | n + 1 => by
    have := zix_le p n
    simp only [zix]
    split
    · omega
    · split <;> omega
theorem zix_a {p : Nat → Bool} {n : Nat} (h : zix p n < n) : zix p (n + 1) = zix p n := by simp only [zix]; rw [if_pos h]
theorem zix_b {p : Nat → Bool} {n : Nat} (h : ¬ zix p n < n) (hp : p n = true) : zix p (n + 1) = n := by simp only [zix]; rw [if_neg h, if_pos hp]
theorem zix_c {p : Nat → Bool} {n : Nat} (h : ¬ zix p n < n) (hp : p n = false) : zix p (n + 1) = n + 1 := by simp only [zix]; rw [if_neg h, hp]; rfl
theorem zf_eq (p : Nat → Bool) : ∀ n, n < 2147483648 → zf p n = if zix p n < n then nI (zix p n) else -5
  | 0, _ => rfl
  | n + 1, h => by
    have ih := zf_eq p n (by omega)
    have hle := zix_le p n
    rw [zf]
    by_cases hz : zix p n < n
    · rw [if_pos hz] at ih
      rw [ih, if_neg (nI_m5 (by omega)), zix_a hz, if_pos (by omega)]
    · rw [if_neg hz] at ih
      rw [ih, if_pos rfl]
      cases hp : p n with
      | true => rw [zix_b hz hp]; simp
      | false => rw [zix_c hz hp]; simp
theorem zf_ix {p : Nat → Bool} {n : Nat} (hn : n < 2147483648) (h : zix p n < n) : zf p n = nI (zix p n) := by rw [zf_eq p n hn, if_pos h]
theorem zf_nix {p : Nat → Bool} {n : Nat} (hn : n < 2147483648) (h : ¬ zix p n < n) : zf p n = -5 := by rw [zf_eq p n hn, if_neg h]
def zOpL (f : Nat → Int32) (u k : Nat) : Nat → Int32 := fun i => if k < i ∧ i ≤ u then f (i - 1) else f i
theorem zOpL_0 (f : Nat → Int32) (u : Nat) : zOpL f u u = f := by
  funext i
  simp only [zOpL]
  rw [if_neg (by omega)]
theorem zOpL_s {f : Nat → Int32} {u q : Nat} (h : q + 1 ≤ u) : upd (zOpL f u (q + 1)) (q + 1) (zOpL f u (q + 1) q) = zOpL f u q := by
  funext i
  simp only [zOpL, upd]
  by_cases hi : i = q + 1
  · rw [if_pos hi, if_neg (by omega), if_pos (by omega), hi]
    rfl
  · rw [if_neg hi]
    by_cases h2 : q + 1 < i ∧ i ≤ u
    · rw [if_pos h2, if_pos (by omega)]
    · rw [if_neg h2, if_neg (by omega)]
def zOp (f : Nat → Int32) (u j : Nat) : Nat → Int32 := upd (zOpL f u j) j (f u)
def zClL (f : Nat → Int32) (j k : Nat) : Nat → Int32 := fun i => if j ≤ i ∧ i < k then f (i + 1) else f i
theorem zClL_0 (f : Nat → Int32) (j : Nat) : zClL f j j = f := by
  funext i
  simp only [zClL]
  rw [if_neg (by omega)]
theorem zClL_s {f : Nat → Int32} {j k : Nat} (h : j ≤ k) : upd (zClL f j k) k (zClL f j k (k + 1)) = zClL f j (k + 1) := by
  funext i
  simp only [zClL, upd]
  by_cases hi : i = k
  · rw [if_pos hi, if_neg (by omega), if_pos (by omega), hi]
  · rw [if_neg hi]
    by_cases h2 : j ≤ i ∧ i < k
    · rw [if_pos h2, if_pos (by omega)]
    · rw [if_neg h2, if_neg (by omega)]
def zCl (f : Nat → Int32) (u : Nat) (sl : Int32) : Nat → Int32 := if zix (pE f sl) u < u then upd (zClL f (zix (pE f sl) u) (u - 1)) (u - 1) sl else f
def zClu (f : Nat → Int32) (u : Nat) (sl : Int32) : Nat := if zix (pE f sl) u < u then u - 1 else u
theorem zCl_y {f : Nat → Int32} {u : Nat} {sl : Int32} (h : zix (pE f sl) u < u) : zCl f u sl = upd (zClL f (zix (pE f sl) u) (u - 1)) (u - 1) sl := if_pos h
theorem zCl_n {f : Nat → Int32} {u : Nat} {sl : Int32} (h : ¬ zix (pE f sl) u < u) : zCl f u sl = f := if_neg h
theorem zClu_y {f : Nat → Int32} {u : Nat} {sl : Int32} (h : zix (pE f sl) u < u) : zClu f u sl = u - 1 := if_pos h
theorem zClu_n {f : Nat → Int32} {u : Nat} {sl : Int32} (h : ¬ zix (pE f sl) u < u) : zClu f u sl = u := if_neg h
theorem kX2_isFull : zY yX2_isFull wsX2_isFull cX2_isFull 1 (some .boolean) 0 := ⟨⟨_, rfl⟩, ⟨by decide +kernel, by decide +kernel, by decide +kernel⟩, by decide +kernel⟩
theorem fX2_isFull_21 : zF wsX2_isFull RX2 21 2 1 RX2 TX2 2 := ⟨by decide +kernel, rfl, by decide, by decide +kernel, rfl⟩
theorem fX2_isFull_15 : zF wsX2_isFull RX2 15 2 0 RX2 TX2 2 := ⟨by decide +kernel, rfl, by decide, by decide +kernel, rfl⟩
set_option maxHeartbeats 4000000 in
set_option maxRecDepth 100000 in
theorem mX2_isFull (E : zE) (h0 h1 nn : Nat) (f : Nat → Int32) (u : Nat)  (hN : nn ≤ 12) (hu : u ≤ nn) : zM E yX2_isFull wsX2_isFull 0 [.ref h0] [(h0, .inr (2, [.ref h1, .int (nI u)])), (h1, .inl (E.2.2.1, nn, .inl f))] [(h0, .inr (2, [.ref h1, .int (nI u)])), (h1, .inl (E.2.2.1, nn, .inl f))] (some (.int (zb (decide (nn ≤ u))))) := by
  refine zM.of kX2_isFull (Nat.le_of_ble_eq_true rfl) rfl [some (.ref h0)] rfl (Nat.le_of_ble_eq_true rfl) ?_
  intro X eX C N
  subst eX
  refine z_aload_n C 0 dX2_isFull_0 rfl rfl ?_
  refine z_get C fX2_isFull_21 0 dX2_isFull_1 rfl rfl ?_
  refine z_aload_n C 0 dX2_isFull_4 rfl rfl ?_
  refine z_get C fX2_isFull_15 0 dX2_isFull_5 rfl rfl ?_
  refine z_alen C 1 dX2_isFull_8 rfl ?_
  refine z_ncmp_lt C 16 dX2_isFull_9 (by decide) (by omega) (by omega) (fun h_1 => ?_) (fun h_1 => ?_)
  · refine z_iconst C (nI 0) dX2_isFull_16 (by decide) ?_
    exact z_zret C N dX2_isFull_17 rfl (rfl) (congrArg (fun x => some (Value.int x)) (zb_f (by simp [h_1])).symm)
  · refine z_iconst C (nI 1) dX2_isFull_12 (by decide) ?_
    refine z_goto C 17 dX2_isFull_13 (by decide) ?_
    exact z_zret C N dX2_isFull_17 rfl (rfl) (congrArg (fun x => some (Value.int x)) (zb_t (by simp [h_1])).symm)

theorem kX2_slotAt : zY yX2_slotAt wsX2_slotAt cX2_slotAt 2 (some .int) 1 := ⟨⟨_, rfl⟩, ⟨by decide +kernel, by decide +kernel, by decide +kernel⟩, by decide +kernel⟩
theorem fX2_slotAt_21 : zF wsX2_slotAt RX2 21 2 1 RX2 TX2 2 := ⟨by decide +kernel, rfl, by decide, by decide +kernel, rfl⟩
theorem fX2_slotAt_15 : zF wsX2_slotAt RX2 15 2 0 RX2 TX2 2 := ⟨by decide +kernel, rfl, by decide, by decide +kernel, rfl⟩
set_option maxHeartbeats 4000000 in
set_option maxRecDepth 100000 in
theorem mX2_slotAt_in (E : zE) (h0 h1 nn : Nat) (f : Nat → Int32) (u : Nat) (j : Nat) (hN : nn ≤ 12) (hu : u ≤ nn) (hj : j < u) : zM E yX2_slotAt wsX2_slotAt 0 [.ref h0, .int (nI j)] [(h0, .inr (2, [.ref h1, .int (nI u)])), (h1, .inl (E.2.2.1, nn, .inl f))] [(h0, .inr (2, [.ref h1, .int (nI u)])), (h1, .inl (E.2.2.1, nn, .inl f))] (some (.int (f j))) := by
  refine zM.of kX2_slotAt (Nat.le_of_ble_eq_true rfl) rfl [some (.ref h0), some (.int (nI j))] rfl (Nat.le_of_ble_eq_true rfl) ?_
  intro X eX C N
  subst eX
  refine z_iload_n C 1 dX2_slotAt_0 rfl rfl ?_
  refine z_nif_lt_f C 21 dX2_slotAt_1 (by decide) (by omega) (by trivial) ?_
  refine z_iload_n C 1 dX2_slotAt_4 rfl rfl ?_
  refine z_aload_n C 0 dX2_slotAt_5 rfl rfl ?_
  refine z_get C fX2_slotAt_21 0 dX2_slotAt_6 rfl rfl ?_
  refine z_ncmp_ge_f C 21 dX2_slotAt_9 (by decide) (by omega) (by omega) (by omega) ?_
  refine z_iload_n C 1 dX2_slotAt_12 rfl rfl ?_
  refine z_aload_n C 0 dX2_slotAt_13 rfl rfl ?_
  refine z_get C fX2_slotAt_15 0 dX2_slotAt_14 rfl rfl ?_
  refine z_alen C 1 dX2_slotAt_17 rfl ?_
  refine z_ncmp_lt_t C 24 dX2_slotAt_18 (by decide) (by omega) (by omega) (by omega) ?_
  refine z_aload_n C 0 dX2_slotAt_24 rfl rfl ?_
  refine z_get C fX2_slotAt_15 0 dX2_slotAt_25 rfl rfl ?_
  refine z_iload_n C 1 dX2_slotAt_28 rfl rfl ?_
  refine z_ialdN C 1 dX2_slotAt_29 rfl (by omega) (by omega) ?_
  exact z_iret C N dX2_slotAt_30 (rfl) (rfl)

set_option maxHeartbeats 4000000 in
set_option maxRecDepth 100000 in
theorem mX2_slotAt_out (E : zE) (h0 h1 nn : Nat) (f : Nat → Int32) (u : Nat) (x : Int32) (hN : nn ≤ 12) (hu : u ≤ nn) (hx : x < 0 ∨ (¬ x < 0 ∧ nI u ≤ x)) : zM E yX2_slotAt wsX2_slotAt 0 [.ref h0, .int x] [(h0, .inr (2, [.ref h1, .int (nI u)])), (h1, .inl (E.2.2.1, nn, .inl f))] [(h0, .inr (2, [.ref h1, .int (nI u)])), (h1, .inl (E.2.2.1, nn, .inl f))] (some (.int (-5))) := by
  refine zM.of kX2_slotAt (Nat.le_of_ble_eq_true rfl) rfl [some (.ref h0), some (.int x)] rfl (Nat.le_of_ble_eq_true rfl) ?_
  intro X eX C N
  subst eX
  rcases hx with hx | ⟨hx0, hx1⟩
  · refine z_iload_n C 1 dX2_slotAt_0 rfl rfl ?_
    refine z_if_lt_t C 21 dX2_slotAt_1 (by decide) hx ?_
    refine z_bipush C (-5) dX2_slotAt_21 (by decide) ?_
    exact z_iret C N dX2_slotAt_23 (rfl) (rfl)
  · refine z_iload_n C 1 dX2_slotAt_0 rfl rfl ?_
    refine z_if_lt_f C 21 dX2_slotAt_1 (by decide) hx0 ?_
    refine z_iload_n C 1 dX2_slotAt_4 rfl rfl ?_
    refine z_aload_n C 0 dX2_slotAt_5 rfl rfl ?_
    refine z_get C fX2_slotAt_21 0 dX2_slotAt_6 rfl rfl ?_
    refine z_icmp_ge_t C 21 dX2_slotAt_9 (by decide) hx1 ?_
    refine z_bipush C (-5) dX2_slotAt_21 (by decide) ?_
    exact z_iret C N dX2_slotAt_23 (rfl) (rfl)

theorem kX2_placeOf : zY yX2_placeOf wsX2_placeOf cX2_placeOf 3 (some .int) 1 := ⟨⟨_, rfl⟩, ⟨by decide +kernel, by decide +kernel, by decide +kernel⟩, by decide +kernel⟩
theorem fX2_placeOf_21 : zF wsX2_placeOf RX2 21 2 1 RX2 TX2 2 := ⟨by decide +kernel, rfl, by decide, by decide +kernel, rfl⟩
theorem fX2_placeOf_15 : zF wsX2_placeOf RX2 15 2 0 RX2 TX2 2 := ⟨by decide +kernel, rfl, by decide, by decide +kernel, rfl⟩
set_option maxHeartbeats 4000000 in
set_option maxRecDepth 100000 in
theorem mX2_placeOf (E : zE) (h0 h1 nn : Nat) (f : Nat → Int32) (u : Nat) (sl : Int32) (hN : nn ≤ 12) (hu : u ≤ nn) : zM E yX2_placeOf wsX2_placeOf 0 [.ref h0, .int sl] [(h0, .inr (2, [.ref h1, .int (nI u)])), (h1, .inl (E.2.2.1, nn, .inl f))] [(h0, .inr (2, [.ref h1, .int (nI u)])), (h1, .inl (E.2.2.1, nn, .inl f))] (some (.int (zf (pE f sl) u))) := by
  refine zM.of kX2_placeOf (Nat.le_of_ble_eq_true rfl) rfl [some (.ref h0), some (.int sl), none] rfl (Nat.le_of_ble_eq_true rfl) ?_
  intro X eX C N
  subst eX
  refine z_iconst C (nI 0) dX2_placeOf_0 (by decide) ?_
  refine z_istore_n C 2 dX2_placeOf_1 rfl (Nat.le_of_ble_eq_true rfl) ?_
  have hL2 : ∀ (dd : Nat) (k : Nat), u - k = dd → (k ≤ u) → (∀ j, j < k → (pE f sl) j = false) → zG X 0 0 [(h0, .inr (2, [.ref h1, .int (nI u)])), (h1, .inl (X.2.1.2.2.1, nn, .inl f))] [some (.ref h0), some (.int sl), some (.int (nI k))] [] 2 := by
    intro dd
    induction dd using Nat.strongRecOn with
    | _ dd ih2 =>
    intro k hdd hk hf
    refine z_iload_n C 2 dX2_placeOf_2 rfl rfl ?_
    refine z_aload_n C 0 dX2_placeOf_3 rfl rfl ?_
    refine z_get C fX2_placeOf_21 0 dX2_placeOf_4 rfl rfl ?_
    refine z_ncmp_ge C 37 dX2_placeOf_7 (by decide) (by omega) (by omega) (fun h_1 => ?_) (fun h_1 => ?_)
    · refine z_bipush C (-5) dX2_placeOf_37 (by decide) ?_
      exact z_iret C N dX2_placeOf_39 (rfl) (by rw [zf_no (fun j hj => hf j (by omega))])
    · refine z_iload_n C 2 dX2_placeOf_10 rfl rfl ?_
      refine z_aload_n C 0 dX2_placeOf_11 rfl rfl ?_
      refine z_get C fX2_placeOf_15 0 dX2_placeOf_12 rfl rfl ?_
      refine z_alen C 1 dX2_placeOf_15 rfl ?_
      refine z_ncmp_ge_f C 37 dX2_placeOf_16 (by decide) (by omega) (by omega) (by omega) ?_
      refine z_aload_n C 0 dX2_placeOf_19 rfl rfl ?_
      refine z_get C fX2_placeOf_15 0 dX2_placeOf_20 rfl rfl ?_
      refine z_iload_n C 2 dX2_placeOf_23 rfl rfl ?_
      refine z_ialdN C 1 dX2_placeOf_24 rfl (by omega) (by omega) ?_
      refine z_iload_n C 1 dX2_placeOf_25 rfl rfl ?_
      refine z_icmp_ne C 31 dX2_placeOf_26 (by decide) (fun h_2 => ?_) (fun h_2 => ?_)
      · refine z_iinc C (nI (k + 1)) dX2_placeOf_31 rfl (zi_1 _) ?_
        refine z_goto C 2 dX2_placeOf_34 (by decide) ?_
        exact ih2 (u - (k + 1)) (by omega) (k + 1) rfl (by omega) (lt_s hf (by simp [pE, h_1, h_2]))
      · refine z_iload_n C 2 dX2_placeOf_29 rfl rfl ?_
        exact z_iret C N dX2_placeOf_30 (rfl) (by rw [zf_at (k := k) (by omega) (by simp [pE, h_1, h_2]) hf (by omega)])
  exact hL2 _ 0 rfl (by omega) (fun j h => absurd h (Nat.not_lt_zero j))

theorem kX2_open : zY yX2_open wsX2_open cX2_open 4 (some .int) 1 := ⟨⟨_, rfl⟩, ⟨by decide +kernel, by decide +kernel, by decide +kernel⟩, by decide +kernel⟩
theorem fX2_open_21 : zF wsX2_open RX2 21 2 1 RX2 TX2 2 := ⟨by decide +kernel, rfl, by decide, by decide +kernel, rfl⟩
theorem fX2_open_15 : zF wsX2_open RX2 15 2 0 RX2 TX2 2 := ⟨by decide +kernel, rfl, by decide, by decide +kernel, rfl⟩
theorem ftX2_1 : zFt 1 2 TX2 tyX2 false := ⟨tyX2_ok, nmX2, rfl⟩
set_option maxHeartbeats 4000000 in
set_option maxRecDepth 100000 in
theorem mX2_open (E : zE) (h0 h1 nn : Nat) (f : Nat → Int32) (u : Nat) (j : Nat) (hN : nn ≤ 12) (hu : u ≤ nn) (hj : j ≤ u) (huN : u < nn) : zM E yX2_open wsX2_open 0 [.ref h0, .int (nI j)] [(h0, .inr (2, [.ref h1, .int (nI u)])), (h1, .inl (E.2.2.1, nn, .inl f))] [(h0, .inr (2, [.ref h1, .int (nI (u + 1))])), (h1, .inl (E.2.2.1, nn, .inl (zOp f u j)))] (some (.int (f u))) := by
  refine zM.of kX2_open (Nat.le_of_ble_eq_true rfl) rfl [some (.ref h0), some (.int (nI j)), none, none] rfl (Nat.le_of_ble_eq_true rfl) ?_
  intro X eX C N
  subst eX
  refine z_iload_n C 1 dX2_open_0 rfl rfl ?_
  refine z_nif_lt_f C 24 dX2_open_1 (by decide) (by omega) (by trivial) ?_
  refine z_iload_n C 1 dX2_open_4 rfl rfl ?_
  refine z_aload_n C 0 dX2_open_5 rfl rfl ?_
  refine z_get C fX2_open_21 0 dX2_open_6 rfl rfl ?_
  refine z_ncmp_gt_f C 24 dX2_open_9 (by decide) (by omega) (by omega) (by omega) ?_
  refine z_aload_n C 0 dX2_open_12 rfl rfl ?_
  refine z_get C fX2_open_21 0 dX2_open_13 rfl rfl ?_
  refine z_aload_n C 0 dX2_open_16 rfl rfl ?_
  refine z_get C fX2_open_15 0 dX2_open_17 rfl rfl ?_
  refine z_alen C 1 dX2_open_20 rfl ?_
  refine z_ncmp_lt_t C 27 dX2_open_21 (by decide) (by omega) (by omega) (by omega) ?_
  refine z_aload_n C 0 dX2_open_27 rfl rfl ?_
  refine z_get C fX2_open_15 0 dX2_open_28 rfl rfl ?_
  refine z_aload_n C 0 dX2_open_31 rfl rfl ?_
  refine z_get C fX2_open_21 0 dX2_open_32 rfl rfl ?_
  refine z_ialdN C 1 dX2_open_35 rfl (by omega) (by omega) ?_
  refine z_istore_n C 2 dX2_open_36 rfl (Nat.le_of_ble_eq_true rfl) ?_
  refine z_aload_n C 0 dX2_open_37 rfl rfl ?_
  refine z_get C fX2_open_21 0 dX2_open_38 rfl rfl ?_
  refine z_istore_n C 3 dX2_open_41 rfl (Nat.le_of_ble_eq_true rfl) ?_
  have hL42 : ∀ (dd : Nat) (k : Nat) (f' : Nat → Int32), k - j = dd → (j ≤ k) → (k ≤ u) → (f' = zOpL f u k) → zG X 0 0 [(h0, .inr (2, [.ref h1, .int (nI u)])), (h1, .inl (X.2.1.2.2.1, nn, .inl f'))] [some (.ref h0), some (.int (nI j)), some (.int (f u)), some (.int (nI k))] [] 42 := by
    intro dd
    induction dd using Nat.strongRecOn with
    | _ dd ih42 =>
    intro k f' hdd hk hk2 hf
    refine z_iload_n C 3 dX2_open_42 rfl rfl ?_
    refine z_iload_n C 1 dX2_open_43 rfl rfl ?_
    refine z_ncmp_le C 67 dX2_open_44 (by decide) (by omega) (by omega) (fun h_1 => ?_) (fun h_1 => ?_)
    · refine z_aload_n C 0 dX2_open_67 rfl rfl ?_
      refine z_get C fX2_open_15 0 dX2_open_68 rfl rfl ?_
      refine z_iload_n C 1 dX2_open_71 rfl rfl ?_
      refine z_iload_n C 2 dX2_open_72 rfl rfl ?_
      refine z_iastN C 1 dX2_open_73 rfl (by omega) (by omega) ?_
      refine z_aload_n C 0 dX2_open_74 rfl rfl ?_
      refine z_dup C dX2_open_75 rfl ?_
      refine z_get C fX2_open_21 0 dX2_open_76 rfl rfl ?_
      refine z_iconst C (nI 1) dX2_open_79 (by decide) ?_
      refine z_iadd C dX2_open_80 ?_
      refine z_top (y := nI (u + 1)) (nI_add _ _) ?_
      refine z_put C fX2_open_21 ftX2_1 0 dX2_open_81 rfl rfl rfl (Nat.le_of_ble_eq_true rfl) ?_
      refine z_iload_n C 2 dX2_open_84 rfl rfl ?_
      exact z_iret C N dX2_open_85 (by rw [hf, show k = j by omega] <;> rfl) (rfl)
    · obtain ⟨q, rfl⟩ : ∃ q9, k = q9 + 1 := ⟨k - 1, by omega⟩
      refine z_aload_n C 0 dX2_open_47 rfl rfl ?_
      refine z_get C fX2_open_15 0 dX2_open_48 rfl rfl ?_
      refine z_iload_n C 3 dX2_open_51 rfl rfl ?_
      refine z_aload_n C 0 dX2_open_52 rfl rfl ?_
      refine z_get C fX2_open_15 0 dX2_open_53 rfl rfl ?_
      refine z_iload_n C 3 dX2_open_56 rfl rfl ?_
      refine z_iconst C (nI 1) dX2_open_57 (by decide) ?_
      refine z_isub C dX2_open_58 ?_
      refine z_top (y := nI q) ((pk_sub (by omega)).trans (congrArg nI (by omega))) ?_
      refine z_ialdN C 1 dX2_open_59 rfl (by omega) (by omega) ?_
      refine z_iastN C 1 dX2_open_60 rfl (by omega) (by omega) ?_
      refine z_iinc C (nI q) dX2_open_61 rfl (zi_m1 _) ?_
      refine z_goto C 42 dX2_open_64 (by decide) ?_
      exact ih42 (q - j) (by omega) q (upd f' (q + 1) (f' q)) rfl (by omega) (by omega) (by subst hf; exact zOpL_s (by omega))
  exact hL42 _ u f rfl (by omega) (by omega) ((zOpL_0 f u).symm)

theorem kX2_close : zY yX2_close wsX2_close cX2_close 5 none 1 := ⟨⟨_, rfl⟩, ⟨by decide +kernel, by decide +kernel, by decide +kernel⟩, by decide +kernel⟩
theorem fX2_close_21 : zF wsX2_close RX2 21 2 1 RX2 TX2 2 := ⟨by decide +kernel, rfl, by decide, by decide +kernel, rfl⟩
theorem fX2_close_15 : zF wsX2_close RX2 15 2 0 RX2 TX2 2 := ⟨by decide +kernel, rfl, by decide, by decide +kernel, rfl⟩
set_option maxHeartbeats 4000000 in
set_option maxRecDepth 100000 in
theorem mX2_close (E : zE) (h0 h1 nn : Nat) (f : Nat → Int32) (u : Nat) (sl : Int32) (hN : nn ≤ 12) (hu : u ≤ nn) : zM E yX2_close wsX2_close 1 [.ref h0, .int sl] [(h0, .inr (2, [.ref h1, .int (nI u)])), (h1, .inl (E.2.2.1, nn, .inl f))] [(h0, .inr (2, [.ref h1, .int (nI (zClu f u sl))])), (h1, .inl (E.2.2.1, nn, .inl (zCl f u sl)))] none := by
  refine zM.of kX2_close (Nat.le_of_ble_eq_true rfl) rfl [some (.ref h0), some (.int sl), none, none, none] rfl (Nat.le_of_ble_eq_true rfl) ?_
  intro X eX C N
  subst eX
  refine z_aload_n C 0 dX2_close_0 rfl rfl ?_
  refine z_iload_n C 1 dX2_close_1 rfl rfl ?_
  refine z_callVr C kX2_placeOf gX2_close_X2_placeOf (mX2_placeOf X.2.1 h0 h1 nn f u sl hN hu) dX2_close_2 [0, 1] [] 0 rfl nd_0_1 rfl rfl rfl (by decide) (by decide) (Nat.le_of_ble_eq_true rfl) rfl ?_
  by_cases hz : zix (pE f sl) u < u
  · refine z_top (y := nI (zix (pE f sl) u)) (zf_ix (by omega) hz) ?_
    refine z_istore_n C 2 dX2_close_5 rfl (Nat.le_of_ble_eq_true rfl) ?_
    refine z_aload_n C 0 dX2_close_6 rfl rfl ?_
    refine z_get C fX2_close_21 0 dX2_close_7 rfl rfl ?_
    refine z_iconst C (nI 1) dX2_close_10 (by decide) ?_
    refine z_isub C dX2_close_11 ?_
    refine z_top (y := nI (u - 1)) ((pk_sub (by omega)).trans (congrArg nI (by omega))) ?_
    refine z_istore_n C 3 dX2_close_12 rfl (Nat.le_of_ble_eq_true rfl) ?_
    refine z_iload_n C 2 dX2_close_13 rfl rfl ?_
    refine z_nif_lt_f C 31 dX2_close_14 (by decide) (by omega) (by trivial) ?_
    refine z_iload_n C 3 dX2_close_17 rfl rfl ?_
    refine z_iload_n C 2 dX2_close_18 rfl rfl ?_
    refine z_ncmp_lt_f C 31 dX2_close_19 (by decide) (by omega) (by omega) (by omega) ?_
    refine z_iload_n C 3 dX2_close_22 rfl rfl ?_
    refine z_aload_n C 0 dX2_close_23 rfl rfl ?_
    refine z_get C fX2_close_15 0 dX2_close_24 rfl rfl ?_
    refine z_alen C 1 dX2_close_27 rfl ?_
    refine z_ncmp_lt_t C 32 dX2_close_28 (by decide) (by omega) (by omega) (by omega) ?_
    refine z_iload_n C 2 dX2_close_32 rfl rfl ?_
    refine z_istore C dX2_close_33 (Nat.le_of_ble_eq_true rfl) ?_
    have hL35 : ∀ (dd : Nat) (k : Nat) (f' : Nat → Int32), u - k = dd → ((zix (pE f sl) u) ≤ k) → (k + 1 ≤ u) → (f' = zClL f (zix (pE f sl) u) k) → zG X 0 0 [(h0, .inr (2, [.ref h1, .int (nI u)])), (h1, .inl (X.2.1.2.2.1, nn, .inl f'))] [some (.ref h0), some (.int sl), some (.int (nI (zix (pE f sl) u))), some (.int (nI (u - 1))), some (.int (nI k))] [] 35 := by
      intro dd
      induction dd using Nat.strongRecOn with
      | _ dd ih35 =>
      intro k f' hdd hk hk2 hf
      refine z_iload C dX2_close_35 rfl ?_
      refine z_iload_n C 3 dX2_close_37 rfl rfl ?_
      refine z_ncmp_ge C 63 dX2_close_38 (by decide) (by omega) (by omega) (fun h_1 => ?_) (fun h_1 => ?_)
      · refine z_aload_n C 0 dX2_close_63 rfl rfl ?_
        refine z_get C fX2_close_15 0 dX2_close_64 rfl rfl ?_
        refine z_iload_n C 3 dX2_close_67 rfl rfl ?_
        refine z_iload_n C 1 dX2_close_68 rfl rfl ?_
        refine z_iastN C 1 dX2_close_69 rfl (by omega) (by omega) ?_
        refine z_aload_n C 0 dX2_close_70 rfl rfl ?_
        refine z_iload_n C 3 dX2_close_71 rfl rfl ?_
        refine z_put C fX2_close_21 ftX2_1 0 dX2_close_72 rfl rfl rfl (Nat.le_of_ble_eq_true rfl) ?_
        exact z_vret C N dX2_close_75 (by first | (rw [zCl_y hz, zClu_y hz, hf, show k = u - 1 by omega] <;> rfl) | (rw [zCl_n hz, zClu_n hz] <;> rfl))
      · refine z_aload_n C 0 dX2_close_41 rfl rfl ?_
        refine z_get C fX2_close_15 0 dX2_close_42 rfl rfl ?_
        refine z_iload C dX2_close_45 rfl ?_
        refine z_aload_n C 0 dX2_close_47 rfl rfl ?_
        refine z_get C fX2_close_15 0 dX2_close_48 rfl rfl ?_
        refine z_iload C dX2_close_51 rfl ?_
        refine z_iconst C (nI 1) dX2_close_53 (by decide) ?_
        refine z_iadd C dX2_close_54 ?_
        refine z_top (y := nI (k + 1)) (nI_add _ _) ?_
        refine z_ialdN C 1 dX2_close_55 rfl (by omega) (by omega) ?_
        refine z_iastN C 1 dX2_close_56 rfl (by omega) (by omega) ?_
        refine z_iinc C (nI (k + 1)) dX2_close_57 rfl (zi_1 _) ?_
        refine z_goto C 35 dX2_close_60 (by decide) ?_
        exact ih35 (u - (k + 1)) (by omega) (k + 1) (upd f' k (f' (k + 1))) rfl (by omega) (by omega) (by subst hf; exact zClL_s (by omega))
    exact hL35 _ (zix (pE f sl) u) f rfl (Nat.le_refl _) (by omega) ((zClL_0 f _).symm)
  · refine z_top (y := (-5)) (zf_nix (by omega) hz) ?_
    refine z_istore_n C 2 dX2_close_5 rfl (Nat.le_of_ble_eq_true rfl) ?_
    refine z_aload_n C 0 dX2_close_6 rfl rfl ?_
    refine z_get C fX2_close_21 0 dX2_close_7 rfl rfl ?_
    refine z_iconst C (nI 1) dX2_close_10 (by decide) ?_
    refine z_isub C dX2_close_11 ?_
    refine z_top (y := nI u + (-1)) (zi_s _) ?_
    refine z_istore_n C 3 dX2_close_12 rfl (Nat.le_of_ble_eq_true rfl) ?_
    refine z_iload_n C 2 dX2_close_13 rfl rfl ?_
    refine z_if_lt_t C 31 dX2_close_14 (by decide) (by decide) ?_
    exact z_vret C N dX2_close_31 (by first | (rw [zCl_y hz, zClu_y hz, hf, show k = u - 1 by omega] <;> rfl) | (rw [zCl_n hz, zClu_n hz] <;> rfl))

theorem kX5_copy : zY yX5_copy wsX5_copy cX5_copy 2 none 2 := ⟨⟨_, rfl⟩, ⟨by decide +kernel, by decide +kernel, by decide +kernel⟩, by decide +kernel⟩
theorem mn_X5_copy : zMin wsX5_copy RX5 207 := ⟨by decide +kernel, by decide +kernel, by decide +kernel, by decide +kernel⟩
theorem cy_X5_copy : zCpy wsX5_copy RX5 212 := ⟨by decide +kernel, by decide +kernel, by decide +kernel, by decide +kernel⟩
set_option maxHeartbeats 4000000 in
set_option maxRecDepth 100000 in
theorem mX5_copy (E : zE) (a0 a1 nn : Nat) (f g : Nat → Int32) (hN : nn < 100000) : zM E yX5_copy wsX5_copy 1 [.ref a0, .ref a1] [(a0, .inl (E.2.2.1, nn, .inl f)), (a1, .inl (E.2.2.1, nn, .inl g))] [(a0, .inl (E.2.2.1, nn, .inl f)), (a1, .inl (E.2.2.1, nn, .inl f))] none := by
  refine zM.of kX5_copy (Nat.le_of_ble_eq_true rfl) rfl [some (.ref a0), some (.ref a1)] rfl (Nat.le_of_ble_eq_true rfl) ?_
  intro X eX C N
  subst eX
  refine z_aload_n C 0 dX5_copy_0 rfl rfl ?_
  refine z_iconst C (nI 0) dX5_copy_1 (by decide) ?_
  refine z_aload_n C 1 dX5_copy_2 rfl rfl ?_
  refine z_iconst C (nI 0) dX5_copy_3 (by decide) ?_
  refine z_aload_n C 0 dX5_copy_4 rfl rfl ?_
  refine z_alen C 0 dX5_copy_5 rfl ?_
  refine z_aload_n C 1 dX5_copy_6 rfl rfl ?_
  refine z_alen C 1 dX5_copy_7 rfl ?_
  refine z_mmin C mn_X5_copy dX5_copy_8 (by decide) (Nat.le_of_ble_eq_true rfl) ?_
  refine z_top (y := nI nn) (by simp) ?_
  refine z_copy C cy_X5_copy 0 1 dX5_copy_11 rfl rfl (by omega) (by decide) (Nat.le_of_ble_eq_true rfl) ?_
  exact z_vret C N dX5_copy_14 (rfl)

theorem kX2_copyFrom : zY yX2_copyFrom wsX2_copyFrom cX2_copyFrom 2 none 1 := ⟨⟨_, rfl⟩, ⟨by decide +kernel, by decide +kernel, by decide +kernel⟩, by decide +kernel⟩
theorem fX2_copyFrom_15 : zF wsX2_copyFrom RX2 15 2 0 RX2 TX2 2 := ⟨by decide +kernel, rfl, by decide, by decide +kernel, rfl⟩
theorem nst_X2_copyFrom_29 : (RX2, 29, yX5_copy, RX5) ∈ zNest ∧ Cond.initialized RX5 ∈ wsX2_copyFrom ∧ Cond.static yX5_copy ∈ wsX2_copyFrom := ⟨by decide +kernel, by decide +kernel, by decide +kernel⟩
theorem nd_3_1 : va_nd [3, 1] = true := by decide +kernel
theorem fX2_copyFrom_21 : zF wsX2_copyFrom RX2 21 2 1 RX2 TX2 2 := ⟨by decide +kernel, rfl, by decide, by decide +kernel, rfl⟩
set_option maxHeartbeats 4000000 in
set_option maxRecDepth 100000 in
theorem mX2_copyFrom (E : zE) (h0 h1 k0 k1 nn : Nat) (f : Nat → Int32) (u : Nat) (g : Nat → Int32) (v : Nat) (hN : nn ≤ 12) : zM E yX2_copyFrom wsX2_copyFrom 2 [.ref h0, .ref k0] [(h0, .inr (2, [.ref h1, .int (nI u)])), (h1, .inl (E.2.2.1, nn, .inl f)), (k0, .inr (2, [.ref k1, .int (nI v)])), (k1, .inl (E.2.2.1, nn, .inl g))] [(h0, .inr (2, [.ref h1, .int (nI v)])), (h1, .inl (E.2.2.1, nn, .inl g)), (k0, .inr (2, [.ref k1, .int (nI v)])), (k1, .inl (E.2.2.1, nn, .inl g))] none := by
  refine zM.of kX2_copyFrom (Nat.le_of_ble_eq_true rfl) rfl [some (.ref h0), some (.ref k0)] rfl (Nat.le_of_ble_eq_true rfl) ?_
  intro X eX C N
  subst eX
  refine z_aload_n C 1 dX2_copyFrom_0 rfl rfl ?_
  refine z_get C fX2_copyFrom_15 2 dX2_copyFrom_1 rfl rfl ?_
  refine z_aload_n C 0 dX2_copyFrom_4 rfl rfl ?_
  refine z_get C fX2_copyFrom_15 0 dX2_copyFrom_5 rfl rfl ?_
  refine z_callN0 (wn := [(h0, .inr (2, [.ref h1, .int (nI u)])), (h1, .inl (X.2.1.2.2.1, nn, .inl g)), (k0, .inr (2, [.ref k1, .int (nI v)])), (k1, .inl (X.2.1.2.2.1, nn, .inl g))]) C kX5_copy nst_X2_copyFrom_29.1 gX2_copyFrom_X5_copy_n29 nst_X2_copyFrom_29.2.1 nst_X2_copyFrom_29.2.2 (mX5_copy X.2.1 k1 h1 nn g f (by first | assumption | omega)) dX2_copyFrom_8 [3, 1] [] rfl rfl nd_3_1 rfl (by decide) (by decide) (Nat.le_of_ble_eq_true rfl) rfl rfl ?_
  refine z_aload_n C 0 dX2_copyFrom_11 rfl rfl ?_
  refine z_aload_n C 1 dX2_copyFrom_12 rfl rfl ?_
  refine z_get C fX2_copyFrom_21 2 dX2_copyFrom_13 rfl rfl ?_
  refine z_put C fX2_copyFrom_21 ftX2_1 0 dX2_copyFrom_16 rfl rfl rfl (Nat.le_of_ble_eq_true rfl) ?_
  exact z_vret C N dX2_copyFrom_19 (rfl)

theorem kX0_copyFrom : zY yX0_copyFrom wsX0_copyFrom cX0_copyFrom 2 none 1 := ⟨⟨_, rfl⟩, ⟨by decide +kernel, by decide +kernel, by decide +kernel⟩, by decide +kernel⟩
theorem fX0_copyFrom_9 : zF wsX0_copyFrom RX0 9 0 0 RX0 TX0 2 := ⟨by decide +kernel, rfl, by decide, by decide +kernel, rfl⟩
theorem nst_X0_copyFrom_62 : (RX0, 62, yX5_copy, RX5) ∈ zNest ∧ Cond.initialized RX5 ∈ wsX0_copyFrom ∧ Cond.static yX5_copy ∈ wsX0_copyFrom := ⟨by decide +kernel, by decide +kernel, by decide +kernel⟩
theorem fX0_copyFrom_15 : zF wsX0_copyFrom RX0 15 0 1 RX0 TX0 2 := ⟨by decide +kernel, rfl, by decide, by decide +kernel, rfl⟩
set_option maxHeartbeats 4000000 in
set_option maxRecDepth 100000 in
theorem mX0_copyFrom (E : zE) (h0 h1 k0 k1 : Nat) (g : Nat → Int32) (M : Nat) (g' : Nat → Int32) (M' : Nat)  : zM E yX0_copyFrom wsX0_copyFrom 2 [.ref h0, .ref k0] [(h0, .inr (0, [.ref h1, .int (nI M)])), (h1, .inl (E.2.2.1, 360, .inl g)), (k0, .inr (0, [.ref k1, .int (nI M')])), (k1, .inl (E.2.2.1, 360, .inl g'))] [(h0, .inr (0, [.ref h1, .int (nI M')])), (h1, .inl (E.2.2.1, 360, .inl g')), (k0, .inr (0, [.ref k1, .int (nI M')])), (k1, .inl (E.2.2.1, 360, .inl g'))] none := by
  refine zM.of kX0_copyFrom (Nat.le_of_ble_eq_true rfl) rfl [some (.ref h0), some (.ref k0)] rfl (Nat.le_of_ble_eq_true rfl) ?_
  intro X eX C N
  subst eX
  refine z_aload_n C 1 dX0_copyFrom_0 rfl rfl ?_
  refine z_get C fX0_copyFrom_9 2 dX0_copyFrom_1 rfl rfl ?_
  refine z_aload_n C 0 dX0_copyFrom_4 rfl rfl ?_
  refine z_get C fX0_copyFrom_9 0 dX0_copyFrom_5 rfl rfl ?_
  refine z_callN0 (wn := [(h0, .inr (0, [.ref h1, .int (nI M)])), (h1, .inl (X.2.1.2.2.1, 360, .inl g')), (k0, .inr (0, [.ref k1, .int (nI M')])), (k1, .inl (X.2.1.2.2.1, 360, .inl g'))]) C kX5_copy nst_X0_copyFrom_62.1 gX0_copyFrom_X5_copy_n62 nst_X0_copyFrom_62.2.1 nst_X0_copyFrom_62.2.2 (mX5_copy X.2.1 k1 h1 360 g' g (by first | assumption | omega)) dX0_copyFrom_8 [3, 1] [] rfl rfl nd_3_1 rfl (by decide) (by decide) (Nat.le_of_ble_eq_true rfl) rfl rfl ?_
  refine z_aload_n C 0 dX0_copyFrom_11 rfl rfl ?_
  refine z_aload_n C 1 dX0_copyFrom_12 rfl rfl ?_
  refine z_get C fX0_copyFrom_15 2 dX0_copyFrom_13 rfl rfl ?_
  refine z_put C fX0_copyFrom_15 ftX0_1 0 dX0_copyFrom_16 rfl rfl rfl (Nat.le_of_ble_eq_true rfl) ?_
  exact z_vret C N dX0_copyFrom_19 (rfl)
