/-! what insertLine, removeLine, setCell keep; a run of orders -/
theorem zix_p {p : Nat → Bool} : ∀ {n : Nat}, zix p n < n → p (zix p n) = true
  | 0, h => absurd h (Nat.not_lt_zero _)
  | n + 1, h => by
    by_cases h2 : zix p n < n
    · rw [zix_a h2]; exact zix_p h2
    · cases h3 : p n with
      | true => rw [zix_b h2 h3]; exact h3
      | false => rw [zix_c h2 h3] at h; omega
theorem zOp_nn {f : Nat → Int32} {u j n : Nat} (hf : ∀ i, i < n → ¬ f i < 0) (hu : u < n) : ∀ i, i < n → ¬ zOp f u j i < 0 := by
  intro i hi
  simp only [zOp, upd, zOpL]
  split
  · exact hf u hu
  · split
    · exact hf _ (by omega)
    · exact hf i hi
theorem zCl_nn {f : Nat → Int32} {u n : Nat} {sl : Int32} (hf : ∀ i, i < n → ¬ f i < 0) (hu : u ≤ n) : ∀ i, i < n → ¬ zCl f u sl i < 0 := by
  intro i hi
  by_cases hz : zix (pE f sl) u < u
  · rw [zCl_y hz]
    simp only [upd, zClL]
    split
    · have := zix_p hz
      simp only [pE, decide_eq_true_eq] at this
      rw [← this]
      exact hf _ (by omega)
    · split
      · exact hf _ (by omega)
      · exact hf i hi
  · rw [zCl_n hz]
    exact hf i hi
def gS (S : zSt) : Prop := okS S ∧ wS S
theorem gS_DrR {S : zSt} {sl : Int32} (h : gS S) : gS (zDrR S sl) := ⟨okS_DrR h.1, zCl_nn h.2.1 h.1.1, h.2.2⟩
theorem gS_DrC {S : zSt} {sl : Int32} (h : gS S) : gS (zDrC S sl) := ⟨okS_DrC h.1, h.2.1, zCl_nn h.2.2 h.1.2.1⟩
theorem gS_Fa {S : zSt} {g : Nat → Int32} (h : gS S) : gS (zFa S g) := h
theorem gS_Bs {S : zSt} {g : Nat → Int32} (h : gS S) : gS (zBs S g) := h
theorem gS_New {S : zSt} {kd au r c v : Int32} (h : gS S) (hm : ¬ 60 ≤ mK S) : gS (zNew S kd au r c v) := ⟨⟨h.1.1, h.1.2.1, by show mK S + 1 ≤ 60; omega⟩, h.2⟩
theorem gS_InR {S : zSt} {j : Nat} (h : gS S) (hu : ¬ 12 ≤ rU S) : gS (zInR S j) := ⟨⟨by show rU S + 1 ≤ 12; omega, h.1.2⟩, zOp_nn h.2.1 (by omega), h.2.2⟩
theorem gS_InC {S : zSt} {j : Nat} (h : gS S) (hu : ¬ 8 ≤ cU S) : gS (zInC S j) := ⟨⟨h.1.1, by show cU S + 1 ≤ 8; omega, h.1.2.2⟩, h.2.1, zOp_nn h.2.2 (by omega)⟩
theorem gS_InsR {S : zSt} {au pl : Int32} (h : gS S) : gS (zInsR S au pl).2 := by
  unfold zInsR
  split
  · exact h
  · split
    · exact h
    · rename_i q
      split
      · rename_i ht
        exact gS_New (gS_InR h (fun z => q (Or.inl z))) (fun z => q (Or.inr ⟨ht, z⟩))
      · exact gS_InR h (fun z => q (Or.inl z))
theorem gS_InsC {S : zSt} {au pl : Int32} (h : gS S) : gS (zInsC S au pl).2 := by
  unfold zInsC
  split
  · exact h
  · split
    · exact h
    · rename_i q
      split
      · rename_i ht
        exact gS_New (gS_InC h (fun z => q (Or.inl z))) (fun z => q (Or.inr ⟨ht, z⟩))
      · exact gS_InC h (fun z => q (Or.inl z))
theorem gS_Ins {S : zSt} {au ax pl : Int32} (h : gS S) : gS (zIns S au ax pl).2 := by
  unfold zIns
  split
  · exact h
  · split
    · exact gS_InsR h
    · split
      · exact gS_InsC h
      · exact h
theorem gS_RemRj {S : zSt} {au : Int32} {j : Nat} (h : gS S) : gS (zRemRj S au j).2 := by
  unfold zRemRj
  split
  · exact gS_DrR h
  · split
    · exact h
    · split
      · exact gS_DrR h
      · split
        · exact h
        · rename_i q; exact gS_New h q
theorem gS_RemCj {S : zSt} {au : Int32} {j : Nat} (h : gS S) : gS (zRemCj S au j).2 := by
  unfold zRemCj
  split
  · exact gS_DrC h
  · split
    · exact h
    · split
      · exact gS_DrC h
      · split
        · exact h
        · rename_i q; exact gS_New h q
theorem gS_Rem {S : zSt} {au ax pl : Int32} (h : gS S) : gS (zRem S au ax pl).2 := by
  unfold zRem
  split
  · exact h
  · split
    · split
      · exact h
      · exact gS_RemRj h
    · split
      · split
        · exact h
        · exact gS_RemCj h
      · exact h
theorem gS_SetN {S : zSt} {au : Int32} {i j : Nat} {v : Int32} (h : gS S) : gS (zSetN S au i j v).2 := by
  unfold zSetN
  split
  · exact h
  · rename_i q; exact gS_New h q
theorem gS_Setij {S : zSt} {au : Int32} {i j : Nat} {v : Int32} (h : gS S) : gS (zSetij S au i j v).2 := by
  unfold zSetij
  split
  · exact h
  · split
    · exact h
    · split
      · exact h
      · split
        · exact gS_SetN h
        · split
          · split <;> exact h
          · exact gS_SetN h
theorem gS_Set {S : zSt} {au r c v : Int32} (h : gS S) : gS (zSet S au r c v).2 := by
  unfold zSet
  split
  · exact h
  · split
    · exact h
    · split
      · exact h
      · exact gS_Setij h
theorem gS_AA {S : zSt} {x : Nat} (h : gS S) : gS (zAA S x) := by
  have h1 : gS (zA1 S x) := h
  unfold zAA
  split
  · exact gS_DrR h1
  · split
    · exact gS_DrC h1
    · split
      · exact h1
      · exact h1
theorem gS_AL {S : zSt} {x : Nat} (h : gS S) : ∀ k, gS (zAL S x k).1
  | 0 => h
  | k + 1 => by
    simp only [zAL]
    split
    · exact gS_AA (gS_AL h k)
    · exact gS_AL h k
theorem gS_AW {S : zSt} {x : Nat} (h : gS S) : gS (zAW S x) := gS_AA (gS_AL h _)
theorem gS_RW {S : zSt} {x : Nat} (h : gS S) : gS (zRW S x) := by
  have h1 : gS (zR1 S x) := h
  unfold zRW
  split
  · exact gS_DrR h1
  · split
    · exact gS_DrC h1
    · exact h1
theorem gS_SL {S : zSt} {au : Int32} {b : Bool} (h : gS S) : ∀ k, gS (zSL S au b k).1
  | 0 => h
  | k + 1 => by
    simp only [zSL]
    split
    · split
      · exact gS_AW (gS_SL h k)
      · exact gS_RW (gS_SL h k)
    · exact gS_SL h k
/-- an order carried out -/
def zOb (S : zSt) (au : Int32) (s : zPs) : Int32 × zSt := if oS s = nI 43 then zIns S au (oA s) (oL s) else if oS s = nI 45 then zRem S au (oA s) (oL s) else zSet S au (oL s) (oC s) (oV s)
theorem gS_Ob {S : zSt} {au : Int32} {s : zPs} (h : gS S) : gS (zOb S au s).2 := by
  unfold zOb
  split
  · exact gS_Ins h
  · split
    · exact gS_Rem h
    · exact gS_Set h
/-- the orders carried out one by one, d ahead at most, k behind -/
noncomputable def zCO (tx : Nat → Nat) (ln : Nat) (au : Int32) : Nat → Nat → zSt → zPs → Nat × zSt × zPs
  | 0, k, S, s => (k, S, s)
  | d + 1, k, S, s => if (zNx tx ln s).1 = true then (if (zOb S au (zNx tx ln s).2).1 < 0 then (k, (zOb S au (zNx tx ln s).2).2, (zNx tx ln s).2) else zCO tx ln au d (k + 1) (zOb S au (zNx tx ln s).2).2 (zNx tx ln s).2) else (k, S, (zNx tx ln s).2)
theorem zCO_ok {tx : Nat → Nat} {ln : Nat} {au : Int32} : ∀ {d k : Nat} {S : zSt} {s : zPs}, gS S → oP s ≤ ln → gS (zCO tx ln au d k S s).2.1 ∧ oP (zCO tx ln au d k S s).2.2 ≤ ln ∧ (zCO tx ln au d k S s).1 ≤ k + d
  | 0, k, S, s, h, hp => ⟨h, hp, Nat.le_refl _⟩
  | d + 1, k, S, s, h, hp => by
    have hp2 := zNx_le (tx := tx) hp
    simp only [zCO]
    split
    · split
      · exact ⟨gS_Ob h, hp2, by simp only; omega⟩
      · obtain ⟨a, b, c⟩ := zCO_ok (tx := tx) (au := au) (d := d) (k := k + 1) (gS_Ob (au := au) (s := (zNx tx ln s).2) h) hp2
        exact ⟨a, b, by omega⟩
    · exact ⟨h, hp2, by simp only; omega⟩
/-- the history behind an act -/
def zHo (x : Int32) (o kp : Nat) : Nat := if x < 0 then o else if kp < 4 then o else (o + 1) % 5
def zHk (x : Int32) (kp : Nat) : Nat := if x < 0 then kp else if kp < 4 then kp + 1 else kp
def zTk (S : zSt) (b : Bool) : zSt := (rO S, rU S, cO S, cU S, bS S, fA S, mK S, b)
theorem nI_m1 {a : Nat} (h : a < 2147483648) : ¬ nI a = -1 := by
  intro e
  have h1 : (nI a).toInt = (a : Int) := nI_toInt h
  rw [e, show ((-1 : Int32)).toInt = -1 by decide] at h1
  omega
theorem zFl_le {tx : Nat → Nat} {ln : Nat} : ∀ {d : Nat} {s : zPs}, oP s ≤ ln → oP (zFl tx ln d s).2 ≤ ln
  | 0, s, h => h
  | d + 1, s, h => by
    have h2 := zNx_le (tx := tx) h
    simp only [zFl]
    split
    · split
      · exact h2
      · exact zFl_le h2
    · exact h2
theorem kX5_recorded : zY yX5_recorded wsX5_recorded cX5_recorded 2 (some .int) 1 := ⟨⟨_, rfl⟩, ⟨by decide +kernel, by decide +kernel, by decide +kernel⟩, by decide +kernel⟩
set_option maxHeartbeats 4000000 in
set_option maxRecDepth 100000 in
theorem mX5_recorded_n (E : zE) (x0 t0 w0 h0 h1 : Nat) (r : Nat → Nat → Nat) (o kp : Nat) (x : Int32) (ho : o < 5) (hk : kp ≤ 4) (hx : x < 0) : zM E yX5_recorded wsX5_recorded 2 [.ref x0, .int x] [(x0, .inr (5, [.ref t0, .ref h0, .ref w0])), (h0, .inr (1, [.ref h1, .int (nI o), .int (nI kp)])), (h1, .inl (E.2.2.2.2, 5, .inr (.inr (.inr (.inr (fun i9 => some (r i9 0)))))))] [(x0, .inr (5, [.ref t0, .ref h0, .ref w0])), (h0, .inr (1, [.ref h1, .int (nI o), .int (nI kp)])), (h1, .inl (E.2.2.2.2, 5, .inr (.inr (.inr (.inr (fun i9 => some (r i9 0)))))))] (some (.int x)) := by
  refine zM.of kX5_recorded (Nat.le_of_ble_eq_true rfl) rfl [some (.ref x0), some (.int x)] rfl (Nat.le_of_ble_eq_true rfl) ?_
  intro X eX C N
  subst eX
  refine z_iload_n C 1 dX5_recorded_0 rfl rfl ?_
  refine z_if_lt_t C 11 dX5_recorded_1 (by decide) hx ?_
  refine z_iload_n C 1 dX5_recorded_11 rfl rfl ?_
  exact z_iret C N dX5_recorded_12 (rfl) (rfl)

theorem fX5_recorded_19 : zF wsX5_recorded RX5 19 5 1 RX5 TX5 3 := ⟨by decide +kernel, rfl, by decide, by decide +kernel, rfl⟩
set_option maxHeartbeats 4000000 in
set_option maxRecDepth 100000 in
theorem mX5_recorded_y (E : zE) (x0 t0 w0 h0 h1 : Nat) (r : Nat → Nat → Nat) (o kp : Nat) (x : Int32) (ho : o < 5) (hx : ¬ x < 0) (hk4 : kp < 4) : zM E yX5_recorded wsX5_recorded 2 [.ref x0, .int x] [(x0, .inr (5, [.ref t0, .ref h0, .ref w0])), (h0, .inr (1, [.ref h1, .int (nI o), .int (nI kp)])), (h1, .inl (E.2.2.2.2, 5, .inr (.inr (.inr (.inr (fun i9 => some (r i9 0)))))))] [(x0, .inr (5, [.ref t0, .ref h0, .ref w0])), (h0, .inr (1, [.ref h1, .int (nI o), .int (nI (kp + 1))])), (h1, .inl (E.2.2.2.2, 5, .inr (.inr (.inr (.inr (fun i9 => some (r i9 0)))))))] (some (.int x)) := by
  refine zM.of kX5_recorded (Nat.le_of_ble_eq_true rfl) rfl [some (.ref x0), some (.int x)] rfl (Nat.le_of_ble_eq_true rfl) ?_
  intro X eX C N
  subst eX
  refine z_iload_n C 1 dX5_recorded_0 rfl rfl ?_
  refine z_if_lt_f C 11 dX5_recorded_1 (by decide) hx ?_
  refine z_aload_n C 0 dX5_recorded_4 rfl rfl ?_
  refine z_get C fX5_recorded_19 0 dX5_recorded_5 rfl rfl ?_
  refine z_callVv (wn := [(x0, .inr (5, [.ref t0, .ref h0, .ref w0])), (h0, .inr (1, [.ref h1, .int (nI o), .int (nI (kp + 1))])), (h1, .inl (X.2.1.2.2.2.2, 5, .inr (.inr (.inr (.inr (fun i9 => some (r i9 0)))))))]) C kX1_keep gX5_recorded_X1_keep (mX1_keep_y X.2.1 h0 h1 r o kp ho hk4) dX5_recorded_8 [1, 2] [] 1 rfl rfl nd_1_2 rfl rfl rfl (by decide) (by decide) (Nat.le_of_ble_eq_true rfl) rfl rfl ?_
  refine z_iload_n C 1 dX5_recorded_11 rfl rfl ?_
  exact z_iret C N dX5_recorded_12 (rfl) (rfl)

set_option maxHeartbeats 4000000 in
set_option maxRecDepth 100000 in
theorem mX5_recorded_z (E : zE) (x0 t0 w0 h0 h1 : Nat) (r : Nat → Nat → Nat) (o kp : Nat) (x : Int32) (ho : o < 5) (hx : ¬ x < 0) (hk4 : kp = 4) : zM E yX5_recorded wsX5_recorded 2 [.ref x0, .int x] [(x0, .inr (5, [.ref t0, .ref h0, .ref w0])), (h0, .inr (1, [.ref h1, .int (nI o), .int (nI kp)])), (h1, .inl (E.2.2.2.2, 5, .inr (.inr (.inr (.inr (fun i9 => some (r i9 0)))))))] [(x0, .inr (5, [.ref t0, .ref h0, .ref w0])), (h0, .inr (1, [.ref h1, .int (nI ((o + 1) % 5)), .int (nI kp)])), (h1, .inl (E.2.2.2.2, 5, .inr (.inr (.inr (.inr (fun i9 => some (r i9 0)))))))] (some (.int x)) := by
  refine zM.of kX5_recorded (Nat.le_of_ble_eq_true rfl) rfl [some (.ref x0), some (.int x)] rfl (Nat.le_of_ble_eq_true rfl) ?_
  intro X eX C N
  subst eX
  refine z_iload_n C 1 dX5_recorded_0 rfl rfl ?_
  refine z_if_lt_f C 11 dX5_recorded_1 (by decide) hx ?_
  refine z_aload_n C 0 dX5_recorded_4 rfl rfl ?_
  refine z_get C fX5_recorded_19 0 dX5_recorded_5 rfl rfl ?_
  refine z_callVv (wn := [(x0, .inr (5, [.ref t0, .ref h0, .ref w0])), (h0, .inr (1, [.ref h1, .int (nI ((o + 1) % 5)), .int (nI kp)])), (h1, .inl (X.2.1.2.2.2.2, 5, .inr (.inr (.inr (.inr (fun i9 => some (r i9 0)))))))]) C kX1_keep gX5_recorded_X1_keep (mX1_keep_n X.2.1 h0 h1 r o kp ho hk4) dX5_recorded_8 [1, 2] [] 1 rfl rfl nd_1_2 rfl rfl rfl (by decide) (by decide) (Nat.le_of_ble_eq_true rfl) rfl rfl ?_
  refine z_iload_n C 1 dX5_recorded_11 rfl rfl ?_
  exact z_iret C N dX5_recorded_12 (rfl) (rfl)

set_option maxHeartbeats 4000000 in
set_option maxRecDepth 100000 in
theorem mX5_recorded (E : zE) (x0 t0 w0 h0 h1 : Nat) (r : Nat → Nat → Nat) (o kp : Nat) (x : Int32) (ho : o < 5) (hk : kp ≤ 4) : zM E yX5_recorded wsX5_recorded 2 [.ref x0, .int x] [(x0, .inr (5, [.ref t0, .ref h0, .ref w0])), (h0, .inr (1, [.ref h1, .int (nI o), .int (nI kp)])), (h1, .inl (E.2.2.2.2, 5, .inr (.inr (.inr (.inr (fun i9 => some (r i9 0)))))))] [(x0, .inr (5, [.ref t0, .ref h0, .ref w0])), (h0, .inr (1, [.ref h1, .int (nI (zHo x o kp)), .int (nI (zHk x kp))])), (h1, .inl (E.2.2.2.2, 5, .inr (.inr (.inr (.inr (fun i9 => some (r i9 0)))))))] (some (.int x)) := by
  by_cases hx : x < 0
  · rw [show zHo x o kp = o from if_pos hx, show zHk x kp = kp from if_pos hx]
    exact mX5_recorded_n E x0 t0 w0 h0 h1 r o kp x ho hk hx
  · by_cases h4 : kp < 4
    · rw [show zHo x o kp = o by rw [zHo, if_neg hx, if_pos h4], show zHk x kp = kp + 1 by rw [zHk, if_neg hx, if_pos h4]]
      exact mX5_recorded_y E x0 t0 w0 h0 h1 r o kp x ho hx h4
    · rw [show zHo x o kp = (o + 1) % 5 by rw [zHo, if_neg hx, if_neg h4], show zHk x kp = kp by rw [zHk, if_neg hx, if_neg h4]]
      exact mX5_recorded_z E x0 t0 w0 h0 h1 r o kp x ho hx (by omega)

theorem kX5_track : zY yX5_track wsX5_track cX5_track 2 (some .int) 1 := ⟨⟨_, rfl⟩, ⟨by decide +kernel, by decide +kernel, by decide +kernel⟩, by decide +kernel⟩
theorem fX5_track_10 : zF wsX5_track RX5 10 5 0 RX5 TX5 3 := ⟨by decide +kernel, rfl, by decide, by decide +kernel, rfl⟩
theorem fX5_track_30 : zF wsX5_track RX5 30 4 4 RX4 TX4 5 := ⟨by decide +kernel, rfl, by decide, by decide +kernel, rfl⟩
set_option maxHeartbeats 4000000 in
set_option maxRecDepth 100000 in
theorem mX5_track_s (E : zE) (x0 h0 h1 w0 : Nat) (t : Nat → Nat) (r : Nat → Nat → Nat) (S : zSt) (o kp : Nat) (Q : Nat → zSt) (bb : Bool) (hS : okS S) (hW : wS S) (ho : o < 5) (hk : kp ≤ 4) (hs : zb (tK S) = zb bb) : zM E yX5_track wsX5_track 6 [.ref x0, .int (zb bb)] [(x0, .inr (5, [.ref (t 0), .ref h0, .ref w0])), ((t 0), .inr (4, [.ref (t 1), .ref (t 3), .ref (t 5), .ref (t 6), .int (zb (tK S))])), ((t 1), .inr (2, [.ref (t 2), .int (nI (rU S))])), ((t 2), .inl (E.2.2.1, 12, .inl (rO S))), ((t 3), .inr (2, [.ref (t 4), .int (nI (cU S))])), ((t 4), .inl (E.2.2.1, 8, .inl (cO S))), ((t 5), .inl (E.2.2.1, 96, .inl (bS S))), ((t 6), .inr (0, [.ref (t 7), .int (nI (mK S))])), ((t 7), .inl (E.2.2.1, 360, .inl (fA S))), (h0, .inr (1, [.ref h1, .int (nI o), .int (nI kp)])), (h1, .inl (E.2.2.2.2, 5, .inr (.inr (.inr (.inr (fun i9 => some (r i9 0))))))), (((r 0) 0), .inr (4, [.ref ((r 0) 1), .ref ((r 0) 3), .ref ((r 0) 5), .ref ((r 0) 6), .int (zb (tK (Q 0)))])), (((r 0) 1), .inr (2, [.ref ((r 0) 2), .int (nI (rU (Q 0)))])), (((r 0) 2), .inl (E.2.2.1, 12, .inl (rO (Q 0)))), (((r 0) 3), .inr (2, [.ref ((r 0) 4), .int (nI (cU (Q 0)))])), (((r 0) 4), .inl (E.2.2.1, 8, .inl (cO (Q 0)))), (((r 0) 5), .inl (E.2.2.1, 96, .inl (bS (Q 0)))), (((r 0) 6), .inr (0, [.ref ((r 0) 7), .int (nI (mK (Q 0)))])), (((r 0) 7), .inl (E.2.2.1, 360, .inl (fA (Q 0)))), (((r 1) 0), .inr (4, [.ref ((r 1) 1), .ref ((r 1) 3), .ref ((r 1) 5), .ref ((r 1) 6), .int (zb (tK (Q 1)))])), (((r 1) 1), .inr (2, [.ref ((r 1) 2), .int (nI (rU (Q 1)))])), (((r 1) 2), .inl (E.2.2.1, 12, .inl (rO (Q 1)))), (((r 1) 3), .inr (2, [.ref ((r 1) 4), .int (nI (cU (Q 1)))])), (((r 1) 4), .inl (E.2.2.1, 8, .inl (cO (Q 1)))), (((r 1) 5), .inl (E.2.2.1, 96, .inl (bS (Q 1)))), (((r 1) 6), .inr (0, [.ref ((r 1) 7), .int (nI (mK (Q 1)))])), (((r 1) 7), .inl (E.2.2.1, 360, .inl (fA (Q 1)))), (((r 2) 0), .inr (4, [.ref ((r 2) 1), .ref ((r 2) 3), .ref ((r 2) 5), .ref ((r 2) 6), .int (zb (tK (Q 2)))])), (((r 2) 1), .inr (2, [.ref ((r 2) 2), .int (nI (rU (Q 2)))])), (((r 2) 2), .inl (E.2.2.1, 12, .inl (rO (Q 2)))), (((r 2) 3), .inr (2, [.ref ((r 2) 4), .int (nI (cU (Q 2)))])), (((r 2) 4), .inl (E.2.2.1, 8, .inl (cO (Q 2)))), (((r 2) 5), .inl (E.2.2.1, 96, .inl (bS (Q 2)))), (((r 2) 6), .inr (0, [.ref ((r 2) 7), .int (nI (mK (Q 2)))])), (((r 2) 7), .inl (E.2.2.1, 360, .inl (fA (Q 2)))), (((r 3) 0), .inr (4, [.ref ((r 3) 1), .ref ((r 3) 3), .ref ((r 3) 5), .ref ((r 3) 6), .int (zb (tK (Q 3)))])), (((r 3) 1), .inr (2, [.ref ((r 3) 2), .int (nI (rU (Q 3)))])), (((r 3) 2), .inl (E.2.2.1, 12, .inl (rO (Q 3)))), (((r 3) 3), .inr (2, [.ref ((r 3) 4), .int (nI (cU (Q 3)))])), (((r 3) 4), .inl (E.2.2.1, 8, .inl (cO (Q 3)))), (((r 3) 5), .inl (E.2.2.1, 96, .inl (bS (Q 3)))), (((r 3) 6), .inr (0, [.ref ((r 3) 7), .int (nI (mK (Q 3)))])), (((r 3) 7), .inl (E.2.2.1, 360, .inl (fA (Q 3)))), (((r 4) 0), .inr (4, [.ref ((r 4) 1), .ref ((r 4) 3), .ref ((r 4) 5), .ref ((r 4) 6), .int (zb (tK (Q 4)))])), (((r 4) 1), .inr (2, [.ref ((r 4) 2), .int (nI (rU (Q 4)))])), (((r 4) 2), .inl (E.2.2.1, 12, .inl (rO (Q 4)))), (((r 4) 3), .inr (2, [.ref ((r 4) 4), .int (nI (cU (Q 4)))])), (((r 4) 4), .inl (E.2.2.1, 8, .inl (cO (Q 4)))), (((r 4) 5), .inl (E.2.2.1, 96, .inl (bS (Q 4)))), (((r 4) 6), .inr (0, [.ref ((r 4) 7), .int (nI (mK (Q 4)))])), (((r 4) 7), .inl (E.2.2.1, 360, .inl (fA (Q 4))))] [(x0, .inr (5, [.ref (t 0), .ref h0, .ref w0])), ((t 0), .inr (4, [.ref (t 1), .ref (t 3), .ref (t 5), .ref (t 6), .int (zb (tK S))])), ((t 1), .inr (2, [.ref (t 2), .int (nI (rU S))])), ((t 2), .inl (E.2.2.1, 12, .inl (rO S))), ((t 3), .inr (2, [.ref (t 4), .int (nI (cU S))])), ((t 4), .inl (E.2.2.1, 8, .inl (cO S))), ((t 5), .inl (E.2.2.1, 96, .inl (bS S))), ((t 6), .inr (0, [.ref (t 7), .int (nI (mK S))])), ((t 7), .inl (E.2.2.1, 360, .inl (fA S))), (h0, .inr (1, [.ref h1, .int (nI o), .int (nI kp)])), (h1, .inl (E.2.2.2.2, 5, .inr (.inr (.inr (.inr (fun i9 => some (r i9 0))))))), (((r 0) 0), .inr (4, [.ref ((r 0) 1), .ref ((r 0) 3), .ref ((r 0) 5), .ref ((r 0) 6), .int (zb (tK (Q 0)))])), (((r 0) 1), .inr (2, [.ref ((r 0) 2), .int (nI (rU (Q 0)))])), (((r 0) 2), .inl (E.2.2.1, 12, .inl (rO (Q 0)))), (((r 0) 3), .inr (2, [.ref ((r 0) 4), .int (nI (cU (Q 0)))])), (((r 0) 4), .inl (E.2.2.1, 8, .inl (cO (Q 0)))), (((r 0) 5), .inl (E.2.2.1, 96, .inl (bS (Q 0)))), (((r 0) 6), .inr (0, [.ref ((r 0) 7), .int (nI (mK (Q 0)))])), (((r 0) 7), .inl (E.2.2.1, 360, .inl (fA (Q 0)))), (((r 1) 0), .inr (4, [.ref ((r 1) 1), .ref ((r 1) 3), .ref ((r 1) 5), .ref ((r 1) 6), .int (zb (tK (Q 1)))])), (((r 1) 1), .inr (2, [.ref ((r 1) 2), .int (nI (rU (Q 1)))])), (((r 1) 2), .inl (E.2.2.1, 12, .inl (rO (Q 1)))), (((r 1) 3), .inr (2, [.ref ((r 1) 4), .int (nI (cU (Q 1)))])), (((r 1) 4), .inl (E.2.2.1, 8, .inl (cO (Q 1)))), (((r 1) 5), .inl (E.2.2.1, 96, .inl (bS (Q 1)))), (((r 1) 6), .inr (0, [.ref ((r 1) 7), .int (nI (mK (Q 1)))])), (((r 1) 7), .inl (E.2.2.1, 360, .inl (fA (Q 1)))), (((r 2) 0), .inr (4, [.ref ((r 2) 1), .ref ((r 2) 3), .ref ((r 2) 5), .ref ((r 2) 6), .int (zb (tK (Q 2)))])), (((r 2) 1), .inr (2, [.ref ((r 2) 2), .int (nI (rU (Q 2)))])), (((r 2) 2), .inl (E.2.2.1, 12, .inl (rO (Q 2)))), (((r 2) 3), .inr (2, [.ref ((r 2) 4), .int (nI (cU (Q 2)))])), (((r 2) 4), .inl (E.2.2.1, 8, .inl (cO (Q 2)))), (((r 2) 5), .inl (E.2.2.1, 96, .inl (bS (Q 2)))), (((r 2) 6), .inr (0, [.ref ((r 2) 7), .int (nI (mK (Q 2)))])), (((r 2) 7), .inl (E.2.2.1, 360, .inl (fA (Q 2)))), (((r 3) 0), .inr (4, [.ref ((r 3) 1), .ref ((r 3) 3), .ref ((r 3) 5), .ref ((r 3) 6), .int (zb (tK (Q 3)))])), (((r 3) 1), .inr (2, [.ref ((r 3) 2), .int (nI (rU (Q 3)))])), (((r 3) 2), .inl (E.2.2.1, 12, .inl (rO (Q 3)))), (((r 3) 3), .inr (2, [.ref ((r 3) 4), .int (nI (cU (Q 3)))])), (((r 3) 4), .inl (E.2.2.1, 8, .inl (cO (Q 3)))), (((r 3) 5), .inl (E.2.2.1, 96, .inl (bS (Q 3)))), (((r 3) 6), .inr (0, [.ref ((r 3) 7), .int (nI (mK (Q 3)))])), (((r 3) 7), .inl (E.2.2.1, 360, .inl (fA (Q 3)))), (((r 4) 0), .inr (4, [.ref ((r 4) 1), .ref ((r 4) 3), .ref ((r 4) 5), .ref ((r 4) 6), .int (zb (tK (Q 4)))])), (((r 4) 1), .inr (2, [.ref ((r 4) 2), .int (nI (rU (Q 4)))])), (((r 4) 2), .inl (E.2.2.1, 12, .inl (rO (Q 4)))), (((r 4) 3), .inr (2, [.ref ((r 4) 4), .int (nI (cU (Q 4)))])), (((r 4) 4), .inl (E.2.2.1, 8, .inl (cO (Q 4)))), (((r 4) 5), .inl (E.2.2.1, 96, .inl (bS (Q 4)))), (((r 4) 6), .inr (0, [.ref ((r 4) 7), .int (nI (mK (Q 4)))])), (((r 4) 7), .inl (E.2.2.1, 360, .inl (fA (Q 4))))] (some (.int (-4))) := by
  refine zM.of kX5_track (Nat.le_of_ble_eq_true rfl) rfl [some (.ref x0), some (.int (zb bb))] rfl (Nat.le_of_ble_eq_true rfl) ?_
  intro X eX C N
  subst eX
  obtain ⟨hur, huc, hM⟩ := id hS
  refine z_aload_n C 0 dX5_track_0 rfl rfl ?_
  refine z_get C fX5_track_10 0 dX5_track_1 rfl rfl ?_
  refine z_get C fX5_track_30 1 dX5_track_4 rfl rfl ?_
  refine z_iload_n C 1 dX5_track_7 rfl rfl ?_
  refine z_icmp_ne_f C 14 dX5_track_8 (by decide) hs ?_
  refine z_bipush C (-4) dX5_track_11 (by decide) ?_
  exact z_iret C N dX5_track_13 (rfl) (rfl)

theorem fX5_track_19 : zF wsX5_track RX5 19 5 1 RX5 TX5 3 := ⟨by decide +kernel, rfl, by decide, by decide +kernel, rfl⟩
theorem nd_9_10_11_12_13_14_15_16_17_18_19_20_21_22_23_24_25_26_27_28_29_30_31_32_33_34_35_36_37_38_39_40_41_42_43_44_45_46_47_48_49_50_1_2_3_4_5_6_7_8 : va_nd [9, 10, 11, 12, 13, 14, 15, 16, 17, 18, 19, 20, 21, 22, 23, 24, 25, 26, 27, 28, 29, 30, 31, 32, 33, 34, 35, 36, 37, 38, 39, 40, 41, 42, 43, 44, 45, 46, 47, 48, 49, 50, 1, 2, 3, 4, 5, 6, 7, 8] = true := by decide +kernel
theorem fX5_track_38 : zF wsX5_track RX5 38 4 3 RX4 TX4 5 := ⟨by decide +kernel, rfl, by decide, by decide +kernel, rfl⟩
theorem nd_0_9_10 : va_nd [0, 9, 10] = true := by decide +kernel
set_option maxHeartbeats 4000000 in
set_option maxRecDepth 100000 in
theorem mX5_track (E : zE) (x0 h0 h1 w0 : Nat) (t : Nat → Nat) (r : Nat → Nat → Nat) (S : zSt) (o kp : Nat) (Q : Nat → zSt) (bb : Bool) (hS : okS S) (hW : wS S) (ho : o < 5) (hk : kp ≤ 4) (hs : ¬ zb (tK S) = zb bb) : zM E yX5_track wsX5_track 6 [.ref x0, .int (zb bb)] [(x0, .inr (5, [.ref (t 0), .ref h0, .ref w0])), ((t 0), .inr (4, [.ref (t 1), .ref (t 3), .ref (t 5), .ref (t 6), .int (zb (tK S))])), ((t 1), .inr (2, [.ref (t 2), .int (nI (rU S))])), ((t 2), .inl (E.2.2.1, 12, .inl (rO S))), ((t 3), .inr (2, [.ref (t 4), .int (nI (cU S))])), ((t 4), .inl (E.2.2.1, 8, .inl (cO S))), ((t 5), .inl (E.2.2.1, 96, .inl (bS S))), ((t 6), .inr (0, [.ref (t 7), .int (nI (mK S))])), ((t 7), .inl (E.2.2.1, 360, .inl (fA S))), (h0, .inr (1, [.ref h1, .int (nI o), .int (nI kp)])), (h1, .inl (E.2.2.2.2, 5, .inr (.inr (.inr (.inr (fun i9 => some (r i9 0))))))), (((r 0) 0), .inr (4, [.ref ((r 0) 1), .ref ((r 0) 3), .ref ((r 0) 5), .ref ((r 0) 6), .int (zb (tK (Q 0)))])), (((r 0) 1), .inr (2, [.ref ((r 0) 2), .int (nI (rU (Q 0)))])), (((r 0) 2), .inl (E.2.2.1, 12, .inl (rO (Q 0)))), (((r 0) 3), .inr (2, [.ref ((r 0) 4), .int (nI (cU (Q 0)))])), (((r 0) 4), .inl (E.2.2.1, 8, .inl (cO (Q 0)))), (((r 0) 5), .inl (E.2.2.1, 96, .inl (bS (Q 0)))), (((r 0) 6), .inr (0, [.ref ((r 0) 7), .int (nI (mK (Q 0)))])), (((r 0) 7), .inl (E.2.2.1, 360, .inl (fA (Q 0)))), (((r 1) 0), .inr (4, [.ref ((r 1) 1), .ref ((r 1) 3), .ref ((r 1) 5), .ref ((r 1) 6), .int (zb (tK (Q 1)))])), (((r 1) 1), .inr (2, [.ref ((r 1) 2), .int (nI (rU (Q 1)))])), (((r 1) 2), .inl (E.2.2.1, 12, .inl (rO (Q 1)))), (((r 1) 3), .inr (2, [.ref ((r 1) 4), .int (nI (cU (Q 1)))])), (((r 1) 4), .inl (E.2.2.1, 8, .inl (cO (Q 1)))), (((r 1) 5), .inl (E.2.2.1, 96, .inl (bS (Q 1)))), (((r 1) 6), .inr (0, [.ref ((r 1) 7), .int (nI (mK (Q 1)))])), (((r 1) 7), .inl (E.2.2.1, 360, .inl (fA (Q 1)))), (((r 2) 0), .inr (4, [.ref ((r 2) 1), .ref ((r 2) 3), .ref ((r 2) 5), .ref ((r 2) 6), .int (zb (tK (Q 2)))])), (((r 2) 1), .inr (2, [.ref ((r 2) 2), .int (nI (rU (Q 2)))])), (((r 2) 2), .inl (E.2.2.1, 12, .inl (rO (Q 2)))), (((r 2) 3), .inr (2, [.ref ((r 2) 4), .int (nI (cU (Q 2)))])), (((r 2) 4), .inl (E.2.2.1, 8, .inl (cO (Q 2)))), (((r 2) 5), .inl (E.2.2.1, 96, .inl (bS (Q 2)))), (((r 2) 6), .inr (0, [.ref ((r 2) 7), .int (nI (mK (Q 2)))])), (((r 2) 7), .inl (E.2.2.1, 360, .inl (fA (Q 2)))), (((r 3) 0), .inr (4, [.ref ((r 3) 1), .ref ((r 3) 3), .ref ((r 3) 5), .ref ((r 3) 6), .int (zb (tK (Q 3)))])), (((r 3) 1), .inr (2, [.ref ((r 3) 2), .int (nI (rU (Q 3)))])), (((r 3) 2), .inl (E.2.2.1, 12, .inl (rO (Q 3)))), (((r 3) 3), .inr (2, [.ref ((r 3) 4), .int (nI (cU (Q 3)))])), (((r 3) 4), .inl (E.2.2.1, 8, .inl (cO (Q 3)))), (((r 3) 5), .inl (E.2.2.1, 96, .inl (bS (Q 3)))), (((r 3) 6), .inr (0, [.ref ((r 3) 7), .int (nI (mK (Q 3)))])), (((r 3) 7), .inl (E.2.2.1, 360, .inl (fA (Q 3)))), (((r 4) 0), .inr (4, [.ref ((r 4) 1), .ref ((r 4) 3), .ref ((r 4) 5), .ref ((r 4) 6), .int (zb (tK (Q 4)))])), (((r 4) 1), .inr (2, [.ref ((r 4) 2), .int (nI (rU (Q 4)))])), (((r 4) 2), .inl (E.2.2.1, 12, .inl (rO (Q 4)))), (((r 4) 3), .inr (2, [.ref ((r 4) 4), .int (nI (cU (Q 4)))])), (((r 4) 4), .inl (E.2.2.1, 8, .inl (cO (Q 4)))), (((r 4) 5), .inl (E.2.2.1, 96, .inl (bS (Q 4)))), (((r 4) 6), .inr (0, [.ref ((r 4) 7), .int (nI (mK (Q 4)))])), (((r 4) 7), .inl (E.2.2.1, 360, .inl (fA (Q 4))))] [(x0, .inr (5, [.ref (t 0), .ref h0, .ref w0])), ((t 0), .inr (4, [.ref (t 1), .ref (t 3), .ref (t 5), .ref (t 6), .int (zb (tK (zTk S bb)))])), ((t 1), .inr (2, [.ref (t 2), .int (nI (rU (zTk S bb)))])), ((t 2), .inl (E.2.2.1, 12, .inl (rO (zTk S bb)))), ((t 3), .inr (2, [.ref (t 4), .int (nI (cU (zTk S bb)))])), ((t 4), .inl (E.2.2.1, 8, .inl (cO (zTk S bb)))), ((t 5), .inl (E.2.2.1, 96, .inl (bS (zTk S bb)))), ((t 6), .inr (0, [.ref (t 7), .int (nI (mK (zTk S bb)))])), ((t 7), .inl (E.2.2.1, 360, .inl (fA (zTk S bb)))), (h0, .inr (1, [.ref h1, .int (nI (zHo (nI (zc (pIS (fA S) (-1) (nI 0)) (mK S))) o kp)), .int (nI (zHk (nI (zc (pIS (fA S) (-1) (nI 0)) (mK S))) kp))])), (h1, .inl (E.2.2.2.2, 5, .inr (.inr (.inr (.inr (fun i9 => some (r i9 0))))))), (((r 0) 0), .inr (4, [.ref ((r 0) 1), .ref ((r 0) 3), .ref ((r 0) 5), .ref ((r 0) 6), .int (zb (tK ((zRp Q ((o + kp) % 5) S) 0)))])), (((r 0) 1), .inr (2, [.ref ((r 0) 2), .int (nI (rU ((zRp Q ((o + kp) % 5) S) 0)))])), (((r 0) 2), .inl (E.2.2.1, 12, .inl (rO ((zRp Q ((o + kp) % 5) S) 0)))), (((r 0) 3), .inr (2, [.ref ((r 0) 4), .int (nI (cU ((zRp Q ((o + kp) % 5) S) 0)))])), (((r 0) 4), .inl (E.2.2.1, 8, .inl (cO ((zRp Q ((o + kp) % 5) S) 0)))), (((r 0) 5), .inl (E.2.2.1, 96, .inl (bS ((zRp Q ((o + kp) % 5) S) 0)))), (((r 0) 6), .inr (0, [.ref ((r 0) 7), .int (nI (mK ((zRp Q ((o + kp) % 5) S) 0)))])), (((r 0) 7), .inl (E.2.2.1, 360, .inl (fA ((zRp Q ((o + kp) % 5) S) 0)))), (((r 1) 0), .inr (4, [.ref ((r 1) 1), .ref ((r 1) 3), .ref ((r 1) 5), .ref ((r 1) 6), .int (zb (tK ((zRp Q ((o + kp) % 5) S) 1)))])), (((r 1) 1), .inr (2, [.ref ((r 1) 2), .int (nI (rU ((zRp Q ((o + kp) % 5) S) 1)))])), (((r 1) 2), .inl (E.2.2.1, 12, .inl (rO ((zRp Q ((o + kp) % 5) S) 1)))), (((r 1) 3), .inr (2, [.ref ((r 1) 4), .int (nI (cU ((zRp Q ((o + kp) % 5) S) 1)))])), (((r 1) 4), .inl (E.2.2.1, 8, .inl (cO ((zRp Q ((o + kp) % 5) S) 1)))), (((r 1) 5), .inl (E.2.2.1, 96, .inl (bS ((zRp Q ((o + kp) % 5) S) 1)))), (((r 1) 6), .inr (0, [.ref ((r 1) 7), .int (nI (mK ((zRp Q ((o + kp) % 5) S) 1)))])), (((r 1) 7), .inl (E.2.2.1, 360, .inl (fA ((zRp Q ((o + kp) % 5) S) 1)))), (((r 2) 0), .inr (4, [.ref ((r 2) 1), .ref ((r 2) 3), .ref ((r 2) 5), .ref ((r 2) 6), .int (zb (tK ((zRp Q ((o + kp) % 5) S) 2)))])), (((r 2) 1), .inr (2, [.ref ((r 2) 2), .int (nI (rU ((zRp Q ((o + kp) % 5) S) 2)))])), (((r 2) 2), .inl (E.2.2.1, 12, .inl (rO ((zRp Q ((o + kp) % 5) S) 2)))), (((r 2) 3), .inr (2, [.ref ((r 2) 4), .int (nI (cU ((zRp Q ((o + kp) % 5) S) 2)))])), (((r 2) 4), .inl (E.2.2.1, 8, .inl (cO ((zRp Q ((o + kp) % 5) S) 2)))), (((r 2) 5), .inl (E.2.2.1, 96, .inl (bS ((zRp Q ((o + kp) % 5) S) 2)))), (((r 2) 6), .inr (0, [.ref ((r 2) 7), .int (nI (mK ((zRp Q ((o + kp) % 5) S) 2)))])), (((r 2) 7), .inl (E.2.2.1, 360, .inl (fA ((zRp Q ((o + kp) % 5) S) 2)))), (((r 3) 0), .inr (4, [.ref ((r 3) 1), .ref ((r 3) 3), .ref ((r 3) 5), .ref ((r 3) 6), .int (zb (tK ((zRp Q ((o + kp) % 5) S) 3)))])), (((r 3) 1), .inr (2, [.ref ((r 3) 2), .int (nI (rU ((zRp Q ((o + kp) % 5) S) 3)))])), (((r 3) 2), .inl (E.2.2.1, 12, .inl (rO ((zRp Q ((o + kp) % 5) S) 3)))), (((r 3) 3), .inr (2, [.ref ((r 3) 4), .int (nI (cU ((zRp Q ((o + kp) % 5) S) 3)))])), (((r 3) 4), .inl (E.2.2.1, 8, .inl (cO ((zRp Q ((o + kp) % 5) S) 3)))), (((r 3) 5), .inl (E.2.2.1, 96, .inl (bS ((zRp Q ((o + kp) % 5) S) 3)))), (((r 3) 6), .inr (0, [.ref ((r 3) 7), .int (nI (mK ((zRp Q ((o + kp) % 5) S) 3)))])), (((r 3) 7), .inl (E.2.2.1, 360, .inl (fA ((zRp Q ((o + kp) % 5) S) 3)))), (((r 4) 0), .inr (4, [.ref ((r 4) 1), .ref ((r 4) 3), .ref ((r 4) 5), .ref ((r 4) 6), .int (zb (tK ((zRp Q ((o + kp) % 5) S) 4)))])), (((r 4) 1), .inr (2, [.ref ((r 4) 2), .int (nI (rU ((zRp Q ((o + kp) % 5) S) 4)))])), (((r 4) 2), .inl (E.2.2.1, 12, .inl (rO ((zRp Q ((o + kp) % 5) S) 4)))), (((r 4) 3), .inr (2, [.ref ((r 4) 4), .int (nI (cU ((zRp Q ((o + kp) % 5) S) 4)))])), (((r 4) 4), .inl (E.2.2.1, 8, .inl (cO ((zRp Q ((o + kp) % 5) S) 4)))), (((r 4) 5), .inl (E.2.2.1, 96, .inl (bS ((zRp Q ((o + kp) % 5) S) 4)))), (((r 4) 6), .inr (0, [.ref ((r 4) 7), .int (nI (mK ((zRp Q ((o + kp) % 5) S) 4)))])), (((r 4) 7), .inl (E.2.2.1, 360, .inl (fA ((zRp Q ((o + kp) % 5) S) 4))))] (some (.int (nI (zc (pIS (fA S) (-1) (nI 0)) (mK S))))) := by
  refine zM.of kX5_track (Nat.le_of_ble_eq_true rfl) rfl [some (.ref x0), some (.int (zb bb))] rfl (Nat.le_of_ble_eq_true rfl) ?_
  intro X eX C N
  subst eX
  obtain ⟨hur, huc, hM⟩ := id hS
  refine z_aload_n C 0 dX5_track_0 rfl rfl ?_
  refine z_get C fX5_track_10 0 dX5_track_1 rfl rfl ?_
  refine z_get C fX5_track_30 1 dX5_track_4 rfl rfl ?_
  refine z_iload_n C 1 dX5_track_7 rfl rfl ?_
  refine z_icmp_ne_t C 14 dX5_track_8 (by decide) hs ?_
  refine z_aload_n C 0 dX5_track_14 rfl rfl ?_
  refine z_get C fX5_track_19 0 dX5_track_15 rfl rfl ?_
  refine z_aload_n C 0 dX5_track_18 rfl rfl ?_
  refine z_get C fX5_track_10 0 dX5_track_19 rfl rfl ?_
  refine z_callVv (wn := [(x0, .inr (5, [.ref (t 0), .ref h0, .ref w0])), ((t 0), .inr (4, [.ref (t 1), .ref (t 3), .ref (t 5), .ref (t 6), .int (zb (tK S))])), ((t 1), .inr (2, [.ref (t 2), .int (nI (rU S))])), ((t 2), .inl (X.2.1.2.2.1, 12, .inl (rO S))), ((t 3), .inr (2, [.ref (t 4), .int (nI (cU S))])), ((t 4), .inl (X.2.1.2.2.1, 8, .inl (cO S))), ((t 5), .inl (X.2.1.2.2.1, 96, .inl (bS S))), ((t 6), .inr (0, [.ref (t 7), .int (nI (mK S))])), ((t 7), .inl (X.2.1.2.2.1, 360, .inl (fA S))), (h0, .inr (1, [.ref h1, .int (nI o), .int (nI kp)])), (h1, .inl (X.2.1.2.2.2.2, 5, .inr (.inr (.inr (.inr (fun i9 => some (r i9 0))))))), (((r 0) 0), .inr (4, [.ref ((r 0) 1), .ref ((r 0) 3), .ref ((r 0) 5), .ref ((r 0) 6), .int (zb (tK (zRp Q ((o + kp) % 5) S 0)))])), (((r 0) 1), .inr (2, [.ref ((r 0) 2), .int (nI (rU (zRp Q ((o + kp) % 5) S 0)))])), (((r 0) 2), .inl (X.2.1.2.2.1, 12, .inl (rO (zRp Q ((o + kp) % 5) S 0)))), (((r 0) 3), .inr (2, [.ref ((r 0) 4), .int (nI (cU (zRp Q ((o + kp) % 5) S 0)))])), (((r 0) 4), .inl (X.2.1.2.2.1, 8, .inl (cO (zRp Q ((o + kp) % 5) S 0)))), (((r 0) 5), .inl (X.2.1.2.2.1, 96, .inl (bS (zRp Q ((o + kp) % 5) S 0)))), (((r 0) 6), .inr (0, [.ref ((r 0) 7), .int (nI (mK (zRp Q ((o + kp) % 5) S 0)))])), (((r 0) 7), .inl (X.2.1.2.2.1, 360, .inl (fA (zRp Q ((o + kp) % 5) S 0)))), (((r 1) 0), .inr (4, [.ref ((r 1) 1), .ref ((r 1) 3), .ref ((r 1) 5), .ref ((r 1) 6), .int (zb (tK (zRp Q ((o + kp) % 5) S 1)))])), (((r 1) 1), .inr (2, [.ref ((r 1) 2), .int (nI (rU (zRp Q ((o + kp) % 5) S 1)))])), (((r 1) 2), .inl (X.2.1.2.2.1, 12, .inl (rO (zRp Q ((o + kp) % 5) S 1)))), (((r 1) 3), .inr (2, [.ref ((r 1) 4), .int (nI (cU (zRp Q ((o + kp) % 5) S 1)))])), (((r 1) 4), .inl (X.2.1.2.2.1, 8, .inl (cO (zRp Q ((o + kp) % 5) S 1)))), (((r 1) 5), .inl (X.2.1.2.2.1, 96, .inl (bS (zRp Q ((o + kp) % 5) S 1)))), (((r 1) 6), .inr (0, [.ref ((r 1) 7), .int (nI (mK (zRp Q ((o + kp) % 5) S 1)))])), (((r 1) 7), .inl (X.2.1.2.2.1, 360, .inl (fA (zRp Q ((o + kp) % 5) S 1)))), (((r 2) 0), .inr (4, [.ref ((r 2) 1), .ref ((r 2) 3), .ref ((r 2) 5), .ref ((r 2) 6), .int (zb (tK (zRp Q ((o + kp) % 5) S 2)))])), (((r 2) 1), .inr (2, [.ref ((r 2) 2), .int (nI (rU (zRp Q ((o + kp) % 5) S 2)))])), (((r 2) 2), .inl (X.2.1.2.2.1, 12, .inl (rO (zRp Q ((o + kp) % 5) S 2)))), (((r 2) 3), .inr (2, [.ref ((r 2) 4), .int (nI (cU (zRp Q ((o + kp) % 5) S 2)))])), (((r 2) 4), .inl (X.2.1.2.2.1, 8, .inl (cO (zRp Q ((o + kp) % 5) S 2)))), (((r 2) 5), .inl (X.2.1.2.2.1, 96, .inl (bS (zRp Q ((o + kp) % 5) S 2)))), (((r 2) 6), .inr (0, [.ref ((r 2) 7), .int (nI (mK (zRp Q ((o + kp) % 5) S 2)))])), (((r 2) 7), .inl (X.2.1.2.2.1, 360, .inl (fA (zRp Q ((o + kp) % 5) S 2)))), (((r 3) 0), .inr (4, [.ref ((r 3) 1), .ref ((r 3) 3), .ref ((r 3) 5), .ref ((r 3) 6), .int (zb (tK (zRp Q ((o + kp) % 5) S 3)))])), (((r 3) 1), .inr (2, [.ref ((r 3) 2), .int (nI (rU (zRp Q ((o + kp) % 5) S 3)))])), (((r 3) 2), .inl (X.2.1.2.2.1, 12, .inl (rO (zRp Q ((o + kp) % 5) S 3)))), (((r 3) 3), .inr (2, [.ref ((r 3) 4), .int (nI (cU (zRp Q ((o + kp) % 5) S 3)))])), (((r 3) 4), .inl (X.2.1.2.2.1, 8, .inl (cO (zRp Q ((o + kp) % 5) S 3)))), (((r 3) 5), .inl (X.2.1.2.2.1, 96, .inl (bS (zRp Q ((o + kp) % 5) S 3)))), (((r 3) 6), .inr (0, [.ref ((r 3) 7), .int (nI (mK (zRp Q ((o + kp) % 5) S 3)))])), (((r 3) 7), .inl (X.2.1.2.2.1, 360, .inl (fA (zRp Q ((o + kp) % 5) S 3)))), (((r 4) 0), .inr (4, [.ref ((r 4) 1), .ref ((r 4) 3), .ref ((r 4) 5), .ref ((r 4) 6), .int (zb (tK (zRp Q ((o + kp) % 5) S 4)))])), (((r 4) 1), .inr (2, [.ref ((r 4) 2), .int (nI (rU (zRp Q ((o + kp) % 5) S 4)))])), (((r 4) 2), .inl (X.2.1.2.2.1, 12, .inl (rO (zRp Q ((o + kp) % 5) S 4)))), (((r 4) 3), .inr (2, [.ref ((r 4) 4), .int (nI (cU (zRp Q ((o + kp) % 5) S 4)))])), (((r 4) 4), .inl (X.2.1.2.2.1, 8, .inl (cO (zRp Q ((o + kp) % 5) S 4)))), (((r 4) 5), .inl (X.2.1.2.2.1, 96, .inl (bS (zRp Q ((o + kp) % 5) S 4)))), (((r 4) 6), .inr (0, [.ref ((r 4) 7), .int (nI (mK (zRp Q ((o + kp) % 5) S 4)))])), (((r 4) 7), .inl (X.2.1.2.2.1, 360, .inl (fA (zRp Q ((o + kp) % 5) S 4))))]) C kX1_draft gX5_track_X1_draft (mX1_draft X.2.1 h0 h1 r o kp Q t S ho hk) dX5_track_22 [9, 10, 11, 12, 13, 14, 15, 16, 17, 18, 19, 20, 21, 22, 23, 24, 25, 26, 27, 28, 29, 30, 31, 32, 33, 34, 35, 36, 37, 38, 39, 40, 41, 42, 43, 44, 45, 46, 47, 48, 49, 50, 1, 2, 3, 4, 5, 6, 7, 8] [] 9 rfl rfl nd_9_10_11_12_13_14_15_16_17_18_19_20_21_22_23_24_25_26_27_28_29_30_31_32_33_34_35_36_37_38_39_40_41_42_43_44_45_46_47_48_49_50_1_2_3_4_5_6_7_8 rfl rfl rfl (by decide) (by decide) (Nat.le_of_ble_eq_true rfl) rfl ((zput_par nd_9_10_11_12_13_14_15_16_17_18_19_20_21_22_23_24_25_26_27_28_29_30_31_32_33_34_35_36_37_38_39_40_41_42_43_44_45_46_47_48_49_50_1_2_3_4_5_6_7_8 rfl).trans rfl) ?_
  refine z_aload_n C 0 dX5_track_25 rfl rfl ?_
  refine z_get C fX5_track_10 0 dX5_track_26 rfl rfl ?_
  refine z_iload_n C 1 dX5_track_29 rfl rfl ?_
  refine z_put C fX5_track_30 ftX4_4 1 dX5_track_30 rfl (zb_nar _) (zb_fit _) (Nat.le_of_ble_eq_true rfl) ?_
  refine z_aload_n C 0 dX5_track_33 rfl rfl ?_
  refine z_aload_n C 0 dX5_track_34 rfl rfl ?_
  refine z_get C fX5_track_10 0 dX5_track_35 rfl rfl ?_
  refine z_get C fX5_track_38 1 dX5_track_38 rfl rfl ?_
  refine z_iconst C (-1) dX5_track_41 (by decide) ?_
  refine z_iconst C (nI 0) dX5_track_42 (by decide) ?_
  refine z_callVr C kX0_inState gX5_track_X0_inState (mX0_inState X.2.1 (t 6) (t 7) (fA S) (mK S) (-1) (nI 0) hM) dX5_track_43 [7, 8] [.ref x0] 7 rfl nd_7_8 rfl rfl rfl (by decide) (by decide) (Nat.le_of_ble_eq_true rfl) rfl ?_
  refine z_callV (wn := [(x0, .inr (5, [.ref (t 0), .ref h0, .ref w0])), ((t 0), .inr (4, [.ref (t 1), .ref (t 3), .ref (t 5), .ref (t 6), .int (zb bb)])), ((t 1), .inr (2, [.ref (t 2), .int (nI (rU S))])), ((t 2), .inl (X.2.1.2.2.1, 12, .inl (rO S))), ((t 3), .inr (2, [.ref (t 4), .int (nI (cU S))])), ((t 4), .inl (X.2.1.2.2.1, 8, .inl (cO S))), ((t 5), .inl (X.2.1.2.2.1, 96, .inl (bS S))), ((t 6), .inr (0, [.ref (t 7), .int (nI (mK S))])), ((t 7), .inl (X.2.1.2.2.1, 360, .inl (fA S))), (h0, .inr (1, [.ref h1, .int (nI (zHo (nI (zc (pIS (fA S) (-1) (nI 0)) (mK S))) o kp)), .int (nI (zHk (nI (zc (pIS (fA S) (-1) (nI 0)) (mK S))) kp))])), (h1, .inl (X.2.1.2.2.2.2, 5, .inr (.inr (.inr (.inr (fun i9 => some (r i9 0))))))), (((r 0) 0), .inr (4, [.ref ((r 0) 1), .ref ((r 0) 3), .ref ((r 0) 5), .ref ((r 0) 6), .int (zb (tK (zRp Q ((o + kp) % 5) S 0)))])), (((r 0) 1), .inr (2, [.ref ((r 0) 2), .int (nI (rU (zRp Q ((o + kp) % 5) S 0)))])), (((r 0) 2), .inl (X.2.1.2.2.1, 12, .inl (rO (zRp Q ((o + kp) % 5) S 0)))), (((r 0) 3), .inr (2, [.ref ((r 0) 4), .int (nI (cU (zRp Q ((o + kp) % 5) S 0)))])), (((r 0) 4), .inl (X.2.1.2.2.1, 8, .inl (cO (zRp Q ((o + kp) % 5) S 0)))), (((r 0) 5), .inl (X.2.1.2.2.1, 96, .inl (bS (zRp Q ((o + kp) % 5) S 0)))), (((r 0) 6), .inr (0, [.ref ((r 0) 7), .int (nI (mK (zRp Q ((o + kp) % 5) S 0)))])), (((r 0) 7), .inl (X.2.1.2.2.1, 360, .inl (fA (zRp Q ((o + kp) % 5) S 0)))), (((r 1) 0), .inr (4, [.ref ((r 1) 1), .ref ((r 1) 3), .ref ((r 1) 5), .ref ((r 1) 6), .int (zb (tK (zRp Q ((o + kp) % 5) S 1)))])), (((r 1) 1), .inr (2, [.ref ((r 1) 2), .int (nI (rU (zRp Q ((o + kp) % 5) S 1)))])), (((r 1) 2), .inl (X.2.1.2.2.1, 12, .inl (rO (zRp Q ((o + kp) % 5) S 1)))), (((r 1) 3), .inr (2, [.ref ((r 1) 4), .int (nI (cU (zRp Q ((o + kp) % 5) S 1)))])), (((r 1) 4), .inl (X.2.1.2.2.1, 8, .inl (cO (zRp Q ((o + kp) % 5) S 1)))), (((r 1) 5), .inl (X.2.1.2.2.1, 96, .inl (bS (zRp Q ((o + kp) % 5) S 1)))), (((r 1) 6), .inr (0, [.ref ((r 1) 7), .int (nI (mK (zRp Q ((o + kp) % 5) S 1)))])), (((r 1) 7), .inl (X.2.1.2.2.1, 360, .inl (fA (zRp Q ((o + kp) % 5) S 1)))), (((r 2) 0), .inr (4, [.ref ((r 2) 1), .ref ((r 2) 3), .ref ((r 2) 5), .ref ((r 2) 6), .int (zb (tK (zRp Q ((o + kp) % 5) S 2)))])), (((r 2) 1), .inr (2, [.ref ((r 2) 2), .int (nI (rU (zRp Q ((o + kp) % 5) S 2)))])), (((r 2) 2), .inl (X.2.1.2.2.1, 12, .inl (rO (zRp Q ((o + kp) % 5) S 2)))), (((r 2) 3), .inr (2, [.ref ((r 2) 4), .int (nI (cU (zRp Q ((o + kp) % 5) S 2)))])), (((r 2) 4), .inl (X.2.1.2.2.1, 8, .inl (cO (zRp Q ((o + kp) % 5) S 2)))), (((r 2) 5), .inl (X.2.1.2.2.1, 96, .inl (bS (zRp Q ((o + kp) % 5) S 2)))), (((r 2) 6), .inr (0, [.ref ((r 2) 7), .int (nI (mK (zRp Q ((o + kp) % 5) S 2)))])), (((r 2) 7), .inl (X.2.1.2.2.1, 360, .inl (fA (zRp Q ((o + kp) % 5) S 2)))), (((r 3) 0), .inr (4, [.ref ((r 3) 1), .ref ((r 3) 3), .ref ((r 3) 5), .ref ((r 3) 6), .int (zb (tK (zRp Q ((o + kp) % 5) S 3)))])), (((r 3) 1), .inr (2, [.ref ((r 3) 2), .int (nI (rU (zRp Q ((o + kp) % 5) S 3)))])), (((r 3) 2), .inl (X.2.1.2.2.1, 12, .inl (rO (zRp Q ((o + kp) % 5) S 3)))), (((r 3) 3), .inr (2, [.ref ((r 3) 4), .int (nI (cU (zRp Q ((o + kp) % 5) S 3)))])), (((r 3) 4), .inl (X.2.1.2.2.1, 8, .inl (cO (zRp Q ((o + kp) % 5) S 3)))), (((r 3) 5), .inl (X.2.1.2.2.1, 96, .inl (bS (zRp Q ((o + kp) % 5) S 3)))), (((r 3) 6), .inr (0, [.ref ((r 3) 7), .int (nI (mK (zRp Q ((o + kp) % 5) S 3)))])), (((r 3) 7), .inl (X.2.1.2.2.1, 360, .inl (fA (zRp Q ((o + kp) % 5) S 3)))), (((r 4) 0), .inr (4, [.ref ((r 4) 1), .ref ((r 4) 3), .ref ((r 4) 5), .ref ((r 4) 6), .int (zb (tK (zRp Q ((o + kp) % 5) S 4)))])), (((r 4) 1), .inr (2, [.ref ((r 4) 2), .int (nI (rU (zRp Q ((o + kp) % 5) S 4)))])), (((r 4) 2), .inl (X.2.1.2.2.1, 12, .inl (rO (zRp Q ((o + kp) % 5) S 4)))), (((r 4) 3), .inr (2, [.ref ((r 4) 4), .int (nI (cU (zRp Q ((o + kp) % 5) S 4)))])), (((r 4) 4), .inl (X.2.1.2.2.1, 8, .inl (cO (zRp Q ((o + kp) % 5) S 4)))), (((r 4) 5), .inl (X.2.1.2.2.1, 96, .inl (bS (zRp Q ((o + kp) % 5) S 4)))), (((r 4) 6), .inr (0, [.ref ((r 4) 7), .int (nI (mK (zRp Q ((o + kp) % 5) S 4)))])), (((r 4) 7), .inl (X.2.1.2.2.1, 360, .inl (fA (zRp Q ((o + kp) % 5) S 4))))]) C kX5_recorded gX5_track_X5_recorded (mX5_recorded X.2.1 x0 (t 0) w0 h0 h1 r o kp (nI (zc (pIS (fA S) (-1) (nI 0)) (mK S))) ho hk) dX5_track_46 [0, 9, 10] [] 0 rfl rfl nd_0_9_10 rfl rfl rfl (by decide) (by decide) (Nat.le_of_ble_eq_true rfl) rfl ((zput_par nd_0_9_10 rfl).trans rfl) ?_
  exact z_iret C N dX5_track_49 (rfl) (rfl)

