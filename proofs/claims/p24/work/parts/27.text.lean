/-! the text of orders: tx its signs, ln its length, p where it is read -/
theorem zHe_ne : Nonempty { f : (Nat → Nat) → Nat → Nat → Nat // f = fun tx ln p => if p < ln then tx p else 0 } := ⟨⟨_, rfl⟩⟩
noncomputable def zHe9 : { f : (Nat → Nat) → Nat → Nat → Nat // f = fun tx ln p => if p < ln then tx p else 0 } := Classical.choice zHe_ne
noncomputable def zHe (tx : Nat → Nat) (ln p : Nat) : Nat := zHe9.1 tx ln p
theorem zHe_d (tx : Nat → Nat) (ln p : Nat) : zHe tx ln p = if p < ln then tx p else 0 := by
  show zHe9.1 tx ln p = _
  rw [zHe9.2]
theorem zHe_lt (tx : Nat → Nat) {ln p : Nat} (h : 0 < zHe tx ln p) : p + 1 ≤ ln := by
  rw [zHe_d] at h
  split at h
  · omega
  · omega
theorem zHe_b {tx : Nat → Nat} {ln p : Nat} (h : ∀ j, tx j < 65536) : zHe tx ln p < 65536 := by
  rw [zHe_d]
  split
  · exact h p
  · decide
def zDg (c : Nat) : Bool := decide (48 ≤ c) && decide (c ≤ 57)
theorem zDg_t {c : Nat} (h : zDg c = true) : 48 ≤ c ∧ c ≤ 57 := by simpa [zDg] using h
theorem zDg48 : zDg 48 = true := by decide
def zUpN (tx : Nat → Nat) (i c : Nat) : Nat → Nat := fun j => if j = i then c else tx j
theorem zUpN_e (tx : Nat → Nat) (i c : Nat) : upd (fun j9 => nI (tx j9)) i (nI c) = fun j9 => nI (zUpN tx i c j9) := by
  funext j
  simp only [upd, zUpN]
  split <;> rfl
theorem zch {c : Nat} (h : c < 65536) : vp_nar .char (nI c) = nI c := by
  unfold vp_nar
  rw [(pk_charN h).1]
/-- the digits from p on, at most d more; v what was read -/
noncomputable def zNL (tx : Nat → Nat) (ln : Nat) : Nat → Nat → Nat → Nat × Nat
  | 0, p, v => (v, p)
  | d + 1, p, v => if zDg (zHe tx ln p) = true then zNL tx ln d (p + 1) (10 * v + (zHe tx ln p - 48)) else (v, p)
theorem zNL_le {tx : Nat → Nat} {ln : Nat} : ∀ {d p v : Nat}, p ≤ ln → (zNL tx ln d p v).2 ≤ ln
  | 0, p, v, h => h
  | d + 1, p, v, h => by
    simp only [zNL]
    split
    · rename_i q
      exact zNL_le (zHe_lt tx (by have := zDg_t q; omega))
    · exact h
/-- a number of at most m digits: its value or NONE, and where it ends -/
noncomputable def zRn0 (tx : Nat → Nat) (ln m p : Nat) : Int32 × Nat :=
  if zDg (zHe tx ln p) = true then (if zHe tx ln p = 48 then (nI 0, p + 1) else (nI (zNL tx ln m p 0).1, (zNL tx ln m p 0).2)) else (-5, p)
theorem zRn_ne : Nonempty { f : (Nat → Nat) → Nat → Nat → Nat → Int32 × Nat // f = zRn0 } := ⟨⟨_, rfl⟩⟩
noncomputable def zRn9 : { f : (Nat → Nat) → Nat → Nat → Nat → Int32 × Nat // f = zRn0 } := Classical.choice zRn_ne
noncomputable def zRn (tx : Nat → Nat) (ln m p : Nat) : Int32 × Nat := zRn9.1 tx ln m p
theorem zRn_d (tx : Nat → Nat) (ln m p : Nat) : zRn tx ln m p = if zDg (zHe tx ln p) = true then (if zHe tx ln p = 48 then (nI 0, p + 1) else (nI (zNL tx ln m p 0).1, (zNL tx ln m p 0).2)) else (-5, p) := by
  show zRn9.1 tx ln m p = _
  rw [zRn9.2]
  rfl
theorem zRn_le {tx : Nat → Nat} {ln m p : Nat} (h : p ≤ ln) : (zRn tx ln m p).2 ≤ ln := by
  rw [zRn_d]
  split
  · rename_i q
    split
    · exact zHe_lt tx (by have := zDg_t q; omega)
    · exact zNL_le h
  · exact h
abbrev zPs : Type := Nat × Int32 × Int32 × Int32 × Int32 × Int32
def oP (s : zPs) : Nat := s.1
def oS (s : zPs) : Int32 := s.2.1
def oA (s : zPs) : Int32 := s.2.2.1
def oL (s : zPs) : Int32 := s.2.2.2.1
def oC (s : zPs) : Int32 := s.2.2.2.2.1
def oV (s : zPs) : Int32 := s.2.2.2.2.2
/-- one order from p on -/
noncomputable def zNo (tx : Nat → Nat) (ln p : Nat) (s : zPs) : Bool × zPs :=
  if zHe tx ln p = 43 ∨ zHe tx ln p = 45 then
    (if zHe tx ln (p + 1) = 114 then (!decide ((zRn tx ln 2 (p + 1 + 1)).1 < 0), ((zRn tx ln 2 (p + 1 + 1)).2, nI (zHe tx ln p), nI 0, (zRn tx ln 2 (p + 1 + 1)).1, oC s, oV s))
     else if zHe tx ln (p + 1) = 99 then (!decide ((zRn tx ln 2 (p + 1 + 1)).1 < 0), ((zRn tx ln 2 (p + 1 + 1)).2, nI (zHe tx ln p), nI 1, (zRn tx ln 2 (p + 1 + 1)).1, oC s, oV s))
     else (false, (p + 1, nI (zHe tx ln p), nI 1, oL s, oC s, oV s)))
  else if (zRn tx ln 2 p).1 < 0 then (false, ((zRn tx ln 2 p).2, nI (zHe tx ln p), oA s, (zRn tx ln 2 p).1, oC s, oV s))
  else if zHe tx ln (zRn tx ln 2 p).2 = 46 then
    (if (zRn tx ln 2 ((zRn tx ln 2 p).2 + 1)).1 < 0 then (false, ((zRn tx ln 2 ((zRn tx ln 2 p).2 + 1)).2, nI (zHe tx ln p), oA s, (zRn tx ln 2 p).1, (zRn tx ln 2 ((zRn tx ln 2 p).2 + 1)).1, oV s))
     else if zHe tx ln (zRn tx ln 2 ((zRn tx ln 2 p).2 + 1)).2 = 61 then
       (!decide ((zRn tx ln 4 ((zRn tx ln 2 ((zRn tx ln 2 p).2 + 1)).2 + 1)).1 < 0), ((zRn tx ln 4 ((zRn tx ln 2 ((zRn tx ln 2 p).2 + 1)).2 + 1)).2, nI (zHe tx ln p), oA s, (zRn tx ln 2 p).1, (zRn tx ln 2 ((zRn tx ln 2 p).2 + 1)).1, (zRn tx ln 4 ((zRn tx ln 2 ((zRn tx ln 2 p).2 + 1)).2 + 1)).1))
     else (false, ((zRn tx ln 2 ((zRn tx ln 2 p).2 + 1)).2, nI (zHe tx ln p), oA s, (zRn tx ln 2 p).1, (zRn tx ln 2 ((zRn tx ln 2 p).2 + 1)).1, oV s)))
  else (false, ((zRn tx ln 2 p).2, nI (zHe tx ln p), oA s, (zRn tx ln 2 p).1, oC s, oV s))
theorem zb9_t {x : Int32} (h : ¬ x < 0) : (!decide (x < 0)) = true := by rw [decide_eq_false h]; rfl
theorem zb9_f {x : Int32} (h : x < 0) : (!decide (x < 0)) = false := by rw [decide_eq_true h]; rfl
theorem zNo_r {tx : Nat → Nat} {ln p : Nat} {s : zPs} {b : Bool} (h : zHe tx ln p = 43 ∨ zHe tx ln p = 45) (h2 : zHe tx ln (p + 1) = 114) (h3 : (!decide ((zRn tx ln 2 (p + 1 + 1)).1 < 0)) = b) :
    zNo tx ln p s = (b, ((zRn tx ln 2 (p + 1 + 1)).2, nI (zHe tx ln p), nI 0, (zRn tx ln 2 (p + 1 + 1)).1, oC s, oV s)) := by
  rw [zNo, if_pos h, if_pos h2, h3]
theorem zNo_c {tx : Nat → Nat} {ln p : Nat} {s : zPs} {b : Bool} (h : zHe tx ln p = 43 ∨ zHe tx ln p = 45) (h2 : zHe tx ln (p + 1) = 99) (h3 : (!decide ((zRn tx ln 2 (p + 1 + 1)).1 < 0)) = b) :
    zNo tx ln p s = (b, ((zRn tx ln 2 (p + 1 + 1)).2, nI (zHe tx ln p), nI 1, (zRn tx ln 2 (p + 1 + 1)).1, oC s, oV s)) := by
  rw [zNo, if_pos h, if_neg (by omega), if_pos h2, h3]
theorem zNo_n {tx : Nat → Nat} {ln p : Nat} {s : zPs} (h : zHe tx ln p = 43 ∨ zHe tx ln p = 45) (h2 : zHe tx ln (p + 1) ≠ 114) (h3 : zHe tx ln (p + 1) ≠ 99) :
    zNo tx ln p s = (false, (p + 1, nI (zHe tx ln p), nI 1, oL s, oC s, oV s)) := by
  rw [zNo, if_pos h, if_neg h2, if_neg h3]
theorem zNo_p {tx : Nat → Nat} {ln p : Nat} {s : zPs} (h : ¬ (zHe tx ln p = 43 ∨ zHe tx ln p = 45)) (h2 : (zRn tx ln 2 p).1 < 0) :
    zNo tx ln p s = (false, ((zRn tx ln 2 p).2, nI (zHe tx ln p), oA s, (zRn tx ln 2 p).1, oC s, oV s)) := by
  rw [zNo, if_neg h, if_pos h2]
theorem zNo_d {tx : Nat → Nat} {ln p : Nat} {s : zPs} (h : ¬ (zHe tx ln p = 43 ∨ zHe tx ln p = 45)) (h2 : ¬ (zRn tx ln 2 p).1 < 0) (h3 : zHe tx ln (zRn tx ln 2 p).2 ≠ 46) :
    zNo tx ln p s = (false, ((zRn tx ln 2 p).2, nI (zHe tx ln p), oA s, (zRn tx ln 2 p).1, oC s, oV s)) := by
  rw [zNo, if_neg h, if_neg h2, if_neg h3]
theorem zNo_k {tx : Nat → Nat} {ln p : Nat} {s : zPs} (h : ¬ (zHe tx ln p = 43 ∨ zHe tx ln p = 45)) (h2 : ¬ (zRn tx ln 2 p).1 < 0) (h3 : zHe tx ln (zRn tx ln 2 p).2 = 46) (h4 : (zRn tx ln 2 ((zRn tx ln 2 p).2 + 1)).1 < 0) :
    zNo tx ln p s = (false, ((zRn tx ln 2 ((zRn tx ln 2 p).2 + 1)).2, nI (zHe tx ln p), oA s, (zRn tx ln 2 p).1, (zRn tx ln 2 ((zRn tx ln 2 p).2 + 1)).1, oV s)) := by
  rw [zNo, if_neg h, if_neg h2, if_pos h3, if_pos h4]
theorem zNo_e {tx : Nat → Nat} {ln p : Nat} {s : zPs} (h : ¬ (zHe tx ln p = 43 ∨ zHe tx ln p = 45)) (h2 : ¬ (zRn tx ln 2 p).1 < 0) (h3 : zHe tx ln (zRn tx ln 2 p).2 = 46) (h4 : ¬ (zRn tx ln 2 ((zRn tx ln 2 p).2 + 1)).1 < 0) (h5 : zHe tx ln (zRn tx ln 2 ((zRn tx ln 2 p).2 + 1)).2 ≠ 61) :
    zNo tx ln p s = (false, ((zRn tx ln 2 ((zRn tx ln 2 p).2 + 1)).2, nI (zHe tx ln p), oA s, (zRn tx ln 2 p).1, (zRn tx ln 2 ((zRn tx ln 2 p).2 + 1)).1, oV s)) := by
  rw [zNo, if_neg h, if_neg h2, if_pos h3, if_neg h4, if_neg h5]
theorem zNo_v {tx : Nat → Nat} {ln p : Nat} {s : zPs} {b : Bool} (h : ¬ (zHe tx ln p = 43 ∨ zHe tx ln p = 45)) (h2 : ¬ (zRn tx ln 2 p).1 < 0) (h3 : zHe tx ln (zRn tx ln 2 p).2 = 46) (h4 : ¬ (zRn tx ln 2 ((zRn tx ln 2 p).2 + 1)).1 < 0) (h5 : zHe tx ln (zRn tx ln 2 ((zRn tx ln 2 p).2 + 1)).2 = 61) (h6 : (!decide ((zRn tx ln 4 ((zRn tx ln 2 ((zRn tx ln 2 p).2 + 1)).2 + 1)).1 < 0)) = b) :
    zNo tx ln p s = (b, ((zRn tx ln 4 ((zRn tx ln 2 ((zRn tx ln 2 p).2 + 1)).2 + 1)).2, nI (zHe tx ln p), oA s, (zRn tx ln 2 p).1, (zRn tx ln 2 ((zRn tx ln 2 p).2 + 1)).1, (zRn tx ln 4 ((zRn tx ln 2 ((zRn tx ln 2 p).2 + 1)).2 + 1)).1)) := by
  rw [zNo, if_neg h, if_neg h2, if_pos h3, if_neg h4, if_pos h5, h6]
/-- the next order: a blank ahead of it, but for the first -/
noncomputable def zNx (tx : Nat → Nat) (ln : Nat) (s : zPs) : Bool × zPs :=
  if oP s = 0 then zNo tx ln (oP s) s else if zHe tx ln (oP s) = 32 then zNo tx ln (oP s + 1) s else (false, s)
theorem zNx_0 {tx : Nat → Nat} {ln : Nat} {s : zPs} (h : oP s = 0) : zNx tx ln s = zNo tx ln (oP s) s := by rw [zNx, if_pos h]
theorem zNx_1 {tx : Nat → Nat} {ln : Nat} {s : zPs} (h : oP s ≠ 0) (h2 : zHe tx ln (oP s) = 32) : zNx tx ln s = zNo tx ln (oP s + 1) s := by rw [zNx, if_neg h, if_pos h2]
theorem zNx_n {tx : Nat → Nat} {ln : Nat} {s : zPs} (h : oP s ≠ 0) (h2 : zHe tx ln (oP s) ≠ 32) : zNx tx ln s = (false, s) := by rw [zNx, if_neg h, if_neg h2]
theorem zNo_le {tx : Nat → Nat} {ln p : Nat} {s : zPs} (h : p ≤ ln) : oP (zNo tx ln p s).2 ≤ ln := by
  unfold zNo
  split
  · rename_i q
    have h1 : p + 1 ≤ ln := zHe_lt tx (by omega)
    split
    · exact zRn_le (zHe_lt tx (by omega))
    · split
      · exact zRn_le (zHe_lt tx (by omega))
      · exact h1
  · split
    · exact zRn_le h
    · split
      · rename_i q
        have h1 := zHe_lt tx (ln := ln) (p := (zRn tx ln 2 p).2) (by omega)
        split
        · exact zRn_le h1
        · split
          · rename_i q2
            exact zRn_le (zHe_lt tx (by omega))
          · exact zRn_le h1
      · exact zRn_le h
theorem zNx_le {tx : Nat → Nat} {ln : Nat} {s : zPs} (h : oP s ≤ ln) : oP (zNx tx ln s).2 ≤ ln := by
  unfold zNx
  split
  · exact zNo_le h
  · split
    · rename_i q
      exact zNo_le (zHe_lt tx (by omega))
    · exact h
/-- the fault of a text, at most d orders ahead -/
noncomputable def zFl (tx : Nat → Nat) (ln : Nat) : Nat → zPs → Int32 × zPs
  | 0, s => (nI (oP s), s)
  | d + 1, s => if (zNx tx ln s).1 = true then (if ln ≤ oP (zNx tx ln s).2 then (-5, (zNx tx ln s).2) else zFl tx ln d (zNx tx ln s).2) else (nI (oP (zNx tx ln s).2), (zNx tx ln s).2)
def zRw (s : zPs) : zPs := (0, s.2)
theorem kX3_append : zY yX3_append wsX3_append cX3_append 2 (some .int) 1 := ⟨⟨_, rfl⟩, ⟨by decide +kernel, by decide +kernel, by decide +kernel⟩, by decide +kernel⟩
theorem fX3_append_15 : zF wsX3_append RX3 15 3 1 RX3 TX3 8 := ⟨by decide +kernel, rfl, by decide, by decide +kernel, rfl⟩
set_option maxHeartbeats 4000000 in
set_option maxRecDepth 100000 in
theorem mX3_append_f (E : zE) (h0 h1 : Nat) (tx : Nat → Nat) (ln p : Nat) (sg ax pl co va : Int32) (c : Int32) (hln : ln ≤ 60) (htx : ∀ j, tx j < 65536) (hp : p ≤ ln) (hf : ln = 60) : zM E yX3_append wsX3_append 0 [.ref h0, .int c] [(h0, .inr (3, [.ref h1, .int (nI ln), .int (nI p), .int sg, .int ax, .int pl, .int co, .int va])), (h1, .inl (E.2.2.2.1, 60, .inl (fun j9 => nI (tx j9))))] [(h0, .inr (3, [.ref h1, .int (nI ln), .int (nI p), .int sg, .int ax, .int pl, .int co, .int va])), (h1, .inl (E.2.2.2.1, 60, .inl (fun j9 => nI (tx j9))))] (some (.int (-3))) := by
  refine zM.of kX3_append (Nat.le_of_ble_eq_true rfl) rfl [some (.ref h0), some (.int c)] rfl (Nat.le_of_ble_eq_true rfl) ?_
  intro X eX C N
  subst eX
  have hb8 := zHe_b (ln := ln) (p := p) htx
  refine z_aload_n C 0 dX3_append_0 rfl rfl ?_
  refine z_get C fX3_append_15 0 dX3_append_1 rfl rfl ?_
  refine z_nif_lt_f C 16 dX3_append_4 (by decide) (by omega) (by trivial) ?_
  refine z_aload_n C 0 dX3_append_7 rfl rfl ?_
  refine z_get C fX3_append_15 0 dX3_append_8 rfl rfl ?_
  refine z_bipush C (nI 60) dX3_append_11 (by decide) ?_
  refine z_ncmp_lt_f C 19 dX3_append_13 (by decide) (by omega) (by omega) (by omega) ?_
  refine z_bipush C (-3) dX3_append_16 (by decide) ?_
  exact z_iret C N dX3_append_18 (rfl) (rfl)

theorem fX3_append_9 : zF wsX3_append RX3 9 3 0 RX3 TX3 8 := ⟨by decide +kernel, rfl, by decide, by decide +kernel, rfl⟩
theorem ftX3_1 : zFt 1 8 TX3 tyX3 false := ⟨tyX3_ok, nmX3, rfl⟩
set_option maxHeartbeats 4000000 in
set_option maxRecDepth 100000 in
theorem mX3_append (E : zE) (h0 h1 : Nat) (tx : Nat → Nat) (ln p : Nat) (sg ax pl co va : Int32) (c : Nat) (hln : ln ≤ 60) (htx : ∀ j, tx j < 65536) (hp : p ≤ ln) (hf : ln < 60) (hc : c < 65536) : zM E yX3_append wsX3_append 0 [.ref h0, .int (nI c)] [(h0, .inr (3, [.ref h1, .int (nI ln), .int (nI p), .int sg, .int ax, .int pl, .int co, .int va])), (h1, .inl (E.2.2.2.1, 60, .inl (fun j9 => nI (tx j9))))] [(h0, .inr (3, [.ref h1, .int (nI (ln + 1)), .int (nI p), .int sg, .int ax, .int pl, .int co, .int va])), (h1, .inl (E.2.2.2.1, 60, .inl (fun j9 => nI (zUpN tx ln c j9))))] (some (.int (nI (ln + 1)))) := by
  refine zM.of kX3_append (Nat.le_of_ble_eq_true rfl) rfl [some (.ref h0), some (.int (nI c))] rfl (Nat.le_of_ble_eq_true rfl) ?_
  intro X eX C N
  subst eX
  have hb8 := zHe_b (ln := ln) (p := p) htx
  refine z_aload_n C 0 dX3_append_0 rfl rfl ?_
  refine z_get C fX3_append_15 0 dX3_append_1 rfl rfl ?_
  refine z_nif_lt_f C 16 dX3_append_4 (by decide) (by omega) (by trivial) ?_
  refine z_aload_n C 0 dX3_append_7 rfl rfl ?_
  refine z_get C fX3_append_15 0 dX3_append_8 rfl rfl ?_
  refine z_bipush C (nI 60) dX3_append_11 (by decide) ?_
  refine z_ncmp_lt_t C 19 dX3_append_13 (by decide) (by omega) (by omega) (by omega) ?_
  refine z_aload_n C 0 dX3_append_19 rfl rfl ?_
  refine z_get C fX3_append_9 0 dX3_append_20 rfl rfl ?_
  refine z_aload_n C 0 dX3_append_23 rfl rfl ?_
  refine z_get C fX3_append_15 0 dX3_append_24 rfl rfl ?_
  refine z_iload_n C 1 dX3_append_27 rfl rfl ?_
  refine z_castN C 1 dX3_append_28 rfl (by omega) (by decide) (zch hc) ?_
  refine z_aload_n C 0 dX3_append_29 rfl rfl ?_
  refine z_dup C dX3_append_30 rfl ?_
  refine z_get C fX3_append_15 0 dX3_append_31 rfl rfl ?_
  refine z_iconst C (nI 1) dX3_append_34 (by decide) ?_
  refine z_iadd C dX3_append_35 ?_
  refine z_top (y := nI (ln + 1)) (nI_add _ _) ?_
  refine z_put C fX3_append_15 ftX3_1 0 dX3_append_36 rfl rfl rfl (Nat.le_of_ble_eq_true rfl) ?_
  refine z_aload_n C 0 dX3_append_39 rfl rfl ?_
  refine z_get C fX3_append_15 0 dX3_append_40 rfl rfl ?_
  exact z_iret C N dX3_append_43 (by rw [← zUpN_e] <;> rfl) (rfl)

theorem kX3_rewind : zY yX3_rewind wsX3_rewind cX3_rewind 1 none 0 := ⟨⟨_, rfl⟩, ⟨by decide +kernel, by decide +kernel, by decide +kernel⟩, by decide +kernel⟩
theorem fX3_rewind_26 : zF wsX3_rewind RX3 26 3 2 RX3 TX3 8 := ⟨by decide +kernel, rfl, by decide, by decide +kernel, rfl⟩
theorem ftX3_2 : zFt 2 8 TX3 tyX3 false := ⟨tyX3_ok, nmX3, rfl⟩
set_option maxHeartbeats 4000000 in
set_option maxRecDepth 100000 in
theorem mX3_rewind (E : zE) (h0 h1 : Nat) (tx : Nat → Nat) (ln p : Nat) (sg ax pl co va : Int32)  (hln : ln ≤ 60) (htx : ∀ j, tx j < 65536) (hp : p ≤ ln) : zM E yX3_rewind wsX3_rewind 0 [.ref h0] [(h0, .inr (3, [.ref h1, .int (nI ln), .int (nI p), .int sg, .int ax, .int pl, .int co, .int va])), (h1, .inl (E.2.2.2.1, 60, .inl (fun j9 => nI (tx j9))))] [(h0, .inr (3, [.ref h1, .int (nI ln), .int (nI 0), .int sg, .int ax, .int pl, .int co, .int va])), (h1, .inl (E.2.2.2.1, 60, .inl (fun j9 => nI (tx j9))))] none := by
  refine zM.of kX3_rewind (Nat.le_of_ble_eq_true rfl) rfl [some (.ref h0)] rfl (Nat.le_of_ble_eq_true rfl) ?_
  intro X eX C N
  subst eX
  have hb8 := zHe_b (ln := ln) (p := p) htx
  refine z_aload_n C 0 dX3_rewind_0 rfl rfl ?_
  refine z_iconst C (nI 0) dX3_rewind_1 (by decide) ?_
  refine z_put C fX3_rewind_26 ftX3_2 0 dX3_rewind_2 rfl rfl rfl (Nat.le_of_ble_eq_true rfl) ?_
  exact z_vret C N dX3_rewind_5 (rfl)

theorem kX3_here : zY yX3_here wsX3_here cX3_here 1 (some .char) 0 := ⟨⟨_, rfl⟩, ⟨by decide +kernel, by decide +kernel, by decide +kernel⟩, by decide +kernel⟩
theorem fX3_here_26 : zF wsX3_here RX3 26 3 2 RX3 TX3 8 := ⟨by decide +kernel, rfl, by decide, by decide +kernel, rfl⟩
theorem fX3_here_15 : zF wsX3_here RX3 15 3 1 RX3 TX3 8 := ⟨by decide +kernel, rfl, by decide, by decide +kernel, rfl⟩
theorem fX3_here_9 : zF wsX3_here RX3 9 3 0 RX3 TX3 8 := ⟨by decide +kernel, rfl, by decide, by decide +kernel, rfl⟩
set_option maxHeartbeats 4000000 in
set_option maxRecDepth 100000 in
theorem mX3_here (E : zE) (h0 h1 : Nat) (tx : Nat → Nat) (ln p : Nat) (sg ax pl co va : Int32)  (hln : ln ≤ 60) (htx : ∀ j, tx j < 65536) (hp : p ≤ ln) : zM E yX3_here wsX3_here 0 [.ref h0] [(h0, .inr (3, [.ref h1, .int (nI ln), .int (nI p), .int sg, .int ax, .int pl, .int co, .int va])), (h1, .inl (E.2.2.2.1, 60, .inl (fun j9 => nI (tx j9))))] [(h0, .inr (3, [.ref h1, .int (nI ln), .int (nI p), .int sg, .int ax, .int pl, .int co, .int va])), (h1, .inl (E.2.2.2.1, 60, .inl (fun j9 => nI (tx j9))))] (some (.int (nI (zHe tx ln p)))) := by
  refine zM.of kX3_here (Nat.le_of_ble_eq_true rfl) rfl [some (.ref h0)] rfl (Nat.le_of_ble_eq_true rfl) ?_
  intro X eX C N
  subst eX
  have hb8 := zHe_b (ln := ln) (p := p) htx
  refine z_aload_n C 0 dX3_here_0 rfl rfl ?_
  refine z_get C fX3_here_26 0 dX3_here_1 rfl rfl ?_
  refine z_nif_lt_f C 39 dX3_here_4 (by decide) (by omega) (by trivial) ?_
  refine z_aload_n C 0 dX3_here_7 rfl rfl ?_
  refine z_get C fX3_here_26 0 dX3_here_8 rfl rfl ?_
  refine z_aload_n C 0 dX3_here_11 rfl rfl ?_
  refine z_get C fX3_here_15 0 dX3_here_12 rfl rfl ?_
  refine z_ncmp_ge C 39 dX3_here_15 (by decide) (by omega) (by omega) (fun h_1 => ?_) (fun h_1 => ?_)
  · refine z_iconst C (nI 0) dX3_here_39 (by decide) ?_
    exact z_zret C N dX3_here_40 (by first | exact (pk_charN (htx _)).1 | rfl) (rfl) (by first | rw [zHe_d, if_pos (by omega)] | rw [zHe_d, if_neg (by omega)])
  · refine z_aload_n C 0 dX3_here_18 rfl rfl ?_
    refine z_get C fX3_here_26 0 dX3_here_19 rfl rfl ?_
    refine z_bipush C (nI 60) dX3_here_22 (by decide) ?_
    refine z_ncmp_ge_f C 39 dX3_here_24 (by decide) (by omega) (by omega) (by omega) ?_
    refine z_aload_n C 0 dX3_here_27 rfl rfl ?_
    refine z_get C fX3_here_9 0 dX3_here_28 rfl rfl ?_
    refine z_aload_n C 0 dX3_here_31 rfl rfl ?_
    refine z_get C fX3_here_26 0 dX3_here_32 rfl rfl ?_
    refine z_caldN C 1 dX3_here_35 rfl (by omega) (by decide) ?_
    refine z_top (y := nI (tx p)) rfl ?_
    refine z_goto C 40 dX3_here_36 (by decide) ?_
    exact z_zret C N dX3_here_40 (by first | exact (pk_charN (htx _)).1 | rfl) (rfl) (by first | rw [zHe_d, if_pos (by omega)] | rw [zHe_d, if_neg (by omega)])

theorem kX3_isDigit : zY yX3_isDigit wsX3_isDigit cX3_isDigit 1 (some .boolean) 1 := ⟨⟨_, rfl⟩, ⟨by decide +kernel, by decide +kernel, by decide +kernel⟩, by decide +kernel⟩
set_option maxHeartbeats 4000000 in
set_option maxRecDepth 100000 in
theorem mX3_isDigit (E : zE) (c : Nat) (hc : c < 65536) : zM E yX3_isDigit wsX3_isDigit 0 [.int (nI c)] [] [] (some (.int (zb (zDg c)))) := by
  refine zM.of kX3_isDigit (Nat.le_of_ble_eq_true rfl) rfl [some (.int (nI c))] rfl (Nat.le_of_ble_eq_true rfl) ?_
  intro X eX C N
  subst eX
  refine z_iload_n C 0 dX3_isDigit_0 rfl rfl ?_
  refine z_bipush C (nI 48) dX3_isDigit_1 (by decide) ?_
  refine z_ncmp_lt C 16 dX3_isDigit_3 (by decide) (by omega) (by omega) (fun h_1 => ?_) (fun h_1 => ?_)
  · refine z_iconst C (nI 0) dX3_isDigit_16 (by decide) ?_
    exact z_zret C N dX3_isDigit_17 rfl (rfl) (congrArg (fun x => some (Value.int x)) (zb_f (by simp [zDg]; omega)).symm)
  · refine z_iload_n C 0 dX3_isDigit_6 rfl rfl ?_
    refine z_bipush C (nI 57) dX3_isDigit_7 (by decide) ?_
    refine z_ncmp_gt C 16 dX3_isDigit_9 (by decide) (by omega) (by omega) (fun h_2 => ?_) (fun h_2 => ?_)
    · refine z_iconst C (nI 0) dX3_isDigit_16 (by decide) ?_
      exact z_zret C N dX3_isDigit_17 rfl (rfl) (congrArg (fun x => some (Value.int x)) (zb_f (by simp [zDg]; omega)).symm)
    · refine z_iconst C (nI 1) dX3_isDigit_12 (by decide) ?_
      refine z_goto C 17 dX3_isDigit_13 (by decide) ?_
      exact z_zret C N dX3_isDigit_17 rfl (rfl) (congrArg (fun x => some (Value.int x)) (zb_t (by simp [zDg]; omega)).symm)

theorem kX3_pass : zY yX3_pass wsX3_pass cX3_pass 2 (some .boolean) 1 := ⟨⟨_, rfl⟩, ⟨by decide +kernel, by decide +kernel, by decide +kernel⟩, by decide +kernel⟩
theorem fX3_pass_26 : zF wsX3_pass RX3 26 3 2 RX3 TX3 8 := ⟨by decide +kernel, rfl, by decide, by decide +kernel, rfl⟩
set_option maxHeartbeats 4000000 in
set_option maxRecDepth 100000 in
theorem mX3_pass_y (E : zE) (h0 h1 : Nat) (tx : Nat → Nat) (ln p : Nat) (sg ax pl co va : Int32) (w : Nat) (hln : ln ≤ 60) (htx : ∀ j, tx j < 65536) (hp : p ≤ ln) (hw : w < 65536) (he : zHe tx ln p = w) : zM E yX3_pass wsX3_pass 1 [.ref h0, .int (nI w)] [(h0, .inr (3, [.ref h1, .int (nI ln), .int (nI p), .int sg, .int ax, .int pl, .int co, .int va])), (h1, .inl (E.2.2.2.1, 60, .inl (fun j9 => nI (tx j9))))] [(h0, .inr (3, [.ref h1, .int (nI ln), .int (nI (p + 1)), .int sg, .int ax, .int pl, .int co, .int va])), (h1, .inl (E.2.2.2.1, 60, .inl (fun j9 => nI (tx j9))))] (some (.int (zb true))) := by
  refine zM.of kX3_pass (Nat.le_of_ble_eq_true rfl) rfl [some (.ref h0), some (.int (nI w))] rfl (Nat.le_of_ble_eq_true rfl) ?_
  intro X eX C N
  subst eX
  have hb8 := zHe_b (ln := ln) (p := p) htx
  refine z_aload_n C 0 dX3_pass_0 rfl rfl ?_
  refine z_callVr C kX3_here gX3_pass_X3_here (mX3_here X.2.1 h0 h1 tx ln p sg ax pl co va hln htx hp) dX3_pass_1 [0, 1] [] 0 rfl nd_0_1 rfl rfl rfl (by decide) (by decide) (Nat.le_of_ble_eq_true rfl) rfl ?_
  refine z_iload_n C 1 dX3_pass_4 rfl rfl ?_
  refine z_ncmp_eq_t C 10 dX3_pass_5 (by decide) (by omega) (by omega) (by omega) ?_
  refine z_aload_n C 0 dX3_pass_10 rfl rfl ?_
  refine z_dup C dX3_pass_11 rfl ?_
  refine z_get C fX3_pass_26 0 dX3_pass_12 rfl rfl ?_
  refine z_iconst C (nI 1) dX3_pass_15 (by decide) ?_
  refine z_iadd C dX3_pass_16 ?_
  refine z_top (y := nI (p + 1)) (nI_add _ _) ?_
  refine z_put C fX3_pass_26 ftX3_2 0 dX3_pass_17 rfl rfl rfl (Nat.le_of_ble_eq_true rfl) ?_
  refine z_iconst C (nI 1) dX3_pass_20 (by decide) ?_
  exact z_zret C N dX3_pass_21 rfl (rfl) (rfl)

set_option maxHeartbeats 4000000 in
set_option maxRecDepth 100000 in
theorem mX3_pass_n (E : zE) (h0 h1 : Nat) (tx : Nat → Nat) (ln p : Nat) (sg ax pl co va : Int32) (w : Nat) (hln : ln ≤ 60) (htx : ∀ j, tx j < 65536) (hp : p ≤ ln) (hw : w < 65536) (he : zHe tx ln p ≠ w) : zM E yX3_pass wsX3_pass 1 [.ref h0, .int (nI w)] [(h0, .inr (3, [.ref h1, .int (nI ln), .int (nI p), .int sg, .int ax, .int pl, .int co, .int va])), (h1, .inl (E.2.2.2.1, 60, .inl (fun j9 => nI (tx j9))))] [(h0, .inr (3, [.ref h1, .int (nI ln), .int (nI p), .int sg, .int ax, .int pl, .int co, .int va])), (h1, .inl (E.2.2.2.1, 60, .inl (fun j9 => nI (tx j9))))] (some (.int (zb false))) := by
  refine zM.of kX3_pass (Nat.le_of_ble_eq_true rfl) rfl [some (.ref h0), some (.int (nI w))] rfl (Nat.le_of_ble_eq_true rfl) ?_
  intro X eX C N
  subst eX
  have hb8 := zHe_b (ln := ln) (p := p) htx
  refine z_aload_n C 0 dX3_pass_0 rfl rfl ?_
  refine z_callVr C kX3_here gX3_pass_X3_here (mX3_here X.2.1 h0 h1 tx ln p sg ax pl co va hln htx hp) dX3_pass_1 [0, 1] [] 0 rfl nd_0_1 rfl rfl rfl (by decide) (by decide) (Nat.le_of_ble_eq_true rfl) rfl ?_
  refine z_iload_n C 1 dX3_pass_4 rfl rfl ?_
  refine z_ncmp_eq_f C 10 dX3_pass_5 (by decide) (by omega) (by omega) (by omega) ?_
  refine z_iconst C (nI 0) dX3_pass_8 (by decide) ?_
  exact z_zret C N dX3_pass_9 rfl (rfl) (rfl)

theorem kX3_readAxis : zY yX3_readAxis wsX3_readAxis cX3_readAxis 1 (some .boolean) 0 := ⟨⟨_, rfl⟩, ⟨by decide +kernel, by decide +kernel, by decide +kernel⟩, by decide +kernel⟩
theorem fX3_readAxis_53 : zF wsX3_readAxis RX3 53 3 4 RX3 TX3 8 := ⟨by decide +kernel, rfl, by decide, by decide +kernel, rfl⟩
theorem ftX3_4 : zFt 4 8 TX3 tyX3 false := ⟨tyX3_ok, nmX3, rfl⟩
set_option maxHeartbeats 4000000 in
set_option maxRecDepth 100000 in
theorem mX3_readAxis_r (E : zE) (h0 h1 : Nat) (tx : Nat → Nat) (ln p : Nat) (sg ax pl co va : Int32)  (hln : ln ≤ 60) (htx : ∀ j, tx j < 65536) (hp : p ≤ ln) (he : zHe tx ln p = 114) : zM E yX3_readAxis wsX3_readAxis 2 [.ref h0] [(h0, .inr (3, [.ref h1, .int (nI ln), .int (nI p), .int sg, .int ax, .int pl, .int co, .int va])), (h1, .inl (E.2.2.2.1, 60, .inl (fun j9 => nI (tx j9))))] [(h0, .inr (3, [.ref h1, .int (nI ln), .int (nI (p + 1)), .int sg, .int (nI 0), .int pl, .int co, .int va])), (h1, .inl (E.2.2.2.1, 60, .inl (fun j9 => nI (tx j9))))] (some (.int (zb true))) := by
  refine zM.of kX3_readAxis (Nat.le_of_ble_eq_true rfl) rfl [some (.ref h0)] rfl (Nat.le_of_ble_eq_true rfl) ?_
  intro X eX C N
  subst eX
  have hb8 := zHe_b (ln := ln) (p := p) htx
  refine z_aload_n C 0 dX3_readAxis_0 rfl rfl ?_
  refine z_aload_n C 0 dX3_readAxis_1 rfl rfl ?_
  refine z_callVr C kX3_here gX3_readAxis_X3_here (mX3_here X.2.1 h0 h1 tx ln p sg ax pl co va hln htx hp) dX3_readAxis_2 [0, 1] [.ref h0] 0 rfl nd_0_1 rfl rfl rfl (by decide) (by decide) (Nat.le_of_ble_eq_true rfl) rfl ?_
  refine z_bipush C (nI 114) dX3_readAxis_5 (by decide) ?_
  refine z_ncmp_ne_f C 14 dX3_readAxis_7 (by decide) (by omega) (by omega) (by omega) ?_
  refine z_iconst C (nI 0) dX3_readAxis_10 (by decide) ?_
  refine z_goto C 15 dX3_readAxis_11 (by decide) ?_
  refine z_put C fX3_readAxis_53 ftX3_4 0 dX3_readAxis_15 rfl rfl rfl (Nat.le_of_ble_eq_true rfl) ?_
  refine z_aload_n C 0 dX3_readAxis_18 rfl rfl ?_
  refine z_bipush C (nI 114) dX3_readAxis_19 (by decide) ?_
  by_cases hc_1 : zHe tx ln p = 114
  · have hp9_2 : p + 1 ≤ ln := zHe_lt tx (by omega)
    refine z_callV (wn := [(h0, .inr (3, [.ref h1, .int (nI ln), .int (nI (p + 1)), .int sg, .int (nI 0), .int pl, .int co, .int va])), (h1, .inl (X.2.1.2.2.2.1, 60, .inl (fun j9 => nI (tx j9))))]) C kX3_pass gX3_readAxis_X3_pass (mX3_pass_y X.2.1 h0 h1 tx ln p sg (nI 0) pl co va 114 hln htx hp (by first | assumption | omega) he) dX3_readAxis_21 [0, 1] [] 0 rfl rfl nd_0_1 rfl rfl rfl (by decide) (by decide) (Nat.le_of_ble_eq_true rfl) rfl rfl ?_
    refine z_bif_ne_t C 36 dX3_readAxis_24 (by decide) rfl ?_
    refine z_iconst C (nI 1) dX3_readAxis_36 (by decide) ?_
    refine z_goto C 41 dX3_readAxis_37 (by decide) ?_
    exact z_zret C N dX3_readAxis_41 rfl (rfl) (rfl)
  · have hb9_3 : zHe tx ln p < 65536 := zHe_b htx
    refine z_callV (wn := [(h0, .inr (3, [.ref h1, .int (nI ln), .int (nI (p + 1)), .int sg, .int (nI 0), .int pl, .int co, .int va])), (h1, .inl (X.2.1.2.2.2.1, 60, .inl (fun j9 => nI (tx j9))))]) C kX3_pass gX3_readAxis_X3_pass (mX3_pass_y X.2.1 h0 h1 tx ln p sg (nI 0) pl co va 114 hln htx hp (by first | assumption | omega) he) dX3_readAxis_21 [0, 1] [] 0 rfl rfl nd_0_1 rfl rfl rfl (by decide) (by decide) (Nat.le_of_ble_eq_true rfl) rfl rfl ?_
    refine z_bif_ne_t C 36 dX3_readAxis_24 (by decide) rfl ?_
    refine z_iconst C (nI 1) dX3_readAxis_36 (by decide) ?_
    refine z_goto C 41 dX3_readAxis_37 (by decide) ?_
    exact z_zret C N dX3_readAxis_41 rfl (rfl) (rfl)

set_option maxHeartbeats 4000000 in
set_option maxRecDepth 100000 in
theorem mX3_readAxis_c (E : zE) (h0 h1 : Nat) (tx : Nat → Nat) (ln p : Nat) (sg ax pl co va : Int32)  (hln : ln ≤ 60) (htx : ∀ j, tx j < 65536) (hp : p ≤ ln) (he : zHe tx ln p = 99) : zM E yX3_readAxis wsX3_readAxis 2 [.ref h0] [(h0, .inr (3, [.ref h1, .int (nI ln), .int (nI p), .int sg, .int ax, .int pl, .int co, .int va])), (h1, .inl (E.2.2.2.1, 60, .inl (fun j9 => nI (tx j9))))] [(h0, .inr (3, [.ref h1, .int (nI ln), .int (nI (p + 1)), .int sg, .int (nI 1), .int pl, .int co, .int va])), (h1, .inl (E.2.2.2.1, 60, .inl (fun j9 => nI (tx j9))))] (some (.int (zb true))) := by
  refine zM.of kX3_readAxis (Nat.le_of_ble_eq_true rfl) rfl [some (.ref h0)] rfl (Nat.le_of_ble_eq_true rfl) ?_
  intro X eX C N
  subst eX
  have hb8 := zHe_b (ln := ln) (p := p) htx
  refine z_aload_n C 0 dX3_readAxis_0 rfl rfl ?_
  refine z_aload_n C 0 dX3_readAxis_1 rfl rfl ?_
  refine z_callVr C kX3_here gX3_readAxis_X3_here (mX3_here X.2.1 h0 h1 tx ln p sg ax pl co va hln htx hp) dX3_readAxis_2 [0, 1] [.ref h0] 0 rfl nd_0_1 rfl rfl rfl (by decide) (by decide) (Nat.le_of_ble_eq_true rfl) rfl ?_
  refine z_bipush C (nI 114) dX3_readAxis_5 (by decide) ?_
  refine z_ncmp_ne_t C 14 dX3_readAxis_7 (by decide) (by omega) (by omega) (by omega) ?_
  refine z_iconst C (nI 1) dX3_readAxis_14 (by decide) ?_
  refine z_put C fX3_readAxis_53 ftX3_4 0 dX3_readAxis_15 rfl rfl rfl (Nat.le_of_ble_eq_true rfl) ?_
  refine z_aload_n C 0 dX3_readAxis_18 rfl rfl ?_
  refine z_bipush C (nI 114) dX3_readAxis_19 (by decide) ?_
  refine z_callVr C kX3_pass gX3_readAxis_X3_pass (mX3_pass_n X.2.1 h0 h1 tx ln p sg (nI 1) pl co va 114 hln htx hp (by first | assumption | omega) (by first | assumption | omega)) dX3_readAxis_21 [0, 1] [] 0 rfl nd_0_1 rfl rfl rfl (by decide) (by decide) (Nat.le_of_ble_eq_true rfl) rfl ?_
  refine z_bif_ne_f C 36 dX3_readAxis_24 (by decide) rfl ?_
  refine z_aload_n C 0 dX3_readAxis_27 rfl rfl ?_
  refine z_bipush C (nI 99) dX3_readAxis_28 (by decide) ?_
  by_cases hc_1 : zHe tx ln p = 99
  · have hp9_2 : p + 1 ≤ ln := zHe_lt tx (by omega)
    refine z_callV (wn := [(h0, .inr (3, [.ref h1, .int (nI ln), .int (nI (p + 1)), .int sg, .int (nI 1), .int pl, .int co, .int va])), (h1, .inl (X.2.1.2.2.2.1, 60, .inl (fun j9 => nI (tx j9))))]) C kX3_pass gX3_readAxis_X3_pass (mX3_pass_y X.2.1 h0 h1 tx ln p sg (nI 1) pl co va 99 hln htx hp (by first | assumption | omega) he) dX3_readAxis_30 [0, 1] [] 0 rfl rfl nd_0_1 rfl rfl rfl (by decide) (by decide) (Nat.le_of_ble_eq_true rfl) rfl rfl ?_
    refine z_bif_eq_f C 40 dX3_readAxis_33 (by decide) rfl ?_
    refine z_iconst C (nI 1) dX3_readAxis_36 (by decide) ?_
    refine z_goto C 41 dX3_readAxis_37 (by decide) ?_
    exact z_zret C N dX3_readAxis_41 rfl (rfl) (rfl)
  · have hb9_3 : zHe tx ln p < 65536 := zHe_b htx
    refine z_callV (wn := [(h0, .inr (3, [.ref h1, .int (nI ln), .int (nI (p + 1)), .int sg, .int (nI 1), .int pl, .int co, .int va])), (h1, .inl (X.2.1.2.2.2.1, 60, .inl (fun j9 => nI (tx j9))))]) C kX3_pass gX3_readAxis_X3_pass (mX3_pass_y X.2.1 h0 h1 tx ln p sg (nI 1) pl co va 99 hln htx hp (by first | assumption | omega) he) dX3_readAxis_30 [0, 1] [] 0 rfl rfl nd_0_1 rfl rfl rfl (by decide) (by decide) (Nat.le_of_ble_eq_true rfl) rfl rfl ?_
    refine z_bif_eq_f C 40 dX3_readAxis_33 (by decide) rfl ?_
    refine z_iconst C (nI 1) dX3_readAxis_36 (by decide) ?_
    refine z_goto C 41 dX3_readAxis_37 (by decide) ?_
    exact z_zret C N dX3_readAxis_41 rfl (rfl) (rfl)

set_option maxHeartbeats 4000000 in
set_option maxRecDepth 100000 in
theorem mX3_readAxis_n (E : zE) (h0 h1 : Nat) (tx : Nat → Nat) (ln p : Nat) (sg ax pl co va : Int32)  (hln : ln ≤ 60) (htx : ∀ j, tx j < 65536) (hp : p ≤ ln) (he : zHe tx ln p ≠ 114) (he2 : zHe tx ln p ≠ 99) : zM E yX3_readAxis wsX3_readAxis 2 [.ref h0] [(h0, .inr (3, [.ref h1, .int (nI ln), .int (nI p), .int sg, .int ax, .int pl, .int co, .int va])), (h1, .inl (E.2.2.2.1, 60, .inl (fun j9 => nI (tx j9))))] [(h0, .inr (3, [.ref h1, .int (nI ln), .int (nI p), .int sg, .int (nI 1), .int pl, .int co, .int va])), (h1, .inl (E.2.2.2.1, 60, .inl (fun j9 => nI (tx j9))))] (some (.int (zb false))) := by
  refine zM.of kX3_readAxis (Nat.le_of_ble_eq_true rfl) rfl [some (.ref h0)] rfl (Nat.le_of_ble_eq_true rfl) ?_
  intro X eX C N
  subst eX
  have hb8 := zHe_b (ln := ln) (p := p) htx
  refine z_aload_n C 0 dX3_readAxis_0 rfl rfl ?_
  refine z_aload_n C 0 dX3_readAxis_1 rfl rfl ?_
  refine z_callVr C kX3_here gX3_readAxis_X3_here (mX3_here X.2.1 h0 h1 tx ln p sg ax pl co va hln htx hp) dX3_readAxis_2 [0, 1] [.ref h0] 0 rfl nd_0_1 rfl rfl rfl (by decide) (by decide) (Nat.le_of_ble_eq_true rfl) rfl ?_
  refine z_bipush C (nI 114) dX3_readAxis_5 (by decide) ?_
  refine z_ncmp_ne_t C 14 dX3_readAxis_7 (by decide) (by omega) (by omega) (by omega) ?_
  refine z_iconst C (nI 1) dX3_readAxis_14 (by decide) ?_
  refine z_put C fX3_readAxis_53 ftX3_4 0 dX3_readAxis_15 rfl rfl rfl (Nat.le_of_ble_eq_true rfl) ?_
  refine z_aload_n C 0 dX3_readAxis_18 rfl rfl ?_
  refine z_bipush C (nI 114) dX3_readAxis_19 (by decide) ?_
  refine z_callVr C kX3_pass gX3_readAxis_X3_pass (mX3_pass_n X.2.1 h0 h1 tx ln p sg (nI 1) pl co va 114 hln htx hp (by first | assumption | omega) he) dX3_readAxis_21 [0, 1] [] 0 rfl nd_0_1 rfl rfl rfl (by decide) (by decide) (Nat.le_of_ble_eq_true rfl) rfl ?_
  refine z_bif_ne_f C 36 dX3_readAxis_24 (by decide) rfl ?_
  refine z_aload_n C 0 dX3_readAxis_27 rfl rfl ?_
  refine z_bipush C (nI 99) dX3_readAxis_28 (by decide) ?_
  refine z_callVr C kX3_pass gX3_readAxis_X3_pass (mX3_pass_n X.2.1 h0 h1 tx ln p sg (nI 1) pl co va 99 hln htx hp (by first | assumption | omega) he2) dX3_readAxis_30 [0, 1] [] 0 rfl nd_0_1 rfl rfl rfl (by decide) (by decide) (Nat.le_of_ble_eq_true rfl) rfl ?_
  refine z_bif_eq_t C 40 dX3_readAxis_33 (by decide) rfl ?_
  refine z_iconst C (nI 0) dX3_readAxis_40 (by decide) ?_
  exact z_zret C N dX3_readAxis_41 rfl (rfl) (rfl)

theorem kX3_readNumber : zY yX3_readNumber wsX3_readNumber cX3_readNumber 4 (some .int) 1 := ⟨⟨_, rfl⟩, ⟨by decide +kernel, by decide +kernel, by decide +kernel⟩, by decide +kernel⟩
theorem fX3_readNumber_26 : zF wsX3_readNumber RX3 26 3 2 RX3 TX3 8 := ⟨by decide +kernel, rfl, by decide, by decide +kernel, rfl⟩
set_option maxHeartbeats 4000000 in
set_option maxRecDepth 100000 in
theorem mX3_readNumber (E : zE) (h0 h1 : Nat) (tx : Nat → Nat) (ln p : Nat) (sg ax pl co va : Int32) (m : Nat) (hln : ln ≤ 60) (htx : ∀ j, tx j < 65536) (hp : p ≤ ln) (hm : m ≤ 4) : zM E yX3_readNumber wsX3_readNumber 2 [.ref h0, .int (nI m)] [(h0, .inr (3, [.ref h1, .int (nI ln), .int (nI p), .int sg, .int ax, .int pl, .int co, .int va])), (h1, .inl (E.2.2.2.1, 60, .inl (fun j9 => nI (tx j9))))] [(h0, .inr (3, [.ref h1, .int (nI ln), .int (nI ((zRn tx ln m p).2)), .int sg, .int ax, .int pl, .int co, .int va])), (h1, .inl (E.2.2.2.1, 60, .inl (fun j9 => nI (tx j9))))] (some (.int ((zRn tx ln m p).1))) := by
  refine zM.of kX3_readNumber (Nat.le_of_ble_eq_true rfl) rfl [some (.ref h0), some (.int (nI m)), none, none] rfl (Nat.le_of_ble_eq_true rfl) ?_
  intro X eX C N
  subst eX
  have hb8 := zHe_b (ln := ln) (p := p) htx
  refine z_aload_n C 0 dX3_readNumber_0 rfl rfl ?_
  by_cases hd_1 : zDg (zHe tx ln p) = true
  · obtain ⟨hd1_2, hd2_3⟩ := zDg_t hd_1
    have hd3_4 : p + 1 ≤ ln := zHe_lt tx (by omega)
    refine z_callVr C kX3_here gX3_readNumber_X3_here (mX3_here X.2.1 h0 h1 tx ln p sg ax pl co va hln htx hp) dX3_readNumber_1 [0, 1] [] 0 rfl nd_0_1 rfl rfl rfl (by decide) (by decide) (Nat.le_of_ble_eq_true rfl) rfl ?_
    refine z_callS C kX3_isDigit gX3_readNumber_X3_isDigit (mX3_isDigit X.2.1 (zHe tx ln p) hb8) dX3_readNumber_4 [] rfl (by decide) (by decide) (Nat.le_of_ble_eq_true rfl) rfl ?_
    refine z_bif_ne_t C 13 dX3_readNumber_7 (by decide) hd_1 ?_
    refine z_aload_n C 0 dX3_readNumber_13 rfl rfl ?_
    refine z_bipush C (nI 48) dX3_readNumber_14 (by decide) ?_
    by_cases hc_5 : zHe tx ln p = 48
    · have hp9_6 : p + 1 ≤ ln := zHe_lt tx (by omega)
      refine z_callV (wn := [(h0, .inr (3, [.ref h1, .int (nI ln), .int (nI (p + 1)), .int sg, .int ax, .int pl, .int co, .int va])), (h1, .inl (X.2.1.2.2.2.1, 60, .inl (fun j9 => nI (tx j9))))]) C kX3_pass gX3_readNumber_X3_pass (mX3_pass_y X.2.1 h0 h1 tx ln p sg ax pl co va 48 hln htx hp (by first | assumption | omega) hc_5) dX3_readNumber_16 [0, 1] [] 0 rfl rfl nd_0_1 rfl rfl rfl (by decide) (by decide) (Nat.le_of_ble_eq_true rfl) rfl rfl ?_
      refine z_bif_eq_f C 24 dX3_readNumber_19 (by decide) rfl ?_
      refine z_iconst C (nI 0) dX3_readNumber_22 (by decide) ?_
      exact z_iret C N dX3_readNumber_23 (by rw [show zRn tx ln m p = (nI 0, p + 1) by simp [zRn_d, zDg48, hd_1, hc_5]] <;> rfl) (by rw [show zRn tx ln m p = (nI 0, p + 1) by simp [zRn_d, zDg48, hd_1, hc_5]])
    · have hb9_7 : zHe tx ln p < 65536 := zHe_b htx
      refine z_callVr C kX3_pass gX3_readNumber_X3_pass (mX3_pass_n X.2.1 h0 h1 tx ln p sg ax pl co va 48 hln htx hp (by first | assumption | omega) hc_5) dX3_readNumber_16 [0, 1] [] 0 rfl nd_0_1 rfl rfl rfl (by decide) (by decide) (Nat.le_of_ble_eq_true rfl) rfl ?_
      refine z_bif_eq_t C 24 dX3_readNumber_19 (by decide) rfl ?_
      refine z_iconst C (nI 0) dX3_readNumber_24 (by decide) ?_
      refine z_istore_n C 2 dX3_readNumber_25 rfl (Nat.le_of_ble_eq_true rfl) ?_
      refine z_iconst C (nI 0) dX3_readNumber_26 (by decide) ?_
      refine z_istore_n C 3 dX3_readNumber_27 rfl (Nat.le_of_ble_eq_true rfl) ?_
      have hL28 : ∀ (dd : Nat) (k : Nat) (v9 : Nat) (q9 : Nat), m - k = dd → (k ≤ m) → (zNL tx ln (m - k) q9 v9 = zNL tx ln m p 0) → (q9 ≤ ln) → zG X 0 0 [(h0, .inr (3, [.ref h1, .int (nI ln), .int (nI q9), .int sg, .int ax, .int pl, .int co, .int va])), (h1, .inl (X.2.1.2.2.2.1, 60, .inl (fun j9 => nI (tx j9))))] [some (.ref h0), some (.int (nI m)), some (.int (nI v9)), some (.int (nI k))] [] 28 := by
        intro dd
        induction dd using Nat.strongRecOn with
        | _ dd ih28 =>
        intro k v9 q9 hdd hk hv hq
        have hb9 := zHe_b (ln := ln) (p := q9) htx
        refine z_iload_n C 3 dX3_readNumber_28 rfl rfl ?_
        refine z_iload_n C 1 dX3_readNumber_29 rfl rfl ?_
        refine z_ncmp_ge C 72 dX3_readNumber_30 (by decide) (by omega) (by omega) (fun h_8 => ?_) (fun h_8 => ?_)
        · have hend : zNL tx ln (m - k) q9 v9 = (v9, q9) := by first | (rw [show m - k = 0 by omega]; rfl) | (rw [show m - k = (m - (k + 1)) + 1 by omega]; simp only [zNL]; rw [if_neg (by simp [hd_1, hc_5, h_8])])
          have hrn : zRn tx ln m p = (nI v9, q9) := by rw [zRn_d, if_pos (by assumption), if_neg (by omega), ← hv, hend]
          refine z_iload_n C 2 dX3_readNumber_72 rfl rfl ?_
          exact z_iret C N dX3_readNumber_73 (by rw [hrn] <;> rfl) (by rw [hrn])
        · refine z_aload_n C 0 dX3_readNumber_33 rfl rfl ?_
          by_cases hd_9 : zDg (zHe tx ln q9) = true
          · obtain ⟨hd1_10, hd2_11⟩ := zDg_t hd_9
            have hd3_12 : q9 + 1 ≤ ln := zHe_lt tx (by omega)
            refine z_callVr C kX3_here gX3_readNumber_X3_here (mX3_here X.2.1 h0 h1 tx ln q9 sg ax pl co va hln htx hq) dX3_readNumber_34 [0, 1] [] 0 rfl nd_0_1 rfl rfl rfl (by decide) (by decide) (Nat.le_of_ble_eq_true rfl) rfl ?_
            refine z_callS C kX3_isDigit gX3_readNumber_X3_isDigit (mX3_isDigit X.2.1 (zHe tx ln q9) hb9) dX3_readNumber_37 [] rfl (by decide) (by decide) (Nat.le_of_ble_eq_true rfl) rfl ?_
            refine z_bif_eq_f C 72 dX3_readNumber_40 (by decide) hd_9 ?_
            refine z_iload_n C 2 dX3_readNumber_43 rfl rfl ?_
            refine z_bipush C (nI 10) dX3_readNumber_44 (by decide) ?_
            refine z_imul C dX3_readNumber_46 ?_
            refine z_top (y := nI (10 * v9)) ((pk_mul _ _).trans (congrArg nI (Nat.mul_comm _ _))) ?_
            refine z_aload_n C 0 dX3_readNumber_47 rfl rfl ?_
            refine z_callVr C kX3_here gX3_readNumber_X3_here (mX3_here X.2.1 h0 h1 tx ln q9 sg ax pl co va hln htx hq) dX3_readNumber_48 [0, 1] [.int (nI (10 * v9))] 0 rfl nd_0_1 rfl rfl rfl (by decide) (by decide) (Nat.le_of_ble_eq_true rfl) rfl ?_
            refine z_bipush C (nI 48) dX3_readNumber_51 (by decide) ?_
            refine z_isub C dX3_readNumber_53 ?_
            refine z_top (y := nI ((zHe tx ln q9) - 48)) ((pk_sub (by omega)).trans (congrArg nI (by omega))) ?_
            refine z_iadd C dX3_readNumber_54 ?_
            refine z_top (y := nI ((10 * v9) + ((zHe tx ln q9) - 48))) (nI_add _ _) ?_
            refine z_istore_n C 2 dX3_readNumber_55 rfl (Nat.le_of_ble_eq_true rfl) ?_
            refine z_aload_n C 0 dX3_readNumber_56 rfl rfl ?_
            refine z_dup C dX3_readNumber_57 rfl ?_
            refine z_get C fX3_readNumber_26 0 dX3_readNumber_58 rfl rfl ?_
            refine z_iconst C (nI 1) dX3_readNumber_61 (by decide) ?_
            refine z_iadd C dX3_readNumber_62 ?_
            refine z_top (y := nI (q9 + 1)) (nI_add _ _) ?_
            refine z_put C fX3_readNumber_26 ftX3_2 0 dX3_readNumber_63 rfl rfl rfl (Nat.le_of_ble_eq_true rfl) ?_
            refine z_iinc C (nI (k + 1)) dX3_readNumber_66 rfl (zi_1 _) ?_
            refine z_goto C 28 dX3_readNumber_69 (by decide) ?_
            exact ih28 (m - (k + 1)) (by omega) (k + 1) ((10 * v9) + ((zHe tx ln q9) - 48)) (q9 + 1) rfl (by omega) (by rw [← hv, show m - k = (m - (k + 1)) + 1 by omega]; simp only [zNL]; rw [if_pos (by assumption)]) (by omega)
          · have hd_13 : zDg (zHe tx ln q9) = false := by simpa using hd_9
            refine z_callVr C kX3_here gX3_readNumber_X3_here (mX3_here X.2.1 h0 h1 tx ln q9 sg ax pl co va hln htx hq) dX3_readNumber_34 [0, 1] [] 0 rfl nd_0_1 rfl rfl rfl (by decide) (by decide) (Nat.le_of_ble_eq_true rfl) rfl ?_
            refine z_callS C kX3_isDigit gX3_readNumber_X3_isDigit (mX3_isDigit X.2.1 (zHe tx ln q9) hb9) dX3_readNumber_37 [] rfl (by decide) (by decide) (Nat.le_of_ble_eq_true rfl) rfl ?_
            refine z_bif_eq_t C 72 dX3_readNumber_40 (by decide) hd_13 ?_
            have hend : zNL tx ln (m - k) q9 v9 = (v9, q9) := by first | (rw [show m - k = 0 by omega]; rfl) | (rw [show m - k = (m - (k + 1)) + 1 by omega]; simp only [zNL]; rw [if_neg (by simp [hd_1, hc_5, h_8, hd_13])])
            have hrn : zRn tx ln m p = (nI v9, q9) := by rw [zRn_d, if_pos (by assumption), if_neg (by omega), ← hv, hend]
            refine z_iload_n C 2 dX3_readNumber_72 rfl rfl ?_
            exact z_iret C N dX3_readNumber_73 (by rw [hrn] <;> rfl) (by rw [hrn])
      exact hL28 _ 0 0 p rfl (by omega) (rfl) (by omega)
  · have hd_14 : zDg (zHe tx ln p) = false := by simpa using hd_1
    refine z_callVr C kX3_here gX3_readNumber_X3_here (mX3_here X.2.1 h0 h1 tx ln p sg ax pl co va hln htx hp) dX3_readNumber_1 [0, 1] [] 0 rfl nd_0_1 rfl rfl rfl (by decide) (by decide) (Nat.le_of_ble_eq_true rfl) rfl ?_
    refine z_callS C kX3_isDigit gX3_readNumber_X3_isDigit (mX3_isDigit X.2.1 (zHe tx ln p) hb8) dX3_readNumber_4 [] rfl (by decide) (by decide) (Nat.le_of_ble_eq_true rfl) rfl ?_
    refine z_bif_ne_f C 13 dX3_readNumber_7 (by decide) hd_14 ?_
    refine z_bipush C (-5) dX3_readNumber_10 (by decide) ?_
    exact z_iret C N dX3_readNumber_12 (by rw [show zRn tx ln m p = (-5, p) by simp [zRn_d, zDg48, hd_14]] <;> rfl) (by rw [show zRn tx ln m p = (-5, p) by simp [zRn_d, zDg48, hd_14]])

theorem kX3_readPlace : zY yX3_readPlace wsX3_readPlace cX3_readPlace 1 (some .boolean) 0 := ⟨⟨_, rfl⟩, ⟨by decide +kernel, by decide +kernel, by decide +kernel⟩, by decide +kernel⟩
theorem fX3_readPlace_60 : zF wsX3_readPlace RX3 60 3 5 RX3 TX3 8 := ⟨by decide +kernel, rfl, by decide, by decide +kernel, rfl⟩
theorem ftX3_5 : zFt 5 8 TX3 tyX3 false := ⟨tyX3_ok, nmX3, rfl⟩
set_option maxHeartbeats 4000000 in
set_option maxRecDepth 100000 in
theorem mX3_readPlace (E : zE) (h0 h1 : Nat) (tx : Nat → Nat) (ln p : Nat) (sg ax pl co va : Int32)  (hln : ln ≤ 60) (htx : ∀ j, tx j < 65536) (hp : p ≤ ln) : zM E yX3_readPlace wsX3_readPlace 3 [.ref h0] [(h0, .inr (3, [.ref h1, .int (nI ln), .int (nI p), .int sg, .int ax, .int pl, .int co, .int va])), (h1, .inl (E.2.2.2.1, 60, .inl (fun j9 => nI (tx j9))))] [(h0, .inr (3, [.ref h1, .int (nI ln), .int (nI ((zRn tx ln 2 p).2)), .int sg, .int ax, .int ((zRn tx ln 2 p).1), .int co, .int va])), (h1, .inl (E.2.2.2.1, 60, .inl (fun j9 => nI (tx j9))))] (some (.int (zb (!decide ((zRn tx ln 2 p).1 < 0))))) := by
  refine zM.of kX3_readPlace (Nat.le_of_ble_eq_true rfl) rfl [some (.ref h0)] rfl (Nat.le_of_ble_eq_true rfl) ?_
  intro X eX C N
  subst eX
  have hb8 := zHe_b (ln := ln) (p := p) htx
  refine z_aload_n C 0 dX3_readPlace_0 rfl rfl ?_
  refine z_aload_n C 0 dX3_readPlace_1 rfl rfl ?_
  refine z_iconst C (nI 2) dX3_readPlace_2 (by decide) ?_
  refine z_callV (wn := [(h0, .inr (3, [.ref h1, .int (nI ln), .int (nI ((zRn tx ln 2 p).2)), .int sg, .int ax, .int pl, .int co, .int va])), (h1, .inl (X.2.1.2.2.2.1, 60, .inl (fun j9 => nI (tx j9))))]) C kX3_readNumber gX3_readPlace_X3_readNumber (mX3_readNumber X.2.1 h0 h1 tx ln p sg ax pl co va 2 hln htx hp (by first | assumption | omega)) dX3_readPlace_3 [0, 1] [.ref h0] 0 rfl rfl nd_0_1 rfl rfl rfl (by decide) (by decide) (Nat.le_of_ble_eq_true rfl) rfl rfl ?_
  refine z_put C fX3_readPlace_60 ftX3_5 0 dX3_readPlace_6 rfl rfl rfl (Nat.le_of_ble_eq_true rfl) ?_
  refine z_aload_n C 0 dX3_readPlace_9 rfl rfl ?_
  refine z_get C fX3_readPlace_60 0 dX3_readPlace_10 rfl rfl ?_
  refine z_if_lt C 20 dX3_readPlace_13 (by decide) (fun h_1 => ?_) (fun h_1 => ?_)
  · refine z_iconst C (nI 0) dX3_readPlace_20 (by decide) ?_
    exact z_zret C N dX3_readPlace_21 rfl (rfl) (congrArg (fun x => some (Value.int x)) (zb_f (by simp [h_1])).symm)
  · refine z_iconst C (nI 1) dX3_readPlace_16 (by decide) ?_
    refine z_goto C 21 dX3_readPlace_17 (by decide) ?_
    exact z_zret C N dX3_readPlace_21 rfl (rfl) (congrArg (fun x => some (Value.int x)) (zb_t (by simp [Int32.not_lt.mp h_1, h_1])).symm)

theorem kX3_readColumn : zY yX3_readColumn wsX3_readColumn cX3_readColumn 1 (some .boolean) 0 := ⟨⟨_, rfl⟩, ⟨by decide +kernel, by decide +kernel, by decide +kernel⟩, by decide +kernel⟩
theorem fX3_readColumn_63 : zF wsX3_readColumn RX3 63 3 6 RX3 TX3 8 := ⟨by decide +kernel, rfl, by decide, by decide +kernel, rfl⟩
theorem ftX3_6 : zFt 6 8 TX3 tyX3 false := ⟨tyX3_ok, nmX3, rfl⟩
set_option maxHeartbeats 4000000 in
set_option maxRecDepth 100000 in
theorem mX3_readColumn (E : zE) (h0 h1 : Nat) (tx : Nat → Nat) (ln p : Nat) (sg ax pl co va : Int32)  (hln : ln ≤ 60) (htx : ∀ j, tx j < 65536) (hp : p ≤ ln) : zM E yX3_readColumn wsX3_readColumn 3 [.ref h0] [(h0, .inr (3, [.ref h1, .int (nI ln), .int (nI p), .int sg, .int ax, .int pl, .int co, .int va])), (h1, .inl (E.2.2.2.1, 60, .inl (fun j9 => nI (tx j9))))] [(h0, .inr (3, [.ref h1, .int (nI ln), .int (nI ((zRn tx ln 2 p).2)), .int sg, .int ax, .int pl, .int ((zRn tx ln 2 p).1), .int va])), (h1, .inl (E.2.2.2.1, 60, .inl (fun j9 => nI (tx j9))))] (some (.int (zb (!decide ((zRn tx ln 2 p).1 < 0))))) := by
  refine zM.of kX3_readColumn (Nat.le_of_ble_eq_true rfl) rfl [some (.ref h0)] rfl (Nat.le_of_ble_eq_true rfl) ?_
  intro X eX C N
  subst eX
  have hb8 := zHe_b (ln := ln) (p := p) htx
  refine z_aload_n C 0 dX3_readColumn_0 rfl rfl ?_
  refine z_aload_n C 0 dX3_readColumn_1 rfl rfl ?_
  refine z_iconst C (nI 2) dX3_readColumn_2 (by decide) ?_
  refine z_callV (wn := [(h0, .inr (3, [.ref h1, .int (nI ln), .int (nI ((zRn tx ln 2 p).2)), .int sg, .int ax, .int pl, .int co, .int va])), (h1, .inl (X.2.1.2.2.2.1, 60, .inl (fun j9 => nI (tx j9))))]) C kX3_readNumber gX3_readColumn_X3_readNumber (mX3_readNumber X.2.1 h0 h1 tx ln p sg ax pl co va 2 hln htx hp (by first | assumption | omega)) dX3_readColumn_3 [0, 1] [.ref h0] 0 rfl rfl nd_0_1 rfl rfl rfl (by decide) (by decide) (Nat.le_of_ble_eq_true rfl) rfl rfl ?_
  refine z_put C fX3_readColumn_63 ftX3_6 0 dX3_readColumn_6 rfl rfl rfl (Nat.le_of_ble_eq_true rfl) ?_
  refine z_aload_n C 0 dX3_readColumn_9 rfl rfl ?_
  refine z_get C fX3_readColumn_63 0 dX3_readColumn_10 rfl rfl ?_
  refine z_if_lt C 20 dX3_readColumn_13 (by decide) (fun h_1 => ?_) (fun h_1 => ?_)
  · refine z_iconst C (nI 0) dX3_readColumn_20 (by decide) ?_
    exact z_zret C N dX3_readColumn_21 rfl (rfl) (congrArg (fun x => some (Value.int x)) (zb_f (by simp [h_1])).symm)
  · refine z_iconst C (nI 1) dX3_readColumn_16 (by decide) ?_
    refine z_goto C 21 dX3_readColumn_17 (by decide) ?_
    exact z_zret C N dX3_readColumn_21 rfl (rfl) (congrArg (fun x => some (Value.int x)) (zb_t (by simp [Int32.not_lt.mp h_1, h_1])).symm)

theorem kX3_readValue : zY yX3_readValue wsX3_readValue cX3_readValue 1 (some .boolean) 0 := ⟨⟨_, rfl⟩, ⟨by decide +kernel, by decide +kernel, by decide +kernel⟩, by decide +kernel⟩
theorem fX3_readValue_66 : zF wsX3_readValue RX3 66 3 7 RX3 TX3 8 := ⟨by decide +kernel, rfl, by decide, by decide +kernel, rfl⟩
theorem ftX3_7 : zFt 7 8 TX3 tyX3 false := ⟨tyX3_ok, nmX3, rfl⟩
set_option maxHeartbeats 4000000 in
set_option maxRecDepth 100000 in
theorem mX3_readValue (E : zE) (h0 h1 : Nat) (tx : Nat → Nat) (ln p : Nat) (sg ax pl co va : Int32)  (hln : ln ≤ 60) (htx : ∀ j, tx j < 65536) (hp : p ≤ ln) : zM E yX3_readValue wsX3_readValue 3 [.ref h0] [(h0, .inr (3, [.ref h1, .int (nI ln), .int (nI p), .int sg, .int ax, .int pl, .int co, .int va])), (h1, .inl (E.2.2.2.1, 60, .inl (fun j9 => nI (tx j9))))] [(h0, .inr (3, [.ref h1, .int (nI ln), .int (nI ((zRn tx ln 4 p).2)), .int sg, .int ax, .int pl, .int co, .int ((zRn tx ln 4 p).1)])), (h1, .inl (E.2.2.2.1, 60, .inl (fun j9 => nI (tx j9))))] (some (.int (zb (!decide ((zRn tx ln 4 p).1 < 0))))) := by
  refine zM.of kX3_readValue (Nat.le_of_ble_eq_true rfl) rfl [some (.ref h0)] rfl (Nat.le_of_ble_eq_true rfl) ?_
  intro X eX C N
  subst eX
  have hb8 := zHe_b (ln := ln) (p := p) htx
  refine z_aload_n C 0 dX3_readValue_0 rfl rfl ?_
  refine z_aload_n C 0 dX3_readValue_1 rfl rfl ?_
  refine z_iconst C (nI 4) dX3_readValue_2 (by decide) ?_
  refine z_callV (wn := [(h0, .inr (3, [.ref h1, .int (nI ln), .int (nI ((zRn tx ln 4 p).2)), .int sg, .int ax, .int pl, .int co, .int va])), (h1, .inl (X.2.1.2.2.2.1, 60, .inl (fun j9 => nI (tx j9))))]) C kX3_readNumber gX3_readValue_X3_readNumber (mX3_readNumber X.2.1 h0 h1 tx ln p sg ax pl co va 4 hln htx hp (by first | assumption | omega)) dX3_readValue_3 [0, 1] [.ref h0] 0 rfl rfl nd_0_1 rfl rfl rfl (by decide) (by decide) (Nat.le_of_ble_eq_true rfl) rfl rfl ?_
  refine z_put C fX3_readValue_66 ftX3_7 0 dX3_readValue_6 rfl rfl rfl (Nat.le_of_ble_eq_true rfl) ?_
  refine z_aload_n C 0 dX3_readValue_9 rfl rfl ?_
  refine z_get C fX3_readValue_66 0 dX3_readValue_10 rfl rfl ?_
  refine z_if_lt C 20 dX3_readValue_13 (by decide) (fun h_1 => ?_) (fun h_1 => ?_)
  · refine z_iconst C (nI 0) dX3_readValue_20 (by decide) ?_
    exact z_zret C N dX3_readValue_21 rfl (rfl) (congrArg (fun x => some (Value.int x)) (zb_f (by simp [h_1])).symm)
  · refine z_iconst C (nI 1) dX3_readValue_16 (by decide) ?_
    refine z_goto C 21 dX3_readValue_17 (by decide) ?_
    exact z_zret C N dX3_readValue_21 rfl (rfl) (congrArg (fun x => some (Value.int x)) (zb_t (by simp [Int32.not_lt.mp h_1, h_1])).symm)

theorem kX3_nextOrder : zY yX3_nextOrder wsX3_nextOrder cX3_nextOrder 1 (some .boolean) 0 := ⟨⟨_, rfl⟩, ⟨by decide +kernel, by decide +kernel, by decide +kernel⟩, by decide +kernel⟩
theorem fX3_nextOrder_26 : zF wsX3_nextOrder RX3 26 3 2 RX3 TX3 8 := ⟨by decide +kernel, rfl, by decide, by decide +kernel, rfl⟩
theorem fX3_nextOrder_37 : zF wsX3_nextOrder RX3 37 3 3 RX3 TX3 8 := ⟨by decide +kernel, rfl, by decide, by decide +kernel, rfl⟩
theorem ftX3_3 : zFt 3 8 TX3 tyX3 false := ⟨tyX3_ok, nmX3, rfl⟩
set_option maxHeartbeats 4000000 in
set_option maxRecDepth 100000 in
theorem mX3_nextOrder (E : zE) (h0 h1 : Nat) (tx : Nat → Nat) (ln : Nat) (s : zPs) (hln : ln ≤ 60) (htx : ∀ j, tx j < 65536) (hp : oP s ≤ ln) : zM E yX3_nextOrder wsX3_nextOrder 4 [.ref h0] [(h0, .inr (3, [.ref h1, .int (nI ln), .int (nI (oP s)), .int (oS s), .int (oA s), .int (oL s), .int (oC s), .int (oV s)])), (h1, .inl (E.2.2.2.1, 60, .inl (fun j9 => nI (tx j9))))] [(h0, .inr (3, [.ref h1, .int (nI ln), .int (nI (oP ((zNx tx ln s).2))), .int (oS ((zNx tx ln s).2)), .int (oA ((zNx tx ln s).2)), .int (oL ((zNx tx ln s).2)), .int (oC ((zNx tx ln s).2)), .int (oV ((zNx tx ln s).2))])), (h1, .inl (E.2.2.2.1, 60, .inl (fun j9 => nI (tx j9))))] (some (.int (zb ((zNx tx ln s).1)))) := by
  refine zM.of kX3_nextOrder (Nat.le_of_ble_eq_true rfl) rfl [some (.ref h0)] rfl (Nat.le_of_ble_eq_true rfl) ?_
  intro X eX C N
  subst eX
  refine z_aload_n C 0 dX3_nextOrder_0 rfl rfl ?_
  refine z_get C fX3_nextOrder_26 0 dX3_nextOrder_1 rfl rfl ?_
  refine z_nif_le C 18 dX3_nextOrder_4 (by decide) (by omega) (fun h_1 => ?_) (fun h_1 => ?_)
  · refine z_aload_n C 0 dX3_nextOrder_18 rfl rfl ?_
    refine z_aload_n C 0 dX3_nextOrder_19 rfl rfl ?_
    refine z_callVr C kX3_here gX3_nextOrder_X3_here (mX3_here X.2.1 h0 h1 tx ln (oP s) (oS s) (oA s) (oL s) (oC s) (oV s) hln htx hp) dX3_nextOrder_20 [0, 1] [.ref h0] 0 rfl nd_0_1 rfl rfl rfl (by decide) (by decide) (Nat.le_of_ble_eq_true rfl) rfl ?_
    refine z_put C fX3_nextOrder_37 ftX3_3 0 dX3_nextOrder_23 rfl (pk_charN (zHe_b htx)).1 (pk_charN (zHe_b htx)).2 (Nat.le_of_ble_eq_true rfl) ?_
    refine z_aload_n C 0 dX3_nextOrder_26 rfl rfl ?_
    refine z_bipush C (nI 43) dX3_nextOrder_27 (by decide) ?_
    by_cases hc_2 : zHe tx ln (oP s) = 43
    · have hp9_3 : oP s + 1 ≤ ln := zHe_lt tx (by omega)
      refine z_callV (wn := [(h0, .inr (3, [.ref h1, .int (nI ln), .int (nI ((oP s) + 1)), .int (nI (zHe tx ln (oP s))), .int (oA s), .int (oL s), .int (oC s), .int (oV s)])), (h1, .inl (X.2.1.2.2.2.1, 60, .inl (fun j9 => nI (tx j9))))]) C kX3_pass gX3_nextOrder_X3_pass (mX3_pass_y X.2.1 h0 h1 tx ln (oP s) (nI (zHe tx ln (oP s))) (oA s) (oL s) (oC s) (oV s) 43 hln htx hp (by first | assumption | omega) hc_2) dX3_nextOrder_29 [0, 1] [] 0 rfl rfl nd_0_1 rfl rfl rfl (by decide) (by decide) (Nat.le_of_ble_eq_true rfl) rfl rfl ?_
      refine z_bif_ne_t C 44 dX3_nextOrder_32 (by decide) rfl ?_
      refine z_aload_n C 0 dX3_nextOrder_44 rfl rfl ?_
      rcases (show zHe tx ln ((oP s) + 1) = 114 ∨ zHe tx ln ((oP s) + 1) = 99 ∨ (zHe tx ln ((oP s) + 1) ≠ 114 ∧ zHe tx ln ((oP s) + 1) ≠ 99) by omega) with ha9 | ha9 | ⟨ha9, hb9⟩
      · have hx9 : (oP s) + 1 + 1 ≤ ln := zHe_lt tx (p := (oP s) + 1) (by rw [ha9]; decide)
        refine z_callV (wn := [(h0, .inr (3, [.ref h1, .int (nI ln), .int (nI (((oP s) + 1) + 1)), .int (nI (zHe tx ln (oP s))), .int (nI 0), .int (oL s), .int (oC s), .int (oV s)])), (h1, .inl (X.2.1.2.2.2.1, 60, .inl (fun j9 => nI (tx j9))))]) C kX3_readAxis gX3_nextOrder_X3_readAxis (mX3_readAxis_r X.2.1 h0 h1 tx ln ((oP s) + 1) (nI (zHe tx ln (oP s))) (oA s) (oL s) (oC s) (oV s) hln htx hp9_3 ha9) dX3_nextOrder_45 [0, 1] [] 0 rfl rfl nd_0_1 rfl rfl rfl (by decide) (by decide) (Nat.le_of_ble_eq_true rfl) rfl rfl ?_
        refine z_bif_eq_f C 62 dX3_nextOrder_48 (by decide) rfl ?_
        refine z_aload_n C 0 dX3_nextOrder_51 rfl rfl ?_
        refine z_callV (wn := [(h0, .inr (3, [.ref h1, .int (nI ln), .int (nI ((zRn tx ln 2 (((oP s) + 1) + 1)).2)), .int (nI (zHe tx ln (oP s))), .int (nI 0), .int ((zRn tx ln 2 (((oP s) + 1) + 1)).1), .int (oC s), .int (oV s)])), (h1, .inl (X.2.1.2.2.2.1, 60, .inl (fun j9 => nI (tx j9))))]) C kX3_readPlace gX3_nextOrder_X3_readPlace (mX3_readPlace X.2.1 h0 h1 tx ln (((oP s) + 1) + 1) (nI (zHe tx ln (oP s))) (nI 0) (oL s) (oC s) (oV s) hln htx hx9) dX3_nextOrder_52 [0, 1] [] 0 rfl rfl nd_0_1 rfl rfl rfl (by decide) (by decide) (Nat.le_of_ble_eq_true rfl) rfl rfl ?_
        have hr_4 : (zRn tx ln 2 (((oP s) + 1) + 1)).2 ≤ ln := zRn_le (by omega)
        refine z_bif_eq C 62 dX3_nextOrder_55 (by decide) (fun h_5 => ?_) (fun h_5 => ?_)
        · have h_5n : ((zRn tx ln 2 (((oP s) + 1) + 1)).1 < 0) := by simpa using h_5
          refine z_iconst C (nI 0) dX3_nextOrder_62 (by decide) ?_
          exact z_zret C N dX3_nextOrder_63 rfl (by rw [(zNx_0 (by omega)).trans (zNo_r (by omega) (by first | assumption | omega) (zb9_f (by assumption)))] <;> rfl) (by rw [(zNx_0 (by omega)).trans (zNo_r (by omega) (by first | assumption | omega) (zb9_f (by assumption)))] <;> rfl)
        · have h_5n : ¬ ((zRn tx ln 2 (((oP s) + 1) + 1)).1 < 0) := by simpa using h_5
          refine z_iconst C (nI 1) dX3_nextOrder_58 (by decide) ?_
          refine z_goto C 63 dX3_nextOrder_59 (by decide) ?_
          exact z_zret C N dX3_nextOrder_63 rfl (by rw [(zNx_0 (by omega)).trans (zNo_r (by omega) (by first | assumption | omega) (zb9_t (by assumption)))] <;> rfl) (by rw [(zNx_0 (by omega)).trans (zNo_r (by omega) (by first | assumption | omega) (zb9_t (by assumption)))] <;> rfl)
      · have hx9 : (oP s) + 1 + 1 ≤ ln := zHe_lt tx (p := (oP s) + 1) (by rw [ha9]; decide)
        refine z_callV (wn := [(h0, .inr (3, [.ref h1, .int (nI ln), .int (nI (((oP s) + 1) + 1)), .int (nI (zHe tx ln (oP s))), .int (nI 1), .int (oL s), .int (oC s), .int (oV s)])), (h1, .inl (X.2.1.2.2.2.1, 60, .inl (fun j9 => nI (tx j9))))]) C kX3_readAxis gX3_nextOrder_X3_readAxis (mX3_readAxis_c X.2.1 h0 h1 tx ln ((oP s) + 1) (nI (zHe tx ln (oP s))) (oA s) (oL s) (oC s) (oV s) hln htx hp9_3 ha9) dX3_nextOrder_45 [0, 1] [] 0 rfl rfl nd_0_1 rfl rfl rfl (by decide) (by decide) (Nat.le_of_ble_eq_true rfl) rfl rfl ?_
        refine z_bif_eq_f C 62 dX3_nextOrder_48 (by decide) rfl ?_
        refine z_aload_n C 0 dX3_nextOrder_51 rfl rfl ?_
        refine z_callV (wn := [(h0, .inr (3, [.ref h1, .int (nI ln), .int (nI ((zRn tx ln 2 (((oP s) + 1) + 1)).2)), .int (nI (zHe tx ln (oP s))), .int (nI 1), .int ((zRn tx ln 2 (((oP s) + 1) + 1)).1), .int (oC s), .int (oV s)])), (h1, .inl (X.2.1.2.2.2.1, 60, .inl (fun j9 => nI (tx j9))))]) C kX3_readPlace gX3_nextOrder_X3_readPlace (mX3_readPlace X.2.1 h0 h1 tx ln (((oP s) + 1) + 1) (nI (zHe tx ln (oP s))) (nI 1) (oL s) (oC s) (oV s) hln htx hx9) dX3_nextOrder_52 [0, 1] [] 0 rfl rfl nd_0_1 rfl rfl rfl (by decide) (by decide) (Nat.le_of_ble_eq_true rfl) rfl rfl ?_
        have hr_6 : (zRn tx ln 2 (((oP s) + 1) + 1)).2 ≤ ln := zRn_le (by omega)
        refine z_bif_eq C 62 dX3_nextOrder_55 (by decide) (fun h_7 => ?_) (fun h_7 => ?_)
        · have h_7n : ((zRn tx ln 2 (((oP s) + 1) + 1)).1 < 0) := by simpa using h_7
          refine z_iconst C (nI 0) dX3_nextOrder_62 (by decide) ?_
          exact z_zret C N dX3_nextOrder_63 rfl (by rw [(zNx_0 (by omega)).trans (zNo_c (by omega) (by first | assumption | omega) (zb9_f (by assumption)))] <;> rfl) (by rw [(zNx_0 (by omega)).trans (zNo_c (by omega) (by first | assumption | omega) (zb9_f (by assumption)))] <;> rfl)
        · have h_7n : ¬ ((zRn tx ln 2 (((oP s) + 1) + 1)).1 < 0) := by simpa using h_7
          refine z_iconst C (nI 1) dX3_nextOrder_58 (by decide) ?_
          refine z_goto C 63 dX3_nextOrder_59 (by decide) ?_
          exact z_zret C N dX3_nextOrder_63 rfl (by rw [(zNx_0 (by omega)).trans (zNo_c (by omega) (by first | assumption | omega) (zb9_t (by assumption)))] <;> rfl) (by rw [(zNx_0 (by omega)).trans (zNo_c (by omega) (by first | assumption | omega) (zb9_t (by assumption)))] <;> rfl)
      · refine z_callV (wn := [(h0, .inr (3, [.ref h1, .int (nI ln), .int (nI ((oP s) + 1)), .int (nI (zHe tx ln (oP s))), .int (nI 1), .int (oL s), .int (oC s), .int (oV s)])), (h1, .inl (X.2.1.2.2.2.1, 60, .inl (fun j9 => nI (tx j9))))]) C kX3_readAxis gX3_nextOrder_X3_readAxis (mX3_readAxis_n X.2.1 h0 h1 tx ln ((oP s) + 1) (nI (zHe tx ln (oP s))) (oA s) (oL s) (oC s) (oV s) hln htx hp9_3 ha9 hb9) dX3_nextOrder_45 [0, 1] [] 0 rfl rfl nd_0_1 rfl rfl rfl (by decide) (by decide) (Nat.le_of_ble_eq_true rfl) rfl rfl ?_
        refine z_bif_eq_t C 62 dX3_nextOrder_48 (by decide) rfl ?_
        refine z_iconst C (nI 0) dX3_nextOrder_62 (by decide) ?_
        exact z_zret C N dX3_nextOrder_63 rfl (by rw [(zNx_0 (by omega)).trans (zNo_n (by omega) (by first | assumption | omega) (by first | assumption | omega))] <;> rfl) (by rw [(zNx_0 (by omega)).trans (zNo_n (by omega) (by first | assumption | omega) (by first | assumption | omega))] <;> rfl)
    · have hb9_8 : zHe tx ln (oP s) < 65536 := zHe_b htx
      refine z_callVr C kX3_pass gX3_nextOrder_X3_pass (mX3_pass_n X.2.1 h0 h1 tx ln (oP s) (nI (zHe tx ln (oP s))) (oA s) (oL s) (oC s) (oV s) 43 hln htx hp (by first | assumption | omega) hc_2) dX3_nextOrder_29 [0, 1] [] 0 rfl nd_0_1 rfl rfl rfl (by decide) (by decide) (Nat.le_of_ble_eq_true rfl) rfl ?_
      refine z_bif_ne_f C 44 dX3_nextOrder_32 (by decide) rfl ?_
      refine z_aload_n C 0 dX3_nextOrder_35 rfl rfl ?_
      refine z_bipush C (nI 45) dX3_nextOrder_36 (by decide) ?_
      by_cases hc_9 : zHe tx ln (oP s) = 45
      · have hp9_10 : oP s + 1 ≤ ln := zHe_lt tx (by omega)
        refine z_callV (wn := [(h0, .inr (3, [.ref h1, .int (nI ln), .int (nI ((oP s) + 1)), .int (nI (zHe tx ln (oP s))), .int (oA s), .int (oL s), .int (oC s), .int (oV s)])), (h1, .inl (X.2.1.2.2.2.1, 60, .inl (fun j9 => nI (tx j9))))]) C kX3_pass gX3_nextOrder_X3_pass (mX3_pass_y X.2.1 h0 h1 tx ln (oP s) (nI (zHe tx ln (oP s))) (oA s) (oL s) (oC s) (oV s) 45 hln htx hp (by first | assumption | omega) hc_9) dX3_nextOrder_38 [0, 1] [] 0 rfl rfl nd_0_1 rfl rfl rfl (by decide) (by decide) (Nat.le_of_ble_eq_true rfl) rfl rfl ?_
        refine z_bif_eq_f C 64 dX3_nextOrder_41 (by decide) rfl ?_
        refine z_aload_n C 0 dX3_nextOrder_44 rfl rfl ?_
        rcases (show zHe tx ln ((oP s) + 1) = 114 ∨ zHe tx ln ((oP s) + 1) = 99 ∨ (zHe tx ln ((oP s) + 1) ≠ 114 ∧ zHe tx ln ((oP s) + 1) ≠ 99) by omega) with ha9 | ha9 | ⟨ha9, hb9⟩
        · have hx9 : (oP s) + 1 + 1 ≤ ln := zHe_lt tx (p := (oP s) + 1) (by rw [ha9]; decide)
          refine z_callV (wn := [(h0, .inr (3, [.ref h1, .int (nI ln), .int (nI (((oP s) + 1) + 1)), .int (nI (zHe tx ln (oP s))), .int (nI 0), .int (oL s), .int (oC s), .int (oV s)])), (h1, .inl (X.2.1.2.2.2.1, 60, .inl (fun j9 => nI (tx j9))))]) C kX3_readAxis gX3_nextOrder_X3_readAxis (mX3_readAxis_r X.2.1 h0 h1 tx ln ((oP s) + 1) (nI (zHe tx ln (oP s))) (oA s) (oL s) (oC s) (oV s) hln htx hp9_10 ha9) dX3_nextOrder_45 [0, 1] [] 0 rfl rfl nd_0_1 rfl rfl rfl (by decide) (by decide) (Nat.le_of_ble_eq_true rfl) rfl rfl ?_
          refine z_bif_eq_f C 62 dX3_nextOrder_48 (by decide) rfl ?_
          refine z_aload_n C 0 dX3_nextOrder_51 rfl rfl ?_
          refine z_callV (wn := [(h0, .inr (3, [.ref h1, .int (nI ln), .int (nI ((zRn tx ln 2 (((oP s) + 1) + 1)).2)), .int (nI (zHe tx ln (oP s))), .int (nI 0), .int ((zRn tx ln 2 (((oP s) + 1) + 1)).1), .int (oC s), .int (oV s)])), (h1, .inl (X.2.1.2.2.2.1, 60, .inl (fun j9 => nI (tx j9))))]) C kX3_readPlace gX3_nextOrder_X3_readPlace (mX3_readPlace X.2.1 h0 h1 tx ln (((oP s) + 1) + 1) (nI (zHe tx ln (oP s))) (nI 0) (oL s) (oC s) (oV s) hln htx hx9) dX3_nextOrder_52 [0, 1] [] 0 rfl rfl nd_0_1 rfl rfl rfl (by decide) (by decide) (Nat.le_of_ble_eq_true rfl) rfl rfl ?_
          have hr_11 : (zRn tx ln 2 (((oP s) + 1) + 1)).2 ≤ ln := zRn_le (by omega)
          refine z_bif_eq C 62 dX3_nextOrder_55 (by decide) (fun h_12 => ?_) (fun h_12 => ?_)
          · have h_12n : ((zRn tx ln 2 (((oP s) + 1) + 1)).1 < 0) := by simpa using h_12
            refine z_iconst C (nI 0) dX3_nextOrder_62 (by decide) ?_
            exact z_zret C N dX3_nextOrder_63 rfl (by rw [(zNx_0 (by omega)).trans (zNo_r (by omega) (by first | assumption | omega) (zb9_f (by assumption)))] <;> rfl) (by rw [(zNx_0 (by omega)).trans (zNo_r (by omega) (by first | assumption | omega) (zb9_f (by assumption)))] <;> rfl)
          · have h_12n : ¬ ((zRn tx ln 2 (((oP s) + 1) + 1)).1 < 0) := by simpa using h_12
            refine z_iconst C (nI 1) dX3_nextOrder_58 (by decide) ?_
            refine z_goto C 63 dX3_nextOrder_59 (by decide) ?_
            exact z_zret C N dX3_nextOrder_63 rfl (by rw [(zNx_0 (by omega)).trans (zNo_r (by omega) (by first | assumption | omega) (zb9_t (by assumption)))] <;> rfl) (by rw [(zNx_0 (by omega)).trans (zNo_r (by omega) (by first | assumption | omega) (zb9_t (by assumption)))] <;> rfl)
        · have hx9 : (oP s) + 1 + 1 ≤ ln := zHe_lt tx (p := (oP s) + 1) (by rw [ha9]; decide)
          refine z_callV (wn := [(h0, .inr (3, [.ref h1, .int (nI ln), .int (nI (((oP s) + 1) + 1)), .int (nI (zHe tx ln (oP s))), .int (nI 1), .int (oL s), .int (oC s), .int (oV s)])), (h1, .inl (X.2.1.2.2.2.1, 60, .inl (fun j9 => nI (tx j9))))]) C kX3_readAxis gX3_nextOrder_X3_readAxis (mX3_readAxis_c X.2.1 h0 h1 tx ln ((oP s) + 1) (nI (zHe tx ln (oP s))) (oA s) (oL s) (oC s) (oV s) hln htx hp9_10 ha9) dX3_nextOrder_45 [0, 1] [] 0 rfl rfl nd_0_1 rfl rfl rfl (by decide) (by decide) (Nat.le_of_ble_eq_true rfl) rfl rfl ?_
          refine z_bif_eq_f C 62 dX3_nextOrder_48 (by decide) rfl ?_
          refine z_aload_n C 0 dX3_nextOrder_51 rfl rfl ?_
          refine z_callV (wn := [(h0, .inr (3, [.ref h1, .int (nI ln), .int (nI ((zRn tx ln 2 (((oP s) + 1) + 1)).2)), .int (nI (zHe tx ln (oP s))), .int (nI 1), .int ((zRn tx ln 2 (((oP s) + 1) + 1)).1), .int (oC s), .int (oV s)])), (h1, .inl (X.2.1.2.2.2.1, 60, .inl (fun j9 => nI (tx j9))))]) C kX3_readPlace gX3_nextOrder_X3_readPlace (mX3_readPlace X.2.1 h0 h1 tx ln (((oP s) + 1) + 1) (nI (zHe tx ln (oP s))) (nI 1) (oL s) (oC s) (oV s) hln htx hx9) dX3_nextOrder_52 [0, 1] [] 0 rfl rfl nd_0_1 rfl rfl rfl (by decide) (by decide) (Nat.le_of_ble_eq_true rfl) rfl rfl ?_
          have hr_13 : (zRn tx ln 2 (((oP s) + 1) + 1)).2 ≤ ln := zRn_le (by omega)
          refine z_bif_eq C 62 dX3_nextOrder_55 (by decide) (fun h_14 => ?_) (fun h_14 => ?_)
          · have h_14n : ((zRn tx ln 2 (((oP s) + 1) + 1)).1 < 0) := by simpa using h_14
            refine z_iconst C (nI 0) dX3_nextOrder_62 (by decide) ?_
            exact z_zret C N dX3_nextOrder_63 rfl (by rw [(zNx_0 (by omega)).trans (zNo_c (by omega) (by first | assumption | omega) (zb9_f (by assumption)))] <;> rfl) (by rw [(zNx_0 (by omega)).trans (zNo_c (by omega) (by first | assumption | omega) (zb9_f (by assumption)))] <;> rfl)
          · have h_14n : ¬ ((zRn tx ln 2 (((oP s) + 1) + 1)).1 < 0) := by simpa using h_14
            refine z_iconst C (nI 1) dX3_nextOrder_58 (by decide) ?_
            refine z_goto C 63 dX3_nextOrder_59 (by decide) ?_
            exact z_zret C N dX3_nextOrder_63 rfl (by rw [(zNx_0 (by omega)).trans (zNo_c (by omega) (by first | assumption | omega) (zb9_t (by assumption)))] <;> rfl) (by rw [(zNx_0 (by omega)).trans (zNo_c (by omega) (by first | assumption | omega) (zb9_t (by assumption)))] <;> rfl)
        · refine z_callV (wn := [(h0, .inr (3, [.ref h1, .int (nI ln), .int (nI ((oP s) + 1)), .int (nI (zHe tx ln (oP s))), .int (nI 1), .int (oL s), .int (oC s), .int (oV s)])), (h1, .inl (X.2.1.2.2.2.1, 60, .inl (fun j9 => nI (tx j9))))]) C kX3_readAxis gX3_nextOrder_X3_readAxis (mX3_readAxis_n X.2.1 h0 h1 tx ln ((oP s) + 1) (nI (zHe tx ln (oP s))) (oA s) (oL s) (oC s) (oV s) hln htx hp9_10 ha9 hb9) dX3_nextOrder_45 [0, 1] [] 0 rfl rfl nd_0_1 rfl rfl rfl (by decide) (by decide) (Nat.le_of_ble_eq_true rfl) rfl rfl ?_
          refine z_bif_eq_t C 62 dX3_nextOrder_48 (by decide) rfl ?_
          refine z_iconst C (nI 0) dX3_nextOrder_62 (by decide) ?_
          exact z_zret C N dX3_nextOrder_63 rfl (by rw [(zNx_0 (by omega)).trans (zNo_n (by omega) (by first | assumption | omega) (by first | assumption | omega))] <;> rfl) (by rw [(zNx_0 (by omega)).trans (zNo_n (by omega) (by first | assumption | omega) (by first | assumption | omega))] <;> rfl)
      · have hb9_15 : zHe tx ln (oP s) < 65536 := zHe_b htx
        refine z_callVr C kX3_pass gX3_nextOrder_X3_pass (mX3_pass_n X.2.1 h0 h1 tx ln (oP s) (nI (zHe tx ln (oP s))) (oA s) (oL s) (oC s) (oV s) 45 hln htx hp (by first | assumption | omega) hc_9) dX3_nextOrder_38 [0, 1] [] 0 rfl nd_0_1 rfl rfl rfl (by decide) (by decide) (Nat.le_of_ble_eq_true rfl) rfl ?_
        refine z_bif_eq_t C 64 dX3_nextOrder_41 (by decide) rfl ?_
        refine z_aload_n C 0 dX3_nextOrder_64 rfl rfl ?_
        refine z_callV (wn := [(h0, .inr (3, [.ref h1, .int (nI ln), .int (nI ((zRn tx ln 2 (oP s)).2)), .int (nI (zHe tx ln (oP s))), .int (oA s), .int ((zRn tx ln 2 (oP s)).1), .int (oC s), .int (oV s)])), (h1, .inl (X.2.1.2.2.2.1, 60, .inl (fun j9 => nI (tx j9))))]) C kX3_readPlace gX3_nextOrder_X3_readPlace (mX3_readPlace X.2.1 h0 h1 tx ln (oP s) (nI (zHe tx ln (oP s))) (oA s) (oL s) (oC s) (oV s) hln htx hp) dX3_nextOrder_65 [0, 1] [] 0 rfl rfl nd_0_1 rfl rfl rfl (by decide) (by decide) (Nat.le_of_ble_eq_true rfl) rfl rfl ?_
        have hr_16 : (zRn tx ln 2 (oP s)).2 ≤ ln := zRn_le (by omega)
        refine z_bif_eq C 107 dX3_nextOrder_68 (by decide) (fun h_17 => ?_) (fun h_17 => ?_)
        · have h_17n : ((zRn tx ln 2 (oP s)).1 < 0) := by simpa using h_17
          refine z_iconst C (nI 0) dX3_nextOrder_107 (by decide) ?_
          exact z_zret C N dX3_nextOrder_108 rfl (by rw [(zNx_0 (by omega)).trans (zNo_p (by omega) (by first | assumption | omega))] <;> rfl) (by rw [(zNx_0 (by omega)).trans (zNo_p (by omega) (by first | assumption | omega))] <;> rfl)
        · have h_17n : ¬ ((zRn tx ln 2 (oP s)).1 < 0) := by simpa using h_17
          refine z_aload_n C 0 dX3_nextOrder_71 rfl rfl ?_
          refine z_bipush C (nI 46) dX3_nextOrder_72 (by decide) ?_
          by_cases hc_18 : zHe tx ln ((zRn tx ln 2 (oP s)).2) = 46
          · have hp9_19 : (zRn tx ln 2 (oP s)).2 + 1 ≤ ln := zHe_lt tx (by omega)
            refine z_callV (wn := [(h0, .inr (3, [.ref h1, .int (nI ln), .int (nI (((zRn tx ln 2 (oP s)).2) + 1)), .int (nI (zHe tx ln (oP s))), .int (oA s), .int ((zRn tx ln 2 (oP s)).1), .int (oC s), .int (oV s)])), (h1, .inl (X.2.1.2.2.2.1, 60, .inl (fun j9 => nI (tx j9))))]) C kX3_pass gX3_nextOrder_X3_pass (mX3_pass_y X.2.1 h0 h1 tx ln ((zRn tx ln 2 (oP s)).2) (nI (zHe tx ln (oP s))) (oA s) ((zRn tx ln 2 (oP s)).1) (oC s) (oV s) 46 hln htx hr_16 (by first | assumption | omega) hc_18) dX3_nextOrder_74 [0, 1] [] 0 rfl rfl nd_0_1 rfl rfl rfl (by decide) (by decide) (Nat.le_of_ble_eq_true rfl) rfl rfl ?_
            refine z_bif_eq_f C 107 dX3_nextOrder_77 (by decide) rfl ?_
            refine z_aload_n C 0 dX3_nextOrder_80 rfl rfl ?_
            refine z_callV (wn := [(h0, .inr (3, [.ref h1, .int (nI ln), .int (nI ((zRn tx ln 2 (((zRn tx ln 2 (oP s)).2) + 1)).2)), .int (nI (zHe tx ln (oP s))), .int (oA s), .int ((zRn tx ln 2 (oP s)).1), .int ((zRn tx ln 2 (((zRn tx ln 2 (oP s)).2) + 1)).1), .int (oV s)])), (h1, .inl (X.2.1.2.2.2.1, 60, .inl (fun j9 => nI (tx j9))))]) C kX3_readColumn gX3_nextOrder_X3_readColumn (mX3_readColumn X.2.1 h0 h1 tx ln (((zRn tx ln 2 (oP s)).2) + 1) (nI (zHe tx ln (oP s))) (oA s) ((zRn tx ln 2 (oP s)).1) (oC s) (oV s) hln htx hp9_19) dX3_nextOrder_81 [0, 1] [] 0 rfl rfl nd_0_1 rfl rfl rfl (by decide) (by decide) (Nat.le_of_ble_eq_true rfl) rfl rfl ?_
            have hr_20 : (zRn tx ln 2 (((zRn tx ln 2 (oP s)).2) + 1)).2 ≤ ln := zRn_le (by omega)
            refine z_bif_eq C 107 dX3_nextOrder_84 (by decide) (fun h_21 => ?_) (fun h_21 => ?_)
            · have h_21n : ((zRn tx ln 2 (((zRn tx ln 2 (oP s)).2) + 1)).1 < 0) := by simpa using h_21
              refine z_iconst C (nI 0) dX3_nextOrder_107 (by decide) ?_
              exact z_zret C N dX3_nextOrder_108 rfl (by rw [(zNx_0 (by omega)).trans (zNo_k (by omega) (by first | assumption | omega) (by first | assumption | omega) (by first | assumption | omega))] <;> rfl) (by rw [(zNx_0 (by omega)).trans (zNo_k (by omega) (by first | assumption | omega) (by first | assumption | omega) (by first | assumption | omega))] <;> rfl)
            · have h_21n : ¬ ((zRn tx ln 2 (((zRn tx ln 2 (oP s)).2) + 1)).1 < 0) := by simpa using h_21
              refine z_aload_n C 0 dX3_nextOrder_87 rfl rfl ?_
              refine z_bipush C (nI 61) dX3_nextOrder_88 (by decide) ?_
              by_cases hc_22 : zHe tx ln ((zRn tx ln 2 (((zRn tx ln 2 (oP s)).2) + 1)).2) = 61
              · have hp9_23 : (zRn tx ln 2 (((zRn tx ln 2 (oP s)).2) + 1)).2 + 1 ≤ ln := zHe_lt tx (by omega)
                refine z_callV (wn := [(h0, .inr (3, [.ref h1, .int (nI ln), .int (nI (((zRn tx ln 2 (((zRn tx ln 2 (oP s)).2) + 1)).2) + 1)), .int (nI (zHe tx ln (oP s))), .int (oA s), .int ((zRn tx ln 2 (oP s)).1), .int ((zRn tx ln 2 (((zRn tx ln 2 (oP s)).2) + 1)).1), .int (oV s)])), (h1, .inl (X.2.1.2.2.2.1, 60, .inl (fun j9 => nI (tx j9))))]) C kX3_pass gX3_nextOrder_X3_pass (mX3_pass_y X.2.1 h0 h1 tx ln ((zRn tx ln 2 (((zRn tx ln 2 (oP s)).2) + 1)).2) (nI (zHe tx ln (oP s))) (oA s) ((zRn tx ln 2 (oP s)).1) ((zRn tx ln 2 (((zRn tx ln 2 (oP s)).2) + 1)).1) (oV s) 61 hln htx hr_20 (by first | assumption | omega) hc_22) dX3_nextOrder_90 [0, 1] [] 0 rfl rfl nd_0_1 rfl rfl rfl (by decide) (by decide) (Nat.le_of_ble_eq_true rfl) rfl rfl ?_
                refine z_bif_eq_f C 107 dX3_nextOrder_93 (by decide) rfl ?_
                refine z_aload_n C 0 dX3_nextOrder_96 rfl rfl ?_
                refine z_callV (wn := [(h0, .inr (3, [.ref h1, .int (nI ln), .int (nI ((zRn tx ln 4 (((zRn tx ln 2 (((zRn tx ln 2 (oP s)).2) + 1)).2) + 1)).2)), .int (nI (zHe tx ln (oP s))), .int (oA s), .int ((zRn tx ln 2 (oP s)).1), .int ((zRn tx ln 2 (((zRn tx ln 2 (oP s)).2) + 1)).1), .int ((zRn tx ln 4 (((zRn tx ln 2 (((zRn tx ln 2 (oP s)).2) + 1)).2) + 1)).1)])), (h1, .inl (X.2.1.2.2.2.1, 60, .inl (fun j9 => nI (tx j9))))]) C kX3_readValue gX3_nextOrder_X3_readValue (mX3_readValue X.2.1 h0 h1 tx ln (((zRn tx ln 2 (((zRn tx ln 2 (oP s)).2) + 1)).2) + 1) (nI (zHe tx ln (oP s))) (oA s) ((zRn tx ln 2 (oP s)).1) ((zRn tx ln 2 (((zRn tx ln 2 (oP s)).2) + 1)).1) (oV s) hln htx hp9_23) dX3_nextOrder_97 [0, 1] [] 0 rfl rfl nd_0_1 rfl rfl rfl (by decide) (by decide) (Nat.le_of_ble_eq_true rfl) rfl rfl ?_
                have hr_24 : (zRn tx ln 4 (((zRn tx ln 2 (((zRn tx ln 2 (oP s)).2) + 1)).2) + 1)).2 ≤ ln := zRn_le (by omega)
                refine z_bif_eq C 107 dX3_nextOrder_100 (by decide) (fun h_25 => ?_) (fun h_25 => ?_)
                · have h_25n : ((zRn tx ln 4 (((zRn tx ln 2 (((zRn tx ln 2 (oP s)).2) + 1)).2) + 1)).1 < 0) := by simpa using h_25
                  refine z_iconst C (nI 0) dX3_nextOrder_107 (by decide) ?_
                  exact z_zret C N dX3_nextOrder_108 rfl (by rw [(zNx_0 (by omega)).trans (zNo_v (by omega) (by first | assumption | omega) (by first | assumption | omega) (by first | assumption | omega) (by first | assumption | omega) (zb9_f (by assumption)))] <;> rfl) (by rw [(zNx_0 (by omega)).trans (zNo_v (by omega) (by first | assumption | omega) (by first | assumption | omega) (by first | assumption | omega) (by first | assumption | omega) (zb9_f (by assumption)))] <;> rfl)
                · have h_25n : ¬ ((zRn tx ln 4 (((zRn tx ln 2 (((zRn tx ln 2 (oP s)).2) + 1)).2) + 1)).1 < 0) := by simpa using h_25
                  refine z_iconst C (nI 1) dX3_nextOrder_103 (by decide) ?_
                  refine z_goto C 108 dX3_nextOrder_104 (by decide) ?_
                  exact z_zret C N dX3_nextOrder_108 rfl (by rw [(zNx_0 (by omega)).trans (zNo_v (by omega) (by first | assumption | omega) (by first | assumption | omega) (by first | assumption | omega) (by first | assumption | omega) (zb9_t (by assumption)))] <;> rfl) (by rw [(zNx_0 (by omega)).trans (zNo_v (by omega) (by first | assumption | omega) (by first | assumption | omega) (by first | assumption | omega) (by first | assumption | omega) (zb9_t (by assumption)))] <;> rfl)
              · have hb9_26 : zHe tx ln ((zRn tx ln 2 (((zRn tx ln 2 (oP s)).2) + 1)).2) < 65536 := zHe_b htx
                refine z_callVr C kX3_pass gX3_nextOrder_X3_pass (mX3_pass_n X.2.1 h0 h1 tx ln ((zRn tx ln 2 (((zRn tx ln 2 (oP s)).2) + 1)).2) (nI (zHe tx ln (oP s))) (oA s) ((zRn tx ln 2 (oP s)).1) ((zRn tx ln 2 (((zRn tx ln 2 (oP s)).2) + 1)).1) (oV s) 61 hln htx hr_20 (by first | assumption | omega) hc_22) dX3_nextOrder_90 [0, 1] [] 0 rfl nd_0_1 rfl rfl rfl (by decide) (by decide) (Nat.le_of_ble_eq_true rfl) rfl ?_
                refine z_bif_eq_t C 107 dX3_nextOrder_93 (by decide) rfl ?_
                refine z_iconst C (nI 0) dX3_nextOrder_107 (by decide) ?_
                exact z_zret C N dX3_nextOrder_108 rfl (by rw [(zNx_0 (by omega)).trans (zNo_e (by omega) (by first | assumption | omega) (by first | assumption | omega) (by first | assumption | omega) (by first | assumption | omega))] <;> rfl) (by rw [(zNx_0 (by omega)).trans (zNo_e (by omega) (by first | assumption | omega) (by first | assumption | omega) (by first | assumption | omega) (by first | assumption | omega))] <;> rfl)
          · have hb9_27 : zHe tx ln ((zRn tx ln 2 (oP s)).2) < 65536 := zHe_b htx
            refine z_callVr C kX3_pass gX3_nextOrder_X3_pass (mX3_pass_n X.2.1 h0 h1 tx ln ((zRn tx ln 2 (oP s)).2) (nI (zHe tx ln (oP s))) (oA s) ((zRn tx ln 2 (oP s)).1) (oC s) (oV s) 46 hln htx hr_16 (by first | assumption | omega) hc_18) dX3_nextOrder_74 [0, 1] [] 0 rfl nd_0_1 rfl rfl rfl (by decide) (by decide) (Nat.le_of_ble_eq_true rfl) rfl ?_
            refine z_bif_eq_t C 107 dX3_nextOrder_77 (by decide) rfl ?_
            refine z_iconst C (nI 0) dX3_nextOrder_107 (by decide) ?_
            exact z_zret C N dX3_nextOrder_108 rfl (by rw [(zNx_0 (by omega)).trans (zNo_d (by omega) (by first | assumption | omega) (by first | assumption | omega))] <;> rfl) (by rw [(zNx_0 (by omega)).trans (zNo_d (by omega) (by first | assumption | omega) (by first | assumption | omega))] <;> rfl)
  · refine z_aload_n C 0 dX3_nextOrder_7 rfl rfl ?_
    refine z_bipush C (nI 32) dX3_nextOrder_8 (by decide) ?_
    by_cases hc_28 : zHe tx ln (oP s) = 32
    · have hp9_29 : oP s + 1 ≤ ln := zHe_lt tx (by omega)
      refine z_callV (wn := [(h0, .inr (3, [.ref h1, .int (nI ln), .int (nI ((oP s) + 1)), .int (oS s), .int (oA s), .int (oL s), .int (oC s), .int (oV s)])), (h1, .inl (X.2.1.2.2.2.1, 60, .inl (fun j9 => nI (tx j9))))]) C kX3_pass gX3_nextOrder_X3_pass (mX3_pass_y X.2.1 h0 h1 tx ln (oP s) (oS s) (oA s) (oL s) (oC s) (oV s) 32 hln htx hp (by first | assumption | omega) hc_28) dX3_nextOrder_10 [0, 1] [] 0 rfl rfl nd_0_1 rfl rfl rfl (by decide) (by decide) (Nat.le_of_ble_eq_true rfl) rfl rfl ?_
      refine z_bif_ne_t C 18 dX3_nextOrder_13 (by decide) rfl ?_
      refine z_aload_n C 0 dX3_nextOrder_18 rfl rfl ?_
      refine z_aload_n C 0 dX3_nextOrder_19 rfl rfl ?_
      refine z_callVr C kX3_here gX3_nextOrder_X3_here (mX3_here X.2.1 h0 h1 tx ln ((oP s) + 1) (oS s) (oA s) (oL s) (oC s) (oV s) hln htx hp9_29) dX3_nextOrder_20 [0, 1] [.ref h0] 0 rfl nd_0_1 rfl rfl rfl (by decide) (by decide) (Nat.le_of_ble_eq_true rfl) rfl ?_
      refine z_put C fX3_nextOrder_37 ftX3_3 0 dX3_nextOrder_23 rfl (pk_charN (zHe_b htx)).1 (pk_charN (zHe_b htx)).2 (Nat.le_of_ble_eq_true rfl) ?_
      refine z_aload_n C 0 dX3_nextOrder_26 rfl rfl ?_
      refine z_bipush C (nI 43) dX3_nextOrder_27 (by decide) ?_
      by_cases hc_30 : zHe tx ln ((oP s) + 1) = 43
      · have hp9_31 : (oP s) + 1 + 1 ≤ ln := zHe_lt tx (by omega)
        refine z_callV (wn := [(h0, .inr (3, [.ref h1, .int (nI ln), .int (nI (((oP s) + 1) + 1)), .int (nI (zHe tx ln ((oP s) + 1))), .int (oA s), .int (oL s), .int (oC s), .int (oV s)])), (h1, .inl (X.2.1.2.2.2.1, 60, .inl (fun j9 => nI (tx j9))))]) C kX3_pass gX3_nextOrder_X3_pass (mX3_pass_y X.2.1 h0 h1 tx ln ((oP s) + 1) (nI (zHe tx ln ((oP s) + 1))) (oA s) (oL s) (oC s) (oV s) 43 hln htx hp9_29 (by first | assumption | omega) hc_30) dX3_nextOrder_29 [0, 1] [] 0 rfl rfl nd_0_1 rfl rfl rfl (by decide) (by decide) (Nat.le_of_ble_eq_true rfl) rfl rfl ?_
        refine z_bif_ne_t C 44 dX3_nextOrder_32 (by decide) rfl ?_
        refine z_aload_n C 0 dX3_nextOrder_44 rfl rfl ?_
        rcases (show zHe tx ln (((oP s) + 1) + 1) = 114 ∨ zHe tx ln (((oP s) + 1) + 1) = 99 ∨ (zHe tx ln (((oP s) + 1) + 1) ≠ 114 ∧ zHe tx ln (((oP s) + 1) + 1) ≠ 99) by omega) with ha9 | ha9 | ⟨ha9, hb9⟩
        · have hx9 : ((oP s) + 1) + 1 + 1 ≤ ln := zHe_lt tx (p := ((oP s) + 1) + 1) (by rw [ha9]; decide)
          refine z_callV (wn := [(h0, .inr (3, [.ref h1, .int (nI ln), .int (nI ((((oP s) + 1) + 1) + 1)), .int (nI (zHe tx ln ((oP s) + 1))), .int (nI 0), .int (oL s), .int (oC s), .int (oV s)])), (h1, .inl (X.2.1.2.2.2.1, 60, .inl (fun j9 => nI (tx j9))))]) C kX3_readAxis gX3_nextOrder_X3_readAxis (mX3_readAxis_r X.2.1 h0 h1 tx ln (((oP s) + 1) + 1) (nI (zHe tx ln ((oP s) + 1))) (oA s) (oL s) (oC s) (oV s) hln htx hp9_31 ha9) dX3_nextOrder_45 [0, 1] [] 0 rfl rfl nd_0_1 rfl rfl rfl (by decide) (by decide) (Nat.le_of_ble_eq_true rfl) rfl rfl ?_
          refine z_bif_eq_f C 62 dX3_nextOrder_48 (by decide) rfl ?_
          refine z_aload_n C 0 dX3_nextOrder_51 rfl rfl ?_
          refine z_callV (wn := [(h0, .inr (3, [.ref h1, .int (nI ln), .int (nI ((zRn tx ln 2 ((((oP s) + 1) + 1) + 1)).2)), .int (nI (zHe tx ln ((oP s) + 1))), .int (nI 0), .int ((zRn tx ln 2 ((((oP s) + 1) + 1) + 1)).1), .int (oC s), .int (oV s)])), (h1, .inl (X.2.1.2.2.2.1, 60, .inl (fun j9 => nI (tx j9))))]) C kX3_readPlace gX3_nextOrder_X3_readPlace (mX3_readPlace X.2.1 h0 h1 tx ln ((((oP s) + 1) + 1) + 1) (nI (zHe tx ln ((oP s) + 1))) (nI 0) (oL s) (oC s) (oV s) hln htx hx9) dX3_nextOrder_52 [0, 1] [] 0 rfl rfl nd_0_1 rfl rfl rfl (by decide) (by decide) (Nat.le_of_ble_eq_true rfl) rfl rfl ?_
          have hr_32 : (zRn tx ln 2 ((((oP s) + 1) + 1) + 1)).2 ≤ ln := zRn_le (by omega)
          refine z_bif_eq C 62 dX3_nextOrder_55 (by decide) (fun h_33 => ?_) (fun h_33 => ?_)
          · have h_33n : ((zRn tx ln 2 ((((oP s) + 1) + 1) + 1)).1 < 0) := by simpa using h_33
            refine z_iconst C (nI 0) dX3_nextOrder_62 (by decide) ?_
            exact z_zret C N dX3_nextOrder_63 rfl (by rw [(zNx_1 (by omega) (by assumption)).trans (zNo_r (by omega) (by first | assumption | omega) (zb9_f (by assumption)))] <;> rfl) (by rw [(zNx_1 (by omega) (by assumption)).trans (zNo_r (by omega) (by first | assumption | omega) (zb9_f (by assumption)))] <;> rfl)
          · have h_33n : ¬ ((zRn tx ln 2 ((((oP s) + 1) + 1) + 1)).1 < 0) := by simpa using h_33
            refine z_iconst C (nI 1) dX3_nextOrder_58 (by decide) ?_
            refine z_goto C 63 dX3_nextOrder_59 (by decide) ?_
            exact z_zret C N dX3_nextOrder_63 rfl (by rw [(zNx_1 (by omega) (by assumption)).trans (zNo_r (by omega) (by first | assumption | omega) (zb9_t (by assumption)))] <;> rfl) (by rw [(zNx_1 (by omega) (by assumption)).trans (zNo_r (by omega) (by first | assumption | omega) (zb9_t (by assumption)))] <;> rfl)
        · have hx9 : ((oP s) + 1) + 1 + 1 ≤ ln := zHe_lt tx (p := ((oP s) + 1) + 1) (by rw [ha9]; decide)
          refine z_callV (wn := [(h0, .inr (3, [.ref h1, .int (nI ln), .int (nI ((((oP s) + 1) + 1) + 1)), .int (nI (zHe tx ln ((oP s) + 1))), .int (nI 1), .int (oL s), .int (oC s), .int (oV s)])), (h1, .inl (X.2.1.2.2.2.1, 60, .inl (fun j9 => nI (tx j9))))]) C kX3_readAxis gX3_nextOrder_X3_readAxis (mX3_readAxis_c X.2.1 h0 h1 tx ln (((oP s) + 1) + 1) (nI (zHe tx ln ((oP s) + 1))) (oA s) (oL s) (oC s) (oV s) hln htx hp9_31 ha9) dX3_nextOrder_45 [0, 1] [] 0 rfl rfl nd_0_1 rfl rfl rfl (by decide) (by decide) (Nat.le_of_ble_eq_true rfl) rfl rfl ?_
          refine z_bif_eq_f C 62 dX3_nextOrder_48 (by decide) rfl ?_
          refine z_aload_n C 0 dX3_nextOrder_51 rfl rfl ?_
          refine z_callV (wn := [(h0, .inr (3, [.ref h1, .int (nI ln), .int (nI ((zRn tx ln 2 ((((oP s) + 1) + 1) + 1)).2)), .int (nI (zHe tx ln ((oP s) + 1))), .int (nI 1), .int ((zRn tx ln 2 ((((oP s) + 1) + 1) + 1)).1), .int (oC s), .int (oV s)])), (h1, .inl (X.2.1.2.2.2.1, 60, .inl (fun j9 => nI (tx j9))))]) C kX3_readPlace gX3_nextOrder_X3_readPlace (mX3_readPlace X.2.1 h0 h1 tx ln ((((oP s) + 1) + 1) + 1) (nI (zHe tx ln ((oP s) + 1))) (nI 1) (oL s) (oC s) (oV s) hln htx hx9) dX3_nextOrder_52 [0, 1] [] 0 rfl rfl nd_0_1 rfl rfl rfl (by decide) (by decide) (Nat.le_of_ble_eq_true rfl) rfl rfl ?_
          have hr_34 : (zRn tx ln 2 ((((oP s) + 1) + 1) + 1)).2 ≤ ln := zRn_le (by omega)
          refine z_bif_eq C 62 dX3_nextOrder_55 (by decide) (fun h_35 => ?_) (fun h_35 => ?_)
          · have h_35n : ((zRn tx ln 2 ((((oP s) + 1) + 1) + 1)).1 < 0) := by simpa using h_35
            refine z_iconst C (nI 0) dX3_nextOrder_62 (by decide) ?_
            exact z_zret C N dX3_nextOrder_63 rfl (by rw [(zNx_1 (by omega) (by assumption)).trans (zNo_c (by omega) (by first | assumption | omega) (zb9_f (by assumption)))] <;> rfl) (by rw [(zNx_1 (by omega) (by assumption)).trans (zNo_c (by omega) (by first | assumption | omega) (zb9_f (by assumption)))] <;> rfl)
          · have h_35n : ¬ ((zRn tx ln 2 ((((oP s) + 1) + 1) + 1)).1 < 0) := by simpa using h_35
            refine z_iconst C (nI 1) dX3_nextOrder_58 (by decide) ?_
            refine z_goto C 63 dX3_nextOrder_59 (by decide) ?_
            exact z_zret C N dX3_nextOrder_63 rfl (by rw [(zNx_1 (by omega) (by assumption)).trans (zNo_c (by omega) (by first | assumption | omega) (zb9_t (by assumption)))] <;> rfl) (by rw [(zNx_1 (by omega) (by assumption)).trans (zNo_c (by omega) (by first | assumption | omega) (zb9_t (by assumption)))] <;> rfl)
        · refine z_callV (wn := [(h0, .inr (3, [.ref h1, .int (nI ln), .int (nI (((oP s) + 1) + 1)), .int (nI (zHe tx ln ((oP s) + 1))), .int (nI 1), .int (oL s), .int (oC s), .int (oV s)])), (h1, .inl (X.2.1.2.2.2.1, 60, .inl (fun j9 => nI (tx j9))))]) C kX3_readAxis gX3_nextOrder_X3_readAxis (mX3_readAxis_n X.2.1 h0 h1 tx ln (((oP s) + 1) + 1) (nI (zHe tx ln ((oP s) + 1))) (oA s) (oL s) (oC s) (oV s) hln htx hp9_31 ha9 hb9) dX3_nextOrder_45 [0, 1] [] 0 rfl rfl nd_0_1 rfl rfl rfl (by decide) (by decide) (Nat.le_of_ble_eq_true rfl) rfl rfl ?_
          refine z_bif_eq_t C 62 dX3_nextOrder_48 (by decide) rfl ?_
          refine z_iconst C (nI 0) dX3_nextOrder_62 (by decide) ?_
          exact z_zret C N dX3_nextOrder_63 rfl (by rw [(zNx_1 (by omega) (by assumption)).trans (zNo_n (by omega) (by first | assumption | omega) (by first | assumption | omega))] <;> rfl) (by rw [(zNx_1 (by omega) (by assumption)).trans (zNo_n (by omega) (by first | assumption | omega) (by first | assumption | omega))] <;> rfl)
      · have hb9_36 : zHe tx ln ((oP s) + 1) < 65536 := zHe_b htx
        refine z_callVr C kX3_pass gX3_nextOrder_X3_pass (mX3_pass_n X.2.1 h0 h1 tx ln ((oP s) + 1) (nI (zHe tx ln ((oP s) + 1))) (oA s) (oL s) (oC s) (oV s) 43 hln htx hp9_29 (by first | assumption | omega) hc_30) dX3_nextOrder_29 [0, 1] [] 0 rfl nd_0_1 rfl rfl rfl (by decide) (by decide) (Nat.le_of_ble_eq_true rfl) rfl ?_
        refine z_bif_ne_f C 44 dX3_nextOrder_32 (by decide) rfl ?_
        refine z_aload_n C 0 dX3_nextOrder_35 rfl rfl ?_
        refine z_bipush C (nI 45) dX3_nextOrder_36 (by decide) ?_
        by_cases hc_37 : zHe tx ln ((oP s) + 1) = 45
        · have hp9_38 : (oP s) + 1 + 1 ≤ ln := zHe_lt tx (by omega)
          refine z_callV (wn := [(h0, .inr (3, [.ref h1, .int (nI ln), .int (nI (((oP s) + 1) + 1)), .int (nI (zHe tx ln ((oP s) + 1))), .int (oA s), .int (oL s), .int (oC s), .int (oV s)])), (h1, .inl (X.2.1.2.2.2.1, 60, .inl (fun j9 => nI (tx j9))))]) C kX3_pass gX3_nextOrder_X3_pass (mX3_pass_y X.2.1 h0 h1 tx ln ((oP s) + 1) (nI (zHe tx ln ((oP s) + 1))) (oA s) (oL s) (oC s) (oV s) 45 hln htx hp9_29 (by first | assumption | omega) hc_37) dX3_nextOrder_38 [0, 1] [] 0 rfl rfl nd_0_1 rfl rfl rfl (by decide) (by decide) (Nat.le_of_ble_eq_true rfl) rfl rfl ?_
          refine z_bif_eq_f C 64 dX3_nextOrder_41 (by decide) rfl ?_
          refine z_aload_n C 0 dX3_nextOrder_44 rfl rfl ?_
          rcases (show zHe tx ln (((oP s) + 1) + 1) = 114 ∨ zHe tx ln (((oP s) + 1) + 1) = 99 ∨ (zHe tx ln (((oP s) + 1) + 1) ≠ 114 ∧ zHe tx ln (((oP s) + 1) + 1) ≠ 99) by omega) with ha9 | ha9 | ⟨ha9, hb9⟩
          · have hx9 : ((oP s) + 1) + 1 + 1 ≤ ln := zHe_lt tx (p := ((oP s) + 1) + 1) (by rw [ha9]; decide)
            refine z_callV (wn := [(h0, .inr (3, [.ref h1, .int (nI ln), .int (nI ((((oP s) + 1) + 1) + 1)), .int (nI (zHe tx ln ((oP s) + 1))), .int (nI 0), .int (oL s), .int (oC s), .int (oV s)])), (h1, .inl (X.2.1.2.2.2.1, 60, .inl (fun j9 => nI (tx j9))))]) C kX3_readAxis gX3_nextOrder_X3_readAxis (mX3_readAxis_r X.2.1 h0 h1 tx ln (((oP s) + 1) + 1) (nI (zHe tx ln ((oP s) + 1))) (oA s) (oL s) (oC s) (oV s) hln htx hp9_38 ha9) dX3_nextOrder_45 [0, 1] [] 0 rfl rfl nd_0_1 rfl rfl rfl (by decide) (by decide) (Nat.le_of_ble_eq_true rfl) rfl rfl ?_
            refine z_bif_eq_f C 62 dX3_nextOrder_48 (by decide) rfl ?_
            refine z_aload_n C 0 dX3_nextOrder_51 rfl rfl ?_
            refine z_callV (wn := [(h0, .inr (3, [.ref h1, .int (nI ln), .int (nI ((zRn tx ln 2 ((((oP s) + 1) + 1) + 1)).2)), .int (nI (zHe tx ln ((oP s) + 1))), .int (nI 0), .int ((zRn tx ln 2 ((((oP s) + 1) + 1) + 1)).1), .int (oC s), .int (oV s)])), (h1, .inl (X.2.1.2.2.2.1, 60, .inl (fun j9 => nI (tx j9))))]) C kX3_readPlace gX3_nextOrder_X3_readPlace (mX3_readPlace X.2.1 h0 h1 tx ln ((((oP s) + 1) + 1) + 1) (nI (zHe tx ln ((oP s) + 1))) (nI 0) (oL s) (oC s) (oV s) hln htx hx9) dX3_nextOrder_52 [0, 1] [] 0 rfl rfl nd_0_1 rfl rfl rfl (by decide) (by decide) (Nat.le_of_ble_eq_true rfl) rfl rfl ?_
            have hr_39 : (zRn tx ln 2 ((((oP s) + 1) + 1) + 1)).2 ≤ ln := zRn_le (by omega)
            refine z_bif_eq C 62 dX3_nextOrder_55 (by decide) (fun h_40 => ?_) (fun h_40 => ?_)
            · have h_40n : ((zRn tx ln 2 ((((oP s) + 1) + 1) + 1)).1 < 0) := by simpa using h_40
              refine z_iconst C (nI 0) dX3_nextOrder_62 (by decide) ?_
              exact z_zret C N dX3_nextOrder_63 rfl (by rw [(zNx_1 (by omega) (by assumption)).trans (zNo_r (by omega) (by first | assumption | omega) (zb9_f (by assumption)))] <;> rfl) (by rw [(zNx_1 (by omega) (by assumption)).trans (zNo_r (by omega) (by first | assumption | omega) (zb9_f (by assumption)))] <;> rfl)
            · have h_40n : ¬ ((zRn tx ln 2 ((((oP s) + 1) + 1) + 1)).1 < 0) := by simpa using h_40
              refine z_iconst C (nI 1) dX3_nextOrder_58 (by decide) ?_
              refine z_goto C 63 dX3_nextOrder_59 (by decide) ?_
              exact z_zret C N dX3_nextOrder_63 rfl (by rw [(zNx_1 (by omega) (by assumption)).trans (zNo_r (by omega) (by first | assumption | omega) (zb9_t (by assumption)))] <;> rfl) (by rw [(zNx_1 (by omega) (by assumption)).trans (zNo_r (by omega) (by first | assumption | omega) (zb9_t (by assumption)))] <;> rfl)
          · have hx9 : ((oP s) + 1) + 1 + 1 ≤ ln := zHe_lt tx (p := ((oP s) + 1) + 1) (by rw [ha9]; decide)
            refine z_callV (wn := [(h0, .inr (3, [.ref h1, .int (nI ln), .int (nI ((((oP s) + 1) + 1) + 1)), .int (nI (zHe tx ln ((oP s) + 1))), .int (nI 1), .int (oL s), .int (oC s), .int (oV s)])), (h1, .inl (X.2.1.2.2.2.1, 60, .inl (fun j9 => nI (tx j9))))]) C kX3_readAxis gX3_nextOrder_X3_readAxis (mX3_readAxis_c X.2.1 h0 h1 tx ln (((oP s) + 1) + 1) (nI (zHe tx ln ((oP s) + 1))) (oA s) (oL s) (oC s) (oV s) hln htx hp9_38 ha9) dX3_nextOrder_45 [0, 1] [] 0 rfl rfl nd_0_1 rfl rfl rfl (by decide) (by decide) (Nat.le_of_ble_eq_true rfl) rfl rfl ?_
            refine z_bif_eq_f C 62 dX3_nextOrder_48 (by decide) rfl ?_
            refine z_aload_n C 0 dX3_nextOrder_51 rfl rfl ?_
            refine z_callV (wn := [(h0, .inr (3, [.ref h1, .int (nI ln), .int (nI ((zRn tx ln 2 ((((oP s) + 1) + 1) + 1)).2)), .int (nI (zHe tx ln ((oP s) + 1))), .int (nI 1), .int ((zRn tx ln 2 ((((oP s) + 1) + 1) + 1)).1), .int (oC s), .int (oV s)])), (h1, .inl (X.2.1.2.2.2.1, 60, .inl (fun j9 => nI (tx j9))))]) C kX3_readPlace gX3_nextOrder_X3_readPlace (mX3_readPlace X.2.1 h0 h1 tx ln ((((oP s) + 1) + 1) + 1) (nI (zHe tx ln ((oP s) + 1))) (nI 1) (oL s) (oC s) (oV s) hln htx hx9) dX3_nextOrder_52 [0, 1] [] 0 rfl rfl nd_0_1 rfl rfl rfl (by decide) (by decide) (Nat.le_of_ble_eq_true rfl) rfl rfl ?_
            have hr_41 : (zRn tx ln 2 ((((oP s) + 1) + 1) + 1)).2 ≤ ln := zRn_le (by omega)
            refine z_bif_eq C 62 dX3_nextOrder_55 (by decide) (fun h_42 => ?_) (fun h_42 => ?_)
            · have h_42n : ((zRn tx ln 2 ((((oP s) + 1) + 1) + 1)).1 < 0) := by simpa using h_42
              refine z_iconst C (nI 0) dX3_nextOrder_62 (by decide) ?_
              exact z_zret C N dX3_nextOrder_63 rfl (by rw [(zNx_1 (by omega) (by assumption)).trans (zNo_c (by omega) (by first | assumption | omega) (zb9_f (by assumption)))] <;> rfl) (by rw [(zNx_1 (by omega) (by assumption)).trans (zNo_c (by omega) (by first | assumption | omega) (zb9_f (by assumption)))] <;> rfl)
            · have h_42n : ¬ ((zRn tx ln 2 ((((oP s) + 1) + 1) + 1)).1 < 0) := by simpa using h_42
              refine z_iconst C (nI 1) dX3_nextOrder_58 (by decide) ?_
              refine z_goto C 63 dX3_nextOrder_59 (by decide) ?_
              exact z_zret C N dX3_nextOrder_63 rfl (by rw [(zNx_1 (by omega) (by assumption)).trans (zNo_c (by omega) (by first | assumption | omega) (zb9_t (by assumption)))] <;> rfl) (by rw [(zNx_1 (by omega) (by assumption)).trans (zNo_c (by omega) (by first | assumption | omega) (zb9_t (by assumption)))] <;> rfl)
          · refine z_callV (wn := [(h0, .inr (3, [.ref h1, .int (nI ln), .int (nI (((oP s) + 1) + 1)), .int (nI (zHe tx ln ((oP s) + 1))), .int (nI 1), .int (oL s), .int (oC s), .int (oV s)])), (h1, .inl (X.2.1.2.2.2.1, 60, .inl (fun j9 => nI (tx j9))))]) C kX3_readAxis gX3_nextOrder_X3_readAxis (mX3_readAxis_n X.2.1 h0 h1 tx ln (((oP s) + 1) + 1) (nI (zHe tx ln ((oP s) + 1))) (oA s) (oL s) (oC s) (oV s) hln htx hp9_38 ha9 hb9) dX3_nextOrder_45 [0, 1] [] 0 rfl rfl nd_0_1 rfl rfl rfl (by decide) (by decide) (Nat.le_of_ble_eq_true rfl) rfl rfl ?_
            refine z_bif_eq_t C 62 dX3_nextOrder_48 (by decide) rfl ?_
            refine z_iconst C (nI 0) dX3_nextOrder_62 (by decide) ?_
            exact z_zret C N dX3_nextOrder_63 rfl (by rw [(zNx_1 (by omega) (by assumption)).trans (zNo_n (by omega) (by first | assumption | omega) (by first | assumption | omega))] <;> rfl) (by rw [(zNx_1 (by omega) (by assumption)).trans (zNo_n (by omega) (by first | assumption | omega) (by first | assumption | omega))] <;> rfl)
        · have hb9_43 : zHe tx ln ((oP s) + 1) < 65536 := zHe_b htx
          refine z_callVr C kX3_pass gX3_nextOrder_X3_pass (mX3_pass_n X.2.1 h0 h1 tx ln ((oP s) + 1) (nI (zHe tx ln ((oP s) + 1))) (oA s) (oL s) (oC s) (oV s) 45 hln htx hp9_29 (by first | assumption | omega) hc_37) dX3_nextOrder_38 [0, 1] [] 0 rfl nd_0_1 rfl rfl rfl (by decide) (by decide) (Nat.le_of_ble_eq_true rfl) rfl ?_
          refine z_bif_eq_t C 64 dX3_nextOrder_41 (by decide) rfl ?_
          refine z_aload_n C 0 dX3_nextOrder_64 rfl rfl ?_
          refine z_callV (wn := [(h0, .inr (3, [.ref h1, .int (nI ln), .int (nI ((zRn tx ln 2 ((oP s) + 1)).2)), .int (nI (zHe tx ln ((oP s) + 1))), .int (oA s), .int ((zRn tx ln 2 ((oP s) + 1)).1), .int (oC s), .int (oV s)])), (h1, .inl (X.2.1.2.2.2.1, 60, .inl (fun j9 => nI (tx j9))))]) C kX3_readPlace gX3_nextOrder_X3_readPlace (mX3_readPlace X.2.1 h0 h1 tx ln ((oP s) + 1) (nI (zHe tx ln ((oP s) + 1))) (oA s) (oL s) (oC s) (oV s) hln htx hp9_29) dX3_nextOrder_65 [0, 1] [] 0 rfl rfl nd_0_1 rfl rfl rfl (by decide) (by decide) (Nat.le_of_ble_eq_true rfl) rfl rfl ?_
          have hr_44 : (zRn tx ln 2 ((oP s) + 1)).2 ≤ ln := zRn_le (by omega)
          refine z_bif_eq C 107 dX3_nextOrder_68 (by decide) (fun h_45 => ?_) (fun h_45 => ?_)
          · have h_45n : ((zRn tx ln 2 ((oP s) + 1)).1 < 0) := by simpa using h_45
            refine z_iconst C (nI 0) dX3_nextOrder_107 (by decide) ?_
            exact z_zret C N dX3_nextOrder_108 rfl (by rw [(zNx_1 (by omega) (by assumption)).trans (zNo_p (by omega) (by first | assumption | omega))] <;> rfl) (by rw [(zNx_1 (by omega) (by assumption)).trans (zNo_p (by omega) (by first | assumption | omega))] <;> rfl)
          · have h_45n : ¬ ((zRn tx ln 2 ((oP s) + 1)).1 < 0) := by simpa using h_45
            refine z_aload_n C 0 dX3_nextOrder_71 rfl rfl ?_
            refine z_bipush C (nI 46) dX3_nextOrder_72 (by decide) ?_
            by_cases hc_46 : zHe tx ln ((zRn tx ln 2 ((oP s) + 1)).2) = 46
            · have hp9_47 : (zRn tx ln 2 ((oP s) + 1)).2 + 1 ≤ ln := zHe_lt tx (by omega)
              refine z_callV (wn := [(h0, .inr (3, [.ref h1, .int (nI ln), .int (nI (((zRn tx ln 2 ((oP s) + 1)).2) + 1)), .int (nI (zHe tx ln ((oP s) + 1))), .int (oA s), .int ((zRn tx ln 2 ((oP s) + 1)).1), .int (oC s), .int (oV s)])), (h1, .inl (X.2.1.2.2.2.1, 60, .inl (fun j9 => nI (tx j9))))]) C kX3_pass gX3_nextOrder_X3_pass (mX3_pass_y X.2.1 h0 h1 tx ln ((zRn tx ln 2 ((oP s) + 1)).2) (nI (zHe tx ln ((oP s) + 1))) (oA s) ((zRn tx ln 2 ((oP s) + 1)).1) (oC s) (oV s) 46 hln htx hr_44 (by first | assumption | omega) hc_46) dX3_nextOrder_74 [0, 1] [] 0 rfl rfl nd_0_1 rfl rfl rfl (by decide) (by decide) (Nat.le_of_ble_eq_true rfl) rfl rfl ?_
              refine z_bif_eq_f C 107 dX3_nextOrder_77 (by decide) rfl ?_
              refine z_aload_n C 0 dX3_nextOrder_80 rfl rfl ?_
              refine z_callV (wn := [(h0, .inr (3, [.ref h1, .int (nI ln), .int (nI ((zRn tx ln 2 (((zRn tx ln 2 ((oP s) + 1)).2) + 1)).2)), .int (nI (zHe tx ln ((oP s) + 1))), .int (oA s), .int ((zRn tx ln 2 ((oP s) + 1)).1), .int ((zRn tx ln 2 (((zRn tx ln 2 ((oP s) + 1)).2) + 1)).1), .int (oV s)])), (h1, .inl (X.2.1.2.2.2.1, 60, .inl (fun j9 => nI (tx j9))))]) C kX3_readColumn gX3_nextOrder_X3_readColumn (mX3_readColumn X.2.1 h0 h1 tx ln (((zRn tx ln 2 ((oP s) + 1)).2) + 1) (nI (zHe tx ln ((oP s) + 1))) (oA s) ((zRn tx ln 2 ((oP s) + 1)).1) (oC s) (oV s) hln htx hp9_47) dX3_nextOrder_81 [0, 1] [] 0 rfl rfl nd_0_1 rfl rfl rfl (by decide) (by decide) (Nat.le_of_ble_eq_true rfl) rfl rfl ?_
              have hr_48 : (zRn tx ln 2 (((zRn tx ln 2 ((oP s) + 1)).2) + 1)).2 ≤ ln := zRn_le (by omega)
              refine z_bif_eq C 107 dX3_nextOrder_84 (by decide) (fun h_49 => ?_) (fun h_49 => ?_)
              · have h_49n : ((zRn tx ln 2 (((zRn tx ln 2 ((oP s) + 1)).2) + 1)).1 < 0) := by simpa using h_49
                refine z_iconst C (nI 0) dX3_nextOrder_107 (by decide) ?_
                exact z_zret C N dX3_nextOrder_108 rfl (by rw [(zNx_1 (by omega) (by assumption)).trans (zNo_k (by omega) (by first | assumption | omega) (by first | assumption | omega) (by first | assumption | omega))] <;> rfl) (by rw [(zNx_1 (by omega) (by assumption)).trans (zNo_k (by omega) (by first | assumption | omega) (by first | assumption | omega) (by first | assumption | omega))] <;> rfl)
              · have h_49n : ¬ ((zRn tx ln 2 (((zRn tx ln 2 ((oP s) + 1)).2) + 1)).1 < 0) := by simpa using h_49
                refine z_aload_n C 0 dX3_nextOrder_87 rfl rfl ?_
                refine z_bipush C (nI 61) dX3_nextOrder_88 (by decide) ?_
                by_cases hc_50 : zHe tx ln ((zRn tx ln 2 (((zRn tx ln 2 ((oP s) + 1)).2) + 1)).2) = 61
                · have hp9_51 : (zRn tx ln 2 (((zRn tx ln 2 ((oP s) + 1)).2) + 1)).2 + 1 ≤ ln := zHe_lt tx (by omega)
                  refine z_callV (wn := [(h0, .inr (3, [.ref h1, .int (nI ln), .int (nI (((zRn tx ln 2 (((zRn tx ln 2 ((oP s) + 1)).2) + 1)).2) + 1)), .int (nI (zHe tx ln ((oP s) + 1))), .int (oA s), .int ((zRn tx ln 2 ((oP s) + 1)).1), .int ((zRn tx ln 2 (((zRn tx ln 2 ((oP s) + 1)).2) + 1)).1), .int (oV s)])), (h1, .inl (X.2.1.2.2.2.1, 60, .inl (fun j9 => nI (tx j9))))]) C kX3_pass gX3_nextOrder_X3_pass (mX3_pass_y X.2.1 h0 h1 tx ln ((zRn tx ln 2 (((zRn tx ln 2 ((oP s) + 1)).2) + 1)).2) (nI (zHe tx ln ((oP s) + 1))) (oA s) ((zRn tx ln 2 ((oP s) + 1)).1) ((zRn tx ln 2 (((zRn tx ln 2 ((oP s) + 1)).2) + 1)).1) (oV s) 61 hln htx hr_48 (by first | assumption | omega) hc_50) dX3_nextOrder_90 [0, 1] [] 0 rfl rfl nd_0_1 rfl rfl rfl (by decide) (by decide) (Nat.le_of_ble_eq_true rfl) rfl rfl ?_
                  refine z_bif_eq_f C 107 dX3_nextOrder_93 (by decide) rfl ?_
                  refine z_aload_n C 0 dX3_nextOrder_96 rfl rfl ?_
                  refine z_callV (wn := [(h0, .inr (3, [.ref h1, .int (nI ln), .int (nI ((zRn tx ln 4 (((zRn tx ln 2 (((zRn tx ln 2 ((oP s) + 1)).2) + 1)).2) + 1)).2)), .int (nI (zHe tx ln ((oP s) + 1))), .int (oA s), .int ((zRn tx ln 2 ((oP s) + 1)).1), .int ((zRn tx ln 2 (((zRn tx ln 2 ((oP s) + 1)).2) + 1)).1), .int ((zRn tx ln 4 (((zRn tx ln 2 (((zRn tx ln 2 ((oP s) + 1)).2) + 1)).2) + 1)).1)])), (h1, .inl (X.2.1.2.2.2.1, 60, .inl (fun j9 => nI (tx j9))))]) C kX3_readValue gX3_nextOrder_X3_readValue (mX3_readValue X.2.1 h0 h1 tx ln (((zRn tx ln 2 (((zRn tx ln 2 ((oP s) + 1)).2) + 1)).2) + 1) (nI (zHe tx ln ((oP s) + 1))) (oA s) ((zRn tx ln 2 ((oP s) + 1)).1) ((zRn tx ln 2 (((zRn tx ln 2 ((oP s) + 1)).2) + 1)).1) (oV s) hln htx hp9_51) dX3_nextOrder_97 [0, 1] [] 0 rfl rfl nd_0_1 rfl rfl rfl (by decide) (by decide) (Nat.le_of_ble_eq_true rfl) rfl rfl ?_
                  have hr_52 : (zRn tx ln 4 (((zRn tx ln 2 (((zRn tx ln 2 ((oP s) + 1)).2) + 1)).2) + 1)).2 ≤ ln := zRn_le (by omega)
                  refine z_bif_eq C 107 dX3_nextOrder_100 (by decide) (fun h_53 => ?_) (fun h_53 => ?_)
                  · have h_53n : ((zRn tx ln 4 (((zRn tx ln 2 (((zRn tx ln 2 ((oP s) + 1)).2) + 1)).2) + 1)).1 < 0) := by simpa using h_53
                    refine z_iconst C (nI 0) dX3_nextOrder_107 (by decide) ?_
                    exact z_zret C N dX3_nextOrder_108 rfl (by rw [(zNx_1 (by omega) (by assumption)).trans (zNo_v (by omega) (by first | assumption | omega) (by first | assumption | omega) (by first | assumption | omega) (by first | assumption | omega) (zb9_f (by assumption)))] <;> rfl) (by rw [(zNx_1 (by omega) (by assumption)).trans (zNo_v (by omega) (by first | assumption | omega) (by first | assumption | omega) (by first | assumption | omega) (by first | assumption | omega) (zb9_f (by assumption)))] <;> rfl)
                  · have h_53n : ¬ ((zRn tx ln 4 (((zRn tx ln 2 (((zRn tx ln 2 ((oP s) + 1)).2) + 1)).2) + 1)).1 < 0) := by simpa using h_53
                    refine z_iconst C (nI 1) dX3_nextOrder_103 (by decide) ?_
                    refine z_goto C 108 dX3_nextOrder_104 (by decide) ?_
                    exact z_zret C N dX3_nextOrder_108 rfl (by rw [(zNx_1 (by omega) (by assumption)).trans (zNo_v (by omega) (by first | assumption | omega) (by first | assumption | omega) (by first | assumption | omega) (by first | assumption | omega) (zb9_t (by assumption)))] <;> rfl) (by rw [(zNx_1 (by omega) (by assumption)).trans (zNo_v (by omega) (by first | assumption | omega) (by first | assumption | omega) (by first | assumption | omega) (by first | assumption | omega) (zb9_t (by assumption)))] <;> rfl)
                · have hb9_54 : zHe tx ln ((zRn tx ln 2 (((zRn tx ln 2 ((oP s) + 1)).2) + 1)).2) < 65536 := zHe_b htx
                  refine z_callVr C kX3_pass gX3_nextOrder_X3_pass (mX3_pass_n X.2.1 h0 h1 tx ln ((zRn tx ln 2 (((zRn tx ln 2 ((oP s) + 1)).2) + 1)).2) (nI (zHe tx ln ((oP s) + 1))) (oA s) ((zRn tx ln 2 ((oP s) + 1)).1) ((zRn tx ln 2 (((zRn tx ln 2 ((oP s) + 1)).2) + 1)).1) (oV s) 61 hln htx hr_48 (by first | assumption | omega) hc_50) dX3_nextOrder_90 [0, 1] [] 0 rfl nd_0_1 rfl rfl rfl (by decide) (by decide) (Nat.le_of_ble_eq_true rfl) rfl ?_
                  refine z_bif_eq_t C 107 dX3_nextOrder_93 (by decide) rfl ?_
                  refine z_iconst C (nI 0) dX3_nextOrder_107 (by decide) ?_
                  exact z_zret C N dX3_nextOrder_108 rfl (by rw [(zNx_1 (by omega) (by assumption)).trans (zNo_e (by omega) (by first | assumption | omega) (by first | assumption | omega) (by first | assumption | omega) (by first | assumption | omega))] <;> rfl) (by rw [(zNx_1 (by omega) (by assumption)).trans (zNo_e (by omega) (by first | assumption | omega) (by first | assumption | omega) (by first | assumption | omega) (by first | assumption | omega))] <;> rfl)
            · have hb9_55 : zHe tx ln ((zRn tx ln 2 ((oP s) + 1)).2) < 65536 := zHe_b htx
              refine z_callVr C kX3_pass gX3_nextOrder_X3_pass (mX3_pass_n X.2.1 h0 h1 tx ln ((zRn tx ln 2 ((oP s) + 1)).2) (nI (zHe tx ln ((oP s) + 1))) (oA s) ((zRn tx ln 2 ((oP s) + 1)).1) (oC s) (oV s) 46 hln htx hr_44 (by first | assumption | omega) hc_46) dX3_nextOrder_74 [0, 1] [] 0 rfl nd_0_1 rfl rfl rfl (by decide) (by decide) (Nat.le_of_ble_eq_true rfl) rfl ?_
              refine z_bif_eq_t C 107 dX3_nextOrder_77 (by decide) rfl ?_
              refine z_iconst C (nI 0) dX3_nextOrder_107 (by decide) ?_
              exact z_zret C N dX3_nextOrder_108 rfl (by rw [(zNx_1 (by omega) (by assumption)).trans (zNo_d (by omega) (by first | assumption | omega) (by first | assumption | omega))] <;> rfl) (by rw [(zNx_1 (by omega) (by assumption)).trans (zNo_d (by omega) (by first | assumption | omega) (by first | assumption | omega))] <;> rfl)
    · have hb9_56 : zHe tx ln (oP s) < 65536 := zHe_b htx
      refine z_callVr C kX3_pass gX3_nextOrder_X3_pass (mX3_pass_n X.2.1 h0 h1 tx ln (oP s) (oS s) (oA s) (oL s) (oC s) (oV s) 32 hln htx hp (by first | assumption | omega) hc_28) dX3_nextOrder_10 [0, 1] [] 0 rfl nd_0_1 rfl rfl rfl (by decide) (by decide) (Nat.le_of_ble_eq_true rfl) rfl ?_
      refine z_bif_ne_f C 18 dX3_nextOrder_13 (by decide) rfl ?_
      refine z_iconst C (nI 0) dX3_nextOrder_16 (by decide) ?_
      exact z_zret C N dX3_nextOrder_17 rfl (by rw [zNx_n (by omega) (by assumption)] <;> rfl) (by rw [zNx_n (by omega) (by assumption)] <;> rfl)

theorem kX3_fault : zY yX3_fault wsX3_fault cX3_fault 2 (some .int) 0 := ⟨⟨_, rfl⟩, ⟨by decide +kernel, by decide +kernel, by decide +kernel⟩, by decide +kernel⟩
theorem fX3_fault_26 : zF wsX3_fault RX3 26 3 2 RX3 TX3 8 := ⟨by decide +kernel, rfl, by decide, by decide +kernel, rfl⟩
theorem fX3_fault_15 : zF wsX3_fault RX3 15 3 1 RX3 TX3 8 := ⟨by decide +kernel, rfl, by decide, by decide +kernel, rfl⟩
set_option maxHeartbeats 4000000 in
set_option maxRecDepth 100000 in
theorem mX3_fault (E : zE) (h0 h1 : Nat) (tx : Nat → Nat) (ln : Nat) (s : zPs) (hln : ln ≤ 60) (htx : ∀ j, tx j < 65536) (hp : oP s ≤ ln) : zM E yX3_fault wsX3_fault 5 [.ref h0] [(h0, .inr (3, [.ref h1, .int (nI ln), .int (nI (oP s)), .int (oS s), .int (oA s), .int (oL s), .int (oC s), .int (oV s)])), (h1, .inl (E.2.2.2.1, 60, .inl (fun j9 => nI (tx j9))))] [(h0, .inr (3, [.ref h1, .int (nI ln), .int (nI (oP ((zFl tx ln 60 (zRw s)).2))), .int (oS ((zFl tx ln 60 (zRw s)).2)), .int (oA ((zFl tx ln 60 (zRw s)).2)), .int (oL ((zFl tx ln 60 (zRw s)).2)), .int (oC ((zFl tx ln 60 (zRw s)).2)), .int (oV ((zFl tx ln 60 (zRw s)).2))])), (h1, .inl (E.2.2.2.1, 60, .inl (fun j9 => nI (tx j9))))] (some (.int ((zFl tx ln 60 (zRw s)).1))) := by
  refine zM.of kX3_fault (Nat.le_of_ble_eq_true rfl) rfl [some (.ref h0), none] rfl (Nat.le_of_ble_eq_true rfl) ?_
  intro X eX C N
  subst eX
  refine z_aload_n C 0 dX3_fault_0 rfl rfl ?_
  refine z_callVv (wn := [(h0, .inr (3, [.ref h1, .int (nI ln), .int (nI 0), .int (oS s), .int (oA s), .int (oL s), .int (oC s), .int (oV s)])), (h1, .inl (X.2.1.2.2.2.1, 60, .inl (fun j9 => nI (tx j9))))]) C kX3_rewind gX3_fault_X3_rewind (mX3_rewind X.2.1 h0 h1 tx ln (oP s) (oS s) (oA s) (oL s) (oC s) (oV s) hln htx hp) dX3_fault_1 [0, 1] [] 0 rfl rfl nd_0_1 rfl rfl rfl (by decide) (by decide) (Nat.le_of_ble_eq_true rfl) rfl rfl ?_
  refine z_iconst C (nI 0) dX3_fault_4 (by decide) ?_
  refine z_istore_n C 1 dX3_fault_5 rfl (Nat.le_of_ble_eq_true rfl) ?_
  have hL6 : ∀ (dd : Nat) (k : Nat) (t : zPs), 60 - k = dd → (k ≤ 60) → (zFl tx ln (60 - k) t = zFl tx ln 60 (zRw s)) → (oP t ≤ ln) → zG X 0 0 [(h0, .inr (3, [.ref h1, .int (nI ln), .int (nI (oP t)), .int (oS t), .int (oA t), .int (oL t), .int (oC t), .int (oV t)])), (h1, .inl (X.2.1.2.2.2.1, 60, .inl (fun j9 => nI (tx j9))))] [some (.ref h0), some (.int (nI k))] [] 6 := by
    intro dd
    induction dd using Nat.strongRecOn with
    | _ dd ih6 =>
    intro k t hdd hk ht htp
    have hle9 := zNx_le (tx := tx) htp
    refine z_iload_n C 1 dX3_fault_6 rfl rfl ?_
    refine z_bipush C (nI 60) dX3_fault_7 (by decide) ?_
    refine z_ncmp_ge C 44 dX3_fault_9 (by decide) (by omega) (by omega) (fun h_1 => ?_) (fun h_1 => ?_)
    · refine z_aload_n C 0 dX3_fault_44 rfl rfl ?_
      refine z_get C fX3_fault_26 0 dX3_fault_45 rfl rfl ?_
      exact z_iret C N dX3_fault_48 (by (first | rw [← ht, show 60 - k = 0 by omega, zFl] | (rw [← ht, show 60 - k = (60 - (k + 1)) + 1 by omega]; simp only [zFl]; rw [if_pos (by assumption), if_pos (by omega)]) | (rw [← ht, show 60 - k = (60 - (k + 1)) + 1 by omega]; simp only [zFl]; rw [if_neg (by simp [h_1])])) <;> rfl) (by (first | rw [← ht, show 60 - k = 0 by omega, zFl] | (rw [← ht, show 60 - k = (60 - (k + 1)) + 1 by omega]; simp only [zFl]; rw [if_pos (by assumption), if_pos (by omega)]) | (rw [← ht, show 60 - k = (60 - (k + 1)) + 1 by omega]; simp only [zFl]; rw [if_neg (by simp [h_1])])) <;> rfl)
    · refine z_aload_n C 0 dX3_fault_12 rfl rfl ?_
      refine z_callV (wn := [(h0, .inr (3, [.ref h1, .int (nI ln), .int (nI (oP ((zNx tx ln t).2))), .int (oS ((zNx tx ln t).2)), .int (oA ((zNx tx ln t).2)), .int (oL ((zNx tx ln t).2)), .int (oC ((zNx tx ln t).2)), .int (oV ((zNx tx ln t).2))])), (h1, .inl (X.2.1.2.2.2.1, 60, .inl (fun j9 => nI (tx j9))))]) C kX3_nextOrder gX3_fault_X3_nextOrder (mX3_nextOrder X.2.1 h0 h1 tx ln t hln htx htp) dX3_fault_13 [0, 1] [] 0 rfl rfl nd_0_1 rfl rfl rfl (by decide) (by decide) (Nat.le_of_ble_eq_true rfl) rfl rfl ?_
      refine z_bif_ne C 24 dX3_fault_16 (by decide) (fun h_2 => ?_) (fun h_2 => ?_)
      · refine z_aload_n C 0 dX3_fault_24 rfl rfl ?_
        refine z_get C fX3_fault_26 0 dX3_fault_25 rfl rfl ?_
        refine z_aload_n C 0 dX3_fault_28 rfl rfl ?_
        refine z_get C fX3_fault_15 0 dX3_fault_29 rfl rfl ?_
        refine z_ncmp_lt C 38 dX3_fault_32 (by decide) (by omega) (by omega) (fun h_3 => ?_) (fun h_3 => ?_)
        · refine z_iinc C (nI (k + 1)) dX3_fault_38 rfl (zi_1 _) ?_
          refine z_goto C 6 dX3_fault_41 (by decide) ?_
          exact ih6 (60 - (k + 1)) (by omega) (k + 1) ((zNx tx ln t).2) rfl (by omega) (by rw [← ht, show 60 - k = (60 - (k + 1)) + 1 by omega]; simp only [zFl]; rw [if_pos (by assumption), if_neg (by omega)]) (by exact zNx_le htp)
        · refine z_bipush C (-5) dX3_fault_35 (by decide) ?_
          exact z_iret C N dX3_fault_37 (by (first | rw [← ht, show 60 - k = 0 by omega, zFl] | (rw [← ht, show 60 - k = (60 - (k + 1)) + 1 by omega]; simp only [zFl]; rw [if_pos (by assumption), if_pos (by omega)]) | (rw [← ht, show 60 - k = (60 - (k + 1)) + 1 by omega]; simp only [zFl]; rw [if_neg (by simp [h_1, h_2, h_3])])) <;> rfl) (by (first | rw [← ht, show 60 - k = 0 by omega, zFl] | (rw [← ht, show 60 - k = (60 - (k + 1)) + 1 by omega]; simp only [zFl]; rw [if_pos (by assumption), if_pos (by omega)]) | (rw [← ht, show 60 - k = (60 - (k + 1)) + 1 by omega]; simp only [zFl]; rw [if_neg (by simp [h_1, h_2, h_3])])) <;> rfl)
      · refine z_aload_n C 0 dX3_fault_19 rfl rfl ?_
        refine z_get C fX3_fault_26 0 dX3_fault_20 rfl rfl ?_
        exact z_iret C N dX3_fault_23 (by (first | rw [← ht, show 60 - k = 0 by omega, zFl] | (rw [← ht, show 60 - k = (60 - (k + 1)) + 1 by omega]; simp only [zFl]; rw [if_pos (by assumption), if_pos (by omega)]) | (rw [← ht, show 60 - k = (60 - (k + 1)) + 1 by omega]; simp only [zFl]; rw [if_neg (by simp [h_1, h_2])])) <;> rfl) (by (first | rw [← ht, show 60 - k = 0 by omega, zFl] | (rw [← ht, show 60 - k = (60 - (k + 1)) + 1 by omega]; simp only [zFl]; rw [if_pos (by assumption), if_pos (by omega)]) | (rw [← ht, show 60 - k = (60 - (k + 1)) + 1 by omega]; simp only [zFl]; rw [if_neg (by simp [h_1, h_2])])) <;> rfl)
  exact hL6 _ 0 (zRw s) rfl (by omega) (rfl) (by exact Nat.zero_le _)
