/-! pairs: the text, and running its orders -/
theorem mRL_le {tx : Nat → Nat} {ln : Nat} : ∀ {d p od : Nat} {g : Bool} {oo : Nat → Int32}, p ≤ ln → (mRL tx ln d p g od oo).1 ≤ ln
  | 0, p, od, g, oo, h => h
  | d + 1, p, od, g, oo, h => by
    rw [mRL]
    split
    · rename_i q
      exact mRL_le (mRO_le (zHe_lt tx (by omega)))
    · exact h
theorem mRA9_le {tx : Nat → Nat} {ln : Nat} {oo : Nat → Int32} : (mRA9 tx ln oo).1 ≤ ln := mRL_le (mRO_le (Nat.zero_le _))
theorem mRL_od {tx : Nat → Nat} {ln : Nat} : ∀ {d p od : Nat} {g : Bool} {oo : Nat → Int32}, (mRL tx ln d p g od oo).2.2.1 ≤ od + d
  | 0, p, od, g, oo => Nat.le_refl _
  | d + 1, p, od, g, oo => by
    rw [mRL]
    split
    · have := mRL_od (tx := tx) (ln := ln) (d := d) (p := (mRO tx ln (p + 1) od oo).1) (od := od + 1) (g := (mRO tx ln (p + 1) od oo).2.1) (oo := (mRO tx ln (p + 1) od oo).2.2)
      omega
    · show od ≤ od + (d + 1)
      omega
theorem mRA9_od {tx : Nat → Nat} {ln : Nat} {oo : Nat → Int32} : (mRA9 tx ln oo).2.2.1 ≤ 61 := mRL_od
def TX (tx : Nat → Nat) (ln : Nat) : Prop := ln ≤ 60 ∧ ∀ j, tx j < 65536
section TEXTS
variable (E : zE) (x0 h0 h1 w0 w1 : Nat) (t : Nat → Nat) (r : Nat → Nat → Nat) (a : Nat → Nat) (ln pl : Nat) (gd : Bool) (od : Nat) (tx : Nat → Nat) (oo : Nat → Int32) {S : zSt} {o kp B : Nat} {Q : Nat → zSt} {s u : zMs} {Qm : Nat → zMs} (ps : zPs)
theorem pr_run (h : RR S s B) (hh : HH o kp Q Qm B) (ht : TX tx ln) (hB : B < 2147483500) (au : Int32) : ∃ (v : Int32) (S' : zSt) (o' kp' : Nat) (Q' : Nat → zSt) (ps' : zPs) (pl' : Nat) (gd' : Bool) (od' : Nat) (oo' : Nat → Int32) (s' u' : zMs) (Qm' : Nat → zMs),
    zM E yX5_run wsX5_run 8 [.ref x0, .int au] (WRd E x0 h0 h1 w0 w1 t r S o kp Q tx ln ps) (WRd E x0 h0 h1 w0 w1 t r S' o' kp' Q' tx ln ps') (some (.int v)) ∧
    zM E yX6_run wsX6_run 7 [.ref (a 0), .int au] (WNd E a kp ln pl gd od s u Qm tx oo) (WNd E a kp' ln pl' gd' od' s' u' Qm' tx oo') (some (.int v)) ∧ RR S' s' (B + 61) ∧ HH o' kp' Q' Qm' (B + 61) := by
  obtain ⟨t1, t2⟩ := id ht
  rcases z_inout au 4 (by decide) with c | ⟨n, hn, e⟩
  · exact ⟨-1, S, o, kp, Q, ps, pl, gd, od, oo, s, u, Qm, mX5_run9_b E x0 h0 h1 w0 w1 t r S o kp Q tx ln ps au h.1.1.1 h.1.1.2 hh.1 hh.2.1 t1 t2 c, mX6_run_b E a kp ln pl gd od s u Qm tx oo au h.1.2.1 hh.2.1 t1 t2 c, RR_mono h (by omega), HH_mono hh (by omega)⟩
  · subst e
    have fl := Fl_t (tx := tx) (ln := ln) (s := ps) (oo := oo) t1
    have le := mRA9_le (tx := tx) (ln := ln) (oo := oo)
    have lo := mRA9_od (tx := tx) (ln := ln) (oo := oo)
    obtain ⟨⟨p9, g9, o9, oo9⟩, hr⟩ : ∃ q, mRA9 tx ln oo = q := ⟨_, rfl⟩
    rw [hr] at fl le lo
    have le' : p9 ≤ ln := le
    have lo' : o9 ≤ 61 := lo
    by_cases c : g9 = true ∧ ln ≤ p9
    · have fl' : (zFl tx ln 60 (zRw ps)).1 = -5 := fl.trans (if_pos c)
      obtain ⟨rfl, c2⟩ := c
      obtain ⟨e, hR⟩ := CO_t (au := nI n) (ps := (zFl tx ln 60 (zRw ps)).2) t1 h (by omega) hr c2
      have hC : ∀ k, k ≤ o9 → okM (nU (mCO s (nI n) oo9 k)) (nS (mCO s (nI n) oo9 k)) (nM (mCO s (nI n) oo9 k)) (nK (mCO s (nI n) oo9 k)) ∧ nmM (nU (mCO s (nI n) oo9 k)) (nS (mCO s (nI n) oo9 k)) (nN (mCO s (nI n) oo9 k)) := by
        intro k hk
        obtain ⟨S', h'⟩ := mCO_ex (au := nI n) (oo := oo9) h (k := k) (by omega)
        exact ⟨h'.1.2.1, h'.1.2.2.1⟩
      have m := mX6_run E a kp ln pl gd od s u Qm tx oo n p9 o9 oo9 h.1.2.1 hh.2.1 t1 t2 hn hr c2 hC
      rw [← e, ← zHk_m hh.2.1] at m
      exact ⟨_, _, _, _, _, _, _, _, _, _, _, _, _, mX5_run9 E x0 h0 h1 w0 w1 t r S o kp Q tx ln ps n h.1.1.1 h.1.1.2 hh.1 hh.2.1 t1 t2 hn (by rw [fl']; decide), m, RR_mono hR (by omega), HH_mono (HH_act hh h _) (by omega)⟩
    · have fl' : (zFl tx ln 60 (zRw ps)).1 = nI p9 := fl.trans (if_neg c)
      have hF : g9 = false ∨ p9 < ln := by
        cases g9 with
        | false => exact Or.inl rfl
        | true => exact Or.inr (Nat.not_le.mp (fun q => c ⟨rfl, q⟩))
      have m := mX6_run_f E a kp ln pl gd od s u Qm tx oo n p9 g9 o9 oo9 h.1.2.1 hh.2.1 t1 t2 hn hr hF
      have m2 := mX5_run9_f E x0 h0 h1 w0 w1 t r S o kp Q tx ln ps n h.1.1.1 h.1.1.2 hh.1 hh.2.1 t1 t2 hn (by rw [fl']; exact nI_pos (by omega))
      have e9 : (-100 : Int32) - (zFl tx ln 60 (zRw ps)).1 = -100 - nI p9 := by rw [fl']
      exact ⟨-100 - nI p9, S, o, kp, Q, (zFl tx ln 60 (zRw ps)).2, p9, g9, o9, oo9, s, u, Qm, e9 ▸ m2, m, RR_mono h (by omega), HH_mono hh (by omega)⟩
theorem pr_clear (t0 : Nat) (ht : TX tx ln) : zM E yX5_clearText wsX5_clearText 1 [.ref x0] (WXd E x0 t0 h0 w0 w1 tx ln ps) (WXd E x0 t0 h0 w0 w1 tx 0 ps) (some (.int (nI ln))) ∧ zM E yX6_clearText wsX6_clearText 0 [.ref (a 0)] (WYd E a kp ln pl gd od tx) (WYd E a kp 0 pl gd od tx) (some (.int (nI ln))) :=
  ⟨mX5_clearText E x0 t0 h0 w0 w1 tx ln ps ht.1, mX6_clearText E a kp ln pl gd od tx⟩
theorem pr_type (t0 c : Nat) (ht : TX tx ln) (hc : c < 65536) : ∃ (v : Int32) (tx' : Nat → Nat) (ln' : Nat), zM E yX5_type wsX5_type 1 [.ref x0, .int (nI c)] (WXd E x0 t0 h0 w0 w1 tx ln ps) (WXd E x0 t0 h0 w0 w1 tx' ln' ps) (some (.int v)) ∧ zM E yX6_type wsX6_type 0 [.ref (a 0), .int (nI c)] (WYd E a kp ln pl gd od tx) (WYd E a kp ln' pl gd od tx') (some (.int v)) ∧ TX tx' ln' := by
  obtain ⟨t1, t2⟩ := id ht
  by_cases q : ln = 60
  · exact ⟨-3, tx, ln, mX5_type9_f E x0 t0 h0 w0 w1 tx ln ps (nI c) q t2, mX6_type_f E a kp ln pl gd od tx (nI c) q, ht⟩
  · refine ⟨nI (ln + 1), zUpN tx ln c, ln + 1, mX5_type9 E x0 t0 h0 w0 w1 tx ln ps c (by omega) t2 hc, mX6_type E a kp ln pl gd od tx c (by omega) hc, by omega, fun j => ?_⟩
    unfold zUpN
    split
    · exact hc
    · exact t2 j
end TEXTS
