/-! orders and errors: over any good table -/
section ACTS3
variable (E : zE) (x0 h0 h1 w0 w1 : Nat) (t : Nat → Nat) (r : Nat → Nat → Nat) (S : zSt) (o kp : Nat) (Q : Nat → zSt) (tx : Nat → Nat) (ln : Nat) (ps : zPs) {B : Nat}
theorem r_f {au f : Nat} {v : Int32} (h : GG S B) (ho : o < 5) (hk : kp ≤ 4) (hln : ln ≤ 60) (htx : ∀ j, tx j < 65536) (hau : au < 4) (e : (zFl tx ln 60 (zRw ps)).1 = nI f) (hf : f < 1000) (hv : (-100 : Int32) - nI f = v) : zM E yX5_run wsX5_run 8 [.ref x0, .int (nI au)] (WRd E x0 h0 h1 w0 w1 t r S o kp Q tx ln ps) (WRd E x0 h0 h1 w0 w1 t r S o kp Q tx ln (zFl tx ln 60 (zRw ps)).2) (some (.int v)) := by
  have m := mX5_run9_f E x0 h0 h1 w0 w1 t r S o kp Q tx ln ps au (gg_S h).1 (gg_S h).2 ho hk hln htx hau (by rw [e]; exact nI_pos (by omega))
  have e2 : (-100 : Int32) - (zFl tx ln 60 (zRw ps)).1 = v := by rw [e, hv]
  rw [e2] at m
  exact m
theorem r_b (h : GG S B) (ho : o < 5) (hk : kp ≤ 4) (hln : ln ≤ 60) (htx : ∀ j, tx j < 65536) : zM E yX5_run wsX5_run 8 [.ref x0, .int (nI 4)] (WRd E x0 h0 h1 w0 w1 t r S o kp Q tx ln ps) (WRd E x0 h0 h1 w0 w1 t r S o kp Q tx ln ps) (some (.int (-1))) := mX5_run9_b E x0 h0 h1 w0 w1 t r S o kp Q tx ln ps (nI 4) (gg_S h).1 (gg_S h).2 ho hk hln htx (by decide)
theorem r_ok {au n : Nat} {S1 : zSt} (h : GG S B) (ho : o < 5) (hk : kp ≤ 4) (hln : ln ≤ 60) (htx : ∀ j, tx j < 65536) (hau : au < 4) (e : (zFl tx ln 60 (zRw ps)).1 = -5) (e1 : (zCO tx ln (nI au) 60 0 S (zRw (zFl tx ln 60 (zRw ps)).2)).1 = n) (e2 : (zCO tx ln (nI au) 60 0 S (zRw (zFl tx ln 60 (zRw ps)).2)).2.1 = S1) : zM E yX5_run wsX5_run 8 [.ref x0, .int (nI au)] (WRd E x0 h0 h1 w0 w1 t r S o kp Q tx ln ps) (WRd E x0 h0 h1 w0 w1 t r S1 (zHo (nI n) o kp) (zHk (nI n) kp) (zRp Q ((o + kp) % 5) S) tx ln (zCO tx ln (nI au) 60 0 S (zRw (zFl tx ln 60 (zRw ps)).2)).2.2) (some (.int (nI n))) := by
  have m := mX5_run9 E x0 h0 h1 w0 w1 t r S o kp Q tx ln ps au (gg_S h).1 (gg_S h).2 ho hk hln htx hau (by rw [e]; decide)
  rw [e1, e2] at m
  exact m
theorem u_do {S1 : zSt} {n : Nat} (ho : o < 5) (hk : kp ≤ 4) (hn : n < 1000) : ∃ v, v < 4 ∧ zM E yX5_undo wsX5_undo 5 [.ref x0] (WAd E x0 h0 h1 w0 t r S1 (zHo (nI n) o kp) (zHk (nI n) kp) (zRp Q ((o + kp) % 5) S)) (WAd E x0 h0 h1 w0 t r S (zHo (nI n) o kp) v (zRp Q ((o + kp) % 5) S)) (some (.int (nI v))) := by
  have np : ¬ nI n < 0 := nI_pos (by omega)
  by_cases c : kp < 4
  · have m := mX5_undo E x0 h0 h1 w0 t r S1 o kp (zRp Q ((o + kp) % 5) S) ho c
    have e : zRp Q ((o + kp) % 5) S ((o + kp) % 5) = S := if_pos rfl
    rw [e] at m
    rw [show zHo (nI n) o kp = o by rw [zHo, if_neg np, if_pos c], show zHk (nI n) kp = kp + 1 by rw [zHk, if_neg np, if_pos c]]
    exact ⟨kp, c, m⟩
  · have e4 : kp = 4 := by omega
    subst e4
    have m := mX5_undo E x0 h0 h1 w0 t r S1 ((o + 1) % 5) 3 (zRp Q ((o + 4) % 5) S) (Nat.mod_lt _ (by decide)) (by decide)
    have e : zRp Q ((o + 4) % 5) S (((o + 1) % 5 + 3) % 5) = S := if_pos (by omega)
    rw [e] at m
    rw [show zHo (nI n) o 4 = (o + 1) % 5 by rw [zHo, if_neg np, if_neg c], show zHk (nI n) 4 = 4 by rw [zHk, if_neg np, if_neg c]]
    exact ⟨3, by decide, m⟩

theorem o_00 (au : Nat) (g h9 : Int32) (h : GG S B) (hB : B < 2147483600) (ho : o < 5) (hk : kp ≤ 4) (hln : ln ≤ 60) (htx : ∀ j, tx j < 65536) (hau : au < 4) (hg1 : g &&& (nI 1) = nI 0) (hg2 : g &&& (nI 2) = 0) : LGd E x0 h0 h1 w0 w1 t r yL_orders wsL_orders 9 [.ref x0, .int (nI au), .int g, .int h9] S o kp Q tx ln ps (B + 2) := by
  have hu := gg_u h 0
  have hmx : uU S 0 ≤ 12 := gg_mx h (a := 0) (by decide)
  have hM := gg_M h
  have h2 := GG_mono h (show B ≤ B + 2 by omega)
  have hdd := lw_lt h9 (n := 10) (by decide)
  obtain ⟨dd, hd⟩ : ∃ d, lw h9 10 = d := ⟨_, rfl⟩
  rw [hd] at hdd
  have b1 : ∀ j, (tyL tx [43]) j < 65536 := tyL_b htx (by intro c hc; simp at hc; omega)
  have b4 : ∀ j, (tyL tx [48 + dd, 48, 114, 43]) j < 65536 := tyL_b htx (by intro c hc; simp at hc; omega)
  have b8 : ∀ j, (tyL (tyL tx [48 + dd, 48, 114, 43]) [57, 57, 114, 43, 32, 48, 114, 43]) j < 65536 := tyL_b b4 (by intro c hc; simp at hc; omega)
  have b9 : ∀ j, (tyL (tyL tx [48 + dd, 48, 114, 43]) [57, 57, 57, 114, 43, 32, 48, 114, 43]) j < 65536 := tyL_b b4 (by intro c hc; simp at hc; omega)
  have m1 := r_f E x0 h0 h1 w0 w1 t r S o kp Q (tyL tx []) 0 ps h ho hk (by decide) htx hau F_0 (by decide) (show (-100 : Int32) - nI 0 = -100 by decide)
  generalize (zFl (tyL tx []) 0 60 (zRw ps)).2 = ps1 at m1
  have m2 := r_b E x0 h0 h1 w0 w1 t r S o kp Q (tyL tx []) 0 ps1 h ho hk (by decide) htx
  have m3 := r_f E x0 h0 h1 w0 w1 t r S o kp Q (tyL tx [43]) 1 ps1 h ho hk (by decide) b1 hau (F_1 (Or.inl rfl)) (by decide) (show (-100 : Int32) - nI 1 = -101 by decide)
  generalize (zFl (tyL tx [43]) 1 60 (zRw ps1)).2 = ps2 at m3
  have m4 := r_f E x0 h0 h1 w0 w1 t r S o kp Q (tyL tx [48 + dd, 48, 114, 43]) 4 ps2 h ho hk (by decide) b4 hau (F_4 (a := 0) (Or.inl rfl) (by decide) rfl rfl (show 48 + dd ≠ 32 by omega)) (by decide) (show (-100 : Int32) - nI 3 = -103 by decide)
  generalize (zFl (tyL tx [48 + dd, 48, 114, 43]) 4 60 (zRw ps2)).2 = ps3 at m4
  have f8 := F_8 (tx := (tyL (tyL tx [48 + dd, 48, 114, 43]) [57, 57, 114, 43, 32, 48, 114, 43])) (a := 0) (s := ps3) rfl (by decide) rfl rfl rfl rfl rfl rfl rfl
  have c8 := C_8 (tx := (tyL (tyL tx [48 + dd, 48, 114, 43]) [57, 57, 114, 43, 32, 48, 114, 43])) (a := 0) (s := (zFl (tyL (tyL tx [48 + dd, 48, 114, 43]) [57, 57, 114, 43, 32, 48, 114, 43]) 8 60 (zRw ps3)).2) h (by omega) hau rfl (by decide) rfl rfl rfl rfl rfl rfl rfl
  have e0 : zIns S (nI au) (nI 0) (nI 0) = zInsR S (nI au) (nI 0) := by
    unfold zIns
    rw [if_neg (nbA hau), if_pos nI_0]
  have n1 : ¬ (nI 0 < 0 ∨ nI (rU S) < nI 0) := by
    rintro (q | q)
    · exact absurd q (by decide)
    · have := (nI_ltI (by have : uU S 0 = rU S := rfl; omega) (by decide)).mp q
      omega
  have fin : ∀ (v : Int32) (S1 : zSt) (n : Nat), zIns S (nI au) (nI 0) (nI 0) = (v, S1) → (if v < 0 then 0 else 1) = n → n < 2 → GG S1 (B + 1) →
      (∀ (o1 o2 kp1 kp2 : Nat) (Q1 : Nat → zSt) (ps4 ps5 : zPs) (lf : Nat), lf < 100 →
        zM E yX5_run wsX5_run 8 [.ref x0, .int (nI au)] (WRd E x0 h0 h1 w0 w1 t r S o kp Q (tyL (tyL tx [48 + dd, 48, 114, 43]) [57, 57, 114, 43, 32, 48, 114, 43]) 8 ps3) (WRd E x0 h0 h1 w0 w1 t r S1 o1 kp1 Q1 (tyL (tyL tx [48 + dd, 48, 114, 43]) [57, 57, 114, 43, 32, 48, 114, 43]) 8 ps4) (some (.int (nI n))) →
        zM E yX5_run wsX5_run 8 [.ref x0, .int (nI au)] (WRd E x0 h0 h1 w0 w1 t r S1 o1 kp1 Q1 (tyL (tyL tx [48 + dd, 48, 114, 43]) [57, 57, 57, 114, 43, 32, 48, 114, 43]) 9 ps4) (WRd E x0 h0 h1 w0 w1 t r S1 o1 kp1 Q1 (tyL (tyL tx [48 + dd, 48, 114, 43]) [57, 57, 57, 114, 43, 32, 48, 114, 43]) 9 ps5) (some (.int (-108))) →
        zM E yX5_undo wsX5_undo 5 [.ref x0] (WAd E x0 h0 h1 w0 t r S1 o1 kp1 Q1) (WAd E x0 h0 h1 w0 t r S o2 kp2 Q1) (some (.int (nI lf))) →
        zM E yL_orders wsL_orders 9 [.ref x0, .int (nI au), .int g, .int h9] (WRd E x0 h0 h1 w0 w1 t r S o kp Q tx ln ps) (WRd E x0 h0 h1 w0 w1 t r S o2 kp2 Q1 (tyL (tyL tx [48 + dd, 48, 114, 43]) [57, 57, 57, 114, 43, 32, 48, 114, 43]) 9 ps5) (some (.int (nI 1)))) →
      LGd E x0 h0 h1 w0 w1 t r yL_orders wsL_orders 9 [.ref x0, .int (nI au), .int g, .int h9] S o kp Q tx ln ps (B + 2) := fun v S1 n e en hn hG1 K => by
    rw [e] at c8
    have m5 := r_ok E x0 h0 h1 w0 w1 t r S o kp Q (tyL (tyL tx [48 + dd, 48, 114, 43]) [57, 57, 114, 43, 32, 48, 114, 43]) 8 ps3 h ho hk (by decide) b8 hau f8 (c8.1.trans en) c8.2
    generalize (zCO (tyL (tyL tx [48 + dd, 48, 114, 43]) [57, 57, 114, 43, 32, 48, 114, 43]) 8 (nI au) 60 0 S (zRw (zFl (tyL (tyL tx [48 + dd, 48, 114, 43]) [57, 57, 114, 43, 32, 48, 114, 43]) 8 60 (zRw ps3)).2)).2.2 = ps4 at m5
    have m6 := r_f E x0 h0 h1 w0 w1 t r S1 (zHo (nI n) o kp) (zHk (nI n) kp) (zRp Q ((o + kp) % 5) S) (tyL (tyL tx [48 + dd, 48, 114, 43]) [57, 57, 57, 114, 43, 32, 48, 114, 43]) 9 ps4 hG1 (zHo_lt ho) (zHk_le hk) (by decide) b9 hau (F_9 (a := 0) rfl (by decide) rfl rfl rfl rfl rfl rfl rfl rfl) (by decide) (show (-100 : Int32) - nI 8 = -108 by decide)
    generalize (zFl (tyL (tyL tx [48 + dd, 48, 114, 43]) [57, 57, 57, 114, 43, 32, 48, 114, 43]) 9 60 (zRw ps4)).2 = ps5 at m6
    obtain ⟨lf, hlf, m7⟩ := u_do E x0 h0 h1 w0 t r S o kp Q (S1 := S1) (n := n) ho hk (by omega)
    exact ⟨S, _, _, _, _, 9, ps5, h2, zHo_lt ho, (by omega : lf ≤ 4), by decide, b9, K _ _ _ _ _ _ _ lf (by omega) m5 m6 m7⟩
  by_cases c2 : uU S 0 = 12
  · have e : zIns S (nI au) (nI 0) (nI 0) = (-3, S) := by
      rw [e0]
      unfold zInsR
      rw [if_neg n1, if_pos (Or.inl (show 12 ≤ rU S from Nat.le_of_eq c2.symm))]
    have hG1 := GG_mono h (show B ≤ B + 1 by omega)
    exact fin (-3) S 0 e (by decide) (by decide) hG1 (fun o1 o2 kp1 kp2 Q1 ps4 ps5 lf hlf m5 m6 m7 => w_ord00f E x0 h0 h1 w0 w1 t r S S o kp o1 o2 kp1 kp2 Q Q1 tx ln ps ps1 ps2 ps3 ps4 ps5 au g h9 dd lf h hG1 hau hg1 hg2 hd hdd hln htx hlf rfl c2 m1 m2 m3 m4 m5 m6 m7)
  · have c2' : uU S 0 < 12 := by omega
    have c3 : ¬ 12 ≤ rU S := Nat.not_le.mpr c2'
    cases ht : tK S with
    | true =>
      by_cases c4 : mK S = 60
      · have e : zIns S (nI au) (nI 0) (nI 0) = (-3, S) := by
          rw [e0]
          unfold zInsR
          rw [if_neg n1, if_pos (Or.inr ⟨ht, by omega⟩)]
        have hG1 := GG_mono h (show B ≤ B + 1 by omega)
        exact fin (-3) S 0 e (by decide) (by decide) hG1 (fun o1 o2 kp1 kp2 Q1 ps4 ps5 lf hlf m5 m6 m7 => w_ord00m E x0 h0 h1 w0 w1 t r S S o kp o1 o2 kp1 kp2 Q Q1 tx ln ps ps1 ps2 ps3 ps4 ps5 au g h9 dd lf h hG1 hau hg1 hg2 hd hdd hln htx hlf rfl c2' ht c4 m1 m2 m3 m4 m5 m6 m7)
      · have e : zIns S (nI au) (nI 0) (nI 0) = (nI (mK S), (zNew (zInR S 0) (nI 0) (nI au) (rO S (rU S)) (-5) (-5))) := by
          rw [e0]
          unfold zInsR
          rw [if_neg n1, if_neg (by rintro (q | q); exact c3 q; omega), if_pos ht, nI_clamp (by omega)]
        have hG1 := GG_Ins (ax := nI 0) (pl := nI 0) h (by omega) hau
        rw [e] at hG1
        exact fin (nI (mK S)) (zNew (zInR S 0) (nI 0) (nI au) (rO S (rU S)) (-5) (-5)) 1 e (if_neg (nI_pos (by omega))) (by decide) hG1 (fun o1 o2 kp1 kp2 Q1 ps4 ps5 lf hlf m5 m6 m7 => w_ord00t E x0 h0 h1 w0 w1 t r S (zNew (zInR S 0) (nI 0) (nI au) (rO S (rU S)) (-5) (-5)) o kp o1 o2 kp1 kp2 Q Q1 tx ln ps ps1 ps2 ps3 ps4 ps5 au g h9 dd lf h hG1 hau hg1 hg2 hd hdd hln htx hlf rfl c2' ht (by omega) m1 m2 m3 m4 m5 m6 m7)
    | false =>
      have e : zIns S (nI au) (nI 0) (nI 0) = (nI 1000, (zInR S 0)) := by
        rw [e0]
        unfold zInsR
        rw [if_neg n1, if_neg (by rintro (q | q); exact c3 q; rw [ht] at q; exact absurd q.1 (by decide)), if_neg (by rw [ht]; decide), nI_clamp (by omega)]
      have hG1 := GG_Ins (ax := nI 0) (pl := nI 0) h (by omega) hau
      rw [e] at hG1
      exact fin (nI 1000) (zInR S 0) 1 e (by decide) (by decide) hG1 (fun o1 o2 kp1 kp2 Q1 ps4 ps5 lf hlf m5 m6 m7 => w_ord00y E x0 h0 h1 w0 w1 t r S (zInR S 0) o kp o1 o2 kp1 kp2 Q Q1 tx ln ps ps1 ps2 ps3 ps4 ps5 au g h9 dd lf h hG1 hau hg1 hg2 hd hdd hln htx hlf rfl c2' ht m1 m2 m3 m4 m5 m6 m7)

theorem o_01 (au : Nat) (g h9 : Int32) (h : GG S B) (hB : B < 2147483600) (ho : o < 5) (hk : kp ≤ 4) (hln : ln ≤ 60) (htx : ∀ j, tx j < 65536) (hau : au < 4) (hg1 : g &&& (nI 1) = nI 0) (hg2 : ¬ g &&& (nI 2) = 0) : LGd E x0 h0 h1 w0 w1 t r yL_orders wsL_orders 9 [.ref x0, .int (nI au), .int g, .int h9] S o kp Q tx ln ps (B + 2) := by
  have hu := gg_u h 0
  have hmx : uU S 0 ≤ 12 := gg_mx h (a := 0) (by decide)
  have hM := gg_M h
  have h2 := GG_mono h (show B ≤ B + 2 by omega)
  have hdd := lw_lt h9 (n := 10) (by decide)
  obtain ⟨dd, hd⟩ : ∃ d, lw h9 10 = d := ⟨_, rfl⟩
  rw [hd] at hdd
  have b1 : ∀ j, (tyL tx [45]) j < 65536 := tyL_b htx (by intro c hc; simp at hc; omega)
  have b4 : ∀ j, (tyL tx [48 + dd, 48, 114, 45]) j < 65536 := tyL_b htx (by intro c hc; simp at hc; omega)
  have b8 : ∀ j, (tyL (tyL tx [48 + dd, 48, 114, 45]) [57, 57, 114, 43, 32, 48, 114, 43]) j < 65536 := tyL_b b4 (by intro c hc; simp at hc; omega)
  have b9 : ∀ j, (tyL (tyL tx [48 + dd, 48, 114, 45]) [57, 57, 57, 114, 43, 32, 48, 114, 43]) j < 65536 := tyL_b b4 (by intro c hc; simp at hc; omega)
  have m1 := r_f E x0 h0 h1 w0 w1 t r S o kp Q (tyL tx []) 0 ps h ho hk (by decide) htx hau F_0 (by decide) (show (-100 : Int32) - nI 0 = -100 by decide)
  generalize (zFl (tyL tx []) 0 60 (zRw ps)).2 = ps1 at m1
  have m2 := r_b E x0 h0 h1 w0 w1 t r S o kp Q (tyL tx []) 0 ps1 h ho hk (by decide) htx
  have m3 := r_f E x0 h0 h1 w0 w1 t r S o kp Q (tyL tx [45]) 1 ps1 h ho hk (by decide) b1 hau (F_1 (Or.inr rfl)) (by decide) (show (-100 : Int32) - nI 1 = -101 by decide)
  generalize (zFl (tyL tx [45]) 1 60 (zRw ps1)).2 = ps2 at m3
  have m4 := r_f E x0 h0 h1 w0 w1 t r S o kp Q (tyL tx [48 + dd, 48, 114, 45]) 4 ps2 h ho hk (by decide) b4 hau (F_4 (a := 0) (Or.inr rfl) (by decide) rfl rfl (show 48 + dd ≠ 32 by omega)) (by decide) (show (-100 : Int32) - nI 3 = -103 by decide)
  generalize (zFl (tyL tx [48 + dd, 48, 114, 45]) 4 60 (zRw ps2)).2 = ps3 at m4
  have f8 := F_8 (tx := (tyL (tyL tx [48 + dd, 48, 114, 45]) [57, 57, 114, 43, 32, 48, 114, 43])) (a := 0) (s := ps3) rfl (by decide) rfl rfl rfl rfl rfl rfl rfl
  have c8 := C_8 (tx := (tyL (tyL tx [48 + dd, 48, 114, 45]) [57, 57, 114, 43, 32, 48, 114, 43])) (a := 0) (s := (zFl (tyL (tyL tx [48 + dd, 48, 114, 45]) [57, 57, 114, 43, 32, 48, 114, 43]) 8 60 (zRw ps3)).2) h (by omega) hau rfl (by decide) rfl rfl rfl rfl rfl rfl rfl
  have e0 : zIns S (nI au) (nI 0) (nI 0) = zInsR S (nI au) (nI 0) := by
    unfold zIns
    rw [if_neg (nbA hau), if_pos nI_0]
  have n1 : ¬ (nI 0 < 0 ∨ nI (rU S) < nI 0) := by
    rintro (q | q)
    · exact absurd q (by decide)
    · have := (nI_ltI (by have : uU S 0 = rU S := rfl; omega) (by decide)).mp q
      omega
  have fin : ∀ (v : Int32) (S1 : zSt) (n : Nat), zIns S (nI au) (nI 0) (nI 0) = (v, S1) → (if v < 0 then 0 else 1) = n → n < 2 → GG S1 (B + 1) →
      (∀ (o1 o2 kp1 kp2 : Nat) (Q1 : Nat → zSt) (ps4 ps5 : zPs) (lf : Nat), lf < 100 →
        zM E yX5_run wsX5_run 8 [.ref x0, .int (nI au)] (WRd E x0 h0 h1 w0 w1 t r S o kp Q (tyL (tyL tx [48 + dd, 48, 114, 45]) [57, 57, 114, 43, 32, 48, 114, 43]) 8 ps3) (WRd E x0 h0 h1 w0 w1 t r S1 o1 kp1 Q1 (tyL (tyL tx [48 + dd, 48, 114, 45]) [57, 57, 114, 43, 32, 48, 114, 43]) 8 ps4) (some (.int (nI n))) →
        zM E yX5_run wsX5_run 8 [.ref x0, .int (nI au)] (WRd E x0 h0 h1 w0 w1 t r S1 o1 kp1 Q1 (tyL (tyL tx [48 + dd, 48, 114, 45]) [57, 57, 57, 114, 43, 32, 48, 114, 43]) 9 ps4) (WRd E x0 h0 h1 w0 w1 t r S1 o1 kp1 Q1 (tyL (tyL tx [48 + dd, 48, 114, 45]) [57, 57, 57, 114, 43, 32, 48, 114, 43]) 9 ps5) (some (.int (-108))) →
        zM E yX5_undo wsX5_undo 5 [.ref x0] (WAd E x0 h0 h1 w0 t r S1 o1 kp1 Q1) (WAd E x0 h0 h1 w0 t r S o2 kp2 Q1) (some (.int (nI lf))) →
        zM E yL_orders wsL_orders 9 [.ref x0, .int (nI au), .int g, .int h9] (WRd E x0 h0 h1 w0 w1 t r S o kp Q tx ln ps) (WRd E x0 h0 h1 w0 w1 t r S o2 kp2 Q1 (tyL (tyL tx [48 + dd, 48, 114, 45]) [57, 57, 57, 114, 43, 32, 48, 114, 43]) 9 ps5) (some (.int (nI 1)))) →
      LGd E x0 h0 h1 w0 w1 t r yL_orders wsL_orders 9 [.ref x0, .int (nI au), .int g, .int h9] S o kp Q tx ln ps (B + 2) := fun v S1 n e en hn hG1 K => by
    rw [e] at c8
    have m5 := r_ok E x0 h0 h1 w0 w1 t r S o kp Q (tyL (tyL tx [48 + dd, 48, 114, 45]) [57, 57, 114, 43, 32, 48, 114, 43]) 8 ps3 h ho hk (by decide) b8 hau f8 (c8.1.trans en) c8.2
    generalize (zCO (tyL (tyL tx [48 + dd, 48, 114, 45]) [57, 57, 114, 43, 32, 48, 114, 43]) 8 (nI au) 60 0 S (zRw (zFl (tyL (tyL tx [48 + dd, 48, 114, 45]) [57, 57, 114, 43, 32, 48, 114, 43]) 8 60 (zRw ps3)).2)).2.2 = ps4 at m5
    have m6 := r_f E x0 h0 h1 w0 w1 t r S1 (zHo (nI n) o kp) (zHk (nI n) kp) (zRp Q ((o + kp) % 5) S) (tyL (tyL tx [48 + dd, 48, 114, 45]) [57, 57, 57, 114, 43, 32, 48, 114, 43]) 9 ps4 hG1 (zHo_lt ho) (zHk_le hk) (by decide) b9 hau (F_9 (a := 0) rfl (by decide) rfl rfl rfl rfl rfl rfl rfl rfl) (by decide) (show (-100 : Int32) - nI 8 = -108 by decide)
    generalize (zFl (tyL (tyL tx [48 + dd, 48, 114, 45]) [57, 57, 57, 114, 43, 32, 48, 114, 43]) 9 60 (zRw ps4)).2 = ps5 at m6
    obtain ⟨lf, hlf, m7⟩ := u_do E x0 h0 h1 w0 t r S o kp Q (S1 := S1) (n := n) ho hk (by omega)
    exact ⟨S, _, _, _, _, 9, ps5, h2, zHo_lt ho, (by omega : lf ≤ 4), by decide, b9, K _ _ _ _ _ _ _ lf (by omega) m5 m6 m7⟩
  by_cases c2 : uU S 0 = 12
  · have e : zIns S (nI au) (nI 0) (nI 0) = (-3, S) := by
      rw [e0]
      unfold zInsR
      rw [if_neg n1, if_pos (Or.inl (show 12 ≤ rU S from Nat.le_of_eq c2.symm))]
    have hG1 := GG_mono h (show B ≤ B + 1 by omega)
    exact fin (-3) S 0 e (by decide) (by decide) hG1 (fun o1 o2 kp1 kp2 Q1 ps4 ps5 lf hlf m5 m6 m7 => w_ord01f E x0 h0 h1 w0 w1 t r S S o kp o1 o2 kp1 kp2 Q Q1 tx ln ps ps1 ps2 ps3 ps4 ps5 au g h9 dd lf h hG1 hau hg1 hg2 hd hdd hln htx hlf rfl c2 m1 m2 m3 m4 m5 m6 m7)
  · have c2' : uU S 0 < 12 := by omega
    have c3 : ¬ 12 ≤ rU S := Nat.not_le.mpr c2'
    cases ht : tK S with
    | true =>
      by_cases c4 : mK S = 60
      · have e : zIns S (nI au) (nI 0) (nI 0) = (-3, S) := by
          rw [e0]
          unfold zInsR
          rw [if_neg n1, if_pos (Or.inr ⟨ht, by omega⟩)]
        have hG1 := GG_mono h (show B ≤ B + 1 by omega)
        exact fin (-3) S 0 e (by decide) (by decide) hG1 (fun o1 o2 kp1 kp2 Q1 ps4 ps5 lf hlf m5 m6 m7 => w_ord01m E x0 h0 h1 w0 w1 t r S S o kp o1 o2 kp1 kp2 Q Q1 tx ln ps ps1 ps2 ps3 ps4 ps5 au g h9 dd lf h hG1 hau hg1 hg2 hd hdd hln htx hlf rfl c2' ht c4 m1 m2 m3 m4 m5 m6 m7)
      · have e : zIns S (nI au) (nI 0) (nI 0) = (nI (mK S), (zNew (zInR S 0) (nI 0) (nI au) (rO S (rU S)) (-5) (-5))) := by
          rw [e0]
          unfold zInsR
          rw [if_neg n1, if_neg (by rintro (q | q); exact c3 q; omega), if_pos ht, nI_clamp (by omega)]
        have hG1 := GG_Ins (ax := nI 0) (pl := nI 0) h (by omega) hau
        rw [e] at hG1
        exact fin (nI (mK S)) (zNew (zInR S 0) (nI 0) (nI au) (rO S (rU S)) (-5) (-5)) 1 e (if_neg (nI_pos (by omega))) (by decide) hG1 (fun o1 o2 kp1 kp2 Q1 ps4 ps5 lf hlf m5 m6 m7 => w_ord01t E x0 h0 h1 w0 w1 t r S (zNew (zInR S 0) (nI 0) (nI au) (rO S (rU S)) (-5) (-5)) o kp o1 o2 kp1 kp2 Q Q1 tx ln ps ps1 ps2 ps3 ps4 ps5 au g h9 dd lf h hG1 hau hg1 hg2 hd hdd hln htx hlf rfl c2' ht (by omega) m1 m2 m3 m4 m5 m6 m7)
    | false =>
      have e : zIns S (nI au) (nI 0) (nI 0) = (nI 1000, (zInR S 0)) := by
        rw [e0]
        unfold zInsR
        rw [if_neg n1, if_neg (by rintro (q | q); exact c3 q; rw [ht] at q; exact absurd q.1 (by decide)), if_neg (by rw [ht]; decide), nI_clamp (by omega)]
      have hG1 := GG_Ins (ax := nI 0) (pl := nI 0) h (by omega) hau
      rw [e] at hG1
      exact fin (nI 1000) (zInR S 0) 1 e (by decide) (by decide) hG1 (fun o1 o2 kp1 kp2 Q1 ps4 ps5 lf hlf m5 m6 m7 => w_ord01y E x0 h0 h1 w0 w1 t r S (zInR S 0) o kp o1 o2 kp1 kp2 Q Q1 tx ln ps ps1 ps2 ps3 ps4 ps5 au g h9 dd lf h hG1 hau hg1 hg2 hd hdd hln htx hlf rfl c2' ht m1 m2 m3 m4 m5 m6 m7)

theorem o_10 (au : Nat) (g h9 : Int32) (h : GG S B) (hB : B < 2147483600) (ho : o < 5) (hk : kp ≤ 4) (hln : ln ≤ 60) (htx : ∀ j, tx j < 65536) (hau : au < 4) (hg1 : g &&& (nI 1) = nI 1) (hg2 : g &&& (nI 2) = 0) : LGd E x0 h0 h1 w0 w1 t r yL_orders wsL_orders 9 [.ref x0, .int (nI au), .int g, .int h9] S o kp Q tx ln ps (B + 2) := by
  have hu := gg_u h 1
  have hmx : uU S 1 ≤ 8 := gg_mx h (a := 1) (by decide)
  have hM := gg_M h
  have h2 := GG_mono h (show B ≤ B + 2 by omega)
  have hdd := lw_lt h9 (n := 10) (by decide)
  obtain ⟨dd, hd⟩ : ∃ d, lw h9 10 = d := ⟨_, rfl⟩
  rw [hd] at hdd
  have b1 : ∀ j, (tyL tx [43]) j < 65536 := tyL_b htx (by intro c hc; simp at hc; omega)
  have b4 : ∀ j, (tyL tx [48 + dd, 48, 99, 43]) j < 65536 := tyL_b htx (by intro c hc; simp at hc; omega)
  have b8 : ∀ j, (tyL (tyL tx [48 + dd, 48, 99, 43]) [57, 57, 99, 43, 32, 48, 99, 43]) j < 65536 := tyL_b b4 (by intro c hc; simp at hc; omega)
  have b9 : ∀ j, (tyL (tyL tx [48 + dd, 48, 99, 43]) [57, 57, 57, 99, 43, 32, 48, 99, 43]) j < 65536 := tyL_b b4 (by intro c hc; simp at hc; omega)
  have m1 := r_f E x0 h0 h1 w0 w1 t r S o kp Q (tyL tx []) 0 ps h ho hk (by decide) htx hau F_0 (by decide) (show (-100 : Int32) - nI 0 = -100 by decide)
  generalize (zFl (tyL tx []) 0 60 (zRw ps)).2 = ps1 at m1
  have m2 := r_b E x0 h0 h1 w0 w1 t r S o kp Q (tyL tx []) 0 ps1 h ho hk (by decide) htx
  have m3 := r_f E x0 h0 h1 w0 w1 t r S o kp Q (tyL tx [43]) 1 ps1 h ho hk (by decide) b1 hau (F_1 (Or.inl rfl)) (by decide) (show (-100 : Int32) - nI 1 = -101 by decide)
  generalize (zFl (tyL tx [43]) 1 60 (zRw ps1)).2 = ps2 at m3
  have m4 := r_f E x0 h0 h1 w0 w1 t r S o kp Q (tyL tx [48 + dd, 48, 99, 43]) 4 ps2 h ho hk (by decide) b4 hau (F_4 (a := 1) (Or.inl rfl) (by decide) rfl rfl (show 48 + dd ≠ 32 by omega)) (by decide) (show (-100 : Int32) - nI 3 = -103 by decide)
  generalize (zFl (tyL tx [48 + dd, 48, 99, 43]) 4 60 (zRw ps2)).2 = ps3 at m4
  have f8 := F_8 (tx := (tyL (tyL tx [48 + dd, 48, 99, 43]) [57, 57, 99, 43, 32, 48, 99, 43])) (a := 1) (s := ps3) rfl (by decide) rfl rfl rfl rfl rfl rfl rfl
  have c8 := C_8 (tx := (tyL (tyL tx [48 + dd, 48, 99, 43]) [57, 57, 99, 43, 32, 48, 99, 43])) (a := 1) (s := (zFl (tyL (tyL tx [48 + dd, 48, 99, 43]) [57, 57, 99, 43, 32, 48, 99, 43]) 8 60 (zRw ps3)).2) h (by omega) hau rfl (by decide) rfl rfl rfl rfl rfl rfl rfl
  have e0 : zIns S (nI au) (nI 1) (nI 0) = zInsC S (nI au) (nI 0) := by
    unfold zIns
    rw [if_neg (nbA hau), if_neg (show ¬ nI 1 = 0 by decide), if_pos rfl]
  have n1 : ¬ (nI 0 < 0 ∨ nI (cU S) < nI 0) := by
    rintro (q | q)
    · exact absurd q (by decide)
    · have := (nI_ltI (by have : uU S 1 = cU S := rfl; omega) (by decide)).mp q
      omega
  have fin : ∀ (v : Int32) (S1 : zSt) (n : Nat), zIns S (nI au) (nI 1) (nI 0) = (v, S1) → (if v < 0 then 0 else 1) = n → n < 2 → GG S1 (B + 1) →
      (∀ (o1 o2 kp1 kp2 : Nat) (Q1 : Nat → zSt) (ps4 ps5 : zPs) (lf : Nat), lf < 100 →
        zM E yX5_run wsX5_run 8 [.ref x0, .int (nI au)] (WRd E x0 h0 h1 w0 w1 t r S o kp Q (tyL (tyL tx [48 + dd, 48, 99, 43]) [57, 57, 99, 43, 32, 48, 99, 43]) 8 ps3) (WRd E x0 h0 h1 w0 w1 t r S1 o1 kp1 Q1 (tyL (tyL tx [48 + dd, 48, 99, 43]) [57, 57, 99, 43, 32, 48, 99, 43]) 8 ps4) (some (.int (nI n))) →
        zM E yX5_run wsX5_run 8 [.ref x0, .int (nI au)] (WRd E x0 h0 h1 w0 w1 t r S1 o1 kp1 Q1 (tyL (tyL tx [48 + dd, 48, 99, 43]) [57, 57, 57, 99, 43, 32, 48, 99, 43]) 9 ps4) (WRd E x0 h0 h1 w0 w1 t r S1 o1 kp1 Q1 (tyL (tyL tx [48 + dd, 48, 99, 43]) [57, 57, 57, 99, 43, 32, 48, 99, 43]) 9 ps5) (some (.int (-108))) →
        zM E yX5_undo wsX5_undo 5 [.ref x0] (WAd E x0 h0 h1 w0 t r S1 o1 kp1 Q1) (WAd E x0 h0 h1 w0 t r S o2 kp2 Q1) (some (.int (nI lf))) →
        zM E yL_orders wsL_orders 9 [.ref x0, .int (nI au), .int g, .int h9] (WRd E x0 h0 h1 w0 w1 t r S o kp Q tx ln ps) (WRd E x0 h0 h1 w0 w1 t r S o2 kp2 Q1 (tyL (tyL tx [48 + dd, 48, 99, 43]) [57, 57, 57, 99, 43, 32, 48, 99, 43]) 9 ps5) (some (.int (nI 1)))) →
      LGd E x0 h0 h1 w0 w1 t r yL_orders wsL_orders 9 [.ref x0, .int (nI au), .int g, .int h9] S o kp Q tx ln ps (B + 2) := fun v S1 n e en hn hG1 K => by
    rw [e] at c8
    have m5 := r_ok E x0 h0 h1 w0 w1 t r S o kp Q (tyL (tyL tx [48 + dd, 48, 99, 43]) [57, 57, 99, 43, 32, 48, 99, 43]) 8 ps3 h ho hk (by decide) b8 hau f8 (c8.1.trans en) c8.2
    generalize (zCO (tyL (tyL tx [48 + dd, 48, 99, 43]) [57, 57, 99, 43, 32, 48, 99, 43]) 8 (nI au) 60 0 S (zRw (zFl (tyL (tyL tx [48 + dd, 48, 99, 43]) [57, 57, 99, 43, 32, 48, 99, 43]) 8 60 (zRw ps3)).2)).2.2 = ps4 at m5
    have m6 := r_f E x0 h0 h1 w0 w1 t r S1 (zHo (nI n) o kp) (zHk (nI n) kp) (zRp Q ((o + kp) % 5) S) (tyL (tyL tx [48 + dd, 48, 99, 43]) [57, 57, 57, 99, 43, 32, 48, 99, 43]) 9 ps4 hG1 (zHo_lt ho) (zHk_le hk) (by decide) b9 hau (F_9 (a := 1) rfl (by decide) rfl rfl rfl rfl rfl rfl rfl rfl) (by decide) (show (-100 : Int32) - nI 8 = -108 by decide)
    generalize (zFl (tyL (tyL tx [48 + dd, 48, 99, 43]) [57, 57, 57, 99, 43, 32, 48, 99, 43]) 9 60 (zRw ps4)).2 = ps5 at m6
    obtain ⟨lf, hlf, m7⟩ := u_do E x0 h0 h1 w0 t r S o kp Q (S1 := S1) (n := n) ho hk (by omega)
    exact ⟨S, _, _, _, _, 9, ps5, h2, zHo_lt ho, (by omega : lf ≤ 4), by decide, b9, K _ _ _ _ _ _ _ lf (by omega) m5 m6 m7⟩
  by_cases c2 : uU S 1 = 8
  · have e : zIns S (nI au) (nI 1) (nI 0) = (-3, S) := by
      rw [e0]
      unfold zInsC
      rw [if_neg n1, if_pos (Or.inl (show 8 ≤ cU S from Nat.le_of_eq c2.symm))]
    have hG1 := GG_mono h (show B ≤ B + 1 by omega)
    exact fin (-3) S 0 e (by decide) (by decide) hG1 (fun o1 o2 kp1 kp2 Q1 ps4 ps5 lf hlf m5 m6 m7 => w_ord10f E x0 h0 h1 w0 w1 t r S S o kp o1 o2 kp1 kp2 Q Q1 tx ln ps ps1 ps2 ps3 ps4 ps5 au g h9 dd lf h hG1 hau hg1 hg2 hd hdd hln htx hlf rfl c2 m1 m2 m3 m4 m5 m6 m7)
  · have c2' : uU S 1 < 8 := by omega
    have c3 : ¬ 8 ≤ cU S := Nat.not_le.mpr c2'
    cases ht : tK S with
    | true =>
      by_cases c4 : mK S = 60
      · have e : zIns S (nI au) (nI 1) (nI 0) = (-3, S) := by
          rw [e0]
          unfold zInsC
          rw [if_neg n1, if_pos (Or.inr ⟨ht, by omega⟩)]
        have hG1 := GG_mono h (show B ≤ B + 1 by omega)
        exact fin (-3) S 0 e (by decide) (by decide) hG1 (fun o1 o2 kp1 kp2 Q1 ps4 ps5 lf hlf m5 m6 m7 => w_ord10m E x0 h0 h1 w0 w1 t r S S o kp o1 o2 kp1 kp2 Q Q1 tx ln ps ps1 ps2 ps3 ps4 ps5 au g h9 dd lf h hG1 hau hg1 hg2 hd hdd hln htx hlf rfl c2' ht c4 m1 m2 m3 m4 m5 m6 m7)
      · have e : zIns S (nI au) (nI 1) (nI 0) = (nI (mK S), (zNew (zInC S 0) (nI 2) (nI au) (-5) (cO S (cU S)) (-5))) := by
          rw [e0]
          unfold zInsC
          rw [if_neg n1, if_neg (by rintro (q | q); exact c3 q; omega), if_pos ht, nI_clamp (by omega)]
        have hG1 := GG_Ins (ax := nI 1) (pl := nI 0) h (by omega) hau
        rw [e] at hG1
        exact fin (nI (mK S)) (zNew (zInC S 0) (nI 2) (nI au) (-5) (cO S (cU S)) (-5)) 1 e (if_neg (nI_pos (by omega))) (by decide) hG1 (fun o1 o2 kp1 kp2 Q1 ps4 ps5 lf hlf m5 m6 m7 => w_ord10t E x0 h0 h1 w0 w1 t r S (zNew (zInC S 0) (nI 2) (nI au) (-5) (cO S (cU S)) (-5)) o kp o1 o2 kp1 kp2 Q Q1 tx ln ps ps1 ps2 ps3 ps4 ps5 au g h9 dd lf h hG1 hau hg1 hg2 hd hdd hln htx hlf rfl c2' ht (by omega) m1 m2 m3 m4 m5 m6 m7)
    | false =>
      have e : zIns S (nI au) (nI 1) (nI 0) = (nI 1000, (zInC S 0)) := by
        rw [e0]
        unfold zInsC
        rw [if_neg n1, if_neg (by rintro (q | q); exact c3 q; rw [ht] at q; exact absurd q.1 (by decide)), if_neg (by rw [ht]; decide), nI_clamp (by omega)]
      have hG1 := GG_Ins (ax := nI 1) (pl := nI 0) h (by omega) hau
      rw [e] at hG1
      exact fin (nI 1000) (zInC S 0) 1 e (by decide) (by decide) hG1 (fun o1 o2 kp1 kp2 Q1 ps4 ps5 lf hlf m5 m6 m7 => w_ord10y E x0 h0 h1 w0 w1 t r S (zInC S 0) o kp o1 o2 kp1 kp2 Q Q1 tx ln ps ps1 ps2 ps3 ps4 ps5 au g h9 dd lf h hG1 hau hg1 hg2 hd hdd hln htx hlf rfl c2' ht m1 m2 m3 m4 m5 m6 m7)

theorem o_11 (au : Nat) (g h9 : Int32) (h : GG S B) (hB : B < 2147483600) (ho : o < 5) (hk : kp ≤ 4) (hln : ln ≤ 60) (htx : ∀ j, tx j < 65536) (hau : au < 4) (hg1 : g &&& (nI 1) = nI 1) (hg2 : ¬ g &&& (nI 2) = 0) : LGd E x0 h0 h1 w0 w1 t r yL_orders wsL_orders 9 [.ref x0, .int (nI au), .int g, .int h9] S o kp Q tx ln ps (B + 2) := by
  have hu := gg_u h 1
  have hmx : uU S 1 ≤ 8 := gg_mx h (a := 1) (by decide)
  have hM := gg_M h
  have h2 := GG_mono h (show B ≤ B + 2 by omega)
  have hdd := lw_lt h9 (n := 10) (by decide)
  obtain ⟨dd, hd⟩ : ∃ d, lw h9 10 = d := ⟨_, rfl⟩
  rw [hd] at hdd
  have b1 : ∀ j, (tyL tx [45]) j < 65536 := tyL_b htx (by intro c hc; simp at hc; omega)
  have b4 : ∀ j, (tyL tx [48 + dd, 48, 99, 45]) j < 65536 := tyL_b htx (by intro c hc; simp at hc; omega)
  have b8 : ∀ j, (tyL (tyL tx [48 + dd, 48, 99, 45]) [57, 57, 99, 43, 32, 48, 99, 43]) j < 65536 := tyL_b b4 (by intro c hc; simp at hc; omega)
  have b9 : ∀ j, (tyL (tyL tx [48 + dd, 48, 99, 45]) [57, 57, 57, 99, 43, 32, 48, 99, 43]) j < 65536 := tyL_b b4 (by intro c hc; simp at hc; omega)
  have m1 := r_f E x0 h0 h1 w0 w1 t r S o kp Q (tyL tx []) 0 ps h ho hk (by decide) htx hau F_0 (by decide) (show (-100 : Int32) - nI 0 = -100 by decide)
  generalize (zFl (tyL tx []) 0 60 (zRw ps)).2 = ps1 at m1
  have m2 := r_b E x0 h0 h1 w0 w1 t r S o kp Q (tyL tx []) 0 ps1 h ho hk (by decide) htx
  have m3 := r_f E x0 h0 h1 w0 w1 t r S o kp Q (tyL tx [45]) 1 ps1 h ho hk (by decide) b1 hau (F_1 (Or.inr rfl)) (by decide) (show (-100 : Int32) - nI 1 = -101 by decide)
  generalize (zFl (tyL tx [45]) 1 60 (zRw ps1)).2 = ps2 at m3
  have m4 := r_f E x0 h0 h1 w0 w1 t r S o kp Q (tyL tx [48 + dd, 48, 99, 45]) 4 ps2 h ho hk (by decide) b4 hau (F_4 (a := 1) (Or.inr rfl) (by decide) rfl rfl (show 48 + dd ≠ 32 by omega)) (by decide) (show (-100 : Int32) - nI 3 = -103 by decide)
  generalize (zFl (tyL tx [48 + dd, 48, 99, 45]) 4 60 (zRw ps2)).2 = ps3 at m4
  have f8 := F_8 (tx := (tyL (tyL tx [48 + dd, 48, 99, 45]) [57, 57, 99, 43, 32, 48, 99, 43])) (a := 1) (s := ps3) rfl (by decide) rfl rfl rfl rfl rfl rfl rfl
  have c8 := C_8 (tx := (tyL (tyL tx [48 + dd, 48, 99, 45]) [57, 57, 99, 43, 32, 48, 99, 43])) (a := 1) (s := (zFl (tyL (tyL tx [48 + dd, 48, 99, 45]) [57, 57, 99, 43, 32, 48, 99, 43]) 8 60 (zRw ps3)).2) h (by omega) hau rfl (by decide) rfl rfl rfl rfl rfl rfl rfl
  have e0 : zIns S (nI au) (nI 1) (nI 0) = zInsC S (nI au) (nI 0) := by
    unfold zIns
    rw [if_neg (nbA hau), if_neg (show ¬ nI 1 = 0 by decide), if_pos rfl]
  have n1 : ¬ (nI 0 < 0 ∨ nI (cU S) < nI 0) := by
    rintro (q | q)
    · exact absurd q (by decide)
    · have := (nI_ltI (by have : uU S 1 = cU S := rfl; omega) (by decide)).mp q
      omega
  have fin : ∀ (v : Int32) (S1 : zSt) (n : Nat), zIns S (nI au) (nI 1) (nI 0) = (v, S1) → (if v < 0 then 0 else 1) = n → n < 2 → GG S1 (B + 1) →
      (∀ (o1 o2 kp1 kp2 : Nat) (Q1 : Nat → zSt) (ps4 ps5 : zPs) (lf : Nat), lf < 100 →
        zM E yX5_run wsX5_run 8 [.ref x0, .int (nI au)] (WRd E x0 h0 h1 w0 w1 t r S o kp Q (tyL (tyL tx [48 + dd, 48, 99, 45]) [57, 57, 99, 43, 32, 48, 99, 43]) 8 ps3) (WRd E x0 h0 h1 w0 w1 t r S1 o1 kp1 Q1 (tyL (tyL tx [48 + dd, 48, 99, 45]) [57, 57, 99, 43, 32, 48, 99, 43]) 8 ps4) (some (.int (nI n))) →
        zM E yX5_run wsX5_run 8 [.ref x0, .int (nI au)] (WRd E x0 h0 h1 w0 w1 t r S1 o1 kp1 Q1 (tyL (tyL tx [48 + dd, 48, 99, 45]) [57, 57, 57, 99, 43, 32, 48, 99, 43]) 9 ps4) (WRd E x0 h0 h1 w0 w1 t r S1 o1 kp1 Q1 (tyL (tyL tx [48 + dd, 48, 99, 45]) [57, 57, 57, 99, 43, 32, 48, 99, 43]) 9 ps5) (some (.int (-108))) →
        zM E yX5_undo wsX5_undo 5 [.ref x0] (WAd E x0 h0 h1 w0 t r S1 o1 kp1 Q1) (WAd E x0 h0 h1 w0 t r S o2 kp2 Q1) (some (.int (nI lf))) →
        zM E yL_orders wsL_orders 9 [.ref x0, .int (nI au), .int g, .int h9] (WRd E x0 h0 h1 w0 w1 t r S o kp Q tx ln ps) (WRd E x0 h0 h1 w0 w1 t r S o2 kp2 Q1 (tyL (tyL tx [48 + dd, 48, 99, 45]) [57, 57, 57, 99, 43, 32, 48, 99, 43]) 9 ps5) (some (.int (nI 1)))) →
      LGd E x0 h0 h1 w0 w1 t r yL_orders wsL_orders 9 [.ref x0, .int (nI au), .int g, .int h9] S o kp Q tx ln ps (B + 2) := fun v S1 n e en hn hG1 K => by
    rw [e] at c8
    have m5 := r_ok E x0 h0 h1 w0 w1 t r S o kp Q (tyL (tyL tx [48 + dd, 48, 99, 45]) [57, 57, 99, 43, 32, 48, 99, 43]) 8 ps3 h ho hk (by decide) b8 hau f8 (c8.1.trans en) c8.2
    generalize (zCO (tyL (tyL tx [48 + dd, 48, 99, 45]) [57, 57, 99, 43, 32, 48, 99, 43]) 8 (nI au) 60 0 S (zRw (zFl (tyL (tyL tx [48 + dd, 48, 99, 45]) [57, 57, 99, 43, 32, 48, 99, 43]) 8 60 (zRw ps3)).2)).2.2 = ps4 at m5
    have m6 := r_f E x0 h0 h1 w0 w1 t r S1 (zHo (nI n) o kp) (zHk (nI n) kp) (zRp Q ((o + kp) % 5) S) (tyL (tyL tx [48 + dd, 48, 99, 45]) [57, 57, 57, 99, 43, 32, 48, 99, 43]) 9 ps4 hG1 (zHo_lt ho) (zHk_le hk) (by decide) b9 hau (F_9 (a := 1) rfl (by decide) rfl rfl rfl rfl rfl rfl rfl rfl) (by decide) (show (-100 : Int32) - nI 8 = -108 by decide)
    generalize (zFl (tyL (tyL tx [48 + dd, 48, 99, 45]) [57, 57, 57, 99, 43, 32, 48, 99, 43]) 9 60 (zRw ps4)).2 = ps5 at m6
    obtain ⟨lf, hlf, m7⟩ := u_do E x0 h0 h1 w0 t r S o kp Q (S1 := S1) (n := n) ho hk (by omega)
    exact ⟨S, _, _, _, _, 9, ps5, h2, zHo_lt ho, (by omega : lf ≤ 4), by decide, b9, K _ _ _ _ _ _ _ lf (by omega) m5 m6 m7⟩
  by_cases c2 : uU S 1 = 8
  · have e : zIns S (nI au) (nI 1) (nI 0) = (-3, S) := by
      rw [e0]
      unfold zInsC
      rw [if_neg n1, if_pos (Or.inl (show 8 ≤ cU S from Nat.le_of_eq c2.symm))]
    have hG1 := GG_mono h (show B ≤ B + 1 by omega)
    exact fin (-3) S 0 e (by decide) (by decide) hG1 (fun o1 o2 kp1 kp2 Q1 ps4 ps5 lf hlf m5 m6 m7 => w_ord11f E x0 h0 h1 w0 w1 t r S S o kp o1 o2 kp1 kp2 Q Q1 tx ln ps ps1 ps2 ps3 ps4 ps5 au g h9 dd lf h hG1 hau hg1 hg2 hd hdd hln htx hlf rfl c2 m1 m2 m3 m4 m5 m6 m7)
  · have c2' : uU S 1 < 8 := by omega
    have c3 : ¬ 8 ≤ cU S := Nat.not_le.mpr c2'
    cases ht : tK S with
    | true =>
      by_cases c4 : mK S = 60
      · have e : zIns S (nI au) (nI 1) (nI 0) = (-3, S) := by
          rw [e0]
          unfold zInsC
          rw [if_neg n1, if_pos (Or.inr ⟨ht, by omega⟩)]
        have hG1 := GG_mono h (show B ≤ B + 1 by omega)
        exact fin (-3) S 0 e (by decide) (by decide) hG1 (fun o1 o2 kp1 kp2 Q1 ps4 ps5 lf hlf m5 m6 m7 => w_ord11m E x0 h0 h1 w0 w1 t r S S o kp o1 o2 kp1 kp2 Q Q1 tx ln ps ps1 ps2 ps3 ps4 ps5 au g h9 dd lf h hG1 hau hg1 hg2 hd hdd hln htx hlf rfl c2' ht c4 m1 m2 m3 m4 m5 m6 m7)
      · have e : zIns S (nI au) (nI 1) (nI 0) = (nI (mK S), (zNew (zInC S 0) (nI 2) (nI au) (-5) (cO S (cU S)) (-5))) := by
          rw [e0]
          unfold zInsC
          rw [if_neg n1, if_neg (by rintro (q | q); exact c3 q; omega), if_pos ht, nI_clamp (by omega)]
        have hG1 := GG_Ins (ax := nI 1) (pl := nI 0) h (by omega) hau
        rw [e] at hG1
        exact fin (nI (mK S)) (zNew (zInC S 0) (nI 2) (nI au) (-5) (cO S (cU S)) (-5)) 1 e (if_neg (nI_pos (by omega))) (by decide) hG1 (fun o1 o2 kp1 kp2 Q1 ps4 ps5 lf hlf m5 m6 m7 => w_ord11t E x0 h0 h1 w0 w1 t r S (zNew (zInC S 0) (nI 2) (nI au) (-5) (cO S (cU S)) (-5)) o kp o1 o2 kp1 kp2 Q Q1 tx ln ps ps1 ps2 ps3 ps4 ps5 au g h9 dd lf h hG1 hau hg1 hg2 hd hdd hln htx hlf rfl c2' ht (by omega) m1 m2 m3 m4 m5 m6 m7)
    | false =>
      have e : zIns S (nI au) (nI 1) (nI 0) = (nI 1000, (zInC S 0)) := by
        rw [e0]
        unfold zInsC
        rw [if_neg n1, if_neg (by rintro (q | q); exact c3 q; rw [ht] at q; exact absurd q.1 (by decide)), if_neg (by rw [ht]; decide), nI_clamp (by omega)]
      have hG1 := GG_Ins (ax := nI 1) (pl := nI 0) h (by omega) hau
      rw [e] at hG1
      exact fin (nI 1000) (zInC S 0) 1 e (by decide) (by decide) hG1 (fun o1 o2 kp1 kp2 Q1 ps4 ps5 lf hlf m5 m6 m7 => w_ord11y E x0 h0 h1 w0 w1 t r S (zInC S 0) o kp o1 o2 kp1 kp2 Q Q1 tx ln ps ps1 ps2 ps3 ps4 ps5 au g h9 dd lf h hG1 hau hg1 hg2 hd hdd hln htx hlf rfl c2' ht m1 m2 m3 m4 m5 m6 m7)

theorem e_ord (au : Nat) (g h9 : Int32) (h : GG S B) (hB : B < 2147483600) (ho : o < 5) (hk : kp ≤ 4) (hln : ln ≤ 60) (htx : ∀ j, tx j < 65536) (hau : au < 4) : LGd E x0 h0 h1 w0 w1 t r yL_orders wsL_orders 9 [.ref x0, .int (nI au), .int g, .int h9] S o kp Q tx ln ps (B + 2) := by
  obtain ⟨j, hj, ej⟩ := pk_andE g (m := nI 1) 1 (by decide)
  rcases (show j = 0 ∨ j = 1 by omega) with q | q <;> subst q
  · by_cases c : g &&& (nI 2) = 0
    · exact o_00 E x0 h0 h1 w0 w1 t r S o kp Q tx ln ps au g h9 h hB ho hk hln htx hau ej c
    · exact o_01 E x0 h0 h1 w0 w1 t r S o kp Q tx ln ps au g h9 h hB ho hk hln htx hau ej c
  · by_cases c : g &&& (nI 2) = 0
    · exact o_10 E x0 h0 h1 w0 w1 t r S o kp Q tx ln ps au g h9 h hB ho hk hln htx hau ej c
    · exact o_11 E x0 h0 h1 w0 w1 t r S o kp Q tx ln ps au g h9 h hB ho hk hln htx hau ej c
theorem e_err (h : GG S B) (ho : o < 5) (hk : kp ≤ 4) (hln : ln ≤ 60) (htx : ∀ j, tx j < 65536) : LGd E x0 h0 h1 w0 w1 t r yL_errors wsL_errors 9 [.ref x0] S o kp Q tx ln ps (B + 2) := by
  have h2 := GG_mono h (show B ≤ B + 2 by omega)
  have hM := gg_M h
  have n4 : nI 4 < 0 ∨ nI 4 ≤ nI 4 := Or.inr (by decide)
  have e1 : zIns S (nI 4) (nI 0) (nI 0) = (-1, S) := if_pos n4
  have e2 : zIns S (nI 0) (nI 2) (nI 0) = (-1, S) := by
    unfold zIns
    rw [if_neg (nbA (by decide)), if_neg (by decide), if_neg (by decide)]
  have e3 : zIns S (nI 0) (nI 0) (-1) = (-2, S) := by
    unfold zIns
    rw [if_neg (nbA (by decide)), if_pos nI_0]
    unfold zInsR
    rw [if_pos (Or.inl (by decide))]
  have e4 : zRem S (-1) (nI 0) (nI 0) = (-1, S) := if_pos (Or.inl (by decide))
  have e5 : zRem S (nI 0) (nI 2) (nI 0) = (-1, S) := by
    unfold zRem
    rw [if_neg (nbA (by decide)), if_neg (by decide), if_neg (by decide)]
  have e6 : zSet S (nI 4) (nI 0) (nI 0) (nI 0) = (-1, S) := if_pos n4
  have e7 : zSet S (nI 0) (-1) (nI 0) (nI 0) = (-1, S) := by
    unfold zSet
    rw [if_neg (nbA (by decide)), if_pos (Or.inl (by decide))]
  have o1 : zHo (-1) o kp < 5 := zHo_lt ho
  have k1 : zHk (-1) kp ≤ 4 := zHk_le hk
  have m1 := a_ins E x0 h0 h1 w0 t r S o kp Q h ho hk e1
  have m2 := a_ins E x0 h0 h1 w0 t r S _ _ (zRp Q ((o + kp) % 5) S) h o1 k1 e2
  have o2 := zHo_lt (x := -1) (kp := zHk (-1) kp) o1
  have k2 := zHk_le (x := -1) k1
  have m3 := a_ins E x0 h0 h1 w0 t r S _ _ (zRp (zRp Q ((o + kp) % 5) S) ((zHo (-1) o kp + zHk (-1) kp) % 5) S) h o2 k2 e3
  have o3 := zHo_lt (x := -2) (kp := zHk (-1) (zHk (-1) kp)) o2
  have k3 := zHk_le (x := -2) k2
  have m4 := fun Q => a_rem E x0 h0 h1 w0 t r S _ _ Q h o3 k3 e4
  have o4 := zHo_lt (x := -1) (kp := zHk (-2) (zHk (-1) (zHk (-1) kp))) o3
  have k4 := zHk_le (x := -1) k3
  have m5 := fun Q => a_rem E x0 h0 h1 w0 t r S _ _ Q h o4 k4 e5
  have o5 := zHo_lt (x := -1) (kp := zHk (-1) (zHk (-2) (zHk (-1) (zHk (-1) kp)))) o4
  have k5 := zHk_le (x := -1) k4
  have m6 := fun Q => a_set E x0 h0 h1 w0 t r S _ _ Q h o5 k5 e6
  have o6 := zHo_lt (x := -1) (kp := zHk (-1) (zHk (-1) (zHk (-2) (zHk (-1) (zHk (-1) kp))))) o5
  have k6 := zHk_le (x := -1) k5
  have m7 := fun Q => a_set E x0 h0 h1 w0 t r S _ _ Q h o6 k6 e7
  have o7 := zHo_lt (x := -1) (kp := zHk (-1) (zHk (-1) (zHk (-1) (zHk (-2) (zHk (-1) (zHk (-1) kp)))))) o6
  have k7 := zHk_le (x := -1) k6
  have m8 := fun Q => mX5_accept_b E x0 h0 h1 w0 t r S _ _ Q (nI (mK S)) (gg_S h).1 (gg_S h).2 o7 k7 (or_lt (by omega) (Nat.le_refl _) (by omega))
  have m9 := fun Q => mX5_reject_b E x0 h0 h1 w0 t r S _ _ Q (-1) (gg_S h).1 (gg_S h).2 o7 k7 (Or.inl (by decide))
  have m10 := fun Q => mX5_settle_b E x0 h0 h1 w0 t r S _ _ Q (nI 4) true (gg_S h).1 (gg_S h).2 o7 k7 (by decide) (by decide)
  have m11 := fun Q => mX5_settle_b E x0 h0 h1 w0 t r S _ _ Q (-2) true (gg_S h).1 (gg_S h).2 o7 k7 (by decide) (by decide)
  exact ⟨S, _, _, _, tx, ln, ps, h2, o7, k7, hln, htx, w_err E x0 h0 h1 w0 w1 t r S o kp _ _ _ _ _ _ _ _ _ _ _ _ _ _ _ _ _ _ _ _ _ _ Q _ _ _ _ _ _ _ _ _ _ _ tx ln ps h m1 m2 m3 (m4 _) (m5 _) (m6 _) (m7 _) (m8 _) (m9 _) (m10 _) (m11 _)⟩
end ACTS3
