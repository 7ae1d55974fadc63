/-! orders: read by both, carried out by both -/
theorem zNL_v {tx : Nat → Nat} {ln : Nat} : ∀ {d p v : Nat}, (zNL tx ln d p v).1 < (v + 1) * 10 ^ d
  | 0, p, v => by rw [zNL]; simp
  | d + 1, p, v => by
    rw [zNL]
    split
    · rename_i q
      have hc := (zDg_t q).2
      have ih := zNL_v (tx := tx) (ln := ln) (d := d) (p := p + 1) (v := 10 * v + (zHe tx ln p - 48))
      refine Nat.lt_of_lt_of_le ih ?_
      have h1 : 10 * v + (zHe tx ln p - 48) + 1 ≤ (v + 1) * 10 := by omega
      have h2 := Nat.mul_le_mul_right (10 ^ d) h1
      rw [Nat.pow_succ, Nat.mul_comm (10 ^ d) 10, ← Nat.mul_assoc]
      exact h2
    · exact Nat.lt_of_lt_of_le (Nat.lt_succ_self v) (Nat.le_mul_of_pos_right _ (Nat.pow_pos (by decide)))
theorem zRn_neg {tx : Nat → Nat} {ln m p : Nat} (hm : m ≤ 4) : (zRn tx ln m p).1 < 0 ↔ zDg (zHe tx ln p) = false := by
  cases h : zDg (zHe tx ln p) with
  | false => rw [zRn_n h]; exact ⟨fun _ => rfl, fun _ => (by decide : (-5 : Int32) < 0)⟩
  | true =>
    constructor
    · intro z
      exfalso
      by_cases h2 : zHe tx ln p = 48
      · rw [zRn_0 h2] at z; exact nI_pos (by decide) z
      · rw [zRn_p h h2] at z
        have v := zNL_v (tx := tx) (ln := ln) (d := m) (p := p) (v := 0)
        have p4 : 10 ^ m ≤ 10 ^ 4 := Nat.pow_le_pow_right (by decide) hm
        exact nI_pos (by omega) z
    · intro z; cases z
theorem zRn_b {tx : Nat → Nat} {ln m p : Nat} (hm : m ≤ 4) : (!decide ((zRn tx ln m p).1 < 0)) = zDg (zHe tx ln p) := by
  cases h : zDg (zHe tx ln p) with
  | false => rw [decide_eq_true ((zRn_neg hm).mpr h)]; rfl
  | true => rw [decide_eq_false (fun z => by rw [(zRn_neg hm).mp z] at h; cases h)]; rfl
theorem zNo_m (tx : Nat → Nat) (ln p od : Nat) (oo : Nat → Int32) (s : zPs) : (zNo tx ln p s).1 = (mRO tx ln p od oo).2.1 ∧ oP (zNo tx ln p s).2 = (mRO tx ln p od oo).1 := by
  unfold zNo mRO
  by_cases h0 : zHe tx ln p = 43 ∨ zHe tx ln p = 45
  · rw [if_pos h0, if_pos h0]
    by_cases h1 : zHe tx ln (p + 1) = 114
    · rw [if_pos h1, if_pos h1]; exact ⟨zRn_b (by decide), rfl⟩
    · rw [if_neg h1, if_neg h1]
      by_cases h2 : zHe tx ln (p + 1) = 99
      · rw [if_pos h2, if_pos h2]; exact ⟨zRn_b (by decide), rfl⟩
      · rw [if_neg h2, if_neg h2]; exact ⟨rfl, rfl⟩
  · rw [if_neg h0, if_neg h0]
    by_cases d1 : zDg (zHe tx ln p) = false
    · rw [if_pos ((zRn_neg (by decide)).mpr d1), if_pos d1]; exact ⟨rfl, rfl⟩
    · rw [if_neg (fun z => d1 ((zRn_neg (by decide)).mp z)), if_neg d1]
      by_cases h2 : zHe tx ln (zRn tx ln 2 p).2 = 46
      · rw [if_pos h2, if_pos h2]
        by_cases d2 : zDg (zHe tx ln ((zRn tx ln 2 p).2 + 1)) = false
        · rw [if_pos ((zRn_neg (by decide)).mpr d2), if_pos d2]; exact ⟨rfl, rfl⟩
        · rw [if_neg (fun z => d2 ((zRn_neg (by decide)).mp z)), if_neg d2]
          by_cases h4 : zHe tx ln (zRn tx ln 2 ((zRn tx ln 2 p).2 + 1)).2 = 61
          · rw [if_pos h4, if_pos h4]; exact ⟨zRn_b (by decide), rfl⟩
          · rw [if_neg h4, if_neg h4]; exact ⟨rfl, rfl⟩
      · rw [if_neg h2, if_neg h2]; exact ⟨rfl, rfl⟩
theorem mOd_0 (oo : Nat → Int32) (od : Nat) (a b : Int32) : mOd oo od a b (4 * od) = a ∧ mOd oo od a b (4 * od + 1) = b := by
  unfold mOd
  exact ⟨by rw [upd_ne (by omega), upd_eq], by rw [upd_eq]⟩
theorem mOq_0 (oo : Nat → Int32) (od : Nat) (a b c d : Int32) : mOq oo od a b c d (4 * od) = a ∧ mOq oo od a b c d (4 * od + 1) = b ∧ mOq oo od a b c d (4 * od + 2) = c ∧ mOq oo od a b c d (4 * od + 3) = d := by
  unfold mOq
  refine ⟨?_, ?_, ?_, ?_⟩
  · rw [upd_ne (by omega), upd_ne (by omega), upd_ne (by omega), upd_eq]
  · rw [upd_ne (by omega), upd_ne (by omega), upd_eq]
  · rw [upd_ne (by omega), upd_eq]
  · rw [upd_eq]
theorem mOd_lt {oo : Nat → Int32} {od i : Nat} {a b : Int32} (h : i < 4 * od) : mOd oo od a b i = oo i := by
  unfold mOd
  rw [upd_ne (by omega), upd_ne (by omega)]
theorem mOq_lt {oo : Nat → Int32} {od i : Nat} {a b c d : Int32} (h : i < 4 * od) : mOq oo od a b c d i = oo i := by
  unfold mOq
  rw [upd_ne (by omega), upd_ne (by omega), upd_ne (by omega), upd_ne (by omega)]
theorem mRO_lt {tx : Nat → Nat} {ln p od i : Nat} {oo : Nat → Int32} (h : i < 4 * od) : (mRO tx ln p od oo).2.2 i = oo i := by
  unfold mRO
  split
  · split
    · exact mOd_lt h
    · split
      · exact mOd_lt h
      · exact mOd_lt h
  · split
    · exact mOq_lt h
    · split
      · split
        · exact mOq_lt h
        · split
          · exact mOq_lt h
          · exact mOq_lt h
      · exact mOq_lt h
theorem mRL_lt {tx : Nat → Nat} {ln : Nat} : ∀ {d p od : Nat} {g : Bool} {oo : Nat → Int32}, od ≤ (mRL tx ln d p g od oo).2.2.1 ∧ ∀ i, i < 4 * od → (mRL tx ln d p g od oo).2.2.2 i = oo i
  | 0, p, od, g, oo => ⟨Nat.le_refl _, fun _ _ => rfl⟩
  | d + 1, p, od, g, oo => by
    rw [mRL]
    split
    · obtain ⟨h1, h2⟩ := mRL_lt (tx := tx) (ln := ln) (d := d) (p := (mRO tx ln (p + 1) od oo).1) (od := od + 1) (g := (mRO tx ln (p + 1) od oo).2.1) (oo := (mRO tx ln (p + 1) od oo).2.2)
      exact ⟨by omega, fun i hi => (h2 i (by omega)).trans (mRO_lt hi)⟩
    · exact ⟨Nat.le_refl _, fun _ _ => rfl⟩
/-- the class's order as the model's row tells it -/
def zOm (S : zSt) (au : Int32) (oo : Nat → Int32) (k : Nat) : Int32 × zSt :=
  if oo (4 * k) = nI 4 then zSet S au (oo (4 * k + 1)) (oo (4 * k + 2)) (oo (4 * k + 3))
  else if oo (4 * k) = nI 0 then zIns S au (nI 0) (oo (4 * k + 1)) else if oo (4 * k) = nI 1 then zIns S au (nI 1) (oo (4 * k + 1))
  else if oo (4 * k) = nI 2 then zRem S au (nI 0) (oo (4 * k + 1)) else zRem S au (nI 1) (oo (4 * k + 1))
theorem zOm_cg {S : zSt} {au : Int32} {oo oo' : Nat → Int32} {k : Nat} (h : ∀ i, i < 4 * (k + 1) → oo' i = oo i) : zOm S au oo' k = zOm S au oo k := by
  unfold zOm
  rw [h (4 * k) (by omega), h (4 * k + 1) (by omega), h (4 * k + 2) (by omega), h (4 * k + 3) (by omega)]
theorem RR_Om {S : zSt} {s : zMs} {B k : Nat} {au : Int32} {oo : Nat → Int32} (h : RR S s B) (hB31 : B < 2147483640) : (zOm S au oo k).1 = (mOb s au oo k).1 ∧ RR (zOm S au oo k).2 (mOb s au oo k).2 (B + 1) := by
  have up : ∀ {a : Int32 × zSt} {b : Int32 × zMs}, a.1 = b.1 ∧ RR a.2 b.2 B → a.1 = b.1 ∧ RR a.2 b.2 (B + 1) := fun q => ⟨q.1, RR_mono q.2 (Nat.le_succ B)⟩
  unfold zOm mOb
  split
  · exact up (RR_Set h)
  · split
    · exact RR_Ins h hB31
    · split
      · exact RR_Ins h hB31
      · split
        · exact up (RR_Rem h hB31)
        · exact up (RR_Rem h hB31)
theorem zOb_43 (S : zSt) (au L C V : Int32) (p : Nat) (A : Int32) : zOb S au (p, nI 43, A, L, C, V) = zIns S au A L := by
  unfold zOb
  exact if_pos rfl
theorem zOb_45 (S : zSt) (au L C V : Int32) (p : Nat) (A : Int32) : zOb S au (p, nI 45, A, L, C, V) = zRem S au A L := by
  unfold zOb
  rw [if_neg (show ¬ oS (p, nI 45, A, L, C, V) = nI 43 from fun (z : nI 45 = nI 43) => absurd z (by decide))]
  exact if_pos rfl
theorem zOb_s (S : zSt) (au L C V : Int32) (p c : Nat) (A : Int32) (h1 : c < 1000) (h : ¬ (c = 43 ∨ c = 45)) : zOb S au (p, nI c, A, L, C, V) = zSet S au L C V := by
  unfold zOb
  rw [if_neg (show ¬ oS (p, nI c, A, L, C, V) = nI 43 from fun (z : nI c = nI 43) => h (Or.inl ((nI_eq (by omega) (by omega)).mp z))), if_neg (show ¬ oS (p, nI c, A, L, C, V) = nI 45 from fun (z : nI c = nI 45) => h (Or.inr ((nI_eq (by omega) (by omega)).mp z)))]
  rfl
theorem mNv_g {tx : Nat → Nat} {ln d p : Nat} (h : zDg (zHe tx ln p) = true) : mNv tx ln d p = (zRn tx ln d p).1 := by
  unfold mNv
  rw [if_pos h]
theorem zOb_m {tx : Nat → Nat} {ln p od : Nat} {oo : Nat → Int32} {s : zPs} {S : zSt} {au : Int32} (hg : (mRO tx ln p od oo).2.1 = true) : zOb S au (zNo tx ln p s).2 = zOm S au (mRO tx ln p od oo).2.2 od := by
  unfold mRO at hg ⊢
  unfold zNo
  by_cases h0 : zHe tx ln p = 43 ∨ zHe tx ln p = 45
  · rw [if_pos h0] at hg ⊢
    rw [if_pos h0]
    by_cases h1 : zHe tx ln (p + 1) = 114
    · rw [if_pos h1] at hg ⊢
      rw [if_pos h1]
      simp only at hg ⊢
      unfold zOm
      rw [(mOd_0 _ _ _ _).1, (mOd_0 _ _ _ _).2, mNv_g hg]
      rcases h0 with q | q
      · rw [if_pos q, if_neg (show ¬ nI 0 = nI 4 by decide), if_pos rfl, q, zOb_43]
      · rw [if_neg (show ¬ zHe tx ln p = 43 by omega), if_neg (show ¬ nI 2 = nI 4 by decide), if_neg (show ¬ nI 2 = nI 0 by decide), if_neg (show ¬ nI 2 = nI 1 by decide), if_pos rfl, q, zOb_45]
    · rw [if_neg h1] at hg ⊢
      rw [if_neg h1]
      by_cases h2 : zHe tx ln (p + 1) = 99
      · rw [if_pos h2] at hg ⊢
        rw [if_pos h2]
        simp only at hg ⊢
        unfold zOm
        rw [(mOd_0 _ _ _ _).1, (mOd_0 _ _ _ _).2, mNv_g hg]
        rcases h0 with q | q
        · rw [if_pos q, if_neg (show ¬ nI 1 = nI 4 by decide), if_neg (show ¬ nI 1 = nI 0 by decide), if_pos rfl, q, zOb_43]
        · rw [if_neg (show ¬ zHe tx ln p = 43 by omega), if_neg (show ¬ nI 3 = nI 4 by decide), if_neg (show ¬ nI 3 = nI 0 by decide), if_neg (show ¬ nI 3 = nI 1 by decide), if_neg (show ¬ nI 3 = nI 2 by decide), q, zOb_45]
      · rw [if_neg h2] at hg
        cases hg
  · rw [if_neg h0] at hg ⊢
    rw [if_neg h0]
    by_cases d1 : zDg (zHe tx ln p) = false
    · rw [if_pos d1] at hg; cases hg
    · have d1' : zDg (zHe tx ln p) = true := by simpa using d1
      have hc := zDg_t d1'
      rw [if_neg d1] at hg ⊢
      rw [if_neg (fun z => d1 ((zRn_neg (by decide)).mp z))]
      by_cases h2 : zHe tx ln (zRn tx ln 2 p).2 = 46
      · rw [if_pos h2] at hg ⊢
        rw [if_pos h2]
        by_cases d2 : zDg (zHe tx ln ((zRn tx ln 2 p).2 + 1)) = false
        · rw [if_pos d2] at hg; cases hg
        · have d2' : zDg (zHe tx ln ((zRn tx ln 2 p).2 + 1)) = true := by simpa using d2
          rw [if_neg d2] at hg ⊢
          rw [if_neg (fun z => d2 ((zRn_neg (by decide)).mp z))]
          by_cases h4 : zHe tx ln (zRn tx ln 2 ((zRn tx ln 2 p).2 + 1)).2 = 61
          · rw [if_pos h4] at hg ⊢
            rw [if_pos h4]
            simp only at hg ⊢
            unfold zOm
            rw [(mOq_0 _ _ _ _ _ _).1, (mOq_0 _ _ _ _ _ _).2.1, (mOq_0 _ _ _ _ _ _).2.2.1, (mOq_0 _ _ _ _ _ _).2.2.2, mNv_g d1', mNv_g d2', mNv_g hg, if_pos rfl]
            exact zOb_s S au _ _ _ _ _ _ (by omega) h0
          · rw [if_neg h4] at hg; cases hg
      · rw [if_neg h2] at hg; cases hg
/-- the fault of a text -/
theorem zHe_end {tx : Nat → Nat} {ln p : Nat} (h : ln ≤ p) : ¬ zHe tx ln p = 32 := by
  rw [zHe_d, if_neg (by omega)]
  decide
theorem Fl_m {tx : Nat → Nat} {ln : Nat} : ∀ {d e : Nat} {s : zPs} {od : Nat} {oo : Nat → Int32}, 0 < oP s → oP s < ln → ln ≤ oP s + d → ln ≤ oP s + e → (zFl tx ln d s).1 = if (mRL tx ln e (oP s) true od oo).2.1 = true ∧ ln ≤ (mRL tx ln e (oP s) true od oo).1 then -5 else nI (mRL tx ln e (oP s) true od oo).1
  | 0, e, s, od, oo, h0, h1, h2, h3 => by omega
  | d + 1, 0, s, od, oo, h0, h1, h2, h3 => by omega
  | d + 1, e + 1, s, od, oo, h0, h1, h2, h3 => by
    by_cases c : zHe tx ln (oP s) = 32
    · obtain ⟨n1, n2⟩ := zNo_m tx ln (oP s + 1) od oo s
      have ge := mRO_ge tx ln (oP s + 1) od oo
      rw [mRL_y rfl c, zFl, zNx_1 (by omega) c, n1]
      cases g : (mRO tx ln (oP s + 1) od oo).2.1 with
      | false =>
        rw [mRL_n (fun q => absurd q.1 (by decide)), if_neg Bool.false_ne_true, if_neg (fun q => absurd q.1 Bool.false_ne_true)]
        exact congrArg nI n2
      | true =>
        rw [if_pos rfl, n2]
        by_cases q : ln ≤ (mRO tx ln (oP s + 1) od oo).1
        · rw [if_pos q, mRL_n (fun z => zHe_end q z.2), if_pos ⟨rfl, q⟩]
        · rw [if_neg q, ← n2]
          exact Fl_m (by omega) (by omega) (by omega) (by omega)
    · rw [mRL_n (fun q => c q.2), zFl, zNx_n (by omega) c, if_neg Bool.false_ne_true, if_neg (fun q => by have := q.2; simp only at this; omega)]
theorem Fl_t {tx : Nat → Nat} {ln : Nat} {s : zPs} {oo : Nat → Int32} (hln : ln ≤ 60) : (zFl tx ln 60 (zRw s)).1 = if (mRA9 tx ln oo).2.1 = true ∧ ln ≤ (mRA9 tx ln oo).1 then -5 else nI (mRA9 tx ln oo).1 := by
  unfold mRA9
  obtain ⟨n1, n2⟩ := zNo_m tx ln 0 0 oo (zRw s)
  have e0 : oP (zRw s) = 0 := rfl
  rw [zFl, zNx_0 e0, e0, n1]
  cases g : (mRO tx ln 0 0 oo).2.1 with
  | false =>
    rw [mRL_n (fun q => absurd q.1 (by decide)), if_neg Bool.false_ne_true, if_neg (fun q => absurd q.1 Bool.false_ne_true)]
    exact congrArg nI n2
  | true =>
    have gt := mRO_gt g
    rw [if_pos rfl, n2]
    by_cases q : ln ≤ (mRO tx ln 0 0 oo).1
    · rw [if_pos q, mRL_n (fun z => zHe_end q z.2), if_pos ⟨rfl, q⟩]
    · rw [if_neg q, ← n2]
      exact Fl_m (by omega) (by omega) (by omega) (by omega)
theorem mRL_kd {tx : Nat → Nat} {ln : Nat} : ∀ {d p od : Nat} {g : Bool} {oo : Nat → Int32}, (∀ k, k < od → kd5 (oo (4 * k))) → ∀ k, k < (mRL tx ln d p g od oo).2.2.1 → kd5 ((mRL tx ln d p g od oo).2.2.2 (4 * k))
  | 0, p, od, g, oo, h => h
  | d + 1, p, od, g, oo, h => by
    rw [mRL]
    split
    · exact mRL_kd (mRO_kd h)
    · exact h
/-- orders carried out by the model: each state has its class's -/
theorem mCO_ex {S : zSt} {s : zMs} {B : Nat} {au : Int32} {oo : Nat → Int32} (h : RR S s B) : ∀ {k : Nat}, B + k < 2147483640 → ∃ S', RR S' (mCO s au oo k) (B + k)
  | 0, _ => ⟨S, h⟩
  | k + 1, hb => by
    obtain ⟨S', h'⟩ := mCO_ex (au := au) (oo := oo) h (k := k) (by omega)
    exact ⟨_, (RR_Om h' (by omega)).2⟩
/-- the walk over the text by the class is the walk over the row by the model -/
theorem CO_m {tx : Nat → Nat} {ln : Nat} {au : Int32} {s0 : zMs} {oo9 : Nat → Int32} {o9 p9 : Nat} (hp9 : ln ≤ p9) : ∀ {d e B : Nat} {ps : zPs} {k : Nat} {S : zSt} {oo : Nat → Int32}, 0 < oP ps → oP ps ≤ ln → ln ≤ oP ps + d → RR S (mCO s0 au oo9 k) B → B + d < 2147483640 → mRL tx ln e (oP ps) true k oo = (p9, true, o9, oo9) → (∀ j, j < k → mCe s0 au oo9 j = false) →
    (zCO tx ln au d k S ps).1 = mCn s0 au oo9 o9 ∧ RR (zCO tx ln au d k S ps).2.1 (mCs s0 au oo9 o9) (B + d) := by
  intro d
  have done : ∀ {B k : Nat} {S : zSt}, RR S (mCO s0 au oo9 k) B → (∀ j, j < k → mCe s0 au oo9 j = false) → k = o9 → k = mCn s0 au oo9 o9 ∧ RR S (mCs s0 au oo9 o9) B := by
    intro B k S hR hne hk
    subst hk
    have q1 := zix_no (p := mCe s0 au oo9) (n := k) hne
    have q2 := zix_le (mCe s0 au oo9) k
    have e : mCn s0 au oo9 k = k := by unfold mCn; omega
    refine ⟨e.symm, ?_⟩
    unfold mCs
    rw [e, if_neg (Nat.lt_irrefl k)]
    exact hR
  induction d with
  | zero =>
    intro e B ps k S oo h0 h1 h2 hR hb hm hne
    have hn : ¬ zHe tx ln (oP ps) = 32 := zHe_end (by omega)
    rw [mRL_n (fun q => hn q.2)] at hm
    simp only [Prod.mk.injEq, true_and] at hm
    exact done hR hne hm.2.1
  | succ d ih =>
    intro e B ps k S oo h0 h1 h2 hR hb hm hne
    by_cases c : zHe tx ln (oP ps) = 32
    · cases e with
      | zero =>
        rw [mRL] at hm
        simp only [Prod.mk.injEq, true_and] at hm
        have : oP ps + 1 ≤ ln := zHe_lt tx (by omega)
        omega
      | succ e =>
        obtain ⟨n1, n2⟩ := zNo_m tx ln (oP ps + 1) k oo ps
        rw [mRL_y rfl c] at hm
        cases g : (mRO tx ln (oP ps + 1) k oo).2.1 with
        | false =>
          rw [g, mRL_n (fun q => absurd q.1 (by decide))] at hm
          simp only [Prod.mk.injEq] at hm
          exact absurd hm.2.1 (by decide)
        | true =>
          have gt := mRO_gt g
          have le := mRO_le (tx := tx) (ty := ln) (pl := oP ps + 1) (od := k) (oo := oo) (zHe_lt tx (by omega))
          have pr := mRL_lt (tx := tx) (ln := ln) (d := e) (p := (mRO tx ln (oP ps + 1) k oo).1) (od := k + 1) (g := (mRO tx ln (oP ps + 1) k oo).2.1) (oo := (mRO tx ln (oP ps + 1) k oo).2.2)
          rw [hm] at pr
          obtain ⟨pr1, pr2⟩ := pr
          have eo : zOb S au (zNo tx ln (oP ps + 1) ps).2 = zOm S au oo9 k := (zOb_m g).trans (zOm_cg (fun i hi => (pr2 i hi))).symm
          obtain ⟨r1, r2⟩ := RR_Om (au := au) (oo := oo9) (k := k) hR (by omega)
          rw [zCO, zNx_1 (by omega) c, n1, g, if_pos rfl, eo]
          by_cases q : (zOm S au oo9 k).1 < 0
          · rw [if_pos q]
            have ek : mCn s0 au oo9 o9 = k := zix_at (by unfold mCe; exact decide_eq_true (by rw [← r1]; exact q)) hne (by have : k + 1 ≤ o9 := pr1; omega)
            refine ⟨ek.symm, ?_⟩
            unfold mCs
            rw [ek, if_pos (by have : k + 1 ≤ o9 := pr1; omega), mCO]
            exact RR_mono r2 (by omega)
          · rw [if_neg q]
            have r3 : RR (zOm S au oo9 k).2 (mCO s0 au oo9 (k + 1)) (B + 1) := r2
            rw [g, ← n2] at hm
            have z := ih (e := e) (ps := (zNo tx ln (oP ps + 1) ps).2) (k := k + 1) (by omega) (by omega) (by omega) r3 (by omega) hm (lt_s hne (decide_eq_false (by rw [← r1]; exact q)))
            exact ⟨z.1, RR_mono z.2 (by omega)⟩
    · rw [mRL_n (fun q => c q.2)] at hm
      simp only [Prod.mk.injEq, true_and] at hm
      have z := done hR hne hm.2.1
      rw [zCO, zNx_n (by omega) c, if_neg Bool.false_ne_true]
      exact ⟨z.1, RR_mono z.2 (by omega)⟩
theorem CO_t {tx : Nat → Nat} {ln B p9 o9 : Nat} {au : Int32} {S : zSt} {s0 : zMs} {oo oo9 : Nat → Int32} {ps : zPs} (hln : ln ≤ 60) (hR : RR S s0 B) (hb : B + 60 < 2147483640) (hm : mRA9 tx ln oo = (p9, true, o9, oo9)) (hp9 : ln ≤ p9) : (zCO tx ln au 60 0 S (zRw ps)).1 = mCn s0 au oo9 o9 ∧ RR (zCO tx ln au 60 0 S (zRw ps)).2.1 (mCs s0 au oo9 o9) (B + 60) := by
  unfold mRA9 at hm
  obtain ⟨n1, n2⟩ := zNo_m tx ln 0 0 oo (zRw ps)
  have e0 : oP (zRw ps) = 0 := rfl
  cases g : (mRO tx ln 0 0 oo).2.1 with
  | false =>
    rw [g, mRL_n (fun q => absurd q.1 (by decide))] at hm
    simp only [Prod.mk.injEq] at hm
    exact absurd hm.2.1 (by decide)
  | true =>
    have gt := mRO_gt g
    have le := mRO_le (tx := tx) (ty := ln) (pl := 0) (od := 0) (oo := oo) (Nat.zero_le _)
    have pr := mRL_lt (tx := tx) (ln := ln) (d := 60) (p := (mRO tx ln 0 0 oo).1) (od := 1) (g := (mRO tx ln 0 0 oo).2.1) (oo := (mRO tx ln 0 0 oo).2.2)
    rw [hm] at pr
    obtain ⟨pr1, pr2⟩ := pr
    have pr1' : 1 ≤ o9 := pr1
    have eo : zOb S au (zNo tx ln 0 (zRw ps)).2 = zOm S au oo9 0 := (zOb_m g).trans (zOm_cg (fun i hi => (pr2 i hi))).symm
    obtain ⟨r1, r2⟩ := RR_Om (au := au) (oo := oo9) (k := 0) hR (by omega)
    rw [zCO, zNx_0 e0, e0, n1, g, if_pos rfl, eo]
    by_cases q : (zOm S au oo9 0).1 < 0
    · rw [if_pos q]
      have ek : mCn s0 au oo9 o9 = 0 := zix_at (by unfold mCe; exact decide_eq_true (by rw [mCO, ← r1]; exact q)) (fun j hj => absurd hj (Nat.not_lt_zero j)) (by omega)
      refine ⟨ek.symm, ?_⟩
      unfold mCs
      rw [ek, if_pos (by omega), mCO, mCO]
      exact RR_mono r2 (by omega)
    · rw [if_neg q]
      have r3 : RR (zOm S au oo9 0).2 (mCO s0 au oo9 1) (B + 1) := r2
      rw [g, ← n2] at hm
      have z := CO_m (tx := tx) (au := au) (s0 := s0) (d := 59) (e := 60) (ps := (zNo tx ln 0 (zRw ps)).2) (k := 1) hp9 (by omega) (by omega) (by omega) r3 (by omega) hm (fun j hj => by rw [show j = 0 by omega]; exact decide_eq_false (by rw [mCO, ← r1]; exact q))
      exact ⟨z.1, RR_mono z.2 (by omega)⟩
/-! the history, on both sides -/
def HR (o kp : Nat) (P : Nat → zSt) (Q : Nat → zMs) (B : Nat) : Prop := ∀ i, i < kp → RR (P ((o + i) % 5)) (Q i) B
theorem HR_mono {o kp B B' : Nat} {P : Nat → zSt} {Q : Nat → zMs} (h : HR o kp P Q B) (hb : B ≤ B') : HR o kp P Q B' := fun i hi => RR_mono (h i hi) hb
theorem zHk_m {x : Int32} {kp : Nat} (hk : kp ≤ 4) : zHk x kp = mHk x kp := by
  unfold zHk mHk
  by_cases hx : x < 0
  · rw [if_pos hx, if_pos hx]
  · rw [if_neg hx, if_neg hx]
    by_cases h4 : kp < 4
    · rw [if_pos h4, if_neg (by omega)]
    · rw [if_neg h4, if_pos (by omega)]; omega
theorem zHk_le {x : Int32} {kp : Nat} (hk : kp ≤ 4) : zHk x kp ≤ 4 := by
  unfold zHk
  split
  · exact hk
  · split <;> omega
theorem zHo_lt {x : Int32} {o kp : Nat} (ho : o < 5) : zHo x o kp < 5 := by
  unfold zHo
  split
  · exact ho
  · split <;> omega
theorem HR_act {x : Int32} {o kp B : Nat} {P : Nat → zSt} {Q : Nat → zMs} {S : zSt} {s : zMs} (h : HR o kp P Q B) (hR : RR S s B) (ho : o < 5) (hk : kp ≤ 4) : HR (zHo x o kp) (zHk x kp) (zRp P ((o + kp) % 5) S) (mHq x Q kp s) B := by
  unfold zHo zHk mHq
  by_cases hx : x < 0
  · rw [if_pos hx, if_pos hx, if_pos hx]
    intro i hi
    unfold zRp
    rw [if_neg (by omega)]
    exact h i hi
  · rw [if_neg hx, if_neg hx, if_neg hx]
    by_cases h4 : kp < 4
    · rw [if_pos h4, if_pos h4, if_neg (by omega)]
      intro i hi
      unfold zRp mQs
      by_cases e : i = kp
      · rw [if_pos (by rw [e]), if_pos e]; exact hR
      · rw [if_neg (by omega), if_neg e]; exact h i (by omega)
    · rw [if_neg h4, if_neg h4, if_pos (by omega)]
      intro i hi
      unfold zRp mQs mQd
      by_cases e : i = 3
      · rw [if_pos (by omega), if_pos e]; exact hR
      · rw [if_neg (by omega), if_neg e, if_pos (by omega), show ((o + 1) % 5 + i) % 5 = (o + (i + 1)) % 5 by omega]; exact h (i + 1) (by omega)
