/-! a line that comes keeps the relation -/
def bck (j i : Nat) : Nat := if i < j then i else i - 1
theorem bck_lt {j i u : Nat} (hj : j ≤ u) (hi : i < u + 1) (h : i ≠ j) : bck j i < u := by unfold bck; split <;> omega
theorem bck_inj {j i k : Nat} (hi : i ≠ j) (hk : k ≠ j) (h : bck j i = bck j k) : i = k := by unfold bck at h; split at h <;> split at h <;> omega
theorem bck_ex {j q u : Nat} (hj : j ≤ u) (hq : q < u) : ∃ i, i < u + 1 ∧ i ≠ j ∧ bck j i = q := by
  rcases Nat.lt_or_ge q j with t | t
  · exact ⟨q, by omega, by omega, by unfold bck; rw [if_pos t]⟩
  · exact ⟨q + 1, by omega, by omega, by unfold bck; rw [if_neg (by omega)]; omega⟩
theorem zOp_j (f : Nat → Int32) (u j : Nat) : zOp f u j j = f u := upd_eq
theorem zOp_i {f : Nat → Int32} {u j i : Nat} (hi : i < u + 1) (h : i ≠ j) : zOp f u j i = f (bck j i) := by
  unfold zOp
  rw [upd_ne h]
  unfold zOpL bck
  by_cases q : j < i
  · rw [if_pos ⟨q, by omega⟩, if_neg (by omega)]
  · rw [if_neg (fun z => q z.1), if_pos (by omega)]
theorem zOp_RO {f : Nat → Int32} {n u j : Nat} (hf : RO f n) (hu : u < n) (hj : j ≤ u) : RO (zOp f u j) n := by
  have e : ∀ i, zOp f u j i = f (if i = j then u else if j < i ∧ i ≤ u then i - 1 else i) := by
    intro i
    simp only [zOp, upd, zOpL]
    by_cases a : i = j
    · rw [if_pos a, if_pos a]
    · rw [if_neg a, if_neg a]
      by_cases b : j < i ∧ i ≤ u
      · rw [if_pos b, if_pos b]
      · rw [if_neg b, if_neg b]
  refine ⟨fun i hi => ?_, fun i k hi hk q => ?_⟩
  · rw [e]
    refine hf.1 _ ?_
    split
    · omega
    · split <;> omega
  · rw [e, e] at q
    have q2 := hf.2 _ _ (by split; omega; split <;> omega) (by split; omega; split <;> omega) q
    split at q2 <;> split at q2 <;> (try split at q2) <;> (try split at q2) <;> omega
theorem mClr_hit {f : Nat → Int32} {ix : Nat → Nat} {i : Nat} : ∀ {n k : Nat}, k < n → ix k = i → mClr f ix n i = nI 0
  | 0, k, h, _ => absurd h (Nat.not_lt_zero _)
  | n + 1, k, h, e => by
    rw [mClr]
    by_cases q : i = ix n
    · rw [q, upd_eq]
    · rw [upd_ne q]
      exact mClr_hit (k := k) (by rcases Nat.lt_or_ge k n with t | t; exact t; exact absurd (by rw [← e, show k = n by omega]) q) e
theorem mClr_miss {f : Nat → Int32} {ix : Nat → Nat} {i : Nat} : ∀ {n : Nat}, (∀ k, k < n → ix k ≠ i) → mClr f ix n i = f i
  | 0, _ => rfl
  | n + 1, h => by
    rw [mClr, upd_ne (fun q => h n (Nat.lt_succ_self n) q.symm)]
    exact mClr_miss (fun k hk => h k (by omega))
theorem zClR_at {fb : Nat → Int32} {a r c : Nat} (ha : a < 12) (hr : r < 12) (hc : c < 8) : ∀ {n : Nat}, n ≤ 8 → zBa (zClR fb (nI a) n) (nI r) (nI c) = if r = a ∧ c < n then 0 else zBa fb (nI r) (nI c)
  | 0, _ => by rw [if_neg (fun q => absurd q.2 (Nat.not_lt_zero _))]; rfl
  | n + 1, h => by
    rw [zClR, zPb_in ha (by omega), zBa_in hr hc]
    by_cases q : 8 * r + c = 8 * a + n
    · rw [q, upd_eq, if_pos ⟨by omega, by omega⟩]; exact nI_0
    · rw [upd_ne q, ← zBa_in (fb := zClR fb (nI a) n) hr hc, zClR_at ha hr hc (by omega)]
      by_cases t : r = a ∧ c < n
      · rw [if_pos t, if_pos ⟨t.1, by omega⟩]
      · rw [if_neg t, if_neg (fun z => t ⟨z.1, by omega⟩)]
theorem zClC_at {fb : Nat → Int32} {a r c : Nat} (ha : a < 8) (hr : r < 12) (hc : c < 8) : ∀ {n : Nat}, n ≤ 12 → zBa (zClC fb (nI a) n) (nI r) (nI c) = if c = a ∧ r < n then 0 else zBa fb (nI r) (nI c)
  | 0, _ => by rw [if_neg (fun q => absurd q.2 (Nat.not_lt_zero _))]; rfl
  | n + 1, h => by
    rw [zClC, zPb_in (by omega) ha, zBa_in hr hc]
    by_cases q : 8 * r + c = 8 * n + a
    · rw [q, upd_eq, if_pos ⟨by omega, by omega⟩]; exact nI_0
    · rw [upd_ne q, ← zBa_in (fb := zClC fb (nI a) n) hr hc, zClC_at ha hr hc (by omega)]
      by_cases t : c = a ∧ r < n
      · rw [if_pos t, if_pos ⟨t.1, by omega⟩]
      · rw [if_neg t, if_neg (fun z => t ⟨z.1, by omega⟩)]
theorem nI_m5n {a : Nat} (h : a < 2147483648) : ¬ nI a = -5 := fun e => nI_pos h (by rw [e]; decide)
theorem RR_InR {S : zSt} {s : zMs} {B j : Nat} (h : RR S s B) (hB31 : B < 2147483640) (hj : j ≤ rU S) (hu : rU S < 12) : RR (zInR S j) (mPut s 0 j) (B + 1) := by
  obtain ⟨⟨a1, a2, a3, a4⟩, ⟨b1, b2, b3, b4⟩, hK, ⟨hX, hY⟩, ⟨hO, hO2⟩, hB, hN, hP, hQ⟩ := h
  have h12 := a1.1.1
  have h8 := a1.1.2.1
  have hU : nU s 0 = rU S := b1
  have ju : j ≤ nU s 0 := by rw [hU]; exact hj
  have uM : nU s 0 < 12 := by rw [hU]; exact hu
  have fle := mFs_le (vU := nU s) (vS := nS s) (ax := 0) (by omega)
  have fre : ∀ {p}, p < nU s 0 → mS (nS s) 0 p ≠ mFs (nU s) (nS s) 0 := fun hp => mFs_free (by omega) hp
  have oj : zOp (rO S) (rU S) j j = rO S (rU S) := zOp_j _ _ _
  have oi : ∀ {i}, i < rU S + 1 → i ≠ j → zOp (rO S) (rU S) j i = rO S (bck j i) := fun hi hn => zOp_i hi hn
  have sj : mS (mPuS (nU s) (nS s) 0 j) 0 j = mFs (nU s) (nS s) 0 := by unfold mS mPuS zUpN; rw [if_pos rfl]
  have si : ∀ {i}, i < nU s 0 + 1 → i ≠ j → mS (mPuS (nU s) (nS s) 0 j) 0 i = mS (nS s) 0 (bck j i) := by
    intro i hi hn
    unfold mS mPuS zUpN mOpL bck
    rw [if_neg (by omega)]
    by_cases q : j < i
    · rw [if_pos ⟨by omega, by omega⟩, if_neg (by omega), show 12 * 0 + i - 1 = 12 * 0 + (i - 1) by omega]
    · rw [if_neg (fun z => by omega), if_pos (by omega)]
  have sB : ∀ {i}, i < 100 → mS (mPuS (nU s) (nS s) 0 j) 1 i = mS (nS s) 1 i := by
    intro i hi
    unfold mS mPuS zUpN mOpL
    rw [if_neg (by omega), if_neg (fun z => by omega)]
  have nj : mN (mPuS (nU s) (nS s) 0 j) (mPuN (nU s) (nS s) (nN s) (nX s) 0) 0 j = nI (nX s) := by
    unfold mN mPuN
    rw [sj, upd_eq]
  have ni : ∀ {i}, i < nU s 0 + 1 → i ≠ j → mN (mPuS (nU s) (nS s) 0 j) (mPuN (nU s) (nS s) (nN s) (nX s) 0) 0 i = mN (nS s) (nN s) 0 (bck j i) := by
    intro i hi hn
    have t := fre (bck_lt ju hi hn)
    unfold mN mPuN
    rw [si hi hn, upd_ne (by omega)]
  have nB' : ∀ {i}, i < 100 → mN (mPuS (nU s) (nS s) 0 j) (mPuN (nU s) (nS s) (nN s) (nX s) 0) 1 i = mN (nS s) (nN s) 1 i := by
    intro i hi
    have t0 := okM_r a2 i
    have t1 := okM_c a2 i
    unfold mN mPuN
    rw [sB hi, upd_ne (by omega)]
  have zA : zUpN (nU s) 0 (nU s 0 + 1) 0 = rU S + 1 := by simp [zUpN, hU]
  have zC : zUpN (nU s) 0 (nU s 0 + 1) 1 = cU S := by simp [zUpN]; exact b2
  have iA : ∀ {i}, i < nU (mPut s 0 j) 0 → i < rU S + 1 := fun {i} hi => by have h2 : i < zUpN (nU s) 0 (nU s 0 + 1) 0 := hi; rw [zA] at h2; exact h2
  have iC : ∀ {i}, i < nU (mPut s 0 j) 1 → i < cU S := fun {i} hi => by have h2 : i < zUpN (nU s) 0 (nU s 0 + 1) 1 := hi; rw [zC] at h2; exact h2
  have nn : ∀ {p}, p < nU s 0 → ∃ v, v < nX s ∧ mN (nS s) (nN s) 0 p = nI v := fun {p} hp => hN.2.1 p hp
  have nX1 := hN.1
  have nne : ∀ {p}, p < nU s 0 → mN (nS s) (nN s) 0 p ≠ nI (nX s) := by
    intro p hp e
    obtain ⟨v, hv, ev⟩ := nn hp
    have := (nI_eq (by omega) (by omega)).mp (ev.symm.trans e)
    omega
  have n1 : ∀ i k, i < rU S + 1 → k < rU S + 1 → mN (mPuS (nU s) (nS s) 0 j) (mPuN (nU s) (nS s) (nN s) (nX s) 0) 0 i = mN (mPuS (nU s) (nS s) 0 j) (mPuN (nU s) (nS s) (nN s) (nX s) 0) 0 k → i = k := by
    intro i k hi hk e
    rw [← hU] at hi hk
    by_cases p1 : i = j
    · by_cases p2 : k = j
      · omega
      · rw [p1, nj, ni hk p2] at e; exact absurd e.symm (nne (bck_lt ju hk p2))
    · by_cases p2 : k = j
      · rw [p2, nj, ni hi p1] at e; exact absurd e (nne (bck_lt ju hi p1))
      · rw [ni hi p1, ni hk p2] at e; exact bck_inj p1 p2 (a3.1 _ _ (bck_lt ju hi p1) (bck_lt ju hk p2) e)
  have n2 : ∀ i k, i < cU S → k < cU S → mN (mPuS (nU s) (nS s) 0 j) (mPuN (nU s) (nS s) (nN s) (nX s) 0) 1 i = mN (mPuS (nU s) (nS s) 0 j) (mPuN (nU s) (nS s) (nN s) (nX s) 0) 1 k → i = k := by
    intro i k hi hk e
    rw [nB' (by omega), nB' (by omega)] at e
    exact a3.2 _ _ (by rw [b2]; exact hi) (by rw [b2]; exact hk) e
  have m1 : ∀ i k, i < rU S + 1 → k < rU S + 1 → mS (mPuS (nU s) (nS s) 0 j) 0 i = mS (mPuS (nU s) (nS s) 0 j) 0 k → i = k := by
    intro i k hi hk e
    rw [← hU] at hi hk
    by_cases p1 : i = j
    · by_cases p2 : k = j
      · omega
      · rw [p1, sj, si hk p2] at e; exact absurd e.symm (fre (bck_lt ju hk p2))
    · by_cases p2 : k = j
      · rw [p2, sj, si hi p1] at e; exact absurd e (fre (bck_lt ju hi p1))
      · rw [si hi p1, si hk p2] at e; exact bck_inj p1 p2 (a4.1 _ _ (bck_lt ju hi p1) (bck_lt ju hk p2) e)
  have m2 : ∀ i k, i < cU S → k < cU S → mS (mPuS (nU s) (nS s) 0 j) 1 i = mS (mPuS (nU s) (nS s) 0 j) 1 k → i = k := by
    intro i k hi hk e
    rw [sB (by omega), sB (by omega)] at e
    exact a4.2 _ _ (by rw [b2]; exact hi) (by rw [b2]; exact hk) e
  have ownX : RX (mK S) (rU S + 1) (zOp (rO S) (rU S) j) (fA S) 3 (nR s) (mN (mPuS (nU s) (nS s) 0 j) (mPuN (nU s) (nS s) (nN s) (nX s) 0) 0) := by
    intro x hx
    obtain ⟨x1, x2⟩ := hX x hx
    refine ⟨fun i hi => ?_, ?_⟩
    · by_cases p1 : i = j
      · subst p1
        rw [oj, nj]
        constructor
        · intro q
          rcases x2 with t | ⟨t, ht, e⟩
          · exact absurd (t.symm.trans q) (RO_m5 hO (by decide) hu)
          · have := hO.2 _ _ (by omega) hu (e.symm.trans q); omega
        · intro q
          have hM : x < nM s := by rw [b3]; exact hx
          rcases (hN.2.2.2 x hM).1 with t | ⟨v, hv, ev⟩
          · exact absurd (q.symm.trans t) (nI_m5n (by omega))
          · have := (nI_eq (by omega) (by omega)).mp (ev.symm.trans q); omega
      · rw [oi hi p1, ni (by omega) p1]
        exact x1 _ (bck_lt hj hi p1)
    · rcases x2 with t | ⟨t, ht, e⟩
      · exact Or.inl t
      · obtain ⟨i, hi, hn, ei⟩ := bck_ex hj ht
        exact Or.inr ⟨i, hi, by rw [oi hi hn, ei]; exact e⟩
  have othX : RX (mK S) (cU S) (cO S) (fA S) 4 (nC s) (mN (mPuS (nU s) (nS s) 0 j) (mPuN (nU s) (nS s) (nN s) (nX s) 0) 1) := by
    intro x hx
    obtain ⟨x1, x2⟩ := hY x hx
    exact ⟨fun i hi => by rw [nB' (by omega)]; exact x1 i hi, x2⟩
  have up1 : ∀ {q : Int32}, (∃ p, p < rU S ∧ q = rO S p) → ∃ p, p < rU S + 1 ∧ q = zOp (rO S) (rU S) j p := by
    rintro q ⟨t, ht, e⟩
    obtain ⟨i, hi, hn, ei⟩ := bck_ex hj ht
    exact ⟨i, hi, by rw [oi hi hn, ei]; exact e⟩
  have own0 : ∀ i, i < rU S + 1 → ∃ v, v < nX s + 1 ∧ mN (mPuS (nU s) (nS s) 0 j) (mPuN (nU s) (nS s) (nN s) (nX s) 0) 0 i = nI v := by
    intro i hi
    rw [← hU] at hi
    by_cases p1 : i = j
    · exact ⟨nX s, by omega, by rw [p1, nj]⟩
    · obtain ⟨v, hv, ev⟩ := nn (bck_lt ju hi p1)
      exact ⟨v, by omega, by rw [ni hi p1]; exact ev⟩
  have oth0 : ∀ i, i < cU S → ∃ v, v < nX s + 1 ∧ mN (mPuS (nU s) (nS s) 0 j) (mPuN (nU s) (nS s) (nN s) (nX s) 0) 1 i = nI v := by
    intro i hi
    obtain ⟨v, hv, ev⟩ := hN.2.2.1 i (by rw [b2]; exact hi)
    exact ⟨v, by omega, by rw [nB' (by omega)]; exact ev⟩
  have hxc : ∀ {x : Int32}, (x = -5 ∨ ∃ v, v < nX s ∧ x = nI v) → (x = -5 ∨ ∃ v, v < nX s + 1 ∧ x = nI v) := fun q => q.elim Or.inl (fun ⟨v, hv, e⟩ => Or.inr ⟨v, by omega, e⟩)
  refine ⟨⟨gS_InR a1 (by omega), okM_Pu0_0 a2 uM ju, ?_, ?_⟩, ⟨zA, zC, b3, b4⟩, hK, ⟨ownX, othX⟩, ⟨zOp_RO hO hu hj, hO2⟩, ?_, ⟨Nat.succ_le_succ hN.1, ?_, ?_, fun x hx => ⟨hxc (hN.2.2.2 x hx).1, hxc (hN.2.2.2 x hx).2⟩⟩, ?_, hQ⟩
  · exact ⟨fun i k hi hk => n1 i k (iA hi) (iA hk), fun i k hi hk => n2 i k (iC hi) (iC hk)⟩
  · exact ⟨fun i k hi hk => m1 i k (iA hi) (iA hk), fun i k hi hk => m2 i k (iC hi) (iC hk)⟩
  · intro i k hi hk
    have hi2 : i < rU S + 1 := hi
    have hk2 : k < cU S := hk
    show zBa (zClR (bS S) (rO S (rU S)) 8) (zOp (rO S) (rU S) j i) (cO S k) = mClr (nB s) (mCx (mPuS (nU s) (nS s) 0 j) 0 j) (nU s 1) (8 * mS (mPuS (nU s) (nS s) 0 j) 0 i + mS (mPuS (nU s) (nS s) 0 j) 1 k)
    obtain ⟨c0, hc0, ec⟩ := hO2.1 k (by omega)
    obtain ⟨r0, hr0, er⟩ := hO.1 (rU S) hu
    by_cases p1 : i = j
    · subst p1
      rw [oj, ec, er, zClR_at hr0 hr0 hc0 (Nat.le_refl 8), if_pos ⟨rfl, hc0⟩]
      exact ((mClr_hit (k := k) (n := nU s 1) (by rw [b2]; exact hk2) rfl).trans nI_0).symm
    · obtain ⟨t0, ht0, et⟩ := hO.1 (bck j i) (by have := bck_lt hj hi2 p1; omega)
      have tr : t0 ≠ r0 := by
        intro z
        subst z
        have := hO.2 _ _ (by have := bck_lt hj hi2 p1; omega) hu (et.trans er.symm)
        have := bck_lt hj hi2 p1
        omega
      have s8 := okM_c a2 k
      have fr := fre (p := bck j i) (by rw [hU]; exact bck_lt hj hi2 p1)
      rw [oi hi2 p1, ec, er, et, zClR_at hr0 ht0 hc0 (Nat.le_refl 8), if_neg (fun z => tr z.1), si (by omega) p1, sB (by omega), mClr_miss (fun q hq => ?_), ← et, ← ec]
      · exact hB _ _ (bck_lt hj hi2 p1) hk2
      · show 8 * mS (mPuS (nU s) (nS s) 0 j) 0 j + mS (mPuS (nU s) (nS s) 0 j) 1 q ≠ _
        rw [sj, sB (by omega)]
        have s9 := okM_c a2 q
        omega
  · intro i hi
    have hi2 : i < zUpN (nU s) 0 (nU s 0 + 1) 0 := hi
    rw [zA] at hi2; exact own0 i hi2
  · intro i hi
    have hi2 : i < zUpN (nU s) 0 (nU s 0 + 1) 1 := hi
    rw [zC] at hi2; exact oth0 i hi2
  · intro x hx
    obtain ⟨p1, p2, p3⟩ := hP x hx
    exact ⟨p1, p2, fun t => ⟨fun k => up1 ((p3 t).1 k), (p3 t).2⟩⟩
theorem RR_InC {S : zSt} {s : zMs} {B j : Nat} (h : RR S s B) (hB31 : B < 2147483640) (hj : j ≤ cU S) (hu : cU S < 8) : RR (zInC S j) (mPut s 1 j) (B + 1) := by
  obtain ⟨⟨a1, a2, a3, a4⟩, ⟨b1, b2, b3, b4⟩, hK, ⟨hX, hY⟩, ⟨hO, hO2⟩, hB, hN, hP, hQ⟩ := h
  have h12 := a1.1.1
  have h8 := a1.1.2.1
  have hU : nU s 1 = cU S := b2
  have ju : j ≤ nU s 1 := by rw [hU]; exact hj
  have uM : nU s 1 < 8 := by rw [hU]; exact hu
  have fle := mFs_le (vU := nU s) (vS := nS s) (ax := 1) (by omega)
  have fre : ∀ {p}, p < nU s 1 → mS (nS s) 1 p ≠ mFs (nU s) (nS s) 1 := fun hp => mFs_free (by omega) hp
  have oj : zOp (cO S) (cU S) j j = cO S (cU S) := zOp_j _ _ _
  have oi : ∀ {i}, i < cU S + 1 → i ≠ j → zOp (cO S) (cU S) j i = cO S (bck j i) := fun hi hn => zOp_i hi hn
  have sj : mS (mPuS (nU s) (nS s) 1 j) 1 j = mFs (nU s) (nS s) 1 := by unfold mS mPuS zUpN; rw [if_pos rfl]
  have si : ∀ {i}, i < nU s 1 + 1 → i ≠ j → mS (mPuS (nU s) (nS s) 1 j) 1 i = mS (nS s) 1 (bck j i) := by
    intro i hi hn
    unfold mS mPuS zUpN mOpL bck
    rw [if_neg (by omega)]
    by_cases q : j < i
    · rw [if_pos ⟨by omega, by omega⟩, if_neg (by omega), show 12 * 1 + i - 1 = 12 * 1 + (i - 1) by omega]
    · rw [if_neg (fun z => by omega), if_pos (by omega)]
  have sB : ∀ {i}, i < 12 → mS (mPuS (nU s) (nS s) 1 j) 0 i = mS (nS s) 0 i := by
    intro i hi
    unfold mS mPuS zUpN mOpL
    rw [if_neg (by omega), if_neg (fun z => by omega)]
  have nj : mN (mPuS (nU s) (nS s) 1 j) (mPuN (nU s) (nS s) (nN s) (nX s) 1) 1 j = nI (nX s) := by
    unfold mN mPuN
    rw [sj, upd_eq]
  have ni : ∀ {i}, i < nU s 1 + 1 → i ≠ j → mN (mPuS (nU s) (nS s) 1 j) (mPuN (nU s) (nS s) (nN s) (nX s) 1) 1 i = mN (nS s) (nN s) 1 (bck j i) := by
    intro i hi hn
    have t := fre (bck_lt ju hi hn)
    unfold mN mPuN
    rw [si hi hn, upd_ne (by omega)]
  have nB' : ∀ {i}, i < 12 → mN (mPuS (nU s) (nS s) 1 j) (mPuN (nU s) (nS s) (nN s) (nX s) 1) 0 i = mN (nS s) (nN s) 0 i := by
    intro i hi
    have t0 := okM_r a2 i
    have t1 := okM_c a2 i
    unfold mN mPuN
    rw [sB hi, upd_ne (by omega)]
  have zA : zUpN (nU s) 1 (nU s 1 + 1) 1 = cU S + 1 := by simp [zUpN, hU]
  have zC : zUpN (nU s) 1 (nU s 1 + 1) 0 = rU S := by simp [zUpN]; exact b1
  have iA : ∀ {i}, i < nU (mPut s 1 j) 1 → i < cU S + 1 := fun {i} hi => by have h2 : i < zUpN (nU s) 1 (nU s 1 + 1) 1 := hi; rw [zA] at h2; exact h2
  have iC : ∀ {i}, i < nU (mPut s 1 j) 0 → i < rU S := fun {i} hi => by have h2 : i < zUpN (nU s) 1 (nU s 1 + 1) 0 := hi; rw [zC] at h2; exact h2
  have nn : ∀ {p}, p < nU s 1 → ∃ v, v < nX s ∧ mN (nS s) (nN s) 1 p = nI v := fun {p} hp => hN.2.2.1 p hp
  have nX1 := hN.1
  have nne : ∀ {p}, p < nU s 1 → mN (nS s) (nN s) 1 p ≠ nI (nX s) := by
    intro p hp e
    obtain ⟨v, hv, ev⟩ := nn hp
    have := (nI_eq (by omega) (by omega)).mp (ev.symm.trans e)
    omega
  have n1 : ∀ i k, i < cU S + 1 → k < cU S + 1 → mN (mPuS (nU s) (nS s) 1 j) (mPuN (nU s) (nS s) (nN s) (nX s) 1) 1 i = mN (mPuS (nU s) (nS s) 1 j) (mPuN (nU s) (nS s) (nN s) (nX s) 1) 1 k → i = k := by
    intro i k hi hk e
    rw [← hU] at hi hk
    by_cases p1 : i = j
    · by_cases p2 : k = j
      · omega
      · rw [p1, nj, ni hk p2] at e; exact absurd e.symm (nne (bck_lt ju hk p2))
    · by_cases p2 : k = j
      · rw [p2, nj, ni hi p1] at e; exact absurd e (nne (bck_lt ju hi p1))
      · rw [ni hi p1, ni hk p2] at e; exact bck_inj p1 p2 (a3.2 _ _ (bck_lt ju hi p1) (bck_lt ju hk p2) e)
  have n2 : ∀ i k, i < rU S → k < rU S → mN (mPuS (nU s) (nS s) 1 j) (mPuN (nU s) (nS s) (nN s) (nX s) 1) 0 i = mN (mPuS (nU s) (nS s) 1 j) (mPuN (nU s) (nS s) (nN s) (nX s) 1) 0 k → i = k := by
    intro i k hi hk e
    rw [nB' (by omega), nB' (by omega)] at e
    exact a3.1 _ _ (by rw [b1]; exact hi) (by rw [b1]; exact hk) e
  have m1 : ∀ i k, i < cU S + 1 → k < cU S + 1 → mS (mPuS (nU s) (nS s) 1 j) 1 i = mS (mPuS (nU s) (nS s) 1 j) 1 k → i = k := by
    intro i k hi hk e
    rw [← hU] at hi hk
    by_cases p1 : i = j
    · by_cases p2 : k = j
      · omega
      · rw [p1, sj, si hk p2] at e; exact absurd e.symm (fre (bck_lt ju hk p2))
    · by_cases p2 : k = j
      · rw [p2, sj, si hi p1] at e; exact absurd e (fre (bck_lt ju hi p1))
      · rw [si hi p1, si hk p2] at e; exact bck_inj p1 p2 (a4.2 _ _ (bck_lt ju hi p1) (bck_lt ju hk p2) e)
  have m2 : ∀ i k, i < rU S → k < rU S → mS (mPuS (nU s) (nS s) 1 j) 0 i = mS (mPuS (nU s) (nS s) 1 j) 0 k → i = k := by
    intro i k hi hk e
    rw [sB (by omega), sB (by omega)] at e
    exact a4.1 _ _ (by rw [b1]; exact hi) (by rw [b1]; exact hk) e
  have ownX : RX (mK S) (cU S + 1) (zOp (cO S) (cU S) j) (fA S) 4 (nC s) (mN (mPuS (nU s) (nS s) 1 j) (mPuN (nU s) (nS s) (nN s) (nX s) 1) 1) := by
    intro x hx
    obtain ⟨x1, x2⟩ := hY x hx
    refine ⟨fun i hi => ?_, ?_⟩
    · by_cases p1 : i = j
      · subst p1
        rw [oj, nj]
        constructor
        · intro q
          rcases x2 with t | ⟨t, ht, e⟩
          · exact absurd (t.symm.trans q) (RO_m5 hO2 (by decide) hu)
          · have := hO2.2 _ _ (by omega) hu (e.symm.trans q); omega
        · intro q
          have hM : x < nM s := by rw [b3]; exact hx
          rcases (hN.2.2.2 x hM).2 with t | ⟨v, hv, ev⟩
          · exact absurd (q.symm.trans t) (nI_m5n (by omega))
          · have := (nI_eq (by omega) (by omega)).mp (ev.symm.trans q); omega
      · rw [oi hi p1, ni (by omega) p1]
        exact x1 _ (bck_lt hj hi p1)
    · rcases x2 with t | ⟨t, ht, e⟩
      · exact Or.inl t
      · obtain ⟨i, hi, hn, ei⟩ := bck_ex hj ht
        exact Or.inr ⟨i, hi, by rw [oi hi hn, ei]; exact e⟩
  have othX : RX (mK S) (rU S) (rO S) (fA S) 3 (nR s) (mN (mPuS (nU s) (nS s) 1 j) (mPuN (nU s) (nS s) (nN s) (nX s) 1) 0) := by
    intro x hx
    obtain ⟨x1, x2⟩ := hX x hx
    exact ⟨fun i hi => by rw [nB' (by omega)]; exact x1 i hi, x2⟩
  have up1 : ∀ {q : Int32}, (∃ p, p < cU S ∧ q = cO S p) → ∃ p, p < cU S + 1 ∧ q = zOp (cO S) (cU S) j p := by
    rintro q ⟨t, ht, e⟩
    obtain ⟨i, hi, hn, ei⟩ := bck_ex hj ht
    exact ⟨i, hi, by rw [oi hi hn, ei]; exact e⟩
  have own0 : ∀ i, i < cU S + 1 → ∃ v, v < nX s + 1 ∧ mN (mPuS (nU s) (nS s) 1 j) (mPuN (nU s) (nS s) (nN s) (nX s) 1) 1 i = nI v := by
    intro i hi
    rw [← hU] at hi
    by_cases p1 : i = j
    · exact ⟨nX s, by omega, by rw [p1, nj]⟩
    · obtain ⟨v, hv, ev⟩ := nn (bck_lt ju hi p1)
      exact ⟨v, by omega, by rw [ni hi p1]; exact ev⟩
  have oth0 : ∀ i, i < rU S → ∃ v, v < nX s + 1 ∧ mN (mPuS (nU s) (nS s) 1 j) (mPuN (nU s) (nS s) (nN s) (nX s) 1) 0 i = nI v := by
    intro i hi
    obtain ⟨v, hv, ev⟩ := hN.2.1 i (by rw [b1]; exact hi)
    exact ⟨v, by omega, by rw [nB' (by omega)]; exact ev⟩
  have hxc : ∀ {x : Int32}, (x = -5 ∨ ∃ v, v < nX s ∧ x = nI v) → (x = -5 ∨ ∃ v, v < nX s + 1 ∧ x = nI v) := fun q => q.elim Or.inl (fun ⟨v, hv, e⟩ => Or.inr ⟨v, by omega, e⟩)
  refine ⟨⟨gS_InC a1 (by omega), okM_Pu0_1 a2 uM ju, ?_, ?_⟩, ⟨zC, zA, b3, b4⟩, hK, ⟨othX, ownX⟩, ⟨hO, zOp_RO hO2 hu hj⟩, ?_, ⟨Nat.succ_le_succ hN.1, ?_, ?_, fun x hx => ⟨hxc (hN.2.2.2 x hx).1, hxc (hN.2.2.2 x hx).2⟩⟩, ?_, hQ⟩
  · exact ⟨fun i k hi hk => n2 i k (iC hi) (iC hk), fun i k hi hk => n1 i k (iA hi) (iA hk)⟩
  · exact ⟨fun i k hi hk => m2 i k (iC hi) (iC hk), fun i k hi hk => m1 i k (iA hi) (iA hk)⟩
  · intro i k hi hk
    have hi2 : i < rU S := hi
    have hk2 : k < cU S + 1 := hk
    show zBa (zClC (bS S) (cO S (cU S)) 12) (rO S i) (zOp (cO S) (cU S) j k) = mClr (nB s) (mCx (mPuS (nU s) (nS s) 1 j) 1 j) (nU s 0) (8 * mS (mPuS (nU s) (nS s) 1 j) 0 i + mS (mPuS (nU s) (nS s) 1 j) 1 k)
    obtain ⟨c0, hc0, ec⟩ := hO.1 i (by omega)
    obtain ⟨r0, hr0, er⟩ := hO2.1 (cU S) hu
    by_cases p1 : k = j
    · subst p1
      rw [oj, ec, er, zClC_at hr0 hc0 hr0 (Nat.le_refl 12), if_pos ⟨rfl, hc0⟩]
      exact ((mClr_hit (k := i) (n := nU s 0) (by rw [b1]; exact hi2) rfl).trans nI_0).symm
    · obtain ⟨t0, ht0, et⟩ := hO2.1 (bck j k) (by have := bck_lt hj hk2 p1; omega)
      have tr : t0 ≠ r0 := by
        intro z
        subst z
        have := hO2.2 _ _ (by have := bck_lt hj hk2 p1; omega) hu (et.trans er.symm)
        have := bck_lt hj hk2 p1
        omega
      have s8 := okM_c a2 (bck j k)
      have fr := fre (p := bck j k) (by rw [hU]; exact bck_lt hj hk2 p1)
      rw [oi hk2 p1, ec, er, et, zClC_at hr0 hc0 ht0 (Nat.le_refl 12), if_neg (fun z => tr z.1), si (by omega) p1, sB (by omega), mClr_miss (fun q hq => ?_), ← et, ← ec]
      · exact hB _ _ hi2 (bck_lt hj hk2 p1)
      · show 8 * mS (mPuS (nU s) (nS s) 1 j) 0 q + mS (mPuS (nU s) (nS s) 1 j) 1 j ≠ _
        rw [sj, sB (by omega)]
        omega
  · intro i hi
    have hi2 : i < zUpN (nU s) 1 (nU s 1 + 1) 0 := hi
    rw [zC] at hi2; exact oth0 i hi2
  · intro i hi
    have hi2 : i < zUpN (nU s) 1 (nU s 1 + 1) 1 := hi
    rw [zA] at hi2; exact own0 i hi2
  · intro x hx
    obtain ⟨p1, p2, p3⟩ := hP x hx
    exact ⟨p1, p2, fun t => ⟨(p3 t).1, fun k => up1 ((p3 t).2 k)⟩⟩
