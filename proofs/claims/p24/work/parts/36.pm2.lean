/-! the model: free slots, lines put in and taken out, changes made -/
def bt (x : Int32) (i : Nat) : Bool := x.toBitVec.getLsbD i
theorem b_or (x y : Int32) (i : Nat) : bt (x ||| y) i = (bt x i || bt y i) := by unfold bt; rw [Int32.toBitVec_or, BitVec.getLsbD_or]
theorem b_and (x y : Int32) (i : Nat) : bt (x &&& y) i = (bt x i && bt y i) := by unfold bt; rw [Int32.toBitVec_and, BitVec.getLsbD_and]
theorem b_ext {x y : Int32} (h : ∀ i, i < 32 → bt x i = bt y i) : x = y := Int32.toBitVec_inj.mp (BitVec.eq_of_getLsbD_eq (fun i hi => h i hi))
theorem s_l : ∀ n, n < 32 → ((nI n &&& 31).toBitVec.smod 32).toNat = n := by decide +kernel
theorem b_sshr (n : Nat) (hn : n < 32) (x : Int32) {i : Nat} (hi : i < 32) : bt (x >>> (nI n &&& 31)) i = if n + i < 32 then bt x (n + i) else bt x 31 := by
  unfold bt
  rw [Int32.toBitVec_shiftRight]
  show (x.toBitVec.sshiftRight ((nI n &&& 31).toBitVec.smod 32).toNat).getLsbD i = _
  rw [s_l n hn, BitVec.getLsbD_sshiftRight, BitVec.msb_eq_getLsbD_last]
  simp [hi]
theorem mF_one : ∀ c, c < 12 → ∀ t, t < 32 → bt ((nI 1) <<< (nI c &&& 31)) t = decide (c = t) := by decide +kernel
theorem mF_1 : ∀ t, t < 32 → bt (nI 1) t = decide (t = 0) := by decide +kernel
theorem mF_sh (x : Int32) {t : Nat} (ht : t < 31) : bt (x >>> (nI t &&& 31)) 0 = bt x t := by
  have h := b_sshr t (by omega) x (i := 0) (by decide)
  rw [h, if_pos (by omega), Nat.add_zero]
theorem mF_bit {u : Int32} {t : Nat} (ht : t < 31) : ((u >>> (nI t &&& 31)) &&& nI 1 = nI 1) ↔ bt u t = true := by
  constructor
  · intro h
    have h2 := congrArg (fun z => bt z 0) h
    simp only [b_and, mF_1 0 (by decide), mF_sh u ht] at h2
    simpa using h2
  · intro h
    refine b_ext (fun i hi => ?_)
    rw [b_and, mF_1 i hi]
    by_cases e : i = 0
    · subst e
      rw [mF_sh u ht, h]; rfl
    · simp [e]
def mUd (vS : Nat → Nat) (ax : Nat) : Nat → Nat → Bool
  | 0, _ => false
  | k + 1, t => mUd vS ax k t || decide (mS vS ax k = t)
theorem mUd_at {vS : Nat → Nat} {ax t : Nat} : ∀ {k : Nat}, mUd vS ax k t = true → ∃ p, p < k ∧ mS vS ax p = t
  | 0, h => by simp [mUd] at h
  | k + 1, h => by
    simp only [mUd, Bool.or_eq_true, decide_eq_true_eq] at h
    rcases h with h | h
    · obtain ⟨p, hp, e⟩ := mUd_at h
      exact ⟨p, by omega, e⟩
    · exact ⟨k, by omega, h⟩
theorem mUd_mk {vS : Nat → Nat} {ax t p : Nat} (e : mS vS ax p = t) : ∀ {k : Nat}, p < k → mUd vS ax k t = true
  | 0, h => absurd h (Nat.not_lt_zero _)
  | k + 1, h => by
    simp only [mUd, Bool.or_eq_true, decide_eq_true_eq]
    rcases Nat.lt_or_ge p k with q | q
    · exact Or.inl (mUd_mk e q)
    · exact Or.inr (by rw [show k = p by omega]; exact e)
theorem mF_st {vS : Nat → Nat} {ax k c : Nat} {u : Int32} (hc : c < 12) (e : mS vS ax k = c) (hu : ∀ t, t < 32 → bt u t = mUd vS ax k t) : ∀ t, t < 32 → bt (u ||| ((nI 1) <<< (nI c &&& 31))) t = mUd vS ax (k + 1) t := by
  intro t ht
  rw [b_or, hu t ht, mF_one c hc t ht, mUd, e]
theorem mF_0 : ∀ t, t < 32 → bt (nI 0) t = false := by decide +kernel
theorem mFs_ne : Nonempty { f : (Nat → Nat) → (Nat → Nat) → Nat → Nat // f = fun vU vS ax => zix (fun t => !mUd vS ax (vU ax) t) 12 } := ⟨⟨_, rfl⟩⟩
noncomputable def mFs9 : { f : (Nat → Nat) → (Nat → Nat) → Nat → Nat // f = fun vU vS ax => zix (fun t => !mUd vS ax (vU ax) t) 12 } := Classical.choice mFs_ne
noncomputable def mFs (vU : Nat → Nat) (vS : Nat → Nat) (ax : Nat) : Nat := mFs9.1 vU vS ax
theorem mFs_d (vU : Nat → Nat) (vS : Nat → Nat) (ax : Nat) : mFs vU vS ax = zix (fun t => !mUd vS ax (vU ax) t) 12 := by
  show mFs9.1 vU vS ax = _
  rw [mFs9.2]
theorem mFs_eq {vU : Nat → Nat} {vS : Nat → Nat} {ax t : Nat} (ht : t ≤ 12) (h0 : ∀ j, j < t → mUd vS ax (vU ax) j = true) (h1 : mUd vS ax (vU ax) t = false) : t = mFs vU vS ax := by
  have h2 : ∀ j, j < t → (fun t => !mUd vS ax (vU ax) t) j = false := fun j hj => by simp [h0 j hj]
  rcases Nat.lt_or_ge t 12 with q | q
  · exact (mFs_d vU vS ax).trans (zix_at (p := fun t => !mUd vS ax (vU ax) t) (by simp [h1]) h2 q) |>.symm
  · have e : t = 12 := by omega
    subst e
    have := zix_no (p := fun t => !mUd vS ax (vU ax) t) h2
    have h3 := zix_le (fun t => !mUd vS ax (vU ax) t) 12
    rw [mFs_d]
    omega
/-- n places never hold n + 1 values -/
theorem pigeon : ∀ (n : Nat) (f : Nat → Nat), ∃ t, t ≤ n ∧ ∀ p, p < n → f p ≠ t
  | 0, _ => ⟨0, Nat.le_refl 0, fun p h => absurd h (Nat.not_lt_zero p)⟩
  | n + 1, f => by
    obtain ⟨t, ht, hg⟩ := pigeon n (fun p => if f n < f p then f p - 1 else f p)
    rcases Nat.lt_or_ge t (f n) with q | q
    · refine ⟨t, by omega, fun p hp e => ?_⟩
      rcases Nat.lt_or_ge p n with h | h
      · have := hg p h
        rw [if_neg (by omega)] at this
        exact this e
      · rw [show p = n by omega] at e; omega
    · refine ⟨t + 1, by omega, fun p hp e => ?_⟩
      rcases Nat.lt_or_ge p n with h | h
      · have := hg p h
        rw [if_pos (by omega)] at this
        omega
      · rw [show p = n by omega] at e; omega
theorem mFs_le {vU : Nat → Nat} {vS : Nat → Nat} {ax : Nat} (h : vU ax < 12) : mFs vU vS ax ≤ vU ax := by
  obtain ⟨t, ht, hf⟩ := pigeon (vU ax) (mS vS ax)
  have h1 : mUd vS ax (vU ax) t = false := by
    cases e : mUd vS ax (vU ax) t with
    | false => rfl
    | true => obtain ⟨p, hp, e2⟩ := mUd_at e; exact absurd e2 (hf p hp)
  rcases Nat.lt_or_ge t (mFs vU vS ax) with q | q
  · exfalso
    rw [mFs_d] at q
    have key : ∀ m j, j < m → j < zix (fun t => !mUd vS ax (vU ax) t) m → (!mUd vS ax (vU ax) j) = false := by
      intro m
      induction m with
      | zero => intro j h; omega
      | succ m ih =>
        intro j h1 h2
        simp only [zix] at h2
        split at h2
        · rename_i z
          have := zix_le (fun t => !mUd vS ax (vU ax) t) m
          exact ih j (by omega) h2
        · rename_i z
          have hz := zix_le (fun t => !mUd vS ax (vU ax) t) m
          split at h2
          · exact ih j (by omega) (by omega)
          · rename_i z2
            rcases Nat.lt_or_ge j m with q3 | q3
            · exact ih j q3 (by omega)
            · rw [show j = m by omega]
              simpa using z2
    have := key 12 t (by omega) q
    rw [h1] at this
    cases this
  · omega
theorem mFs_free {vU : Nat → Nat} {vS : Nat → Nat} {ax : Nat} (h : vU ax < 12) {p : Nat} (hp : p < vU ax) : mS vS ax p ≠ mFs vU vS ax := by
  intro e
  have h1 := mFs_le (vS := vS) h
  have h2 := zix_p (p := fun t => !mUd vS ax (vU ax) t) (n := 12) (by rw [← mFs_d]; omega)
  have h3 := mUd_mk e hp
  have h4 : (!mUd vS ax (vU ax) (mFs vU vS ax)) = true := by rw [mFs_d]; exact h2
  rw [h3] at h4
  cases h4
/-- places b + k + 1 .. b + u moved up by one -/
def mOpL (f : Nat → Nat) (b u k : Nat) : Nat → Nat := fun i => if b + k < i ∧ i ≤ b + u then f (i - 1) else f i
theorem mOpL_0 (f : Nat → Nat) (b u : Nat) : mOpL f b u u = f := by
  funext i
  simp only [mOpL]
  rw [if_neg (by omega)]
theorem mOpL_s {f : Nat → Nat} {b u q : Nat} (h : q + 1 ≤ u) : zUpN (mOpL f b u (q + 1)) (b + (q + 1)) (mOpL f b u (q + 1) (b + q)) = mOpL f b u q := by
  funext i
  simp only [mOpL, zUpN]
  by_cases hi : i = b + (q + 1)
  · rw [if_pos hi, if_neg (by omega), if_pos (by omega), hi]
    rfl
  · rw [if_neg hi]
    by_cases h2 : b + (q + 1) < i ∧ i ≤ b + u
    · rw [if_pos h2, if_pos (by omega)]
    · rw [if_neg h2, if_neg (by omega)]
def mClL (f : Nat → Nat) (b j k : Nat) : Nat → Nat := fun i => if b + j ≤ i ∧ i < b + k then f (i + 1) else f i
theorem mClL_0 (f : Nat → Nat) (b j : Nat) : mClL f b j j = f := by
  funext i
  simp only [mClL]
  rw [if_neg (by omega)]
theorem mClL_s {f : Nat → Nat} {b j k : Nat} (h : j ≤ k) : zUpN (mClL f b j k) (b + k) (mClL f b j k (b + (k + 1))) = mClL f b j (k + 1) := by
  funext i
  simp only [mClL, zUpN]
  by_cases hi : i = b + k
  · rw [if_pos hi, if_neg (by omega), if_pos (by omega), hi]
    rfl
  · rw [if_neg hi]
    by_cases h2 : b + j ≤ i ∧ i < b + k
    · rw [if_pos h2, if_pos (by omega)]
    · rw [if_neg h2, if_neg (by omega)]
def mClr (f : Nat → Int32) (ix : Nat → Nat) : Nat → (Nat → Int32)
  | 0 => f
  | k + 1 => upd (mClr f ix k) (ix k) (nI 0)
/-- a line put in: slots, names, cells -/
noncomputable def mPuS (vU vS : Nat → Nat) (ax j : Nat) : Nat → Nat := zUpN (mOpL vS (12 * ax) (vU ax) j) (12 * ax + j) (mFs vU vS ax)
noncomputable def mPuN (vU vS : Nat → Nat) (vN : Nat → Int32) (vX ax : Nat) : Nat → Int32 := upd vN (12 * ax + mFs vU vS ax) (nI vX)
def mCx (vS : Nat → Nat) (ax j : Nat) : Nat → Nat := if ax = 0 then (fun k => 8 * mS vS 0 j + mS vS 1 k) else (fun k => 8 * mS vS 0 k + mS vS 1 j)
theorem zUpN_lt {f : Nat → Nat} {j v n : Nat} (hf : ∀ p, f p < n) (hv : v < n) : ∀ p, zUpN f j v p < n := by
  intro p
  simp only [zUpN]
  split
  · exact hv
  · exact hf p
theorem okM_Pu0_0 {vU : Nat → Nat} {vS : Nat → Nat} {vM : Nat} {vK : Nat → Int32} {j : Nat} (h : okM vU vS vM vK) (hu : vU 0 < 12) (hj : j ≤ vU 0) : okM (zUpN vU 0 (vU 0 + 1)) (mPuS vU vS 0 j) vM vK := by
  obtain ⟨h1, h2, h3, h4, h5, h6⟩ := h
  have hf := mFs_le (vS := vS) hu
  refine ⟨by simp [zUpN]; omega, by simp [zUpN]; omega, h3, ?_, ?_, h6⟩
  · intro p
    show zUpN (mOpL (vS) (12 * 0) (vU 0) j) (12 * 0 + j) (mFs vU vS 0) p < 12
    refine zUpN_lt (fun q => ?_) (by omega) p
    simp only [mOpL]
    split
    · exact h4 _
    · exact h4 _
  · intro p
    show zUpN (mOpL (vS) (12 * 0) (vU 0) j) (12 * 0 + j) (mFs vU vS 0) (12 + p) < 8
    simp only [mOpL, zUpN]
    rw [if_neg (by omega), if_neg (by omega)]
    exact h5 p
theorem okM_Pu0_1 {vU : Nat → Nat} {vS : Nat → Nat} {vM : Nat} {vK : Nat → Int32} {j : Nat} (h : okM vU vS vM vK) (hu : vU 1 < 8) (hj : j ≤ vU 1) : okM (zUpN vU 1 (vU 1 + 1)) (mPuS vU vS 1 j) vM vK := by
  obtain ⟨h1, h2, h3, h4, h5, h6⟩ := h
  have hf := mFs_le (vU := vU) (vS := vS) (ax := 1) (by omega)
  have key : ∀ p, zUpN (mOpL (vS) (12 * 1) (vU 1) j) (12 * 1 + j) (mFs vU vS 1) (12 + p) < 8 := by
    intro p
    simp only [mOpL, zUpN]
    split
    · omega
    · split
      · rw [show 12 + p - 1 = 12 + (p - 1) by omega]; exact h5 _
      · exact h5 p
  refine ⟨by simp [zUpN]; omega, by simp [zUpN]; omega, h3, ?_, key, h6⟩
  intro p
  show zUpN (mOpL (vS) (12 * 1) (vU 1) j) (12 * 1 + j) (mFs vU vS 1) p < 12
  rcases Nat.lt_or_ge p 12 with q | q
  · simp only [mOpL, zUpN]
    rw [if_neg (by omega), if_neg (by omega)]
    exact h4 p
  · have := key (p - 12)
    rw [show 12 + (p - 12) = p by omega] at this
    omega
theorem okM_Tk_0 {vU : Nat → Nat} {vS : Nat → Nat} {vM : Nat} {vK : Nat → Int32} {j : Nat} (h : okM vU vS vM vK) (hj : j < vU 0) : okM (zUpN vU 0 (vU 0 - 1)) (mClL vS (12 * 0) j (vU 0 - 1)) vM vK := by
  obtain ⟨h1, h2, h3, h4, h5, h6⟩ := h
  refine ⟨by simp [zUpN]; omega, by simp [zUpN]; omega, h3, ?_, ?_, h6⟩
  · intro p
    show mClL (vS) (12 * 0) j (vU 0 - 1) p < 12
    simp only [mClL]
    split
    · exact h4 _
    · exact h4 _
  · intro p
    show mClL (vS) (12 * 0) j (vU 0 - 1) (12 + p) < 8
    simp only [mClL]
    rw [if_neg (by omega)]
    exact h5 p
theorem okM_Tk_1 {vU : Nat → Nat} {vS : Nat → Nat} {vM : Nat} {vK : Nat → Int32} {j : Nat} (h : okM vU vS vM vK) (hj : j < vU 1) : okM (zUpN vU 1 (vU 1 - 1)) (mClL vS (12 * 1) j (vU 1 - 1)) vM vK := by
  obtain ⟨h1, h2, h3, h4, h5, h6⟩ := h
  refine ⟨by simp [zUpN]; omega, by simp [zUpN]; omega, h3, ?_, ?_, h6⟩
  · intro p
    show mClL (vS) (12 * 1) j (vU 1 - 1) p < 12
    simp only [mClL]
    split
    · exact h4 _
    · exact h4 _
  · intro p
    show mClL (vS) (12 * 1) j (vU 1 - 1) (12 + p) < 8
    simp only [mClL]
    split
    · rw [show 12 + p + 1 = 12 + (p + 1) by omega]; exact h5 _
    · exact h5 p
theorem okM_New {vU : Nat → Nat} {vS : Nat → Nat} {vM : Nat} {vK : Nat → Int32} {kd : Int32} (h : okM vU vS vM vK) (hm : vM < 60) (hk : kd = nI 0 ∨ kd = nI 1 ∨ kd = nI 2 ∨ kd = nI 3 ∨ kd = nI 4) : okM vU vS (vM + 1) (upd vK vM kd) := by
  obtain ⟨h1, h2, h3, h4, h5, h6⟩ := h
  refine ⟨h1, h2, by omega, h4, h5, ?_⟩
  intro x hx
  simp only [upd]
  by_cases e : x = vM
  · rw [if_pos e]; exact hk
  · rw [if_neg e]; exact h6 x (by omega)
theorem z_ax2 {x : Int32} (h0 : ¬ x = 0) (h1 : ¬ x = nI 1) : x < 0 ∨ (¬ x < 0 ∧ nI 1 < x) := by
  by_cases h : x < 0
  · exact Or.inl h
  · refine Or.inr ⟨h, ?_⟩
    by_cases q : nI 2 ≤ x
    · have h3 := Int32.le_iff_toInt_le.mp q
      rw [nI_toInt (by omega)] at h3
      rw [Int32.lt_iff_toInt_lt, nI_toInt (by omega)]
      omega
    · obtain ⟨j, hj, e⟩ := z_nat (n := 2) (by decide) h q
      rcases (show j = 0 ∨ j = 1 by omega) with z | z
      · subst z; exact absurd (e.trans nI_0) h0
      · subst z; exact absurd e h1
def nmM (vU : Nat → Nat) (vS : Nat → Nat) (vN : Nat → Int32) : Prop := (∀ p q, p < vU 0 → q < vU 0 → mN vS vN 0 p = mN vS vN 0 q → p = q) ∧ (∀ p q, p < vU 1 → q < vU 1 → mN vS vN 1 p = mN vS vN 1 q → p = q)
theorem mPl_0 {vU : Nat → Nat} {vS : Nat → Nat} {vM : Nat} {vK : Nat → Int32} {vN : Nat → Int32} (h : nmM vU vS vN) (hO : okM vU vS vM vK) {i : Nat} (hi : i < vU 0) : mPl vS vN vU 0 (mN vS vN 0 i) = nI i := by
  have := hO.1
  exact zf_at (k := i) (by omega) (by simp [mPE]) (fun j hj => by simp only [mPE, decide_eq_false_iff_not]; exact fun e => absurd (h.1 j i (by omega) hi e) (by omega)) hi
theorem mPl_1 {vU : Nat → Nat} {vS : Nat → Nat} {vM : Nat} {vK : Nat → Int32} {vN : Nat → Int32} (h : nmM vU vS vN) (hO : okM vU vS vM vK) {i : Nat} (hi : i < vU 1) : mPl vS vN vU 1 (mN vS vN 1 i) = nI i := by
  have := hO.2.1
  exact zf_at (k := i) (by omega) (by simp [mPE]) (fun j hj => by simp only [mPE, decide_eq_false_iff_not]; exact fun e => absurd (h.2 j i (by omega) hi e) (by omega)) hi
theorem zb_1 {b : Bool} : zb b = nI 1 ↔ b = true := by cases b <;> decide
