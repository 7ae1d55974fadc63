/-! acts keep a table good -/
def VFf (g : Nat → Int32) (M : Nat) : Prop := ∀ x, x < M → (∃ a, a < 4 ∧ g (6 * x + 1) = nI a) ∧ (∃ z, z < 4 ∧ g (6 * x + 2) = nI z) ∧ (g (6 * x) = nI 4 → ∃ v, v < 10000 ∧ g (6 * x + 5) = nI v)
def VFb (fb : Nat → Int32) : Prop := ∀ i, i < 96 → ∃ v, v < 10000 ∧ fb i = nI v
theorem VF_iff (S : zSt) : VF S ↔ VFf (fA S) (mK S) ∧ VFb (bS S) := Iff.rfl
theorem VFf_add {g : Nat → Int32} {M a : Nat} {kd r c v : Int32} (h : VFf g M) (ha : a < 4) (hv : kd = nI 4 → ∃ w, w < 10000 ∧ v = nI w) : VFf (zAdd g M kd (nI a) r c v) (M + 1) := by
  intro x hx
  rcases Nat.lt_or_ge x M with q | q
  · rw [zAdd_lt (by omega), zAdd_lt (by omega), zAdd_lt (by omega), zAdd_lt (by omega)]
    exact h x q
  · have e : x = M := by omega
    subst e
    obtain ⟨m0, m1, m2, -, -, m5⟩ := zAdd_M (g := g) (M := x) (kd := kd) (au := nI a) (r := r) (c := c) (v := v)
    rw [m0, m1, m2, m5]
    exact ⟨⟨a, ha, rfl⟩, ⟨0, by decide, rfl⟩, hv⟩
theorem VFf_st {g g' : Nat → Int32} {M : Nat} (h : VFf g M) (h0 : ∀ x, x < M → g' (6 * x) = g (6 * x) ∧ g' (6 * x + 1) = g (6 * x + 1) ∧ (g' (6 * x + 5) = g (6 * x + 5) ∨ ∃ v, v < 10000 ∧ g' (6 * x + 5) = nI v) ∧ (g' (6 * x + 2) = g (6 * x + 2) ∨ ∃ z, z < 4 ∧ g' (6 * x + 2) = nI z)) : VFf g' M := by
  intro x hx
  obtain ⟨a, b, c⟩ := h x hx
  obtain ⟨e0, e1, e5, e2⟩ := h0 x hx
  rw [e0, e1]
  refine ⟨a, ?_, fun q => ?_⟩
  · rcases e2 with e | e
    · rw [e]; exact b
    · exact e
  · rcases e5 with e | e
    · rw [e]; exact c q
    · exact e
theorem VFf_lv {g : Nat → Int32} {M w : Nat} {sl : Int32} (h : VFf g M) (hw : w = 3 ∨ w = 4) : VFf (zLv g w sl M) M := by
  refine VFf_st h (fun x hx => ?_)
  have o : ∀ u, u < 6 → u ≠ w → u ≠ 2 → zLv g w sl M (6 * x + u) = g (6 * x + u) := fun u h1 h2 h3 => zLv_o h1 h2 h3
  refine ⟨o 0 (by decide) (by omega) (by decide), o 1 (by decide) (by omega) (by decide), Or.inl (o 5 (by decide) (by omega) (by decide)), ?_⟩
  rw [zLv_2 hx (by omega)]
  split
  · exact Or.inr ⟨3, by decide, rfl⟩
  · exact Or.inl rfl
theorem VFf_mk {g : Nat → Int32} {M k z : Nat} {p : Nat → Bool} (h : VFf g M) (hz : z < 4) : VFf (zMk g p (nI z) k) M := by
  refine VFf_st h (fun x hx => ?_)
  have o : ∀ u, u < 6 → u ≠ 2 → zMk g p (nI z) k (6 * x + u) = g (6 * x + u) := fun u h1 h2 => zMk_oth h1 h2
  refine ⟨o 0 (by decide) (by decide), o 1 (by decide) (by decide), Or.inl (o 5 (by decide) (by decide)), ?_⟩
  rcases Nat.lt_or_ge x k with q | q
  · rw [zMk_at2 q]
    split
    · exact Or.inr ⟨z, hz, rfl⟩
    · exact Or.inl rfl
  · exact Or.inl (zMk_ge q (by decide))
theorem VFf_u2 {g : Nat → Int32} {M y z : Nat} (h : VFf g M) (hz : z < 4) : VFf (upd g (6 * y + 2) (nI z)) M := by
  refine VFf_st h (fun x hx => ?_)
  refine ⟨upd_ne (by omega), upd_ne (by omega), Or.inl (upd_ne (by omega)), ?_⟩
  by_cases e : x = y
  · subst e; exact Or.inr ⟨z, hz, upd_eq⟩
  · exact Or.inl (upd_ne (by omega))
theorem VFf_u5 {g : Nat → Int32} {M y v : Nat} (h : VFf g M) (hv : v < 10000) : VFf (upd g (6 * y + 5) (nI v)) M := by
  refine VFf_st h (fun x hx => ?_)
  refine ⟨upd_ne (by omega), upd_ne (by omega), ?_, Or.inl (upd_ne (by omega))⟩
  by_cases e : x = y
  · subst e; exact Or.inr ⟨v, hv, upd_eq⟩
  · exact Or.inl (upd_ne (by omega))
theorem VFb_pb {fb : Nat → Int32} {r c : Int32} {v : Nat} (h : VFb fb) (hv : v < 10000) : VFb (zPb fb r c (nI v)) := by
  intro i hi
  unfold zPb
  split
  · exact h i hi
  · unfold upd
    split
    · exact ⟨v, hv, rfl⟩
    · exact h i hi
theorem VFb_clR {fb : Nat → Int32} {sl : Int32} (h : VFb fb) : ∀ k, VFb (zClR fb sl k)
  | 0 => h
  | k + 1 => VFb_pb (VFb_clR h k) (by decide)
theorem VFb_clC {fb : Nat → Int32} {sl : Int32} (h : VFb fb) : ∀ k, VFb (zClC fb sl k)
  | 0 => h
  | k + 1 => VFb_pb (VFb_clC h k) (by decide)
theorem n4 {k : Nat} (hk : k < 4) {P : Prop} (e : nI k = nI 4) : P := absurd ((nI_eq (by omega) (by decide)).mp e) (by omega)
theorem VF_Ins {S : zSt} {a : Nat} {ax pl : Int32} (h : VF S) (ha : a < 4) : VF (zIns S (nI a) ax pl).2 := by
  unfold zIns
  split
  · exact h
  · split
    · unfold zInsR
      split
      · exact h
      · split
        · exact h
        · split
          · exact ⟨VFf_add h.1 ha (n4 (by decide)), VFb_clR h.2 8⟩
          · exact ⟨h.1, VFb_clR h.2 8⟩
    · split
      · unfold zInsC
        split
        · exact h
        · split
          · exact h
          · split
            · exact ⟨VFf_add h.1 ha (n4 (by decide)), VFb_clC h.2 12⟩
            · exact ⟨h.1, VFb_clC h.2 12⟩
      · exact h
theorem VF_DrR {S : zSt} {sl : Int32} (h : VF S) : VF (zDrR S sl) := ⟨VFf_lv h.1 (Or.inl rfl), h.2⟩
theorem VF_DrC {S : zSt} {sl : Int32} (h : VF S) : VF (zDrC S sl) := ⟨VFf_lv h.1 (Or.inr rfl), h.2⟩
theorem VF_Rem {S : zSt} {a : Nat} {ax pl : Int32} (h : VF S) (ha : a < 4) : VF (zRem S (nI a) ax pl).2 := by
  unfold zRem
  split
  · exact h
  · split
    · split
      · exact h
      · unfold zRemRj
        split
        · exact VF_DrR h
        · split
          · exact h
          · split
            · exact VF_DrR h
            · split
              · exact h
              · exact ⟨VFf_add h.1 ha (n4 (by decide)), h.2⟩
    · split
      · split
        · exact h
        · unfold zRemCj
          split
          · exact VF_DrC h
          · split
            · exact h
            · split
              · exact VF_DrC h
              · split
                · exact h
                · exact ⟨VFf_add h.1 ha (n4 (by decide)), h.2⟩
      · exact h
theorem VF_SetN {S : zSt} {a i j v : Nat} (h : VF S) (ha : a < 4) (hv : v < 10000) : VF (zSetN S (nI a) i j (nI v)).2 := by
  unfold zSetN
  split
  · exact h
  · exact ⟨VFf_add h.1 ha (fun _ => ⟨v, hv, rfl⟩), h.2⟩
theorem VF_Set {S : zSt} {a v : Nat} {r c : Int32} (h : VF S) (ha : a < 4) (hv : v < 10000) : VF (zSet S (nI a) r c (nI v)).2 := by
  unfold zSet
  split
  · exact h
  · split
    · exact h
    · split
      · exact h
      · unfold zSetij
        split
        · exact h
        · split
          · exact h
          · split
            · exact ⟨VFf_mk h.1 (by decide), VFb_pb h.2 hv⟩
            · split
              · exact VF_SetN h ha hv
              · split
                · split
                  · exact ⟨VFf_u5 (VFf_u2 h.1 (by decide)) hv, h.2⟩
                  · exact ⟨VFf_u5 h.1 hv, h.2⟩
                · exact VF_SetN h ha hv
theorem VF_A1 {S : zSt} {x : Nat} (h : VF S) : VF (zA1 S x) := ⟨VFf_u2 h.1 (by decide), h.2⟩
theorem VF_AA {S : zSt} {x : Nat} (h : VF S) (hx : x < mK S) : VF (zAA S x) := by
  have h1 : VF (zA1 S x) := VF_A1 h
  unfold zAA
  split
  · exact VF_DrR h1
  · split
    · exact VF_DrC h1
    · split
      · rename_i q
        obtain ⟨v, hv, e⟩ := (h1.1 x hx).2.2 q
        rw [e]
        exact ⟨h1.1, VFb_pb h.2 hv⟩
      · exact h1
theorem VF_AL {S : zSt} {x : Nat} (h : VF S) (ok : okS S) : ∀ k, k ≤ mK S → VF (zAL S x k).1
  | 0, _ => h
  | k + 1, hk => by
    have ih := VF_AL h ok (x := x) k (by omega)
    simp only [zAL]
    split
    · exact VF_AA ih (by rw [(zAL_ok ok k).2.1]; omega)
    · exact ih
theorem VF_AW {S : zSt} {x : Nat} (h : VF S) (ok : okS S) (hx : x < mK S) : VF (zAW S x) := VF_AA (VF_AL h ok _ (Nat.le_refl _)) (by rw [(zAL_ok ok _).2.1]; exact hx)
theorem VF_RW {S : zSt} {x : Nat} (h : VF S) : VF (zRW S x) := by
  have h1 : VF (zR1 S x) := ⟨VFf_u2 (VFf_mk h.1 (by decide)) (by decide), h.2⟩
  unfold zRW
  split
  · exact VF_DrR h1
  · split
    · exact VF_DrC h1
    · exact h1
theorem VF_SL {S : zSt} {au : Int32} {b : Bool} (h : VF S) (ok : okS S) : ∀ k, k ≤ mK S → VF (zSL S au b k).1
  | 0, _ => h
  | k + 1, hk => by
    have ih := VF_SL h ok (au := au) (b := b) k (by omega)
    obtain ⟨o1, o2, -⟩ := zSL_ok ok k (au := au) (b := b)
    simp only [zSL]
    split
    · split
      · exact VF_AW ih o1 (by rw [o2]; omega)
      · exact VF_RW ih
    · exact ih
/-! good tables stay good -/
theorem GG_mono {S : zSt} {B B' : Nat} (h : GG S B) (hb : B ≤ B') : GG S B' := by
  obtain ⟨⟨s, hR⟩, hV⟩ := h
  exact ⟨⟨s, RR_mono hR hb⟩, hV⟩
theorem GG_Ins {S : zSt} {B a : Nat} {ax pl : Int32} (h : GG S B) (hB : B < 2147483640) (ha : a < 4) : GG (zIns S (nI a) ax pl).2 (B + 1) := by
  obtain ⟨⟨s, hR⟩, hV⟩ := h
  exact ⟨⟨_, (RR_Ins hR hB).2⟩, VF_Ins hV ha⟩
theorem GG_Rem {S : zSt} {B a : Nat} {ax pl : Int32} (h : GG S B) (hB : B < 2147483640) (ha : a < 4) : GG (zRem S (nI a) ax pl).2 B := by
  obtain ⟨⟨s, hR⟩, hV⟩ := h
  exact ⟨⟨_, (RR_Rem hR hB).2⟩, VF_Rem hV ha⟩
theorem GG_Set {S : zSt} {B a v : Nat} {r c : Int32} (h : GG S B) (ha : a < 4) (hv : v < 10000) : GG (zSet S (nI a) r c (nI v)).2 B := by
  obtain ⟨⟨s, hR⟩, hV⟩ := h
  exact ⟨⟨_, (RR_Set hR).2⟩, VF_Set hV ha hv⟩
theorem GG_AW {S : zSt} {B x : Nat} (h : GG S B) (hx : x < mK S) (hp : fA S (6 * x + 2) = 0) : GG (zAW S x) B := by
  obtain ⟨⟨s, hR⟩, hV⟩ := h
  exact ⟨⟨_, (RR_AW hR hx hp).1⟩, VF_AW hV hR.1.1.1 hx⟩
theorem GG_RW {S : zSt} {B x : Nat} (h : GG S B) (hx : x < mK S) (hp : fA S (6 * x + 2) = 0) : GG (zRW S x) B := by
  obtain ⟨⟨s, hR⟩, hV⟩ := h
  exact ⟨⟨_, (RR_RW hR hx hp).1⟩, VF_RW hV⟩
theorem GG_SL {S : zSt} {B : Nat} {au : Int32} {b : Bool} (h : GG S B) (ha : au = -1 ∨ ∃ a, a < 4 ∧ au = nI a) : ∀ k, k ≤ mK S → GG (zSL S au b k).1 B := by
  obtain ⟨⟨s, hR⟩, hV⟩ := h
  exact fun k hk => ⟨⟨_, (RR_SL hR ha k hk).1⟩, VF_SL hV hR.1.1.1 k hk⟩
theorem GG_Tk {S : zSt} {B : Nat} (h : GG S B) (b : Bool) : GG (zTk S b) B := by
  obtain ⟨⟨s, hR⟩, hV⟩ := h
  exact ⟨⟨_, RR_Tk hR b⟩, hV⟩
