/-! the table: fr ur rows, fc uc columns, fb base values, g M changes -/
theorem z_nat {x : Int32} {n : Nat} (hn : n < 2147483648) (h0 : ¬ x < 0) (h1 : ¬ nI n ≤ x) : ∃ q, q < n ∧ x = nI q := by
  rcases pk_ix x hn with h | h | ⟨j, hj, e⟩
  · exact absurd h h0
  · exact absurd h h1
  · exact ⟨j, hj, e⟩
theorem zix_at {p : Nat → Bool} {k : Nat} (h1 : p k = true) (h0 : ∀ j, j < k → p j = false) : ∀ {n : Nat}, k < n → zix p n = k
  | 0, h => absurd h (Nat.not_lt_zero k)
  | n + 1, h => by
    simp only [zix]
    rcases Nat.lt_or_ge k n with q | q
    · rw [zix_at h1 h0 q, if_pos q]
    · have e : k = n := by omega
      subst e
      have : ¬ zix p k < k := by
        intro hz
        have key : ∀ m, zix p m < m → p (zix p m) = true := by
          intro m
          induction m with
          | zero => intro h; omega
          | succ m ih =>
            intro h
            simp only [zix] at h ⊢
            by_cases h2 : zix p m < m
            · rw [if_pos h2]; exact ih h2
            · rw [if_neg h2] at h ⊢
              by_cases h3 : p m = true
              · rw [if_pos h3]; exact h3
              · rw [if_neg h3] at h; omega
        have h2 := key k hz
        rw [h0 _ hz] at h2
        cases h2
      rw [if_neg this, if_pos h1]
theorem zix_no {p : Nat → Bool} : ∀ {n : Nat}, (∀ j, j < n → p j = false) → ¬ zix p n < n
  | 0, _ => by simp [zix]
  | n + 1, h => by
    simp only [zix]
    rw [if_neg (zix_no (fun j hj => h j (by omega))), h n (Nat.lt_succ_self n)]
    simp
def zat (f : Nat → Int32) (p : Nat → Bool) (n : Nat) : Int32 := if zix p n < n then f (zix p n) else -5
theorem zat_at {f : Nat → Int32} {p : Nat → Bool} {k n : Nat} (h1 : p k = true) (h0 : ∀ j, j < k → p j = false) (hk : k < n) : zat f p n = f k := by
  rw [zat, zix_at h1 h0 hk, if_pos hk]
theorem zat_no {f : Nat → Int32} {p : Nat → Bool} {n : Nat} (h : ∀ j, j < n → p j = false) : zat f p n = -5 := by
  rw [zat, if_neg (zix_no h)]
def zgo (p : Nat → Bool) : Nat → Option Nat
  | 0 => none
  | n + 1 => if p n then some n else zgo p n
theorem zgo_lt {p : Nat → Bool} : ∀ {n k : Nat}, zgo p n = some k → k < n
  | 0, k, h => by simp [zgo] at h
  | n + 1, k, h => by
    simp only [zgo] at h
    split at h
    · cases h; omega
    · have := zgo_lt h; omega
theorem zg_none {p : Nat → Bool} : ∀ {n : Nat}, zgo p n = none → zg p n = -5
  | 0, _ => rfl
  | n + 1, h => by
    simp only [zgo] at h
    simp only [zg]
    split at h
    · cases h
    · rename_i q; rw [if_neg q]; exact zg_none h
theorem zg_some {p : Nat → Bool} : ∀ {n k : Nat}, zgo p n = some k → zg p n = nI k
  | 0, k, h => by simp [zgo] at h
  | n + 1, k, h => by
    simp only [zgo] at h
    simp only [zg]
    split at h
    · rename_i q; cases h; rw [if_pos q]
    · rename_i q; rw [if_neg q]; exact zg_some h
def zBa (fb : Nat → Int32) (r c : Int32) : Int32 := if r < 0 ∨ nI 12 ≤ r ∨ c < 0 ∨ nI 8 ≤ c then 0 else fb (8 * r.toNatClampNeg + c.toNatClampNeg)
theorem zBa_in {fb : Nat → Int32} {q w : Nat} (hq : q < 12) (hw : w < 8) : zBa fb (nI q) (nI w) = fb (8 * q + w) := by
  rw [zBa, if_neg, nI_clamp (by omega), nI_clamp (by omega)]
  rintro (h | h | h | h)
  · exact nI_pos (by omega) h
  · exact absurd ((nI_leI (by decide) (by omega)).mp h) (by omega)
  · exact nI_pos (by omega) h
  · exact absurd ((nI_leI (by decide) (by omega)).mp h) (by omega)
def zPb (fb : Nat → Int32) (r c v : Int32) : Nat → Int32 := if r < 0 ∨ nI 12 ≤ r ∨ c < 0 ∨ nI 8 ≤ c then fb else upd fb (8 * r.toNatClampNeg + c.toNatClampNeg) v
theorem zPb_in {fb : Nat → Int32} {q w : Nat} {v : Int32} (hq : q < 12) (hw : w < 8) : zPb fb (nI q) (nI w) v = upd fb (8 * q + w) v := by
  rw [zPb, if_neg, nI_clamp (by omega), nI_clamp (by omega)]
  rintro (h | h | h | h)
  · exact nI_pos (by omega) h
  · exact absurd ((nI_leI (by decide) (by omega)).mp h) (by omega)
  · exact nI_pos (by omega) h
  · exact absurd ((nI_leI (by decide) (by omega)).mp h) (by omega)
def zClR (fb : Nat → Int32) (sl : Int32) : Nat → (Nat → Int32)
  | 0 => fb
  | k + 1 => zPb (zClR fb sl k) sl (nI k) (nI 0)
def zClC (fb : Nat → Int32) (sl : Int32) : Nat → (Nat → Int32)
  | 0 => fb
  | k + 1 => zPb (zClC fb sl k) (nI k) sl (nI 0)
/-- is a line of slot sl shown in a view: kI, kR the kinds of its insertion and removal, w the fact that tells it -/
def pSh (g : Nat → Int32) (M : Nat) (vw kI kR : Int32) (w : Nat) (sl : Int32) : Bool := if vw = nI 0 then true else if vw = nI 1 then decide (zf (pLn g kR w sl) M < 0) else if vw = nI 2 then decide (zf (pLn g kI w sl) M < 0) else false
def zVU (fb g : Nat → Int32) (M q : Nat) (r c : Int32) : Int32 := match zgo (pS g r c) (min q M) with
  | none => zBa fb r c
  | some k => g (6 * k + 5)
def zVV (fb g : Nat → Int32) (M : Nat) (vw r c : Int32) : Int32 := if vw = nI 2 then zBa fb r c else zVU fb g M 60 r c
def zTR (fb g : Nat → Int32) (M : Nat) (vw : Int32) (fc : Nat → Int32) (uc : Nat) (r : Int32) : Int32 := zu (fun j => if pSh g M vw (nI 2) (nI 3) 4 (fc j) = true then zVV fb g M vw r (fc j) else 0) uc
def zTot (fb g : Nat → Int32) (M : Nat) (vw : Int32) (fr : Nat → Int32) (ur : Nat) (fc : Nat → Int32) (uc : Nat) : Int32 := zu (fun i => if pSh g M vw (nI 0) (nI 1) 3 (fr i) = true then zTR fb g M vw fc uc (fr i) else 0) ur
/-- the changes of lines in the order in which they are read -/
def zRL (I R : Nat → Int32) : Nat → List Int32
  | 0 => []
  | k + 1 => zRL I R k ++ ((if I k < 0 then [] else [I k]) ++ (if R k < 0 then [] else [R k]))
theorem zRL_pre (I R : Nat → Int32) : ∀ {k n : Nat}, k ≤ n → ∃ t, zRL I R n = zRL I R k ++ t
  | k, 0, h => ⟨[], by rw [show k = 0 by omega]; simp⟩
  | k, n + 1, h => by
    rcases Nat.lt_or_ge n k with q | q
    · exact ⟨[], by rw [show k = n + 1 by omega]; simp⟩
    · obtain ⟨t, ht⟩ := zRL_pre I R (k := k) (n := n) q
      exact ⟨t ++ _, by rw [zRL, ht, List.append_assoc]⟩
theorem zRL_I {I R : Nat → Int32} {k n pl : Nat} (hk : k < n) (hl : (zRL I R k).length = pl) (h : ¬ I k < 0) : (zRL I R n).getD pl (-5) = I k := by
  obtain ⟨t, ht⟩ := zRL_pre I R (k := k + 1) (n := n) hk
  rw [ht, zRL, if_neg h]
  simp [← hl]
theorem zRL_R {I R : Nat → Int32} {k n pl : Nat} (hk : k < n) (hl : (zRL I R k).length + (if I k < 0 then 0 else 1) = pl) (h : ¬ R k < 0) : (zRL I R n).getD pl (-5) = R k := by
  obtain ⟨t, ht⟩ := zRL_pre I R (k := k + 1) (n := n) hk
  rw [ht, zRL, if_neg h]
  by_cases hI : I k < 0
  · rw [if_pos hI] at hl ⊢
    simp [← hl]
  · rw [if_neg hI] at hl ⊢
    simp [← hl]
theorem zRL_len (I R : Nat → Int32) (k : Nat) : (zRL I R (k + 1)).length = (zRL I R k).length + ((if I k < 0 then 0 else 1) + (if R k < 0 then 0 else 1)) := by
  rw [zRL]
  by_cases h1 : I k < 0 <;> by_cases h2 : R k < 0 <;> simp [h1, h2]
def zCat (L : Nat → List Int32) : Nat → List Int32
  | 0 => []
  | k + 1 => zCat L k ++ L k
theorem zCat_pre (L : Nat → List Int32) : ∀ {k n : Nat}, k ≤ n → ∃ t, zCat L n = zCat L k ++ t
  | k, 0, h => ⟨[], by rw [show k = 0 by omega]; simp⟩
  | k, n + 1, h => by
    rcases Nat.lt_or_ge n k with q | q
    · exact ⟨[], by rw [show k = n + 1 by omega]; simp⟩
    · obtain ⟨t, ht⟩ := zCat_pre L (k := k) (n := n) q
      exact ⟨t ++ _, by rw [zCat, ht, List.append_assoc]⟩
/-- the places at which p holds, in order -/
def zls (p : Nat → Bool) : Nat → List Int32
  | 0 => []
  | n + 1 => zls p n ++ (if p n then [nI n] else [])
theorem zls_len (p : Nat → Bool) : ∀ n, (zls p n).length = zc p n
  | 0 => rfl
  | n + 1 => by
    simp only [zls, zc, List.length_append, zls_len p n]
    split <;> simp
theorem zls_mem (p : Nat → Bool) : ∀ {n : Nat} {x : Int32}, x ∈ zls p n → ∃ j, j < n ∧ p j = true ∧ x = nI j
  | 0, x, h => by simp [zls] at h
  | n + 1, x, h => by
    simp only [zls, List.mem_append] at h
    rcases h with h | h
    · obtain ⟨j, h1, h2, h3⟩ := zls_mem p h
      exact ⟨j, by omega, h2, h3⟩
    · cases hp : p n with
      | true => rw [hp] at h; exact ⟨n, by omega, hp, by simpa using h⟩
      | false => rw [hp] at h; simp at h
theorem zls_at (p : Nat → Bool) {l : Nat} (hl : l < 2147483648) : ∀ {n : Nat}, n < 2147483648 → (zls p n).getD l (-5) = zf (pK p (nI l)) n
  | 0, _ => by simp [zls, zf]
  | n + 1, hn => by
    have ih := zls_at p hl (n := n) (by omega)
    have hlen := zls_len p n
    have hc := zc_le p n
    rw [zf, ← ih]
    simp only [zls, List.getD_eq_getElem?_getD]
    rcases Nat.lt_or_ge l (zc p n) with q | q
    · rw [List.getElem?_append_left (by omega)]
      have hm : ∃ x, (zls p n)[l]? = some x := ⟨_, List.getElem?_eq_getElem (by omega)⟩
      obtain ⟨x, hx⟩ := hm
      obtain ⟨j, hj, -, e⟩ := zls_mem p (List.mem_of_getElem? hx)
      rw [hx]
      simp only [Option.getD_some]
      rw [e, if_neg (nI_m5 (by omega))]
    · have h0 : (zls p n)[l]? = none := List.getElem?_eq_none (by omega)
      rw [h0, List.getElem?_append_right (by omega), hlen]
      simp only [Option.getD_none, if_true]
      cases hp : p n with
      | false => simp [pK, hp]
      | true =>
        by_cases e : zc p n = l
        · simp [pK, hp, e]
        · have h1 : ¬ nI (zc p n) = nI l := fun z => e ((nI_eq (by omega) hl).mp z)
          obtain ⟨d, hd⟩ : ∃ d, l - zc p n = d + 1 := ⟨l - zc p n - 1, by omega⟩
          simp [pK, hp, h1, hd]
theorem zSR_at {L : Nat → Nat → List Int32} {i j m n l pl : Nat} (hi : i < m) (hj : j < n) (hl : (zCat (fun i => zCat (L i) n) i).length + (zCat (L i) j).length + l = pl) (h : l < (L i j).length) : (zCat (fun i => zCat (L i) n) m).getD pl (-5) = (L i j).getD l (-5) := by
  obtain ⟨t, ht⟩ := zCat_pre (fun i => zCat (L i) n) (k := i + 1) (n := m) hi
  obtain ⟨t2, ht2⟩ := zCat_pre (L i) (k := j + 1) (n := n) hj
  rw [ht, zCat, ht2, zCat]
  simp only [List.getD_eq_getElem?_getD]
  rw [List.append_assoc, List.getElem?_append_right (by omega), List.getElem?_append_left (by simp; omega), List.append_assoc, List.getElem?_append_right (by omega), List.getElem?_append_left (by omega)]
  congr 2
  omega
def zpv (f : Nat → Int32) (p : Nat → Bool) (u : Nat) (sl : Int32) : Int32 := if zix (pE f sl) u < u then (if p (zix (pE f sl) u) = true then nI (zc p (zix (pE f sl) u)) else -5) else -5
theorem zpv_at {f : Nat → Int32} {p : Nat → Bool} {u k : Nat} {sl : Int32} (h1 : pE f sl k = true) (h0 : ∀ j, j < k → pE f sl j = false) (hk : k < u) : zpv f p u sl = if p k = true then nI (zc p k) else -5 := by
  rw [zpv, zix_at h1 h0 hk, if_pos hk]
theorem zpv_no {f : Nat → Int32} {p : Nat → Bool} {u : Nat} {sl : Int32} (h : ∀ j, j < u → pE f sl j = false) : zpv f p u sl = -5 := by
  rw [zpv, if_neg (zix_no h)]
def zVB (fb g : Nat → Int32) (M x : Nat) : Int32 := if g (6 * x) = nI 4 ∧ g (6 * x + 2) = 0 then zVU fb g M x (g (6 * x + 3)) (g (6 * x + 4)) else -5
theorem kX5_isAxis : zY yX5_isAxis wsX5_isAxis cX5_isAxis 1 (some .boolean) 1 := ⟨⟨_, rfl⟩, ⟨by decide +kernel, by decide +kernel, by decide +kernel⟩, by decide +kernel⟩
set_option maxHeartbeats 4000000 in
set_option maxRecDepth 100000 in
theorem mX5_isAxis_in (E : zE) (x : Nat) (hx : x < 2) : zM E yX5_isAxis wsX5_isAxis 0 [.int (nI x)] [] [] (some (.int (zb true))) := by
  refine zM.of kX5_isAxis (Nat.le_of_ble_eq_true rfl) rfl [some (.int (nI x))] rfl (Nat.le_of_ble_eq_true rfl) ?_
  intro X eX C N
  subst eX
  refine z_iload_n C 0 dX5_isAxis_0 rfl rfl ?_
  refine z_nif_eq C 9 dX5_isAxis_1 (by decide) (by omega) (fun h_1 => ?_) (fun h_1 => ?_)
  · refine z_iconst C (nI 1) dX5_isAxis_9 (by decide) ?_
    refine z_goto C 14 dX5_isAxis_10 (by decide) ?_
    exact z_zret C N dX5_isAxis_14 rfl (rfl) (rfl)
  · refine z_iload_n C 0 dX5_isAxis_4 rfl rfl ?_
    refine z_iconst C (nI 1) dX5_isAxis_5 (by decide) ?_
    refine z_ncmp_ne_f C 13 dX5_isAxis_6 (by decide) (by omega) (by omega) (by omega) ?_
    refine z_iconst C (nI 1) dX5_isAxis_9 (by decide) ?_
    refine z_goto C 14 dX5_isAxis_10 (by decide) ?_
    exact z_zret C N dX5_isAxis_14 rfl (rfl) (rfl)

set_option maxHeartbeats 4000000 in
set_option maxRecDepth 100000 in
theorem mX5_isAxis_bad (E : zE) (x : Int32) (h0 : ¬ x = 0) (h1 : ¬ x = nI 1) : zM E yX5_isAxis wsX5_isAxis 0 [.int x] [] [] (some (.int (zb false))) := by
  refine zM.of kX5_isAxis (Nat.le_of_ble_eq_true rfl) rfl [some (.int x)] rfl (Nat.le_of_ble_eq_true rfl) ?_
  intro X eX C N
  subst eX
  refine z_iload_n C 0 dX5_isAxis_0 rfl rfl ?_
  refine z_if_eq_f C 9 dX5_isAxis_1 (by decide) h0 ?_
  refine z_iload_n C 0 dX5_isAxis_4 rfl rfl ?_
  refine z_iconst C (nI 1) dX5_isAxis_5 (by decide) ?_
  refine z_icmp_ne_t C 13 dX5_isAxis_6 (by decide) h1 ?_
  refine z_iconst C (nI 0) dX5_isAxis_13 (by decide) ?_
  exact z_zret C N dX5_isAxis_14 rfl (rfl) (rfl)

theorem kX5_isAuthor : zY yX5_isAuthor wsX5_isAuthor cX5_isAuthor 1 (some .boolean) 1 := ⟨⟨_, rfl⟩, ⟨by decide +kernel, by decide +kernel, by decide +kernel⟩, by decide +kernel⟩
set_option maxHeartbeats 4000000 in
set_option maxRecDepth 100000 in
theorem mX5_isAuthor_in (E : zE) (x : Nat) (hx : x < 4) : zM E yX5_isAuthor wsX5_isAuthor 0 [.int (nI x)] [] [] (some (.int (zb true))) := by
  refine zM.of kX5_isAuthor (Nat.le_of_ble_eq_true rfl) rfl [some (.int (nI x))] rfl (Nat.le_of_ble_eq_true rfl) ?_
  intro X eX C N
  subst eX
  refine z_iload_n C 0 dX5_isAuthor_0 rfl rfl ?_
  refine z_nif_lt_f C 13 dX5_isAuthor_1 (by decide) (by omega) (by trivial) ?_
  refine z_iload_n C 0 dX5_isAuthor_4 rfl rfl ?_
  refine z_iconst C (nI 4) dX5_isAuthor_5 (by decide) ?_
  refine z_ncmp_ge_f C 13 dX5_isAuthor_6 (by decide) (by omega) (by omega) (by omega) ?_
  refine z_iconst C (nI 1) dX5_isAuthor_9 (by decide) ?_
  refine z_goto C 14 dX5_isAuthor_10 (by decide) ?_
  exact z_zret C N dX5_isAuthor_14 rfl (rfl) (rfl)

set_option maxHeartbeats 4000000 in
set_option maxRecDepth 100000 in
theorem mX5_isAuthor_bad (E : zE) (x : Int32) (hx : x < 0 ∨ (¬ x < 0 ∧ nI 4 ≤ x)) : zM E yX5_isAuthor wsX5_isAuthor 0 [.int x] [] [] (some (.int (zb false))) := by
  refine zM.of kX5_isAuthor (Nat.le_of_ble_eq_true rfl) rfl [some (.int x)] rfl (Nat.le_of_ble_eq_true rfl) ?_
  intro X eX C N
  subst eX
  rcases hx with hx | ⟨hx0, hx1⟩
  · refine z_iload_n C 0 dX5_isAuthor_0 rfl rfl ?_
    refine z_if_lt_t C 13 dX5_isAuthor_1 (by decide) hx ?_
    refine z_iconst C (nI 0) dX5_isAuthor_13 (by decide) ?_
    exact z_zret C N dX5_isAuthor_14 rfl (rfl) (rfl)
  · refine z_iload_n C 0 dX5_isAuthor_0 rfl rfl ?_
    refine z_if_lt_f C 13 dX5_isAuthor_1 (by decide) hx0 ?_
    refine z_iload_n C 0 dX5_isAuthor_4 rfl rfl ?_
    refine z_iconst C (nI 4) dX5_isAuthor_5 (by decide) ?_
    refine z_icmp_ge_t C 13 dX5_isAuthor_6 (by decide) hx1 ?_
    refine z_iconst C (nI 0) dX5_isAuthor_13 (by decide) ?_
    exact z_zret C N dX5_isAuthor_14 rfl (rfl) (rfl)

theorem kX5_isView : zY yX5_isView wsX5_isView cX5_isView 1 (some .boolean) 1 := ⟨⟨_, rfl⟩, ⟨by decide +kernel, by decide +kernel, by decide +kernel⟩, by decide +kernel⟩
set_option maxHeartbeats 4000000 in
set_option maxRecDepth 100000 in
theorem mX5_isView_in (E : zE) (x : Nat) (hx : x < 3) : zM E yX5_isView wsX5_isView 0 [.int (nI x)] [] [] (some (.int (zb true))) := by
  refine zM.of kX5_isView (Nat.le_of_ble_eq_true rfl) rfl [some (.int (nI x))] rfl (Nat.le_of_ble_eq_true rfl) ?_
  intro X eX C N
  subst eX
  refine z_iload_n C 0 dX5_isView_0 rfl rfl ?_
  refine z_nif_lt_f C 13 dX5_isView_1 (by decide) (by omega) (by trivial) ?_
  refine z_iload_n C 0 dX5_isView_4 rfl rfl ?_
  refine z_iconst C (nI 2) dX5_isView_5 (by decide) ?_
  refine z_ncmp_gt_f C 13 dX5_isView_6 (by decide) (by omega) (by omega) (by omega) ?_
  refine z_iconst C (nI 1) dX5_isView_9 (by decide) ?_
  refine z_goto C 14 dX5_isView_10 (by decide) ?_
  exact z_zret C N dX5_isView_14 rfl (rfl) (rfl)

set_option maxHeartbeats 4000000 in
set_option maxRecDepth 100000 in
theorem mX5_isView_bad (E : zE) (x : Int32) (hx : x < 0 ∨ (¬ x < 0 ∧ nI 2 < x)) : zM E yX5_isView wsX5_isView 0 [.int x] [] [] (some (.int (zb false))) := by
  refine zM.of kX5_isView (Nat.le_of_ble_eq_true rfl) rfl [some (.int x)] rfl (Nat.le_of_ble_eq_true rfl) ?_
  intro X eX C N
  subst eX
  rcases hx with hx | ⟨hx0, hx1⟩
  · refine z_iload_n C 0 dX5_isView_0 rfl rfl ?_
    refine z_if_lt_t C 13 dX5_isView_1 (by decide) hx ?_
    refine z_iconst C (nI 0) dX5_isView_13 (by decide) ?_
    exact z_zret C N dX5_isView_14 rfl (rfl) (rfl)
  · refine z_iload_n C 0 dX5_isView_0 rfl rfl ?_
    refine z_if_lt_f C 13 dX5_isView_1 (by decide) hx0 ?_
    refine z_iload_n C 0 dX5_isView_4 rfl rfl ?_
    refine z_iconst C (nI 2) dX5_isView_5 (by decide) ?_
    refine z_icmp_gt_t C 13 dX5_isView_6 (by decide) hx1 ?_
    refine z_iconst C (nI 0) dX5_isView_13 (by decide) ?_
    exact z_zret C N dX5_isView_14 rfl (rfl) (rfl)

theorem kX4_linesOf : zY yX4_linesOf wsX4_linesOf cX4_linesOf 2 (some (.object "TrackedTable$Lines")) 1 := ⟨⟨_, rfl⟩, ⟨by decide +kernel, by decide +kernel, by decide +kernel⟩, by decide +kernel⟩
theorem fX4_linesOf_14 : zF wsX4_linesOf RX4 14 4 0 RX4 TX4 5 := ⟨by decide +kernel, rfl, by decide, by decide +kernel, rfl⟩
set_option maxHeartbeats 4000000 in
set_option maxRecDepth 100000 in
theorem mX4_linesOf_r (E : zE) (a : Nat → Nat) (fr : Nat → Int32) (ur : Nat) (fc : Nat → Int32) (uc : Nat) (fb g : Nat → Int32) (M : Nat) (tr : Bool)  (hur : ur ≤ 12) (huc : uc ≤ 8) (hM : M ≤ 60) : zM E yX4_linesOf wsX4_linesOf 0 [.ref (a 0), .int (nI 0)] [((a 0), .inr (4, [.ref (a 1), .ref (a 3), .ref (a 5), .ref (a 6), .int (zb tr)])), ((a 1), .inr (2, [.ref (a 2), .int (nI ur)])), ((a 2), .inl (E.2.2.1, 12, .inl fr)), ((a 3), .inr (2, [.ref (a 4), .int (nI uc)])), ((a 4), .inl (E.2.2.1, 8, .inl fc)), ((a 5), .inl (E.2.2.1, 96, .inl fb)), ((a 6), .inr (0, [.ref (a 7), .int (nI M)])), ((a 7), .inl (E.2.2.1, 360, .inl g))] [((a 0), .inr (4, [.ref (a 1), .ref (a 3), .ref (a 5), .ref (a 6), .int (zb tr)])), ((a 1), .inr (2, [.ref (a 2), .int (nI ur)])), ((a 2), .inl (E.2.2.1, 12, .inl fr)), ((a 3), .inr (2, [.ref (a 4), .int (nI uc)])), ((a 4), .inl (E.2.2.1, 8, .inl fc)), ((a 5), .inl (E.2.2.1, 96, .inl fb)), ((a 6), .inr (0, [.ref (a 7), .int (nI M)])), ((a 7), .inl (E.2.2.1, 360, .inl g))] (some (.ref (a 1))) := by
  refine zM.of kX4_linesOf (Nat.le_of_ble_eq_true rfl) rfl [some (.ref (a 0)), some (.int (nI 0))] rfl (Nat.le_of_ble_eq_true rfl) ?_
  intro X eX C N
  subst eX
  refine z_iload_n C 1 dX4_linesOf_0 rfl rfl ?_
  refine z_nif_ne_f C 11 dX4_linesOf_1 (by decide) (by omega) (by omega) ?_
  refine z_aload_n C 0 dX4_linesOf_4 rfl rfl ?_
  refine z_get C fX4_linesOf_14 0 dX4_linesOf_5 rfl rfl ?_
  refine z_goto C 15 dX4_linesOf_8 (by decide) ?_
  exact z_aret C N dX4_linesOf_15 (rfl) (rfl)

theorem kX4_slotAt : zY yX4_slotAt wsX4_slotAt cX4_slotAt 3 (some .int) 2 := ⟨⟨_, rfl⟩, ⟨by decide +kernel, by decide +kernel, by decide +kernel⟩, by decide +kernel⟩
theorem nst_X4_slotAt_49 : (RX4, 49, yX5_isAxis, RX5) ∈ zNest ∧ Cond.initialized RX5 ∈ wsX4_slotAt ∧ Cond.static yX5_isAxis ∈ wsX4_slotAt := ⟨by decide +kernel, by decide +kernel, by decide +kernel⟩
theorem nd_0_1_2_3_4_5_6_7 : va_nd [0, 1, 2, 3, 4, 5, 6, 7] = true := by decide +kernel
theorem nd_1_2 : va_nd [1, 2] = true := by decide +kernel
set_option maxHeartbeats 4000000 in
set_option maxRecDepth 100000 in
theorem mX4_slotAt_r_in (E : zE) (a : Nat → Nat) (fr : Nat → Int32) (ur : Nat) (fc : Nat → Int32) (uc : Nat) (fb g : Nat → Int32) (M : Nat) (tr : Bool) (j : Nat) (hur : ur ≤ 12) (huc : uc ≤ 8) (hM : M ≤ 60) (hj : j < ur) : zM E yX4_slotAt wsX4_slotAt 1 [.ref (a 0), .int (nI 0), .int (nI j)] [((a 0), .inr (4, [.ref (a 1), .ref (a 3), .ref (a 5), .ref (a 6), .int (zb tr)])), ((a 1), .inr (2, [.ref (a 2), .int (nI ur)])), ((a 2), .inl (E.2.2.1, 12, .inl fr)), ((a 3), .inr (2, [.ref (a 4), .int (nI uc)])), ((a 4), .inl (E.2.2.1, 8, .inl fc)), ((a 5), .inl (E.2.2.1, 96, .inl fb)), ((a 6), .inr (0, [.ref (a 7), .int (nI M)])), ((a 7), .inl (E.2.2.1, 360, .inl g))] [((a 0), .inr (4, [.ref (a 1), .ref (a 3), .ref (a 5), .ref (a 6), .int (zb tr)])), ((a 1), .inr (2, [.ref (a 2), .int (nI ur)])), ((a 2), .inl (E.2.2.1, 12, .inl fr)), ((a 3), .inr (2, [.ref (a 4), .int (nI uc)])), ((a 4), .inl (E.2.2.1, 8, .inl fc)), ((a 5), .inl (E.2.2.1, 96, .inl fb)), ((a 6), .inr (0, [.ref (a 7), .int (nI M)])), ((a 7), .inl (E.2.2.1, 360, .inl g))] (some (.int (fr j))) := by
  refine zM.of kX4_slotAt (Nat.le_of_ble_eq_true rfl) rfl [some (.ref (a 0)), some (.int (nI 0)), some (.int (nI j))] rfl (Nat.le_of_ble_eq_true rfl) ?_
  intro X eX C N
  subst eX
  refine z_iload_n C 1 dX4_slotAt_0 rfl rfl ?_
  refine z_callN C kX5_isAxis nst_X4_slotAt_49.1 gX4_slotAt_X5_isAxis_n49 nst_X4_slotAt_49.2.1 nst_X4_slotAt_49.2.2 (mX5_isAxis_in X.2.1 0 (by first | assumption | omega)) dX4_slotAt_1 [] rfl (by decide) (by decide) (Nat.le_of_ble_eq_true rfl) rfl ?_
  refine z_bif_eq_f C 19 dX4_slotAt_4 (by decide) rfl ?_
  refine z_aload_n C 0 dX4_slotAt_7 rfl rfl ?_
  refine z_iload_n C 1 dX4_slotAt_8 rfl rfl ?_
  refine z_callVr C kX4_linesOf gX4_slotAt_X4_linesOf (mX4_linesOf_r X.2.1 a fr ur fc uc fb g M tr hur huc hM) dX4_slotAt_9 [0, 1, 2, 3, 4, 5, 6, 7] [] 0 rfl nd_0_1_2_3_4_5_6_7 rfl rfl rfl (by decide) (by decide) (Nat.le_of_ble_eq_true rfl) rfl ?_
  refine z_iload_n C 2 dX4_slotAt_12 rfl rfl ?_
  refine z_callVr C kX2_slotAt gX4_slotAt_X2_slotAt (mX2_slotAt_in X.2.1 (a 1) (a 2) 12 fr ur j (by first | assumption | omega) hur hj) dX4_slotAt_13 [1, 2] [] 1 rfl nd_1_2 rfl rfl rfl (by decide) (by decide) (Nat.le_of_ble_eq_true rfl) rfl ?_
  refine z_goto C 21 dX4_slotAt_16 (by decide) ?_
  exact z_iret C N dX4_slotAt_21 (rfl) (rfl)

set_option maxHeartbeats 4000000 in
set_option maxRecDepth 100000 in
theorem mX4_slotAt_r_out (E : zE) (a : Nat → Nat) (fr : Nat → Int32) (ur : Nat) (fc : Nat → Int32) (uc : Nat) (fb g : Nat → Int32) (M : Nat) (tr : Bool) (x : Int32) (hur : ur ≤ 12) (huc : uc ≤ 8) (hM : M ≤ 60) (hx : x < 0 ∨ (¬ x < 0 ∧ nI ur ≤ x)) : zM E yX4_slotAt wsX4_slotAt 1 [.ref (a 0), .int (nI 0), .int x] [((a 0), .inr (4, [.ref (a 1), .ref (a 3), .ref (a 5), .ref (a 6), .int (zb tr)])), ((a 1), .inr (2, [.ref (a 2), .int (nI ur)])), ((a 2), .inl (E.2.2.1, 12, .inl fr)), ((a 3), .inr (2, [.ref (a 4), .int (nI uc)])), ((a 4), .inl (E.2.2.1, 8, .inl fc)), ((a 5), .inl (E.2.2.1, 96, .inl fb)), ((a 6), .inr (0, [.ref (a 7), .int (nI M)])), ((a 7), .inl (E.2.2.1, 360, .inl g))] [((a 0), .inr (4, [.ref (a 1), .ref (a 3), .ref (a 5), .ref (a 6), .int (zb tr)])), ((a 1), .inr (2, [.ref (a 2), .int (nI ur)])), ((a 2), .inl (E.2.2.1, 12, .inl fr)), ((a 3), .inr (2, [.ref (a 4), .int (nI uc)])), ((a 4), .inl (E.2.2.1, 8, .inl fc)), ((a 5), .inl (E.2.2.1, 96, .inl fb)), ((a 6), .inr (0, [.ref (a 7), .int (nI M)])), ((a 7), .inl (E.2.2.1, 360, .inl g))] (some (.int (-5))) := by
  refine zM.of kX4_slotAt (Nat.le_of_ble_eq_true rfl) rfl [some (.ref (a 0)), some (.int (nI 0)), some (.int x)] rfl (Nat.le_of_ble_eq_true rfl) ?_
  intro X eX C N
  subst eX
  refine z_iload_n C 1 dX4_slotAt_0 rfl rfl ?_
  refine z_callN C kX5_isAxis nst_X4_slotAt_49.1 gX4_slotAt_X5_isAxis_n49 nst_X4_slotAt_49.2.1 nst_X4_slotAt_49.2.2 (mX5_isAxis_in X.2.1 0 (by first | assumption | omega)) dX4_slotAt_1 [] rfl (by decide) (by decide) (Nat.le_of_ble_eq_true rfl) rfl ?_
  refine z_bif_eq_f C 19 dX4_slotAt_4 (by decide) rfl ?_
  refine z_aload_n C 0 dX4_slotAt_7 rfl rfl ?_
  refine z_iload_n C 1 dX4_slotAt_8 rfl rfl ?_
  refine z_callVr C kX4_linesOf gX4_slotAt_X4_linesOf (mX4_linesOf_r X.2.1 a fr ur fc uc fb g M tr hur huc hM) dX4_slotAt_9 [0, 1, 2, 3, 4, 5, 6, 7] [] 0 rfl nd_0_1_2_3_4_5_6_7 rfl rfl rfl (by decide) (by decide) (Nat.le_of_ble_eq_true rfl) rfl ?_
  refine z_iload_n C 2 dX4_slotAt_12 rfl rfl ?_
  refine z_callVr C kX2_slotAt gX4_slotAt_X2_slotAt (mX2_slotAt_out X.2.1 (a 1) (a 2) 12 fr ur x (by first | assumption | omega) hur hx) dX4_slotAt_13 [1, 2] [] 1 rfl nd_1_2 rfl rfl rfl (by decide) (by decide) (Nat.le_of_ble_eq_true rfl) rfl ?_
  refine z_goto C 21 dX4_slotAt_16 (by decide) ?_
  exact z_iret C N dX4_slotAt_21 (rfl) (rfl)

theorem kX4_isShown : zY yX4_isShown wsX4_isShown cX4_isShown 4 (some .boolean) 3 := ⟨⟨_, rfl⟩, ⟨by decide +kernel, by decide +kernel, by decide +kernel⟩, by decide +kernel⟩
theorem fX4_isShown_30 : zF wsX4_isShown RX4 30 4 3 RX4 TX4 5 := ⟨by decide +kernel, rfl, by decide, by decide +kernel, rfl⟩
theorem nd_6_7 : va_nd [6, 7] = true := by decide +kernel
set_option maxHeartbeats 4000000 in
set_option maxRecDepth 100000 in
theorem mX4_isShown_r (E : zE) (a : Nat → Nat) (fr : Nat → Int32) (ur : Nat) (fc : Nat → Int32) (uc : Nat) (fb g : Nat → Int32) (M : Nat) (tr : Bool) (vw sl : Int32) (hur : ur ≤ 12) (huc : uc ≤ 8) (hM : M ≤ 60) : zM E yX4_isShown wsX4_isShown 3 [.ref (a 0), .int vw, .int (nI 0), .int sl] [((a 0), .inr (4, [.ref (a 1), .ref (a 3), .ref (a 5), .ref (a 6), .int (zb tr)])), ((a 1), .inr (2, [.ref (a 2), .int (nI ur)])), ((a 2), .inl (E.2.2.1, 12, .inl fr)), ((a 3), .inr (2, [.ref (a 4), .int (nI uc)])), ((a 4), .inl (E.2.2.1, 8, .inl fc)), ((a 5), .inl (E.2.2.1, 96, .inl fb)), ((a 6), .inr (0, [.ref (a 7), .int (nI M)])), ((a 7), .inl (E.2.2.1, 360, .inl g))] [((a 0), .inr (4, [.ref (a 1), .ref (a 3), .ref (a 5), .ref (a 6), .int (zb tr)])), ((a 1), .inr (2, [.ref (a 2), .int (nI ur)])), ((a 2), .inl (E.2.2.1, 12, .inl fr)), ((a 3), .inr (2, [.ref (a 4), .int (nI uc)])), ((a 4), .inl (E.2.2.1, 8, .inl fc)), ((a 5), .inl (E.2.2.1, 96, .inl fb)), ((a 6), .inr (0, [.ref (a 7), .int (nI M)])), ((a 7), .inl (E.2.2.1, 360, .inl g))] (some (.int (zb (pSh g M vw (nI 0) (nI 1) 3 sl)))) := by
  refine zM.of kX4_isShown (Nat.le_of_ble_eq_true rfl) rfl [some (.ref (a 0)), some (.int vw), some (.int (nI 0)), some (.int sl)] rfl (Nat.le_of_ble_eq_true rfl) ?_
  intro X eX C N
  subst eX
  refine z_iload_n C 1 dX4_isShown_0 rfl rfl ?_
  by_cases hs_1 : vw = nI 0
  · refine z_tsAt C 0 28 dX4_isShown_1 (by rw [hs_1]; decide) (by decide) rfl (by decide) ?_
    refine z_iconst C (nI 1) dX4_isShown_28 (by decide) ?_
    exact z_zret C N dX4_isShown_29 rfl (rfl) (congrArg (fun x => some (Value.int x)) (zb_t (by simp [pSh, Int32.not_lt, Int32.not_le, nI_eq, zz_0, zz_0s, hs_1])).symm)
  by_cases hs_2 : vw = nI 1
  · refine z_tsAt C 1 30 dX4_isShown_1 (by rw [hs_2]; decide) (by decide) rfl (by decide) ?_
    refine z_aload_n C 0 dX4_isShown_30 rfl rfl ?_
    refine z_get C fX4_isShown_30 0 dX4_isShown_31 rfl rfl ?_
    refine z_iload_n C 2 dX4_isShown_34 rfl rfl ?_
    refine z_iload_n C 3 dX4_isShown_35 rfl rfl ?_
    refine z_callVr C kX0_removalOf gX4_isShown_X0_removalOf (mX0_removalOf_r X.2.1 (a 6) (a 7) g M sl hM) dX4_isShown_36 [6, 7] [] 6 rfl nd_6_7 rfl rfl rfl (by decide) (by decide) (Nat.le_of_ble_eq_true rfl) rfl ?_
    refine z_if_ge C 46 dX4_isShown_39 (by decide) (fun h_3 => ?_) (fun h_3 => ?_)
    · refine z_iconst C (nI 0) dX4_isShown_46 (by decide) ?_
      exact z_zret C N dX4_isShown_47 rfl (rfl) (congrArg (fun x => some (Value.int x)) (zb_f (by simp [pSh, Int32.not_lt, Int32.not_le, nI_eq, zz_0, zz_0s, hs_1, hs_2, h_3])).symm)
    · refine z_iconst C (nI 1) dX4_isShown_42 (by decide) ?_
      refine z_goto C 47 dX4_isShown_43 (by decide) ?_
      exact z_zret C N dX4_isShown_47 rfl (rfl) (congrArg (fun x => some (Value.int x)) (zb_t (by simp [pSh, Int32.not_lt, Int32.not_le, nI_eq, zz_0, zz_0s, hs_1, hs_2, Int32.not_le.mp h_3, h_3])).symm)
  by_cases hs_4 : vw = nI 2
  · refine z_tsAt C 2 48 dX4_isShown_1 (by rw [hs_4]; decide) (by decide) rfl (by decide) ?_
    refine z_aload_n C 0 dX4_isShown_48 rfl rfl ?_
    refine z_get C fX4_isShown_30 0 dX4_isShown_49 rfl rfl ?_
    refine z_iload_n C 2 dX4_isShown_52 rfl rfl ?_
    refine z_iload_n C 3 dX4_isShown_53 rfl rfl ?_
    refine z_callVr C kX0_insertionOf gX4_isShown_X0_insertionOf (mX0_insertionOf_r X.2.1 (a 6) (a 7) g M sl hM) dX4_isShown_54 [6, 7] [] 6 rfl nd_6_7 rfl rfl rfl (by decide) (by decide) (Nat.le_of_ble_eq_true rfl) rfl ?_
    refine z_if_ge C 64 dX4_isShown_57 (by decide) (fun h_5 => ?_) (fun h_5 => ?_)
    · refine z_iconst C (nI 0) dX4_isShown_64 (by decide) ?_
      exact z_zret C N dX4_isShown_65 rfl (rfl) (congrArg (fun x => some (Value.int x)) (zb_f (by simp [pSh, Int32.not_lt, Int32.not_le, nI_eq, zz_0, zz_0s, hs_1, hs_2, hs_4, h_5])).symm)
    · refine z_iconst C (nI 1) dX4_isShown_60 (by decide) ?_
      refine z_goto C 65 dX4_isShown_61 (by decide) ?_
      exact z_zret C N dX4_isShown_65 rfl (rfl) (congrArg (fun x => some (Value.int x)) (zb_t (by simp [pSh, Int32.not_lt, Int32.not_le, nI_eq, zz_0, zz_0s, hs_1, hs_2, hs_4, Int32.not_le.mp h_5, h_5])).symm)
  refine z_tsOut C 66 dX4_isShown_1 (by have e0 := z_neN (c := 0) (by decide) hs_1; have e1 := z_neN (c := 1) (by decide) hs_2; have e2 := z_neN (c := 2) (by decide) hs_4; omega) (by decide) ?_
  refine z_iconst C (nI 0) dX4_isShown_66 (by decide) ?_
  exact z_zret C N dX4_isShown_67 rfl (rfl) (congrArg (fun x => some (Value.int x)) (zb_f (by simp [pSh, Int32.not_lt, Int32.not_le, nI_eq, zz_0, zz_0s, hs_1, hs_2, hs_4])).symm)

theorem kX4_shownLines : zY yX4_shownLines wsX4_shownLines cX4_shownLines 6 (some .int) 2 := ⟨⟨_, rfl⟩, ⟨by decide +kernel, by decide +kernel, by decide +kernel⟩, by decide +kernel⟩
theorem fX4_shownLines_64 : zF wsX4_shownLines RX4 64 2 1 RX2 TX2 2 := ⟨by decide +kernel, rfl, by decide, by decide +kernel, rfl⟩
set_option maxHeartbeats 4000000 in
set_option maxRecDepth 100000 in
theorem mX4_shownLines_r (E : zE) (a : Nat → Nat) (fr : Nat → Int32) (ur : Nat) (fc : Nat → Int32) (uc : Nat) (fb g : Nat → Int32) (M : Nat) (tr : Bool) (vw : Int32) (hur : ur ≤ 12) (huc : uc ≤ 8) (hM : M ≤ 60) : zM E yX4_shownLines wsX4_shownLines 4 [.ref (a 0), .int vw, .int (nI 0)] [((a 0), .inr (4, [.ref (a 1), .ref (a 3), .ref (a 5), .ref (a 6), .int (zb tr)])), ((a 1), .inr (2, [.ref (a 2), .int (nI ur)])), ((a 2), .inl (E.2.2.1, 12, .inl fr)), ((a 3), .inr (2, [.ref (a 4), .int (nI uc)])), ((a 4), .inl (E.2.2.1, 8, .inl fc)), ((a 5), .inl (E.2.2.1, 96, .inl fb)), ((a 6), .inr (0, [.ref (a 7), .int (nI M)])), ((a 7), .inl (E.2.2.1, 360, .inl g))] [((a 0), .inr (4, [.ref (a 1), .ref (a 3), .ref (a 5), .ref (a 6), .int (zb tr)])), ((a 1), .inr (2, [.ref (a 2), .int (nI ur)])), ((a 2), .inl (E.2.2.1, 12, .inl fr)), ((a 3), .inr (2, [.ref (a 4), .int (nI uc)])), ((a 4), .inl (E.2.2.1, 8, .inl fc)), ((a 5), .inl (E.2.2.1, 96, .inl fb)), ((a 6), .inr (0, [.ref (a 7), .int (nI M)])), ((a 7), .inl (E.2.2.1, 360, .inl g))] (some (.int (nI (zc (fun j => pSh g M vw (nI 0) (nI 1) 3 (fr j)) ur)))) := by
  refine zM.of kX4_shownLines (Nat.le_of_ble_eq_true rfl) rfl [some (.ref (a 0)), some (.int vw), some (.int (nI 0)), none, none, none] rfl (Nat.le_of_ble_eq_true rfl) ?_
  intro X eX C N
  subst eX
  refine z_aload_n C 0 dX4_shownLines_0 rfl rfl ?_
  refine z_iload_n C 2 dX4_shownLines_1 rfl rfl ?_
  refine z_callVr C kX4_linesOf gX4_shownLines_X4_linesOf (mX4_linesOf_r X.2.1 a fr ur fc uc fb g M tr hur huc hM) dX4_shownLines_2 [0, 1, 2, 3, 4, 5, 6, 7] [] 0 rfl nd_0_1_2_3_4_5_6_7 rfl rfl rfl (by decide) (by decide) (Nat.le_of_ble_eq_true rfl) rfl ?_
  refine z_astore_n C 3 dX4_shownLines_5 rfl (Nat.le_of_ble_eq_true rfl) ?_
  refine z_iconst C (nI 0) dX4_shownLines_6 (by decide) ?_
  refine z_istore C dX4_shownLines_7 (Nat.le_of_ble_eq_true rfl) ?_
  refine z_iconst C (nI 0) dX4_shownLines_9 (by decide) ?_
  refine z_istore C dX4_shownLines_10 (Nat.le_of_ble_eq_true rfl) ?_
  have hL12 : ∀ (dd : Nat) (k : Nat) (cn : Nat), ur - k = dd → (k ≤ ur) → (cn = zc (fun j => pSh g M vw (nI 0) (nI 1) 3 (fr j)) k) → (cn ≤ k) → zG X 0 0 [((a 0), .inr (4, [.ref (a 1), .ref (a 3), .ref (a 5), .ref (a 6), .int (zb tr)])), ((a 1), .inr (2, [.ref (a 2), .int (nI ur)])), ((a 2), .inl (X.2.1.2.2.1, 12, .inl fr)), ((a 3), .inr (2, [.ref (a 4), .int (nI uc)])), ((a 4), .inl (X.2.1.2.2.1, 8, .inl fc)), ((a 5), .inl (X.2.1.2.2.1, 96, .inl fb)), ((a 6), .inr (0, [.ref (a 7), .int (nI M)])), ((a 7), .inl (X.2.1.2.2.1, 360, .inl g))] [some (.ref (a 0)), some (.int vw), some (.int (nI 0)), some (.ref (a 1)), some (.int (nI cn)), some (.int (nI k))] [] 12 := by
    intro dd
    induction dd using Nat.strongRecOn with
    | _ dd ih12 =>
    intro k cn hdd hk hc hcb
    refine z_iload C dX4_shownLines_12 rfl ?_
    refine z_aload_n C 3 dX4_shownLines_14 rfl rfl ?_
    refine z_get C fX4_shownLines_64 1 dX4_shownLines_15 rfl rfl ?_
    refine z_ncmp_ge C 45 dX4_shownLines_18 (by decide) (by omega) (by omega) (fun h_1 => ?_) (fun h_1 => ?_)
    · refine z_iload C dX4_shownLines_45 rfl ?_
      exact z_iret C N dX4_shownLines_47 (rfl) (by rw [hc, show k = ur by omega])
    · refine z_aload_n C 0 dX4_shownLines_21 rfl rfl ?_
      refine z_iload_n C 1 dX4_shownLines_22 rfl rfl ?_
      refine z_iload_n C 2 dX4_shownLines_23 rfl rfl ?_
      refine z_aload_n C 3 dX4_shownLines_24 rfl rfl ?_
      refine z_iload C dX4_shownLines_25 rfl ?_
      refine z_callVr C kX2_slotAt gX4_shownLines_X2_slotAt (mX2_slotAt_in X.2.1 (a 1) (a 2) 12 fr ur k (by first | assumption | omega) hur h_1) dX4_shownLines_27 [1, 2] [.int (nI 0), .int vw, .ref (a 0)] 1 rfl nd_1_2 rfl rfl rfl (by decide) (by decide) (Nat.le_of_ble_eq_true rfl) rfl ?_
      refine z_callVr C kX4_isShown gX4_shownLines_X4_isShown (mX4_isShown_r X.2.1 a fr ur fc uc fb g M tr vw (fr k) hur huc hM) dX4_shownLines_30 [0, 1, 2, 3, 4, 5, 6, 7] [] 0 rfl nd_0_1_2_3_4_5_6_7 rfl rfl rfl (by decide) (by decide) (Nat.le_of_ble_eq_true rfl) rfl ?_
      refine z_bif_eq C 39 dX4_shownLines_33 (by decide) (fun h_2 => ?_) (fun h_2 => ?_)
      · refine z_iinc C (nI (k + 1)) dX4_shownLines_39 rfl (zi_1 _) ?_
        refine z_goto C 12 dX4_shownLines_42 (by decide) ?_
        exact ih12 (ur - (k + 1)) (by omega) (k + 1) cn rfl (by omega) (by subst hc; first | exact (zc_y (by simp [h_1, h_2])).symm | exact (zc_n (by simp [h_1, h_2])).symm) (by omega)
      · refine z_iinc C (nI (cn + 1)) dX4_shownLines_36 rfl (zi_1 _) ?_
        refine z_iinc C (nI (k + 1)) dX4_shownLines_39 rfl (zi_1 _) ?_
        refine z_goto C 12 dX4_shownLines_42 (by decide) ?_
        exact ih12 (ur - (k + 1)) (by omega) (k + 1) (cn + 1) rfl (by omega) (by subst hc; first | exact (zc_y (by simp [h_1, h_2])).symm | exact (zc_n (by simp [h_1, h_2])).symm) (by omega)
  exact hL12 _ 0 0 rfl (by omega) (rfl) (by omega)

theorem kX4_slotInView : zY yX4_slotInView wsX4_slotInView cX4_slotInView 8 (some .int) 3 := ⟨⟨_, rfl⟩, ⟨by decide +kernel, by decide +kernel, by decide +kernel⟩, by decide +kernel⟩
theorem fX4_slotInView_64 : zF wsX4_slotInView RX4 64 2 1 RX2 TX2 2 := ⟨by decide +kernel, rfl, by decide, by decide +kernel, rfl⟩
set_option maxHeartbeats 4000000 in
set_option maxRecDepth 100000 in
theorem mX4_slotInView_r (E : zE) (a : Nat → Nat) (fr : Nat → Int32) (ur : Nat) (fc : Nat → Int32) (uc : Nat) (fb g : Nat → Int32) (M : Nat) (tr : Bool) (vw pl : Int32) (hur : ur ≤ 12) (huc : uc ≤ 8) (hM : M ≤ 60) : zM E yX4_slotInView wsX4_slotInView 4 [.ref (a 0), .int vw, .int (nI 0), .int pl] [((a 0), .inr (4, [.ref (a 1), .ref (a 3), .ref (a 5), .ref (a 6), .int (zb tr)])), ((a 1), .inr (2, [.ref (a 2), .int (nI ur)])), ((a 2), .inl (E.2.2.1, 12, .inl fr)), ((a 3), .inr (2, [.ref (a 4), .int (nI uc)])), ((a 4), .inl (E.2.2.1, 8, .inl fc)), ((a 5), .inl (E.2.2.1, 96, .inl fb)), ((a 6), .inr (0, [.ref (a 7), .int (nI M)])), ((a 7), .inl (E.2.2.1, 360, .inl g))] [((a 0), .inr (4, [.ref (a 1), .ref (a 3), .ref (a 5), .ref (a 6), .int (zb tr)])), ((a 1), .inr (2, [.ref (a 2), .int (nI ur)])), ((a 2), .inl (E.2.2.1, 12, .inl fr)), ((a 3), .inr (2, [.ref (a 4), .int (nI uc)])), ((a 4), .inl (E.2.2.1, 8, .inl fc)), ((a 5), .inl (E.2.2.1, 96, .inl fb)), ((a 6), .inr (0, [.ref (a 7), .int (nI M)])), ((a 7), .inl (E.2.2.1, 360, .inl g))] (some (.int (zat fr (pK (fun j => pSh g M vw (nI 0) (nI 1) 3 (fr j)) pl) ur))) := by
  refine zM.of kX4_slotInView (Nat.le_of_ble_eq_true rfl) rfl [some (.ref (a 0)), some (.int vw), some (.int (nI 0)), some (.int pl), none, none, none, none] rfl (Nat.le_of_ble_eq_true rfl) ?_
  intro X eX C N
  subst eX
  refine z_aload_n C 0 dX4_slotInView_0 rfl rfl ?_
  refine z_iload_n C 2 dX4_slotInView_1 rfl rfl ?_
  refine z_callVr C kX4_linesOf gX4_slotInView_X4_linesOf (mX4_linesOf_r X.2.1 a fr ur fc uc fb g M tr hur huc hM) dX4_slotInView_2 [0, 1, 2, 3, 4, 5, 6, 7] [] 0 rfl nd_0_1_2_3_4_5_6_7 rfl rfl rfl (by decide) (by decide) (Nat.le_of_ble_eq_true rfl) rfl ?_
  refine z_astore C dX4_slotInView_5 (Nat.le_of_ble_eq_true rfl) ?_
  refine z_iconst C (nI 0) dX4_slotInView_7 (by decide) ?_
  refine z_istore C dX4_slotInView_8 (Nat.le_of_ble_eq_true rfl) ?_
  refine z_iconst C (nI 0) dX4_slotInView_10 (by decide) ?_
  refine z_istore C dX4_slotInView_11 (Nat.le_of_ble_eq_true rfl) ?_
  have hL13 : ∀ (dd : Nat) (k : Nat) (c1 : Nat), ur - k = dd → (k ≤ ur) → (c1 = zc (fun j => pSh g M vw (nI 0) (nI 1) 3 (fr j)) k) → (c1 ≤ k) → (∀ j, j < k → (pK (fun j => pSh g M vw (nI 0) (nI 1) 3 (fr j)) pl) j = false) → zG X 0 0 [((a 0), .inr (4, [.ref (a 1), .ref (a 3), .ref (a 5), .ref (a 6), .int (zb tr)])), ((a 1), .inr (2, [.ref (a 2), .int (nI ur)])), ((a 2), .inl (X.2.1.2.2.1, 12, .inl fr)), ((a 3), .inr (2, [.ref (a 4), .int (nI uc)])), ((a 4), .inl (X.2.1.2.2.1, 8, .inl fc)), ((a 5), .inl (X.2.1.2.2.1, 96, .inl fb)), ((a 6), .inr (0, [.ref (a 7), .int (nI M)])), ((a 7), .inl (X.2.1.2.2.1, 360, .inl g))] [some (.ref (a 0)), some (.int vw), some (.int (nI 0)), some (.int pl), some (.ref (a 1)), some (.int (nI c1)), some (.int (nI k)), none] [] 13 := by
    intro dd
    induction dd using Nat.strongRecOn with
    | _ dd ih13 =>
    intro k c1 hdd hk hc hcb hf
    refine z_iload C dX4_slotInView_13 rfl ?_
    refine z_aload C dX4_slotInView_15 rfl ?_
    refine z_get C fX4_slotInView_64 1 dX4_slotInView_17 rfl rfl ?_
    refine z_ncmp_ge C 61 dX4_slotInView_20 (by decide) (by omega) (by omega) (fun h_1 => ?_) (fun h_1 => ?_)
    · refine z_bipush C (-5) dX4_slotInView_61 (by decide) ?_
      exact z_iret C N dX4_slotInView_63 (rfl) (by rw [zat_no (fun j hj => hf j (by omega))])
    · refine z_aload C dX4_slotInView_23 rfl ?_
      refine z_iload C dX4_slotInView_25 rfl ?_
      refine z_callVr C kX2_slotAt gX4_slotInView_X2_slotAt (mX2_slotAt_in X.2.1 (a 1) (a 2) 12 fr ur k (by first | assumption | omega) hur h_1) dX4_slotInView_27 [1, 2] [] 1 rfl nd_1_2 rfl rfl rfl (by decide) (by decide) (Nat.le_of_ble_eq_true rfl) rfl ?_
      refine z_istore C dX4_slotInView_30 (Nat.le_of_ble_eq_true rfl) ?_
      refine z_aload_n C 0 dX4_slotInView_32 rfl rfl ?_
      refine z_iload_n C 1 dX4_slotInView_33 rfl rfl ?_
      refine z_iload_n C 2 dX4_slotInView_34 rfl rfl ?_
      refine z_iload C dX4_slotInView_35 rfl ?_
      refine z_callVr C kX4_isShown gX4_slotInView_X4_isShown (mX4_isShown_r X.2.1 a fr ur fc uc fb g M tr vw (fr k) hur huc hM) dX4_slotInView_37 [0, 1, 2, 3, 4, 5, 6, 7] [] 0 rfl nd_0_1_2_3_4_5_6_7 rfl rfl rfl (by decide) (by decide) (Nat.le_of_ble_eq_true rfl) rfl ?_
      refine z_bif_eq C 55 dX4_slotInView_40 (by decide) (fun h_2 => ?_) (fun h_2 => ?_)
      · refine z_iinc C (nI (k + 1)) dX4_slotInView_55 rfl (zi_1 _) ?_
        refine z_goto C 13 dX4_slotInView_58 (by decide) ?_
        refine z_kill 7 ?_
        exact ih13 (ur - (k + 1)) (by omega) (k + 1) c1 rfl (by omega) (by subst hc; first | exact (zc_y (by simp [h_1, h_2])).symm | exact (zc_n (by simp [h_1, h_2])).symm) (by omega) (lt_s hf (by subst hc; simp [pK, h_1, h_2]))
      · refine z_iload C dX4_slotInView_43 rfl ?_
        refine z_iload_n C 3 dX4_slotInView_45 rfl rfl ?_
        refine z_icmp_ne C 52 dX4_slotInView_46 (by decide) (fun h_3 => ?_) (fun h_3 => ?_)
        · refine z_iinc C (nI (c1 + 1)) dX4_slotInView_52 rfl (zi_1 _) ?_
          refine z_iinc C (nI (k + 1)) dX4_slotInView_55 rfl (zi_1 _) ?_
          refine z_goto C 13 dX4_slotInView_58 (by decide) ?_
          refine z_kill 7 ?_
          exact ih13 (ur - (k + 1)) (by omega) (k + 1) (c1 + 1) rfl (by omega) (by subst hc; first | exact (zc_y (by simp [h_1, h_2, h_3])).symm | exact (zc_n (by simp [h_1, h_2, h_3])).symm) (by omega) (lt_s hf (by subst hc; simp [pK, h_1, h_2, h_3]))
        · refine z_iload C dX4_slotInView_49 rfl ?_
          exact z_iret C N dX4_slotInView_51 (rfl) (by rw [zat_at (k := k) (by subst hc; simp [pK, h_1, h_2, h_3]) hf (by omega)])
  exact hL13 _ 0 0 rfl (by omega) (rfl) (by omega) (fun j h => absurd h (Nat.not_lt_zero j))

theorem kX4_placeInView : zY yX4_placeInView wsX4_placeInView cX4_placeInView 9 (some .int) 3 := ⟨⟨_, rfl⟩, ⟨by decide +kernel, by decide +kernel, by decide +kernel⟩, by decide +kernel⟩
theorem fX4_placeInView_64 : zF wsX4_placeInView RX4 64 2 1 RX2 TX2 2 := ⟨by decide +kernel, rfl, by decide, by decide +kernel, rfl⟩
set_option maxHeartbeats 4000000 in
set_option maxRecDepth 100000 in
theorem mX4_placeInView_r (E : zE) (a : Nat → Nat) (fr : Nat → Int32) (ur : Nat) (fc : Nat → Int32) (uc : Nat) (fb g : Nat → Int32) (M : Nat) (tr : Bool) (vw sl : Int32) (hur : ur ≤ 12) (huc : uc ≤ 8) (hM : M ≤ 60) : zM E yX4_placeInView wsX4_placeInView 4 [.ref (a 0), .int vw, .int (nI 0), .int sl] [((a 0), .inr (4, [.ref (a 1), .ref (a 3), .ref (a 5), .ref (a 6), .int (zb tr)])), ((a 1), .inr (2, [.ref (a 2), .int (nI ur)])), ((a 2), .inl (E.2.2.1, 12, .inl fr)), ((a 3), .inr (2, [.ref (a 4), .int (nI uc)])), ((a 4), .inl (E.2.2.1, 8, .inl fc)), ((a 5), .inl (E.2.2.1, 96, .inl fb)), ((a 6), .inr (0, [.ref (a 7), .int (nI M)])), ((a 7), .inl (E.2.2.1, 360, .inl g))] [((a 0), .inr (4, [.ref (a 1), .ref (a 3), .ref (a 5), .ref (a 6), .int (zb tr)])), ((a 1), .inr (2, [.ref (a 2), .int (nI ur)])), ((a 2), .inl (E.2.2.1, 12, .inl fr)), ((a 3), .inr (2, [.ref (a 4), .int (nI uc)])), ((a 4), .inl (E.2.2.1, 8, .inl fc)), ((a 5), .inl (E.2.2.1, 96, .inl fb)), ((a 6), .inr (0, [.ref (a 7), .int (nI M)])), ((a 7), .inl (E.2.2.1, 360, .inl g))] (some (.int (zpv fr (fun j => pSh g M vw (nI 0) (nI 1) 3 (fr j)) ur sl))) := by
  refine zM.of kX4_placeInView (Nat.le_of_ble_eq_true rfl) rfl [some (.ref (a 0)), some (.int vw), some (.int (nI 0)), some (.int sl), none, none, none, none, none] rfl (Nat.le_of_ble_eq_true rfl) ?_
  intro X eX C N
  subst eX
  refine z_aload_n C 0 dX4_placeInView_0 rfl rfl ?_
  refine z_iload_n C 2 dX4_placeInView_1 rfl rfl ?_
  refine z_callVr C kX4_linesOf gX4_placeInView_X4_linesOf (mX4_linesOf_r X.2.1 a fr ur fc uc fb g M tr hur huc hM) dX4_placeInView_2 [0, 1, 2, 3, 4, 5, 6, 7] [] 0 rfl nd_0_1_2_3_4_5_6_7 rfl rfl rfl (by decide) (by decide) (Nat.le_of_ble_eq_true rfl) rfl ?_
  refine z_astore C dX4_placeInView_5 (Nat.le_of_ble_eq_true rfl) ?_
  refine z_iconst C (nI 0) dX4_placeInView_7 (by decide) ?_
  refine z_istore C dX4_placeInView_8 (Nat.le_of_ble_eq_true rfl) ?_
  refine z_iconst C (nI 0) dX4_placeInView_10 (by decide) ?_
  refine z_istore C dX4_placeInView_11 (Nat.le_of_ble_eq_true rfl) ?_
  have hL13 : ∀ (dd : Nat) (k : Nat) (c1 : Nat), ur - k = dd → (k ≤ ur) → (c1 = zc (fun j => pSh g M vw (nI 0) (nI 1) 3 (fr j)) k) → (c1 ≤ k) → (∀ j, j < k → pE fr sl j = false) → zG X 0 0 [((a 0), .inr (4, [.ref (a 1), .ref (a 3), .ref (a 5), .ref (a 6), .int (zb tr)])), ((a 1), .inr (2, [.ref (a 2), .int (nI ur)])), ((a 2), .inl (X.2.1.2.2.1, 12, .inl fr)), ((a 3), .inr (2, [.ref (a 4), .int (nI uc)])), ((a 4), .inl (X.2.1.2.2.1, 8, .inl fc)), ((a 5), .inl (X.2.1.2.2.1, 96, .inl fb)), ((a 6), .inr (0, [.ref (a 7), .int (nI M)])), ((a 7), .inl (X.2.1.2.2.1, 360, .inl g))] [some (.ref (a 0)), some (.int vw), some (.int (nI 0)), some (.int sl), some (.ref (a 1)), some (.int (nI c1)), some (.int (nI k)), none, none] [] 13 := by
    intro dd
    induction dd using Nat.strongRecOn with
    | _ dd ih13 =>
    intro k c1 hdd hk hc hcb hf
    refine z_iload C dX4_placeInView_13 rfl ?_
    refine z_aload C dX4_placeInView_15 rfl ?_
    refine z_get C fX4_placeInView_64 1 dX4_placeInView_17 rfl rfl ?_
    refine z_ncmp_ge C 75 dX4_placeInView_20 (by decide) (by omega) (by omega) (fun h_1 => ?_) (fun h_1 => ?_)
    · refine z_bipush C (-5) dX4_placeInView_75 (by decide) ?_
      exact z_iret C N dX4_placeInView_77 (rfl) (by rw [zpv_no (fun j hj => hf j (by omega))])
    · refine z_aload C dX4_placeInView_23 rfl ?_
      refine z_iload C dX4_placeInView_25 rfl ?_
      refine z_callVr C kX2_slotAt gX4_placeInView_X2_slotAt (mX2_slotAt_in X.2.1 (a 1) (a 2) 12 fr ur k (by first | assumption | omega) hur h_1) dX4_placeInView_27 [1, 2] [] 1 rfl nd_1_2 rfl rfl rfl (by decide) (by decide) (Nat.le_of_ble_eq_true rfl) rfl ?_
      refine z_istore C dX4_placeInView_30 (Nat.le_of_ble_eq_true rfl) ?_
      refine z_aload_n C 0 dX4_placeInView_32 rfl rfl ?_
      refine z_iload_n C 1 dX4_placeInView_33 rfl rfl ?_
      refine z_iload_n C 2 dX4_placeInView_34 rfl rfl ?_
      refine z_iload C dX4_placeInView_35 rfl ?_
      refine z_callVr C kX4_isShown gX4_placeInView_X4_isShown (mX4_isShown_r X.2.1 a fr ur fc uc fb g M tr vw (fr k) hur huc hM) dX4_placeInView_37 [0, 1, 2, 3, 4, 5, 6, 7] [] 0 rfl nd_0_1_2_3_4_5_6_7 rfl rfl rfl (by decide) (by decide) (Nat.le_of_ble_eq_true rfl) rfl ?_
      refine z_istore C dX4_placeInView_40 (Nat.le_of_ble_eq_true rfl) ?_
      refine z_iload C dX4_placeInView_42 rfl ?_
      refine z_iload_n C 3 dX4_placeInView_44 rfl rfl ?_
      refine z_icmp_ne C 61 dX4_placeInView_45 (by decide) (fun h_2 => ?_) (fun h_2 => ?_)
      · refine z_iload C dX4_placeInView_61 rfl ?_
        refine z_bif_eq C 69 dX4_placeInView_63 (by decide) (fun h_3 => ?_) (fun h_3 => ?_)
        · refine z_iinc C (nI (k + 1)) dX4_placeInView_69 rfl (zi_1 _) ?_
          refine z_goto C 13 dX4_placeInView_72 (by decide) ?_
          refine z_kill 7 ?_
          refine z_kill 8 ?_
          exact ih13 (ur - (k + 1)) (by omega) (k + 1) c1 rfl (by omega) (by subst hc; first | exact (zc_y (by simp [h_1, h_2, h_3])).symm | exact (zc_n (by simp [h_1, h_2, h_3])).symm) (by omega) (lt_s hf (by simp [pE, h_1, h_2, h_3]))
        · refine z_iinc C (nI (c1 + 1)) dX4_placeInView_66 rfl (zi_1 _) ?_
          refine z_iinc C (nI (k + 1)) dX4_placeInView_69 rfl (zi_1 _) ?_
          refine z_goto C 13 dX4_placeInView_72 (by decide) ?_
          refine z_kill 7 ?_
          refine z_kill 8 ?_
          exact ih13 (ur - (k + 1)) (by omega) (k + 1) (c1 + 1) rfl (by omega) (by subst hc; first | exact (zc_y (by simp [h_1, h_2, h_3])).symm | exact (zc_n (by simp [h_1, h_2, h_3])).symm) (by omega) (lt_s hf (by simp [pE, h_1, h_2, h_3]))
      · refine z_iload C dX4_placeInView_48 rfl ?_
        refine z_bif_eq C 58 dX4_placeInView_50 (by decide) (fun h_4 => ?_) (fun h_4 => ?_)
        · refine z_bipush C (-5) dX4_placeInView_58 (by decide) ?_
          exact z_iret C N dX4_placeInView_60 (rfl) (by rw [zpv_at (k := k) (by simp [pE, h_1, h_2, h_4]) hf (by omega)]; simp only [hc, h_4, if_true, Bool.false_eq_true, if_false])
        · refine z_iload C dX4_placeInView_53 rfl ?_
          refine z_goto C 60 dX4_placeInView_55 (by decide) ?_
          exact z_iret C N dX4_placeInView_60 (rfl) (by rw [zpv_at (k := k) (by simp [pE, h_1, h_2, h_4]) hf (by omega)]; simp only [hc, h_4, if_true, Bool.false_eq_true, if_false])
  exact hL13 _ 0 0 rfl (by omega) (rfl) (by omega) (fun j h => absurd h (Nat.not_lt_zero j))

theorem fX4_linesOf_20 : zF wsX4_linesOf RX4 20 4 1 RX4 TX4 5 := ⟨by decide +kernel, rfl, by decide, by decide +kernel, rfl⟩
set_option maxHeartbeats 4000000 in
set_option maxRecDepth 100000 in
theorem mX4_linesOf_c (E : zE) (a : Nat → Nat) (fr : Nat → Int32) (ur : Nat) (fc : Nat → Int32) (uc : Nat) (fb g : Nat → Int32) (M : Nat) (tr : Bool)  (hur : ur ≤ 12) (huc : uc ≤ 8) (hM : M ≤ 60) : zM E yX4_linesOf wsX4_linesOf 0 [.ref (a 0), .int (nI 1)] [((a 0), .inr (4, [.ref (a 1), .ref (a 3), .ref (a 5), .ref (a 6), .int (zb tr)])), ((a 1), .inr (2, [.ref (a 2), .int (nI ur)])), ((a 2), .inl (E.2.2.1, 12, .inl fr)), ((a 3), .inr (2, [.ref (a 4), .int (nI uc)])), ((a 4), .inl (E.2.2.1, 8, .inl fc)), ((a 5), .inl (E.2.2.1, 96, .inl fb)), ((a 6), .inr (0, [.ref (a 7), .int (nI M)])), ((a 7), .inl (E.2.2.1, 360, .inl g))] [((a 0), .inr (4, [.ref (a 1), .ref (a 3), .ref (a 5), .ref (a 6), .int (zb tr)])), ((a 1), .inr (2, [.ref (a 2), .int (nI ur)])), ((a 2), .inl (E.2.2.1, 12, .inl fr)), ((a 3), .inr (2, [.ref (a 4), .int (nI uc)])), ((a 4), .inl (E.2.2.1, 8, .inl fc)), ((a 5), .inl (E.2.2.1, 96, .inl fb)), ((a 6), .inr (0, [.ref (a 7), .int (nI M)])), ((a 7), .inl (E.2.2.1, 360, .inl g))] (some (.ref (a 3))) := by
  refine zM.of kX4_linesOf (Nat.le_of_ble_eq_true rfl) rfl [some (.ref (a 0)), some (.int (nI 1))] rfl (Nat.le_of_ble_eq_true rfl) ?_
  intro X eX C N
  subst eX
  refine z_iload_n C 1 dX4_linesOf_0 rfl rfl ?_
  refine z_nif_ne_t C 11 dX4_linesOf_1 (by decide) (by omega) (by omega) ?_
  refine z_aload_n C 0 dX4_linesOf_11 rfl rfl ?_
  refine z_get C fX4_linesOf_20 0 dX4_linesOf_12 rfl rfl ?_
  exact z_aret C N dX4_linesOf_15 (rfl) (rfl)

theorem nd_3_4 : va_nd [3, 4] = true := by decide +kernel
set_option maxHeartbeats 4000000 in
set_option maxRecDepth 100000 in
theorem mX4_slotAt_c_in (E : zE) (a : Nat → Nat) (fr : Nat → Int32) (ur : Nat) (fc : Nat → Int32) (uc : Nat) (fb g : Nat → Int32) (M : Nat) (tr : Bool) (j : Nat) (hur : ur ≤ 12) (huc : uc ≤ 8) (hM : M ≤ 60) (hj : j < uc) : zM E yX4_slotAt wsX4_slotAt 1 [.ref (a 0), .int (nI 1), .int (nI j)] [((a 0), .inr (4, [.ref (a 1), .ref (a 3), .ref (a 5), .ref (a 6), .int (zb tr)])), ((a 1), .inr (2, [.ref (a 2), .int (nI ur)])), ((a 2), .inl (E.2.2.1, 12, .inl fr)), ((a 3), .inr (2, [.ref (a 4), .int (nI uc)])), ((a 4), .inl (E.2.2.1, 8, .inl fc)), ((a 5), .inl (E.2.2.1, 96, .inl fb)), ((a 6), .inr (0, [.ref (a 7), .int (nI M)])), ((a 7), .inl (E.2.2.1, 360, .inl g))] [((a 0), .inr (4, [.ref (a 1), .ref (a 3), .ref (a 5), .ref (a 6), .int (zb tr)])), ((a 1), .inr (2, [.ref (a 2), .int (nI ur)])), ((a 2), .inl (E.2.2.1, 12, .inl fr)), ((a 3), .inr (2, [.ref (a 4), .int (nI uc)])), ((a 4), .inl (E.2.2.1, 8, .inl fc)), ((a 5), .inl (E.2.2.1, 96, .inl fb)), ((a 6), .inr (0, [.ref (a 7), .int (nI M)])), ((a 7), .inl (E.2.2.1, 360, .inl g))] (some (.int (fc j))) := by
  refine zM.of kX4_slotAt (Nat.le_of_ble_eq_true rfl) rfl [some (.ref (a 0)), some (.int (nI 1)), some (.int (nI j))] rfl (Nat.le_of_ble_eq_true rfl) ?_
  intro X eX C N
  subst eX
  refine z_iload_n C 1 dX4_slotAt_0 rfl rfl ?_
  refine z_callN C kX5_isAxis nst_X4_slotAt_49.1 gX4_slotAt_X5_isAxis_n49 nst_X4_slotAt_49.2.1 nst_X4_slotAt_49.2.2 (mX5_isAxis_in X.2.1 1 (by first | assumption | omega)) dX4_slotAt_1 [] rfl (by decide) (by decide) (Nat.le_of_ble_eq_true rfl) rfl ?_
  refine z_bif_eq_f C 19 dX4_slotAt_4 (by decide) rfl ?_
  refine z_aload_n C 0 dX4_slotAt_7 rfl rfl ?_
  refine z_iload_n C 1 dX4_slotAt_8 rfl rfl ?_
  refine z_callVr C kX4_linesOf gX4_slotAt_X4_linesOf (mX4_linesOf_c X.2.1 a fr ur fc uc fb g M tr hur huc hM) dX4_slotAt_9 [0, 1, 2, 3, 4, 5, 6, 7] [] 0 rfl nd_0_1_2_3_4_5_6_7 rfl rfl rfl (by decide) (by decide) (Nat.le_of_ble_eq_true rfl) rfl ?_
  refine z_iload_n C 2 dX4_slotAt_12 rfl rfl ?_
  refine z_callVr C kX2_slotAt gX4_slotAt_X2_slotAt (mX2_slotAt_in X.2.1 (a 3) (a 4) 8 fc uc j (by first | assumption | omega) huc hj) dX4_slotAt_13 [3, 4] [] 3 rfl nd_3_4 rfl rfl rfl (by decide) (by decide) (Nat.le_of_ble_eq_true rfl) rfl ?_
  refine z_goto C 21 dX4_slotAt_16 (by decide) ?_
  exact z_iret C N dX4_slotAt_21 (rfl) (rfl)

set_option maxHeartbeats 4000000 in
set_option maxRecDepth 100000 in
theorem mX4_slotAt_c_out (E : zE) (a : Nat → Nat) (fr : Nat → Int32) (ur : Nat) (fc : Nat → Int32) (uc : Nat) (fb g : Nat → Int32) (M : Nat) (tr : Bool) (x : Int32) (hur : ur ≤ 12) (huc : uc ≤ 8) (hM : M ≤ 60) (hx : x < 0 ∨ (¬ x < 0 ∧ nI uc ≤ x)) : zM E yX4_slotAt wsX4_slotAt 1 [.ref (a 0), .int (nI 1), .int x] [((a 0), .inr (4, [.ref (a 1), .ref (a 3), .ref (a 5), .ref (a 6), .int (zb tr)])), ((a 1), .inr (2, [.ref (a 2), .int (nI ur)])), ((a 2), .inl (E.2.2.1, 12, .inl fr)), ((a 3), .inr (2, [.ref (a 4), .int (nI uc)])), ((a 4), .inl (E.2.2.1, 8, .inl fc)), ((a 5), .inl (E.2.2.1, 96, .inl fb)), ((a 6), .inr (0, [.ref (a 7), .int (nI M)])), ((a 7), .inl (E.2.2.1, 360, .inl g))] [((a 0), .inr (4, [.ref (a 1), .ref (a 3), .ref (a 5), .ref (a 6), .int (zb tr)])), ((a 1), .inr (2, [.ref (a 2), .int (nI ur)])), ((a 2), .inl (E.2.2.1, 12, .inl fr)), ((a 3), .inr (2, [.ref (a 4), .int (nI uc)])), ((a 4), .inl (E.2.2.1, 8, .inl fc)), ((a 5), .inl (E.2.2.1, 96, .inl fb)), ((a 6), .inr (0, [.ref (a 7), .int (nI M)])), ((a 7), .inl (E.2.2.1, 360, .inl g))] (some (.int (-5))) := by
  refine zM.of kX4_slotAt (Nat.le_of_ble_eq_true rfl) rfl [some (.ref (a 0)), some (.int (nI 1)), some (.int x)] rfl (Nat.le_of_ble_eq_true rfl) ?_
  intro X eX C N
  subst eX
  refine z_iload_n C 1 dX4_slotAt_0 rfl rfl ?_
  refine z_callN C kX5_isAxis nst_X4_slotAt_49.1 gX4_slotAt_X5_isAxis_n49 nst_X4_slotAt_49.2.1 nst_X4_slotAt_49.2.2 (mX5_isAxis_in X.2.1 1 (by first | assumption | omega)) dX4_slotAt_1 [] rfl (by decide) (by decide) (Nat.le_of_ble_eq_true rfl) rfl ?_
  refine z_bif_eq_f C 19 dX4_slotAt_4 (by decide) rfl ?_
  refine z_aload_n C 0 dX4_slotAt_7 rfl rfl ?_
  refine z_iload_n C 1 dX4_slotAt_8 rfl rfl ?_
  refine z_callVr C kX4_linesOf gX4_slotAt_X4_linesOf (mX4_linesOf_c X.2.1 a fr ur fc uc fb g M tr hur huc hM) dX4_slotAt_9 [0, 1, 2, 3, 4, 5, 6, 7] [] 0 rfl nd_0_1_2_3_4_5_6_7 rfl rfl rfl (by decide) (by decide) (Nat.le_of_ble_eq_true rfl) rfl ?_
  refine z_iload_n C 2 dX4_slotAt_12 rfl rfl ?_
  refine z_callVr C kX2_slotAt gX4_slotAt_X2_slotAt (mX2_slotAt_out X.2.1 (a 3) (a 4) 8 fc uc x (by first | assumption | omega) huc hx) dX4_slotAt_13 [3, 4] [] 3 rfl nd_3_4 rfl rfl rfl (by decide) (by decide) (Nat.le_of_ble_eq_true rfl) rfl ?_
  refine z_goto C 21 dX4_slotAt_16 (by decide) ?_
  exact z_iret C N dX4_slotAt_21 (rfl) (rfl)

set_option maxHeartbeats 4000000 in
set_option maxRecDepth 100000 in
theorem mX4_isShown_c (E : zE) (a : Nat → Nat) (fr : Nat → Int32) (ur : Nat) (fc : Nat → Int32) (uc : Nat) (fb g : Nat → Int32) (M : Nat) (tr : Bool) (vw sl : Int32) (hur : ur ≤ 12) (huc : uc ≤ 8) (hM : M ≤ 60) : zM E yX4_isShown wsX4_isShown 3 [.ref (a 0), .int vw, .int (nI 1), .int sl] [((a 0), .inr (4, [.ref (a 1), .ref (a 3), .ref (a 5), .ref (a 6), .int (zb tr)])), ((a 1), .inr (2, [.ref (a 2), .int (nI ur)])), ((a 2), .inl (E.2.2.1, 12, .inl fr)), ((a 3), .inr (2, [.ref (a 4), .int (nI uc)])), ((a 4), .inl (E.2.2.1, 8, .inl fc)), ((a 5), .inl (E.2.2.1, 96, .inl fb)), ((a 6), .inr (0, [.ref (a 7), .int (nI M)])), ((a 7), .inl (E.2.2.1, 360, .inl g))] [((a 0), .inr (4, [.ref (a 1), .ref (a 3), .ref (a 5), .ref (a 6), .int (zb tr)])), ((a 1), .inr (2, [.ref (a 2), .int (nI ur)])), ((a 2), .inl (E.2.2.1, 12, .inl fr)), ((a 3), .inr (2, [.ref (a 4), .int (nI uc)])), ((a 4), .inl (E.2.2.1, 8, .inl fc)), ((a 5), .inl (E.2.2.1, 96, .inl fb)), ((a 6), .inr (0, [.ref (a 7), .int (nI M)])), ((a 7), .inl (E.2.2.1, 360, .inl g))] (some (.int (zb (pSh g M vw (nI 2) (nI 3) 4 sl)))) := by
  refine zM.of kX4_isShown (Nat.le_of_ble_eq_true rfl) rfl [some (.ref (a 0)), some (.int vw), some (.int (nI 1)), some (.int sl)] rfl (Nat.le_of_ble_eq_true rfl) ?_
  intro X eX C N
  subst eX
  refine z_iload_n C 1 dX4_isShown_0 rfl rfl ?_
  by_cases hs_1 : vw = nI 0
  · refine z_tsAt C 0 28 dX4_isShown_1 (by rw [hs_1]; decide) (by decide) rfl (by decide) ?_
    refine z_iconst C (nI 1) dX4_isShown_28 (by decide) ?_
    exact z_zret C N dX4_isShown_29 rfl (rfl) (congrArg (fun x => some (Value.int x)) (zb_t (by simp [pSh, Int32.not_lt, Int32.not_le, nI_eq, zz_0, zz_0s, hs_1])).symm)
  by_cases hs_2 : vw = nI 1
  · refine z_tsAt C 1 30 dX4_isShown_1 (by rw [hs_2]; decide) (by decide) rfl (by decide) ?_
    refine z_aload_n C 0 dX4_isShown_30 rfl rfl ?_
    refine z_get C fX4_isShown_30 0 dX4_isShown_31 rfl rfl ?_
    refine z_iload_n C 2 dX4_isShown_34 rfl rfl ?_
    refine z_iload_n C 3 dX4_isShown_35 rfl rfl ?_
    refine z_callVr C kX0_removalOf gX4_isShown_X0_removalOf (mX0_removalOf_c X.2.1 (a 6) (a 7) g M sl hM) dX4_isShown_36 [6, 7] [] 6 rfl nd_6_7 rfl rfl rfl (by decide) (by decide) (Nat.le_of_ble_eq_true rfl) rfl ?_
    refine z_if_ge C 46 dX4_isShown_39 (by decide) (fun h_3 => ?_) (fun h_3 => ?_)
    · refine z_iconst C (nI 0) dX4_isShown_46 (by decide) ?_
      exact z_zret C N dX4_isShown_47 rfl (rfl) (congrArg (fun x => some (Value.int x)) (zb_f (by simp [pSh, Int32.not_lt, Int32.not_le, nI_eq, zz_0, zz_0s, hs_1, hs_2, h_3])).symm)
    · refine z_iconst C (nI 1) dX4_isShown_42 (by decide) ?_
      refine z_goto C 47 dX4_isShown_43 (by decide) ?_
      exact z_zret C N dX4_isShown_47 rfl (rfl) (congrArg (fun x => some (Value.int x)) (zb_t (by simp [pSh, Int32.not_lt, Int32.not_le, nI_eq, zz_0, zz_0s, hs_1, hs_2, Int32.not_le.mp h_3, h_3])).symm)
  by_cases hs_4 : vw = nI 2
  · refine z_tsAt C 2 48 dX4_isShown_1 (by rw [hs_4]; decide) (by decide) rfl (by decide) ?_
    refine z_aload_n C 0 dX4_isShown_48 rfl rfl ?_
    refine z_get C fX4_isShown_30 0 dX4_isShown_49 rfl rfl ?_
    refine z_iload_n C 2 dX4_isShown_52 rfl rfl ?_
    refine z_iload_n C 3 dX4_isShown_53 rfl rfl ?_
    refine z_callVr C kX0_insertionOf gX4_isShown_X0_insertionOf (mX0_insertionOf_c X.2.1 (a 6) (a 7) g M sl hM) dX4_isShown_54 [6, 7] [] 6 rfl nd_6_7 rfl rfl rfl (by decide) (by decide) (Nat.le_of_ble_eq_true rfl) rfl ?_
    refine z_if_ge C 64 dX4_isShown_57 (by decide) (fun h_5 => ?_) (fun h_5 => ?_)
    · refine z_iconst C (nI 0) dX4_isShown_64 (by decide) ?_
      exact z_zret C N dX4_isShown_65 rfl (rfl) (congrArg (fun x => some (Value.int x)) (zb_f (by simp [pSh, Int32.not_lt, Int32.not_le, nI_eq, zz_0, zz_0s, hs_1, hs_2, hs_4, h_5])).symm)
    · refine z_iconst C (nI 1) dX4_isShown_60 (by decide) ?_
      refine z_goto C 65 dX4_isShown_61 (by decide) ?_
      exact z_zret C N dX4_isShown_65 rfl (rfl) (congrArg (fun x => some (Value.int x)) (zb_t (by simp [pSh, Int32.not_lt, Int32.not_le, nI_eq, zz_0, zz_0s, hs_1, hs_2, hs_4, Int32.not_le.mp h_5, h_5])).symm)
  refine z_tsOut C 66 dX4_isShown_1 (by have e0 := z_neN (c := 0) (by decide) hs_1; have e1 := z_neN (c := 1) (by decide) hs_2; have e2 := z_neN (c := 2) (by decide) hs_4; omega) (by decide) ?_
  refine z_iconst C (nI 0) dX4_isShown_66 (by decide) ?_
  exact z_zret C N dX4_isShown_67 rfl (rfl) (congrArg (fun x => some (Value.int x)) (zb_f (by simp [pSh, Int32.not_lt, Int32.not_le, nI_eq, zz_0, zz_0s, hs_1, hs_2, hs_4])).symm)

set_option maxHeartbeats 4000000 in
set_option maxRecDepth 100000 in
theorem mX4_shownLines_c (E : zE) (a : Nat → Nat) (fr : Nat → Int32) (ur : Nat) (fc : Nat → Int32) (uc : Nat) (fb g : Nat → Int32) (M : Nat) (tr : Bool) (vw : Int32) (hur : ur ≤ 12) (huc : uc ≤ 8) (hM : M ≤ 60) : zM E yX4_shownLines wsX4_shownLines 4 [.ref (a 0), .int vw, .int (nI 1)] [((a 0), .inr (4, [.ref (a 1), .ref (a 3), .ref (a 5), .ref (a 6), .int (zb tr)])), ((a 1), .inr (2, [.ref (a 2), .int (nI ur)])), ((a 2), .inl (E.2.2.1, 12, .inl fr)), ((a 3), .inr (2, [.ref (a 4), .int (nI uc)])), ((a 4), .inl (E.2.2.1, 8, .inl fc)), ((a 5), .inl (E.2.2.1, 96, .inl fb)), ((a 6), .inr (0, [.ref (a 7), .int (nI M)])), ((a 7), .inl (E.2.2.1, 360, .inl g))] [((a 0), .inr (4, [.ref (a 1), .ref (a 3), .ref (a 5), .ref (a 6), .int (zb tr)])), ((a 1), .inr (2, [.ref (a 2), .int (nI ur)])), ((a 2), .inl (E.2.2.1, 12, .inl fr)), ((a 3), .inr (2, [.ref (a 4), .int (nI uc)])), ((a 4), .inl (E.2.2.1, 8, .inl fc)), ((a 5), .inl (E.2.2.1, 96, .inl fb)), ((a 6), .inr (0, [.ref (a 7), .int (nI M)])), ((a 7), .inl (E.2.2.1, 360, .inl g))] (some (.int (nI (zc (fun j => pSh g M vw (nI 2) (nI 3) 4 (fc j)) uc)))) := by
  refine zM.of kX4_shownLines (Nat.le_of_ble_eq_true rfl) rfl [some (.ref (a 0)), some (.int vw), some (.int (nI 1)), none, none, none] rfl (Nat.le_of_ble_eq_true rfl) ?_
  intro X eX C N
  subst eX
  refine z_aload_n C 0 dX4_shownLines_0 rfl rfl ?_
  refine z_iload_n C 2 dX4_shownLines_1 rfl rfl ?_
  refine z_callVr C kX4_linesOf gX4_shownLines_X4_linesOf (mX4_linesOf_c X.2.1 a fr ur fc uc fb g M tr hur huc hM) dX4_shownLines_2 [0, 1, 2, 3, 4, 5, 6, 7] [] 0 rfl nd_0_1_2_3_4_5_6_7 rfl rfl rfl (by decide) (by decide) (Nat.le_of_ble_eq_true rfl) rfl ?_
  refine z_astore_n C 3 dX4_shownLines_5 rfl (Nat.le_of_ble_eq_true rfl) ?_
  refine z_iconst C (nI 0) dX4_shownLines_6 (by decide) ?_
  refine z_istore C dX4_shownLines_7 (Nat.le_of_ble_eq_true rfl) ?_
  refine z_iconst C (nI 0) dX4_shownLines_9 (by decide) ?_
  refine z_istore C dX4_shownLines_10 (Nat.le_of_ble_eq_true rfl) ?_
  have hL12 : ∀ (dd : Nat) (k : Nat) (cn : Nat), uc - k = dd → (k ≤ uc) → (cn = zc (fun j => pSh g M vw (nI 2) (nI 3) 4 (fc j)) k) → (cn ≤ k) → zG X 0 0 [((a 0), .inr (4, [.ref (a 1), .ref (a 3), .ref (a 5), .ref (a 6), .int (zb tr)])), ((a 1), .inr (2, [.ref (a 2), .int (nI ur)])), ((a 2), .inl (X.2.1.2.2.1, 12, .inl fr)), ((a 3), .inr (2, [.ref (a 4), .int (nI uc)])), ((a 4), .inl (X.2.1.2.2.1, 8, .inl fc)), ((a 5), .inl (X.2.1.2.2.1, 96, .inl fb)), ((a 6), .inr (0, [.ref (a 7), .int (nI M)])), ((a 7), .inl (X.2.1.2.2.1, 360, .inl g))] [some (.ref (a 0)), some (.int vw), some (.int (nI 1)), some (.ref (a 3)), some (.int (nI cn)), some (.int (nI k))] [] 12 := by
    intro dd
    induction dd using Nat.strongRecOn with
    | _ dd ih12 =>
    intro k cn hdd hk hc hcb
    refine z_iload C dX4_shownLines_12 rfl ?_
    refine z_aload_n C 3 dX4_shownLines_14 rfl rfl ?_
    refine z_get C fX4_shownLines_64 3 dX4_shownLines_15 rfl rfl ?_
    refine z_ncmp_ge C 45 dX4_shownLines_18 (by decide) (by omega) (by omega) (fun h_1 => ?_) (fun h_1 => ?_)
    · refine z_iload C dX4_shownLines_45 rfl ?_
      exact z_iret C N dX4_shownLines_47 (rfl) (by rw [hc, show k = uc by omega])
    · refine z_aload_n C 0 dX4_shownLines_21 rfl rfl ?_
      refine z_iload_n C 1 dX4_shownLines_22 rfl rfl ?_
      refine z_iload_n C 2 dX4_shownLines_23 rfl rfl ?_
      refine z_aload_n C 3 dX4_shownLines_24 rfl rfl ?_
      refine z_iload C dX4_shownLines_25 rfl ?_
      refine z_callVr C kX2_slotAt gX4_shownLines_X2_slotAt (mX2_slotAt_in X.2.1 (a 3) (a 4) 8 fc uc k (by first | assumption | omega) huc h_1) dX4_shownLines_27 [3, 4] [.int (nI 1), .int vw, .ref (a 0)] 3 rfl nd_3_4 rfl rfl rfl (by decide) (by decide) (Nat.le_of_ble_eq_true rfl) rfl ?_
      refine z_callVr C kX4_isShown gX4_shownLines_X4_isShown (mX4_isShown_c X.2.1 a fr ur fc uc fb g M tr vw (fc k) hur huc hM) dX4_shownLines_30 [0, 1, 2, 3, 4, 5, 6, 7] [] 0 rfl nd_0_1_2_3_4_5_6_7 rfl rfl rfl (by decide) (by decide) (Nat.le_of_ble_eq_true rfl) rfl ?_
      refine z_bif_eq C 39 dX4_shownLines_33 (by decide) (fun h_2 => ?_) (fun h_2 => ?_)
      · refine z_iinc C (nI (k + 1)) dX4_shownLines_39 rfl (zi_1 _) ?_
        refine z_goto C 12 dX4_shownLines_42 (by decide) ?_
        exact ih12 (uc - (k + 1)) (by omega) (k + 1) cn rfl (by omega) (by subst hc; first | exact (zc_y (by simp [h_1, h_2])).symm | exact (zc_n (by simp [h_1, h_2])).symm) (by omega)
      · refine z_iinc C (nI (cn + 1)) dX4_shownLines_36 rfl (zi_1 _) ?_
        refine z_iinc C (nI (k + 1)) dX4_shownLines_39 rfl (zi_1 _) ?_
        refine z_goto C 12 dX4_shownLines_42 (by decide) ?_
        exact ih12 (uc - (k + 1)) (by omega) (k + 1) (cn + 1) rfl (by omega) (by subst hc; first | exact (zc_y (by simp [h_1, h_2])).symm | exact (zc_n (by simp [h_1, h_2])).symm) (by omega)
  exact hL12 _ 0 0 rfl (by omega) (rfl) (by omega)

set_option maxHeartbeats 4000000 in
set_option maxRecDepth 100000 in
theorem mX4_slotInView_c (E : zE) (a : Nat → Nat) (fr : Nat → Int32) (ur : Nat) (fc : Nat → Int32) (uc : Nat) (fb g : Nat → Int32) (M : Nat) (tr : Bool) (vw pl : Int32) (hur : ur ≤ 12) (huc : uc ≤ 8) (hM : M ≤ 60) : zM E yX4_slotInView wsX4_slotInView 4 [.ref (a 0), .int vw, .int (nI 1), .int pl] [((a 0), .inr (4, [.ref (a 1), .ref (a 3), .ref (a 5), .ref (a 6), .int (zb tr)])), ((a 1), .inr (2, [.ref (a 2), .int (nI ur)])), ((a 2), .inl (E.2.2.1, 12, .inl fr)), ((a 3), .inr (2, [.ref (a 4), .int (nI uc)])), ((a 4), .inl (E.2.2.1, 8, .inl fc)), ((a 5), .inl (E.2.2.1, 96, .inl fb)), ((a 6), .inr (0, [.ref (a 7), .int (nI M)])), ((a 7), .inl (E.2.2.1, 360, .inl g))] [((a 0), .inr (4, [.ref (a 1), .ref (a 3), .ref (a 5), .ref (a 6), .int (zb tr)])), ((a 1), .inr (2, [.ref (a 2), .int (nI ur)])), ((a 2), .inl (E.2.2.1, 12, .inl fr)), ((a 3), .inr (2, [.ref (a 4), .int (nI uc)])), ((a 4), .inl (E.2.2.1, 8, .inl fc)), ((a 5), .inl (E.2.2.1, 96, .inl fb)), ((a 6), .inr (0, [.ref (a 7), .int (nI M)])), ((a 7), .inl (E.2.2.1, 360, .inl g))] (some (.int (zat fc (pK (fun j => pSh g M vw (nI 2) (nI 3) 4 (fc j)) pl) uc))) := by
  refine zM.of kX4_slotInView (Nat.le_of_ble_eq_true rfl) rfl [some (.ref (a 0)), some (.int vw), some (.int (nI 1)), some (.int pl), none, none, none, none] rfl (Nat.le_of_ble_eq_true rfl) ?_
  intro X eX C N
  subst eX
  refine z_aload_n C 0 dX4_slotInView_0 rfl rfl ?_
  refine z_iload_n C 2 dX4_slotInView_1 rfl rfl ?_
  refine z_callVr C kX4_linesOf gX4_slotInView_X4_linesOf (mX4_linesOf_c X.2.1 a fr ur fc uc fb g M tr hur huc hM) dX4_slotInView_2 [0, 1, 2, 3, 4, 5, 6, 7] [] 0 rfl nd_0_1_2_3_4_5_6_7 rfl rfl rfl (by decide) (by decide) (Nat.le_of_ble_eq_true rfl) rfl ?_
  refine z_astore C dX4_slotInView_5 (Nat.le_of_ble_eq_true rfl) ?_
  refine z_iconst C (nI 0) dX4_slotInView_7 (by decide) ?_
  refine z_istore C dX4_slotInView_8 (Nat.le_of_ble_eq_true rfl) ?_
  refine z_iconst C (nI 0) dX4_slotInView_10 (by decide) ?_
  refine z_istore C dX4_slotInView_11 (Nat.le_of_ble_eq_true rfl) ?_
  have hL13 : ∀ (dd : Nat) (k : Nat) (c1 : Nat), uc - k = dd → (k ≤ uc) → (c1 = zc (fun j => pSh g M vw (nI 2) (nI 3) 4 (fc j)) k) → (c1 ≤ k) → (∀ j, j < k → (pK (fun j => pSh g M vw (nI 2) (nI 3) 4 (fc j)) pl) j = false) → zG X 0 0 [((a 0), .inr (4, [.ref (a 1), .ref (a 3), .ref (a 5), .ref (a 6), .int (zb tr)])), ((a 1), .inr (2, [.ref (a 2), .int (nI ur)])), ((a 2), .inl (X.2.1.2.2.1, 12, .inl fr)), ((a 3), .inr (2, [.ref (a 4), .int (nI uc)])), ((a 4), .inl (X.2.1.2.2.1, 8, .inl fc)), ((a 5), .inl (X.2.1.2.2.1, 96, .inl fb)), ((a 6), .inr (0, [.ref (a 7), .int (nI M)])), ((a 7), .inl (X.2.1.2.2.1, 360, .inl g))] [some (.ref (a 0)), some (.int vw), some (.int (nI 1)), some (.int pl), some (.ref (a 3)), some (.int (nI c1)), some (.int (nI k)), none] [] 13 := by
    intro dd
    induction dd using Nat.strongRecOn with
    | _ dd ih13 =>
    intro k c1 hdd hk hc hcb hf
    refine z_iload C dX4_slotInView_13 rfl ?_
    refine z_aload C dX4_slotInView_15 rfl ?_
    refine z_get C fX4_slotInView_64 3 dX4_slotInView_17 rfl rfl ?_
    refine z_ncmp_ge C 61 dX4_slotInView_20 (by decide) (by omega) (by omega) (fun h_1 => ?_) (fun h_1 => ?_)
    · refine z_bipush C (-5) dX4_slotInView_61 (by decide) ?_
      exact z_iret C N dX4_slotInView_63 (rfl) (by rw [zat_no (fun j hj => hf j (by omega))])
    · refine z_aload C dX4_slotInView_23 rfl ?_
      refine z_iload C dX4_slotInView_25 rfl ?_
      refine z_callVr C kX2_slotAt gX4_slotInView_X2_slotAt (mX2_slotAt_in X.2.1 (a 3) (a 4) 8 fc uc k (by first | assumption | omega) huc h_1) dX4_slotInView_27 [3, 4] [] 3 rfl nd_3_4 rfl rfl rfl (by decide) (by decide) (Nat.le_of_ble_eq_true rfl) rfl ?_
      refine z_istore C dX4_slotInView_30 (Nat.le_of_ble_eq_true rfl) ?_
      refine z_aload_n C 0 dX4_slotInView_32 rfl rfl ?_
      refine z_iload_n C 1 dX4_slotInView_33 rfl rfl ?_
      refine z_iload_n C 2 dX4_slotInView_34 rfl rfl ?_
      refine z_iload C dX4_slotInView_35 rfl ?_
      refine z_callVr C kX4_isShown gX4_slotInView_X4_isShown (mX4_isShown_c X.2.1 a fr ur fc uc fb g M tr vw (fc k) hur huc hM) dX4_slotInView_37 [0, 1, 2, 3, 4, 5, 6, 7] [] 0 rfl nd_0_1_2_3_4_5_6_7 rfl rfl rfl (by decide) (by decide) (Nat.le_of_ble_eq_true rfl) rfl ?_
      refine z_bif_eq C 55 dX4_slotInView_40 (by decide) (fun h_2 => ?_) (fun h_2 => ?_)
      · refine z_iinc C (nI (k + 1)) dX4_slotInView_55 rfl (zi_1 _) ?_
        refine z_goto C 13 dX4_slotInView_58 (by decide) ?_
        refine z_kill 7 ?_
        exact ih13 (uc - (k + 1)) (by omega) (k + 1) c1 rfl (by omega) (by subst hc; first | exact (zc_y (by simp [h_1, h_2])).symm | exact (zc_n (by simp [h_1, h_2])).symm) (by omega) (lt_s hf (by subst hc; simp [pK, h_1, h_2]))
      · refine z_iload C dX4_slotInView_43 rfl ?_
        refine z_iload_n C 3 dX4_slotInView_45 rfl rfl ?_
        refine z_icmp_ne C 52 dX4_slotInView_46 (by decide) (fun h_3 => ?_) (fun h_3 => ?_)
        · refine z_iinc C (nI (c1 + 1)) dX4_slotInView_52 rfl (zi_1 _) ?_
          refine z_iinc C (nI (k + 1)) dX4_slotInView_55 rfl (zi_1 _) ?_
          refine z_goto C 13 dX4_slotInView_58 (by decide) ?_
          refine z_kill 7 ?_
          exact ih13 (uc - (k + 1)) (by omega) (k + 1) (c1 + 1) rfl (by omega) (by subst hc; first | exact (zc_y (by simp [h_1, h_2, h_3])).symm | exact (zc_n (by simp [h_1, h_2, h_3])).symm) (by omega) (lt_s hf (by subst hc; simp [pK, h_1, h_2, h_3]))
        · refine z_iload C dX4_slotInView_49 rfl ?_
          exact z_iret C N dX4_slotInView_51 (rfl) (by rw [zat_at (k := k) (by subst hc; simp [pK, h_1, h_2, h_3]) hf (by omega)])
  exact hL13 _ 0 0 rfl (by omega) (rfl) (by omega) (fun j h => absurd h (Nat.not_lt_zero j))

set_option maxHeartbeats 4000000 in
set_option maxRecDepth 100000 in
theorem mX4_placeInView_c (E : zE) (a : Nat → Nat) (fr : Nat → Int32) (ur : Nat) (fc : Nat → Int32) (uc : Nat) (fb g : Nat → Int32) (M : Nat) (tr : Bool) (vw sl : Int32) (hur : ur ≤ 12) (huc : uc ≤ 8) (hM : M ≤ 60) : zM E yX4_placeInView wsX4_placeInView 4 [.ref (a 0), .int vw, .int (nI 1), .int sl] [((a 0), .inr (4, [.ref (a 1), .ref (a 3), .ref (a 5), .ref (a 6), .int (zb tr)])), ((a 1), .inr (2, [.ref (a 2), .int (nI ur)])), ((a 2), .inl (E.2.2.1, 12, .inl fr)), ((a 3), .inr (2, [.ref (a 4), .int (nI uc)])), ((a 4), .inl (E.2.2.1, 8, .inl fc)), ((a 5), .inl (E.2.2.1, 96, .inl fb)), ((a 6), .inr (0, [.ref (a 7), .int (nI M)])), ((a 7), .inl (E.2.2.1, 360, .inl g))] [((a 0), .inr (4, [.ref (a 1), .ref (a 3), .ref (a 5), .ref (a 6), .int (zb tr)])), ((a 1), .inr (2, [.ref (a 2), .int (nI ur)])), ((a 2), .inl (E.2.2.1, 12, .inl fr)), ((a 3), .inr (2, [.ref (a 4), .int (nI uc)])), ((a 4), .inl (E.2.2.1, 8, .inl fc)), ((a 5), .inl (E.2.2.1, 96, .inl fb)), ((a 6), .inr (0, [.ref (a 7), .int (nI M)])), ((a 7), .inl (E.2.2.1, 360, .inl g))] (some (.int (zpv fc (fun j => pSh g M vw (nI 2) (nI 3) 4 (fc j)) uc sl))) := by
  refine zM.of kX4_placeInView (Nat.le_of_ble_eq_true rfl) rfl [some (.ref (a 0)), some (.int vw), some (.int (nI 1)), some (.int sl), none, none, none, none, none] rfl (Nat.le_of_ble_eq_true rfl) ?_
  intro X eX C N
  subst eX
  refine z_aload_n C 0 dX4_placeInView_0 rfl rfl ?_
  refine z_iload_n C 2 dX4_placeInView_1 rfl rfl ?_
  refine z_callVr C kX4_linesOf gX4_placeInView_X4_linesOf (mX4_linesOf_c X.2.1 a fr ur fc uc fb g M tr hur huc hM) dX4_placeInView_2 [0, 1, 2, 3, 4, 5, 6, 7] [] 0 rfl nd_0_1_2_3_4_5_6_7 rfl rfl rfl (by decide) (by decide) (Nat.le_of_ble_eq_true rfl) rfl ?_
  refine z_astore C dX4_placeInView_5 (Nat.le_of_ble_eq_true rfl) ?_
  refine z_iconst C (nI 0) dX4_placeInView_7 (by decide) ?_
  refine z_istore C dX4_placeInView_8 (Nat.le_of_ble_eq_true rfl) ?_
  refine z_iconst C (nI 0) dX4_placeInView_10 (by decide) ?_
  refine z_istore C dX4_placeInView_11 (Nat.le_of_ble_eq_true rfl) ?_
  have hL13 : ∀ (dd : Nat) (k : Nat) (c1 : Nat), uc - k = dd → (k ≤ uc) → (c1 = zc (fun j => pSh g M vw (nI 2) (nI 3) 4 (fc j)) k) → (c1 ≤ k) → (∀ j, j < k → pE fc sl j = false) → zG X 0 0 [((a 0), .inr (4, [.ref (a 1), .ref (a 3), .ref (a 5), .ref (a 6), .int (zb tr)])), ((a 1), .inr (2, [.ref (a 2), .int (nI ur)])), ((a 2), .inl (X.2.1.2.2.1, 12, .inl fr)), ((a 3), .inr (2, [.ref (a 4), .int (nI uc)])), ((a 4), .inl (X.2.1.2.2.1, 8, .inl fc)), ((a 5), .inl (X.2.1.2.2.1, 96, .inl fb)), ((a 6), .inr (0, [.ref (a 7), .int (nI M)])), ((a 7), .inl (X.2.1.2.2.1, 360, .inl g))] [some (.ref (a 0)), some (.int vw), some (.int (nI 1)), some (.int sl), some (.ref (a 3)), some (.int (nI c1)), some (.int (nI k)), none, none] [] 13 := by
    intro dd
    induction dd using Nat.strongRecOn with
    | _ dd ih13 =>
    intro k c1 hdd hk hc hcb hf
    refine z_iload C dX4_placeInView_13 rfl ?_
    refine z_aload C dX4_placeInView_15 rfl ?_
    refine z_get C fX4_placeInView_64 3 dX4_placeInView_17 rfl rfl ?_
    refine z_ncmp_ge C 75 dX4_placeInView_20 (by decide) (by omega) (by omega) (fun h_1 => ?_) (fun h_1 => ?_)
    · refine z_bipush C (-5) dX4_placeInView_75 (by decide) ?_
      exact z_iret C N dX4_placeInView_77 (rfl) (by rw [zpv_no (fun j hj => hf j (by omega))])
    · refine z_aload C dX4_placeInView_23 rfl ?_
      refine z_iload C dX4_placeInView_25 rfl ?_
      refine z_callVr C kX2_slotAt gX4_placeInView_X2_slotAt (mX2_slotAt_in X.2.1 (a 3) (a 4) 8 fc uc k (by first | assumption | omega) huc h_1) dX4_placeInView_27 [3, 4] [] 3 rfl nd_3_4 rfl rfl rfl (by decide) (by decide) (Nat.le_of_ble_eq_true rfl) rfl ?_
      refine z_istore C dX4_placeInView_30 (Nat.le_of_ble_eq_true rfl) ?_
      refine z_aload_n C 0 dX4_placeInView_32 rfl rfl ?_
      refine z_iload_n C 1 dX4_placeInView_33 rfl rfl ?_
      refine z_iload_n C 2 dX4_placeInView_34 rfl rfl ?_
      refine z_iload C dX4_placeInView_35 rfl ?_
      refine z_callVr C kX4_isShown gX4_placeInView_X4_isShown (mX4_isShown_c X.2.1 a fr ur fc uc fb g M tr vw (fc k) hur huc hM) dX4_placeInView_37 [0, 1, 2, 3, 4, 5, 6, 7] [] 0 rfl nd_0_1_2_3_4_5_6_7 rfl rfl rfl (by decide) (by decide) (Nat.le_of_ble_eq_true rfl) rfl ?_
      refine z_istore C dX4_placeInView_40 (Nat.le_of_ble_eq_true rfl) ?_
      refine z_iload C dX4_placeInView_42 rfl ?_
      refine z_iload_n C 3 dX4_placeInView_44 rfl rfl ?_
      refine z_icmp_ne C 61 dX4_placeInView_45 (by decide) (fun h_2 => ?_) (fun h_2 => ?_)
      · refine z_iload C dX4_placeInView_61 rfl ?_
        refine z_bif_eq C 69 dX4_placeInView_63 (by decide) (fun h_3 => ?_) (fun h_3 => ?_)
        · refine z_iinc C (nI (k + 1)) dX4_placeInView_69 rfl (zi_1 _) ?_
          refine z_goto C 13 dX4_placeInView_72 (by decide) ?_
          refine z_kill 7 ?_
          refine z_kill 8 ?_
          exact ih13 (uc - (k + 1)) (by omega) (k + 1) c1 rfl (by omega) (by subst hc; first | exact (zc_y (by simp [h_1, h_2, h_3])).symm | exact (zc_n (by simp [h_1, h_2, h_3])).symm) (by omega) (lt_s hf (by simp [pE, h_1, h_2, h_3]))
        · refine z_iinc C (nI (c1 + 1)) dX4_placeInView_66 rfl (zi_1 _) ?_
          refine z_iinc C (nI (k + 1)) dX4_placeInView_69 rfl (zi_1 _) ?_
          refine z_goto C 13 dX4_placeInView_72 (by decide) ?_
          refine z_kill 7 ?_
          refine z_kill 8 ?_
          exact ih13 (uc - (k + 1)) (by omega) (k + 1) (c1 + 1) rfl (by omega) (by subst hc; first | exact (zc_y (by simp [h_1, h_2, h_3])).symm | exact (zc_n (by simp [h_1, h_2, h_3])).symm) (by omega) (lt_s hf (by simp [pE, h_1, h_2, h_3]))
      · refine z_iload C dX4_placeInView_48 rfl ?_
        refine z_bif_eq C 58 dX4_placeInView_50 (by decide) (fun h_4 => ?_) (fun h_4 => ?_)
        · refine z_bipush C (-5) dX4_placeInView_58 (by decide) ?_
          exact z_iret C N dX4_placeInView_60 (rfl) (by rw [zpv_at (k := k) (by simp [pE, h_1, h_2, h_4]) hf (by omega)]; simp only [hc, h_4, if_true, Bool.false_eq_true, if_false])
        · refine z_iload C dX4_placeInView_53 rfl ?_
          refine z_goto C 60 dX4_placeInView_55 (by decide) ?_
          exact z_iret C N dX4_placeInView_60 (rfl) (by rw [zpv_at (k := k) (by simp [pE, h_1, h_2, h_4]) hf (by omega)]; simp only [hc, h_4, if_true, Bool.false_eq_true, if_false])
  exact hL13 _ 0 0 rfl (by omega) (rfl) (by omega) (fun j h => absurd h (Nat.not_lt_zero j))

theorem kX4_base : zY yX4_base wsX4_base cX4_base 3 (some .int) 2 := ⟨⟨_, rfl⟩, ⟨by decide +kernel, by decide +kernel, by decide +kernel⟩, by decide +kernel⟩
theorem fX4_base_23 : zF wsX4_base RX4 23 4 2 RX4 TX4 5 := ⟨by decide +kernel, rfl, by decide, by decide +kernel, rfl⟩
set_option maxHeartbeats 4000000 in
set_option maxRecDepth 100000 in
theorem mX4_base (E : zE) (a : Nat → Nat) (fr : Nat → Int32) (ur : Nat) (fc : Nat → Int32) (uc : Nat) (fb g : Nat → Int32) (M : Nat) (tr : Bool) (r c : Int32) (hur : ur ≤ 12) (huc : uc ≤ 8) (hM : M ≤ 60) : zM E yX4_base wsX4_base 0 [.ref (a 0), .int r, .int c] [((a 0), .inr (4, [.ref (a 1), .ref (a 3), .ref (a 5), .ref (a 6), .int (zb tr)])), ((a 1), .inr (2, [.ref (a 2), .int (nI ur)])), ((a 2), .inl (E.2.2.1, 12, .inl fr)), ((a 3), .inr (2, [.ref (a 4), .int (nI uc)])), ((a 4), .inl (E.2.2.1, 8, .inl fc)), ((a 5), .inl (E.2.2.1, 96, .inl fb)), ((a 6), .inr (0, [.ref (a 7), .int (nI M)])), ((a 7), .inl (E.2.2.1, 360, .inl g))] [((a 0), .inr (4, [.ref (a 1), .ref (a 3), .ref (a 5), .ref (a 6), .int (zb tr)])), ((a 1), .inr (2, [.ref (a 2), .int (nI ur)])), ((a 2), .inl (E.2.2.1, 12, .inl fr)), ((a 3), .inr (2, [.ref (a 4), .int (nI uc)])), ((a 4), .inl (E.2.2.1, 8, .inl fc)), ((a 5), .inl (E.2.2.1, 96, .inl fb)), ((a 6), .inr (0, [.ref (a 7), .int (nI M)])), ((a 7), .inl (E.2.2.1, 360, .inl g))] (some (.int (zBa fb r c))) := by
  refine zM.of kX4_base (Nat.le_of_ble_eq_true rfl) rfl [some (.ref (a 0)), some (.int r), some (.int c)] rfl (Nat.le_of_ble_eq_true rfl) ?_
  intro X eX C N
  subst eX
  refine z_iload_n C 1 dX4_base_0 rfl rfl ?_
  refine z_if_lt C 20 dX4_base_1 (by decide) (fun h_1 => ?_) (fun h_1 => ?_)
  · refine z_iconst C (nI 0) dX4_base_20 (by decide) ?_
    exact z_iret C N dX4_base_21 (rfl) (by simp [zBa, zz_0, Int32.not_lt, h_1])
  · refine z_iload_n C 1 dX4_base_4 rfl rfl ?_
    refine z_bipush C (nI 12) dX4_base_5 (by decide) ?_
    refine z_icmp_ge C 20 dX4_base_7 (by decide) (fun h_2 => ?_) (fun h_2 => ?_)
    · refine z_iconst C (nI 0) dX4_base_20 (by decide) ?_
      exact z_iret C N dX4_base_21 (rfl) (by simp [zBa, zz_0, Int32.not_lt, Int32.not_lt.mp h_1, h_1, h_2])
    · refine z_iload_n C 2 dX4_base_10 rfl rfl ?_
      refine z_if_lt C 20 dX4_base_11 (by decide) (fun h_3 => ?_) (fun h_3 => ?_)
      · refine z_iconst C (nI 0) dX4_base_20 (by decide) ?_
        exact z_iret C N dX4_base_21 (rfl) (by simp [zBa, zz_0, Int32.not_lt, Int32.not_lt.mp h_1, h_1, Int32.not_le.mp h_2, h_2, h_3])
      · refine z_iload_n C 2 dX4_base_14 rfl rfl ?_
        refine z_bipush C (nI 8) dX4_base_15 (by decide) ?_
        refine z_icmp_lt C 22 dX4_base_17 (by decide) (fun h_4 => ?_) (fun h_4 => ?_)
        · refine z_aload_n C 0 dX4_base_22 rfl rfl ?_
          obtain ⟨q, hq, eq⟩ := z_nat (by decide) h_1 h_2
          subst eq
          obtain ⟨w, hw, ew⟩ := z_nat (by decide) h_3 (fun q => absurd h_4 (Int32.not_lt.mpr q))
          subst ew
          refine z_get C fX4_base_23 0 dX4_base_23 rfl rfl ?_
          refine z_iload_n C 1 dX4_base_26 rfl rfl ?_
          refine z_bipush C (nI 8) dX4_base_27 (by decide) ?_
          refine z_imul C dX4_base_29 ?_
          refine z_top (y := nI (8 * q)) ((pk_mul _ _).trans (congrArg nI (Nat.mul_comm _ _))) ?_
          refine z_iload_n C 2 dX4_base_30 rfl rfl ?_
          refine z_iadd C dX4_base_31 ?_
          refine z_top (y := nI ((8 * q) + w)) (nI_add _ _) ?_
          refine z_ialdN C 5 dX4_base_32 rfl (by omega) (by decide) ?_
          exact z_iret C N dX4_base_33 (rfl) (by rw [zBa_in hq hw])
        · refine z_iconst C (nI 0) dX4_base_20 (by decide) ?_
          exact z_iret C N dX4_base_21 (rfl) (by simp [zBa, zz_0, Int32.not_lt, Int32.not_lt.mp h_1, h_1, Int32.not_le.mp h_2, h_2, Int32.not_lt.mp h_3, h_3, Int32.not_lt.mp h_4, h_4])

theorem kX4_putBase : zY yX4_putBase wsX4_putBase cX4_putBase 4 none 3 := ⟨⟨_, rfl⟩, ⟨by decide +kernel, by decide +kernel, by decide +kernel⟩, by decide +kernel⟩
theorem fX4_putBase_23 : zF wsX4_putBase RX4 23 4 2 RX4 TX4 5 := ⟨by decide +kernel, rfl, by decide, by decide +kernel, rfl⟩
set_option maxHeartbeats 4000000 in
set_option maxRecDepth 100000 in
theorem mX4_putBase (E : zE) (a : Nat → Nat) (fr : Nat → Int32) (ur : Nat) (fc : Nat → Int32) (uc : Nat) (fb g : Nat → Int32) (M : Nat) (tr : Bool) (r c v : Int32) (hur : ur ≤ 12) (huc : uc ≤ 8) (hM : M ≤ 60) : zM E yX4_putBase wsX4_putBase 0 [.ref (a 0), .int r, .int c, .int v] [((a 0), .inr (4, [.ref (a 1), .ref (a 3), .ref (a 5), .ref (a 6), .int (zb tr)])), ((a 1), .inr (2, [.ref (a 2), .int (nI ur)])), ((a 2), .inl (E.2.2.1, 12, .inl fr)), ((a 3), .inr (2, [.ref (a 4), .int (nI uc)])), ((a 4), .inl (E.2.2.1, 8, .inl fc)), ((a 5), .inl (E.2.2.1, 96, .inl fb)), ((a 6), .inr (0, [.ref (a 7), .int (nI M)])), ((a 7), .inl (E.2.2.1, 360, .inl g))] [((a 0), .inr (4, [.ref (a 1), .ref (a 3), .ref (a 5), .ref (a 6), .int (zb tr)])), ((a 1), .inr (2, [.ref (a 2), .int (nI ur)])), ((a 2), .inl (E.2.2.1, 12, .inl fr)), ((a 3), .inr (2, [.ref (a 4), .int (nI uc)])), ((a 4), .inl (E.2.2.1, 8, .inl fc)), ((a 5), .inl (E.2.2.1, 96, .inl (zPb fb r c v))), ((a 6), .inr (0, [.ref (a 7), .int (nI M)])), ((a 7), .inl (E.2.2.1, 360, .inl g))] none := by
  refine zM.of kX4_putBase (Nat.le_of_ble_eq_true rfl) rfl [some (.ref (a 0)), some (.int r), some (.int c), some (.int v)] rfl (Nat.le_of_ble_eq_true rfl) ?_
  intro X eX C N
  subst eX
  refine z_iload_n C 1 dX4_putBase_0 rfl rfl ?_
  refine z_if_lt C 32 dX4_putBase_1 (by decide) (fun h_1 => ?_) (fun h_1 => ?_)
  · exact z_vret C N dX4_putBase_32 (by first | (rw [zPb_in hq hw] <;> rfl) | (rw [show zPb fb r c v = fb by simp [zPb, Int32.not_lt, h_1]] <;> rfl))
  · refine z_iload_n C 1 dX4_putBase_4 rfl rfl ?_
    refine z_bipush C (nI 12) dX4_putBase_5 (by decide) ?_
    refine z_icmp_ge C 32 dX4_putBase_7 (by decide) (fun h_2 => ?_) (fun h_2 => ?_)
    · exact z_vret C N dX4_putBase_32 (by first | (rw [zPb_in hq hw] <;> rfl) | (rw [show zPb fb r c v = fb by simp [zPb, Int32.not_lt, Int32.not_lt.mp h_1, h_1, h_2]] <;> rfl))
    · refine z_iload_n C 2 dX4_putBase_10 rfl rfl ?_
      refine z_if_lt C 32 dX4_putBase_11 (by decide) (fun h_3 => ?_) (fun h_3 => ?_)
      · exact z_vret C N dX4_putBase_32 (by first | (rw [zPb_in hq hw] <;> rfl) | (rw [show zPb fb r c v = fb by simp [zPb, Int32.not_lt, Int32.not_lt.mp h_1, h_1, Int32.not_le.mp h_2, h_2, h_3]] <;> rfl))
      · refine z_iload_n C 2 dX4_putBase_14 rfl rfl ?_
        refine z_bipush C (nI 8) dX4_putBase_15 (by decide) ?_
        refine z_icmp_ge C 32 dX4_putBase_17 (by decide) (fun h_4 => ?_) (fun h_4 => ?_)
        · exact z_vret C N dX4_putBase_32 (by first | (rw [zPb_in hq hw] <;> rfl) | (rw [show zPb fb r c v = fb by simp [zPb, Int32.not_lt, Int32.not_lt.mp h_1, h_1, Int32.not_le.mp h_2, h_2, Int32.not_lt.mp h_3, h_3, h_4]] <;> rfl))
        · refine z_aload_n C 0 dX4_putBase_20 rfl rfl ?_
          obtain ⟨q, hq, eq⟩ := z_nat (by decide) h_1 h_2
          subst eq
          obtain ⟨w, hw, ew⟩ := z_nat (by decide) h_3 h_4
          subst ew
          refine z_get C fX4_putBase_23 0 dX4_putBase_21 rfl rfl ?_
          refine z_iload_n C 1 dX4_putBase_24 rfl rfl ?_
          refine z_bipush C (nI 8) dX4_putBase_25 (by decide) ?_
          refine z_imul C dX4_putBase_27 ?_
          refine z_top (y := nI (8 * q)) ((pk_mul _ _).trans (congrArg nI (Nat.mul_comm _ _))) ?_
          refine z_iload_n C 2 dX4_putBase_28 rfl rfl ?_
          refine z_iadd C dX4_putBase_29 ?_
          refine z_top (y := nI ((8 * q) + w)) (nI_add _ _) ?_
          refine z_iload_n C 3 dX4_putBase_30 rfl rfl ?_
          refine z_iastN C 5 dX4_putBase_31 rfl (by omega) (by decide) ?_
          exact z_vret C N dX4_putBase_32 (by first | (rw [zPb_in hq hw] <;> rfl) | (rw [show zPb fb r c v = fb by simp [zPb, Int32.not_lt, Int32.not_lt.mp h_1, h_1, Int32.not_le.mp h_2, h_2, Int32.not_lt.mp h_3, h_3, Int32.not_le.mp h_4, h_4]] <;> rfl))

theorem kX4_clearCells : zY yX4_clearCells wsX4_clearCells cX4_clearCells 4 none 2 := ⟨⟨_, rfl⟩, ⟨by decide +kernel, by decide +kernel, by decide +kernel⟩, by decide +kernel⟩
set_option maxHeartbeats 4000000 in
set_option maxRecDepth 100000 in
theorem mX4_clearCells_r (E : zE) (a : Nat → Nat) (fr : Nat → Int32) (ur : Nat) (fc : Nat → Int32) (uc : Nat) (fb g : Nat → Int32) (M : Nat) (tr : Bool) (sl : Int32) (hur : ur ≤ 12) (huc : uc ≤ 8) (hM : M ≤ 60) : zM E yX4_clearCells wsX4_clearCells 1 [.ref (a 0), .int (nI 0), .int sl] [((a 0), .inr (4, [.ref (a 1), .ref (a 3), .ref (a 5), .ref (a 6), .int (zb tr)])), ((a 1), .inr (2, [.ref (a 2), .int (nI ur)])), ((a 2), .inl (E.2.2.1, 12, .inl fr)), ((a 3), .inr (2, [.ref (a 4), .int (nI uc)])), ((a 4), .inl (E.2.2.1, 8, .inl fc)), ((a 5), .inl (E.2.2.1, 96, .inl fb)), ((a 6), .inr (0, [.ref (a 7), .int (nI M)])), ((a 7), .inl (E.2.2.1, 360, .inl g))] [((a 0), .inr (4, [.ref (a 1), .ref (a 3), .ref (a 5), .ref (a 6), .int (zb tr)])), ((a 1), .inr (2, [.ref (a 2), .int (nI ur)])), ((a 2), .inl (E.2.2.1, 12, .inl fr)), ((a 3), .inr (2, [.ref (a 4), .int (nI uc)])), ((a 4), .inl (E.2.2.1, 8, .inl fc)), ((a 5), .inl (E.2.2.1, 96, .inl (zClR fb sl 8))), ((a 6), .inr (0, [.ref (a 7), .int (nI M)])), ((a 7), .inl (E.2.2.1, 360, .inl g))] none := by
  refine zM.of kX4_clearCells (Nat.le_of_ble_eq_true rfl) rfl [some (.ref (a 0)), some (.int (nI 0)), some (.int sl), none] rfl (Nat.le_of_ble_eq_true rfl) ?_
  intro X eX C N
  subst eX
  refine z_iload_n C 1 dX4_clearCells_0 rfl rfl ?_
  refine z_nif_ne_f C 28 dX4_clearCells_1 (by decide) (by omega) (by omega) ?_
  refine z_iconst C (nI 0) dX4_clearCells_4 (by decide) ?_
  refine z_istore_n C 3 dX4_clearCells_5 rfl (Nat.le_of_ble_eq_true rfl) ?_
  have hL6 : ∀ (dd : Nat) (k : Nat) (fb' : Nat → Int32), 8 - k = dd → (k ≤ 8) → (fb' = zClR fb sl k) → zG X 0 0 [((a 0), .inr (4, [.ref (a 1), .ref (a 3), .ref (a 5), .ref (a 6), .int (zb tr)])), ((a 1), .inr (2, [.ref (a 2), .int (nI ur)])), ((a 2), .inl (X.2.1.2.2.1, 12, .inl fr)), ((a 3), .inr (2, [.ref (a 4), .int (nI uc)])), ((a 4), .inl (X.2.1.2.2.1, 8, .inl fc)), ((a 5), .inl (X.2.1.2.2.1, 96, .inl fb')), ((a 6), .inr (0, [.ref (a 7), .int (nI M)])), ((a 7), .inl (X.2.1.2.2.1, 360, .inl g))] [some (.ref (a 0)), some (.int (nI 0)), some (.int sl), some (.int (nI k))] [] 6 := by
    intro dd
    induction dd using Nat.strongRecOn with
    | _ dd ih6 =>
    intro k fb' hdd hk hf
    refine z_iload_n C 3 dX4_clearCells_6 rfl rfl ?_
    refine z_bipush C (nI 8) dX4_clearCells_7 (by decide) ?_
    refine z_ncmp_ge C 25 dX4_clearCells_9 (by decide) (by omega) (by omega) (fun h_1 => ?_) (fun h_1 => ?_)
    · refine z_goto C 49 dX4_clearCells_25 (by decide) ?_
      exact z_vret C N dX4_clearCells_49 (by rw [hf, show k = 8 by omega] <;> rfl)
    · refine z_aload_n C 0 dX4_clearCells_12 rfl rfl ?_
      refine z_iload_n C 2 dX4_clearCells_13 rfl rfl ?_
      refine z_iload_n C 3 dX4_clearCells_14 rfl rfl ?_
      refine z_iconst C (nI 0) dX4_clearCells_15 (by decide) ?_
      refine z_callVv (wn := [((a 0), .inr (4, [.ref (a 1), .ref (a 3), .ref (a 5), .ref (a 6), .int (zb tr)])), ((a 1), .inr (2, [.ref (a 2), .int (nI ur)])), ((a 2), .inl (X.2.1.2.2.1, 12, .inl fr)), ((a 3), .inr (2, [.ref (a 4), .int (nI uc)])), ((a 4), .inl (X.2.1.2.2.1, 8, .inl fc)), ((a 5), .inl (X.2.1.2.2.1, 96, .inl (zPb fb' sl (nI k) (nI 0)))), ((a 6), .inr (0, [.ref (a 7), .int (nI M)])), ((a 7), .inl (X.2.1.2.2.1, 360, .inl g))]) C kX4_putBase gX4_clearCells_X4_putBase (mX4_putBase X.2.1 a fr ur fc uc fb' g M tr sl (nI k) (nI 0) hur huc hM) dX4_clearCells_16 [0, 1, 2, 3, 4, 5, 6, 7] [] 0 rfl rfl nd_0_1_2_3_4_5_6_7 rfl rfl rfl (by decide) (by decide) (Nat.le_of_ble_eq_true rfl) rfl rfl ?_
      refine z_iinc C (nI (k + 1)) dX4_clearCells_19 rfl (zi_1 _) ?_
      refine z_goto C 6 dX4_clearCells_22 (by decide) ?_
      exact ih6 (8 - (k + 1)) (by omega) (k + 1) (zPb fb' sl (nI k) (nI 0)) rfl (by omega) (by subst hf; rfl)
  exact hL6 _ 0 fb rfl (by omega) (rfl)

set_option maxHeartbeats 4000000 in
set_option maxRecDepth 100000 in
theorem mX4_clearCells_c (E : zE) (a : Nat → Nat) (fr : Nat → Int32) (ur : Nat) (fc : Nat → Int32) (uc : Nat) (fb g : Nat → Int32) (M : Nat) (tr : Bool) (sl : Int32) (hur : ur ≤ 12) (huc : uc ≤ 8) (hM : M ≤ 60) : zM E yX4_clearCells wsX4_clearCells 1 [.ref (a 0), .int (nI 1), .int sl] [((a 0), .inr (4, [.ref (a 1), .ref (a 3), .ref (a 5), .ref (a 6), .int (zb tr)])), ((a 1), .inr (2, [.ref (a 2), .int (nI ur)])), ((a 2), .inl (E.2.2.1, 12, .inl fr)), ((a 3), .inr (2, [.ref (a 4), .int (nI uc)])), ((a 4), .inl (E.2.2.1, 8, .inl fc)), ((a 5), .inl (E.2.2.1, 96, .inl fb)), ((a 6), .inr (0, [.ref (a 7), .int (nI M)])), ((a 7), .inl (E.2.2.1, 360, .inl g))] [((a 0), .inr (4, [.ref (a 1), .ref (a 3), .ref (a 5), .ref (a 6), .int (zb tr)])), ((a 1), .inr (2, [.ref (a 2), .int (nI ur)])), ((a 2), .inl (E.2.2.1, 12, .inl fr)), ((a 3), .inr (2, [.ref (a 4), .int (nI uc)])), ((a 4), .inl (E.2.2.1, 8, .inl fc)), ((a 5), .inl (E.2.2.1, 96, .inl (zClC fb sl 12))), ((a 6), .inr (0, [.ref (a 7), .int (nI M)])), ((a 7), .inl (E.2.2.1, 360, .inl g))] none := by
  refine zM.of kX4_clearCells (Nat.le_of_ble_eq_true rfl) rfl [some (.ref (a 0)), some (.int (nI 1)), some (.int sl), none] rfl (Nat.le_of_ble_eq_true rfl) ?_
  intro X eX C N
  subst eX
  refine z_iload_n C 1 dX4_clearCells_0 rfl rfl ?_
  refine z_nif_ne_t C 28 dX4_clearCells_1 (by decide) (by omega) (by omega) ?_
  refine z_iconst C (nI 0) dX4_clearCells_28 (by decide) ?_
  refine z_istore_n C 3 dX4_clearCells_29 rfl (Nat.le_of_ble_eq_true rfl) ?_
  have hL30 : ∀ (dd : Nat) (k : Nat) (fb' : Nat → Int32), 12 - k = dd → (k ≤ 12) → (fb' = zClC fb sl k) → zG X 0 0 [((a 0), .inr (4, [.ref (a 1), .ref (a 3), .ref (a 5), .ref (a 6), .int (zb tr)])), ((a 1), .inr (2, [.ref (a 2), .int (nI ur)])), ((a 2), .inl (X.2.1.2.2.1, 12, .inl fr)), ((a 3), .inr (2, [.ref (a 4), .int (nI uc)])), ((a 4), .inl (X.2.1.2.2.1, 8, .inl fc)), ((a 5), .inl (X.2.1.2.2.1, 96, .inl fb')), ((a 6), .inr (0, [.ref (a 7), .int (nI M)])), ((a 7), .inl (X.2.1.2.2.1, 360, .inl g))] [some (.ref (a 0)), some (.int (nI 1)), some (.int sl), some (.int (nI k))] [] 30 := by
    intro dd
    induction dd using Nat.strongRecOn with
    | _ dd ih30 =>
    intro k fb' hdd hk hf
    refine z_iload_n C 3 dX4_clearCells_30 rfl rfl ?_
    refine z_bipush C (nI 12) dX4_clearCells_31 (by decide) ?_
    refine z_ncmp_ge C 49 dX4_clearCells_33 (by decide) (by omega) (by omega) (fun h_1 => ?_) (fun h_1 => ?_)
    · exact z_vret C N dX4_clearCells_49 (by rw [hf, show k = 12 by omega] <;> rfl)
    · refine z_aload_n C 0 dX4_clearCells_36 rfl rfl ?_
      refine z_iload_n C 3 dX4_clearCells_37 rfl rfl ?_
      refine z_iload_n C 2 dX4_clearCells_38 rfl rfl ?_
      refine z_iconst C (nI 0) dX4_clearCells_39 (by decide) ?_
      refine z_callVv (wn := [((a 0), .inr (4, [.ref (a 1), .ref (a 3), .ref (a 5), .ref (a 6), .int (zb tr)])), ((a 1), .inr (2, [.ref (a 2), .int (nI ur)])), ((a 2), .inl (X.2.1.2.2.1, 12, .inl fr)), ((a 3), .inr (2, [.ref (a 4), .int (nI uc)])), ((a 4), .inl (X.2.1.2.2.1, 8, .inl fc)), ((a 5), .inl (X.2.1.2.2.1, 96, .inl (zPb fb' (nI k) sl (nI 0)))), ((a 6), .inr (0, [.ref (a 7), .int (nI M)])), ((a 7), .inl (X.2.1.2.2.1, 360, .inl g))]) C kX4_putBase gX4_clearCells_X4_putBase (mX4_putBase X.2.1 a fr ur fc uc fb' g M tr (nI k) sl (nI 0) hur huc hM) dX4_clearCells_40 [0, 1, 2, 3, 4, 5, 6, 7] [] 0 rfl rfl nd_0_1_2_3_4_5_6_7 rfl rfl rfl (by decide) (by decide) (Nat.le_of_ble_eq_true rfl) rfl rfl ?_
      refine z_iinc C (nI (k + 1)) dX4_clearCells_43 rfl (zi_1 _) ?_
      refine z_goto C 30 dX4_clearCells_46 (by decide) ?_
      exact ih30 (12 - (k + 1)) (by omega) (k + 1) (zPb fb' (nI k) sl (nI 0)) rfl (by omega) (by subst hf; rfl)
  exact hL30 _ 0 fb rfl (by omega) (rfl)

theorem kX4_valueUnder : zY yX4_valueUnder wsX4_valueUnder cX4_valueUnder 5 (some .int) 3 := ⟨⟨_, rfl⟩, ⟨by decide +kernel, by decide +kernel, by decide +kernel⟩, by decide +kernel⟩
theorem fX4_valueUnder_30 : zF wsX4_valueUnder RX4 30 4 3 RX4 TX4 5 := ⟨by decide +kernel, rfl, by decide, by decide +kernel, rfl⟩
set_option maxHeartbeats 4000000 in
set_option maxRecDepth 100000 in
theorem mX4_valueUnder (E : zE) (a : Nat → Nat) (fr : Nat → Int32) (ur : Nat) (fc : Nat → Int32) (uc : Nat) (fb g : Nat → Int32) (M : Nat) (tr : Bool) (n9 : Nat) (r c : Int32) (hur : ur ≤ 12) (huc : uc ≤ 8) (hM : M ≤ 60) (hn9 : n9 ≤ 60) : zM E yX4_valueUnder wsX4_valueUnder 2 [.ref (a 0), .int (nI n9), .int r, .int c] [((a 0), .inr (4, [.ref (a 1), .ref (a 3), .ref (a 5), .ref (a 6), .int (zb tr)])), ((a 1), .inr (2, [.ref (a 2), .int (nI ur)])), ((a 2), .inl (E.2.2.1, 12, .inl fr)), ((a 3), .inr (2, [.ref (a 4), .int (nI uc)])), ((a 4), .inl (E.2.2.1, 8, .inl fc)), ((a 5), .inl (E.2.2.1, 96, .inl fb)), ((a 6), .inr (0, [.ref (a 7), .int (nI M)])), ((a 7), .inl (E.2.2.1, 360, .inl g))] [((a 0), .inr (4, [.ref (a 1), .ref (a 3), .ref (a 5), .ref (a 6), .int (zb tr)])), ((a 1), .inr (2, [.ref (a 2), .int (nI ur)])), ((a 2), .inl (E.2.2.1, 12, .inl fr)), ((a 3), .inr (2, [.ref (a 4), .int (nI uc)])), ((a 4), .inl (E.2.2.1, 8, .inl fc)), ((a 5), .inl (E.2.2.1, 96, .inl fb)), ((a 6), .inr (0, [.ref (a 7), .int (nI M)])), ((a 7), .inl (E.2.2.1, 360, .inl g))] (some (.int (zVU fb g M n9 r c))) := by
  refine zM.of kX4_valueUnder (Nat.le_of_ble_eq_true rfl) rfl [some (.ref (a 0)), some (.int (nI n9)), some (.int r), some (.int c), none] rfl (Nat.le_of_ble_eq_true rfl) ?_
  intro X eX C N
  subst eX
  refine z_aload_n C 0 dX4_valueUnder_0 rfl rfl ?_
  refine z_get C fX4_valueUnder_30 0 dX4_valueUnder_1 rfl rfl ?_
  refine z_iload_n C 1 dX4_valueUnder_4 rfl rfl ?_
  refine z_iload_n C 2 dX4_valueUnder_5 rfl rfl ?_
  refine z_iload_n C 3 dX4_valueUnder_6 rfl rfl ?_
  refine z_callVr C kX0_settingUnder gX4_valueUnder_X0_settingUnder (mX0_settingUnder X.2.1 (a 6) (a 7) g M n9 r c hM hn9) dX4_valueUnder_7 [6, 7] [] 6 rfl nd_6_7 rfl rfl rfl (by decide) (by decide) (Nat.le_of_ble_eq_true rfl) rfl ?_
  rcases hz : zgo (pS g r c) (min n9 M) with _ | k
  · refine z_top (y := (-5)) (zg_none hz) ?_
    refine z_istore C dX4_valueUnder_10 (Nat.le_of_ble_eq_true rfl) ?_
    refine z_iload C dX4_valueUnder_12 rfl ?_
    refine z_if_ge_f C 26 dX4_valueUnder_14 (by decide) (by decide) ?_
    refine z_aload_n C 0 dX4_valueUnder_17 rfl rfl ?_
    refine z_iload_n C 2 dX4_valueUnder_18 rfl rfl ?_
    refine z_iload_n C 3 dX4_valueUnder_19 rfl rfl ?_
    refine z_callVr C kX4_base gX4_valueUnder_X4_base (mX4_base X.2.1 a fr ur fc uc fb g M tr r c hur huc hM) dX4_valueUnder_20 [0, 1, 2, 3, 4, 5, 6, 7] [] 0 rfl nd_0_1_2_3_4_5_6_7 rfl rfl rfl (by decide) (by decide) (Nat.le_of_ble_eq_true rfl) rfl ?_
    refine z_goto C 36 dX4_valueUnder_23 (by decide) ?_
    exact z_iret C N dX4_valueUnder_36 (rfl) (by simp [zVU, hz])
  · have hz2 : k < M := by have := zgo_lt hz; omega
    refine z_top (y := nI k) (zg_some hz) ?_
    refine z_istore C dX4_valueUnder_10 (Nat.le_of_ble_eq_true rfl) ?_
    refine z_iload C dX4_valueUnder_12 rfl ?_
    refine z_nif_ge_t C 26 dX4_valueUnder_14 (by decide) (by omega) (by trivial) ?_
    refine z_aload_n C 0 dX4_valueUnder_26 rfl rfl ?_
    refine z_get C fX4_valueUnder_30 0 dX4_valueUnder_27 rfl rfl ?_
    refine z_iload C dX4_valueUnder_30 rfl ?_
    refine z_iconst C (nI 5) dX4_valueUnder_32 (by decide) ?_
    refine z_callVr C kX0_fact gX4_valueUnder_X0_fact (mX0_fact X.2.1 (a 6) (a 7) g M k 5 hM hz2 (by first | assumption | omega)) dX4_valueUnder_33 [6, 7] [] 6 rfl nd_6_7 rfl rfl rfl (by decide) (by decide) (Nat.le_of_ble_eq_true rfl) rfl ?_
    exact z_iret C N dX4_valueUnder_36 (rfl) (by simp [zVU, hz])

theorem kX4_valueBelow : zY yX4_valueBelow wsX4_valueBelow cX4_valueBelow 2 (some .int) 1 := ⟨⟨_, rfl⟩, ⟨by decide +kernel, by decide +kernel, by decide +kernel⟩, by decide +kernel⟩
theorem fX4_valueBelow_30 : zF wsX4_valueBelow RX4 30 4 3 RX4 TX4 5 := ⟨by decide +kernel, rfl, by decide, by decide +kernel, rfl⟩
set_option maxHeartbeats 4000000 in
set_option maxRecDepth 100000 in
theorem mX4_valueBelow (E : zE) (a : Nat → Nat) (fr : Nat → Int32) (ur : Nat) (fc : Nat → Int32) (uc : Nat) (fb g : Nat → Int32) (M : Nat) (tr : Bool) (x : Nat) (hur : ur ≤ 12) (huc : uc ≤ 8) (hM : M ≤ 60) (hx : x < M) : zM E yX4_valueBelow wsX4_valueBelow 3 [.ref (a 0), .int (nI x)] [((a 0), .inr (4, [.ref (a 1), .ref (a 3), .ref (a 5), .ref (a 6), .int (zb tr)])), ((a 1), .inr (2, [.ref (a 2), .int (nI ur)])), ((a 2), .inl (E.2.2.1, 12, .inl fr)), ((a 3), .inr (2, [.ref (a 4), .int (nI uc)])), ((a 4), .inl (E.2.2.1, 8, .inl fc)), ((a 5), .inl (E.2.2.1, 96, .inl fb)), ((a 6), .inr (0, [.ref (a 7), .int (nI M)])), ((a 7), .inl (E.2.2.1, 360, .inl g))] [((a 0), .inr (4, [.ref (a 1), .ref (a 3), .ref (a 5), .ref (a 6), .int (zb tr)])), ((a 1), .inr (2, [.ref (a 2), .int (nI ur)])), ((a 2), .inl (E.2.2.1, 12, .inl fr)), ((a 3), .inr (2, [.ref (a 4), .int (nI uc)])), ((a 4), .inl (E.2.2.1, 8, .inl fc)), ((a 5), .inl (E.2.2.1, 96, .inl fb)), ((a 6), .inr (0, [.ref (a 7), .int (nI M)])), ((a 7), .inl (E.2.2.1, 360, .inl g))] (some (.int (zVB fb g M x))) := by
  refine zM.of kX4_valueBelow (Nat.le_of_ble_eq_true rfl) rfl [some (.ref (a 0)), some (.int (nI x))] rfl (Nat.le_of_ble_eq_true rfl) ?_
  intro X eX C N
  subst eX
  refine z_aload_n C 0 dX4_valueBelow_0 rfl rfl ?_
  refine z_get C fX4_valueBelow_30 0 dX4_valueBelow_1 rfl rfl ?_
  refine z_iload_n C 1 dX4_valueBelow_4 rfl rfl ?_
  refine z_iconst C (nI 0) dX4_valueBelow_5 (by decide) ?_
  refine z_callVr C kX0_fact gX4_valueBelow_X0_fact (mX0_fact X.2.1 (a 6) (a 7) g M x 0 hM hx (by first | assumption | omega)) dX4_valueBelow_6 [6, 7] [] 6 rfl nd_6_7 rfl rfl rfl (by decide) (by decide) (Nat.le_of_ble_eq_true rfl) rfl ?_
  refine z_top (y := g (6 * x)) rfl ?_
  refine z_iconst C (nI 4) dX4_valueBelow_9 (by decide) ?_
  refine z_icmp_ne C 24 dX4_valueBelow_10 (by decide) (fun h_1 => ?_) (fun h_1 => ?_)
  · refine z_bipush C (-5) dX4_valueBelow_24 (by decide) ?_
    exact z_iret C N dX4_valueBelow_26 (rfl) (by simp [zVB, h_1])
  · refine z_aload_n C 0 dX4_valueBelow_13 rfl rfl ?_
    refine z_get C fX4_valueBelow_30 0 dX4_valueBelow_14 rfl rfl ?_
    refine z_iload_n C 1 dX4_valueBelow_17 rfl rfl ?_
    refine z_callVr C kX0_isPending gX4_valueBelow_X0_isPending (mX0_isPending X.2.1 (a 6) (a 7) g M x hM hx) dX4_valueBelow_18 [6, 7] [] 6 rfl nd_6_7 rfl rfl rfl (by decide) (by decide) (Nat.le_of_ble_eq_true rfl) rfl ?_
    refine z_bif_ne C 27 dX4_valueBelow_21 (by decide) (fun h_2 => ?_) (fun h_2 => ?_)
    · refine z_aload_n C 0 dX4_valueBelow_27 rfl rfl ?_
      refine z_iload_n C 1 dX4_valueBelow_28 rfl rfl ?_
      refine z_aload_n C 0 dX4_valueBelow_29 rfl rfl ?_
      refine z_get C fX4_valueBelow_30 0 dX4_valueBelow_30 rfl rfl ?_
      refine z_iload_n C 1 dX4_valueBelow_33 rfl rfl ?_
      refine z_iconst C (nI 3) dX4_valueBelow_34 (by decide) ?_
      refine z_callVr C kX0_fact gX4_valueBelow_X0_fact (mX0_fact X.2.1 (a 6) (a 7) g M x 3 hM hx (by first | assumption | omega)) dX4_valueBelow_35 [6, 7] [.int (nI x), .ref (a 0)] 6 rfl nd_6_7 rfl rfl rfl (by decide) (by decide) (Nat.le_of_ble_eq_true rfl) rfl ?_
      refine z_aload_n C 0 dX4_valueBelow_38 rfl rfl ?_
      refine z_get C fX4_valueBelow_30 0 dX4_valueBelow_39 rfl rfl ?_
      refine z_iload_n C 1 dX4_valueBelow_42 rfl rfl ?_
      refine z_iconst C (nI 4) dX4_valueBelow_43 (by decide) ?_
      refine z_callVr C kX0_fact gX4_valueBelow_X0_fact (mX0_fact X.2.1 (a 6) (a 7) g M x 4 hM hx (by first | assumption | omega)) dX4_valueBelow_44 [6, 7] [.int (g (6 * x + 3)), .int (nI x), .ref (a 0)] 6 rfl nd_6_7 rfl rfl rfl (by decide) (by decide) (Nat.le_of_ble_eq_true rfl) rfl ?_
      refine z_callVr C kX4_valueUnder gX4_valueBelow_X4_valueUnder (mX4_valueUnder X.2.1 a fr ur fc uc fb g M tr x (g (6 * x + 3)) (g (6 * x + 4)) hur huc hM (by first | assumption | omega)) dX4_valueBelow_47 [0, 1, 2, 3, 4, 5, 6, 7] [] 0 rfl nd_0_1_2_3_4_5_6_7 rfl rfl rfl (by decide) (by decide) (Nat.le_of_ble_eq_true rfl) rfl ?_
      exact z_iret C N dX4_valueBelow_50 (rfl) (by simp [zVB, h_1, of_decide_eq_true h_2, h_2])
    · refine z_bipush C (-5) dX4_valueBelow_24 (by decide) ?_
      exact z_iret C N dX4_valueBelow_26 (rfl) (by simp [zVB, h_1, of_decide_eq_false h_2, h_2])

theorem kX4_valueInView : zY yX4_valueInView wsX4_valueInView cX4_valueInView 4 (some .int) 3 := ⟨⟨_, rfl⟩, ⟨by decide +kernel, by decide +kernel, by decide +kernel⟩, by decide +kernel⟩
set_option maxHeartbeats 4000000 in
set_option maxRecDepth 100000 in
theorem mX4_valueInView (E : zE) (a : Nat → Nat) (fr : Nat → Int32) (ur : Nat) (fc : Nat → Int32) (uc : Nat) (fb g : Nat → Int32) (M : Nat) (tr : Bool) (vw r c : Int32) (hur : ur ≤ 12) (huc : uc ≤ 8) (hM : M ≤ 60) : zM E yX4_valueInView wsX4_valueInView 3 [.ref (a 0), .int vw, .int r, .int c] [((a 0), .inr (4, [.ref (a 1), .ref (a 3), .ref (a 5), .ref (a 6), .int (zb tr)])), ((a 1), .inr (2, [.ref (a 2), .int (nI ur)])), ((a 2), .inl (E.2.2.1, 12, .inl fr)), ((a 3), .inr (2, [.ref (a 4), .int (nI uc)])), ((a 4), .inl (E.2.2.1, 8, .inl fc)), ((a 5), .inl (E.2.2.1, 96, .inl fb)), ((a 6), .inr (0, [.ref (a 7), .int (nI M)])), ((a 7), .inl (E.2.2.1, 360, .inl g))] [((a 0), .inr (4, [.ref (a 1), .ref (a 3), .ref (a 5), .ref (a 6), .int (zb tr)])), ((a 1), .inr (2, [.ref (a 2), .int (nI ur)])), ((a 2), .inl (E.2.2.1, 12, .inl fr)), ((a 3), .inr (2, [.ref (a 4), .int (nI uc)])), ((a 4), .inl (E.2.2.1, 8, .inl fc)), ((a 5), .inl (E.2.2.1, 96, .inl fb)), ((a 6), .inr (0, [.ref (a 7), .int (nI M)])), ((a 7), .inl (E.2.2.1, 360, .inl g))] (some (.int (zVV fb g M vw r c))) := by
  refine zM.of kX4_valueInView (Nat.le_of_ble_eq_true rfl) rfl [some (.ref (a 0)), some (.int vw), some (.int r), some (.int c)] rfl (Nat.le_of_ble_eq_true rfl) ?_
  intro X eX C N
  subst eX
  refine z_iload_n C 1 dX4_valueInView_0 rfl rfl ?_
  refine z_iconst C (nI 2) dX4_valueInView_1 (by decide) ?_
  refine z_icmp_ne C 14 dX4_valueInView_2 (by decide) (fun h_1 => ?_) (fun h_1 => ?_)
  · refine z_aload_n C 0 dX4_valueInView_14 rfl rfl ?_
    refine z_bipush C (nI 60) dX4_valueInView_15 (by decide) ?_
    refine z_iload_n C 2 dX4_valueInView_17 rfl rfl ?_
    refine z_iload_n C 3 dX4_valueInView_18 rfl rfl ?_
    refine z_callVr C kX4_valueUnder gX4_valueInView_X4_valueUnder (mX4_valueUnder X.2.1 a fr ur fc uc fb g M tr 60 r c hur huc hM (by first | assumption | omega)) dX4_valueInView_19 [0, 1, 2, 3, 4, 5, 6, 7] [] 0 rfl nd_0_1_2_3_4_5_6_7 rfl rfl rfl (by decide) (by decide) (Nat.le_of_ble_eq_true rfl) rfl ?_
    exact z_iret C N dX4_valueInView_22 (rfl) (by simp [zVV, h_1])
  · refine z_aload_n C 0 dX4_valueInView_5 rfl rfl ?_
    refine z_iload_n C 2 dX4_valueInView_6 rfl rfl ?_
    refine z_iload_n C 3 dX4_valueInView_7 rfl rfl ?_
    refine z_callVr C kX4_base gX4_valueInView_X4_base (mX4_base X.2.1 a fr ur fc uc fb g M tr r c hur huc hM) dX4_valueInView_8 [0, 1, 2, 3, 4, 5, 6, 7] [] 0 rfl nd_0_1_2_3_4_5_6_7 rfl rfl rfl (by decide) (by decide) (Nat.le_of_ble_eq_true rfl) rfl ?_
    refine z_goto C 22 dX4_valueInView_11 (by decide) ?_
    exact z_iret C N dX4_valueInView_22 (rfl) (by simp [zVV, h_1])

theorem kX4_totalOfRow : zY yX4_totalOfRow wsX4_totalOfRow cX4_totalOfRow 6 (some .int) 2 := ⟨⟨_, rfl⟩, ⟨by decide +kernel, by decide +kernel, by decide +kernel⟩, by decide +kernel⟩
theorem fX4_totalOfRow_20 : zF wsX4_totalOfRow RX4 20 4 1 RX4 TX4 5 := ⟨by decide +kernel, rfl, by decide, by decide +kernel, rfl⟩
theorem fX4_totalOfRow_64 : zF wsX4_totalOfRow RX4 64 2 1 RX2 TX2 2 := ⟨by decide +kernel, rfl, by decide, by decide +kernel, rfl⟩
set_option maxHeartbeats 4000000 in
set_option maxRecDepth 100000 in
theorem mX4_totalOfRow (E : zE) (a : Nat → Nat) (fr : Nat → Int32) (ur : Nat) (fc : Nat → Int32) (uc : Nat) (fb g : Nat → Int32) (M : Nat) (tr : Bool) (vw r : Int32) (hur : ur ≤ 12) (huc : uc ≤ 8) (hM : M ≤ 60) : zM E yX4_totalOfRow wsX4_totalOfRow 4 [.ref (a 0), .int vw, .int r] [((a 0), .inr (4, [.ref (a 1), .ref (a 3), .ref (a 5), .ref (a 6), .int (zb tr)])), ((a 1), .inr (2, [.ref (a 2), .int (nI ur)])), ((a 2), .inl (E.2.2.1, 12, .inl fr)), ((a 3), .inr (2, [.ref (a 4), .int (nI uc)])), ((a 4), .inl (E.2.2.1, 8, .inl fc)), ((a 5), .inl (E.2.2.1, 96, .inl fb)), ((a 6), .inr (0, [.ref (a 7), .int (nI M)])), ((a 7), .inl (E.2.2.1, 360, .inl g))] [((a 0), .inr (4, [.ref (a 1), .ref (a 3), .ref (a 5), .ref (a 6), .int (zb tr)])), ((a 1), .inr (2, [.ref (a 2), .int (nI ur)])), ((a 2), .inl (E.2.2.1, 12, .inl fr)), ((a 3), .inr (2, [.ref (a 4), .int (nI uc)])), ((a 4), .inl (E.2.2.1, 8, .inl fc)), ((a 5), .inl (E.2.2.1, 96, .inl fb)), ((a 6), .inr (0, [.ref (a 7), .int (nI M)])), ((a 7), .inl (E.2.2.1, 360, .inl g))] (some (.int (zTR fb g M vw fc uc r))) := by
  refine zM.of kX4_totalOfRow (Nat.le_of_ble_eq_true rfl) rfl [some (.ref (a 0)), some (.int vw), some (.int r), none, none, none] rfl (Nat.le_of_ble_eq_true rfl) ?_
  intro X eX C N
  subst eX
  refine z_iconst C (nI 0) dX4_totalOfRow_0 (by decide) ?_
  refine z_istore_n C 3 dX4_totalOfRow_1 rfl (Nat.le_of_ble_eq_true rfl) ?_
  refine z_iconst C (nI 0) dX4_totalOfRow_2 (by decide) ?_
  refine z_istore C dX4_totalOfRow_3 (Nat.le_of_ble_eq_true rfl) ?_
  have hL5 : ∀ (dd : Nat) (k : Nat) (s9 : Int32), uc - k = dd → (k ≤ uc) → (s9 = zu (fun j => if pSh g M vw (nI 2) (nI 3) 4 (fc j) = true then zVV fb g M vw r (fc j) else 0) k) → zG X 0 0 [((a 0), .inr (4, [.ref (a 1), .ref (a 3), .ref (a 5), .ref (a 6), .int (zb tr)])), ((a 1), .inr (2, [.ref (a 2), .int (nI ur)])), ((a 2), .inl (X.2.1.2.2.1, 12, .inl fr)), ((a 3), .inr (2, [.ref (a 4), .int (nI uc)])), ((a 4), .inl (X.2.1.2.2.1, 8, .inl fc)), ((a 5), .inl (X.2.1.2.2.1, 96, .inl fb)), ((a 6), .inr (0, [.ref (a 7), .int (nI M)])), ((a 7), .inl (X.2.1.2.2.1, 360, .inl g))] [some (.ref (a 0)), some (.int vw), some (.int r), some (.int s9), some (.int (nI k)), none] [] 5 := by
    intro dd
    induction dd using Nat.strongRecOn with
    | _ dd ih5 =>
    intro k s9 hdd hk hs
    refine z_iload C dX4_totalOfRow_5 rfl ?_
    refine z_aload_n C 0 dX4_totalOfRow_7 rfl rfl ?_
    refine z_get C fX4_totalOfRow_20 0 dX4_totalOfRow_8 rfl rfl ?_
    refine z_get C fX4_totalOfRow_64 3 dX4_totalOfRow_11 rfl rfl ?_
    refine z_ncmp_ge C 56 dX4_totalOfRow_14 (by decide) (by omega) (by omega) (fun h_1 => ?_) (fun h_1 => ?_)
    · refine z_iload_n C 3 dX4_totalOfRow_56 rfl rfl ?_
      exact z_iret C N dX4_totalOfRow_57 (rfl) (by rw [hs, show k = uc by omega]; rfl)
    · refine z_aload_n C 0 dX4_totalOfRow_17 rfl rfl ?_
      refine z_get C fX4_totalOfRow_20 0 dX4_totalOfRow_18 rfl rfl ?_
      refine z_iload C dX4_totalOfRow_21 rfl ?_
      refine z_callVr C kX2_slotAt gX4_totalOfRow_X2_slotAt (mX2_slotAt_in X.2.1 (a 3) (a 4) 8 fc uc k (by first | assumption | omega) huc h_1) dX4_totalOfRow_23 [3, 4] [] 3 rfl nd_3_4 rfl rfl rfl (by decide) (by decide) (Nat.le_of_ble_eq_true rfl) rfl ?_
      refine z_istore C dX4_totalOfRow_26 (Nat.le_of_ble_eq_true rfl) ?_
      refine z_aload_n C 0 dX4_totalOfRow_28 rfl rfl ?_
      refine z_iload_n C 1 dX4_totalOfRow_29 rfl rfl ?_
      refine z_iconst C (nI 1) dX4_totalOfRow_30 (by decide) ?_
      refine z_iload C dX4_totalOfRow_31 rfl ?_
      refine z_callVr C kX4_isShown gX4_totalOfRow_X4_isShown (mX4_isShown_c X.2.1 a fr ur fc uc fb g M tr vw (fc k) hur huc hM) dX4_totalOfRow_33 [0, 1, 2, 3, 4, 5, 6, 7] [] 0 rfl nd_0_1_2_3_4_5_6_7 rfl rfl rfl (by decide) (by decide) (Nat.le_of_ble_eq_true rfl) rfl ?_
      refine z_bif_eq C 50 dX4_totalOfRow_36 (by decide) (fun h_2 => ?_) (fun h_2 => ?_)
      · refine z_iinc C (nI (k + 1)) dX4_totalOfRow_50 rfl (zi_1 _) ?_
        refine z_goto C 5 dX4_totalOfRow_53 (by decide) ?_
        refine z_kill 5 ?_
        exact ih5 (uc - (k + 1)) (by omega) (k + 1) s9 rfl (by omega) (by subst hs; simp [zu, h_1, h_2])
      · refine z_iload_n C 3 dX4_totalOfRow_39 rfl rfl ?_
        refine z_aload_n C 0 dX4_totalOfRow_40 rfl rfl ?_
        refine z_iload_n C 1 dX4_totalOfRow_41 rfl rfl ?_
        refine z_iload_n C 2 dX4_totalOfRow_42 rfl rfl ?_
        refine z_iload C dX4_totalOfRow_43 rfl ?_
        refine z_callVr C kX4_valueInView gX4_totalOfRow_X4_valueInView (mX4_valueInView X.2.1 a fr ur fc uc fb g M tr vw r (fc k) hur huc hM) dX4_totalOfRow_45 [0, 1, 2, 3, 4, 5, 6, 7] [.int s9] 0 rfl nd_0_1_2_3_4_5_6_7 rfl rfl rfl (by decide) (by decide) (Nat.le_of_ble_eq_true rfl) rfl ?_
        refine z_iadd C dX4_totalOfRow_48 ?_
        refine z_istore_n C 3 dX4_totalOfRow_49 rfl (Nat.le_of_ble_eq_true rfl) ?_
        refine z_iinc C (nI (k + 1)) dX4_totalOfRow_50 rfl (zi_1 _) ?_
        refine z_goto C 5 dX4_totalOfRow_53 (by decide) ?_
        refine z_kill 5 ?_
        exact ih5 (uc - (k + 1)) (by omega) (k + 1) (s9 + (zVV fb g M vw r (fc k))) rfl (by omega) (by subst hs; simp [zu, h_1, h_2])
  exact hL5 _ 0 (nI 0) rfl (by omega) (rfl)

theorem kX4_total : zY yX4_total wsX4_total cX4_total 5 (some .int) 1 := ⟨⟨_, rfl⟩, ⟨by decide +kernel, by decide +kernel, by decide +kernel⟩, by decide +kernel⟩
theorem fX4_total_14 : zF wsX4_total RX4 14 4 0 RX4 TX4 5 := ⟨by decide +kernel, rfl, by decide, by decide +kernel, rfl⟩
theorem fX4_total_64 : zF wsX4_total RX4 64 2 1 RX2 TX2 2 := ⟨by decide +kernel, rfl, by decide, by decide +kernel, rfl⟩
set_option maxHeartbeats 4000000 in
set_option maxRecDepth 100000 in
theorem mX4_total (E : zE) (a : Nat → Nat) (fr : Nat → Int32) (ur : Nat) (fc : Nat → Int32) (uc : Nat) (fb g : Nat → Int32) (M : Nat) (tr : Bool) (vw : Int32) (hur : ur ≤ 12) (huc : uc ≤ 8) (hM : M ≤ 60) : zM E yX4_total wsX4_total 5 [.ref (a 0), .int vw] [((a 0), .inr (4, [.ref (a 1), .ref (a 3), .ref (a 5), .ref (a 6), .int (zb tr)])), ((a 1), .inr (2, [.ref (a 2), .int (nI ur)])), ((a 2), .inl (E.2.2.1, 12, .inl fr)), ((a 3), .inr (2, [.ref (a 4), .int (nI uc)])), ((a 4), .inl (E.2.2.1, 8, .inl fc)), ((a 5), .inl (E.2.2.1, 96, .inl fb)), ((a 6), .inr (0, [.ref (a 7), .int (nI M)])), ((a 7), .inl (E.2.2.1, 360, .inl g))] [((a 0), .inr (4, [.ref (a 1), .ref (a 3), .ref (a 5), .ref (a 6), .int (zb tr)])), ((a 1), .inr (2, [.ref (a 2), .int (nI ur)])), ((a 2), .inl (E.2.2.1, 12, .inl fr)), ((a 3), .inr (2, [.ref (a 4), .int (nI uc)])), ((a 4), .inl (E.2.2.1, 8, .inl fc)), ((a 5), .inl (E.2.2.1, 96, .inl fb)), ((a 6), .inr (0, [.ref (a 7), .int (nI M)])), ((a 7), .inl (E.2.2.1, 360, .inl g))] (some (.int (zTot fb g M vw fr ur fc uc))) := by
  refine zM.of kX4_total (Nat.le_of_ble_eq_true rfl) rfl [some (.ref (a 0)), some (.int vw), none, none, none] rfl (Nat.le_of_ble_eq_true rfl) ?_
  intro X eX C N
  subst eX
  refine z_iconst C (nI 0) dX4_total_0 (by decide) ?_
  refine z_istore_n C 2 dX4_total_1 rfl (Nat.le_of_ble_eq_true rfl) ?_
  refine z_iconst C (nI 0) dX4_total_2 (by decide) ?_
  refine z_istore_n C 3 dX4_total_3 rfl (Nat.le_of_ble_eq_true rfl) ?_
  have hL4 : ∀ (dd : Nat) (k : Nat) (s9 : Int32), ur - k = dd → (k ≤ ur) → (s9 = zu (fun i => if pSh g M vw (nI 0) (nI 1) 3 (fr i) = true then zTR fb g M vw fc uc (fr i) else 0) k) → zG X 0 0 [((a 0), .inr (4, [.ref (a 1), .ref (a 3), .ref (a 5), .ref (a 6), .int (zb tr)])), ((a 1), .inr (2, [.ref (a 2), .int (nI ur)])), ((a 2), .inl (X.2.1.2.2.1, 12, .inl fr)), ((a 3), .inr (2, [.ref (a 4), .int (nI uc)])), ((a 4), .inl (X.2.1.2.2.1, 8, .inl fc)), ((a 5), .inl (X.2.1.2.2.1, 96, .inl fb)), ((a 6), .inr (0, [.ref (a 7), .int (nI M)])), ((a 7), .inl (X.2.1.2.2.1, 360, .inl g))] [some (.ref (a 0)), some (.int vw), some (.int s9), some (.int (nI k)), none] [] 4 := by
    intro dd
    induction dd using Nat.strongRecOn with
    | _ dd ih4 =>
    intro k s9 hdd hk hs
    refine z_iload_n C 3 dX4_total_4 rfl rfl ?_
    refine z_aload_n C 0 dX4_total_5 rfl rfl ?_
    refine z_get C fX4_total_14 0 dX4_total_6 rfl rfl ?_
    refine z_get C fX4_total_64 1 dX4_total_9 rfl rfl ?_
    refine z_ncmp_ge C 52 dX4_total_12 (by decide) (by omega) (by omega) (fun h_1 => ?_) (fun h_1 => ?_)
    · refine z_iload_n C 2 dX4_total_52 rfl rfl ?_
      exact z_iret C N dX4_total_53 (rfl) (by rw [hs, show k = ur by omega]; rfl)
    · refine z_aload_n C 0 dX4_total_15 rfl rfl ?_
      refine z_get C fX4_total_14 0 dX4_total_16 rfl rfl ?_
      refine z_iload_n C 3 dX4_total_19 rfl rfl ?_
      refine z_callVr C kX2_slotAt gX4_total_X2_slotAt (mX2_slotAt_in X.2.1 (a 1) (a 2) 12 fr ur k (by first | assumption | omega) hur h_1) dX4_total_20 [1, 2] [] 1 rfl nd_1_2 rfl rfl rfl (by decide) (by decide) (Nat.le_of_ble_eq_true rfl) rfl ?_
      refine z_istore C dX4_total_23 (Nat.le_of_ble_eq_true rfl) ?_
      refine z_aload_n C 0 dX4_total_25 rfl rfl ?_
      refine z_iload_n C 1 dX4_total_26 rfl rfl ?_
      refine z_iconst C (nI 0) dX4_total_27 (by decide) ?_
      refine z_iload C dX4_total_28 rfl ?_
      refine z_callVr C kX4_isShown gX4_total_X4_isShown (mX4_isShown_r X.2.1 a fr ur fc uc fb g M tr vw (fr k) hur huc hM) dX4_total_30 [0, 1, 2, 3, 4, 5, 6, 7] [] 0 rfl nd_0_1_2_3_4_5_6_7 rfl rfl rfl (by decide) (by decide) (Nat.le_of_ble_eq_true rfl) rfl ?_
      refine z_bif_eq C 46 dX4_total_33 (by decide) (fun h_2 => ?_) (fun h_2 => ?_)
      · refine z_iinc C (nI (k + 1)) dX4_total_46 rfl (zi_1 _) ?_
        refine z_goto C 4 dX4_total_49 (by decide) ?_
        refine z_kill 4 ?_
        exact ih4 (ur - (k + 1)) (by omega) (k + 1) s9 rfl (by omega) (by subst hs; simp [zu, h_1, h_2])
      · refine z_iload_n C 2 dX4_total_36 rfl rfl ?_
        refine z_aload_n C 0 dX4_total_37 rfl rfl ?_
        refine z_iload_n C 1 dX4_total_38 rfl rfl ?_
        refine z_iload C dX4_total_39 rfl ?_
        refine z_callVr C kX4_totalOfRow gX4_total_X4_totalOfRow (mX4_totalOfRow X.2.1 a fr ur fc uc fb g M tr vw (fr k) hur huc hM) dX4_total_41 [0, 1, 2, 3, 4, 5, 6, 7] [.int s9] 0 rfl nd_0_1_2_3_4_5_6_7 rfl rfl rfl (by decide) (by decide) (Nat.le_of_ble_eq_true rfl) rfl ?_
        refine z_iadd C dX4_total_44 ?_
        refine z_istore_n C 2 dX4_total_45 rfl (Nat.le_of_ble_eq_true rfl) ?_
        refine z_iinc C (nI (k + 1)) dX4_total_46 rfl (zi_1 _) ?_
        refine z_goto C 4 dX4_total_49 (by decide) ?_
        refine z_kill 4 ?_
        exact ih4 (ur - (k + 1)) (by omega) (k + 1) (s9 + (zTR fb g M vw fc uc (fr k))) rfl (by omega) (by subst hs; simp [zu, h_1, h_2])
  exact hL4 _ 0 (nI 0) rfl (by omega) (rfl)

theorem kX4_lineChanges : zY yX4_lineChanges wsX4_lineChanges cX4_lineChanges 2 (some .int) 1 := ⟨⟨_, rfl⟩, ⟨by decide +kernel, by decide +kernel, by decide +kernel⟩, by decide +kernel⟩
theorem fX4_lineChanges_30 : zF wsX4_lineChanges RX4 30 4 3 RX4 TX4 5 := ⟨by decide +kernel, rfl, by decide, by decide +kernel, rfl⟩
set_option maxHeartbeats 4000000 in
set_option maxRecDepth 100000 in
theorem mX4_lineChanges_r (E : zE) (a : Nat → Nat) (fr : Nat → Int32) (ur : Nat) (fc : Nat → Int32) (uc : Nat) (fb g : Nat → Int32) (M : Nat) (tr : Bool)  (hur : ur ≤ 12) (huc : uc ≤ 8) (hM : M ≤ 60) : zM E yX4_lineChanges wsX4_lineChanges 3 [.ref (a 0), .int (nI 0)] [((a 0), .inr (4, [.ref (a 1), .ref (a 3), .ref (a 5), .ref (a 6), .int (zb tr)])), ((a 1), .inr (2, [.ref (a 2), .int (nI ur)])), ((a 2), .inl (E.2.2.1, 12, .inl fr)), ((a 3), .inr (2, [.ref (a 4), .int (nI uc)])), ((a 4), .inl (E.2.2.1, 8, .inl fc)), ((a 5), .inl (E.2.2.1, 96, .inl fb)), ((a 6), .inr (0, [.ref (a 7), .int (nI M)])), ((a 7), .inl (E.2.2.1, 360, .inl g))] [((a 0), .inr (4, [.ref (a 1), .ref (a 3), .ref (a 5), .ref (a 6), .int (zb tr)])), ((a 1), .inr (2, [.ref (a 2), .int (nI ur)])), ((a 2), .inl (E.2.2.1, 12, .inl fr)), ((a 3), .inr (2, [.ref (a 4), .int (nI uc)])), ((a 4), .inl (E.2.2.1, 8, .inl fc)), ((a 5), .inl (E.2.2.1, 96, .inl fb)), ((a 6), .inr (0, [.ref (a 7), .int (nI M)])), ((a 7), .inl (E.2.2.1, 360, .inl g))] (some (.int (nI (zc (pPO g (nI 0)) M + zc (pPO g (nI 1)) M)))) := by
  refine zM.of kX4_lineChanges (Nat.le_of_ble_eq_true rfl) rfl [some (.ref (a 0)), some (.int (nI 0))] rfl (Nat.le_of_ble_eq_true rfl) ?_
  intro X eX C N
  subst eX
  refine z_iload_n C 1 dX4_lineChanges_0 rfl rfl ?_
  refine z_nif_ne_f C 22 dX4_lineChanges_1 (by decide) (by omega) (by omega) ?_
  refine z_aload_n C 0 dX4_lineChanges_4 rfl rfl ?_
  refine z_get C fX4_lineChanges_30 0 dX4_lineChanges_5 rfl rfl ?_
  refine z_iconst C (nI 0) dX4_lineChanges_8 (by decide) ?_
  refine z_callVr C kX0_pendingOf gX4_lineChanges_X0_pendingOf (mX0_pendingOf X.2.1 (a 6) (a 7) g M (nI 0) hM) dX4_lineChanges_9 [6, 7] [] 6 rfl nd_6_7 rfl rfl rfl (by decide) (by decide) (Nat.le_of_ble_eq_true rfl) rfl ?_
  refine z_aload_n C 0 dX4_lineChanges_12 rfl rfl ?_
  refine z_get C fX4_lineChanges_30 0 dX4_lineChanges_13 rfl rfl ?_
  refine z_iconst C (nI 1) dX4_lineChanges_16 (by decide) ?_
  refine z_callVr C kX0_pendingOf gX4_lineChanges_X0_pendingOf (mX0_pendingOf X.2.1 (a 6) (a 7) g M (nI 1) hM) dX4_lineChanges_17 [6, 7] [.int (nI (zc (pPO g (nI 0)) M))] 6 rfl nd_6_7 rfl rfl rfl (by decide) (by decide) (Nat.le_of_ble_eq_true rfl) rfl ?_
  refine z_iadd C dX4_lineChanges_20 ?_
  refine z_top (y := nI ((zc (pPO g (nI 0)) M) + (zc (pPO g (nI 1)) M))) (nI_add _ _) ?_
  exact z_iret C N dX4_lineChanges_21 (rfl) (rfl)

theorem kX4_lineChangeAt : zY yX4_lineChangeAt wsX4_lineChangeAt cX4_lineChangeAt 9 (some .int) 2 := ⟨⟨_, rfl⟩, ⟨by decide +kernel, by decide +kernel, by decide +kernel⟩, by decide +kernel⟩
theorem fX4_lineChangeAt_64 : zF wsX4_lineChangeAt RX4 64 2 1 RX2 TX2 2 := ⟨by decide +kernel, rfl, by decide, by decide +kernel, rfl⟩
theorem fX4_lineChangeAt_30 : zF wsX4_lineChangeAt RX4 30 4 3 RX4 TX4 5 := ⟨by decide +kernel, rfl, by decide, by decide +kernel, rfl⟩
set_option maxHeartbeats 4000000 in
set_option maxRecDepth 100000 in
theorem mX4_lineChangeAt_r (E : zE) (a : Nat → Nat) (fr : Nat → Int32) (ur : Nat) (fc : Nat → Int32) (uc : Nat) (fb g : Nat → Int32) (M : Nat) (tr : Bool) (pl : Nat) (hur : ur ≤ 12) (huc : uc ≤ 8) (hM : M ≤ 60) (hpl : pl < 2147483648) : zM E yX4_lineChangeAt wsX4_lineChangeAt 3 [.ref (a 0), .int (nI 0), .int (nI pl)] [((a 0), .inr (4, [.ref (a 1), .ref (a 3), .ref (a 5), .ref (a 6), .int (zb tr)])), ((a 1), .inr (2, [.ref (a 2), .int (nI ur)])), ((a 2), .inl (E.2.2.1, 12, .inl fr)), ((a 3), .inr (2, [.ref (a 4), .int (nI uc)])), ((a 4), .inl (E.2.2.1, 8, .inl fc)), ((a 5), .inl (E.2.2.1, 96, .inl fb)), ((a 6), .inr (0, [.ref (a 7), .int (nI M)])), ((a 7), .inl (E.2.2.1, 360, .inl g))] [((a 0), .inr (4, [.ref (a 1), .ref (a 3), .ref (a 5), .ref (a 6), .int (zb tr)])), ((a 1), .inr (2, [.ref (a 2), .int (nI ur)])), ((a 2), .inl (E.2.2.1, 12, .inl fr)), ((a 3), .inr (2, [.ref (a 4), .int (nI uc)])), ((a 4), .inl (E.2.2.1, 8, .inl fc)), ((a 5), .inl (E.2.2.1, 96, .inl fb)), ((a 6), .inr (0, [.ref (a 7), .int (nI M)])), ((a 7), .inl (E.2.2.1, 360, .inl g))] (some (.int ((zRL (fun i => zf (pLn g (nI 0) 3 (fr i)) M) (fun i => zf (pLn g (nI 1) 3 (fr i)) M) ur).getD pl (-5)))) := by
  refine zM.of kX4_lineChangeAt (Nat.le_of_ble_eq_true rfl) rfl [some (.ref (a 0)), some (.int (nI 0)), some (.int (nI pl)), none, none, none, none, none, none] rfl (Nat.le_of_ble_eq_true rfl) ?_
  intro X eX C N
  subst eX
  refine z_aload_n C 0 dX4_lineChangeAt_0 rfl rfl ?_
  refine z_iload_n C 1 dX4_lineChangeAt_1 rfl rfl ?_
  refine z_callVr C kX4_linesOf gX4_lineChangeAt_X4_linesOf (mX4_linesOf_r X.2.1 a fr ur fc uc fb g M tr hur huc hM) dX4_lineChangeAt_2 [0, 1, 2, 3, 4, 5, 6, 7] [] 0 rfl nd_0_1_2_3_4_5_6_7 rfl rfl rfl (by decide) (by decide) (Nat.le_of_ble_eq_true rfl) rfl ?_
  refine z_astore_n C 3 dX4_lineChangeAt_5 rfl (Nat.le_of_ble_eq_true rfl) ?_
  refine z_iload_n C 2 dX4_lineChangeAt_6 rfl rfl ?_
  refine z_istore C dX4_lineChangeAt_7 (Nat.le_of_ble_eq_true rfl) ?_
  refine z_iconst C (nI 0) dX4_lineChangeAt_9 (by decide) ?_
  refine z_istore C dX4_lineChangeAt_10 (Nat.le_of_ble_eq_true rfl) ?_
  have hL12 : ∀ (dd : Nat) (k : Nat) (l9 : Nat), ur - k = dd → (k ≤ ur) → (l9 + (zRL (fun i => zf (pLn g (nI 0) 3 (fr i)) M) (fun i => zf (pLn g (nI 1) 3 (fr i)) M) k).length = pl) → (l9 ≤ pl) → zG X 0 0 [((a 0), .inr (4, [.ref (a 1), .ref (a 3), .ref (a 5), .ref (a 6), .int (zb tr)])), ((a 1), .inr (2, [.ref (a 2), .int (nI ur)])), ((a 2), .inl (X.2.1.2.2.1, 12, .inl fr)), ((a 3), .inr (2, [.ref (a 4), .int (nI uc)])), ((a 4), .inl (X.2.1.2.2.1, 8, .inl fc)), ((a 5), .inl (X.2.1.2.2.1, 96, .inl fb)), ((a 6), .inr (0, [.ref (a 7), .int (nI M)])), ((a 7), .inl (X.2.1.2.2.1, 360, .inl g))] [some (.ref (a 0)), some (.int (nI 0)), some (.int (nI pl)), some (.ref (a 1)), some (.int (nI l9)), some (.int (nI k)), none, none, none] [] 12 := by
    intro dd
    induction dd using Nat.strongRecOn with
    | _ dd ih12 =>
    intro k l9 hdd hk hl hlb
    refine z_iload C dX4_lineChangeAt_12 rfl ?_
    refine z_aload_n C 3 dX4_lineChangeAt_14 rfl rfl ?_
    refine z_get C fX4_lineChangeAt_64 1 dX4_lineChangeAt_15 rfl rfl ?_
    refine z_ncmp_ge C 91 dX4_lineChangeAt_18 (by decide) (by omega) (by omega) (fun h_1 => ?_) (fun h_1 => ?_)
    · refine z_bipush C (-5) dX4_lineChangeAt_91 (by decide) ?_
      exact z_iret C N dX4_lineChangeAt_93 (rfl) (by rw [show k = ur by omega] at hl; simp only [List.getD_eq_getElem?_getD]; rw [List.getElem?_eq_none (by omega)]; rfl)
    · refine z_aload_n C 3 dX4_lineChangeAt_21 rfl rfl ?_
      refine z_iload C dX4_lineChangeAt_22 rfl ?_
      refine z_callVr C kX2_slotAt gX4_lineChangeAt_X2_slotAt (mX2_slotAt_in X.2.1 (a 1) (a 2) 12 fr ur k (by first | assumption | omega) hur h_1) dX4_lineChangeAt_24 [1, 2] [] 1 rfl nd_1_2 rfl rfl rfl (by decide) (by decide) (Nat.le_of_ble_eq_true rfl) rfl ?_
      refine z_istore C dX4_lineChangeAt_27 (Nat.le_of_ble_eq_true rfl) ?_
      refine z_aload_n C 0 dX4_lineChangeAt_29 rfl rfl ?_
      refine z_get C fX4_lineChangeAt_30 0 dX4_lineChangeAt_30 rfl rfl ?_
      refine z_iload_n C 1 dX4_lineChangeAt_33 rfl rfl ?_
      refine z_iload C dX4_lineChangeAt_34 rfl ?_
      refine z_callVr C kX0_insertionOf gX4_lineChangeAt_X0_insertionOf (mX0_insertionOf_r X.2.1 (a 6) (a 7) g M (fr k) hM) dX4_lineChangeAt_36 [6, 7] [] 6 rfl nd_6_7 rfl rfl rfl (by decide) (by decide) (Nat.le_of_ble_eq_true rfl) rfl ?_
      refine z_istore C dX4_lineChangeAt_39 (Nat.le_of_ble_eq_true rfl) ?_
      refine z_iload C dX4_lineChangeAt_41 rfl ?_
      refine z_if_lt C 57 dX4_lineChangeAt_43 (by decide) (fun h_2 => ?_) (fun h_2 => ?_)
      · refine z_aload_n C 0 dX4_lineChangeAt_57 rfl rfl ?_
        refine z_get C fX4_lineChangeAt_30 0 dX4_lineChangeAt_58 rfl rfl ?_
        refine z_iload_n C 1 dX4_lineChangeAt_61 rfl rfl ?_
        refine z_iload C dX4_lineChangeAt_62 rfl ?_
        refine z_callVr C kX0_removalOf gX4_lineChangeAt_X0_removalOf (mX0_removalOf_r X.2.1 (a 6) (a 7) g M (fr k) hM) dX4_lineChangeAt_64 [6, 7] [] 6 rfl nd_6_7 rfl rfl rfl (by decide) (by decide) (Nat.le_of_ble_eq_true rfl) rfl ?_
        refine z_istore C dX4_lineChangeAt_67 (Nat.le_of_ble_eq_true rfl) ?_
        refine z_iload C dX4_lineChangeAt_69 rfl ?_
        refine z_if_lt C 85 dX4_lineChangeAt_71 (by decide) (fun h_3 => ?_) (fun h_3 => ?_)
        · refine z_iinc C (nI (k + 1)) dX4_lineChangeAt_85 rfl (zi_1 _) ?_
          refine z_goto C 12 dX4_lineChangeAt_88 (by decide) ?_
          refine z_kill 6 ?_
          refine z_kill 7 ?_
          refine z_kill 8 ?_
          exact ih12 (ur - (k + 1)) (by omega) (k + 1) l9 rfl (by omega) (by rw [zRL_len]; simp only [if_true, if_false, h_1, h_2, h_3]; omega) (by omega)
        · refine z_iload C dX4_lineChangeAt_74 rfl ?_
          refine z_nif_ne C 82 dX4_lineChangeAt_76 (by decide) (by omega) (fun h_4 => ?_) (fun h_4 => ?_)
          · refine z_iinc C (nI (l9 - 1)) dX4_lineChangeAt_82 rfl (zi_p (by omega)) ?_
            refine z_iinc C (nI (k + 1)) dX4_lineChangeAt_85 rfl (zi_1 _) ?_
            refine z_goto C 12 dX4_lineChangeAt_88 (by decide) ?_
            refine z_kill 6 ?_
            refine z_kill 7 ?_
            refine z_kill 8 ?_
            exact ih12 (ur - (k + 1)) (by omega) (k + 1) (l9 - 1) rfl (by omega) (by rw [zRL_len]; simp only [if_true, if_false, h_1, h_2, Int32.not_lt.mp h_3, h_3, h_4]; omega) (by omega)
          · refine z_iload C dX4_lineChangeAt_79 rfl ?_
            exact z_iret C N dX4_lineChangeAt_81 (rfl) (congrArg (fun x => some (Value.int x)) (zRL_R (I := (fun i => zf (pLn g (nI 0) 3 (fr i)) M)) (R := (fun i => zf (pLn g (nI 1) 3 (fr i)) M)) (by omega) (by simp only [if_true, if_false, h_1, h_2, Int32.not_lt.mp h_3, h_3, h_4]; omega) (by simp only [not_false_eq_true, h_1, h_2, Int32.not_lt.mp h_3, h_3, h_4])).symm)
      · refine z_iload C dX4_lineChangeAt_46 rfl ?_
        refine z_nif_ne C 54 dX4_lineChangeAt_48 (by decide) (by omega) (fun h_5 => ?_) (fun h_5 => ?_)
        · refine z_iinc C (nI (l9 - 1)) dX4_lineChangeAt_54 rfl (zi_p (by omega)) ?_
          refine z_aload_n C 0 dX4_lineChangeAt_57 rfl rfl ?_
          refine z_get C fX4_lineChangeAt_30 0 dX4_lineChangeAt_58 rfl rfl ?_
          refine z_iload_n C 1 dX4_lineChangeAt_61 rfl rfl ?_
          refine z_iload C dX4_lineChangeAt_62 rfl ?_
          refine z_callVr C kX0_removalOf gX4_lineChangeAt_X0_removalOf (mX0_removalOf_r X.2.1 (a 6) (a 7) g M (fr k) hM) dX4_lineChangeAt_64 [6, 7] [] 6 rfl nd_6_7 rfl rfl rfl (by decide) (by decide) (Nat.le_of_ble_eq_true rfl) rfl ?_
          refine z_istore C dX4_lineChangeAt_67 (Nat.le_of_ble_eq_true rfl) ?_
          refine z_iload C dX4_lineChangeAt_69 rfl ?_
          refine z_if_lt C 85 dX4_lineChangeAt_71 (by decide) (fun h_6 => ?_) (fun h_6 => ?_)
          · refine z_iinc C (nI (k + 1)) dX4_lineChangeAt_85 rfl (zi_1 _) ?_
            refine z_goto C 12 dX4_lineChangeAt_88 (by decide) ?_
            refine z_kill 6 ?_
            refine z_kill 7 ?_
            refine z_kill 8 ?_
            exact ih12 (ur - (k + 1)) (by omega) (k + 1) (l9 - 1) rfl (by omega) (by rw [zRL_len]; simp only [if_true, if_false, h_1, Int32.not_lt.mp h_2, h_2, h_5, h_6]; omega) (by omega)
          · refine z_iload C dX4_lineChangeAt_74 rfl ?_
            refine z_nif_ne C 82 dX4_lineChangeAt_76 (by decide) (by omega) (fun h_7 => ?_) (fun h_7 => ?_)
            · refine z_iinc C (nI ((l9 - 1) - 1)) dX4_lineChangeAt_82 rfl (zi_p (by omega)) ?_
              refine z_iinc C (nI (k + 1)) dX4_lineChangeAt_85 rfl (zi_1 _) ?_
              refine z_goto C 12 dX4_lineChangeAt_88 (by decide) ?_
              refine z_kill 6 ?_
              refine z_kill 7 ?_
              refine z_kill 8 ?_
              exact ih12 (ur - (k + 1)) (by omega) (k + 1) ((l9 - 1) - 1) rfl (by omega) (by rw [zRL_len]; simp only [if_true, if_false, h_1, Int32.not_lt.mp h_2, h_2, h_5, Int32.not_lt.mp h_6, h_6, h_7]; omega) (by omega)
            · refine z_iload C dX4_lineChangeAt_79 rfl ?_
              exact z_iret C N dX4_lineChangeAt_81 (rfl) (congrArg (fun x => some (Value.int x)) (zRL_R (I := (fun i => zf (pLn g (nI 0) 3 (fr i)) M)) (R := (fun i => zf (pLn g (nI 1) 3 (fr i)) M)) (by omega) (by simp only [if_true, if_false, h_1, Int32.not_lt.mp h_2, h_2, h_5, Int32.not_lt.mp h_6, h_6, h_7]; omega) (by simp only [not_false_eq_true, h_1, Int32.not_lt.mp h_2, h_2, h_5, Int32.not_lt.mp h_6, h_6, h_7])).symm)
        · refine z_iload C dX4_lineChangeAt_51 rfl ?_
          exact z_iret C N dX4_lineChangeAt_53 (rfl) (congrArg (fun x => some (Value.int x)) (zRL_I (I := (fun i => zf (pLn g (nI 0) 3 (fr i)) M)) (R := (fun i => zf (pLn g (nI 1) 3 (fr i)) M)) (by omega) (by omega) (by simp only [not_false_eq_true, h_1, Int32.not_lt.mp h_2, h_2, h_5])).symm)
  exact hL12 _ 0 pl rfl (by omega) (by simp [zRL]) (by omega)

set_option maxHeartbeats 4000000 in
set_option maxRecDepth 100000 in
theorem mX4_lineChanges_c (E : zE) (a : Nat → Nat) (fr : Nat → Int32) (ur : Nat) (fc : Nat → Int32) (uc : Nat) (fb g : Nat → Int32) (M : Nat) (tr : Bool)  (hur : ur ≤ 12) (huc : uc ≤ 8) (hM : M ≤ 60) : zM E yX4_lineChanges wsX4_lineChanges 3 [.ref (a 0), .int (nI 1)] [((a 0), .inr (4, [.ref (a 1), .ref (a 3), .ref (a 5), .ref (a 6), .int (zb tr)])), ((a 1), .inr (2, [.ref (a 2), .int (nI ur)])), ((a 2), .inl (E.2.2.1, 12, .inl fr)), ((a 3), .inr (2, [.ref (a 4), .int (nI uc)])), ((a 4), .inl (E.2.2.1, 8, .inl fc)), ((a 5), .inl (E.2.2.1, 96, .inl fb)), ((a 6), .inr (0, [.ref (a 7), .int (nI M)])), ((a 7), .inl (E.2.2.1, 360, .inl g))] [((a 0), .inr (4, [.ref (a 1), .ref (a 3), .ref (a 5), .ref (a 6), .int (zb tr)])), ((a 1), .inr (2, [.ref (a 2), .int (nI ur)])), ((a 2), .inl (E.2.2.1, 12, .inl fr)), ((a 3), .inr (2, [.ref (a 4), .int (nI uc)])), ((a 4), .inl (E.2.2.1, 8, .inl fc)), ((a 5), .inl (E.2.2.1, 96, .inl fb)), ((a 6), .inr (0, [.ref (a 7), .int (nI M)])), ((a 7), .inl (E.2.2.1, 360, .inl g))] (some (.int (nI (zc (pPO g (nI 2)) M + zc (pPO g (nI 3)) M)))) := by
  refine zM.of kX4_lineChanges (Nat.le_of_ble_eq_true rfl) rfl [some (.ref (a 0)), some (.int (nI 1))] rfl (Nat.le_of_ble_eq_true rfl) ?_
  intro X eX C N
  subst eX
  refine z_iload_n C 1 dX4_lineChanges_0 rfl rfl ?_
  refine z_nif_ne_t C 22 dX4_lineChanges_1 (by decide) (by omega) (by omega) ?_
  refine z_aload_n C 0 dX4_lineChanges_22 rfl rfl ?_
  refine z_get C fX4_lineChanges_30 0 dX4_lineChanges_23 rfl rfl ?_
  refine z_iconst C (nI 2) dX4_lineChanges_26 (by decide) ?_
  refine z_callVr C kX0_pendingOf gX4_lineChanges_X0_pendingOf (mX0_pendingOf X.2.1 (a 6) (a 7) g M (nI 2) hM) dX4_lineChanges_27 [6, 7] [] 6 rfl nd_6_7 rfl rfl rfl (by decide) (by decide) (Nat.le_of_ble_eq_true rfl) rfl ?_
  refine z_aload_n C 0 dX4_lineChanges_30 rfl rfl ?_
  refine z_get C fX4_lineChanges_30 0 dX4_lineChanges_31 rfl rfl ?_
  refine z_iconst C (nI 3) dX4_lineChanges_34 (by decide) ?_
  refine z_callVr C kX0_pendingOf gX4_lineChanges_X0_pendingOf (mX0_pendingOf X.2.1 (a 6) (a 7) g M (nI 3) hM) dX4_lineChanges_35 [6, 7] [.int (nI (zc (pPO g (nI 2)) M))] 6 rfl nd_6_7 rfl rfl rfl (by decide) (by decide) (Nat.le_of_ble_eq_true rfl) rfl ?_
  refine z_iadd C dX4_lineChanges_38 ?_
  refine z_top (y := nI ((zc (pPO g (nI 2)) M) + (zc (pPO g (nI 3)) M))) (nI_add _ _) ?_
  exact z_iret C N dX4_lineChanges_39 (rfl) (rfl)

set_option maxHeartbeats 4000000 in
set_option maxRecDepth 100000 in
theorem mX4_lineChangeAt_c (E : zE) (a : Nat → Nat) (fr : Nat → Int32) (ur : Nat) (fc : Nat → Int32) (uc : Nat) (fb g : Nat → Int32) (M : Nat) (tr : Bool) (pl : Nat) (hur : ur ≤ 12) (huc : uc ≤ 8) (hM : M ≤ 60) (hpl : pl < 2147483648) : zM E yX4_lineChangeAt wsX4_lineChangeAt 3 [.ref (a 0), .int (nI 1), .int (nI pl)] [((a 0), .inr (4, [.ref (a 1), .ref (a 3), .ref (a 5), .ref (a 6), .int (zb tr)])), ((a 1), .inr (2, [.ref (a 2), .int (nI ur)])), ((a 2), .inl (E.2.2.1, 12, .inl fr)), ((a 3), .inr (2, [.ref (a 4), .int (nI uc)])), ((a 4), .inl (E.2.2.1, 8, .inl fc)), ((a 5), .inl (E.2.2.1, 96, .inl fb)), ((a 6), .inr (0, [.ref (a 7), .int (nI M)])), ((a 7), .inl (E.2.2.1, 360, .inl g))] [((a 0), .inr (4, [.ref (a 1), .ref (a 3), .ref (a 5), .ref (a 6), .int (zb tr)])), ((a 1), .inr (2, [.ref (a 2), .int (nI ur)])), ((a 2), .inl (E.2.2.1, 12, .inl fr)), ((a 3), .inr (2, [.ref (a 4), .int (nI uc)])), ((a 4), .inl (E.2.2.1, 8, .inl fc)), ((a 5), .inl (E.2.2.1, 96, .inl fb)), ((a 6), .inr (0, [.ref (a 7), .int (nI M)])), ((a 7), .inl (E.2.2.1, 360, .inl g))] (some (.int ((zRL (fun i => zf (pLn g (nI 2) 4 (fc i)) M) (fun i => zf (pLn g (nI 3) 4 (fc i)) M) uc).getD pl (-5)))) := by
  refine zM.of kX4_lineChangeAt (Nat.le_of_ble_eq_true rfl) rfl [some (.ref (a 0)), some (.int (nI 1)), some (.int (nI pl)), none, none, none, none, none, none] rfl (Nat.le_of_ble_eq_true rfl) ?_
  intro X eX C N
  subst eX
  refine z_aload_n C 0 dX4_lineChangeAt_0 rfl rfl ?_
  refine z_iload_n C 1 dX4_lineChangeAt_1 rfl rfl ?_
  refine z_callVr C kX4_linesOf gX4_lineChangeAt_X4_linesOf (mX4_linesOf_c X.2.1 a fr ur fc uc fb g M tr hur huc hM) dX4_lineChangeAt_2 [0, 1, 2, 3, 4, 5, 6, 7] [] 0 rfl nd_0_1_2_3_4_5_6_7 rfl rfl rfl (by decide) (by decide) (Nat.le_of_ble_eq_true rfl) rfl ?_
  refine z_astore_n C 3 dX4_lineChangeAt_5 rfl (Nat.le_of_ble_eq_true rfl) ?_
  refine z_iload_n C 2 dX4_lineChangeAt_6 rfl rfl ?_
  refine z_istore C dX4_lineChangeAt_7 (Nat.le_of_ble_eq_true rfl) ?_
  refine z_iconst C (nI 0) dX4_lineChangeAt_9 (by decide) ?_
  refine z_istore C dX4_lineChangeAt_10 (Nat.le_of_ble_eq_true rfl) ?_
  have hL12 : ∀ (dd : Nat) (k : Nat) (l9 : Nat), uc - k = dd → (k ≤ uc) → (l9 + (zRL (fun i => zf (pLn g (nI 2) 4 (fc i)) M) (fun i => zf (pLn g (nI 3) 4 (fc i)) M) k).length = pl) → (l9 ≤ pl) → zG X 0 0 [((a 0), .inr (4, [.ref (a 1), .ref (a 3), .ref (a 5), .ref (a 6), .int (zb tr)])), ((a 1), .inr (2, [.ref (a 2), .int (nI ur)])), ((a 2), .inl (X.2.1.2.2.1, 12, .inl fr)), ((a 3), .inr (2, [.ref (a 4), .int (nI uc)])), ((a 4), .inl (X.2.1.2.2.1, 8, .inl fc)), ((a 5), .inl (X.2.1.2.2.1, 96, .inl fb)), ((a 6), .inr (0, [.ref (a 7), .int (nI M)])), ((a 7), .inl (X.2.1.2.2.1, 360, .inl g))] [some (.ref (a 0)), some (.int (nI 1)), some (.int (nI pl)), some (.ref (a 3)), some (.int (nI l9)), some (.int (nI k)), none, none, none] [] 12 := by
    intro dd
    induction dd using Nat.strongRecOn with
    | _ dd ih12 =>
    intro k l9 hdd hk hl hlb
    refine z_iload C dX4_lineChangeAt_12 rfl ?_
    refine z_aload_n C 3 dX4_lineChangeAt_14 rfl rfl ?_
    refine z_get C fX4_lineChangeAt_64 3 dX4_lineChangeAt_15 rfl rfl ?_
    refine z_ncmp_ge C 91 dX4_lineChangeAt_18 (by decide) (by omega) (by omega) (fun h_1 => ?_) (fun h_1 => ?_)
    · refine z_bipush C (-5) dX4_lineChangeAt_91 (by decide) ?_
      exact z_iret C N dX4_lineChangeAt_93 (rfl) (by rw [show k = uc by omega] at hl; simp only [List.getD_eq_getElem?_getD]; rw [List.getElem?_eq_none (by omega)]; rfl)
    · refine z_aload_n C 3 dX4_lineChangeAt_21 rfl rfl ?_
      refine z_iload C dX4_lineChangeAt_22 rfl ?_
      refine z_callVr C kX2_slotAt gX4_lineChangeAt_X2_slotAt (mX2_slotAt_in X.2.1 (a 3) (a 4) 8 fc uc k (by first | assumption | omega) huc h_1) dX4_lineChangeAt_24 [3, 4] [] 3 rfl nd_3_4 rfl rfl rfl (by decide) (by decide) (Nat.le_of_ble_eq_true rfl) rfl ?_
      refine z_istore C dX4_lineChangeAt_27 (Nat.le_of_ble_eq_true rfl) ?_
      refine z_aload_n C 0 dX4_lineChangeAt_29 rfl rfl ?_
      refine z_get C fX4_lineChangeAt_30 0 dX4_lineChangeAt_30 rfl rfl ?_
      refine z_iload_n C 1 dX4_lineChangeAt_33 rfl rfl ?_
      refine z_iload C dX4_lineChangeAt_34 rfl ?_
      refine z_callVr C kX0_insertionOf gX4_lineChangeAt_X0_insertionOf (mX0_insertionOf_c X.2.1 (a 6) (a 7) g M (fc k) hM) dX4_lineChangeAt_36 [6, 7] [] 6 rfl nd_6_7 rfl rfl rfl (by decide) (by decide) (Nat.le_of_ble_eq_true rfl) rfl ?_
      refine z_istore C dX4_lineChangeAt_39 (Nat.le_of_ble_eq_true rfl) ?_
      refine z_iload C dX4_lineChangeAt_41 rfl ?_
      refine z_if_lt C 57 dX4_lineChangeAt_43 (by decide) (fun h_2 => ?_) (fun h_2 => ?_)
      · refine z_aload_n C 0 dX4_lineChangeAt_57 rfl rfl ?_
        refine z_get C fX4_lineChangeAt_30 0 dX4_lineChangeAt_58 rfl rfl ?_
        refine z_iload_n C 1 dX4_lineChangeAt_61 rfl rfl ?_
        refine z_iload C dX4_lineChangeAt_62 rfl ?_
        refine z_callVr C kX0_removalOf gX4_lineChangeAt_X0_removalOf (mX0_removalOf_c X.2.1 (a 6) (a 7) g M (fc k) hM) dX4_lineChangeAt_64 [6, 7] [] 6 rfl nd_6_7 rfl rfl rfl (by decide) (by decide) (Nat.le_of_ble_eq_true rfl) rfl ?_
        refine z_istore C dX4_lineChangeAt_67 (Nat.le_of_ble_eq_true rfl) ?_
        refine z_iload C dX4_lineChangeAt_69 rfl ?_
        refine z_if_lt C 85 dX4_lineChangeAt_71 (by decide) (fun h_3 => ?_) (fun h_3 => ?_)
        · refine z_iinc C (nI (k + 1)) dX4_lineChangeAt_85 rfl (zi_1 _) ?_
          refine z_goto C 12 dX4_lineChangeAt_88 (by decide) ?_
          refine z_kill 6 ?_
          refine z_kill 7 ?_
          refine z_kill 8 ?_
          exact ih12 (uc - (k + 1)) (by omega) (k + 1) l9 rfl (by omega) (by rw [zRL_len]; simp only [if_true, if_false, h_1, h_2, h_3]; omega) (by omega)
        · refine z_iload C dX4_lineChangeAt_74 rfl ?_
          refine z_nif_ne C 82 dX4_lineChangeAt_76 (by decide) (by omega) (fun h_4 => ?_) (fun h_4 => ?_)
          · refine z_iinc C (nI (l9 - 1)) dX4_lineChangeAt_82 rfl (zi_p (by omega)) ?_
            refine z_iinc C (nI (k + 1)) dX4_lineChangeAt_85 rfl (zi_1 _) ?_
            refine z_goto C 12 dX4_lineChangeAt_88 (by decide) ?_
            refine z_kill 6 ?_
            refine z_kill 7 ?_
            refine z_kill 8 ?_
            exact ih12 (uc - (k + 1)) (by omega) (k + 1) (l9 - 1) rfl (by omega) (by rw [zRL_len]; simp only [if_true, if_false, h_1, h_2, Int32.not_lt.mp h_3, h_3, h_4]; omega) (by omega)
          · refine z_iload C dX4_lineChangeAt_79 rfl ?_
            exact z_iret C N dX4_lineChangeAt_81 (rfl) (congrArg (fun x => some (Value.int x)) (zRL_R (I := (fun i => zf (pLn g (nI 2) 4 (fc i)) M)) (R := (fun i => zf (pLn g (nI 3) 4 (fc i)) M)) (by omega) (by simp only [if_true, if_false, h_1, h_2, Int32.not_lt.mp h_3, h_3, h_4]; omega) (by simp only [not_false_eq_true, h_1, h_2, Int32.not_lt.mp h_3, h_3, h_4])).symm)
      · refine z_iload C dX4_lineChangeAt_46 rfl ?_
        refine z_nif_ne C 54 dX4_lineChangeAt_48 (by decide) (by omega) (fun h_5 => ?_) (fun h_5 => ?_)
        · refine z_iinc C (nI (l9 - 1)) dX4_lineChangeAt_54 rfl (zi_p (by omega)) ?_
          refine z_aload_n C 0 dX4_lineChangeAt_57 rfl rfl ?_
          refine z_get C fX4_lineChangeAt_30 0 dX4_lineChangeAt_58 rfl rfl ?_
          refine z_iload_n C 1 dX4_lineChangeAt_61 rfl rfl ?_
          refine z_iload C dX4_lineChangeAt_62 rfl ?_
          refine z_callVr C kX0_removalOf gX4_lineChangeAt_X0_removalOf (mX0_removalOf_c X.2.1 (a 6) (a 7) g M (fc k) hM) dX4_lineChangeAt_64 [6, 7] [] 6 rfl nd_6_7 rfl rfl rfl (by decide) (by decide) (Nat.le_of_ble_eq_true rfl) rfl ?_
          refine z_istore C dX4_lineChangeAt_67 (Nat.le_of_ble_eq_true rfl) ?_
          refine z_iload C dX4_lineChangeAt_69 rfl ?_
          refine z_if_lt C 85 dX4_lineChangeAt_71 (by decide) (fun h_6 => ?_) (fun h_6 => ?_)
          · refine z_iinc C (nI (k + 1)) dX4_lineChangeAt_85 rfl (zi_1 _) ?_
            refine z_goto C 12 dX4_lineChangeAt_88 (by decide) ?_
            refine z_kill 6 ?_
            refine z_kill 7 ?_
            refine z_kill 8 ?_
            exact ih12 (uc - (k + 1)) (by omega) (k + 1) (l9 - 1) rfl (by omega) (by rw [zRL_len]; simp only [if_true, if_false, h_1, Int32.not_lt.mp h_2, h_2, h_5, h_6]; omega) (by omega)
          · refine z_iload C dX4_lineChangeAt_74 rfl ?_
            refine z_nif_ne C 82 dX4_lineChangeAt_76 (by decide) (by omega) (fun h_7 => ?_) (fun h_7 => ?_)
            · refine z_iinc C (nI ((l9 - 1) - 1)) dX4_lineChangeAt_82 rfl (zi_p (by omega)) ?_
              refine z_iinc C (nI (k + 1)) dX4_lineChangeAt_85 rfl (zi_1 _) ?_
              refine z_goto C 12 dX4_lineChangeAt_88 (by decide) ?_
              refine z_kill 6 ?_
              refine z_kill 7 ?_
              refine z_kill 8 ?_
              exact ih12 (uc - (k + 1)) (by omega) (k + 1) ((l9 - 1) - 1) rfl (by omega) (by rw [zRL_len]; simp only [if_true, if_false, h_1, Int32.not_lt.mp h_2, h_2, h_5, Int32.not_lt.mp h_6, h_6, h_7]; omega) (by omega)
            · refine z_iload C dX4_lineChangeAt_79 rfl ?_
              exact z_iret C N dX4_lineChangeAt_81 (rfl) (congrArg (fun x => some (Value.int x)) (zRL_R (I := (fun i => zf (pLn g (nI 2) 4 (fc i)) M)) (R := (fun i => zf (pLn g (nI 3) 4 (fc i)) M)) (by omega) (by simp only [if_true, if_false, h_1, Int32.not_lt.mp h_2, h_2, h_5, Int32.not_lt.mp h_6, h_6, h_7]; omega) (by simp only [not_false_eq_true, h_1, Int32.not_lt.mp h_2, h_2, h_5, Int32.not_lt.mp h_6, h_6, h_7])).symm)
        · refine z_iload C dX4_lineChangeAt_51 rfl ?_
          exact z_iret C N dX4_lineChangeAt_53 (rfl) (congrArg (fun x => some (Value.int x)) (zRL_I (I := (fun i => zf (pLn g (nI 2) 4 (fc i)) M)) (R := (fun i => zf (pLn g (nI 3) 4 (fc i)) M)) (by omega) (by omega) (by simp only [not_false_eq_true, h_1, Int32.not_lt.mp h_2, h_2, h_5])).symm)
  exact hL12 _ 0 pl rfl (by omega) (by simp [zRL]) (by omega)

theorem kX4_settingInReadingOrder : zY yX4_settingInReadingOrder wsX4_settingInReadingOrder cX4_settingInReadingOrder 8 (some .int) 1 := ⟨⟨_, rfl⟩, ⟨by decide +kernel, by decide +kernel, by decide +kernel⟩, by decide +kernel⟩
theorem fX4_settingInReadingOrder_14 : zF wsX4_settingInReadingOrder RX4 14 4 0 RX4 TX4 5 := ⟨by decide +kernel, rfl, by decide, by decide +kernel, rfl⟩
theorem fX4_settingInReadingOrder_64 : zF wsX4_settingInReadingOrder RX4 64 2 1 RX2 TX2 2 := ⟨by decide +kernel, rfl, by decide, by decide +kernel, rfl⟩
theorem fX4_settingInReadingOrder_20 : zF wsX4_settingInReadingOrder RX4 20 4 1 RX4 TX4 5 := ⟨by decide +kernel, rfl, by decide, by decide +kernel, rfl⟩
theorem fX4_settingInReadingOrder_30 : zF wsX4_settingInReadingOrder RX4 30 4 3 RX4 TX4 5 := ⟨by decide +kernel, rfl, by decide, by decide +kernel, rfl⟩
set_option maxHeartbeats 4000000 in
set_option maxRecDepth 100000 in
theorem mX4_settingInReadingOrder (E : zE) (a : Nat → Nat) (fr : Nat → Int32) (ur : Nat) (fc : Nat → Int32) (uc : Nat) (fb g : Nat → Int32) (M : Nat) (tr : Bool) (pl : Nat) (hur : ur ≤ 12) (huc : uc ≤ 8) (hM : M ≤ 60) (hpl : pl < 2147483648) : zM E yX4_settingInReadingOrder wsX4_settingInReadingOrder 2 [.ref (a 0), .int (nI pl)] [((a 0), .inr (4, [.ref (a 1), .ref (a 3), .ref (a 5), .ref (a 6), .int (zb tr)])), ((a 1), .inr (2, [.ref (a 2), .int (nI ur)])), ((a 2), .inl (E.2.2.1, 12, .inl fr)), ((a 3), .inr (2, [.ref (a 4), .int (nI uc)])), ((a 4), .inl (E.2.2.1, 8, .inl fc)), ((a 5), .inl (E.2.2.1, 96, .inl fb)), ((a 6), .inr (0, [.ref (a 7), .int (nI M)])), ((a 7), .inl (E.2.2.1, 360, .inl g))] [((a 0), .inr (4, [.ref (a 1), .ref (a 3), .ref (a 5), .ref (a 6), .int (zb tr)])), ((a 1), .inr (2, [.ref (a 2), .int (nI ur)])), ((a 2), .inl (E.2.2.1, 12, .inl fr)), ((a 3), .inr (2, [.ref (a 4), .int (nI uc)])), ((a 4), .inl (E.2.2.1, 8, .inl fc)), ((a 5), .inl (E.2.2.1, 96, .inl fb)), ((a 6), .inr (0, [.ref (a 7), .int (nI M)])), ((a 7), .inl (E.2.2.1, 360, .inl g))] (some (.int ((zCat (fun i => zCat (fun j => zls (pS g (fr i) (fc j)) M) uc) ur).getD pl (-5)))) := by
  refine zM.of kX4_settingInReadingOrder (Nat.le_of_ble_eq_true rfl) rfl [some (.ref (a 0)), some (.int (nI pl)), none, none, none, none, none, none] rfl (Nat.le_of_ble_eq_true rfl) ?_
  intro X eX C N
  subst eX
  refine z_iload_n C 1 dX4_settingInReadingOrder_0 rfl rfl ?_
  refine z_istore_n C 2 dX4_settingInReadingOrder_1 rfl (Nat.le_of_ble_eq_true rfl) ?_
  refine z_iconst C (nI 0) dX4_settingInReadingOrder_2 (by decide) ?_
  refine z_istore_n C 3 dX4_settingInReadingOrder_3 rfl (Nat.le_of_ble_eq_true rfl) ?_
  have hL4 : ∀ (dd : Nat) (i9 : Nat) (l9 : Nat), ur - i9 = dd → (i9 ≤ ur) → (l9 + (zCat (fun i => zCat (fun j => zls (pS g (fr i) (fc j)) M) uc) i9).length = pl) → zG X 0 0 [((a 0), .inr (4, [.ref (a 1), .ref (a 3), .ref (a 5), .ref (a 6), .int (zb tr)])), ((a 1), .inr (2, [.ref (a 2), .int (nI ur)])), ((a 2), .inl (X.2.1.2.2.1, 12, .inl fr)), ((a 3), .inr (2, [.ref (a 4), .int (nI uc)])), ((a 4), .inl (X.2.1.2.2.1, 8, .inl fc)), ((a 5), .inl (X.2.1.2.2.1, 96, .inl fb)), ((a 6), .inr (0, [.ref (a 7), .int (nI M)])), ((a 7), .inl (X.2.1.2.2.1, 360, .inl g))] [some (.ref (a 0)), some (.int (nI pl)), some (.int (nI l9)), some (.int (nI i9)), none, none, none, none] [] 4 := by
    intro dd
    induction dd using Nat.strongRecOn with
    | _ dd ih4 =>
    intro i9 l9 hdd hi hl
    refine z_iload_n C 3 dX4_settingInReadingOrder_4 rfl rfl ?_
    refine z_aload_n C 0 dX4_settingInReadingOrder_5 rfl rfl ?_
    refine z_get C fX4_settingInReadingOrder_14 0 dX4_settingInReadingOrder_6 rfl rfl ?_
    refine z_get C fX4_settingInReadingOrder_64 1 dX4_settingInReadingOrder_9 rfl rfl ?_
    refine z_ncmp_ge C 100 dX4_settingInReadingOrder_12 (by decide) (by omega) (by omega) (fun h_1 => ?_) (fun h_1 => ?_)
    · refine z_bipush C (-5) dX4_settingInReadingOrder_100 (by decide) ?_
      exact z_iret C N dX4_settingInReadingOrder_102 (rfl) (by rw [show i9 = ur by omega] at hl; simp only [List.getD_eq_getElem?_getD]; rw [List.getElem?_eq_none (by omega)]; rfl)
    · refine z_aload_n C 0 dX4_settingInReadingOrder_15 rfl rfl ?_
      refine z_get C fX4_settingInReadingOrder_14 0 dX4_settingInReadingOrder_16 rfl rfl ?_
      refine z_iload_n C 3 dX4_settingInReadingOrder_19 rfl rfl ?_
      refine z_callVr C kX2_slotAt gX4_settingInReadingOrder_X2_slotAt (mX2_slotAt_in X.2.1 (a 1) (a 2) 12 fr ur i9 (by first | assumption | omega) hur h_1) dX4_settingInReadingOrder_20 [1, 2] [] 1 rfl nd_1_2 rfl rfl rfl (by decide) (by decide) (Nat.le_of_ble_eq_true rfl) rfl ?_
      refine z_istore C dX4_settingInReadingOrder_23 (Nat.le_of_ble_eq_true rfl) ?_
      refine z_iconst C (nI 0) dX4_settingInReadingOrder_25 (by decide) ?_
      refine z_istore C dX4_settingInReadingOrder_26 (Nat.le_of_ble_eq_true rfl) ?_
      have hL28 : ∀ (dd : Nat) (j9 : Nat) (m9 : Nat), uc - j9 = dd → (j9 ≤ uc) → (m9 + ((zCat (fun i => zCat (fun j => zls (pS g (fr i) (fc j)) M) uc) i9).length + (zCat (fun j => zls (pS g (fr i9) (fc j)) M) j9).length) = pl) → zG X 0 0 [((a 0), .inr (4, [.ref (a 1), .ref (a 3), .ref (a 5), .ref (a 6), .int (zb tr)])), ((a 1), .inr (2, [.ref (a 2), .int (nI ur)])), ((a 2), .inl (X.2.1.2.2.1, 12, .inl fr)), ((a 3), .inr (2, [.ref (a 4), .int (nI uc)])), ((a 4), .inl (X.2.1.2.2.1, 8, .inl fc)), ((a 5), .inl (X.2.1.2.2.1, 96, .inl fb)), ((a 6), .inr (0, [.ref (a 7), .int (nI M)])), ((a 7), .inl (X.2.1.2.2.1, 360, .inl g))] [some (.ref (a 0)), some (.int (nI pl)), some (.int (nI m9)), some (.int (nI i9)), some (.int (fr i9)), some (.int (nI j9)), none, none] [] 28 := by
        intro dd
        induction dd using Nat.strongRecOn with
        | _ dd ih28 =>
        intro j9 m9 hdd hj hm
        have hz9 := zc_le (pS g (fr i9) (fc j9)) M
        refine z_iload C dX4_settingInReadingOrder_28 rfl ?_
        refine z_aload_n C 0 dX4_settingInReadingOrder_30 rfl rfl ?_
        refine z_get C fX4_settingInReadingOrder_20 0 dX4_settingInReadingOrder_31 rfl rfl ?_
        refine z_get C fX4_settingInReadingOrder_64 3 dX4_settingInReadingOrder_34 rfl rfl ?_
        refine z_ncmp_ge C 94 dX4_settingInReadingOrder_37 (by decide) (by omega) (by omega) (fun h_2 => ?_) (fun h_2 => ?_)
        · refine z_iinc C (nI (i9 + 1)) dX4_settingInReadingOrder_94 rfl (zi_1 _) ?_
          refine z_goto C 4 dX4_settingInReadingOrder_97 (by decide) ?_
          refine z_kill 4 ?_
          refine z_kill 5 ?_
          exact ih4 (ur - (i9 + 1)) (by omega) (i9 + 1) m9 rfl (by omega) (by rw [show j9 = uc by omega] at hm; rw [zCat, List.length_append]; omega)
        · refine z_aload_n C 0 dX4_settingInReadingOrder_40 rfl rfl ?_
          refine z_get C fX4_settingInReadingOrder_20 0 dX4_settingInReadingOrder_41 rfl rfl ?_
          refine z_iload C dX4_settingInReadingOrder_44 rfl ?_
          refine z_callVr C kX2_slotAt gX4_settingInReadingOrder_X2_slotAt (mX2_slotAt_in X.2.1 (a 3) (a 4) 8 fc uc j9 (by first | assumption | omega) huc h_2) dX4_settingInReadingOrder_46 [3, 4] [] 3 rfl nd_3_4 rfl rfl rfl (by decide) (by decide) (Nat.le_of_ble_eq_true rfl) rfl ?_
          refine z_istore C dX4_settingInReadingOrder_49 (Nat.le_of_ble_eq_true rfl) ?_
          refine z_aload_n C 0 dX4_settingInReadingOrder_51 rfl rfl ?_
          refine z_get C fX4_settingInReadingOrder_30 0 dX4_settingInReadingOrder_52 rfl rfl ?_
          refine z_iload C dX4_settingInReadingOrder_55 rfl ?_
          refine z_iload C dX4_settingInReadingOrder_57 rfl ?_
          refine z_callVr C kX0_settingsOfCell gX4_settingInReadingOrder_X0_settingsOfCell (mX0_settingsOfCell X.2.1 (a 6) (a 7) g M (fr i9) (fc j9) hM) dX4_settingInReadingOrder_59 [6, 7] [] 6 rfl nd_6_7 rfl rfl rfl (by decide) (by decide) (Nat.le_of_ble_eq_true rfl) rfl ?_
          refine z_istore C dX4_settingInReadingOrder_62 (Nat.le_of_ble_eq_true rfl) ?_
          refine z_iload_n C 2 dX4_settingInReadingOrder_64 rfl rfl ?_
          refine z_iload C dX4_settingInReadingOrder_65 rfl ?_
          refine z_ncmp_ge C 83 dX4_settingInReadingOrder_67 (by decide) (by omega) (by omega) (fun h_3 => ?_) (fun h_3 => ?_)
          · refine z_iload_n C 2 dX4_settingInReadingOrder_83 rfl rfl ?_
            refine z_iload C dX4_settingInReadingOrder_84 rfl ?_
            refine z_isub C dX4_settingInReadingOrder_86 ?_
            refine z_top (y := nI (m9 - (zc (pS g (fr i9) (fc j9)) M))) ((pk_sub (by omega)).trans (congrArg nI (by omega))) ?_
            refine z_istore_n C 2 dX4_settingInReadingOrder_87 rfl (Nat.le_of_ble_eq_true rfl) ?_
            refine z_iinc C (nI (j9 + 1)) dX4_settingInReadingOrder_88 rfl (zi_1 _) ?_
            refine z_goto C 28 dX4_settingInReadingOrder_91 (by decide) ?_
            refine z_kill 6 ?_
            refine z_kill 7 ?_
            exact ih28 (uc - (j9 + 1)) (by omega) (j9 + 1) (m9 - (zc (pS g (fr i9) (fc j9)) M)) rfl (by omega) (by rw [zCat, List.length_append, zls_len]; omega)
          · refine z_aload_n C 0 dX4_settingInReadingOrder_70 rfl rfl ?_
            refine z_get C fX4_settingInReadingOrder_30 0 dX4_settingInReadingOrder_71 rfl rfl ?_
            refine z_iload C dX4_settingInReadingOrder_74 rfl ?_
            refine z_iload C dX4_settingInReadingOrder_76 rfl ?_
            refine z_iload_n C 2 dX4_settingInReadingOrder_78 rfl rfl ?_
            refine z_callVr C kX0_settingAt gX4_settingInReadingOrder_X0_settingAt (mX0_settingAt X.2.1 (a 6) (a 7) g M (fr i9) (fc j9) (nI m9) hM) dX4_settingInReadingOrder_79 [6, 7] [] 6 rfl nd_6_7 rfl rfl rfl (by decide) (by decide) (Nat.le_of_ble_eq_true rfl) rfl ?_
            exact z_iret C N dX4_settingInReadingOrder_82 (rfl) (congrArg (fun x => some (Value.int x)) ((zSR_at (L := (fun i j => zls (pS g (fr i) (fc j)) M)) (i := i9) (j := j9) (l := m9) (by omega) (by omega) (by omega) (by rw [zls_len]; omega)).trans (zls_at _ (by omega) (by omega))).symm)
      exact hL28 _ 0 l9 rfl (by omega) (by simp [zCat]; omega)
  exact hL4 _ 0 pl rfl (by omega) (by simp [zCat])
