/-! the order in which pending changes are read -/
/-- a row of changes in strict order, all that p holds at: each has as many ahead as its place says -/
theorem rank {p : Nat → Bool} {R : Nat → Nat → Bool} {F : Nat → Nat} {n M : Nat} (hF : ∀ i, i < n → F i < M ∧ p (F i) = true) (hs : ∀ i j, i < j → j < n → R (F i) (F j) = true ∧ R (F j) (F i) = false) (ha : ∀ x, x < M → p x = true → ∃ i, i < n ∧ F i = x) {i : Nat} (hi : i < n) : zc (fun y => p y && (!decide (y = F i) && R y (F i))) M = i := by
  have inj : ∀ a b, a < n → b < n → F a = F b → a = b := by
    intro a b h1 h2 e
    rcases Nat.lt_trichotomy a b with q | q | q
    · have z := hs a b q h2; rw [e] at z; rw [z.1] at z; exact absurd z.2 (by decide)
    · exact q
    · have z := hs b a q h1; rw [e] at z; rw [z.1] at z; exact absurd z.2 (by decide)
  have idx : ∀ a, a < n → zix (fun j => decide (F j = F a)) n = a := fun a h => zix_at (by simp) (fun j hj => decide_eq_false (fun e => by have := inj j a (by omega) h e; omega)) h
  have one : zc (fun _ => true) i = i := by
    clear inj idx hi
    induction i with
    | zero => rfl
    | succ m ih => rw [zc_y rfl, ih]
  refine Nat.le_antisymm ?_ ?_
  · refine Nat.le_trans (zc_inj (fun y => zix (fun j => decide (F j = y)) n) (U := i) (Q := fun _ => true) (fun y hy hp => ?_) (fun y z hy hz hp hq e => ?_)) (Nat.le_of_eq one)
    · simp only [Bool.and_eq_true, Bool.not_eq_true', decide_eq_false_iff_not] at hp
      obtain ⟨a, han, ea⟩ := ha y hy hp.1
      subst ea
      simp only [idx a han]
      refine ⟨?_, trivial⟩
      rcases Nat.lt_or_ge a i with q | q
      · exact q
      · exfalso
        rcases Nat.eq_or_lt_of_le q with e | e
        · exact hp.2.1 (by rw [e])
        · have z := (hs i a e han).2
          rw [hp.2.2] at z; cases z
    · simp only [Bool.and_eq_true] at hp hq
      obtain ⟨a, han, ea⟩ := ha y hy hp.1
      obtain ⟨b, hbn, eb⟩ := ha z hz hq.1
      subst ea; subst eb
      simp only [idx a han, idx b hbn] at e
      rw [e]
  · refine Nat.le_trans (Nat.le_of_eq one.symm) (zc_inj F (P := fun _ => true) (fun j hj _ => ?_) (fun a b h1 h2 _ _ e => inj a b (by omega) (by omega) e))
    obtain ⟨h1, h2⟩ := hF j (by omega)
    refine ⟨h1, ?_⟩
    rw [h2, (hs j i hj hi).1, decide_eq_false (fun e => by have := inj j i (by omega) hi e; omega)]
    rfl
/-- so the change at a place is the one with so many ahead -/
theorem rank_at {p : Nat → Bool} {R : Nat → Nat → Bool} {F : Nat → Nat} {n M : Nat} (hM : M < 2147483648) (hF : ∀ i, i < n → F i < M ∧ p (F i) = true) (hs : ∀ i j, i < j → j < n → R (F i) (F j) = true ∧ R (F j) (F i) = false) (ha : ∀ x, x < M → p x = true → ∃ i, i < n ∧ F i = x) (k : Nat) : zf (fun x => p x && decide (zc (fun y => p y && (!decide (y = x) && R y x)) M = k)) M = if k < n then nI (F k) else -5 := by
  by_cases h : k < n
  · rw [if_pos h]
    obtain ⟨h1, h2⟩ := hF k h
    refine zf_at (by omega) (by rw [h2, rank hF hs ha h]; simp) (fun j hj => ?_) h1
    cases hp : p j with
    | false => rfl
    | true =>
      obtain ⟨a, han, ea⟩ := ha j (by omega) hp
      subst ea
      rw [rank hF hs ha han, decide_eq_false (fun e => by subst e; omega)]
      rfl
  · rw [if_neg h]
    refine zf_no (fun j hj => ?_)
    cases hp : p j with
    | false => rfl
    | true =>
      obtain ⟨a, han, ea⟩ := ha j hj hp
      subst ea
      rw [rank hF hs ha han, decide_eq_false (fun e => by omega)]
      rfl
/-- places as numbers from 1, 0 for none -/
def eP : Nat → Int32
  | 0 => -5
  | p + 1 => nI p
theorem eP_lt {p q : Nat} (hp : p < 100000) (hq : q < 100000) : eP p < eP q ↔ p < q := by
  cases p with
  | zero =>
    cases q with
    | zero => decide
    | succ q =>
      constructor
      · intro _; omega
      · intro _
        show (-5 : Int32) < nI q
        rw [Int32.lt_iff_toInt_lt, nI_toInt (by omega), show (-5 : Int32).toInt = -5 by decide]
        omega
  | succ p =>
    cases q with
    | zero =>
      constructor
      · intro h
        have h' : nI p < (-5 : Int32) := h
        rw [Int32.lt_iff_toInt_lt, nI_toInt (by omega), show (-5 : Int32).toInt = -5 by decide] at h'
        omega
      · intro h; omega
    | succ q =>
      show nI p < nI q ↔ _
      rw [Int32.lt_iff_toInt_lt, nI_toInt (by omega), nI_toInt (by omega)]
      omega
theorem eP_eq {p q : Nat} (hp : p < 100000) (hq : q < 100000) : eP p = eP q ↔ p = q := by
  constructor
  · intro h
    have h1 : ¬ p < q := fun z => by have := (eP_lt hp hq).mpr z; rw [h] at this; exact absurd this (by rw [Int32.lt_iff_toInt_lt]; omega)
    have h2 : ¬ q < p := fun z => by have := (eP_lt hq hp).mpr z; rw [h] at this; exact absurd this (by rw [Int32.lt_iff_toInt_lt]; omega)
    omega
  · intro h; rw [h]
def pl1 (f : Nat → Int32) (u : Nat) (sl : Int32) : Nat := if zix (pE f sl) u < u then zix (pE f sl) u + 1 else 0
theorem pl1_e {f : Nat → Int32} {u : Nat} {sl : Int32} (hu : u < 100) : zf (pE f sl) u = eP (pl1 f u sl) := by
  rw [zf_eq _ _ (by omega)]
  unfold pl1
  by_cases h : zix (pE f sl) u < u
  · rw [if_pos h, if_pos h]; rfl
  · rw [if_neg h, if_neg h]; rfl
theorem pl1_le {f : Nat → Int32} {u : Nat} {sl : Int32} : pl1 f u sl ≤ u := by unfold pl1; split <;> omega
theorem pl1_at {f : Nat → Int32} {n u p : Nat} (hf : RO f n) (hu : u ≤ n) (hp : p < u) : pl1 f u (f p) = p + 1 := by unfold pl1; rw [zCl_at hf hu hp, if_pos hp]
theorem pl1_no {f : Nat → Int32} {n u : Nat} (hf : RO f n) (hn : n ≤ 12) (hu : u ≤ n) : pl1 f u (-5) = 0 := by
  unfold pl1
  exact if_neg (zix_no (p := pE f (-5)) (fun j hj => decide_eq_false (fun e => RO_m5 hf hn (by omega) e.symm)))
def KA (S : zSt) (x : Nat) : Nat := if fA S (6 * x) = nI 4 then 2 else if fA S (6 * x) = nI 2 ∨ fA S (6 * x) = nI 3 then 1 else 0
def KP (S : zSt) (x : Nat) : Nat := pl1 (rO S) (rU S) (fA S (6 * x + 3))
def KQ (S : zSt) (x : Nat) : Nat := pl1 (cO S) (cU S) (fA S (6 * x + 4))
def lx (S : zSt) (x y : Nat) : Bool := decide (KA S x < KA S y ∨ (KA S x = KA S y ∧ (KP S x < KP S y ∨ (KP S x = KP S y ∧ (KQ S x < KQ S y ∨ (KQ S x = KQ S y ∧ x < y))))))
theorem RR_KA {S : zSt} {s : zMs} {B x : Nat} (h : RR S s B) (hx : x < mK S) : nK s x / nI 2 = nI (KA S x) := by
  obtain ⟨k1, -, -, -, -, k6⟩ := h.2.2.1 x hx
  unfold KA
  rw [k1]
  rcases k6 with e | e | e | e | e <;> rw [e] <;> decide
theorem KA_lt (S : zSt) (x : Nat) : KA S x < 3 := by unfold KA; split; omega; split <;> omega
theorem RR_lx {S : zSt} {s : zMs} {B x y : Nat} (h : RR S s B) (hB : B < 2147483648) (hx : x < mK S) (hy : y < mK S) : mRA (nK s) (nR s) (nC s) (nS s) (nN s) (nU s) x y = lx S x y := by
  have h12 := h.1.1.1.1
  have h8 := h.1.1.1.2.1
  have px := KA_lt S x; have py := KA_lt S y
  have rx : KP S x ≤ rU S := pl1_le; have ry : KP S y ≤ rU S := pl1_le
  have cx : KQ S x ≤ cU S := pl1_le; have cy : KQ S y ≤ cU S := pl1_le
  have e1 : mPlR (nR s) (nS s) (nN s) (nU s) x = eP (KP S x) := (RR_plR h hB hx).symm.trans (pl1_e (by omega))
  have e2 : mPlR (nR s) (nS s) (nN s) (nU s) y = eP (KP S y) := (RR_plR h hB hy).symm.trans (pl1_e (by omega))
  have e3 : mPlC (nC s) (nS s) (nN s) (nU s) x = eP (KQ S x) := (RR_plC h hB hx).symm.trans (pl1_e (by omega))
  have e4 : mPlC (nC s) (nS s) (nN s) (nU s) y = eP (KQ S y) := (RR_plC h hB hy).symm.trans (pl1_e (by omega))
  have a1 : (nI (KA S x) = nI (KA S y)) ↔ KA S x = KA S y := nI_eq (by omega) (by omega)
  have a2 : (nI (KA S x) < nI (KA S y)) ↔ KA S x < KA S y := by rw [Int32.lt_iff_toInt_lt, nI_toInt (by omega), nI_toInt (by omega)]; omega
  have b1 := eP_eq (p := KP S x) (q := KP S y) (by omega) (by omega)
  have b2 := eP_lt (p := KP S x) (q := KP S y) (by omega) (by omega)
  have c1 := eP_eq (p := KQ S x) (q := KQ S y) (by omega) (by omega)
  have c2 := eP_lt (p := KQ S x) (q := KQ S y) (by omega) (by omega)
  unfold mRA lx
  rw [RR_KA h hx, RR_KA h hy, e1, e2, e3, e4]
  by_cases u1 : KA S x = KA S y
  · rw [if_neg (fun z => z (a1.mpr u1))]
    by_cases u2 : KP S x = KP S y
    · rw [if_neg (fun z => z (b1.mpr u2))]
      by_cases u3 : KQ S x = KQ S y
      · rw [if_neg (fun z => z (c1.mpr u3))]
        exact dec_iff (by omega)
      · rw [if_pos (fun z => u3 (c1.mp z))]
        exact dec_iff (c2.trans (by omega))
    · rw [if_pos (fun z => u2 (b1.mp z))]
      exact dec_iff (b2.trans (by omega))
  · rw [if_pos (fun z => u1 (a1.mp z))]
    exact dec_iff (a2.trans (by omega))
/-- a pending change in its box: kind of line, row, column -/
def bx (S : zSt) (A P Q : Nat) (a : Int32) : Prop := ∃ x, x < mK S ∧ a = nI x ∧ fA S (6 * x + 2) = 0 ∧ KA S x = A ∧ KP S x = P ∧ KQ S x = Q
def TT (S : zSt) (a b : Int32) : Prop := lx S a.toNatClampNeg b.toNatClampNeg = true ∧ lx S b.toNatClampNeg a.toNatClampNeg = false
theorem bx_lt {S : zSt} {A P Q A' P' Q' : Nat} {a b : Int32} (h60 : mK S ≤ 60) (ha : bx S A P Q a) (hb : bx S A' P' Q' b) (h : A < A' ∨ (A = A' ∧ (P < P' ∨ (P = P' ∧ Q < Q')))) : TT S a b := by
  obtain ⟨x, hx, ex, -, x1, x2, x3⟩ := ha
  obtain ⟨y, hy, ey, -, y1, y2, y3⟩ := hb
  unfold TT lx
  rw [ex, ey, nI_clamp (by omega), nI_clamp (by omega), x1, x2, x3, y1, y2, y3]
  exact ⟨decide_eq_true (by omega), decide_eq_false (by omega)⟩
theorem bx_n {S : zSt} {A P Q x y : Nat} (h60 : mK S ≤ 60) (hx : bx S A P Q (nI x)) (hy : bx S A P Q (nI y)) (h1 : x < 60) (h2 : y < 60) (h : x < y) : TT S (nI x) (nI y) := by
  obtain ⟨x', hx, ex, -, x1, x2, x3⟩ := hx
  obtain ⟨y', hy, ey, -, y1, y2, y3⟩ := hy
  have e1 : x = x' := (nI_eq (by omega) (by omega)).mp ex
  have e2 : y = y' := (nI_eq (by omega) (by omega)).mp ey
  subst e1; subst e2
  unfold TT lx
  rw [nI_clamp (by omega), nI_clamp (by omega), x1, x2, x3, y1, y2, y3]
  exact ⟨decide_eq_true (by omega), decide_eq_false (by omega)⟩
theorem zCat_pw {T : Int32 → Int32 → Prop} {L : Nat → List Int32} {Bk : Nat → Int32 → Prop} : ∀ {n : Nat}, (∀ j, j < n → (L j).Pairwise T ∧ ∀ a, a ∈ L j → Bk j a) → (∀ i j a b, i < j → j < n → Bk i a → Bk j b → T a b) → (zCat L n).Pairwise T ∧ ∀ a, a ∈ zCat L n → ∃ j, j < n ∧ Bk j a
  | 0, _, _ => ⟨List.Pairwise.nil, fun a h => by simp [zCat] at h⟩
  | n + 1, h1, h2 => by
    obtain ⟨i1, i2⟩ := zCat_pw (n := n) (fun j hj => h1 j (by omega)) (fun i j a b hij hj => h2 i j a b hij (by omega))
    obtain ⟨p1, p2⟩ := h1 n (Nat.lt_succ_self n)
    constructor
    · rw [zCat, List.pairwise_append]
      refine ⟨i1, p1, fun a ha b hb => ?_⟩
      obtain ⟨j, hj, hb1⟩ := i2 a ha
      exact h2 j n a b hj (Nat.lt_succ_self n) hb1 (p2 b hb)
    · intro a ha
      rw [zCat, List.mem_append] at ha
      rcases ha with ha | ha
      · obtain ⟨j, hj, hb1⟩ := i2 a ha
        exact ⟨j, by omega, hb1⟩
      · exact ⟨n, Nat.lt_succ_self n, p2 a ha⟩
theorem zCat_mem {L : Nat → List Int32} {a : Int32} {j : Nat} (h : a ∈ L j) : ∀ {n : Nat}, j < n → a ∈ zCat L n
  | 0, hj => absurd hj (Nat.not_lt_zero j)
  | n + 1, hj => by
    rw [zCat, List.mem_append]
    rcases Nat.lt_or_ge j n with q | q
    · exact Or.inl (zCat_mem h q)
    · exact Or.inr (by rw [show n = j by omega]; exact h)
theorem zRL_cat (I R : Nat → Int32) : ∀ n, zRL I R n = zCat (fun k => (if I k < 0 then [] else [I k]) ++ (if R k < 0 then [] else [R k])) n
  | 0 => rfl
  | n + 1 => by rw [zRL, zCat, zRL_cat I R n]
theorem zRL_l (I R : Nat → Int32) : ∀ n, (zRL I R n).length = zc (fun p => !decide (I p < 0)) n + zc (fun p => !decide (R p < 0)) n
  | 0 => rfl
  | n + 1 => by
    rw [zRL_len, zRL_l I R n, zc_s, zc_s]
    by_cases h1 : I n < 0 <;> by_cases h2 : R n < 0 <;> simp [h1, h2] <;> omega
theorem zRL_pw {T : Int32 → Int32 → Prop} {I R : Nat → Int32} {Bk : Nat → Int32 → Prop} {n : Nat} (hI : ∀ j, j < n → ¬ I j < 0 → Bk j (I j)) (hR : ∀ j, j < n → ¬ R j < 0 → Bk j (R j)) (hIR : ∀ j, j < n → ¬ I j < 0 → ¬ R j < 0 → T (I j) (R j)) (h2 : ∀ i j a b, i < j → j < n → Bk i a → Bk j b → T a b) : (zRL I R n).Pairwise T ∧ ∀ a, a ∈ zRL I R n → ∃ j, j < n ∧ Bk j a := by
  rw [zRL_cat]
  refine zCat_pw (fun j hj => ?_) h2
  have g1 := hI j hj
  have g2 := hR j hj
  have g3 := hIR j hj
  by_cases h1 : I j < 0 <;> by_cases h2 : R j < 0 <;> simp only [h1, h2, if_true, if_false, List.nil_append, List.append_nil]
  · exact ⟨List.Pairwise.nil, fun a h => by cases h⟩
  · exact ⟨List.pairwise_singleton _ _, fun a h => by rw [List.mem_singleton] at h; rw [h]; exact g2 h2⟩
  · exact ⟨List.pairwise_singleton _ _, fun a h => by rw [List.mem_singleton] at h; rw [h]; exact g1 h1⟩
  · refine ⟨?_, fun a h => ?_⟩
    · show List.Pairwise T (I j :: [R j])
      rw [List.pairwise_cons]
      exact ⟨fun a h => by rw [List.mem_singleton] at h; rw [h]; exact g3 h1 h2, List.pairwise_singleton _ _⟩
    · have h' : a ∈ (I j :: [R j]) := h
      rw [List.mem_cons, List.mem_singleton] at h'
      rcases h' with h' | h' <;> rw [h']
      · exact g1 h1
      · exact g2 h2
theorem zls_pw {T : Int32 → Int32 → Prop} {p : Nat → Bool} : ∀ {n : Nat}, (∀ i j, i < j → j < n → p i = true → p j = true → T (nI i) (nI j)) → (zls p n).Pairwise T
  | 0, _ => List.Pairwise.nil
  | n + 1, h => by
    rw [zls, List.pairwise_append]
    refine ⟨zls_pw (fun i j hij hj => h i j hij (by omega)), ?_, fun a ha b hb => ?_⟩
    · split
      · exact List.pairwise_singleton _ _
      · exact List.Pairwise.nil
    · obtain ⟨i, hi, pi, ei⟩ := zls_mem p ha
      cases hp : p n with
      | false => rw [hp] at hb; simp at hb
      | true =>
        rw [hp] at hb
        have : b = nI n := by simpa using hb
        rw [ei, this]
        exact h i n hi (Nat.lt_succ_self n) pi hp
theorem zls_in {p : Nat → Bool} {j : Nat} (h : p j = true) : ∀ {n : Nat}, j < n → nI j ∈ zls p n
  | 0, hj => absurd hj (Nat.not_lt_zero j)
  | n + 1, hj => by
    rw [zls, List.mem_append]
    rcases Nat.lt_or_ge j n with q | q
    · exact Or.inl (zls_in h q)
    · refine Or.inr ?_
      have e : n = j := by omega
      subst e
      rw [h]; simp
/-- the whole order -/
def zLL (S : zSt) : List Int32 := zRL (rIn S) (rRm S) (rU S) ++ (zRL (cIn S) (cRm S) (cU S) ++ zCat (fun i => zCat (fun j => zls (pS (fA S) (rO S i) (cO S j)) (mK S)) (cU S)) (rU S))
theorem zPd_LL {S : zSt} {s : zMs} {B : Nat} (h : RR S s B) (k : Nat) : zPd S k = (zLL S).getD k (-5) := by
  have n1 : (zRL (rIn S) (rRm S) (rU S)).length = zNR S := by
    rw [zRL_l]; unfold zNR; rw [RR_cntR h (Or.inl rfl), RR_cntR h (Or.inr rfl)]; rfl
  have n2 : (zRL (cIn S) (cRm S) (cU S)).length = zNC S := by
    rw [zRL_l]; unfold zNC; rw [RR_cntC h (Or.inl rfl), RR_cntC h (Or.inr rfl)]; rfl
  unfold zPd zLL
  simp only [List.getD_eq_getElem?_getD]
  by_cases c1 : k < zNR S
  · rw [if_pos c1, List.getElem?_append_left (by omega)]
  · rw [if_neg c1, List.getElem?_append_right (by omega), n1]
    by_cases c2 : k < zNR S + zNC S
    · rw [if_pos c2, List.getElem?_append_left (by omega)]
    · rw [if_neg c2, List.getElem?_append_right (by omega), n2]
theorem pLn_ix {g : Nat → Int32} {kd sl : Int32} {w M : Nat} (hM : M ≤ 60) (h : ¬ zf (pLn g kd w sl) M < 0) : ∃ x, x < M ∧ zf (pLn g kd w sl) M = nI x ∧ g (6 * x + 2) = 0 ∧ g (6 * x) = kd ∧ g (6 * x + w) = sl := by
  have h1 := zf_nn (by omega) h
  have h2 := zix_p h1
  simp only [pLn, Bool.and_eq_true, decide_eq_true_eq] at h2
  exact ⟨_, h1, zf_ix (by omega) h1, h2⟩
theorem bx_R {S : zSt} {s : zMs} {B p : Nat} {kd : Int32} (h : RR S s B) (hk : kd = nI 0 ∨ kd = nI 1) (hp : p < rU S) (hz : ¬ zf (pLn (fA S) kd 3 (rO S p)) (mK S) < 0) : bx S 0 (p + 1) 0 (zf (pLn (fA S) kd 3 (rO S p)) (mK S)) := by
  have h12 := h.1.1.1.1
  have h8 := h.1.1.1.2.1
  obtain ⟨x, hx, e, h1, h2, h3⟩ := pLn_ix h.1.1.1.2.2 hz
  obtain ⟨p1, p2, p3⟩ := h.2.2.2.2.2.2.2.1 x hx
  refine ⟨x, hx, e, h1, ?_, ?_, ?_⟩
  · unfold KA; rw [h2]; rcases hk with k | k <;> rw [k] <;> rfl
  · unfold KP; rw [h3, pl1_at h.2.2.2.2.1.1 h12 hp]
  · unfold KQ; rw [(p2 (by rw [h2]; exact hk)).1, pl1_no h.2.2.2.2.1.2 (by decide) h8]
theorem bx_C {S : zSt} {s : zMs} {B p : Nat} {kd : Int32} (h : RR S s B) (hk : kd = nI 2 ∨ kd = nI 3) (hp : p < cU S) (hz : ¬ zf (pLn (fA S) kd 4 (cO S p)) (mK S) < 0) : bx S 1 0 (p + 1) (zf (pLn (fA S) kd 4 (cO S p)) (mK S)) := by
  have h12 := h.1.1.1.1
  have h8 := h.1.1.1.2.1
  obtain ⟨x, hx, e, h1, h2, h3⟩ := pLn_ix h.1.1.1.2.2 hz
  obtain ⟨p1, p2, p3⟩ := h.2.2.2.2.2.2.2.1 x hx
  refine ⟨x, hx, e, h1, ?_, ?_, ?_⟩
  · unfold KA; rw [h2]; rcases hk with k | k <;> rw [k] <;> rfl
  · unfold KP; rw [(p1 (by rw [h2]; exact hk)).1, pl1_no h.2.2.2.2.1.1 (by decide) h12]
  · unfold KQ; rw [h3, pl1_at h.2.2.2.2.1.2 h8 hp]
theorem bx_S {S : zSt} {s : zMs} {B i j x : Nat} (h : RR S s B) (hi : i < rU S) (hj : j < cU S) (hx : x < mK S) (hp : pS (fA S) (rO S i) (cO S j) x = true) : bx S 2 (i + 1) (j + 1) (nI x) := by
  have h12 := h.1.1.1.1
  have h8 := h.1.1.1.2.1
  simp only [pS, Bool.and_eq_true, decide_eq_true_eq] at hp
  obtain ⟨h1, h2, h3, h4⟩ := hp
  refine ⟨x, hx, rfl, h1, ?_, ?_, ?_⟩
  · unfold KA; rw [h2]; rfl
  · unfold KP; rw [h3, pl1_at h.2.2.2.2.1.1 h12 hi]
  · unfold KQ; rw [h4, pl1_at h.2.2.2.2.1.2 h8 hj]
theorem zLL_pw {S : zSt} {s : zMs} {B : Nat} (h : RR S s B) : (zLL S).Pairwise (TT S) ∧ ∀ a, a ∈ zLL S → ∃ A P Q, bx S A P Q a := by
  have h60 := h.1.1.1.2.2
  have hQ := h.2.2.2.2.2.2.2.2
  have hP := h.2.2.2.2.2.2.2.1
  have L1 : (zRL (rIn S) (rRm S) (rU S)).Pairwise (TT S) ∧ ∀ a, a ∈ zRL (rIn S) (rRm S) (rU S) → ∃ j, j < rU S ∧ bx S 0 (j + 1) 0 a := by
    refine zRL_pw (Bk := fun j a => bx S 0 (j + 1) 0 a) (fun j hj hz => bx_R h (Or.inl rfl) hj hz) (fun j hj hz => bx_R h (Or.inr rfl) hj hz) (fun j hj hz1 hz2 => ?_) (fun i j a b hij hj ha hb => bx_lt h60 ha hb (by omega))
    have b1 := bx_R h (Or.inl rfl) hj hz1
    have b2 := bx_R h (Or.inr rfl) hj hz2
    obtain ⟨x, hx, e, q1, q2, q3⟩ := pLn_ix h60 hz1
    obtain ⟨y, hy, f, r1, r2, r3⟩ := pLn_ix h60 hz2
    unfold rIn rRm
    rw [e] at b1 ⊢
    rw [f] at b2 ⊢
    refine bx_n h60 b1 b2 (by omega) (by omega) ?_
    refine (hQ x y hx hy q1 r1 (q3.trans r3.symm) ?_).2.1 q2 r2
    rw [((hP x hx).2.1 (Or.inl q2)).1, ((hP y hy).2.1 (Or.inr r2)).1]
  have L2 : (zRL (cIn S) (cRm S) (cU S)).Pairwise (TT S) ∧ ∀ a, a ∈ zRL (cIn S) (cRm S) (cU S) → ∃ j, j < cU S ∧ bx S 1 0 (j + 1) a := by
    refine zRL_pw (Bk := fun j a => bx S 1 0 (j + 1) a) (fun j hj hz => bx_C h (Or.inl rfl) hj hz) (fun j hj hz => bx_C h (Or.inr rfl) hj hz) (fun j hj hz1 hz2 => ?_) (fun i j a b hij hj ha hb => bx_lt h60 ha hb (by omega))
    have b1 := bx_C h (Or.inl rfl) hj hz1
    have b2 := bx_C h (Or.inr rfl) hj hz2
    obtain ⟨x, hx, e, q1, q2, q3⟩ := pLn_ix h60 hz1
    obtain ⟨y, hy, f, r1, r2, r3⟩ := pLn_ix h60 hz2
    unfold cIn cRm
    rw [e] at b1 ⊢
    rw [f] at b2 ⊢
    refine bx_n h60 b1 b2 (by omega) (by omega) ?_
    refine (hQ x y hx hy q1 r1 ?_ (q3.trans r3.symm)).2.2 q2 r2
    rw [((hP x hx).1 (Or.inl q2)).1, ((hP y hy).1 (Or.inr r2)).1]
  have L3 : (zCat (fun i => zCat (fun j => zls (pS (fA S) (rO S i) (cO S j)) (mK S)) (cU S)) (rU S)).Pairwise (TT S) ∧ ∀ a, a ∈ zCat (fun i => zCat (fun j => zls (pS (fA S) (rO S i) (cO S j)) (mK S)) (cU S)) (rU S) → ∃ i, i < rU S ∧ ∃ j, j < cU S ∧ bx S 2 (i + 1) (j + 1) a := by
    refine zCat_pw (Bk := fun i a => ∃ j, j < cU S ∧ bx S 2 (i + 1) (j + 1) a) (fun i hi => ?_) (fun i j a b hij hj ha hb => ?_)
    · refine zCat_pw (Bk := fun j a => bx S 2 (i + 1) (j + 1) a) (fun j hj => ⟨zls_pw (fun x y hxy hy px py => ?_), fun a ha => ?_⟩) (fun j k a b hjk hk ha hb => bx_lt h60 ha hb (by omega))
      · exact bx_n h60 (bx_S h hi hj (by omega) px) (bx_S h hi hj hy py) (by omega) (by omega) hxy
      · obtain ⟨x, hx, px, ex⟩ := zls_mem _ ha
        rw [ex]
        exact bx_S h hi hj hx px
    · obtain ⟨c, -, ha⟩ := ha
      obtain ⟨d, -, hb⟩ := hb
      exact bx_lt h60 ha hb (by omega)
  unfold zLL
  rw [List.pairwise_append, List.pairwise_append]
  refine ⟨⟨L1.1, ⟨L2.1, L3.1, fun a ha b hb => ?_⟩, fun a ha b hb => ?_⟩, fun a ha => ?_⟩
  · obtain ⟨i, -, ha⟩ := L2.2 a ha
    obtain ⟨j, -, c, -, hb⟩ := L3.2 b hb
    exact bx_lt h60 ha hb (by omega)
  · obtain ⟨i, -, ha⟩ := L1.2 a ha
    rw [List.mem_append] at hb
    rcases hb with hb | hb
    · obtain ⟨j, -, hb⟩ := L2.2 b hb
      exact bx_lt h60 ha hb (by omega)
    · obtain ⟨j, -, c, -, hb⟩ := L3.2 b hb
      exact bx_lt h60 ha hb (by omega)
  · rw [List.mem_append, List.mem_append] at ha
    rcases ha with ha | ha | ha
    · obtain ⟨i, -, ha⟩ := L1.2 a ha
      exact ⟨_, _, _, ha⟩
    · obtain ⟨i, -, ha⟩ := L2.2 a ha
      exact ⟨_, _, _, ha⟩
    · obtain ⟨j, -, c, -, ha⟩ := L3.2 a ha
      exact ⟨_, _, _, ha⟩
theorem pLn_eq {g : Nat → Int32} {kd sl : Int32} {w M x : Nat} (hM : M ≤ 60) (hx : x < M) (h1 : g (6 * x + 2) = 0) (h2 : g (6 * x) = kd) (h3 : g (6 * x + w) = sl) (huq : ∀ y, y < M → g (6 * y + 2) = 0 → g (6 * y) = kd → g (6 * y + w) = sl → y = x) : zf (pLn g kd w sl) M = nI x := by
  refine zf_at (by omega) (by simp [pLn, h1, h2, h3]) (fun j hj => ?_) hx
  cases hp : pLn g kd w sl j with
  | false => rfl
  | true =>
    simp only [pLn, Bool.and_eq_true, decide_eq_true_eq] at hp
    have := huq j (by omega) hp.1 hp.2.1 hp.2.2
    omega
theorem zLL_all {S : zSt} {s : zMs} {B x : Nat} (h : RR S s B) (hx : x < mK S) (hp : fA S (6 * x + 2) = 0) : nI x ∈ zLL S := by
  have h60 := h.1.1.1.2.2
  have hQ := h.2.2.2.2.2.2.2.2
  have hP := h.2.2.2.2.2.2.2.1
  obtain ⟨p1, p2, p3⟩ := hP x hx
  obtain ⟨p3, p4⟩ := p3 hp
  have one : ∀ kd, kd = nI 0 ∨ kd = nI 1 → fA S (6 * x) = kd → ∃ p, p < rU S ∧ zf (pLn (fA S) kd 3 (rO S p)) (mK S) = nI x := by
    intro kd hk e
    obtain ⟨p, hpu, ep⟩ := p3 (by rw [e]; rcases hk with k | k; exact Or.inl k; exact Or.inr (Or.inl k))
    refine ⟨p, hpu, pLn_eq h60 hx hp e ep (fun y hy r1 r2 r3 => ?_)⟩
    refine (hQ y x hy hx r1 hp (r3.trans ep.symm) ?_).1 (r2.trans e.symm) (by rw [r2]; rcases hk with k | k <;> rw [k] <;> decide)
    rw [(p2 (by rw [e]; exact hk)).1, ((hP y hy).2.1 (by rw [r2]; exact hk)).1]
  have two : ∀ kd, kd = nI 2 ∨ kd = nI 3 → fA S (6 * x) = kd → ∃ p, p < cU S ∧ zf (pLn (fA S) kd 4 (cO S p)) (mK S) = nI x := by
    intro kd hk e
    obtain ⟨p, hpu, ep⟩ := p4 (by rw [e]; rcases hk with k | k; exact Or.inl k; exact Or.inr (Or.inl k))
    refine ⟨p, hpu, pLn_eq h60 hx hp e ep (fun y hy r1 r2 r3 => ?_)⟩
    refine (hQ y x hy hx r1 hp ?_ (r3.trans ep.symm)).1 (r2.trans e.symm) (by rw [r2]; rcases hk with k | k <;> rw [k] <;> decide)
    rw [(p1 (by rw [e]; exact hk)).1, ((hP y hy).1 (by rw [r2]; exact hk)).1]
  have nn : ¬ nI x < 0 := nI_pos (by omega)
  unfold zLL
  rw [List.mem_append, List.mem_append]
  rcases (h.2.2.1 x hx).2.2.2.2.2 with e | e | e | e | e
  · obtain ⟨p, hpu, ez⟩ := one _ (Or.inl rfl) e
    refine Or.inl ?_
    rw [zRL_cat]
    refine zCat_mem (j := p) ?_ hpu
    rw [List.mem_append]
    refine Or.inl ?_
    show nI x ∈ if zf (pLn (fA S) (nI 0) 3 (rO S p)) (mK S) < 0 then [] else [zf (pLn (fA S) (nI 0) 3 (rO S p)) (mK S)]
    rw [ez, if_neg nn]
    exact List.mem_singleton.mpr rfl
  · obtain ⟨p, hpu, ez⟩ := one _ (Or.inr rfl) e
    refine Or.inl ?_
    rw [zRL_cat]
    refine zCat_mem (j := p) ?_ hpu
    rw [List.mem_append]
    refine Or.inr ?_
    show nI x ∈ if zf (pLn (fA S) (nI 1) 3 (rO S p)) (mK S) < 0 then [] else [zf (pLn (fA S) (nI 1) 3 (rO S p)) (mK S)]
    rw [ez, if_neg nn]
    exact List.mem_singleton.mpr rfl
  · obtain ⟨p, hpu, ez⟩ := two _ (Or.inl rfl) e
    refine Or.inr (Or.inl ?_)
    rw [zRL_cat]
    refine zCat_mem (j := p) ?_ hpu
    rw [List.mem_append]
    refine Or.inl ?_
    show nI x ∈ if zf (pLn (fA S) (nI 2) 4 (cO S p)) (mK S) < 0 then [] else [zf (pLn (fA S) (nI 2) 4 (cO S p)) (mK S)]
    rw [ez, if_neg nn]
    exact List.mem_singleton.mpr rfl
  · obtain ⟨p, hpu, ez⟩ := two _ (Or.inr rfl) e
    refine Or.inr (Or.inl ?_)
    rw [zRL_cat]
    refine zCat_mem (j := p) ?_ hpu
    rw [List.mem_append]
    refine Or.inr ?_
    show nI x ∈ if zf (pLn (fA S) (nI 3) 4 (cO S p)) (mK S) < 0 then [] else [zf (pLn (fA S) (nI 3) 4 (cO S p)) (mK S)]
    rw [ez, if_neg nn]
    exact List.mem_singleton.mpr rfl
  · obtain ⟨i, hi, ei⟩ := p3 (Or.inr (Or.inr e))
    obtain ⟨j, hj, ej⟩ := p4 (Or.inr (Or.inr e))
    refine Or.inr (Or.inr ?_)
    refine zCat_mem (j := i) ?_ hi
    refine zCat_mem (L := fun j => zls (pS (fA S) (rO S i) (cO S j)) (mK S)) (j := j) ?_ hj
    exact zls_in (by simp [pS, hp, e, ei, ej]) hx
theorem RR_pd {S : zSt} {s : zMs} {B : Nat} (h : RR S s B) (hB : B < 2147483648) (k : Nat) : zPd S k = zf (fun x => decide (nZ s x = 0) && decide (mAh (nZ s) (nK s) (nR s) (nC s) (nS s) (nN s) (nU s) (nM s) x = k)) (nM s) := by
  have h60 := h.1.1.1.2.2
  have hM := h.2.1.2.2.1
  obtain ⟨hpw, hmem⟩ := zLL_pw h
  rw [List.pairwise_iff_getElem] at hpw
  have hel : ∀ i, (hi : i < (zLL S).length) → ∃ x, x < mK S ∧ (zLL S)[i] = nI x ∧ fA S (6 * x + 2) = 0 := by
    intro i hi
    obtain ⟨A, P, Q, x, hx, e, hp, -⟩ := hmem _ (List.getElem_mem hi)
    exact ⟨x, hx, e, hp⟩
  have hgd : ∀ i, (hi : i < (zLL S).length) → (zLL S).getD i (-5) = (zLL S)[i] := by
    intro i hi
    rw [List.getD_eq_getElem?_getD, List.getElem?_eq_getElem hi]; rfl
  have pe : ∀ x, x < mK S → decide (nZ s x = 0) = decide (fA S (6 * x + 2) = 0) := fun x hx => by rw [(h.2.2.1 x hx).2.2.1]
  have key := rank_at (p := fun x => decide (fA S (6 * x + 2) = 0)) (R := lx S) (F := fun i => ((zLL S).getD i (-5)).toNatClampNeg) (n := (zLL S).length) (M := mK S) (by omega)
    (fun i hi => by
      obtain ⟨x, hx, e, hp⟩ := hel i hi
      simp only [hgd i hi, e, nI_clamp (show x < 2147483648 by omega)]
      exact ⟨hx, decide_eq_true hp⟩)
    (fun i j hij hj => by
      have := hpw i j (by omega) hj hij
      simp only [hgd i (by omega), hgd j hj]
      exact this)
    (fun x hx hp => by
      obtain ⟨i, hi, e⟩ := List.mem_iff_getElem.mp (zLL_all h hx (of_decide_eq_true hp))
      exact ⟨i, hi, by simp only [hgd i hi, e, nI_clamp (show x < 2147483648 by omega)]⟩) k
  rw [hM, zPd_LL h]
  refine Eq.trans ?_ (key.symm.trans (zf_cg (fun x hx => ?_)))
  · by_cases c : k < (zLL S).length
    · rw [if_pos c]
      obtain ⟨x, hx, e, -⟩ := hel k c
      rw [hgd k c, e, nI_clamp (by omega)]
    · rw [if_neg c, List.getD_eq_getElem?_getD, List.getElem?_eq_none (by omega)]; rfl
  · unfold mAh
    rw [pe x hx]
    congr 2
    refine congrArg (· = k) (zc_cg (fun y hy => ?_))
    rw [pe y hy, RR_lx h hB hy hx]
