/-! the text, as it is typed -/
def tyL (tx : Nat → Nat) : List Nat → Nat → Nat
  | [] => tx
  | c :: l => zUpN (tyL tx l) l.length c
theorem tyL_b {tx : Nat → Nat} (h : ∀ j, tx j < 65536) : ∀ {l : List Nat}, (∀ c ∈ l, c < 65536) → ∀ j, tyL tx l j < 65536
  | [], _, j => h j
  | c :: l, hl, j => by
    show (if j = l.length then c else tyL tx l j) < 65536
    split
    · exact hl c List.mem_cons_self
    · exact tyL_b h (fun d hd => hl d (List.mem_cons_of_mem _ hd)) j
theorem l_clr (E : zE) (x0 t0 h0 w0 w1 : Nat) (tx : Nat → Nat) (ln : Nat) (ps : zPs) (hln : ln ≤ 60) : zM E yX5_clearText wsX5_clearText 1 [.ref x0] (WXd E x0 t0 h0 w0 w1 tx ln ps) (WXd E x0 t0 h0 w0 w1 tx 0 ps) (some (.int (nI ln))) := mX5_clearText E x0 t0 h0 w0 w1 tx ln ps hln
theorem l_typ (E : zE) (x0 t0 h0 w0 w1 : Nat) (tx : Nat → Nat) (l : List Nat) (ps : zPs) (c n : Nat) (hn : l.length = n) (h60 : n < 60) (htx : ∀ j, tx j < 65536) (hl : ∀ c ∈ l, c < 65536) (hc : c < 65536) : zM E yX5_type wsX5_type 1 [.ref x0, .int (nI c)] (WXd E x0 t0 h0 w0 w1 (tyL tx l) n ps) (WXd E x0 t0 h0 w0 w1 (tyL tx (c :: l)) (n + 1) ps) (some (.int (nI (n + 1)))) := by
  subst hn
  exact mX5_type9 E x0 t0 h0 w0 w1 (tyL tx l) l.length ps c h60 (tyL_b htx hl) hc
theorem chr_n {n : Nat} (h : n < 65536) : ((nI n).toUInt32 % 65536).toInt32 = nI n := by
  rw [pk_char, pk_tn (by omega), Nat.mod_eq_of_lt h]
