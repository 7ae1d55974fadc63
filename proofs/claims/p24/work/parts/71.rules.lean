/-! the law's own methods: rows that they want beside the layer's -/
/-- THE CONTRACT of a method that makes mc cells of ms slots and forgets them -/
def zMA (E : zE) (y : MethodName) (wy : List Cond) (d mc ms : Nat) (args : List Value) (ws ws' : va_W) (r : Option Value) : Prop := ∀ sz : Nat, Met E.1 y wy (zR d mc ms) (zPc E args sz ws) (zQ E r ws' (va_A ws sz)) mc ms (va_A ws sz)
def zNA (X : zX) (mc ms : Nat) (ret : Option FieldType) (r : Option Value) (ws' : va_W) : Prop :=
  match X with
  | (p, E, e, R, s, m, args, below, meth, c, Q, A, nL) => Q = MQ below (zQ E r ws' A) args s mc ms A ∧ meth.sig.returnType = ret ∧ meth.locks = false ∧ R.cells = mc ∧ R.slots = ms
theorem zNA.cells {X : zX} {mc ms : Nat} {ret : Option FieldType} {r : Option Value} {ws' : va_W} (N : zNA X mc ms ret r ws') {k n : Nat} {cc : ByteArray} {own : String} {Ts : List Cond} {d : Nat} (C : zC X k n cc own Ts d) {k' n' : Nat} (hk : k' ≤ mc) (hn : n' ≤ ms) : zC X k' n' cc own Ts d := by
  obtain ⟨p, E, e, R, s, m, args, below, meth, c, Q, A, nL⟩ := X
  obtain ⟨-, -, -, rfl, rfl⟩ := N
  obtain ⟨a1, a2, a3, a4, a5, a6, a7, a8, a9, -, -⟩ := C
  exact ⟨a1, a2, a3, a4, a5, a6, a7, a8, a9, hk, hn⟩
theorem zMA.of {E : zE} {y : MethodName} {wy : List Cond} {bytes : ByteArray} {maxL : Nat} {ret : Option FieldType} {n d mc ms : Nat} (ky : zY y wy bytes maxL ret n) {args : List Value} {ws ws' : va_W} {r : Option Value} (ha : (lg_sl args).length ≤ maxL) (hc : (args.all fun v => v.category == 1) = true) (lv : List (Option Value)) (hlv : z0 args maxL = lv) (hln : lv.length ≤ maxL)
    (body : ∀ X : zX, X.2.1 = E → zC X 0 0 bytes y.cls wy d → zNA X mc ms ret r ws' → zG X 0 0 ws lv [] 0) : zMA E y wy d mc ms args ws ws' r := by
  intro sz
  subst hlv
  have hc : ∀ v ∈ args, v.category = 1 := fun v hv => by simpa using List.all_eq_true.mp hc v hv
  obtain ⟨⟨w2, hw⟩, -, hp⟩ := ky
  refine va_MetF (cc := bytes) (maxL := maxL) (ret := ret) hp hw ?_
  intro p e s m a below meth c s₁ B hml hv
  obtain ⟨rfl, hsz, hP, hK, hD0⟩ := hv
  subst hsz
  have hb := body (p, E, e, zR d mc ms, s, m, args.toArray, below, meth, c, MQ below (zQ E r ws' (va_A ws s.heap.size)) args.toArray s mc ms (va_A ws s.heap.size), va_A ws s.heap.size, maxL) rfl
    ⟨B.exec, B.bytes, hml, findClass_of_methodNamed B.named, atoms_spec (ws := wy) B.pre, hK, fun q h => Or.inr h, Nat.le_refl _, Nat.le_refl _, Nat.zero_le _, Nat.zero_le _⟩ ⟨rfl, B.returns, B.notSynchronized, rfl, rfl⟩
  rw [lg_entry_eq]
  exact hb s.heap [] _ hP hD0.self va_S.rf (zH.entry args maxL hc ha hln)
section LRULES
variable {X : zX} {k n : Nat} {cc : ByteArray} {own : String} {Ts : List Cond} {d : Nat} {ws : va_W} {lv : List (Option Value)} {st : List Value} {pc : Nat}
theorem z_newA (C : zC X k n cc own Ts d) {mc ms : Nat} {ret : Option FieldType} {r : Option Value} {wr : va_W} (M : zNA X mc ms ret r wr) (h1 : Cond.arrayClass .int ∈ Ts) {v : Int32} {N' k' n' : Nat} (hv : ¬ v < 0) (hN : v.toNatClampNeg = N') (hb4 : N' * 4 ≤ 536870912) (hk : k + 1 = k') (hn : n + N' = n') (hk2 : k' ≤ mc) (hn2 : n' ≤ ms) (hd : decode cc pc = .ok (.newarray .int, 2)) (kk : ∀ q : Nat, zG X k' n' (ws ++ [(q, .inl (X.2.1.2.2.1, N', .inl (fun _ => 0)))]) lv (.ref q :: st) (pc + 2)) : zG X k n ws lv (.int v :: st) pc := by
  obtain ⟨p, E, e, R, s, m, args, below, meth, c, Q, A, nL⟩ := X
  intro H locs ls hP hD hS hL
  obtain ⟨hx, hb, hmx, hown, hts, hK, hA0, hdR, hdL, hkR, hnR⟩ := C
  obtain ⟨-, -, -, rfl, rfl⟩ := M
  subst hk; subst hn
  refine va_newa (atype := .int) (ty := .int) (a0 := (N', .inl (fun _ => 0))) hx hb (hts _ h1) rfl hK.1 hP hD hS hA0 (fun cA => by rw [vp_cell_i]; rfl) hv hN hb4 hk2 hn2 hd (fun q cA H1 hK2 hP hD hS => ?_)
  have e1 := va_nm_int (hK2.2 3 (cA, .int) rfl).2
  have e2 := va_nm_int (hK.1.2 0 (E.2.2.1, .int) rfl).2
  obtain rfl : cA = E.2.2.1 := Option.some.inj (e1.symm.trans e2)
  exact kk q H1 locs ls hP hD hS hL
/-- cells that are no longer wanted -/
theorem z_drop {wr : va_W} (is : List Nat) (hC : is.map (fun i => ws[i]?) = wr.map some) (hnd : va_nd is = true) (kk : zG X k n wr lv st pc) : zG X k n ws lv st pc := by
  obtain ⟨p, E, e, R, s, m, args, below, meth, c, Q, A, nL⟩ := X
  intro H locs ls hP hD hS hL
  exact kk H locs ls (z_sub hP hC) (hD.sub is hnd hC) hS hL
theorem z_zretA (C : zC X k n cc own Ts d) {mc ms : Nat} {r : Option Value} {ws' : va_W} {ty : FieldType} (N : zNA X mc ms (some ty) r ws') {v : Int32} (hk : k ≤ mc) (hn' : n ≤ ms) (is : List Nat) (hC : is.map (fun i => ws[i]?) = ws'.map some) (hnd : va_nd is = true) (hd : decode cc pc = .ok (.ireturn, 1)) (hn : narrow ty (.int v) = .int v) (hr : some (Value.int v) = r) : zG X k n ws lv [.int v] pc := by
  obtain ⟨p, E, e, R, s, m, args, below, meth, c, Q, A, nL⟩ := X
  intro H locs ls hP hD hS hL
  obtain ⟨rfl, hr2, hlk, -, -⟩ := N
  subst hr
  have hP := z_sub hP hC
  refine W.widen hk hn' ?_
  exact W.zret C.1 C.2.1 hr2 hn (fun t ht hW => ⟨⟨rfl, by rw [ht]; exact hP⟩, hS.F ht⟩) hS.2.2 hd hlk
theorem z_iastX (C : zC X k n cc own Ts d) (q0 : Nat) {a N i : Nat} {f f' : Nat → Int32} {x : Int32} {wn : va_W} (hd : decode cc pc = .ok (.iastore, 1)) (he : ws[q0]? = some (a, .inl (X.2.1.2.2.1, N, .inl f))) (hi : i < N) (hN : N < 2147483648) (hf : ∀ j, j < N → upd f i x j = f' j) (hw : ws.set q0 (a, .inl (X.2.1.2.2.1, N, .inl f')) = wn) (kk : zG X k n wn lv st (pc + 1)) : zG X k n ws lv (.int x :: .int (nI i) :: .ref a :: st) pc := by
  refine z_iastN C q0 hd he hi hN ?_
  have hq : q0 < ws.length := (List.getElem?_eq_some_iff.mp he).1
  refine z_ext q0 f' (a := a) (N := N) (cA := X.2.1.2.2.1) (f := upd f i x) (by rw [List.getElem?_set_self hq]) hf ?_
  rw [List.set_set, hw]
  exact kk
/-- the locals written out -/
theorem z_lv {lv' : List (Option Value)} (h : lv = lv') (kk : zG X k n ws lv' st pc) : zG X k n ws lv st pc := by rw [h]; exact kk
theorem z_ldc (C : zC X k n cc own Ts d) {idx : Nat} {v : Int32} (h1 : Cond.constant own idx v ∈ Ts) (hd : decode cc pc = .ok (.ldc idx, 2)) (kk : zG X k n ws lv (.int v :: st) (pc + 2)) : zG X k n ws lv st pc := by
  obtain ⟨p, E, e, R, s, m, args, below, meth, c, Q, A, nL⟩ := X
  intro H locs ls hP hD hS hL
  exact W.ldc C.1 C.2.1 C.2.2.2.1 (C.2.2.2.2.1 _ h1) rfl hd (kk H locs ls hP hD hS hL)
variable {y : MethodName} {wy : List Cond} {bytes : ByteArray} {maxL : Nat} {ret : Option FieldType} {n2 d' idx : Nat} {b : Nat} {As : List Value} {wc w1 wn : va_W}
/-- a static method that leaves its world as it is -/
theorem z_callSr (C : zC X k n cc own Ts d) (ky : zY y wy bytes maxL ret n2) (g : GoodIn Ts (va_wsS own idx y wy)) {v : Value} (hM : zM X.2.1 y wy d' As wc wc (some v)) (hd : decode cc pc = .ok (.invokestatic idx, 3)) (isC : List Nat) (rest : List Value) (hC : isC.map (fun i => ws[i]?) = wc.map some) (hnd : va_nd isC = true) (hn : As.length = n2) (hd2 : d' + 1 ≤ d) (hml : maxL ≤ 11) (hrest : (rest.map fun v => v.category).sum ≤ 8) (hst : st = As.reverse ++ rest) (kk : zG X k n ws lv (v :: rest) (pc + 3)) : zG X k n ws lv st pc := z_callS0 C ky g hM hd isC rest hC rfl hnd hn hd2 hml hrest hst (zput_same isC wc ws hC) kk
/-- the law's own room -/
def zRq (X : zX) : Prop :=
  match X with
  | (p, E, e, R, s, m, args, below, meth, c, Q, A, nL) => R = room_1
theorem zRq.mono {X : zX} (M : zRq X) {k n k' n' : Nat} {cc : ByteArray} {own : String} {Ts : List Cond} {d : Nat} (C : zC X k n cc own Ts d) (hk : k' ≤ 600000) (hn : n' ≤ 7302250) : zC X k' n' cc own Ts d := by
  obtain ⟨p, E, e, R, s, m, args, below, meth, c, Q, A, nL⟩ := X
  obtain rfl : R = room_1 := M
  obtain ⟨a1, a2, a3, a4, a5, a6, a7, a8, a9, -, -⟩ := C
  exact ⟨a1, a2, a3, a4, a5, a6, a7, a8, a9, hk, hn⟩
theorem z_backA {p : Program} {E : zE} {e : Env} {R : Room} {s : State} {m : MethodId} {args : Array Value} {below : List Frame} {meth : Method} {c : Code} {H : Heap} {locs : List Loc} {cells slots mc ms : Nat} {Q : State → Prop} {pc : Nat} {ls : Array Slot} {rest st0 : List Value} {a : Array Value} {A : Nat → Prop} {ws wc w1 wn : va_W} {r : Option Value} {isC : List Nat}
    (hP : va_P E.2.1 vwCl ws H) (hD : va_D A ws) (hS : va_S A s.heap H locs) (hA0 : ∀ q : Nat, s.heap.size ≤ q → A q) (hC : isC.map (fun i => ws[i]?) = wc.map some) (hA : w1.map Prod.fst = wc.map Prod.fst) (hn : zput ws isC w1 = wn)
    (hr : va_Run p E.1 e R s m args below meth c H locs cells slots mc ms (F0 m pc ls st0) rest (zQ E r w1 (va_A wc H.size) a) (va_A wc H.size))
    (kk : ∀ (H1 : Heap) (locs1 : List Loc), va_P E.2.1 vwCl wn H1 → va_D A wn → va_S A s.heap H1 locs1 → W p E.1 e R s m args below meth c H1 locs1 (cells + mc) (slots + ms) Q (F0 m (pc + 3) ls (r.toList ++ rest))) : W p E.1 e R s m args below meth c H locs cells slots Q (F0 m pc ls st0) := by
  intro T hT X
  have hF := va_free hD hS hA0 isC hC
  obtain ⟨v, st₀, t, T', L, h0, X', hL, e1, e2, ⟨⟨hv, hp⟩, hz, hk⟩, st⟩ := hr T hT X
  cases hv
  rw [h0] at hz hk
  rw [← e1] at hz hk hp
  obtain ⟨hP1, hD1⟩ := z_join hP hD hC hA hn hk hp
  obtain ⟨t2, a1, b1⟩ := kk T'.heap (locs ++ L) hP1 hD1
    ⟨Nat.le_trans hS.1 hz, fun q h1 h2 => by rw [hk q (Nat.lt_of_lt_of_le h1 hS.1) (fun z => h2 (hF q z))]; exact hS.2.1 q h1 h2, fun q hq => by
      rcases List.mem_append.mp hq with h | h
      · exact hS.2.2 q h
      · exact hF _ (hL q h)⟩ T' rfl X'
  exact ⟨t2, st t2 a1, b1⟩
theorem z_callSQ (C : zC X k n cc own Ts d) (M : zRq X) (ky : zY y wy bytes maxL ret n2) (g : GoodIn Ts (va_wsS own idx y wy)) {r : Option Value} {mc ms k' n' : Nat} (hM : zMA X.2.1 y wy d' mc ms As wc w1 r) (hd : decode cc pc = .ok (.invokestatic idx, 3)) (isC : List Nat) (rest : List Value) (hC : isC.map (fun i => ws[i]?) = wc.map some) (hA : w1.map Prod.fst = wc.map Prod.fst) (hnd : va_nd isC = true) (hn : As.length = n2) (hd2 : d' + 1 ≤ 11) (hml : 8 + (maxL + 11) + 30 * d' ≤ 428) (hrest : (rest.map fun v => v.category).sum ≤ 8) (hst : st = As.reverse ++ rest) (hwn : zput ws isC w1 = wn) (hk : k + mc = k') (hn' : n + ms = n') (hk2 : k' ≤ 600000) (hn2 : n' ≤ 7302250) (kk : zG X k' n' wn lv (r.toList ++ rest) (pc + 3)) : zG X k n ws lv st pc := by
  obtain ⟨p, E, e, R, s, m, args, below, meth, c, Q, A, nL⟩ := X
  intro H locs ls hP hD hS hL
  subst hst; subst hk; subst hn'
  obtain ⟨hx, hb, hmx, hown, hts, hK, hA0, hdR, hdL, hkR, hnR⟩ := C
  obtain rfl : R = room_1 := M
  obtain ⟨⟨w2, hw⟩, ky2, -⟩ := ky
  exact z_backA hP hD hS hA0 hC hA hwn (va_runS ⟨hx, hb, hmx, hown, hts⟩ (hM H.size) (va_cwS n2 hts g hw rfl rfl ky2 ⟨hd2, hml⟩) ⟨zPc.blind, fun U hU hW => zPc.of hP hD hK hC hnd hU hW⟩ rfl hn hL.1 rfl (lv_room hrest) hd ⟨hk2, hn2⟩) (fun H1 locs1 hP1 hD1 hS1 => kk H1 locs1 ls hP1 hD1 hS1 hL)
end LRULES
