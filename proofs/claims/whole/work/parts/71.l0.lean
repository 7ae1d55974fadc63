/-! THE CLAIM OUT OF ONE WALK OF THE LAW'S BODY. Your part is whole_start (and what it stands on); all else here is the same for every law, but numbers. -/
def R_law : String := "TrackedTableLaw"
def lw_P (b : Addr) (xs : List Int32) (args : Array Value) (s : State) : Prop := args = #[.ref b] ∧ s.IntsAt b xs ∧ xs.length ≤ 2560 ∧ (Jvm.Cond.and given_1 narrow_1).before args s = true
def lw_Q (_ : Array Value) (s : State) (o : Outcome) (t : State) : Prop := o = .returned (some (.int 1)) ∧ Framed s o t [] 600000 7302250
def lw_Z (below : List Frame) (a : Array Value) (s : State) : State → Prop := fun t => ∃ o, t.status = .running ∧ Ended t below o ∧ lw_Q a s o t
/-- the law's own end, with 1 on the stack, nothing written that was there before, its room as the claim has it -/
theorem lw_ret {p : Program} {l : Launch} {e : Env} {s : State} {m : MethodId} {below : List Frame} {meth : Method} {c : Code} {b : Nat} (hx : p.tables.exec = Jvm.exec) (hb : c.code = code) (hr : meth.sig.returnType = ret) (hlocks : meth.locks = false) {pc : Nat} {H : Heap} {ls : Array Slot} (hdg : decode code pc = .ok (.ireturn, 1)) : W p l e room_1 s m #[Value.ref b] below meth c H [] 600000 7302250 (lw_Z below #[Value.ref b] s) (F0 m pc ls [.int 1]) := by
  intro T hT X
  obtain ⟨fs, hret, hrun, hended, hW, hframe⟩ := X.leave (v := some (.int 1)) (hlocks := hlocks) (fun h => by rw [hr] at h; cases h)
  have hmeth' : T.vm.method? m = some meth := X.method'
  refine ⟨T.setFrames fs, ?_, .returned (some (.int 1)), hrun, hended, rfl, ⟨_, rfl⟩, hW, hframe⟩
  jvm_step X.here [X.here.top, hx, hb, hdg, hmeth', hr, ret, narrow_b1]
  (try refine ⟨rfl, ?_⟩); (try refine ⟨rfl, ?_⟩)
  first | (intro acts; rw [hret _ acts rfl rfl rfl]) | rw [hret _ _ rfl rfl rfl]
  exact Steps.refl _
/-- what holds at the law's entry: the machine, the code, the tables' words (any of lw_tbl by 'hts w (by decide +kernel)'), the script of L ints xs at the cell b, what the Statement gives of the start (any of its parts by flat_of_before) -/
def lw_At (p : Program) (s : State) (m : MethodId) (meth : Method) (c : Code) (b L : Nat) (xs : Nat → Int32) : Prop :=
  p.tables.exec = Jvm.exec ∧ c.code = code ∧ meth.sig.returnType = ret ∧ c.maxLocals = 4 ∧ s.vm.findClass R_law = some m.cls ∧ (∀ w ∈ lw_tbl, w.before #[Value.ref b] s = true) ∧ va_X b L xs s s.heap ∧ b < s.heap.size ∧ meth.locks = false ∧ (Jvm.Cond.and given_1 narrow_1).before #[Value.ref b] s = true
/-! the law's own rows: its script, its making of the two objects, its end -/
def zLa (X : zX) (b L : Nat) (xs : Nat → Int32) : Prop :=
  match X with
  | (p, E, e, R, s, m, args, below, meth, c, Q, A, nL) => va_X b L xs s s.heap ∧ b < s.heap.size ∧ ¬ A b
def zRm (X : zX) : Prop :=
  match X with
  | (p, E, e, R, s, m, args, below, meth, c, Q, A, nL) => R.cells = 600000 ∧ R.slots = 7302250
def zLe (X : zX) (b : Nat) : Prop :=
  match X with
  | (p, E, e, R, s, m, args, below, meth, c, Q, A, nL) => Q = lw_Z below #[Value.ref b] s ∧ args = #[Value.ref b] ∧ meth.sig.returnType = ret ∧ meth.locks = false ∧ R = room_1 ∧ A = fun q => s.heap.size ≤ q
section LAWROWS
variable {X : zX} {k n : Nat} {cc : ByteArray} {own : String} {Ts : List Cond} {d : Nat} {ws : va_W} {lv : List (Option Value)} {st : List Value} {pc : Nat}
theorem z_sld (C : zC X k n cc own Ts d) {b L : Nat} {xs : Nat → Int32} (La : zLa X b L xs) {i : Nat} (hi : i < L) (hL : L < 2147483648) (hd : decode cc pc = .ok (.iaload, 1)) (kk : zG X k n ws lv (.int (xs i) :: st) (pc + 1)) : zG X k n ws lv (.int (nI i) :: .ref b :: st) pc := by
  obtain ⟨p, E, e, R, s, m, args, below, meth, c, Q, A, nL⟩ := X
  intro H locs ls hP hD hS hL'
  have kk' := kk H locs ls hP hD hS hL'
  refine va_sld C.1 C.2.1 La.1 La.2.1 La.2.2 hS (vp_in_nI hi hL) hd ?_
  rw [nI_clamp (by omega)]
  exact kk'
theorem z_slen (C : zC X k n cc own Ts d) {b L : Nat} {xs : Nat → Int32} (La : zLa X b L xs) (hd : decode cc pc = .ok (.arraylength, 1)) (kk : zG X k n ws lv (.int (nI L) :: st) (pc + 1)) : zG X k n ws lv (.ref b :: st) pc := by
  obtain ⟨p, E, e, R, s, m, args, below, meth, c, Q, A, nL⟩ := X
  intro H locs ls hP hD hS hL'
  exact va_slen C.1 C.2.1 La.1 La.2.1 La.2.2 hS hd (kk H locs ls hP hD hS hL')
theorem z_lend (C : zC X k n code own Ts d) {b : Nat} (Le : zLe X b) (hk : k ≤ 600000) (hn : n ≤ 7302250) (hd : decode code pc = .ok (.ireturn, 1)) : zG X k n ws lv [.int 1] pc := by
  obtain ⟨p, E, e, R, s, m, args, below, meth, c, Q, A, nL⟩ := X
  obtain ⟨rfl, rfl, hr, hlk, rfl, rfl⟩ := Le
  intro H locs ls hP hD hS hL'
  refine va_forget (fun q hq => hS.2.2 q hq) ?_
  refine W.widen hk hn ?_
  exact lw_ret C.1 C.2.1 hr hlk hd
theorem z_newL (C : zC X k n cc own Ts d) (M : zRm X) (ci : Nat) {idx N k' n' : Nat} {R0 : String} {T : u_T} (ty : Nat → FieldType) (hin : ∀ w ∈ u_ws R0 T N, w ∈ Ts) (hty : ∀ k, k < N → parseFieldDescriptor (T k).2.2.1 = some (ty k)) (h1 : Cond.classLink own idx R0 ∈ Ts) (h2 : Cond.instantiable R0 N ∈ Ts) (h3 : Cond.initialized R0 ∈ Ts) (hc : vwCl[ci]? = some (R0, T, N)) {fs : List Value} (hfs : ∀ j, j < N → defaultValue (ty j) = vp_V fs j) (hk : k + 1 = k') (hn : n + N = n') (hk2 : k' ≤ 600000) (hn2 : n' ≤ 7302250) (hd : decode cc pc = .ok (.new idx, 3)) (kk : ∀ q : Nat, zG X k' n' (ws ++ [(q, .inr (ci, fs))]) lv (.ref q :: st) (pc + 3)) : zG X k n ws lv st pc := by
  obtain ⟨p, E, e, R, s, m, args, below, meth, c, Q, A, nL⟩ := X
  intro H locs ls hP hD hS hL
  obtain ⟨hx, hb, hmx, hown, hts, hK, hA0, hdR, hdL, hkR, hnR⟩ := C
  obtain ⟨m1, m2⟩ := M
  subst hk; subst hn
  exact va_new (ci := ci) (fs := fs) hx hb hts hin ty hty hown (hts _ h1) (hts _ h2) (hts _ h3) hK.1 hP hD hS hA0 hc hfs (by omega) (by omega) hd (fun q H1 hP hD hS => kk q H1 locs ls hP hD hS hL)
variable {y : MethodName} {wy : List Cond} {bytes : ByteArray} {maxL : Nat} {n2 d' idx : Nat} {b : Nat} {As : List Value} {wc wr : va_W}
theorem z_callIL (C : zC X k n cc own Ts d) (M : zRm X) (ky : zY y wy bytes maxL none n2) (hy1 : y.name = "<init>") (g : GoodIn Ts wy) (hi : Cond.initialized y.cls ∈ Ts) (hl : Cond.methodLink own idx y ∈ Ts) (him : Cond.instanceMethod y ∈ Ts) {mc1 ms1 k' n' : Nat} {f : (Nat → Nat) → va_W} (hM : zMI X.2.1 y wy d' mc1 ms1 (.ref b :: As) wc f) (hd : decode cc pc = .ok (.invokespecial idx, 3)) (isC isR : List Nat) (rest : List Value) (hC : isC.map (fun i => ws[i]?) = wc.map some) (hR : isR.map (fun i => ws[i]?) = wr.map some) (hnd : va_nd isC = true) (hndR : va_nd isR = true) (hdis : ∀ i ∈ isR, i ∉ isC) (hn : As.length = n2) (hd2 : d' + 1 ≤ d) (hml : maxL ≤ 11) (hrest : (rest.map fun v => v.category).sum ≤ 8) (hst : st = As.reverse ++ .ref b :: rest) (hk : k + mc1 = k') (hn' : n + ms1 = n') (hk2 : k' ≤ 600000) (hn2 : n' ≤ 7302250) (kk : ∀ q : Nat → Nat, zG X k' n' (wr ++ f q) lv rest (pc + 3)) : zG X k n ws lv st pc := by
  obtain ⟨p, E, e, R, s, m, args, below, meth, c, Q, A, nL⟩ := X
  intro H locs ls hP hD hS hL
  subst hst; subst hk; subst hn'
  obtain ⟨hx, hb, hmx, hown, hts, hK, hA0, hdR, hdL, hkR, hnR⟩ := C
  obtain ⟨m1, m2⟩ := M
  obtain ⟨⟨w2, hw⟩, ky2, -⟩ := ky
  refine z_backI hP hD hS hA0 hC hR hndR hdis (va_runI ⟨hx, hb, hmx, hown, hts⟩ (hM H.size) (cwI n2 hts g hw rfl rfl (hts _ hi) (hts _ hl) (hts _ him) hy1 ky2 ⟨?_, ?_⟩) ⟨zPc.blind, fun U hU hW => zPc.of hP hD hK hC hnd hU hW⟩ rfl hn hL.1 rfl (lv_room hrest) hd ⟨by omega, by omega⟩) (fun q H1 locs1 hP1 hD1 hS1 => kk q H1 locs1 ls hP1 hD1 hS1 hL)
  · show d' + 1 ≤ R.frames
    omega
  · show 8 + (maxL + 11) + 30 * d' ≤ R.locals
    omega
theorem zC_mono {k' n' : Nat} (C : zC X k n cc own Ts d) (M : zRm X) (hk : k' ≤ 600000) (hn : n' ≤ 7302250) : zC X k' n' cc own Ts d := by
  obtain ⟨p, E, e, R, s, m, args, below, meth, c, Q, A, nL⟩ := X
  obtain ⟨a1, a2, a3, a4, a5, a6, a7, a8, a9, -, -⟩ := C
  obtain ⟨m1, m2⟩ := M
  exact ⟨a1, a2, a3, a4, a5, a6, a7, a8, a9, by omega, by omega⟩
end LAWROWS
/-- both objects new: the same table -/
def S0 : zSt := (nI, 0, nI, 0, fun _ => 0, fun _ => 0, 0, true)
theorem RO_nI {n : Nat} (hn : n < 100000) : RO nI n := ⟨fun j hj => ⟨j, hj, rfl⟩, fun i j hi hj e => (nI_eq (by omega) (by omega)).mp e⟩
theorem RR_0 : RR S0 m0 0 := by
  have v : ∀ {P : Nat → Prop}, ∀ p, p < 0 → P p := fun p h => absurd h (Nat.not_lt_zero p)
  refine ⟨⟨⟨⟨Nat.zero_le _, Nat.zero_le _, Nat.zero_le _⟩, fun j hj => nI_pos (by omega), fun j hj => nI_pos (by omega)⟩, ⟨Nat.zero_le _, Nat.zero_le _, Nat.zero_le _, fun p => (by decide : (0 : Nat) < 12), fun p => (by decide : (0 : Nat) < 8), fun x h => absurd h (Nat.not_lt_zero x)⟩, ⟨fun p q h => absurd h (Nat.not_lt_zero p), fun p q h => absurd h (Nat.not_lt_zero p)⟩, ⟨fun p q h => absurd h (Nat.not_lt_zero p), fun p q h => absurd h (Nat.not_lt_zero p)⟩⟩, ⟨rfl, rfl, rfl, rfl⟩, fun x h => absurd h (Nat.not_lt_zero x), ⟨fun x h => absurd h (Nat.not_lt_zero x), fun x h => absurd h (Nat.not_lt_zero x)⟩, ⟨RO_nI (by decide), RO_nI (by decide)⟩, fun p q h => absurd h (Nat.not_lt_zero p), ⟨Nat.le_refl _, fun p h => absurd h (Nat.not_lt_zero p), fun p h => absurd h (Nat.not_lt_zero p), fun x h => absurd h (Nat.not_lt_zero x)⟩, fun x h => absurd h (Nat.not_lt_zero x), fun x y h => absurd h (Nat.not_lt_zero x)⟩
theorem HH_0 (P : Nat → zSt) (Q : Nat → zMs) : HH 0 0 P Q 0 := ⟨by decide, by decide, fun i h => absurd h (Nat.not_lt_zero i)⟩
