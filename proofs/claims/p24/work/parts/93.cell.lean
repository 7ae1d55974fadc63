/-! the law: its script, its method cell, its own rows -/
def R_law : String := "TrackedTableLaw"
def lw_P (b : Addr) (xs : List Int32) (args : Array Value) (s : State) : Prop := args = #[.ref b] ∧ s.IntsAt b xs ∧ xs.length ≤ 260 ∧ (Jvm.Cond.and given_1 narrow_1).before args s = true
def lw_Q (_ : Array Value) (s : State) (o : Outcome) (t : State) : Prop := o = .returned (some (.int 1)) ∧ Framed s o t [] 600000 7302250
def lw_Z (below : List Frame) (a : Array Value) (s : State) : State → Prop := fun t => ∃ o, t.status = .running ∧ Ended t below o ∧ lw_Q a s o t
/-- the law's own end, with 1 on the stack, nothing written that was there before, its room as the claim has it -/
theorem lw_ret {p : Program} {l : Launch} {e : Env} {s : State} {m : MethodId} {below : List Frame} {meth : Method} {c : Code} {b : Nat} (hx : p.tables.exec = Jvm.exec) (hb : c.code = code) (hr : meth.sig.returnType = ret) (hlocks : meth.locks = false) {pc : Nat} {H : Heap} {ls : Array Slot} (hdg : decode code pc = .ok (.ireturn, 1)) : W p l e room_1 s m #[Value.ref b] below meth c H [] 600000 7302250 (lw_Z below #[Value.ref b] s) (F0 m pc ls [.int 1]) := by
  intro T hT X
  obtain ⟨fs, hret, hrun, hended, hW, hframe⟩ := X.leave (v := some (.int 1)) (hlocks := hlocks) (fun h => by rw [hr] at h; cases h)
  have hmeth' : T.vm.method? m = some meth := X.method'
  refine ⟨T.setFrames fs, ?_, .returned (some (.int 1)), hrun, hended, rfl, ⟨_, rfl⟩, hW, hframe⟩
  jvm_step X.here [X.here.top, hx, hb, hdg, hmeth', hr, ret, narrow_b1]
  (try refine ⟨rfl, ?_⟩); (try refine ⟨rfl, ?_⟩)
  first | (intro acts; rw [hret _ acts rfl rfl rfl]) | rw [hret _ _ rfl rfl rfl]
  exact Steps.refl _
/-- what holds at the law's entry: the machine, the code, the tables' words (any of lw_tbl by 'hts w (by decide +kernel)'), the script of L ints xs at the cell b, what the Statement gives of the start (any of its parts by flat_of_before) -/
def lw_At (p : Program) (s : State) (m : MethodId) (meth : Method) (c : Code) (b L : Nat) (xs : Nat → Int32) : Prop :=
  p.tables.exec = Jvm.exec ∧ c.code = code ∧ meth.sig.returnType = ret ∧ c.maxLocals = 14 ∧ s.vm.findClass R_law = some m.cls ∧ (∀ w ∈ lw_tbl, w.before #[Value.ref b] s = true) ∧ va_X b L xs s s.heap ∧ b < s.heap.size ∧ meth.locks = false ∧ (Jvm.Cond.and given_1 narrow_1).before #[Value.ref b] s = true
/-! the law's own rows: its script, its making of the two objects, its end -/
def zLa (X : zX) (b L : Nat) (xs : Nat → Int32) : Prop :=
  match X with
  | (p, E, e, R, s, m, args, below, meth, c, Q, A, nL) => va_X b L xs s s.heap ∧ b < s.heap.size ∧ ¬ A b
def zRm (X : zX) : Prop :=
  match X with
  | (p, E, e, R, s, m, args, below, meth, c, Q, A, nL) => R.cells = 600000 ∧ R.slots = 7302250
def zLe (X : zX) (b : Nat) : Prop :=
  match X with
  | (p, E, e, R, s, m, args, below, meth, c, Q, A, nL) => Q = lw_Z below #[Value.ref b] s ∧ args = #[Value.ref b] ∧ meth.sig.returnType = ret ∧ meth.locks = false ∧ R = room_1 ∧ A = fun q => s.heap.size ≤ q
section LAWROWS
variable {X : zX} {k n : Nat} {cc : ByteArray} {own : String} {Ts : List Cond} {d : Nat} {ws : va_W} {lv : List (Option Value)} {st : List Value} {pc : Nat}
theorem z_sld (C : zC X k n cc own Ts d) {b L : Nat} {xs : Nat → Int32} (La : zLa X b L xs) {i : Nat} (hi : i < L) (hL : L < 2147483648) (hd : decode cc pc = .ok (.iaload, 1)) (kk : zG X k n ws lv (.int (xs i) :: st) (pc + 1)) : zG X k n ws lv (.int (nI i) :: .ref b :: st) pc := by
  obtain ⟨p, E, e, R, s, m, args, below, meth, c, Q, A, nL⟩ := X
  intro H locs ls hP hD hS hL'
  have kk' := kk H locs ls hP hD hS hL'
  refine va_sld C.1 C.2.1 La.1 La.2.1 La.2.2 hS (vp_in_nI hi hL) hd ?_
  rw [nI_clamp (by omega)]
  exact kk'
theorem z_slen (C : zC X k n cc own Ts d) {b L : Nat} {xs : Nat → Int32} (La : zLa X b L xs) (hd : decode cc pc = .ok (.arraylength, 1)) (kk : zG X k n ws lv (.int (nI L) :: st) (pc + 1)) : zG X k n ws lv (.ref b :: st) pc := by
  obtain ⟨p, E, e, R, s, m, args, below, meth, c, Q, A, nL⟩ := X
  intro H locs ls hP hD hS hL'
  exact va_slen C.1 C.2.1 La.1 La.2.1 La.2.2 hS hd (kk H locs ls hP hD hS hL')
theorem z_lend (C : zC X k n code own Ts d) {b : Nat} (Le : zLe X b) (hk : k ≤ 600000) (hn : n ≤ 7302250) (hd : decode code pc = .ok (.ireturn, 1)) : zG X k n ws lv [.int 1] pc := by
  obtain ⟨p, E, e, R, s, m, args, below, meth, c, Q, A, nL⟩ := X
  obtain ⟨rfl, rfl, hr, hlk, rfl, rfl⟩ := Le
  intro H locs ls hP hD hS hL'
  refine va_forget (fun q hq => hS.2.2 q hq) ?_
  refine W.widen hk hn ?_
  exact lw_ret C.1 C.2.1 hr hlk hd
theorem z_newL (C : zC X k n cc own Ts d) (M : zRm X) (ci : Nat) {idx N k' n' : Nat} {R0 : String} {T : u_T} (ty : Nat → FieldType) (hin : ∀ w ∈ u_ws R0 T N, w ∈ Ts) (hty : ∀ k, k < N → parseFieldDescriptor (T k).2.2.1 = some (ty k)) (h1 : Cond.classLink own idx R0 ∈ Ts) (h2 : Cond.instantiable R0 N ∈ Ts) (h3 : Cond.initialized R0 ∈ Ts) (hc : vwCl[ci]? = some (R0, T, N)) {fs : List Value} (hfs : ∀ j, j < N → defaultValue (ty j) = vp_V fs j) (hk : k + 1 = k') (hn : n + N = n') (hk2 : k' ≤ 600000) (hn2 : n' ≤ 7302250) (hd : decode cc pc = .ok (.new idx, 3)) (kk : ∀ q : Nat, zG X k' n' (ws ++ [(q, .inr (ci, fs))]) lv (.ref q :: st) (pc + 3)) : zG X k n ws lv st pc := by
  obtain ⟨p, E, e, R, s, m, args, below, meth, c, Q, A, nL⟩ := X
  intro H locs ls hP hD hS hL
  obtain ⟨hx, hb, hmx, hown, hts, hK, hA0, hdR, hdL, hkR, hnR⟩ := C
  obtain ⟨m1, m2⟩ := M
  subst hk; subst hn
  exact va_new (ci := ci) (fs := fs) hx hb hts hin ty hty hown (hts _ h1) (hts _ h2) (hts _ h3) hK.1 hP hD hS hA0 hc hfs (by omega) (by omega) hd (fun q H1 hP hD hS => kk q H1 locs ls hP hD hS hL)
variable {y : MethodName} {wy : List Cond} {bytes : ByteArray} {maxL : Nat} {n2 d' idx : Nat} {b : Nat} {As : List Value} {wc wr : va_W}
theorem z_callIL (C : zC X k n cc own Ts d) (M : zRm X) (ky : zY y wy bytes maxL none n2) (hy1 : y.name = "<init>") (g : GoodIn Ts wy) (hi : Cond.initialized y.cls ∈ Ts) (hl : Cond.methodLink own idx y ∈ Ts) (him : Cond.instanceMethod y ∈ Ts) {mc1 ms1 k' n' : Nat} {f : (Nat → Nat) → va_W} (hM : zMI X.2.1 y wy d' mc1 ms1 (.ref b :: As) wc f) (hd : decode cc pc = .ok (.invokespecial idx, 3)) (isC isR : List Nat) (rest : List Value) (hC : isC.map (fun i => ws[i]?) = wc.map some) (hR : isR.map (fun i => ws[i]?) = wr.map some) (hnd : va_nd isC = true) (hndR : va_nd isR = true) (hdis : ∀ i ∈ isR, i ∉ isC) (hn : As.length = n2) (hd2 : d' + 1 ≤ d) (hml : maxL ≤ 11) (hrest : (rest.map fun v => v.category).sum ≤ 8) (hst : st = As.reverse ++ .ref b :: rest) (hk : k + mc1 = k') (hn' : n + ms1 = n') (hk2 : k' ≤ 600000) (hn2 : n' ≤ 7302250) (kk : ∀ q : Nat → Nat, zG X k' n' (wr ++ f q) lv rest (pc + 3)) : zG X k n ws lv st pc := by
  obtain ⟨p, E, e, R, s, m, args, below, meth, c, Q, A, nL⟩ := X
  intro H locs ls hP hD hS hL
  subst hst; subst hk; subst hn'
  obtain ⟨hx, hb, hmx, hown, hts, hK, hA0, hdR, hdL, hkR, hnR⟩ := C
  obtain ⟨m1, m2⟩ := M
  obtain ⟨⟨w2, hw⟩, ky2, -⟩ := ky
  refine z_backI hP hD hS hA0 hC hR hndR hdis (va_runI ⟨hx, hb, hmx, hown, hts⟩ (hM H.size) (cwI n2 hts g hw rfl rfl (hts _ hi) (hts _ hl) (hts _ him) hy1 ky2 ⟨?_, ?_⟩) ⟨zPc.blind, fun U hU hW => zPc.of hP hD hK hC hnd hU hW⟩ rfl hn hL.1 rfl (lv_room hrest) hd ⟨by omega, by omega⟩) (fun q H1 locs1 hP1 hD1 hS1 => kk q H1 locs1 ls hP1 hD1 hS1 hL)
  · show d' + 1 ≤ R.frames
    omega
  · show 8 + (maxL + 11) + 30 * d' ≤ R.locals
    omega
theorem zC_mono {k' n' : Nat} (C : zC X k n cc own Ts d) (M : zRm X) (hk : k' ≤ 600000) (hn : n' ≤ 7302250) : zC X k' n' cc own Ts d := by
  obtain ⟨p, E, e, R, s, m, args, below, meth, c, Q, A, nL⟩ := X
  obtain ⟨a1, a2, a3, a4, a5, a6, a7, a8, a9, -, -⟩ := C
  obtain ⟨m1, m2⟩ := M
  exact ⟨a1, a2, a3, a4, a5, a6, a7, a8, a9, by omega, by omega⟩
end LAWROWS

def zPcX (E : zE) (args : List Value) (sz b L : Nat) (xs : Nat → Int32) : Array Value → State → Prop := va_Pc args (fun U => U.heap.size = sz ∧ zKn E U ∧ va_X b L xs U U.heap ∧ b < sz)
/-- the contract of a method that reads the script -/
def zMX (E : zE) (y : MethodName) (wy : List Cond) (d : Nat) (args : List Value) (b L : Nat) (xs : Nat → Int32) (v : Value) : Prop := ∀ sz : Nat, Met E.1 y wy (zR d 0 0) (zPcX E args sz b L xs) (zQ E (some v) [] (va_A [] sz)) 0 0 (va_A [] sz)
theorem zPcX.blind {E : zE} {args : List Value} {sz b L : Nat} {xs : Nat → Int32} : FrameBlind (zPcX E args sz b L xs) := fun a U g mk q => ⟨q.1, q.2.1, q.2.2.1.call g mk a, va_X.moved (u := U) (U := U.calling g mk a) (Vm.Alike.refl U.vm) q.2.2.2.1, q.2.2.2.2⟩
theorem vaP0 {D : va_G} {H : Heap} : va_P D vwCl [] H := fun k q h => by simp at h
theorem vaD0 {A : Nat → Prop} : va_D A [] := ⟨fun i j p q h => by simp at h, fun k q h => by simp at h⟩
theorem vaA0 {sz b : Nat} (hb : b < sz) : ¬ va_A [] sz b := by
  intro h
  unfold va_A at h
  simp at h
  omega
theorem zMX.of {E : zE} {y : MethodName} {wy : List Cond} {bytes : ByteArray} {maxL : Nat} {ret : Option FieldType} {n d : Nat} (ky : zY y wy bytes maxL ret n) {args : List Value} {b L : Nat} {xs : Nat → Int32} {v : Value} (ha : (lg_sl args).length ≤ maxL) (hc : (args.all fun v => v.category == 1) = true) (lv : List (Option Value)) (hlv : z0 args maxL = lv) (hln : lv.length ≤ maxL)
    (body : ∀ X : zX, X.2.1 = E → zC X 0 0 bytes y.cls wy d → zN X 0 0 ret (some v) [] → zLa X b L xs → zG X 0 0 [] lv [] 0) : zMX E y wy d args b L xs v := by
  intro sz
  subst hlv
  have hc : ∀ v ∈ args, v.category = 1 := fun v hv => by simpa using List.all_eq_true.mp hc v hv
  obtain ⟨⟨w2, hw⟩, -, hp⟩ := ky
  refine va_MetF (cc := bytes) (maxL := maxL) (ret := ret) hp hw ?_
  intro p e s m a below meth c s₁ B hml hv
  obtain ⟨rfl, hsz, hK, hX, hbs⟩ := hv
  subst hsz
  have hb := body (p, E, e, zR d 0 0, s, m, args.toArray, below, meth, c, MQ below (zQ E (some v) [] (va_A [] s.heap.size)) args.toArray s 0 0 (va_A [] s.heap.size), va_A [] s.heap.size, maxL) rfl
    ⟨B.exec, B.bytes, hml, findClass_of_methodNamed B.named, atoms_spec (ws := wy) B.pre, hK, fun q h => Or.inr h, Nat.le_refl _, Nat.le_refl _, Nat.le_refl _, Nat.le_refl _⟩ ⟨rfl, B.returns, B.notSynchronized⟩ ⟨hX, hbs, vaA0 hbs⟩
  rw [lg_entry_eq]
  exact hb s.heap [] _ vaP0 vaD0 va_S.rf (zH.entry args maxL hc ha hln)
section XCALL
variable {X : zX} {k n : Nat} {cc : ByteArray} {own : String} {Ts : List Cond} {d : Nat} {ws : va_W} {lv : List (Option Value)} {st : List Value} {pc : Nat}
variable {y : MethodName} {wy : List Cond} {bytes : ByteArray} {maxL : Nat} {ret : Option FieldType} {n2 d' idx : Nat} {b L : Nat} {xs : Nat → Int32} {As : List Value}
theorem z_callX (C : zC X k n cc own Ts d) (La : zLa X b L xs) (ky : zY y wy bytes maxL ret n2) (g : GoodIn Ts (va_wsS own idx y wy)) {v : Value} (hM : zMX X.2.1 y wy d' As b L xs v) (hd : decode cc pc = .ok (.invokestatic idx, 3)) (rest : List Value) (hn : As.length = n2) (hd2 : d' + 1 ≤ d) (hml : maxL ≤ 11) (hrest : (rest.map fun v => v.category).sum ≤ 8) (hst : st = As.reverse ++ rest) (kk : zG X k n ws lv (v :: rest) (pc + 3)) : zG X k n ws lv st pc := by
  obtain ⟨p, E, e, R, s, m, args, below, meth, c, Q, A, nL⟩ := X
  intro H locs ls hP hD hS hL
  subst hst
  obtain ⟨hx, hb, hmx, hown, hts, hK, hA0, hdR, hdL, hkR, hnR⟩ := C
  obtain ⟨⟨w2, hw⟩, ky2, -⟩ := ky
  obtain ⟨l1, l2, l3⟩ := La
  refine z_back (isC := []) (wc := []) (w1 := []) (wn := ws) (r := some v) hP hD hS hA0 rfl rfl rfl (va_runS ⟨hx, hb, hmx, hown, hts⟩ (hM H.size) (va_cwS n2 hts g hw rfl rfl ky2 ⟨?_, ?_⟩) ⟨zPcX.blind, fun U hU hW => ⟨rfl, by rw [hU], hK.warm hW, by rw [hU]; exact va_X.kept (va_X.moved hW.alike l1) (hS.2.1 b l2 l3), Nat.lt_of_lt_of_le l2 hS.1⟩⟩ rfl hn hL.1 rfl (lv_room hrest) hd ⟨hkR, hnR⟩) (fun H1 locs1 hP1 hD1 hS1 => kk H1 locs1 ls hP1 hD1 hS1 hL)
  · show d' + 1 ≤ R.frames
    omega
  · show 8 + (maxL + 11) + 30 * d' ≤ R.locals
    omega
end XCALL
def clv (xs : Nat → Int32) (L k : Nat) : Int32 := if k < L then xs k else 8410009 * nI k + nI 6701
theorem l_cell (E : zE) (b L k : Nat) (xs : Nat → Int32) (hL : L ≤ 260) (hk : k < 1000) : zMX E yL_cell wsL_cell 0 [.ref b, .int (nI k)] b L xs (.int (clv xs L k)) := by
  refine zMX.of kL_cell (Nat.le_of_ble_eq_true rfl) rfl [some (.ref b), some (.int (nI k))] rfl (Nat.le_of_ble_eq_true rfl) ?_
  intro X eX C N La
  subst eX
  refine z_iload_n C 1 dL_cell_0 rfl rfl ?_
  refine z_aload_n C 0 dL_cell_1 rfl rfl ?_
  refine z_slen C La dL_cell_2 ?_
  refine z_ncmp_ge C 12 dL_cell_3 (by decide) (by omega) (by omega) (fun h => ?_) (fun h => ?_)
  · refine z_ldc C (v := 8410009) (by decide +kernel) dL_cell_12 ?_
    refine z_iload_n C 1 dL_cell_14 rfl rfl ?_
    refine z_imul C dL_cell_15 ?_
    refine z_sipush C (nI 6701) dL_cell_16 (by decide) ?_
    refine z_iadd C dL_cell_19 ?_
    exact z_iret C N dL_cell_20 rfl (by rw [clv, if_neg (by omega)])
  · refine z_aload_n C 0 dL_cell_6 rfl rfl ?_
    refine z_iload_n C 1 dL_cell_7 rfl rfl ?_
    refine z_sld C La (by omega) (by omega) dL_cell_8 ?_
    refine z_goto C 20 dL_cell_9 (by decide) ?_
    exact z_iret C N dL_cell_20 rfl (by rw [clv, if_pos h])
/-- more cells may be counted -/
theorem z_wid {X : zX} {k n k' n' : Nat} {ws : va_W} {lv : List (Option Value)} {st : List Value} {pc : Nat} (hk : k ≤ k') (hn : n ≤ n') (kk : zG X k' n' ws lv st pc) : zG X k n ws lv st pc := by
  obtain ⟨p, E, e, R, s, m, args, below, meth, c, Q, A, nL⟩ := X
  intro H locs ls hP hD hS hL
  exact W.widen hk hn (kk H locs ls hP hD hS hL)
theorem zM.toA {E : zE} {y : MethodName} {wy : List Cond} {d : Nat} {args : List Value} {ws ws' : va_W} {r : Option Value} (h : zM E y wy d args ws ws' r) : zMA E y wy d 0 0 args ws ws' r := h
theorem zRq.toM {X : zX} (M : zRq X) : zRm X := by
  obtain ⟨p, E, e, R, s, m, args, below, meth, c, Q, A, nL⟩ := X
  obtain rfl : R = room_1 := M
  exact ⟨rfl, rfl⟩
