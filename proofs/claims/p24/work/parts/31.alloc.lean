/-! MAKING: constructors; what is new lies at addresses q 0, q 1 .. that nobody knows -/
def zQI (E : zE) (f : (Nat → Nat) → va_W) (A : Nat → Prop) : Array Value → State → Outcome → State → Prop := fun _ st oc t => (oc = .returned none ∧ ∃ q : Nat → Nat, va_P E.2.1 vwCl (f q) t.heap ∧ va_D A (f q)) ∧ va_F A st t
/-- THE CONTRACT of a constructor: of the world wc it makes f q, with mc new cells and ms new slots -/
def zMI (E : zE) (y : MethodName) (wy : List Cond) (d mc ms : Nat) (args : List Value) (wc : va_W) (f : (Nat → Nat) → va_W) : Prop := ∀ sz : Nat, Met E.1 y wy (zR d mc ms) (zPc E args sz wc) (zQI E f (va_A wc sz)) mc ms (va_A wc sz)
def zNI (X : zX) (mc ms : Nat) (f : (Nat → Nat) → va_W) : Prop :=
  match X with
  | (p, E, e, R, s, m, args, below, meth, c, Q, A, nL) => Q = MQ below (zQI E f A) args s mc ms A ∧ meth.sig.returnType = none ∧ meth.locks = false ∧ meth.name = "<init>" ∧ R.cells = mc ∧ R.slots = ms
theorem zNI.cells {X : zX} {mc ms : Nat} {f : (Nat → Nat) → va_W} (N : zNI X mc ms f) {k n : Nat} {cc : ByteArray} {own : String} {Ts : List Cond} {d : Nat} (C : zC X k n cc own Ts d) {k' n' : Nat} (hk : k' ≤ mc) (hn : n' ≤ ms) : zC X k' n' cc own Ts d := by
  obtain ⟨p, E, e, R, s, m, args, below, meth, c, Q, A, nL⟩ := X
  obtain ⟨-, -, -, -, rfl, rfl⟩ := N
  obtain ⟨a1, a2, a3, a4, a5, a6, a7, a8, a9, -, -⟩ := C
  exact ⟨a1, a2, a3, a4, a5, a6, a7, a8, a9, hk, hn⟩
theorem zMI.of {E : zE} {y : MethodName} {wy : List Cond} {bytes : ByteArray} {maxL : Nat} {n d mc ms : Nat} (ky : zY y wy bytes maxL none n) (hin : y.name = "<init>") {args : List Value} {wc : va_W} {f : (Nat → Nat) → va_W} (ha : (lg_sl args).length ≤ maxL) (hc : (args.all fun v => v.category == 1) = true) (lv : List (Option Value)) (hlv : z0 args maxL = lv) (hln : lv.length ≤ maxL)
    (body : ∀ X : zX, X.2.1 = E → zC X 0 0 bytes y.cls wy d → zNI X mc ms f → zG X 0 0 wc lv [] 0) : zMI E y wy d mc ms args wc f := by
  intro sz
  subst hlv
  have hc : ∀ v ∈ args, v.category = 1 := fun v hv => by simpa using List.all_eq_true.mp hc v hv
  obtain ⟨⟨w2, hw⟩, -, hp⟩ := ky
  refine va_MetF (cc := bytes) (maxL := maxL) (ret := none) hp hw ?_
  intro p e s m a below meth c s₁ B hml hv
  obtain ⟨rfl, hsz, hP, hK, hD0⟩ := hv
  subst hsz
  have hb := body (p, E, e, zR d mc ms, s, m, args.toArray, below, meth, c, MQ below (zQI E f (va_A wc s.heap.size)) args.toArray s mc ms (va_A wc s.heap.size), va_A wc s.heap.size, maxL) rfl
    ⟨B.exec, B.bytes, hml, findClass_of_methodNamed B.named, atoms_spec (ws := wy) B.pre, hK, fun q h => Or.inr h, Nat.le_refl _, Nat.le_refl _, Nat.zero_le _, Nat.zero_le _⟩ ⟨rfl, B.returns, B.notSynchronized, (name_of_methodNamed B.named B.method).1.trans hin, rfl, rfl⟩
  rw [lg_entry_eq]
  exact hb s.heap [] _ hP hD0.self va_S.rf (zH.entry args maxL hc ha hln)
theorem z_backI {p : Program} {E : zE} {e : Env} {R : Room} {s : State} {m : MethodId} {args : Array Value} {below : List Frame} {meth : Method} {c : Code} {H : Heap} {locs : List Loc} {cells slots mc ms : Nat} {Q : State → Prop} {pc : Nat} {ls : Array Slot} {rest st0 : List Value} {a : Array Value} {A : Nat → Prop} {ws wc wr : va_W} {f : (Nat → Nat) → va_W} {isC isR : List Nat}
    (hP : va_P E.2.1 vwCl ws H) (hD : va_D A ws) (hS : va_S A s.heap H locs) (hA0 : ∀ q : Nat, s.heap.size ≤ q → A q) (hC : isC.map (fun i => ws[i]?) = wc.map some) (hR : isR.map (fun i => ws[i]?) = wr.map some) (hn : va_nd isR = true) (hdis : ∀ i ∈ isR, i ∉ isC)
    (hr : va_Run p E.1 e R s m args below meth c H locs cells slots mc ms (F0 m pc ls st0) rest (zQI E f (va_A wc H.size) a) (va_A wc H.size))
    (kk : ∀ (q : Nat → Nat) (H1 : Heap) (locs1 : List Loc), va_P E.2.1 vwCl (wr ++ f q) H1 → va_D A (wr ++ f q) → va_S A s.heap H1 locs1 → W p E.1 e R s m args below meth c H1 locs1 (cells + mc) (slots + ms) Q (F0 m (pc + 3) ls rest)) : W p E.1 e R s m args below meth c H locs cells slots Q (F0 m pc ls st0) := by
  intro T hT X
  have hF := va_free hD hS hA0 isC hC
  obtain ⟨v, st₀, t, T', L, h0, X', hL, e1, e2, ⟨⟨hv, q, hp, hd1⟩, hz, hk⟩, st⟩ := hr T hT X
  cases hv
  rw [h0] at hz hk
  rw [← e1] at hz hk hp
  obtain ⟨hP1, hD1⟩ := va_join hP hD isC isR hC hR hn hdis hk hF hp hd1
  obtain ⟨t2, a1, b1⟩ := kk q T'.heap (locs ++ L) hP1 hD1
    ⟨Nat.le_trans hS.1 hz, fun q h1 h2 => by rw [hk q (Nat.lt_of_lt_of_le h1 hS.1) (fun z => h2 (hF q z))]; exact hS.2.1 q h1 h2, fun q hq => by
      rcases List.mem_append.mp hq with h | h
      · exact hS.2.2 q h
      · exact hF _ (hL q h)⟩ T' rfl X'
  exact ⟨t2, st t2 a1, b1⟩
section ZALLOC
variable {X : zX} {k n : Nat} {cc : ByteArray} {own : String} {Ts : List Cond} {d : Nat} {ws : va_W} {lv : List (Option Value)} {st : List Value} {pc : Nat}
theorem z_obj (C : zC X k n cc own Ts d) {idx : Nat} (h1 : Cond.methodLink own idx objectInit ∈ Ts) (h2 : Cond.instanceMethod objectInit ∈ Ts) (h3 : Cond.code objectInit ⟨#[0xb1]⟩ 1 none ∈ Ts) {a : Nat} (hd : decode cc pc = .ok (.invokespecial idx, 3)) (hd1 : 1 ≤ d) (kk : zG X k n ws lv [] (pc + 3)) : zG X k n ws lv [.ref a] pc := by
  obtain ⟨p, E, e, R, s, m, args, below, meth, c, Q, A, nL⟩ := X
  intro H locs ls hP hD hS hL
  obtain ⟨hx, hb, hmx, hown, hts, hK, hA0, hdR, hdL, hkR, hnR⟩ := C
  exact W.objInit hx hb hown (hts _ h1) (hts _ h2) (hts _ h3) rfl (by rw [hmx]; exact hL.1) rfl hd (by omega) (by show 2 * 0 + 0 + 12 ≤ R.locals; omega) (kk H locs ls hP hD hS hL)
theorem z_new (C : zC X k n cc own Ts d) {mc ms : Nat} {f : (Nat → Nat) → va_W} (M : zNI X mc ms f) (ci : Nat) {idx N k' n' : Nat} {R0 : String} {T : u_T} (ty : Nat → FieldType) (hin : ∀ w ∈ u_ws R0 T N, w ∈ Ts) (hty : ∀ k, k < N → parseFieldDescriptor (T k).2.2.1 = some (ty k)) (h1 : Cond.classLink own idx R0 ∈ Ts) (h2 : Cond.instantiable R0 N ∈ Ts) (h3 : Cond.initialized R0 ∈ Ts) (hc : vwCl[ci]? = some (R0, T, N)) {fs : List Value} (hfs : ∀ j, j < N → defaultValue (ty j) = vp_V fs j) (hk : k + 1 = k') (hn : n + N = n') (hk2 : k' ≤ mc) (hn2 : n' ≤ ms) (hd : decode cc pc = .ok (.new idx, 3)) (kk : ∀ q : Nat, zG X k' n' (ws ++ [(q, .inr (ci, fs))]) lv (.ref q :: st) (pc + 3)) : zG X k n ws lv st pc := by
  obtain ⟨p, E, e, R, s, m, args, below, meth, c, Q, A, nL⟩ := X
  intro H locs ls hP hD hS hL
  obtain ⟨hx, hb, hmx, hown, hts, hK, hA0, hdR, hdL, hkR, hnR⟩ := C
  obtain ⟨-, -, -, -, rfl, rfl⟩ := M
  subst hk; subst hn
  exact va_new (ci := ci) (fs := fs) hx hb hts hin ty hty hown (hts _ h1) (hts _ h2) (hts _ h3) hK.1 hP hD hS hA0 hc hfs hk2 hn2 hd (fun q H1 hP hD hS => kk q H1 locs ls hP hD hS hL)
theorem z_newI (C : zC X k n cc own Ts d) {mc ms : Nat} {f : (Nat → Nat) → va_W} (M : zNI X mc ms f) (h1 : Cond.arrayClass .int ∈ Ts) {v : Int32} {N' k' n' : Nat} (hv : ¬ v < 0) (hN : v.toNatClampNeg = N') (hb4 : N' * 4 ≤ 536870912) (hk : k + 1 = k') (hn : n + N' = n') (hk2 : k' ≤ mc) (hn2 : n' ≤ ms) (hd : decode cc pc = .ok (.newarray .int, 2)) (kk : ∀ q : Nat, zG X k' n' (ws ++ [(q, .inl (X.2.1.2.2.1, N', .inl (fun _ => 0)))]) lv (.ref q :: st) (pc + 2)) : zG X k n ws lv (.int v :: st) pc := by
  obtain ⟨p, E, e, R, s, m, args, below, meth, c, Q, A, nL⟩ := X
  intro H locs ls hP hD hS hL
  obtain ⟨hx, hb, hmx, hown, hts, hK, hA0, hdR, hdL, hkR, hnR⟩ := C
  obtain ⟨-, -, -, -, rfl, rfl⟩ := M
  subst hk; subst hn
  refine va_newa (atype := .int) (ty := .int) (a0 := (N', .inl (fun _ => 0))) hx hb (hts _ h1) rfl hK.1 hP hD hS hA0 (fun cA => by rw [vp_cell_i]; rfl) hv hN hb4 hk2 hn2 hd (fun q cA H1 hK2 hP hD hS => ?_)
  have e1 := va_nm_int (hK2.2 3 (cA, .int) rfl).2
  have e2 := va_nm_int (hK.1.2 0 (E.2.2.1, .int) rfl).2
  obtain rfl : cA = E.2.2.1 := Option.some.inj (e1.symm.trans e2)
  exact kk q H1 locs ls hP hD hS hL
theorem z_newC (C : zC X k n cc own Ts d) {mc ms : Nat} {f : (Nat → Nat) → va_W} (M : zNI X mc ms f) (h1 : Cond.arrayClass .char ∈ Ts) {v : Int32} {N' k' n' : Nat} (hv : ¬ v < 0) (hN : v.toNatClampNeg = N') (hb4 : N' * 2 ≤ 536870912) (hk : k + 1 = k') (hn : n + N' = n') (hk2 : k' ≤ mc) (hn2 : n' ≤ ms) (hd : decode cc pc = .ok (.newarray .char, 2)) (kk : ∀ q : Nat, zG X k' n' (ws ++ [(q, .inl (X.2.1.2.2.2.1, N', .inl (fun _ => 0)))]) lv (.ref q :: st) (pc + 2)) : zG X k n ws lv (.int v :: st) pc := by
  obtain ⟨p, E, e, R, s, m, args, below, meth, c, Q, A, nL⟩ := X
  intro H locs ls hP hD hS hL
  obtain ⟨hx, hb, hmx, hown, hts, hK, hA0, hdR, hdL, hkR, hnR⟩ := C
  obtain ⟨-, -, -, -, rfl, rfl⟩ := M
  subst hk; subst hn
  refine va_newa (atype := .char) (ty := .char) (a0 := (N', .inl (fun _ => 0))) hx hb (hts _ h1) rfl hK.1 hP hD hS hA0 (fun cA => by rw [vp_cell_i]; rfl) hv hN hb4 hk2 hn2 hd (fun q cA H1 hK2 hP hD hS => ?_)
  have e1 := va_nm_char (hK2.2 3 (cA, .char) rfl).2
  have e2 := va_nm_char (hK.1.2 1 (E.2.2.2.1, .char) rfl).2
  obtain rfl : cA = E.2.2.2.1 := Option.some.inj (e1.symm.trans e2)
  exact kk q H1 locs ls hP hD hS hL
theorem z_newQ (C : zC X k n cc own Ts d) {mc ms : Nat} {f : (Nat → Nat) → va_W} (M : zNI X mc ms f) {idx : Nat} (h1 : Cond.classLink own idx RX4 ∈ Ts) {v : Int32} {N' k' n' : Nat} (hv : ¬ v < 0) (hN : v.toNatClampNeg = N') (hb4 : N' * 4 ≤ 536870912) (hk : k + 1 = k') (hn : n + N' = n') (hk2 : k' ≤ mc) (hn2 : n' ≤ ms) (hd : decode cc pc = .ok (.anewarray idx, 3)) (kk : ∀ q : Nat, zG X k' n' (ws ++ [(q, .inl (X.2.1.2.2.2.2, N', .inr (.inr (.inr (.inr (fun _ => none))))))]) lv (.ref q :: st) (pc + 3)) : zG X k n ws lv (.int v :: st) pc := by
  obtain ⟨p, E, e, R, s, m, args, below, meth, c, Q, A, nL⟩ := X
  intro H locs ls hP hD hS hL
  obtain ⟨hx, hb, hmx, hown, hts, hK, hA0, hdR, hdL, hkR, hnR⟩ := C
  obtain ⟨-, -, -, -, rfl, rfl⟩ := M
  subst hk; subst hn
  refine va_newq (C := RX4) hx hb hown (hts _ h1) hK.2.2 hK.1 hP hD hS hA0 hv hN hb4 hk2 hn2 hd (fun q cA H1 hK2 hP hD hS => ?_)
  have e1 := va_nmO (hK2.2 3 (cA, .object RX4) rfl).2 rfl
  have e2 := va_nmO (hK.1.2 2 (E.2.2.2.2, .object RX4) rfl).2 rfl
  obtain rfl : cA = E.2.2.2.2 := Option.some.inj (e1.symm.trans e2)
  exact kk q H1 locs ls hP hD hS hL
theorem z_astq (C : zC X k n cc own Ts d) (q0 qk : Nat) {a N i v : Nat} {vs : List Value} {f : Nat → Option Nat} {T : u_T} {M : Nat} (hd : decode cc pc = .ok (.aastore, 1)) (he : ws[q0]? = some (a, .inl (X.2.1.2.2.2.2, N, .inr (.inr (.inr (.inr f)))))) (hv : ws[qk]? = some (v, .inr (4, vs))) (hc : vwCl[4]? = some (RX4, T, M)) (hi : i < N) (hN : N < 2147483648) (kk : zG X k n (ws.set q0 (a, .inl (X.2.1.2.2.2.2, N, .inr (.inr (.inr (.inr (va_up f i (some v)))))))) lv st (pc + 1)) : zG X k n ws lv (.ref v :: .int (nI i) :: .ref a :: st) pc := by
  obtain ⟨p, E, e, R, s, m, args, below, meth, c, Q, A, nL⟩ := X
  intro H locs ls hP hD hS hL
  refine va_astq (D := E.2.1) C.1 C.2.1 C.2.2.2.2.2.1.1 hP hD hS q0 2 qk 4 he rfl hv hc (vp_in_nI hi hN) hd (fun H1 locs1 hP hD hS => ?_)
  rw [nI_clamp (by omega)] at hP hD
  exact kk H1 locs1 ls hP hD hS hL
/-- a final field of its own, in a constructor -/
theorem z_putF (C : zC X k n cc own Ts d) {mc ms : Nat} {f : (Nat → Nat) → va_W} (M : zNI X mc ms f) {idx ci j N : Nat} {T : u_T} {ty : Nat → FieldType} (F : zF Ts own idx ci j own T N) (Ft : zFt j N T ty true) (q0 : Nat) {a : Nat} {fs : List Value} {v : Value} (hd : decode cc pc = .ok (.putfield idx, 3)) (he : ws[q0]? = some (a, .inr (ci, fs))) (hn : narrow (ty j) v = v) (hf : fits (ty j) v = true) (hl : j < fs.length) (kk : zG X k n (ws.set q0 (a, .inr (ci, fs.set j v))) lv st (pc + 3)) : zG X k n ws lv (v :: .ref a :: st) pc := by
  obtain ⟨p, E, e, R, s, m, args, below, meth, c, Q, A, nL⟩ := X
  intro H locs ls hP hD hS hL
  obtain ⟨-, -, -, hin2, -, -⟩ := M
  exact va_putF (D := E.2.1) (ref := own) C.1 C.2.1 C.2.2.2.2.1 F.1 ty Ft.1 Ft.2.1 C.2.2.2.1 C.2.2.2.2.2.1.1 hP hD hS q0 he F.2.1 j F.2.2.1 (C.2.2.2.2.1 _ F.2.2.2.1) (fun x hx => by rw [F.2.2.2.2] at hx; exact hx) Ft.2.2 hin2 F.2.2.2.2 (Ft.1 j F.2.2.1) hn hf hl hd (fun H1 locs1 hP hD hS => kk H1 locs1 ls hP hD hS hL)
theorem z_vretI (C : zC X k n cc own Ts d) {mc ms : Nat} {f : (Nat → Nat) → va_W} (M : zNI X mc ms f) (hd : decode cc pc = .ok (.return_, 1)) (q : Nat → Nat) (is : List Nat) (hC : is.map (fun i => ws[i]?) = (f q).map some) (hnd : va_nd is = true) (hk : k ≤ mc) (hn : n ≤ ms) : zG X k n ws lv [] pc := by
  obtain ⟨p, E, e, R, s, m, args, below, meth, c, Q, A, nL⟩ := X
  intro H locs ls hP hD hS hL
  obtain ⟨rfl, hr2, hlk, -, -, -⟩ := M
  refine W.widen hk hn ?_
  exact W.vret C.1 C.2.1 hr2 (fun t ht hW => ⟨⟨rfl, q, by rw [ht]; exact z_sub hP hC, hD.sub is hnd hC⟩, hS.F ht⟩) hS.2.2 hd hlk
variable {y : MethodName} {wy : List Cond} {bytes : ByteArray} {maxL : Nat} {n2 d' idx : Nat} {b : Nat} {As : List Value} {wc wr : va_W}
theorem z_callI (C : zC X k n cc own Ts d) {mc ms : Nat} {f0 : (Nat → Nat) → va_W} (M : zNI X mc ms f0) (ky : zY y wy bytes maxL none n2) (hy1 : y.name = "<init>") (g : GoodIn Ts wy) (hi : Cond.initialized y.cls ∈ Ts) (hl : Cond.methodLink own idx y ∈ Ts) (him : Cond.instanceMethod y ∈ Ts) {mc1 ms1 k' n' : Nat} {f : (Nat → Nat) → va_W} (hM : zMI X.2.1 y wy d' mc1 ms1 (.ref b :: As) wc f) (hd : decode cc pc = .ok (.invokespecial idx, 3)) (isC isR : List Nat) (rest : List Value) (hC : isC.map (fun i => ws[i]?) = wc.map some) (hR : isR.map (fun i => ws[i]?) = wr.map some) (hnd : va_nd isC = true) (hndR : va_nd isR = true) (hdis : ∀ i ∈ isR, i ∉ isC) (hn : As.length = n2) (hd2 : d' + 1 ≤ d) (hml : maxL ≤ 11) (hrest : (rest.map fun v => v.category).sum ≤ 8) (hst : st = As.reverse ++ .ref b :: rest) (hk : k + mc1 = k') (hn' : n + ms1 = n') (hk2 : k' ≤ mc) (hn2 : n' ≤ ms) (kk : ∀ q : Nat → Nat, zG X k' n' (wr ++ f q) lv rest (pc + 3)) : zG X k n ws lv st pc := by
  obtain ⟨p, E, e, R, s, m, args, below, meth, c, Q, A, nL⟩ := X
  intro H locs ls hP hD hS hL
  subst hst; subst hk; subst hn'
  obtain ⟨hx, hb, hmx, hown, hts, hK, hA0, hdR, hdL, hkR, hnR⟩ := C
  obtain ⟨-, -, -, -, rfl, rfl⟩ := M
  obtain ⟨⟨w2, hw⟩, ky2, -⟩ := ky
  refine z_backI hP hD hS hA0 hC hR hndR hdis (va_runI ⟨hx, hb, hmx, hown, hts⟩ (hM H.size) (cwI n2 hts g hw rfl rfl (hts _ hi) (hts _ hl) (hts _ him) hy1 ky2 ⟨?_, ?_⟩) ⟨zPc.blind, fun U hU hW => zPc.of hP hD hK hC hnd hU hW⟩ rfl hn hL.1 rfl (lv_room hrest) hd ⟨hk2, hn2⟩) (fun q H1 locs1 hP1 hD1 hS1 => kk q H1 locs1 ls hP1 hD1 hS1 hL)
  · show d' + 1 ≤ R.frames
    omega
  · show 8 + (maxL + 11) + 30 * d' ≤ R.locals
    omega
theorem z_callIN (C : zC X k n cc own Ts d) {mc ms : Nat} {f0 : (Nat → Nat) → va_W} (M : zNI X mc ms f0) (ky : zY y wy bytes maxL none n2) (hy1 : y.name = "<init>") (g : GoodIn Ts wy) (hi : Cond.initialized y.cls ∈ Ts) (hN : (own, idx, y, RX5) ∈ zNest) (him : Cond.instanceMethod y ∈ Ts) {mc1 ms1 k' n' : Nat} {f : (Nat → Nat) → va_W} (hM : zMI X.2.1 y wy d' mc1 ms1 (.ref b :: As) wc f) (hd : decode cc pc = .ok (.invokespecial idx, 3)) (isC isR : List Nat) (rest : List Value) (hC : isC.map (fun i => ws[i]?) = wc.map some) (hR : isR.map (fun i => ws[i]?) = wr.map some) (hnd : va_nd isC = true) (hndR : va_nd isR = true) (hdis : ∀ i ∈ isR, i ∉ isC) (hn : As.length = n2) (hd2 : d' + 1 ≤ d) (hml : maxL ≤ 11) (hrest : (rest.map fun v => v.category).sum ≤ 8) (hst : st = As.reverse ++ .ref b :: rest) (hk : k + mc1 = k') (hn' : n + ms1 = n') (hk2 : k' ≤ mc) (hn2 : n' ≤ ms) (kk : ∀ q : Nat → Nat, zG X k' n' (wr ++ f q) lv rest (pc + 3)) : zG X k n ws lv st pc := by
  obtain ⟨p, E, e, R, s, m, args, below, meth, c, Q, A, nL⟩ := X
  intro H locs ls hP hD hS hL
  subst hst; subst hk; subst hn'
  obtain ⟨hx, hb, hmx, hown, hts, hK, hA0, hdR, hdL, hkR, hnR⟩ := C
  obtain ⟨-, -, -, -, rfl, rfl⟩ := M
  obtain ⟨⟨w2, hw⟩, ky2, -⟩ := ky
  refine z_backI hP hD hS hA0 hC hR hndR hdis (va_runIN (host := RX5) ⟨hx, hb, hmx, hown, hts⟩ (hM H.size) ⟨va_cnB n2 hts g hw rfl rfl (hK.2.1 _ hN) (hts _ hi) ky2 ⟨?_, ?_⟩, hy1, hts _ him⟩ ⟨zPc.blind, fun U hU hW => zPc.of hP hD hK hC hnd hU hW⟩ rfl hn hL.1 rfl (lv_room hrest) hd ⟨hk2, hn2⟩) (fun q H1 locs1 hP1 hD1 hS1 => kk q H1 locs1 ls hP1 hD1 hS1 hL)
  · show d' + 1 ≤ R.frames
    omega
  · show 8 + (maxL + 11) + 30 * d' ≤ R.locals
    omega
end ZALLOC
