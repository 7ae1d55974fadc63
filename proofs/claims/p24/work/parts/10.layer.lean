/-! THE LAYER: one context X, a judgement zG (from this symbolic state the method goes on well), contracts zM. -/
abbrev zE : Type := Launch × va_G × ClassId × ClassId × ClassId
def zT (E : zE) : List (ClassId × FieldType) := [(E.2.2.1, .int), (E.2.2.2.1, .char), (E.2.2.2.2, .object RX4)]
def zNest : List (String × Nat × MethodName × String) := [(RX5, 9, yX4_init, RX5), (RX4, 29, yX0_init, RX5), (RX1, 17, yX4_init, RX5), (RX5, 25, yX3_init, RX5), (RX2, 29, yX5_copy, RX5), (RX4, 42, yX5_copy, RX5), (RX0, 62, yX5_copy, RX5), (RX4, 61, yX5_isAuthor, RX5), (RX4, 49, yX5_isAxis, RX5)]
def zNs (U : State) : Prop := ∀ q ∈ zNest, va_Nw (.methodLinkNest q.1 q.2.1 q.2.2.1 q.2.2.2) U
theorem zNs.warm {s U : State} (hW : s.WarmedH U.vm) (h : zNs s) : zNs U := fun q hq => va_Nw.warmM hW (h q hq)
theorem zNs.same {s U : State} (e : s.vm = U.vm) (h : zNs s) : zNs U := fun q hq => va_tabs rfl e (h q hq)
def zKn (E : zE) (U : State) : Prop := va_K E.2.1 vwCl (zT E) U ∧ zNs U ∧ va_AO RX4 U
theorem zKn.warm {E : zE} {s U : State} (hW : s.WarmedH U.vm) (h : zKn E s) : zKn E U := ⟨va_K.moved hW.alike h.1, h.2.1.warm hW, va_AO.moved hW.alike h.2.2⟩
theorem zKn.call {E : zE} {U : State} (g : JFrame) (mk : MethodId) (a : Array Value) (h : zKn E U) : zKn E (U.calling g mk a) := ⟨va_K.moved (u := U) (U := U.calling g mk a) (Vm.Alike.refl U.vm) h.1, zNs.same (s := U) rfl h.2.1, va_AO.moved (u := U) (U := U.calling g mk a) (Vm.Alike.refl U.vm) h.2.2⟩
/-- the locals, each known or not -/
def zl : List (Option Value) → Nat → Option Value
  | [], _ => none
  | a :: _, 0 => a
  | _ :: l, k + 1 => zl l k
def zs : List (Option Value) → Nat → Value → List (Option Value)
  | [], _, _ => []
  | _ :: l, 0, v => some v :: l
  | a :: l, k + 1, v => a :: zs l k v
theorem zl_zs : ∀ (lv : List (Option Value)) (i j : Nat) (v w : Value), zl (zs lv i v) j = some w → (j = i ∧ w = v) ∨ (j ≠ i ∧ zl lv j = some w)
  | [], i, j, v, w, h => by simp [zs, zl] at h
  | a :: l, 0, 0, v, w, h => by simp [zs, zl] at h; exact Or.inl ⟨rfl, h.symm⟩
  | a :: l, 0, j + 1, v, w, h => by simp [zs, zl] at h; exact Or.inr ⟨by omega, by simpa [zl] using h⟩
  | a :: l, i + 1, 0, v, w, h => by simp [zs, zl] at h; exact Or.inr ⟨by omega, by simpa [zl] using h⟩
  | a :: l, i + 1, j + 1, v, w, h => by
    simp only [zs, zl] at h
    rcases zl_zs l i j v w h with ⟨h1, h2⟩ | ⟨h1, h2⟩
    · exact Or.inl ⟨by omega, h2⟩
    · exact Or.inr ⟨by omega, by simpa [zl] using h2⟩
def zp : Nat → List (Option Value) → List (Nat × Value)
  | _, [] => []
  | i, none :: l => zp (i + 1) l
  | i, some v :: l => (i, v) :: zp (i + 1) l
theorem zp_mem : ∀ (l : List (Option Value)) (i : Nat) (q : Nat × Value), q ∈ zp i l ↔ i ≤ q.1 ∧ zl l (q.1 - i) = some q.2
  | [], i, q => by simp [zp, zl]
  | none :: l, i, q => by
    rw [zp, zp_mem l (i + 1) q]
    constructor
    · rintro ⟨h1, h2⟩
      refine ⟨by omega, ?_⟩
      rw [show q.1 - i = (q.1 - (i + 1)) + 1 by omega]
      exact h2
    · rintro ⟨h1, h2⟩
      rcases Nat.lt_or_ge i q.1 with h | h
      · refine ⟨h, ?_⟩
        rw [show q.1 - i = (q.1 - (i + 1)) + 1 by omega] at h2
        exact h2
      · rw [show q.1 - i = 0 by omega] at h2
        cases h2
  | some v :: l, i, q => by
    rw [zp, List.mem_cons, zp_mem l (i + 1) q]
    constructor
    · rintro (h | ⟨h1, h2⟩)
      · subst h
        exact ⟨Nat.le_refl _, by simp [zl]⟩
      · refine ⟨by omega, ?_⟩
        rw [show q.1 - i = (q.1 - (i + 1)) + 1 by omega]
        exact h2
    · rintro ⟨h1, h2⟩
      rcases Nat.lt_or_ge i q.1 with h | h
      · refine Or.inr ⟨h, ?_⟩
        rw [show q.1 - i = (q.1 - (i + 1)) + 1 by omega] at h2
        exact h2
      · rw [show q.1 - i = 0 by omega] at h2
        have e : q.1 = i := by omega
        exact Or.inl (Prod.ext e (Option.some.inj h2).symm)
theorem zs_len : ∀ (lv : List (Option Value)) (i : Nat) (v : Value), (zs lv i v).length = lv.length
  | [], _, _ => rfl
  | _ :: _, 0, _ => rfl
  | _ :: l, i + 1, v => by simp [zs, zs_len l i v]
def zH (ls : Array Slot) (nL : Nat) (lv : List (Option Value)) : Prop := ls.size = nL ∧ lv_wf ls ∧ (∀ (i : Nat) (v : Value), zl lv i = some v → ls[i]? = some (.val v) ∧ v.category = 1) ∧ lv.length ≤ nL
theorem zH.has {ls : Array Slot} {nL : Nat} {lv : List (Option Value)} (h : zH ls nL lv) : lv_has ls nL (zp 0 lv) := ⟨h.1, h.2.1, fun q hq => (h.2.2.1 q.1 q.2 (by simpa using ((zp_mem lv 0 q).mp hq).2)).1⟩
theorem zH.lt {ls : Array Slot} {nL : Nat} {lv : List (Option Value)} (h : zH ls nL lv) {i : Nat} {v : Value} (hi : zl lv i = some v) : i < nL := by
  rw [← h.1]
  exact (Array.getElem?_eq_some_iff.mp (h.2.2.1 i v hi).1).1
theorem zH.set {ls ls' : Array Slot} {nL : Nat} {lv : List (Option Value)} (h : zH ls nL lv) {i : Nat} {v : Value} (hv : v.category = 1) (h' : lv_has ls' nL ((i, v) :: (zp 0 lv).filter (fun q => !(q.1 == i) && !(q.1 + 1 == i && q.2.category == 2)))) : zH ls' nL (zs lv i v) := by
  refine ⟨h'.1, h'.2.1, fun j w hj => ?_, by rw [zs_len]; exact h.2.2.2⟩
  rcases zl_zs lv i j v w hj with ⟨h1, h2⟩ | ⟨h1, h2⟩
  · subst h1; subst h2
    exact ⟨h'.2.2 (j, w) List.mem_cons_self, hv⟩
  · have hc := (h.2.2.1 j w h2).2
    refine ⟨h'.2.2 (j, w) (List.mem_cons_of_mem _ (List.mem_filter.mpr ⟨(zp_mem lv 0 (j, w)).mpr ⟨Nat.zero_le _, by simpa using h2⟩, ?_⟩)), hc⟩
    simp [h1, hc]
/-- the locals with which a method begins -/
def z0 (vs : List Value) (n : Nat) : List (Option Value) := vs.map some ++ List.replicate (n - vs.length) none
theorem z0_args : ∀ (vs : List Value), (∀ v ∈ vs, v.category = 1) → ∀ (i n j : Nat) (v : Value), zl (vs.map some ++ List.replicate n none) j = some v → (i + j, v) ∈ lv_args i vs ∧ v.category = 1
  | [], _, i, n, j, v, h => by
    exfalso
    induction n generalizing j with
    | zero => simp [zl] at h
    | succ n ih =>
      cases j with
      | zero => simp [List.replicate_succ, zl] at h
      | succ j => exact ih j (by simpa [List.replicate_succ, zl] using h)
  | a :: l, hc, i, n, 0, v, h => by
    simp [zl] at h
    subst h
    have h1 := hc a List.mem_cons_self
    exact ⟨by simp [lv_args], h1⟩
  | a :: l, hc, i, n, j + 1, v, h => by
    have h1 := hc a List.mem_cons_self
    have h2 := z0_args l (fun v hv => hc v (List.mem_cons_of_mem _ hv)) (i + 1) n j v (by simpa [zl] using h)
    refine ⟨?_, h2.2⟩
    simp only [lv_args, h1]
    refine List.mem_cons_of_mem _ ?_
    rw [show i + (j + 1) = i + 1 + j by omega]
    exact h2.1
theorem zH.entry (vs : List Value) (n : Nat) (hc : ∀ v ∈ vs, v.category = 1) (h : (lg_sl vs).length ≤ n) (hn : (z0 vs n).length ≤ n) : zH ((lg_sl vs ++ List.replicate (n - (lg_sl vs).length) Slot.unset).toArray) n (z0 vs n) := by
  have h1 := lv_entry vs h
  refine ⟨h1.1, h1.2.1, fun i v hi => ?_, hn⟩
  have h2 := z0_args vs hc 0 (n - vs.length) i v hi
  refine ⟨h1.2.2 (i, v) (by simpa using h2.1), h2.2⟩
abbrev zX : Type := Program × zE × Env × Room × State × MethodId × Array Value × List Frame × Method × Code × (State → Prop) × (Nat → Prop) × Nat
def zG (X : zX) (k n : Nat) (ws : va_W) (lv : List (Option Value)) (st : List Value) (pc : Nat) : Prop :=
  match X with
  | (p, E, e, R, s, m, args, below, meth, c, Q, A, nL) => ∀ (H : Heap) (locs : List Loc) (ls : Array Slot), va_P E.2.1 vwCl ws H → va_D A ws → va_S A s.heap H locs → zH ls nL lv → W p E.1 e R s m args below meth c H locs k n Q (F0 m pc ls st)
def zC (X : zX) (k n : Nat) (cc : ByteArray) (own : String) (Ts : List Cond) (d : Nat) : Prop :=
  match X with
  | (p, E, e, R, s, m, args, below, meth, c, Q, A, nL) => p.tables.exec = Jvm.exec ∧ c.code = cc ∧ c.maxLocals = nL ∧ s.vm.findClass own = some m.cls ∧ (∀ w ∈ Ts, w.before args s = true) ∧ zKn E s ∧ (∀ q : Nat, s.heap.size ≤ q → A q) ∧ d ≤ R.frames ∧ 30 * d ≤ R.locals ∧ k ≤ R.cells ∧ n ≤ R.slots
def zR (d : Nat) (mc ms : Nat) : Room := { frames := d, cells := mc, slots := ms, locals := 30 * d }
def zQ (E : zE) (r : Option Value) (ws : va_W) (A : Nat → Prop) : Array Value → State → Outcome → State → Prop := fun _ st oc t => (oc = .returned r ∧ va_P E.2.1 vwCl ws t.heap) ∧ va_F A st t
def zPc (E : zE) (args : List Value) (sz : Nat) (ws : va_W) : Array Value → State → Prop := va_Pc args (fun U => U.heap.size = sz ∧ va_P E.2.1 vwCl ws U.heap ∧ zKn E U ∧ va_D (fun _ => True) ws)
/-- THE CONTRACT of a method that makes nothing: its world ws becomes ws', its answer is r -/
def zM (E : zE) (y : MethodName) (wy : List Cond) (d : Nat) (args : List Value) (ws ws' : va_W) (r : Option Value) : Prop := ∀ sz : Nat, Met E.1 y wy (zR d 0 0) (zPc E args sz ws) (zQ E r ws' (va_A ws sz)) 0 0 (va_A ws sz)
/-- where a method ends: what it owes -/
def zN (X : zX) (k n : Nat) (ret : Option FieldType) (r : Option Value) (ws' : va_W) : Prop :=
  match X with
  | (p, E, e, R, s, m, args, below, meth, c, Q, A, nL) => Q = MQ below (zQ E r ws' A) args s k n A ∧ meth.sig.returnType = ret ∧ meth.locks = false
def zY (y : MethodName) (wy : List Cond) (bytes : ByteArray) (maxL : Nat) (ret : Option FieldType) (n : Nat) : Prop := (∃ w2, wy = Cond.code y bytes maxL ret :: w2) ∧ (y.cls ≠ "java/lang/invoke/MethodHandle" ∧ y.cls ≠ "java/lang/invoke/VarHandle" ∧ (parseMethodDescriptor y.desc).map (fun d => d.parameters.length) = some n) ∧ plainFor y = true
theorem zM.of {E : zE} {y : MethodName} {wy : List Cond} {bytes : ByteArray} {maxL : Nat} {ret : Option FieldType} {n d : Nat} (ky : zY y wy bytes maxL ret n) {args : List Value} {ws ws' : va_W} {r : Option Value} (ha : (lg_sl args).length ≤ maxL) (hc : (args.all fun v => v.category == 1) = true) (lv : List (Option Value)) (hlv : z0 args maxL = lv) (hln : lv.length ≤ maxL)
    (body : ∀ X : zX, X.2.1 = E → zC X 0 0 bytes y.cls wy d → zN X 0 0 ret r ws' → zG X 0 0 ws lv [] 0) : zM E y wy d args ws ws' r := by
  intro sz
  subst hlv
  have hc : ∀ v ∈ args, v.category = 1 := fun v hv => by simpa using List.all_eq_true.mp hc v hv
  obtain ⟨⟨w2, hw⟩, -, hp⟩ := ky
  refine va_MetF (cc := bytes) (maxL := maxL) (ret := ret) hp hw ?_
  intro p e s m a below meth c s₁ B hml hv
  obtain ⟨rfl, hsz, hP, hK, hD0⟩ := hv
  subst hsz
  have hb := body (p, E, e, zR d 0 0, s, m, args.toArray, below, meth, c, MQ below (zQ E r ws' (va_A ws s.heap.size)) args.toArray s 0 0 (va_A ws s.heap.size), va_A ws s.heap.size, maxL) rfl
    ⟨B.exec, B.bytes, hml, findClass_of_methodNamed B.named, atoms_spec (ws := wy) B.pre, hK, fun q h => Or.inr h, Nat.le_refl _, Nat.le_refl _, Nat.le_refl _, Nat.le_refl _⟩ ⟨rfl, B.returns, B.notSynchronized⟩
  rw [lg_entry_eq]
  exact hb s.heap [] _ hP hD0.self va_S.rf (zH.entry args maxL hc ha hln)

section ZROWS
variable {X : zX} {k n : Nat} {cc : ByteArray} {own : String} {Ts : List Cond} {d : Nat} {ws : va_W} {lv : List (Option Value)} {st : List Value} {pc : Nat}
theorem z_iconst (C : zC X k n cc own Ts d) {i : Int} (v : Int32) (hd : decode cc pc = .ok (.iconst i, 1)) (hv : Int32.ofInt i = v) (kk : zG X k n ws lv (.int v :: st) (pc + 1)) : zG X k n ws lv (st) pc := by
  obtain ⟨p, E, e, R, s, m, args, below, meth, c, Q, A, nL⟩ := X
  intro H locs ls hP hD hS hL
  exact lv_iconst C.1 C.2.1 hd hv (kk H locs ls hP hD hS hL)
theorem z_bipush (C : zC X k n cc own Ts d) {i : Int} (v : Int32) (hd : decode cc pc = .ok (.bipush i, 2)) (hv : (Int8.ofInt i).toInt32 = v) (kk : zG X k n ws lv (.int v :: st) (pc + 2)) : zG X k n ws lv (st) pc := by
  obtain ⟨p, E, e, R, s, m, args, below, meth, c, Q, A, nL⟩ := X
  intro H locs ls hP hD hS hL
  exact lv_bipush C.1 C.2.1 hd hv (kk H locs ls hP hD hS hL)
theorem z_sipush (C : zC X k n cc own Ts d) {i : Int} (v : Int32) (hd : decode cc pc = .ok (.sipush i, 3)) (hv : (Int16.ofInt i).toInt32 = v) (kk : zG X k n ws lv (.int v :: st) (pc + 3)) : zG X k n ws lv (st) pc := by
  obtain ⟨p, E, e, R, s, m, args, below, meth, c, Q, A, nL⟩ := X
  intro H locs ls hP hD hS hL
  exact lv_sipush C.1 C.2.1 hd hv (kk H locs ls hP hD hS hL)
theorem z_iload_n (C : zC X k n cc own Ts d) {j : Fin 4} (i : Nat) {x : Int32} (hd : decode cc pc = .ok (.iload_n j, 1)) (hi : (j : Nat) = i) (hl : zl lv i = some (.int x)) (kk : zG X k n ws lv (.int x :: st) (pc + 1)) : zG X k n ws lv (st) pc := by
  obtain ⟨p, E, e, R, s, m, args, below, meth, c, Q, A, nL⟩ := X
  intro H locs ls hP hD hS hL
  exact lv_iload_n C.1 C.2.1 hd hi (hL.2.2.1 _ _ hl).1 (kk H locs ls hP hD hS hL)
theorem z_iload (C : zC X k n cc own Ts d) {i : Nat} {x : Int32} (hd : decode cc pc = .ok (.iload i, 2)) (hl : zl lv i = some (.int x)) (kk : zG X k n ws lv (.int x :: st) (pc + 2)) : zG X k n ws lv (st) pc := by
  obtain ⟨p, E, e, R, s, m, args, below, meth, c, Q, A, nL⟩ := X
  intro H locs ls hP hD hS hL
  exact lv_iload C.1 C.2.1 hd (hL.2.2.1 _ _ hl).1 (kk H locs ls hP hD hS hL)
theorem z_aload_n (C : zC X k n cc own Ts d) {j : Fin 4} (i : Nat) {x : Nat} (hd : decode cc pc = .ok (.aload_n j, 1)) (hi : (j : Nat) = i) (hl : zl lv i = some (.ref x)) (kk : zG X k n ws lv (.ref x :: st) (pc + 1)) : zG X k n ws lv (st) pc := by
  obtain ⟨p, E, e, R, s, m, args, below, meth, c, Q, A, nL⟩ := X
  intro H locs ls hP hD hS hL
  exact lv_aload_n C.1 C.2.1 hd hi (hL.2.2.1 _ _ hl).1 (kk H locs ls hP hD hS hL)
theorem z_aload (C : zC X k n cc own Ts d) {i : Nat} {x : Nat} (hd : decode cc pc = .ok (.aload i, 2)) (hl : zl lv i = some (.ref x)) (kk : zG X k n ws lv (.ref x :: st) (pc + 2)) : zG X k n ws lv (st) pc := by
  obtain ⟨p, E, e, R, s, m, args, below, meth, c, Q, A, nL⟩ := X
  intro H locs ls hP hD hS hL
  exact lv_aload C.1 C.2.1 hd (hL.2.2.1 _ _ hl).1 (kk H locs ls hP hD hS hL)
theorem z_istore_n (C : zC X k n cc own Ts d) {j : Fin 4} (i : Nat) {x : Int32} (hd : decode cc pc = .ok (.istore_n j, 1)) (hi : (j : Nat) = i) (hn : i < lv.length) (kk : zG X k n ws (zs lv i (.int x)) (st) (pc + 1)) : zG X k n ws lv (.int x :: st) pc := by
  obtain ⟨p, E, e, R, s, m, args, below, meth, c, Q, A, nL⟩ := X
  intro H locs ls hP hD hS hL
  exact lv_istore_n C.1 C.2.1 hd hi hL.has (Nat.lt_of_lt_of_le hn hL.2.2.2) rfl (fun ls2 h2 => kk H locs ls2 hP hD hS (hL.set rfl h2))
theorem z_istore (C : zC X k n cc own Ts d) {i : Nat} {x : Int32} (hd : decode cc pc = .ok (.istore i, 2)) (hn : i < lv.length) (kk : zG X k n ws (zs lv i (.int x)) (st) (pc + 2)) : zG X k n ws lv (.int x :: st) pc := by
  obtain ⟨p, E, e, R, s, m, args, below, meth, c, Q, A, nL⟩ := X
  intro H locs ls hP hD hS hL
  exact lv_istore C.1 C.2.1 hd hL.has (Nat.lt_of_lt_of_le hn hL.2.2.2) rfl (fun ls2 h2 => kk H locs ls2 hP hD hS (hL.set rfl h2))
theorem z_astore_n (C : zC X k n cc own Ts d) {j : Fin 4} (i : Nat) {x : Nat} (hd : decode cc pc = .ok (.astore_n j, 1)) (hi : (j : Nat) = i) (hn : i < lv.length) (kk : zG X k n ws (zs lv i (.ref x)) (st) (pc + 1)) : zG X k n ws lv (.ref x :: st) pc := by
  obtain ⟨p, E, e, R, s, m, args, below, meth, c, Q, A, nL⟩ := X
  intro H locs ls hP hD hS hL
  exact lv_astore_n C.1 C.2.1 hd hi hL.has (Nat.lt_of_lt_of_le hn hL.2.2.2) rfl (fun ls2 h2 => kk H locs ls2 hP hD hS (hL.set rfl h2))
theorem z_astore (C : zC X k n cc own Ts d) {i : Nat} {x : Nat} (hd : decode cc pc = .ok (.astore i, 2)) (hn : i < lv.length) (kk : zG X k n ws (zs lv i (.ref x)) (st) (pc + 2)) : zG X k n ws lv (.ref x :: st) pc := by
  obtain ⟨p, E, e, R, s, m, args, below, meth, c, Q, A, nL⟩ := X
  intro H locs ls hP hD hS hL
  exact lv_astore C.1 C.2.1 hd hL.has (Nat.lt_of_lt_of_le hn hL.2.2.2) rfl (fun ls2 h2 => kk H locs ls2 hP hD hS (hL.set rfl h2))
theorem z_iinc (C : zC X k n cc own Ts d) {i : Nat} {j : Int} {x : Int32} (v : Int32) (hd : decode cc pc = .ok (.iinc i j, 3)) (hl : zl lv i = some (.int x)) (hv : x + Int32.ofInt j = v) (kk : zG X k n ws (zs lv i (.int v)) st (pc + 3)) : zG X k n ws lv st pc := by
  obtain ⟨p, E, e, R, s, m, args, below, meth, c, Q, A, nL⟩ := X
  intro H locs ls hP hD hS hL
  obtain ⟨q, hq⟩ := List.getElem?_of_mem ((zp_mem lv 0 (i, Value.int x)).mpr ⟨Nat.zero_le _, hl⟩)
  exact lv_iinc C.1 C.2.1 hd hL.has hq hv (hL.lt hl) rfl (fun ls2 h2 => kk H locs ls2 hP hD hS (hL.set rfl h2))
theorem z_iadd (C : zC X k n cc own Ts d) {x y : Int32} (hd : decode cc pc = .ok (.iadd, 1)) (kk : zG X k n ws lv (.int (x + y) :: st) (pc + 1)) : zG X k n ws lv (.int y :: .int x :: st) pc := by
  obtain ⟨p, E, e, R, s, m, args, below, meth, c, Q, A, nL⟩ := X
  intro H locs ls hP hD hS hL
  exact lv_iadd C.1 C.2.1 hd (kk H locs ls hP hD hS hL)
theorem z_isub (C : zC X k n cc own Ts d) {x y : Int32} (hd : decode cc pc = .ok (.isub, 1)) (kk : zG X k n ws lv (.int (x - y) :: st) (pc + 1)) : zG X k n ws lv (.int y :: .int x :: st) pc := by
  obtain ⟨p, E, e, R, s, m, args, below, meth, c, Q, A, nL⟩ := X
  intro H locs ls hP hD hS hL
  exact lv_isub C.1 C.2.1 hd (kk H locs ls hP hD hS hL)
theorem z_imul (C : zC X k n cc own Ts d) {x y : Int32} (hd : decode cc pc = .ok (.imul, 1)) (kk : zG X k n ws lv (.int (x * y) :: st) (pc + 1)) : zG X k n ws lv (.int y :: .int x :: st) pc := by
  obtain ⟨p, E, e, R, s, m, args, below, meth, c, Q, A, nL⟩ := X
  intro H locs ls hP hD hS hL
  exact lv_imul C.1 C.2.1 hd (kk H locs ls hP hD hS hL)
theorem z_iand (C : zC X k n cc own Ts d) {x y : Int32} (hd : decode cc pc = .ok (.iand, 1)) (kk : zG X k n ws lv (.int (x &&& y) :: st) (pc + 1)) : zG X k n ws lv (.int y :: .int x :: st) pc := by
  obtain ⟨p, E, e, R, s, m, args, below, meth, c, Q, A, nL⟩ := X
  intro H locs ls hP hD hS hL
  exact lv_iand C.1 C.2.1 hd (kk H locs ls hP hD hS hL)
theorem z_ior (C : zC X k n cc own Ts d) {x y : Int32} (hd : decode cc pc = .ok (.ior, 1)) (kk : zG X k n ws lv (.int (x ||| y) :: st) (pc + 1)) : zG X k n ws lv (.int y :: .int x :: st) pc := by
  obtain ⟨p, E, e, R, s, m, args, below, meth, c, Q, A, nL⟩ := X
  intro H locs ls hP hD hS hL
  exact lv_ior C.1 C.2.1 hd (kk H locs ls hP hD hS hL)
theorem z_ixor (C : zC X k n cc own Ts d) {x y : Int32} (hd : decode cc pc = .ok (.ixor, 1)) (kk : zG X k n ws lv (.int (x ^^^ y) :: st) (pc + 1)) : zG X k n ws lv (.int y :: .int x :: st) pc := by
  obtain ⟨p, E, e, R, s, m, args, below, meth, c, Q, A, nL⟩ := X
  intro H locs ls hP hD hS hL
  exact lv_ixor C.1 C.2.1 hd (kk H locs ls hP hD hS hL)
theorem z_ishl (C : zC X k n cc own Ts d) {x y : Int32} (hd : decode cc pc = .ok (.ishl, 1)) (kk : zG X k n ws lv (.int (x <<< (y &&& 31)) :: st) (pc + 1)) : zG X k n ws lv (.int y :: .int x :: st) pc := by
  obtain ⟨p, E, e, R, s, m, args, below, meth, c, Q, A, nL⟩ := X
  intro H locs ls hP hD hS hL
  exact lv_ishl C.1 C.2.1 hd (kk H locs ls hP hD hS hL)
theorem z_ishr (C : zC X k n cc own Ts d) {x y : Int32} (hd : decode cc pc = .ok (.ishr, 1)) (kk : zG X k n ws lv (.int (x >>> (y &&& 31)) :: st) (pc + 1)) : zG X k n ws lv (.int y :: .int x :: st) pc := by
  obtain ⟨p, E, e, R, s, m, args, below, meth, c, Q, A, nL⟩ := X
  intro H locs ls hP hD hS hL
  exact lv_ishr C.1 C.2.1 hd (kk H locs ls hP hD hS hL)
theorem z_idiv (C : zC X k n cc own Ts d) {x y : Int32} (hd : decode cc pc = .ok (.idiv, 1)) (hne : ¬ y = 0) (kk : zG X k n ws lv (.int (x / y) :: st) (pc + 1)) : zG X k n ws lv (.int y :: .int x :: st) pc := by
  obtain ⟨p, E, e, R, s, m, args, below, meth, c, Q, A, nL⟩ := X
  intro H locs ls hP hD hS hL
  exact lv_idiv C.1 C.2.1 hd hne (kk H locs ls hP hD hS hL)
theorem z_irem (C : zC X k n cc own Ts d) {x y : Int32} (hd : decode cc pc = .ok (.irem, 1)) (hne : ¬ y = 0) (kk : zG X k n ws lv (.int (x - x / y * y) :: st) (pc + 1)) : zG X k n ws lv (.int y :: .int x :: st) pc := by
  obtain ⟨p, E, e, R, s, m, args, below, meth, c, Q, A, nL⟩ := X
  intro H locs ls hP hD hS hL
  exact lv_irem C.1 C.2.1 hd hne (kk H locs ls hP hD hS hL)
theorem z_i2c (C : zC X k n cc own Ts d) {x : Int32} (v : Int32) (hd : decode cc pc = .ok (.i2c, 1)) (hv : (x.toUInt32 % 65536).toInt32 = v) (kk : zG X k n ws lv (.int v :: st) (pc + 1)) : zG X k n ws lv (.int x :: st) pc := by
  obtain ⟨p, E, e, R, s, m, args, below, meth, c, Q, A, nL⟩ := X
  intro H locs ls hP hD hS hL
  exact lv_i2c C.1 C.2.1 hd hv (kk H locs ls hP hD hS hL)
theorem z_dup (C : zC X k n cc own Ts d) {va : Value} (hd : decode cc pc = .ok (.dup, 1)) (h1 : va.category = 1) (kk : zG X k n ws lv (va :: va :: st) (pc + 1)) : zG X k n ws lv (va :: st) pc := by
  obtain ⟨p, E, e, R, s, m, args, below, meth, c, Q, A, nL⟩ := X
  intro H locs ls hP hD hS hL
  exact lv_dup C.1 C.2.1 hd h1 (kk H locs ls hP hD hS hL)
theorem z_pop (C : zC X k n cc own Ts d) {va : Value} (hd : decode cc pc = .ok (.pop, 1)) (h1 : va.category = 1) (kk : zG X k n ws lv (st) (pc + 1)) : zG X k n ws lv (va :: st) pc := by
  obtain ⟨p, E, e, R, s, m, args, below, meth, c, Q, A, nL⟩ := X
  intro H locs ls hP hD hS hL
  exact lv_pop C.1 C.2.1 hd h1 (kk H locs ls hP hD hS hL)
theorem z_dup2 (C : zC X k n cc own Ts d) {va vb : Value} (hd : decode cc pc = .ok (.dup2, 1)) (h1 : va.category = 1) (h2 : vb.category = 1) (kk : zG X k n ws lv (va :: vb :: va :: vb :: st) (pc + 1)) : zG X k n ws lv (va :: vb :: st) pc := by
  obtain ⟨p, E, e, R, s, m, args, below, meth, c, Q, A, nL⟩ := X
  intro H locs ls hP hD hS hL
  exact lv_dup2_11 C.1 C.2.1 hd h1 h2 (kk H locs ls hP hD hS hL)
theorem z_goto (C : zC X k n cc own Ts d) {off : Int} (tgt : Nat) (hd : decode cc pc = .ok (.goto off, 3)) (ht : (pc : Int) + off = (tgt : Int)) (kk : zG X k n ws lv (st) (tgt)) : zG X k n ws lv (st) pc := by
  obtain ⟨p, E, e, R, s, m, args, below, meth, c, Q, A, nL⟩ := X
  intro H locs ls hP hD hS hL
  exact lv_goto C.1 C.2.1 hd ht (kk H locs ls hP hD hS hL)
theorem z_top {x y : Int32} (h : x = y) (kk : zG X k n ws lv (.int y :: st) pc) : zG X k n ws lv (.int x :: st) pc := by rw [h]; exact kk
theorem z_cv {ws' : va_W} {lv' : List (Option Value)} {st' : List Value} (h1 : ws = ws') (h2 : lv = lv') (h3 : st = st') (kk : zG X k n ws' lv' st' pc) : zG X k n ws lv st pc := by rw [h1, h2, h3]; exact kk
theorem z_icmp_eq (C : zC X k n cc own Ts d) {x y : Int32} {off : Int} (tgt : Nat) (hd : decode cc pc = .ok (.if_icmp .eq off, 3)) (ht : (pc : Int) + off = (tgt : Int)) (kt : x = y → zG X k n ws lv st tgt) (kf : ¬ x = y → zG X k n ws lv st (pc + 3)) : zG X k n ws lv (.int y :: .int x :: st) pc := by
  obtain ⟨p, E, e, R, s, m, args, below, meth, c, Q, A, nL⟩ := X
  intro H locs ls hP hD hS hL
  exact lv_icmp_eq C.1 C.2.1 hd ht (fun h => kt h H locs ls hP hD hS hL) (fun h => kf h H locs ls hP hD hS hL)
theorem z_icmp_eq_t (C : zC X k n cc own Ts d) {x y : Int32} {off : Int} (tgt : Nat) (hd : decode cc pc = .ok (.if_icmp .eq off, 3)) (ht : (pc : Int) + off = (tgt : Int)) (h : x = y) (kt : zG X k n ws lv st tgt) : zG X k n ws lv (.int y :: .int x :: st) pc := z_icmp_eq C tgt hd ht (fun _ => kt) (fun q => absurd h (by first | exact q | exact fun z => z q))
theorem z_icmp_eq_f (C : zC X k n cc own Ts d) {x y : Int32} {off : Int} (tgt : Nat) (hd : decode cc pc = .ok (.if_icmp .eq off, 3)) (ht : (pc : Int) + off = (tgt : Int)) (h : ¬ x = y) (kf : zG X k n ws lv st (pc + 3)) : zG X k n ws lv (.int y :: .int x :: st) pc := z_icmp_eq C tgt hd ht (fun q => absurd h (by first | exact q | exact fun z => z q)) (fun _ => kf)
theorem z_ncmp_eq (C : zC X k n cc own Ts d) {a b : Nat} {off : Int} (tgt : Nat) (hd : decode cc pc = .ok (.if_icmp .eq off, 3)) (ht : (pc : Int) + off = (tgt : Int)) (ha : a < 2147483648) (hb : b < 2147483648) (kt : a = b → zG X k n ws lv st tgt) (kf : a ≠ b → zG X k n ws lv st (pc + 3)) : zG X k n ws lv (.int (nI b) :: .int (nI a) :: st) pc := z_icmp_eq C tgt hd ht (fun h => kt ((nI_eq ha hb).mp h)) (fun h => kf (fun q => h ((nI_eq ha hb).mpr q)))
theorem z_ncmp_eq_t (C : zC X k n cc own Ts d) {a b : Nat} {off : Int} (tgt : Nat) (hd : decode cc pc = .ok (.if_icmp .eq off, 3)) (ht : (pc : Int) + off = (tgt : Int)) (ha : a < 2147483648) (hb : b < 2147483648) (h : a = b) (kt : zG X k n ws lv st tgt) : zG X k n ws lv (.int (nI b) :: .int (nI a) :: st) pc := z_ncmp_eq C tgt hd ht ha hb (fun _ => kt) (fun q => absurd h (by omega))
theorem z_ncmp_eq_f (C : zC X k n cc own Ts d) {a b : Nat} {off : Int} (tgt : Nat) (hd : decode cc pc = .ok (.if_icmp .eq off, 3)) (ht : (pc : Int) + off = (tgt : Int)) (ha : a < 2147483648) (hb : b < 2147483648) (h : a ≠ b) (kf : zG X k n ws lv st (pc + 3)) : zG X k n ws lv (.int (nI b) :: .int (nI a) :: st) pc := z_ncmp_eq C tgt hd ht ha hb (fun q => absurd h (by omega)) (fun _ => kf)
theorem z_if_eq (C : zC X k n cc own Ts d) {x : Int32} {off : Int} (tgt : Nat) (hd : decode cc pc = .ok (.ifCond .eq off, 3)) (ht : (pc : Int) + off = (tgt : Int)) (kt : x = 0 → zG X k n ws lv st tgt) (kf : ¬ x = 0 → zG X k n ws lv st (pc + 3)) : zG X k n ws lv (.int x :: st) pc := by
  obtain ⟨p, E, e, R, s, m, args, below, meth, c, Q, A, nL⟩ := X
  intro H locs ls hP hD hS hL
  exact lv_if_eq C.1 C.2.1 hd ht (fun h => kt h H locs ls hP hD hS hL) (fun h => kf h H locs ls hP hD hS hL)
theorem z_if_eq_t (C : zC X k n cc own Ts d) {x : Int32} {off : Int} (tgt : Nat) (hd : decode cc pc = .ok (.ifCond .eq off, 3)) (ht : (pc : Int) + off = (tgt : Int)) (h : x = 0) (kt : zG X k n ws lv st tgt) : zG X k n ws lv (.int x :: st) pc := z_if_eq C tgt hd ht (fun _ => kt) (fun q => absurd h (by first | exact q | exact fun z => z q))
theorem z_if_eq_f (C : zC X k n cc own Ts d) {x : Int32} {off : Int} (tgt : Nat) (hd : decode cc pc = .ok (.ifCond .eq off, 3)) (ht : (pc : Int) + off = (tgt : Int)) (h : ¬ x = 0) (kf : zG X k n ws lv st (pc + 3)) : zG X k n ws lv (.int x :: st) pc := z_if_eq C tgt hd ht (fun q => absurd h (by first | exact q | exact fun z => z q)) (fun _ => kf)
theorem z_nif_eq (C : zC X k n cc own Ts d) {a : Nat} {off : Int} (tgt : Nat) (hd : decode cc pc = .ok (.ifCond .eq off, 3)) (ht : (pc : Int) + off = (tgt : Int)) (ha : a < 2147483648) (kt : a = 0 → zG X k n ws lv st tgt) (kf : a ≠ 0 → zG X k n ws lv st (pc + 3)) : zG X k n ws lv (.int (nI a) :: st) pc := z_if_eq C tgt hd ht (fun h => kt (by rw [← nI_0] at h; exact (nI_eq ha (by decide)).mp h)) (fun h => kf (by rw [← nI_0] at h; exact fun q => h ((nI_eq ha (by decide)).mpr q)))
theorem z_nif_eq_t (C : zC X k n cc own Ts d) {a : Nat} {off : Int} (tgt : Nat) (hd : decode cc pc = .ok (.ifCond .eq off, 3)) (ht : (pc : Int) + off = (tgt : Int)) (ha : a < 2147483648) (h : a = 0) (kt : zG X k n ws lv st tgt) : zG X k n ws lv (.int (nI a) :: st) pc := z_nif_eq C tgt hd ht ha (fun _ => kt) (fun q => absurd h (by first | exact fun z => z.elim | omega | exact q.elim))
theorem z_nif_eq_f (C : zC X k n cc own Ts d) {a : Nat} {off : Int} (tgt : Nat) (hd : decode cc pc = .ok (.ifCond .eq off, 3)) (ht : (pc : Int) + off = (tgt : Int)) (ha : a < 2147483648) (h : a ≠ 0) (kf : zG X k n ws lv st (pc + 3)) : zG X k n ws lv (.int (nI a) :: st) pc := z_nif_eq C tgt hd ht ha (fun q => absurd h (by first | exact fun z => z.elim | omega | exact q.elim)) (fun _ => kf)
theorem z_icmp_ne (C : zC X k n cc own Ts d) {x y : Int32} {off : Int} (tgt : Nat) (hd : decode cc pc = .ok (.if_icmp .ne off, 3)) (ht : (pc : Int) + off = (tgt : Int)) (kt : ¬ x = y → zG X k n ws lv st tgt) (kf : x = y → zG X k n ws lv st (pc + 3)) : zG X k n ws lv (.int y :: .int x :: st) pc := by
  obtain ⟨p, E, e, R, s, m, args, below, meth, c, Q, A, nL⟩ := X
  intro H locs ls hP hD hS hL
  exact lv_icmp_ne C.1 C.2.1 hd ht (fun h => kt h H locs ls hP hD hS hL) (fun h => kf h H locs ls hP hD hS hL)
theorem z_icmp_ne_t (C : zC X k n cc own Ts d) {x y : Int32} {off : Int} (tgt : Nat) (hd : decode cc pc = .ok (.if_icmp .ne off, 3)) (ht : (pc : Int) + off = (tgt : Int)) (h : ¬ x = y) (kt : zG X k n ws lv st tgt) : zG X k n ws lv (.int y :: .int x :: st) pc := z_icmp_ne C tgt hd ht (fun _ => kt) (fun q => absurd h (by first | exact q | exact fun z => z q))
theorem z_icmp_ne_f (C : zC X k n cc own Ts d) {x y : Int32} {off : Int} (tgt : Nat) (hd : decode cc pc = .ok (.if_icmp .ne off, 3)) (ht : (pc : Int) + off = (tgt : Int)) (h : x = y) (kf : zG X k n ws lv st (pc + 3)) : zG X k n ws lv (.int y :: .int x :: st) pc := z_icmp_ne C tgt hd ht (fun q => absurd h (by first | exact q | exact fun z => z q)) (fun _ => kf)
theorem z_ncmp_ne (C : zC X k n cc own Ts d) {a b : Nat} {off : Int} (tgt : Nat) (hd : decode cc pc = .ok (.if_icmp .ne off, 3)) (ht : (pc : Int) + off = (tgt : Int)) (ha : a < 2147483648) (hb : b < 2147483648) (kt : a ≠ b → zG X k n ws lv st tgt) (kf : a = b → zG X k n ws lv st (pc + 3)) : zG X k n ws lv (.int (nI b) :: .int (nI a) :: st) pc := z_icmp_ne C tgt hd ht (fun h => kt (fun q => h ((nI_eq ha hb).mpr q))) (fun h => kf ((nI_eq ha hb).mp h))
theorem z_ncmp_ne_t (C : zC X k n cc own Ts d) {a b : Nat} {off : Int} (tgt : Nat) (hd : decode cc pc = .ok (.if_icmp .ne off, 3)) (ht : (pc : Int) + off = (tgt : Int)) (ha : a < 2147483648) (hb : b < 2147483648) (h : a ≠ b) (kt : zG X k n ws lv st tgt) : zG X k n ws lv (.int (nI b) :: .int (nI a) :: st) pc := z_ncmp_ne C tgt hd ht ha hb (fun _ => kt) (fun q => absurd h (by omega))
theorem z_ncmp_ne_f (C : zC X k n cc own Ts d) {a b : Nat} {off : Int} (tgt : Nat) (hd : decode cc pc = .ok (.if_icmp .ne off, 3)) (ht : (pc : Int) + off = (tgt : Int)) (ha : a < 2147483648) (hb : b < 2147483648) (h : a = b) (kf : zG X k n ws lv st (pc + 3)) : zG X k n ws lv (.int (nI b) :: .int (nI a) :: st) pc := z_ncmp_ne C tgt hd ht ha hb (fun q => absurd h (by omega)) (fun _ => kf)
theorem z_if_ne (C : zC X k n cc own Ts d) {x : Int32} {off : Int} (tgt : Nat) (hd : decode cc pc = .ok (.ifCond .ne off, 3)) (ht : (pc : Int) + off = (tgt : Int)) (kt : ¬ x = 0 → zG X k n ws lv st tgt) (kf : x = 0 → zG X k n ws lv st (pc + 3)) : zG X k n ws lv (.int x :: st) pc := by
  obtain ⟨p, E, e, R, s, m, args, below, meth, c, Q, A, nL⟩ := X
  intro H locs ls hP hD hS hL
  exact lv_if_ne C.1 C.2.1 hd ht (fun h => kt h H locs ls hP hD hS hL) (fun h => kf h H locs ls hP hD hS hL)
theorem z_if_ne_t (C : zC X k n cc own Ts d) {x : Int32} {off : Int} (tgt : Nat) (hd : decode cc pc = .ok (.ifCond .ne off, 3)) (ht : (pc : Int) + off = (tgt : Int)) (h : ¬ x = 0) (kt : zG X k n ws lv st tgt) : zG X k n ws lv (.int x :: st) pc := z_if_ne C tgt hd ht (fun _ => kt) (fun q => absurd h (by first | exact q | exact fun z => z q))
theorem z_if_ne_f (C : zC X k n cc own Ts d) {x : Int32} {off : Int} (tgt : Nat) (hd : decode cc pc = .ok (.ifCond .ne off, 3)) (ht : (pc : Int) + off = (tgt : Int)) (h : x = 0) (kf : zG X k n ws lv st (pc + 3)) : zG X k n ws lv (.int x :: st) pc := z_if_ne C tgt hd ht (fun q => absurd h (by first | exact q | exact fun z => z q)) (fun _ => kf)
theorem z_nif_ne (C : zC X k n cc own Ts d) {a : Nat} {off : Int} (tgt : Nat) (hd : decode cc pc = .ok (.ifCond .ne off, 3)) (ht : (pc : Int) + off = (tgt : Int)) (ha : a < 2147483648) (kt : a ≠ 0 → zG X k n ws lv st tgt) (kf : a = 0 → zG X k n ws lv st (pc + 3)) : zG X k n ws lv (.int (nI a) :: st) pc := z_if_ne C tgt hd ht (fun h => kt (by rw [← nI_0] at h; exact fun q => h ((nI_eq ha (by decide)).mpr q))) (fun h => kf (by rw [← nI_0] at h; exact (nI_eq ha (by decide)).mp h))
theorem z_nif_ne_t (C : zC X k n cc own Ts d) {a : Nat} {off : Int} (tgt : Nat) (hd : decode cc pc = .ok (.ifCond .ne off, 3)) (ht : (pc : Int) + off = (tgt : Int)) (ha : a < 2147483648) (h : a ≠ 0) (kt : zG X k n ws lv st tgt) : zG X k n ws lv (.int (nI a) :: st) pc := z_nif_ne C tgt hd ht ha (fun _ => kt) (fun q => absurd h (by first | exact fun z => z.elim | omega | exact q.elim))
theorem z_nif_ne_f (C : zC X k n cc own Ts d) {a : Nat} {off : Int} (tgt : Nat) (hd : decode cc pc = .ok (.ifCond .ne off, 3)) (ht : (pc : Int) + off = (tgt : Int)) (ha : a < 2147483648) (h : a = 0) (kf : zG X k n ws lv st (pc + 3)) : zG X k n ws lv (.int (nI a) :: st) pc := z_nif_ne C tgt hd ht ha (fun q => absurd h (by first | exact fun z => z.elim | omega | exact q.elim)) (fun _ => kf)
theorem z_icmp_lt (C : zC X k n cc own Ts d) {x y : Int32} {off : Int} (tgt : Nat) (hd : decode cc pc = .ok (.if_icmp .lt off, 3)) (ht : (pc : Int) + off = (tgt : Int)) (kt : x < y → zG X k n ws lv st tgt) (kf : ¬ x < y → zG X k n ws lv st (pc + 3)) : zG X k n ws lv (.int y :: .int x :: st) pc := by
  obtain ⟨p, E, e, R, s, m, args, below, meth, c, Q, A, nL⟩ := X
  intro H locs ls hP hD hS hL
  exact lv_icmp_lt C.1 C.2.1 hd ht (fun h => kt h H locs ls hP hD hS hL) (fun h => kf h H locs ls hP hD hS hL)
theorem z_icmp_lt_t (C : zC X k n cc own Ts d) {x y : Int32} {off : Int} (tgt : Nat) (hd : decode cc pc = .ok (.if_icmp .lt off, 3)) (ht : (pc : Int) + off = (tgt : Int)) (h : x < y) (kt : zG X k n ws lv st tgt) : zG X k n ws lv (.int y :: .int x :: st) pc := z_icmp_lt C tgt hd ht (fun _ => kt) (fun q => absurd h (by first | exact q | exact fun z => z q))
theorem z_icmp_lt_f (C : zC X k n cc own Ts d) {x y : Int32} {off : Int} (tgt : Nat) (hd : decode cc pc = .ok (.if_icmp .lt off, 3)) (ht : (pc : Int) + off = (tgt : Int)) (h : ¬ x < y) (kf : zG X k n ws lv st (pc + 3)) : zG X k n ws lv (.int y :: .int x :: st) pc := z_icmp_lt C tgt hd ht (fun q => absurd h (by first | exact q | exact fun z => z q)) (fun _ => kf)
theorem z_ncmp_lt (C : zC X k n cc own Ts d) {a b : Nat} {off : Int} (tgt : Nat) (hd : decode cc pc = .ok (.if_icmp .lt off, 3)) (ht : (pc : Int) + off = (tgt : Int)) (ha : a < 2147483648) (hb : b < 2147483648) (kt : a < b → zG X k n ws lv st tgt) (kf : b ≤ a → zG X k n ws lv st (pc + 3)) : zG X k n ws lv (.int (nI b) :: .int (nI a) :: st) pc := z_icmp_lt C tgt hd ht (fun h => kt ((nI_ltI ha hb).mp h)) (fun h => kf (Nat.not_lt.mp (fun q => h ((nI_ltI ha hb).mpr q))))
theorem z_ncmp_lt_t (C : zC X k n cc own Ts d) {a b : Nat} {off : Int} (tgt : Nat) (hd : decode cc pc = .ok (.if_icmp .lt off, 3)) (ht : (pc : Int) + off = (tgt : Int)) (ha : a < 2147483648) (hb : b < 2147483648) (h : a < b) (kt : zG X k n ws lv st tgt) : zG X k n ws lv (.int (nI b) :: .int (nI a) :: st) pc := z_ncmp_lt C tgt hd ht ha hb (fun _ => kt) (fun q => absurd h (by omega))
theorem z_ncmp_lt_f (C : zC X k n cc own Ts d) {a b : Nat} {off : Int} (tgt : Nat) (hd : decode cc pc = .ok (.if_icmp .lt off, 3)) (ht : (pc : Int) + off = (tgt : Int)) (ha : a < 2147483648) (hb : b < 2147483648) (h : b ≤ a) (kf : zG X k n ws lv st (pc + 3)) : zG X k n ws lv (.int (nI b) :: .int (nI a) :: st) pc := z_ncmp_lt C tgt hd ht ha hb (fun q => absurd h (by omega)) (fun _ => kf)
theorem z_if_lt (C : zC X k n cc own Ts d) {x : Int32} {off : Int} (tgt : Nat) (hd : decode cc pc = .ok (.ifCond .lt off, 3)) (ht : (pc : Int) + off = (tgt : Int)) (kt : x < 0 → zG X k n ws lv st tgt) (kf : ¬ x < 0 → zG X k n ws lv st (pc + 3)) : zG X k n ws lv (.int x :: st) pc := by
  obtain ⟨p, E, e, R, s, m, args, below, meth, c, Q, A, nL⟩ := X
  intro H locs ls hP hD hS hL
  exact lv_if_lt C.1 C.2.1 hd ht (fun h => kt h H locs ls hP hD hS hL) (fun h => kf h H locs ls hP hD hS hL)
theorem z_if_lt_t (C : zC X k n cc own Ts d) {x : Int32} {off : Int} (tgt : Nat) (hd : decode cc pc = .ok (.ifCond .lt off, 3)) (ht : (pc : Int) + off = (tgt : Int)) (h : x < 0) (kt : zG X k n ws lv st tgt) : zG X k n ws lv (.int x :: st) pc := z_if_lt C tgt hd ht (fun _ => kt) (fun q => absurd h (by first | exact q | exact fun z => z q))
theorem z_if_lt_f (C : zC X k n cc own Ts d) {x : Int32} {off : Int} (tgt : Nat) (hd : decode cc pc = .ok (.ifCond .lt off, 3)) (ht : (pc : Int) + off = (tgt : Int)) (h : ¬ x < 0) (kf : zG X k n ws lv st (pc + 3)) : zG X k n ws lv (.int x :: st) pc := z_if_lt C tgt hd ht (fun q => absurd h (by first | exact q | exact fun z => z q)) (fun _ => kf)
theorem z_nif_lt (C : zC X k n cc own Ts d) {a : Nat} {off : Int} (tgt : Nat) (hd : decode cc pc = .ok (.ifCond .lt off, 3)) (ht : (pc : Int) + off = (tgt : Int)) (ha : a < 2147483648) (kt : False → zG X k n ws lv st tgt) (kf : True → zG X k n ws lv st (pc + 3)) : zG X k n ws lv (.int (nI a) :: st) pc := z_if_lt C tgt hd ht (fun h => kt (nI_pos ha h)) (fun h => kf (trivial))
theorem z_nif_lt_t (C : zC X k n cc own Ts d) {a : Nat} {off : Int} (tgt : Nat) (hd : decode cc pc = .ok (.ifCond .lt off, 3)) (ht : (pc : Int) + off = (tgt : Int)) (ha : a < 2147483648) (h : False) (kt : zG X k n ws lv st tgt) : zG X k n ws lv (.int (nI a) :: st) pc := z_nif_lt C tgt hd ht ha (fun _ => kt) (fun q => absurd h (by first | exact fun z => z.elim | omega | exact q.elim))
theorem z_nif_lt_f (C : zC X k n cc own Ts d) {a : Nat} {off : Int} (tgt : Nat) (hd : decode cc pc = .ok (.ifCond .lt off, 3)) (ht : (pc : Int) + off = (tgt : Int)) (ha : a < 2147483648) (h : True) (kf : zG X k n ws lv st (pc + 3)) : zG X k n ws lv (.int (nI a) :: st) pc := z_nif_lt C tgt hd ht ha (fun q => absurd h (by first | exact fun z => z.elim | omega | exact q.elim)) (fun _ => kf)
theorem z_icmp_ge (C : zC X k n cc own Ts d) {x y : Int32} {off : Int} (tgt : Nat) (hd : decode cc pc = .ok (.if_icmp .ge off, 3)) (ht : (pc : Int) + off = (tgt : Int)) (kt : y ≤ x → zG X k n ws lv st tgt) (kf : ¬ y ≤ x → zG X k n ws lv st (pc + 3)) : zG X k n ws lv (.int y :: .int x :: st) pc := by
  obtain ⟨p, E, e, R, s, m, args, below, meth, c, Q, A, nL⟩ := X
  intro H locs ls hP hD hS hL
  exact lv_icmp_ge C.1 C.2.1 hd ht (fun h => kt h H locs ls hP hD hS hL) (fun h => kf h H locs ls hP hD hS hL)
theorem z_icmp_ge_t (C : zC X k n cc own Ts d) {x y : Int32} {off : Int} (tgt : Nat) (hd : decode cc pc = .ok (.if_icmp .ge off, 3)) (ht : (pc : Int) + off = (tgt : Int)) (h : y ≤ x) (kt : zG X k n ws lv st tgt) : zG X k n ws lv (.int y :: .int x :: st) pc := z_icmp_ge C tgt hd ht (fun _ => kt) (fun q => absurd h (by first | exact q | exact fun z => z q))
theorem z_icmp_ge_f (C : zC X k n cc own Ts d) {x y : Int32} {off : Int} (tgt : Nat) (hd : decode cc pc = .ok (.if_icmp .ge off, 3)) (ht : (pc : Int) + off = (tgt : Int)) (h : ¬ y ≤ x) (kf : zG X k n ws lv st (pc + 3)) : zG X k n ws lv (.int y :: .int x :: st) pc := z_icmp_ge C tgt hd ht (fun q => absurd h (by first | exact q | exact fun z => z q)) (fun _ => kf)
theorem z_ncmp_ge (C : zC X k n cc own Ts d) {a b : Nat} {off : Int} (tgt : Nat) (hd : decode cc pc = .ok (.if_icmp .ge off, 3)) (ht : (pc : Int) + off = (tgt : Int)) (ha : a < 2147483648) (hb : b < 2147483648) (kt : b ≤ a → zG X k n ws lv st tgt) (kf : a < b → zG X k n ws lv st (pc + 3)) : zG X k n ws lv (.int (nI b) :: .int (nI a) :: st) pc := z_icmp_ge C tgt hd ht (fun h => kt ((nI_leI hb ha).mp h)) (fun h => kf (Nat.not_le.mp (fun q => h ((nI_leI hb ha).mpr q))))
theorem z_ncmp_ge_t (C : zC X k n cc own Ts d) {a b : Nat} {off : Int} (tgt : Nat) (hd : decode cc pc = .ok (.if_icmp .ge off, 3)) (ht : (pc : Int) + off = (tgt : Int)) (ha : a < 2147483648) (hb : b < 2147483648) (h : b ≤ a) (kt : zG X k n ws lv st tgt) : zG X k n ws lv (.int (nI b) :: .int (nI a) :: st) pc := z_ncmp_ge C tgt hd ht ha hb (fun _ => kt) (fun q => absurd h (by omega))
theorem z_ncmp_ge_f (C : zC X k n cc own Ts d) {a b : Nat} {off : Int} (tgt : Nat) (hd : decode cc pc = .ok (.if_icmp .ge off, 3)) (ht : (pc : Int) + off = (tgt : Int)) (ha : a < 2147483648) (hb : b < 2147483648) (h : a < b) (kf : zG X k n ws lv st (pc + 3)) : zG X k n ws lv (.int (nI b) :: .int (nI a) :: st) pc := z_ncmp_ge C tgt hd ht ha hb (fun q => absurd h (by omega)) (fun _ => kf)
theorem z_if_ge (C : zC X k n cc own Ts d) {x : Int32} {off : Int} (tgt : Nat) (hd : decode cc pc = .ok (.ifCond .ge off, 3)) (ht : (pc : Int) + off = (tgt : Int)) (kt : 0 ≤ x → zG X k n ws lv st tgt) (kf : ¬ 0 ≤ x → zG X k n ws lv st (pc + 3)) : zG X k n ws lv (.int x :: st) pc := by
  obtain ⟨p, E, e, R, s, m, args, below, meth, c, Q, A, nL⟩ := X
  intro H locs ls hP hD hS hL
  exact lv_if_ge C.1 C.2.1 hd ht (fun h => kt h H locs ls hP hD hS hL) (fun h => kf h H locs ls hP hD hS hL)
theorem z_if_ge_t (C : zC X k n cc own Ts d) {x : Int32} {off : Int} (tgt : Nat) (hd : decode cc pc = .ok (.ifCond .ge off, 3)) (ht : (pc : Int) + off = (tgt : Int)) (h : 0 ≤ x) (kt : zG X k n ws lv st tgt) : zG X k n ws lv (.int x :: st) pc := z_if_ge C tgt hd ht (fun _ => kt) (fun q => absurd h (by first | exact q | exact fun z => z q))
theorem z_if_ge_f (C : zC X k n cc own Ts d) {x : Int32} {off : Int} (tgt : Nat) (hd : decode cc pc = .ok (.ifCond .ge off, 3)) (ht : (pc : Int) + off = (tgt : Int)) (h : ¬ 0 ≤ x) (kf : zG X k n ws lv st (pc + 3)) : zG X k n ws lv (.int x :: st) pc := z_if_ge C tgt hd ht (fun q => absurd h (by first | exact q | exact fun z => z q)) (fun _ => kf)
theorem z_nif_ge (C : zC X k n cc own Ts d) {a : Nat} {off : Int} (tgt : Nat) (hd : decode cc pc = .ok (.ifCond .ge off, 3)) (ht : (pc : Int) + off = (tgt : Int)) (ha : a < 2147483648) (kt : True → zG X k n ws lv st tgt) (kf : False → zG X k n ws lv st (pc + 3)) : zG X k n ws lv (.int (nI a) :: st) pc := z_if_ge C tgt hd ht (fun h => kt (trivial)) (fun h => kf (h (nI_pos' ha)))
theorem z_nif_ge_t (C : zC X k n cc own Ts d) {a : Nat} {off : Int} (tgt : Nat) (hd : decode cc pc = .ok (.ifCond .ge off, 3)) (ht : (pc : Int) + off = (tgt : Int)) (ha : a < 2147483648) (h : True) (kt : zG X k n ws lv st tgt) : zG X k n ws lv (.int (nI a) :: st) pc := z_nif_ge C tgt hd ht ha (fun _ => kt) (fun q => absurd h (by first | exact fun z => z.elim | omega | exact q.elim))
theorem z_nif_ge_f (C : zC X k n cc own Ts d) {a : Nat} {off : Int} (tgt : Nat) (hd : decode cc pc = .ok (.ifCond .ge off, 3)) (ht : (pc : Int) + off = (tgt : Int)) (ha : a < 2147483648) (h : False) (kf : zG X k n ws lv st (pc + 3)) : zG X k n ws lv (.int (nI a) :: st) pc := z_nif_ge C tgt hd ht ha (fun q => absurd h (by first | exact fun z => z.elim | omega | exact q.elim)) (fun _ => kf)
theorem z_icmp_gt (C : zC X k n cc own Ts d) {x y : Int32} {off : Int} (tgt : Nat) (hd : decode cc pc = .ok (.if_icmp .gt off, 3)) (ht : (pc : Int) + off = (tgt : Int)) (kt : y < x → zG X k n ws lv st tgt) (kf : ¬ y < x → zG X k n ws lv st (pc + 3)) : zG X k n ws lv (.int y :: .int x :: st) pc := by
  obtain ⟨p, E, e, R, s, m, args, below, meth, c, Q, A, nL⟩ := X
  intro H locs ls hP hD hS hL
  exact lv_icmp_gt C.1 C.2.1 hd ht (fun h => kt h H locs ls hP hD hS hL) (fun h => kf h H locs ls hP hD hS hL)
theorem z_icmp_gt_t (C : zC X k n cc own Ts d) {x y : Int32} {off : Int} (tgt : Nat) (hd : decode cc pc = .ok (.if_icmp .gt off, 3)) (ht : (pc : Int) + off = (tgt : Int)) (h : y < x) (kt : zG X k n ws lv st tgt) : zG X k n ws lv (.int y :: .int x :: st) pc := z_icmp_gt C tgt hd ht (fun _ => kt) (fun q => absurd h (by first | exact q | exact fun z => z q))
theorem z_icmp_gt_f (C : zC X k n cc own Ts d) {x y : Int32} {off : Int} (tgt : Nat) (hd : decode cc pc = .ok (.if_icmp .gt off, 3)) (ht : (pc : Int) + off = (tgt : Int)) (h : ¬ y < x) (kf : zG X k n ws lv st (pc + 3)) : zG X k n ws lv (.int y :: .int x :: st) pc := z_icmp_gt C tgt hd ht (fun q => absurd h (by first | exact q | exact fun z => z q)) (fun _ => kf)
theorem z_ncmp_gt (C : zC X k n cc own Ts d) {a b : Nat} {off : Int} (tgt : Nat) (hd : decode cc pc = .ok (.if_icmp .gt off, 3)) (ht : (pc : Int) + off = (tgt : Int)) (ha : a < 2147483648) (hb : b < 2147483648) (kt : b < a → zG X k n ws lv st tgt) (kf : a ≤ b → zG X k n ws lv st (pc + 3)) : zG X k n ws lv (.int (nI b) :: .int (nI a) :: st) pc := z_icmp_gt C tgt hd ht (fun h => kt ((nI_ltI hb ha).mp h)) (fun h => kf (Nat.not_lt.mp (fun q => h ((nI_ltI hb ha).mpr q))))
theorem z_ncmp_gt_t (C : zC X k n cc own Ts d) {a b : Nat} {off : Int} (tgt : Nat) (hd : decode cc pc = .ok (.if_icmp .gt off, 3)) (ht : (pc : Int) + off = (tgt : Int)) (ha : a < 2147483648) (hb : b < 2147483648) (h : b < a) (kt : zG X k n ws lv st tgt) : zG X k n ws lv (.int (nI b) :: .int (nI a) :: st) pc := z_ncmp_gt C tgt hd ht ha hb (fun _ => kt) (fun q => absurd h (by omega))
theorem z_ncmp_gt_f (C : zC X k n cc own Ts d) {a b : Nat} {off : Int} (tgt : Nat) (hd : decode cc pc = .ok (.if_icmp .gt off, 3)) (ht : (pc : Int) + off = (tgt : Int)) (ha : a < 2147483648) (hb : b < 2147483648) (h : a ≤ b) (kf : zG X k n ws lv st (pc + 3)) : zG X k n ws lv (.int (nI b) :: .int (nI a) :: st) pc := z_ncmp_gt C tgt hd ht ha hb (fun q => absurd h (by omega)) (fun _ => kf)
theorem z_if_gt (C : zC X k n cc own Ts d) {x : Int32} {off : Int} (tgt : Nat) (hd : decode cc pc = .ok (.ifCond .gt off, 3)) (ht : (pc : Int) + off = (tgt : Int)) (kt : 0 < x → zG X k n ws lv st tgt) (kf : ¬ 0 < x → zG X k n ws lv st (pc + 3)) : zG X k n ws lv (.int x :: st) pc := by
  obtain ⟨p, E, e, R, s, m, args, below, meth, c, Q, A, nL⟩ := X
  intro H locs ls hP hD hS hL
  exact lv_if_gt C.1 C.2.1 hd ht (fun h => kt h H locs ls hP hD hS hL) (fun h => kf h H locs ls hP hD hS hL)
theorem z_if_gt_t (C : zC X k n cc own Ts d) {x : Int32} {off : Int} (tgt : Nat) (hd : decode cc pc = .ok (.ifCond .gt off, 3)) (ht : (pc : Int) + off = (tgt : Int)) (h : 0 < x) (kt : zG X k n ws lv st tgt) : zG X k n ws lv (.int x :: st) pc := z_if_gt C tgt hd ht (fun _ => kt) (fun q => absurd h (by first | exact q | exact fun z => z q))
theorem z_if_gt_f (C : zC X k n cc own Ts d) {x : Int32} {off : Int} (tgt : Nat) (hd : decode cc pc = .ok (.ifCond .gt off, 3)) (ht : (pc : Int) + off = (tgt : Int)) (h : ¬ 0 < x) (kf : zG X k n ws lv st (pc + 3)) : zG X k n ws lv (.int x :: st) pc := z_if_gt C tgt hd ht (fun q => absurd h (by first | exact q | exact fun z => z q)) (fun _ => kf)
theorem z_nif_gt (C : zC X k n cc own Ts d) {a : Nat} {off : Int} (tgt : Nat) (hd : decode cc pc = .ok (.ifCond .gt off, 3)) (ht : (pc : Int) + off = (tgt : Int)) (ha : a < 2147483648) (kt : 0 < a → zG X k n ws lv st tgt) (kf : a = 0 → zG X k n ws lv st (pc + 3)) : zG X k n ws lv (.int (nI a) :: st) pc := z_if_gt C tgt hd ht (fun h => kt (by rw [← nI_0] at h; exact (nI_ltI (by decide) ha).mp h)) (fun h => kf (by rw [← nI_0] at h; exact Nat.eq_zero_of_not_pos (fun q => h ((nI_ltI (by decide) ha).mpr q))))
theorem z_nif_gt_t (C : zC X k n cc own Ts d) {a : Nat} {off : Int} (tgt : Nat) (hd : decode cc pc = .ok (.ifCond .gt off, 3)) (ht : (pc : Int) + off = (tgt : Int)) (ha : a < 2147483648) (h : 0 < a) (kt : zG X k n ws lv st tgt) : zG X k n ws lv (.int (nI a) :: st) pc := z_nif_gt C tgt hd ht ha (fun _ => kt) (fun q => absurd h (by first | exact fun z => z.elim | omega | exact q.elim))
theorem z_nif_gt_f (C : zC X k n cc own Ts d) {a : Nat} {off : Int} (tgt : Nat) (hd : decode cc pc = .ok (.ifCond .gt off, 3)) (ht : (pc : Int) + off = (tgt : Int)) (ha : a < 2147483648) (h : a = 0) (kf : zG X k n ws lv st (pc + 3)) : zG X k n ws lv (.int (nI a) :: st) pc := z_nif_gt C tgt hd ht ha (fun q => absurd h (by first | exact fun z => z.elim | omega | exact q.elim)) (fun _ => kf)
theorem z_icmp_le (C : zC X k n cc own Ts d) {x y : Int32} {off : Int} (tgt : Nat) (hd : decode cc pc = .ok (.if_icmp .le off, 3)) (ht : (pc : Int) + off = (tgt : Int)) (kt : x ≤ y → zG X k n ws lv st tgt) (kf : ¬ x ≤ y → zG X k n ws lv st (pc + 3)) : zG X k n ws lv (.int y :: .int x :: st) pc := by
  obtain ⟨p, E, e, R, s, m, args, below, meth, c, Q, A, nL⟩ := X
  intro H locs ls hP hD hS hL
  exact lv_icmp_le C.1 C.2.1 hd ht (fun h => kt h H locs ls hP hD hS hL) (fun h => kf h H locs ls hP hD hS hL)
theorem z_icmp_le_t (C : zC X k n cc own Ts d) {x y : Int32} {off : Int} (tgt : Nat) (hd : decode cc pc = .ok (.if_icmp .le off, 3)) (ht : (pc : Int) + off = (tgt : Int)) (h : x ≤ y) (kt : zG X k n ws lv st tgt) : zG X k n ws lv (.int y :: .int x :: st) pc := z_icmp_le C tgt hd ht (fun _ => kt) (fun q => absurd h (by first | exact q | exact fun z => z q))
theorem z_icmp_le_f (C : zC X k n cc own Ts d) {x y : Int32} {off : Int} (tgt : Nat) (hd : decode cc pc = .ok (.if_icmp .le off, 3)) (ht : (pc : Int) + off = (tgt : Int)) (h : ¬ x ≤ y) (kf : zG X k n ws lv st (pc + 3)) : zG X k n ws lv (.int y :: .int x :: st) pc := z_icmp_le C tgt hd ht (fun q => absurd h (by first | exact q | exact fun z => z q)) (fun _ => kf)
theorem z_ncmp_le (C : zC X k n cc own Ts d) {a b : Nat} {off : Int} (tgt : Nat) (hd : decode cc pc = .ok (.if_icmp .le off, 3)) (ht : (pc : Int) + off = (tgt : Int)) (ha : a < 2147483648) (hb : b < 2147483648) (kt : a ≤ b → zG X k n ws lv st tgt) (kf : b < a → zG X k n ws lv st (pc + 3)) : zG X k n ws lv (.int (nI b) :: .int (nI a) :: st) pc := z_icmp_le C tgt hd ht (fun h => kt ((nI_leI ha hb).mp h)) (fun h => kf (Nat.not_le.mp (fun q => h ((nI_leI ha hb).mpr q))))
theorem z_ncmp_le_t (C : zC X k n cc own Ts d) {a b : Nat} {off : Int} (tgt : Nat) (hd : decode cc pc = .ok (.if_icmp .le off, 3)) (ht : (pc : Int) + off = (tgt : Int)) (ha : a < 2147483648) (hb : b < 2147483648) (h : a ≤ b) (kt : zG X k n ws lv st tgt) : zG X k n ws lv (.int (nI b) :: .int (nI a) :: st) pc := z_ncmp_le C tgt hd ht ha hb (fun _ => kt) (fun q => absurd h (by omega))
theorem z_ncmp_le_f (C : zC X k n cc own Ts d) {a b : Nat} {off : Int} (tgt : Nat) (hd : decode cc pc = .ok (.if_icmp .le off, 3)) (ht : (pc : Int) + off = (tgt : Int)) (ha : a < 2147483648) (hb : b < 2147483648) (h : b < a) (kf : zG X k n ws lv st (pc + 3)) : zG X k n ws lv (.int (nI b) :: .int (nI a) :: st) pc := z_ncmp_le C tgt hd ht ha hb (fun q => absurd h (by omega)) (fun _ => kf)
theorem z_if_le (C : zC X k n cc own Ts d) {x : Int32} {off : Int} (tgt : Nat) (hd : decode cc pc = .ok (.ifCond .le off, 3)) (ht : (pc : Int) + off = (tgt : Int)) (kt : x ≤ 0 → zG X k n ws lv st tgt) (kf : ¬ x ≤ 0 → zG X k n ws lv st (pc + 3)) : zG X k n ws lv (.int x :: st) pc := by
  obtain ⟨p, E, e, R, s, m, args, below, meth, c, Q, A, nL⟩ := X
  intro H locs ls hP hD hS hL
  exact lv_if_le C.1 C.2.1 hd ht (fun h => kt h H locs ls hP hD hS hL) (fun h => kf h H locs ls hP hD hS hL)
theorem z_if_le_t (C : zC X k n cc own Ts d) {x : Int32} {off : Int} (tgt : Nat) (hd : decode cc pc = .ok (.ifCond .le off, 3)) (ht : (pc : Int) + off = (tgt : Int)) (h : x ≤ 0) (kt : zG X k n ws lv st tgt) : zG X k n ws lv (.int x :: st) pc := z_if_le C tgt hd ht (fun _ => kt) (fun q => absurd h (by first | exact q | exact fun z => z q))
theorem z_if_le_f (C : zC X k n cc own Ts d) {x : Int32} {off : Int} (tgt : Nat) (hd : decode cc pc = .ok (.ifCond .le off, 3)) (ht : (pc : Int) + off = (tgt : Int)) (h : ¬ x ≤ 0) (kf : zG X k n ws lv st (pc + 3)) : zG X k n ws lv (.int x :: st) pc := z_if_le C tgt hd ht (fun q => absurd h (by first | exact q | exact fun z => z q)) (fun _ => kf)
theorem z_nif_le (C : zC X k n cc own Ts d) {a : Nat} {off : Int} (tgt : Nat) (hd : decode cc pc = .ok (.ifCond .le off, 3)) (ht : (pc : Int) + off = (tgt : Int)) (ha : a < 2147483648) (kt : a = 0 → zG X k n ws lv st tgt) (kf : 0 < a → zG X k n ws lv st (pc + 3)) : zG X k n ws lv (.int (nI a) :: st) pc := z_if_le C tgt hd ht (fun h => kt (by rw [← nI_0] at h; exact Nat.le_zero.mp ((nI_leI ha (by decide)).mp h))) (fun h => kf (by rw [← nI_0] at h; exact Nat.not_le.mp (fun q => h ((nI_leI ha (by decide)).mpr q))))
theorem z_nif_le_t (C : zC X k n cc own Ts d) {a : Nat} {off : Int} (tgt : Nat) (hd : decode cc pc = .ok (.ifCond .le off, 3)) (ht : (pc : Int) + off = (tgt : Int)) (ha : a < 2147483648) (h : a = 0) (kt : zG X k n ws lv st tgt) : zG X k n ws lv (.int (nI a) :: st) pc := z_nif_le C tgt hd ht ha (fun _ => kt) (fun q => absurd h (by first | exact fun z => z.elim | omega | exact q.elim))
theorem z_nif_le_f (C : zC X k n cc own Ts d) {a : Nat} {off : Int} (tgt : Nat) (hd : decode cc pc = .ok (.ifCond .le off, 3)) (ht : (pc : Int) + off = (tgt : Int)) (ha : a < 2147483648) (h : 0 < a) (kf : zG X k n ws lv st (pc + 3)) : zG X k n ws lv (.int (nI a) :: st) pc := z_nif_le C tgt hd ht ha (fun q => absurd h (by first | exact fun z => z.elim | omega | exact q.elim)) (fun _ => kf)
def zb (b : Bool) : Int32 := if b then nI 1 else nI 0
theorem zb_t {b : Bool} (h : b = true) : zb b = nI 1 := by rw [h]; rfl
theorem zb_f {b : Bool} (h : b = false) : zb b = nI 0 := by rw [h]; rfl
theorem zb_0 {b : Bool} : zb b = 0 ↔ b = false := by cases b <;> decide
theorem zb_nar (b : Bool) : narrow .boolean (.int (zb b)) = .int (zb b) := by cases b <;> rfl
theorem z_bif_eq (C : zC X k n cc own Ts d) {b : Bool} {off : Int} (tgt : Nat) (hd : decode cc pc = .ok (.ifCond .eq off, 3)) (ht : (pc : Int) + off = (tgt : Int)) (kt : b = false → zG X k n ws lv st tgt) (kf : b = true → zG X k n ws lv st (pc + 3)) : zG X k n ws lv (.int (zb b) :: st) pc := z_if_eq C tgt hd ht (fun h => kt (zb_0.mp h)) (fun h => kf (by cases b with | true => rfl | false => exact absurd rfl h))
theorem z_bif_eq_t (C : zC X k n cc own Ts d) {b : Bool} {off : Int} (tgt : Nat) (hd : decode cc pc = .ok (.ifCond .eq off, 3)) (ht : (pc : Int) + off = (tgt : Int)) (h : b = false) (kt : zG X k n ws lv st tgt) : zG X k n ws lv (.int (zb b) :: st) pc := z_bif_eq C tgt hd ht (fun _ => kt) (fun q => absurd (h.symm.trans q) (by decide))
theorem z_bif_eq_f (C : zC X k n cc own Ts d) {b : Bool} {off : Int} (tgt : Nat) (hd : decode cc pc = .ok (.ifCond .eq off, 3)) (ht : (pc : Int) + off = (tgt : Int)) (h : b = true) (kf : zG X k n ws lv st (pc + 3)) : zG X k n ws lv (.int (zb b) :: st) pc := z_bif_eq C tgt hd ht (fun q => absurd (h.symm.trans q) (by decide)) (fun _ => kf)
theorem z_bif_ne (C : zC X k n cc own Ts d) {b : Bool} {off : Int} (tgt : Nat) (hd : decode cc pc = .ok (.ifCond .ne off, 3)) (ht : (pc : Int) + off = (tgt : Int)) (kt : b = true → zG X k n ws lv st tgt) (kf : b = false → zG X k n ws lv st (pc + 3)) : zG X k n ws lv (.int (zb b) :: st) pc := z_if_ne C tgt hd ht (fun h => kt (by cases b with | true => rfl | false => exact absurd rfl h)) (fun h => kf (zb_0.mp h))
theorem z_bif_ne_t (C : zC X k n cc own Ts d) {b : Bool} {off : Int} (tgt : Nat) (hd : decode cc pc = .ok (.ifCond .ne off, 3)) (ht : (pc : Int) + off = (tgt : Int)) (h : b = true) (kt : zG X k n ws lv st tgt) : zG X k n ws lv (.int (zb b) :: st) pc := z_bif_ne C tgt hd ht (fun _ => kt) (fun q => absurd (h.symm.trans q) (by decide))
theorem z_bif_ne_f (C : zC X k n cc own Ts d) {b : Bool} {off : Int} (tgt : Nat) (hd : decode cc pc = .ok (.ifCond .ne off, 3)) (ht : (pc : Int) + off = (tgt : Int)) (h : b = false) (kf : zG X k n ws lv st (pc + 3)) : zG X k n ws lv (.int (zb b) :: st) pc := z_bif_ne C tgt hd ht (fun q => absurd (h.symm.trans q) (by decide)) (fun _ => kf)
theorem z_tsIn (C : zC X k n cc own Ts d) {dflt lo hi : Int} {offs : Array Int} {len : Nat} {x : Int32} {off : Int} (tgt : Nat) (hd : decode cc pc = .ok (.tableswitch dflt lo hi offs, len)) (h1 : ¬ x.toInt < lo) (h2 : ¬ hi < x.toInt) (ho : offs[(x.toInt - lo).toNat]? = some off) (ht : (pc : Int) + off = (tgt : Int)) (kk : zG X k n ws lv st tgt) : zG X k n ws lv (.int x :: st) pc := by
  obtain ⟨p, E, e, R, s, m, args, below, meth, c, Q, A, nL⟩ := X
  intro H locs ls hP hD hS hL
  exact lv_tableIn C.1 C.2.1 hd h1 h2 ho ht (kk H locs ls hP hD hS hL)
theorem z_tsOut (C : zC X k n cc own Ts d) {dflt lo hi : Int} {offs : Array Int} {len : Nat} {x : Int32} (tgt : Nat) (hd : decode cc pc = .ok (.tableswitch dflt lo hi offs, len)) (h : x.toInt < lo ∨ hi < x.toInt) (ht : (pc : Int) + dflt = (tgt : Int)) (kk : zG X k n ws lv st tgt) : zG X k n ws lv (.int x :: st) pc := by
  obtain ⟨p, E, e, R, s, m, args, below, meth, c, Q, A, nL⟩ := X
  intro H locs ls hP hD hS hL
  exact lv_tableOut C.1 C.2.1 hd h ht (kk H locs ls hP hD hS hL)
/-- a switch's case v -/
theorem z_tsAt (C : zC X k n cc own Ts d) {dflt lo hi : Int} {offs : Array Int} {len : Nat} {x : Int32} {off : Int} (v : Int) (tgt : Nat) (hd : decode cc pc = .ok (.tableswitch dflt lo hi offs, len)) (hx : x.toInt = v) (h1 : lo ≤ v ∧ v ≤ hi) (ho : offs[(v - lo).toNat]? = some off) (ht : (pc : Int) + off = (tgt : Int)) (kk : zG X k n ws lv st tgt) : zG X k n ws lv (.int x :: st) pc := z_tsIn C tgt hd (by omega) (by omega) (by rw [hx]; exact ho) ht kk
/-- a field of a class of ours, as a method's words link it -/
def zF (Ts : List Cond) (own : String) (idx ci k : Nat) (C : String) (T : u_T) (N : Nat) : Prop := (∀ w ∈ u_ws C T N, w ∈ Ts) ∧ vwCl[ci]? = some (C, T, N) ∧ k < N ∧ Cond.fieldLink own idx C (T k).2.1 (T k).2.2.1 ∈ Ts ∧ (T k).1 = C
theorem z_get (C : zC X k n cc own Ts d) {idx ci j N : Nat} {R0 : String} {T : u_T} (F : zF Ts own idx ci j R0 T N) (q0 : Nat) {a : Nat} {fs : List Value} {v : Value} (hd : decode cc pc = .ok (.getfield idx, 3)) (he : ws[q0]? = some (a, .inr (ci, fs))) (hv : fs[j]? = some v) (kk : zG X k n ws lv (v :: st) (pc + 3)) : zG X k n ws lv (.ref a :: st) pc := by
  obtain ⟨p, E, e, R, s, m, args, below, meth, c, Q, A, nL⟩ := X
  intro H locs ls hP hD hS hL
  exact va_get (D := E.2.1) (ref := R0) C.1 C.2.1 C.2.2.2.2.1 F.1 C.2.2.2.1 C.2.2.2.2.2.1.1 hP q0 he F.2.1 j F.2.2.1 (C.2.2.2.2.1 _ F.2.2.2.1) (fun x hx => by rw [F.2.2.2.2] at hx; exact hx) hv hd (kk H locs ls hP hD hS hL)
/-- what a class's tables say for a store -/
def zFt (j N : Nat) (T : u_T) (ty : Nat → FieldType) (fin : Bool) : Prop := (∀ k, k < N → parseFieldDescriptor (T k).2.2.1 = some (ty k)) ∧ (∀ a, a < N → ∀ b, b < N → a ≠ b → (T a).2.1 ≠ (T b).2.1) ∧ (T j).2.2.2 = fin
theorem z_put (C : zC X k n cc own Ts d) {idx ci j N : Nat} {R0 : String} {T : u_T} {ty : Nat → FieldType} (F : zF Ts own idx ci j R0 T N) (Ft : zFt j N T ty false) (q0 : Nat) {a : Nat} {fs : List Value} {v : Value} (hd : decode cc pc = .ok (.putfield idx, 3)) (he : ws[q0]? = some (a, .inr (ci, fs))) (hn : narrow (ty j) v = v) (hf : fits (ty j) v = true) (hl : j < fs.length) (kk : zG X k n (ws.set q0 (a, .inr (ci, fs.set j v))) lv st (pc + 3)) : zG X k n ws lv (v :: .ref a :: st) pc := by
  obtain ⟨p, E, e, R, s, m, args, below, meth, c, Q, A, nL⟩ := X
  intro H locs ls hP hD hS hL
  exact va_put (D := E.2.1) (ref := R0) C.1 C.2.1 C.2.2.2.2.1 F.1 ty Ft.1 Ft.2.1 C.2.2.2.1 C.2.2.2.2.2.1.1 hP hD hS q0 he F.2.1 j F.2.2.1 (C.2.2.2.2.1 _ F.2.2.2.1) (fun x hx => by rw [F.2.2.2.2] at hx; exact hx) Ft.2.2 (Ft.1 j F.2.2.1) hn hf hl hd (fun H1 locs1 hP hD hS => kk H1 locs1 ls hP hD hS hL)
theorem z_iald (C : zC X k n cc own Ts d) (q0 : Nat) {a N : Nat} {f : Nat → Int32} {i : Int32} (hd : decode cc pc = .ok (.iaload, 1)) (he : ws[q0]? = some (a, .inl (X.2.1.2.2.1, N, .inl f))) (hi : vp_in i N) (kk : zG X k n ws lv (.int (f i.toNatClampNeg) :: st) (pc + 1)) : zG X k n ws lv (.int i :: .ref a :: st) pc := by
  obtain ⟨p, E, e, R, s, m, args, below, meth, c, Q, A, nL⟩ := X
  intro H locs ls hP hD hS hL
  exact va_iald (D := E.2.1) C.1 C.2.1 C.2.2.2.2.2.1.1 hP q0 0 he rfl hi hd (kk H locs ls hP hD hS hL)
theorem z_ialdN (C : zC X k n cc own Ts d) (q0 : Nat) {a N i : Nat} {f : Nat → Int32} (hd : decode cc pc = .ok (.iaload, 1)) (he : ws[q0]? = some (a, .inl (X.2.1.2.2.1, N, .inl f))) (hi : i < N) (hN : N < 2147483648) (kk : zG X k n ws lv (.int (f i) :: st) (pc + 1)) : zG X k n ws lv (.int (nI i) :: .ref a :: st) pc := z_iald C q0 hd he (vp_in_nI hi hN) (by rw [nI_clamp (by omega)]; exact kk)
theorem z_cald (C : zC X k n cc own Ts d) (q0 : Nat) {a N : Nat} {f : Nat → Int32} {i : Int32} (hd : decode cc pc = .ok (.caload, 1)) (he : ws[q0]? = some (a, .inl (X.2.1.2.2.2.1, N, .inl f))) (hi : vp_in i N) (kk : zG X k n ws lv (.int (f i.toNatClampNeg) :: st) (pc + 1)) : zG X k n ws lv (.int i :: .ref a :: st) pc := by
  obtain ⟨p, E, e, R, s, m, args, below, meth, c, Q, A, nL⟩ := X
  intro H locs ls hP hD hS hL
  exact va_cald (D := E.2.1) C.1 C.2.1 C.2.2.2.2.2.1.1 hP q0 1 he rfl hi hd (kk H locs ls hP hD hS hL)
theorem z_caldN (C : zC X k n cc own Ts d) (q0 : Nat) {a N i : Nat} {f : Nat → Int32} (hd : decode cc pc = .ok (.caload, 1)) (he : ws[q0]? = some (a, .inl (X.2.1.2.2.2.1, N, .inl f))) (hi : i < N) (hN : N < 2147483648) (kk : zG X k n ws lv (.int (f i) :: st) (pc + 1)) : zG X k n ws lv (.int (nI i) :: .ref a :: st) pc := z_cald C q0 hd he (vp_in_nI hi hN) (by rw [nI_clamp (by omega)]; exact kk)
theorem z_iast (C : zC X k n cc own Ts d) (q0 : Nat) {a N : Nat} {f : Nat → Int32} {i x : Int32} (hd : decode cc pc = .ok (.iastore, 1)) (he : ws[q0]? = some (a, .inl (X.2.1.2.2.1, N, .inl f))) (hi : vp_in i N) (kk : zG X k n (ws.set q0 (a, .inl (X.2.1.2.2.1, N, .inl (upd f i.toNatClampNeg x)))) lv st (pc + 1)) : zG X k n ws lv (.int x :: .int i :: .ref a :: st) pc := by
  obtain ⟨p, E, e, R, s, m, args, below, meth, c, Q, A, nL⟩ := X
  intro H locs ls hP hD hS hL
  exact va_iast (D := E.2.1) C.1 C.2.1 C.2.2.2.2.2.1.1 hP hD hS q0 0 he rfl hi hd (fun H1 locs1 hP hD hS => kk H1 locs1 ls hP hD hS hL)
theorem z_iastN (C : zC X k n cc own Ts d) (q0 : Nat) {a N i : Nat} {f : Nat → Int32} {x : Int32} (hd : decode cc pc = .ok (.iastore, 1)) (he : ws[q0]? = some (a, .inl (X.2.1.2.2.1, N, .inl f))) (hi : i < N) (hN : N < 2147483648) (kk : zG X k n (ws.set q0 (a, .inl (X.2.1.2.2.1, N, .inl (upd f i x)))) lv st (pc + 1)) : zG X k n ws lv (.int x :: .int (nI i) :: .ref a :: st) pc := z_iast C q0 hd he (vp_in_nI hi hN) (by rw [nI_clamp (by omega)]; exact kk)
theorem z_castN (C : zC X k n cc own Ts d) (q0 : Nat) {a N i : Nat} {f : Nat → Int32} {x : Int32} (hd : decode cc pc = .ok (.castore, 1)) (he : ws[q0]? = some (a, .inl (X.2.1.2.2.2.1, N, .inl f))) (hi : i < N) (hN : N < 2147483648) (hx : vp_nar .char x = x) (kk : zG X k n (ws.set q0 (a, .inl (X.2.1.2.2.2.1, N, .inl (upd f i x)))) lv st (pc + 1)) : zG X k n ws lv (.int x :: .int (nI i) :: .ref a :: st) pc := by
  obtain ⟨p, E, e, R, s, m, args, below, meth, c, Q, A, nL⟩ := X
  intro H locs ls hP hD hS hL
  exact va_cast (D := E.2.1) C.1 C.2.1 C.2.2.2.2.2.1.1 hP hD hS q0 1 he rfl (vp_in_nI hi hN) hd (fun H1 locs1 hP hD hS => by
    rw [nI_clamp (by omega), hx] at hP hD
    exact kk H1 locs1 ls hP hD hS hL)
theorem z_alen (C : zC X k n cc own Ts d) (q0 : Nat) {a : Nat} {x : vp_A} (hd : decode cc pc = .ok (.arraylength, 1)) (he : ws[q0]? = some (a, .inl (X.2.1.2.2.1, x))) (kk : zG X k n ws lv (.int (nI x.1) :: st) (pc + 1)) : zG X k n ws lv (.ref a :: st) pc := by
  obtain ⟨p, E, e, R, s, m, args, below, meth, c, Q, A, nL⟩ := X
  intro H locs ls hP hD hS hL
  exact va_alen (D := E.2.1) C.1 C.2.1 C.2.2.2.2.2.1.1 hP q0 0 he rfl rfl hd (kk H locs ls hP hD hS hL)
theorem z_iret (C : zC X k n cc own Ts d) {r : Option Value} {ws' : va_W} (N : zN X k n (some .int) r ws') {v : Int32} (hd : decode cc pc = .ok (.ireturn, 1)) (hw : ws = ws') (hr : some (Value.int v) = r) : zG X k n ws lv [.int v] pc := by
  obtain ⟨p, E, e, R, s, m, args, below, meth, c, Q, A, nL⟩ := X
  intro H locs ls hP hD hS hL
  obtain ⟨rfl, hr2, hlk⟩ := N
  subst hw
  subst hr
  exact W.iret C.1 C.2.1 hr2 (fun t ht hW => ⟨⟨rfl, by rw [ht]; exact hP⟩, hS.F ht⟩) hS.2.2 hd hlk
theorem z_zret (C : zC X k n cc own Ts d) {r : Option Value} {ws' : va_W} {ty : FieldType} (N : zN X k n (some ty) r ws') {v : Int32} (hd : decode cc pc = .ok (.ireturn, 1)) (hn : narrow ty (.int v) = .int v) (hw : ws = ws') (hr : some (Value.int v) = r) : zG X k n ws lv [.int v] pc := by
  obtain ⟨p, E, e, R, s, m, args, below, meth, c, Q, A, nL⟩ := X
  intro H locs ls hP hD hS hL
  obtain ⟨rfl, hr2, hlk⟩ := N
  subst hw
  subst hr
  exact W.zret C.1 C.2.1 hr2 hn (fun t ht hW => ⟨⟨rfl, by rw [ht]; exact hP⟩, hS.F ht⟩) hS.2.2 hd hlk
theorem z_vret (C : zC X k n cc own Ts d) {ws' : va_W} (N : zN X k n none none ws') (hd : decode cc pc = .ok (.return_, 1)) (hw : ws = ws') : zG X k n ws lv [] pc := by
  obtain ⟨p, E, e, R, s, m, args, below, meth, c, Q, A, nL⟩ := X
  intro H locs ls hP hD hS hL
  obtain ⟨rfl, hr2, hlk⟩ := N
  subst hw
  exact W.vret C.1 C.2.1 hr2 (fun t ht hW => ⟨⟨rfl, by rw [ht]; exact hP⟩, hS.F ht⟩) hS.2.2 hd hlk
theorem z_aret (C : zC X k n cc own Ts d) {r : Option Value} {ws' : va_W} {cn : String} (N : zN X k n (some (.object cn)) r ws') {a : Nat} (hd : decode cc pc = .ok (.areturn, 1)) (hw : ws = ws') (hr : some (Value.ref a) = r) : zG X k n ws lv [.ref a] pc := by
  obtain ⟨p, E, e, R, s, m, args, below, meth, c, Q, A, nL⟩ := X
  intro H locs ls hP hD hS hL
  obtain ⟨rfl, hr2, hlk⟩ := N
  subst hw
  subst hr
  exact W.aret C.1 C.2.1 hr2 (Or.inl ⟨cn, rfl⟩) (Or.inr ⟨a, rfl⟩) (fun t ht hW => ⟨⟨rfl, by rw [ht]; exact hP⟩, hS.F ht⟩) hS.2.2 hd hlk
end ZROWS
