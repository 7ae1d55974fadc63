/-! CALLS: a contract used at a call; the callee's cells are put back at their places -/
def zput (ws : va_W) : List Nat → va_W → va_W
  | i :: is, x :: xs => zput (ws.set i x) is xs
  | _, _ => ws
theorem zput_get : ∀ (is : List Nat) (w1 ws : va_W) (k : Nat) (q : Nat × va_E), is.length = w1.length → (zput ws is w1)[k]? = some q → (∃ j : Nat, is[j]? = some k ∧ w1[j]? = some q) ∨ (k ∉ is ∧ ws[k]? = some q)
  | [], [], ws, k, q, _, h => Or.inr ⟨List.not_mem_nil, h⟩
  | [], x :: xs, ws, k, q, hl, h => by simp at hl
  | i :: is, [], ws, k, q, hl, h => by simp at hl
  | i :: is, x :: xs, ws, k, q, hl, h => by
    rcases zput_get is xs (ws.set i x) k q (by simpa using hl) h with ⟨j, h1, h2⟩ | ⟨h1, h2⟩
    · exact Or.inl ⟨j + 1, by simpa using h1, by simpa using h2⟩
    · by_cases e : i = k
      · subst e
        rw [List.getElem?_set] at h2
        by_cases hi : i < ws.length
        · simp [hi] at h2
          exact Or.inl ⟨0, by simp, by simp [h2]⟩
        · simp [hi] at h2
      · rw [List.getElem?_set_ne e] at h2
        exact Or.inr ⟨fun hm => by
          rcases List.mem_cons.mp hm with h | h
          · exact e h.symm
          · exact h1 h, h2⟩
theorem z_part {ws wc : va_W} {is : List Nat} (hC : is.map (fun i => ws[i]?) = wc.map some) : ∀ (k : Nat) (q : Nat × va_E), wc[k]? = some q → ∃ i, is[k]? = some i ∧ ws[i]? = some q := by
  intro k q hq
  have h1 : (is.map (fun i => ws[i]?))[k]? = some (some q) := by rw [hC, List.getElem?_map, hq]; rfl
  rw [List.getElem?_map] at h1
  cases hi : is[k]? with
  | none => rw [hi] at h1; cases h1
  | some i => rw [hi] at h1; exact ⟨i, rfl, Option.some.inj h1⟩
theorem z_sub {D : va_G} {cl : List vw_C} {ws wc : va_W} {H : Heap} (hP : va_P D cl ws H) {is : List Nat} (hC : is.map (fun i => ws[i]?) = wc.map some) : va_P D cl wc H := by
  intro k q hk
  obtain ⟨i, -, h⟩ := z_part hC k q hk
  exact hP i q h
theorem z_join {A0 : Nat → Prop} {D : va_G} {cl : List vw_C} {ws wc w1 wn : va_W} {H H1 : Heap} (hP : va_P D cl ws H) (hD : va_D A0 ws) {isC : List Nat} (hC : isC.map (fun i => ws[i]?) = wc.map some) (hA : w1.map Prod.fst = wc.map Prod.fst) (hn : zput ws isC w1 = wn)
    (hk : ∀ q : Nat, q < H.size → ¬ va_A wc H.size q → H1[q]? = H[q]?) (hP1 : va_P D cl w1 H1) : va_P D cl wn H1 ∧ va_D A0 wn := by
  subst hn
  have hl1 : isC.length = wc.length := by have := congrArg List.length hC; simpa using this
  have hl2 : w1.length = wc.length := by have := congrArg List.length hA; simpa using this
  have hl : isC.length = w1.length := hl1.trans hl2.symm
  have same : ∀ (j : Nat) (q : Nat × va_E), w1[j]? = some q → ∃ q0, wc[j]? = some q0 ∧ q0.1 = q.1 := by
    intro j q hj
    have h1 : (w1.map Prod.fst)[j]? = some q.1 := by rw [List.getElem?_map, hj]; rfl
    rw [hA, List.getElem?_map] at h1
    cases hw : wc[j]? with
    | none => rw [hw] at h1; cases h1
    | some q0 => rw [hw] at h1; exact ⟨q0, rfl, Option.some.inj h1⟩
  have key : ∀ (k : Nat) (q : Nat × va_E), (zput ws isC w1)[k]? = some q → ∃ q0, ws[k]? = some q0 ∧ q0.1 = q.1 := by
    intro k q h
    rcases zput_get isC w1 ws k q hl h with ⟨j, h1, h2⟩ | ⟨-, h2⟩
    · obtain ⟨q0, h3, h4⟩ := same j q h2
      obtain ⟨i, h5, h6⟩ := z_part hC j q0 h3
      have : i = k := Option.some.inj (h5.symm.trans h1)
      subst this
      exact ⟨q0, h6, h4⟩
    · exact ⟨q, h2, rfl⟩
  refine ⟨fun k q h => ?_, fun i j p q hi hj hpq => ?_, fun k q h => ?_⟩
  · rcases zput_get isC w1 ws k q hl h with ⟨j, h1, h2⟩ | ⟨h1, h2⟩
    · exact hP1 j q h2
    · refine (hP k q h2).kept (hk q.1 (hP k q h2).lt ?_)
      rintro (⟨k2, e, h3⟩ | h3)
      · obtain ⟨i, h5, h6⟩ := z_part hC k2 (q.1, e) h3
        have hik := hD.1 k i q (q.1, e) h2 h6 rfl
        subst hik
        exact h1 (List.mem_of_getElem? h5)
      · exact absurd (hP k q h2).lt (Nat.not_lt.mpr h3)
  · obtain ⟨p0, h1, h2⟩ := key i p hi
    obtain ⟨q0, h3, h4⟩ := key j q hj
    exact hD.1 i j p0 q0 h1 h3 (h2.trans (hpq.trans h4.symm))
  · obtain ⟨q0, h1, h2⟩ := key k q h
    rw [← h2]
    exact hD.2 k q0 h1
theorem zPc.blind {E : zE} {args : List Value} {sz : Nat} {ws : va_W} : FrameBlind (zPc E args sz ws) := fun a U g mk q => ⟨q.1, q.2.1, q.2.2.1, q.2.2.2.1.call g mk a, q.2.2.2.2⟩
theorem zPc.of {E : zE} {args : List Value} {ws wc : va_W} {A : Nat → Prop} {s U : State} {H : Heap} {isC : List Nat} (hP : va_P E.2.1 vwCl ws H) (hD : va_D A ws) (hK : zKn E s) (hC : isC.map (fun i => ws[i]?) = wc.map some) (hnd : va_nd isC = true) (hU : U.heap = H) (hW : s.WarmedH U.vm) : zPc E args H.size wc args.toArray U :=
  ⟨rfl, by rw [hU], by rw [hU]; exact z_sub hP hC, hK.warm hW, (hD.sub isC hnd hC).weaken (fun _ _ _ _ => trivial)⟩
theorem z_back {p : Program} {E : zE} {e : Env} {R : Room} {s : State} {m : MethodId} {args : Array Value} {below : List Frame} {meth : Method} {c : Code} {H : Heap} {locs : List Loc} {cells slots : Nat} {Q : State → Prop} {pc : Nat} {ls : Array Slot} {rest st0 : List Value} {a : Array Value} {A : Nat → Prop} {ws wc w1 wn : va_W} {r : Option Value} {isC : List Nat}
    (hP : va_P E.2.1 vwCl ws H) (hD : va_D A ws) (hS : va_S A s.heap H locs) (hA0 : ∀ q : Nat, s.heap.size ≤ q → A q) (hC : isC.map (fun i => ws[i]?) = wc.map some) (hA : w1.map Prod.fst = wc.map Prod.fst) (hn : zput ws isC w1 = wn)
    (hr : va_Run p E.1 e R s m args below meth c H locs cells slots 0 0 (F0 m pc ls st0) rest (zQ E r w1 (va_A wc H.size) a) (va_A wc H.size))
    (kk : ∀ (H1 : Heap) (locs1 : List Loc), va_P E.2.1 vwCl wn H1 → va_D A wn → va_S A s.heap H1 locs1 → W p E.1 e R s m args below meth c H1 locs1 cells slots Q (F0 m (pc + 3) ls (r.toList ++ rest))) : W p E.1 e R s m args below meth c H locs cells slots Q (F0 m pc ls st0) := by
  intro T hT X
  have hF := va_free hD hS hA0 isC hC
  obtain ⟨v, st₀, t, T', L, h0, X', hL, e1, e2, ⟨⟨hv, hp⟩, hz, hk⟩, st⟩ := hr T hT X
  cases hv
  rw [h0] at hz hk
  rw [← e1] at hz hk hp
  obtain ⟨hP1, hD1⟩ := z_join hP hD hC hA hn hk hp
  obtain ⟨t2, a1, b1⟩ := kk T'.heap (locs ++ L) hP1 hD1
    ⟨Nat.le_trans hS.1 hz, fun q h1 h2 => by rw [hk q (Nat.lt_of_lt_of_le h1 hS.1) (fun z => h2 (hF q z))]; exact hS.2.1 q h1 h2, fun q hq => by
      rcases List.mem_append.mp hq with h | h
      · exact hS.2.2 q h
      · exact hF _ (hL q h)⟩ T' rfl X'
  exact ⟨t2, st t2 a1, b1⟩
theorem zput_same : ∀ (is : List Nat) (wc ws : va_W), is.map (fun i => ws[i]?) = wc.map some → zput ws is wc = ws
  | [], [], ws, _ => rfl
  | [], x :: xs, ws, h => by simp at h
  | i :: is, [], ws, h => by simp at h
  | i :: is, x :: xs, ws, h => by
    simp only [List.map_cons, List.cons.injEq] at h
    have e : ws.set i x = ws := by
      apply List.ext_getElem?
      intro j
      rw [List.getElem?_set]
      by_cases hj : i = j
      · subst hj
        rw [h.1]
        have := (List.getElem?_eq_some_iff.mp h.1).1
        simp [this]
      · simp [hj]
    rw [zput, e]
    exact zput_same is xs ws h.2
section ZCALLS
variable {X : zX} {k n : Nat} {cc : ByteArray} {own : String} {Ts : List Cond} {d : Nat} {ws : va_W} {lv : List (Option Value)} {st : List Value} {pc : Nat}
variable {y : MethodName} {wy : List Cond} {bytes : ByteArray} {maxL : Nat} {ret : Option FieldType} {n2 d' idx : Nat} {b : Nat} {As : List Value} {wc w1 wn : va_W}
theorem z_callV0 (C : zC X k n cc own Ts d) (ky : zY y wy bytes maxL ret n2) (g : GoodIn Ts (wsV own idx y.cls y wy)) {r : Option Value} (hM : zM X.2.1 y wy d' (.ref b :: As) wc w1 r) (hd : decode cc pc = .ok (.invokevirtual idx, 3)) (isC : List Nat) (rest : List Value) (q0 : Nat) {ci : Nat} {fs : List Value} {T : u_T} {N : Nat} (hC : isC.map (fun i => ws[i]?) = wc.map some) (hA : w1.map Prod.fst = wc.map Prod.fst) (hnd : va_nd isC = true) (he : ws[q0]? = some (b, .inr (ci, fs))) (hc : vwCl[ci]? = some (y.cls, T, N)) (hn : As.length = n2) (hd2 : d' + 1 ≤ d) (hml : maxL ≤ 11) (hrest : (rest.map fun v => v.category).sum ≤ 8) (hst : st = As.reverse ++ .ref b :: rest) (hwn : zput ws isC w1 = wn) (kk : zG X k n wn lv (r.toList ++ rest) (pc + 3)) : zG X k n ws lv st pc := by
  obtain ⟨p, E, e, R, s, m, args, below, meth, c, Q, A, nL⟩ := X
  intro H locs ls hP hD hS hL
  subst hst
  obtain ⟨hx, hb, hmx, hown, hts, hK, hA0, hdR, hdL, hkR, hnR⟩ := C
  obtain ⟨⟨w2, hw⟩, ky2, -⟩ := ky
  refine z_back hP hD hS hA0 hC hA hwn (va_runV ⟨hx, hb, hmx, hown, hts⟩ (hM H.size) (cwV n2 hts g hw rfl rfl ⟨rfl, ky2⟩ ⟨?_, ?_⟩) ⟨zPc.blind, va_recv hK.1 hP hc he, fun U hU hW => zPc.of hP hD hK hC hnd hU hW⟩ rfl hn hL.1 rfl (lv_room hrest) hd ⟨hkR, hnR⟩) (fun H1 locs1 hP1 hD1 hS1 => kk H1 locs1 ls hP1 hD1 hS1 hL)
  · show d' + 1 ≤ R.frames
    omega
  · show 8 + (maxL + 11) + 30 * d' ≤ R.locals
    omega
theorem z_callV (C : zC X k n cc own Ts d) (ky : zY y wy bytes maxL ret n2) (g : GoodIn Ts (wsV own idx y.cls y wy)) {v : Value} (hM : zM X.2.1 y wy d' (.ref b :: As) wc w1 (some v)) (hd : decode cc pc = .ok (.invokevirtual idx, 3)) (isC : List Nat) (rest : List Value) (q0 : Nat) {ci : Nat} {fs : List Value} {T : u_T} {N : Nat} (hC : isC.map (fun i => ws[i]?) = wc.map some) (hA : w1.map Prod.fst = wc.map Prod.fst) (hnd : va_nd isC = true) (he : ws[q0]? = some (b, .inr (ci, fs))) (hc : vwCl[ci]? = some (y.cls, T, N)) (hn : As.length = n2) (hd2 : d' + 1 ≤ d) (hml : maxL ≤ 11) (hrest : (rest.map fun v => v.category).sum ≤ 8) (hst : st = As.reverse ++ .ref b :: rest) (hwn : zput ws isC w1 = wn) (kk : zG X k n wn lv (v :: rest) (pc + 3)) : zG X k n ws lv st pc := z_callV0 C ky g hM hd isC rest q0 hC hA hnd he hc hn hd2 hml hrest hst hwn kk
theorem z_callVv (C : zC X k n cc own Ts d) (ky : zY y wy bytes maxL ret n2) (g : GoodIn Ts (wsV own idx y.cls y wy)) (hM : zM X.2.1 y wy d' (.ref b :: As) wc w1 none) (hd : decode cc pc = .ok (.invokevirtual idx, 3)) (isC : List Nat) (rest : List Value) (q0 : Nat) {ci : Nat} {fs : List Value} {T : u_T} {N : Nat} (hC : isC.map (fun i => ws[i]?) = wc.map some) (hA : w1.map Prod.fst = wc.map Prod.fst) (hnd : va_nd isC = true) (he : ws[q0]? = some (b, .inr (ci, fs))) (hc : vwCl[ci]? = some (y.cls, T, N)) (hn : As.length = n2) (hd2 : d' + 1 ≤ d) (hml : maxL ≤ 11) (hrest : (rest.map fun v => v.category).sum ≤ 8) (hst : st = As.reverse ++ .ref b :: rest) (hwn : zput ws isC w1 = wn) (kk : zG X k n wn lv rest (pc + 3)) : zG X k n ws lv st pc := z_callV0 C ky g hM hd isC rest q0 hC hA hnd he hc hn hd2 hml hrest hst hwn kk
/-- a call that leaves its world as it is -/
theorem z_callVr (C : zC X k n cc own Ts d) (ky : zY y wy bytes maxL ret n2) (g : GoodIn Ts (wsV own idx y.cls y wy)) {v : Value} (hM : zM X.2.1 y wy d' (.ref b :: As) wc wc (some v)) (hd : decode cc pc = .ok (.invokevirtual idx, 3)) (isC : List Nat) (rest : List Value) (q0 : Nat) {ci : Nat} {fs : List Value} {T : u_T} {N : Nat} (hC : isC.map (fun i => ws[i]?) = wc.map some) (hnd : va_nd isC = true) (he : ws[q0]? = some (b, .inr (ci, fs))) (hc : vwCl[ci]? = some (y.cls, T, N)) (hn : As.length = n2) (hd2 : d' + 1 ≤ d) (hml : maxL ≤ 11) (hrest : (rest.map fun v => v.category).sum ≤ 8) (hst : st = As.reverse ++ .ref b :: rest) (kk : zG X k n ws lv (v :: rest) (pc + 3)) : zG X k n ws lv st pc := z_callV0 C ky g hM hd isC rest q0 hC rfl hnd he hc hn hd2 hml hrest hst (zput_same isC wc ws hC) kk
theorem z_callS0 (C : zC X k n cc own Ts d) (ky : zY y wy bytes maxL ret n2) (g : GoodIn Ts (va_wsS own idx y wy)) {r : Option Value} (hM : zM X.2.1 y wy d' As wc w1 r) (hd : decode cc pc = .ok (.invokestatic idx, 3)) (isC : List Nat) (rest : List Value) (hC : isC.map (fun i => ws[i]?) = wc.map some) (hA : w1.map Prod.fst = wc.map Prod.fst) (hnd : va_nd isC = true) (hn : As.length = n2) (hd2 : d' + 1 ≤ d) (hml : maxL ≤ 11) (hrest : (rest.map fun v => v.category).sum ≤ 8) (hst : st = As.reverse ++ rest) (hwn : zput ws isC w1 = wn) (kk : zG X k n wn lv (r.toList ++ rest) (pc + 3)) : zG X k n ws lv st pc := by
  obtain ⟨p, E, e, R, s, m, args, below, meth, c, Q, A, nL⟩ := X
  intro H locs ls hP hD hS hL
  subst hst
  obtain ⟨hx, hb, hmx, hown, hts, hK, hA0, hdR, hdL, hkR, hnR⟩ := C
  obtain ⟨⟨w2, hw⟩, ky2, -⟩ := ky
  refine z_back hP hD hS hA0 hC hA hwn (va_runS ⟨hx, hb, hmx, hown, hts⟩ (hM H.size) (va_cwS n2 hts g hw rfl rfl ky2 ⟨?_, ?_⟩) ⟨zPc.blind, fun U hU hW => zPc.of hP hD hK hC hnd hU hW⟩ rfl hn hL.1 rfl (lv_room hrest) hd ⟨hkR, hnR⟩) (fun H1 locs1 hP1 hD1 hS1 => kk H1 locs1 ls hP1 hD1 hS1 hL)
  · show d' + 1 ≤ R.frames
    omega
  · show 8 + (maxL + 11) + 30 * d' ≤ R.locals
    omega
/-- a static method that reads and writes nothing -/
theorem z_callS (C : zC X k n cc own Ts d) (ky : zY y wy bytes maxL ret n2) (g : GoodIn Ts (va_wsS own idx y wy)) {v : Value} (hM : zM X.2.1 y wy d' As [] [] (some v)) (hd : decode cc pc = .ok (.invokestatic idx, 3)) (rest : List Value) (hn : As.length = n2) (hd2 : d' + 1 ≤ d) (hml : maxL ≤ 11) (hrest : (rest.map fun v => v.category).sum ≤ 8) (hst : st = As.reverse ++ rest) (kk : zG X k n ws lv (v :: rest) (pc + 3)) : zG X k n ws lv st pc := z_callS0 C ky g hM hd [] rest rfl rfl rfl hn hd2 hml hrest hst rfl kk
/-- a nest mate's private static method -/
theorem z_callN0 (C : zC X k n cc own Ts d) (ky : zY y wy bytes maxL ret n2) (hN : (own, idx, y, RX5) ∈ zNest) (g : GoodIn Ts wy) (hi : Cond.initialized y.cls ∈ Ts) (hs : Cond.static y ∈ Ts) {r : Option Value} (hM : zM X.2.1 y wy d' As wc w1 r) (hd : decode cc pc = .ok (.invokestatic idx, 3)) (isC : List Nat) (rest : List Value) (hC : isC.map (fun i => ws[i]?) = wc.map some) (hA : w1.map Prod.fst = wc.map Prod.fst) (hnd : va_nd isC = true) (hn : As.length = n2) (hd2 : d' + 1 ≤ d) (hml : maxL ≤ 11) (hrest : (rest.map fun v => v.category).sum ≤ 8) (hst : st = As.reverse ++ rest) (hwn : zput ws isC w1 = wn) (kk : zG X k n wn lv (r.toList ++ rest) (pc + 3)) : zG X k n ws lv st pc := by
  obtain ⟨p, E, e, R, s, m, args, below, meth, c, Q, A, nL⟩ := X
  intro H locs ls hP hD hS hL
  subst hst
  obtain ⟨hx, hb, hmx, hown, hts, hK, hA0, hdR, hdL, hkR, hnR⟩ := C
  obtain ⟨⟨w2, hw⟩, ky2, -⟩ := ky
  refine z_back hP hD hS hA0 hC hA hwn (va_runSN (host := RX5) ⟨hx, hb, hmx, hown, hts⟩ (hM H.size) ⟨va_cnB n2 hts g hw rfl rfl (hK.2.1 _ hN) (hts _ hi) ky2 ⟨?_, ?_⟩, hts _ hs, trivial⟩ ⟨zPc.blind, fun U hU hW => zPc.of hP hD hK hC hnd hU hW⟩ rfl hn hL.1 rfl (lv_room hrest) hd ⟨hkR, hnR⟩) (fun H1 locs1 hP1 hD1 hS1 => kk H1 locs1 ls hP1 hD1 hS1 hL)
  · show d' + 1 ≤ R.frames
    omega
  · show 8 + (maxL + 11) + 30 * d' ≤ R.locals
    omega
theorem z_callN (C : zC X k n cc own Ts d) (ky : zY y wy bytes maxL ret n2) (hN : (own, idx, y, RX5) ∈ zNest) (g : GoodIn Ts wy) (hi : Cond.initialized y.cls ∈ Ts) (hs : Cond.static y ∈ Ts) {v : Value} (hM : zM X.2.1 y wy d' As [] [] (some v)) (hd : decode cc pc = .ok (.invokestatic idx, 3)) (rest : List Value) (hn : As.length = n2) (hd2 : d' + 1 ≤ d) (hml : maxL ≤ 11) (hrest : (rest.map fun v => v.category).sum ≤ 8) (hst : st = As.reverse ++ rest) (kk : zG X k n ws lv (v :: rest) (pc + 3)) : zG X k n ws lv st pc := z_callN0 C ky hN g hi hs hM hd [] rest rfl rfl rfl hn hd2 hml hrest hst rfl kk
end ZCALLS
section ZMORE
variable {X : zX} {k n : Nat} {cc : ByteArray} {own : String} {Ts : List Cond} {d : Nat} {ws : va_W} {lv : List (Option Value)} {st : List Value} {pc : Nat}
theorem z_cell {cA : ClassId} {N : Nat} {f f' : Nat → Int32} (hf : ∀ j, j < N → f j = f' j) : vp_cell cA (N, .inl f) = vp_cell cA (N, .inl f') := by
  rw [vp_cell_i, vp_cell_i]
  unfold arrV
  have e : (fun j : Fin N => Value.int (f j.val)) = fun j : Fin N => Value.int (f' j.val) := funext fun j => by rw [hf j.val j.isLt]
  rw [e]
/-- an array's contents may be told by another function that agrees on its places -/
theorem z_ext (q0 : Nat) {a N : Nat} {cA : ClassId} {f : Nat → Int32} (f' : Nat → Int32) (he : ws[q0]? = some (a, .inl (cA, N, .inl f))) (hf : ∀ j, j < N → f j = f' j) (kk : zG X k n (ws.set q0 (a, .inl (cA, N, .inl f'))) lv st pc) : zG X k n ws lv st pc := by
  obtain ⟨p, E, e, R, s, m, args, below, meth, c, Q, A, nL⟩ := X
  intro H locs ls hP hD hS hL
  refine kk H locs ls (hP.set hD he ?_ (fun q _ => rfl)) (hD.set he) hS hL
  show H[a]? = some (vp_cell cA (N, .inl f'))
  rw [← z_cell hf]
  exact hP q0 _ he
def zMin (Ts : List Cond) (own : String) (idx : Nat) : Prop := Cond.methodLink own idx Lib.Math.min.name ∈ Ts ∧ Cond.static Lib.Math.min.name ∈ Ts ∧ Cond.initialized "java/lang/Math" ∈ Ts ∧ Cond.code Lib.Math.min.name Lib.Math.min.code 2 (some .int) ∈ Ts
theorem z_mmin (C : zC X k n cc own Ts d) {idx : Nat} (F : zMin Ts own idx) {x y : Int32} (hd : decode cc pc = .ok (.invokestatic idx, 3)) (h1 : 1 ≤ d) (hr : (st.map fun v => v.category).sum ≤ 8) (kk : zG X k n ws lv (.int (if y < x then y else x) :: st) (pc + 3)) : zG X k n ws lv (.int y :: .int x :: st) pc := by
  obtain ⟨p, E, e, R, s, m, args, below, meth, c, Q, A, nL⟩ := X
  intro H locs ls hP hD hS hL
  obtain ⟨hx, hb, hmx, hown, hts, hK, hA0, hdR, hdL, hkR, hnR⟩ := C
  exact va_mmin hx hb (hmx.trans hL.1.symm) hown (hts _ F.1) (hts _ F.2.1) (hts _ F.2.2.1) (hts _ F.2.2.2) (by omega) (by omega) hkR hnR hd (kk H locs ls hP hD hS hL)
def zMax (Ts : List Cond) (own : String) (idx : Nat) : Prop := Cond.methodLink own idx Lib.Math.max.name ∈ Ts ∧ Cond.static Lib.Math.max.name ∈ Ts ∧ Cond.initialized "java/lang/Math" ∈ Ts ∧ Cond.code Lib.Math.max.name Lib.Math.max.code 2 (some .int) ∈ Ts
theorem z_mmax (C : zC X k n cc own Ts d) {idx : Nat} (F : zMax Ts own idx) {x y : Int32} (hd : decode cc pc = .ok (.invokestatic idx, 3)) (h1 : 1 ≤ d) (hr : (st.map fun v => v.category).sum ≤ 8) (kk : zG X k n ws lv (.int (if x < y then y else x) :: st) (pc + 3)) : zG X k n ws lv (.int y :: .int x :: st) pc := by
  obtain ⟨p, E, e, R, s, m, args, below, meth, c, Q, A, nL⟩ := X
  intro H locs ls hP hD hS hL
  obtain ⟨hx, hb, hmx, hown, hts, hK, hA0, hdR, hdL, hkR, hnR⟩ := C
  exact va_mmax hx hb (hmx.trans hL.1.symm) hown (hts _ F.1) (hts _ F.2.1) (hts _ F.2.2.1) (hts _ F.2.2.2) (by omega) (by omega) hkR hnR hd (kk H locs ls hP hD hS hL)
def zFm (Ts : List Cond) (own : String) (idx : Nat) (y : MethodName) (cF : ByteArray) : Prop := (Cond.methodLink own idx y ∈ Ts ∧ Cond.static y ∈ Ts ∧ Cond.initialized y.cls ∈ Ts ∧ Cond.code y cF 3 (some .int) ∈ Ts) ∧ cF = fmBytes ∧ plainName y.cls = true ∧ ((Cond.code y cF 3 (some .int)).onTables && (Cond.code y cF 3 (some .int)).keeps) = true ∧ (y.cls ≠ "java/lang/invoke/MethodHandle" ∧ y.cls ≠ "java/lang/invoke/VarHandle") ∧ (parseMethodDescriptor y.desc).map (fun d => d.parameters.length) = some 2
theorem z_fmod (C : zC X k n cc own Ts d) {idx : Nat} {y : MethodName} {cF : ByteArray} (F : zFm Ts own idx y cF) {x m0 : Int32} (hm : m0 ≠ 0) (hd : decode cc pc = .ok (.invokestatic idx, 3)) (h1 : 1 ≤ d) (hr : (st.map fun v => v.category).sum ≤ 8) (kk : zG X k n ws lv (.int (fmv x m0) :: st) (pc + 3)) : zG X k n ws lv (.int m0 :: .int x :: st) pc := by
  obtain ⟨p, E, e, R, s, m, args, below, meth, c, Q, A, nL⟩ := X
  intro H locs ls hP hD hS hL T hT X0
  obtain ⟨hx, hb, hmx, hown, hts, hK, hA0, hdR, hdL, hkR, hnR⟩ := C
  obtain ⟨⟨f1, f2, f3, f4⟩, f5, f6, f7, f8, f9⟩ := F
  obtain ⟨T', X', e', st'⟩ := call_fm X0 hx f5 f6 f7 hown (hts _ f1) (hts _ f2) (hts _ f4) (hts _ f3) f8 (fun sig h => by rw [h] at f9; exact (Option.some.inj f9).symm) (a0 := x) hm (g := F0 m pc ls (.int m0 :: .int x :: st)) rfl (hL.1.trans hmx.symm) (rest := st) rfl (by rw [hb]; exact hd) (lv_room hr) (by omega) (by omega) hkR hnR
  obtain ⟨t, a1, b1⟩ := kk H locs ls hP hD hS hL T' (e'.trans hT) X'
  exact ⟨t, st' t a1, b1⟩
def zCpy (Ts : List Cond) (own : String) (idx : Nat) : Prop := Cond.methodLink own idx arraycopyName ∈ Ts ∧ Cond.native arraycopyName ∈ Ts ∧ Cond.static arraycopyName ∈ Ts ∧ Cond.initialized "java/lang/System" ∈ Ts
/-- a whole row copied over another of its length -/
theorem z_copy (C : zC X k n cc own Ts d) {idx : Nat} (F : zCpy Ts own idx) (q0 q1 : Nat) {a0 a1 N : Nat} {f g : Nat → Int32} (hd : decode cc pc = .ok (.invokestatic idx, 3)) (ha0 : ws[q0]? = some (a0, .inl (X.2.1.2.2.1, N, .inl f))) (ha1 : ws[q1]? = some (a1, .inl (X.2.1.2.2.1, N, .inl g))) (hN : N < 2147483648) (h1 : 1 ≤ d) (hr : (st.map fun v => v.category).sum ≤ 8) (kk : zG X k n (ws.set q1 (a1, .inl (X.2.1.2.2.1, N, .inl f))) lv st (pc + 3)) : zG X k n ws lv (.int (nI N) :: .int (nI 0) :: .ref a1 :: .int (nI 0) :: .ref a0 :: st) pc := by
  obtain ⟨p, E, e, R, s, m, args, below, meth, c, Q, A, nL⟩ := X
  intro H locs ls hP hD hS hL
  obtain ⟨hx, hb, hmx, hown, hts, hK, hA0, hdR, hdL, hkR, hnR⟩ := C
  have z0 : (nI 0).toNatClampNeg = 0 := nI_clamp (by decide)
  have zN : (nI N).toNatClampNeg = N := nI_clamp hN
  have hw : nativeFrameWords "java/lang/System" "arraycopy" 5 = 7 := by decide
  refine va_copyi (D := E.2.1) (ty := .int) hx hb (hmx.trans hL.1.symm) hown (hts _ F.1) (hts _ F.2.1) (hts _ F.2.2.1) (hts _ F.2.2.2) hK.1 hP hD hS q0 q1 0 0 ha0 ha1 rfl rfl rfl (nI_pos (by decide)) (nI_pos (by decide)) (nI_pos hN) (by rw [z0, zN]; omega) (by rw [z0, zN]; omega) (fun _ _ => rfl) (by omega) (by rw [hw]; omega) hd (fun H1 locs1 hP1 hD1 hS1 => ?_)
  rw [z0, zN] at hP1 hD1
  have hl : q1 < ws.length := (List.getElem?_eq_some_iff.mp ha1).1
  have e1 : (ws.set q1 (a1, .inl (E.2.2.1, N, .inl (va_cpy f g 0 0 N))))[q1]? = some (a1, .inl (E.2.2.1, N, .inl (va_cpy f g 0 0 N))) := List.getElem?_set_self hl
  have hP2 := hP1.set (e := .inl (E.2.2.1, N, .inl f)) hD1 e1 (by
    show H1[a1]? = some (vp_cell E.2.2.1 (N, .inl f))
    rw [← z_cell (f := va_cpy f g 0 0 N) (f' := f) (fun j hj => by rw [pk_cpy_in (Nat.zero_le _) (by omega)]; congr 1; omega)]
    exact hP1 q1 _ e1) (fun q _ => rfl)
  have hD2 := hD1.set (e := .inl (E.2.2.1, N, .inl f)) e1
  rw [List.set_set] at hP2 hD2
  exact kk H1 locs1 ls hP2 hD2 hS1 hL
theorem z_ifnull (C : zC X k n cc own Ts d) {a : Nat} {off : Int} (hd : decode cc pc = .ok (.ifnull off, 3)) (kk : zG X k n ws lv st (pc + 3)) : zG X k n ws lv (.ref a :: st) pc := by
  obtain ⟨p, E, e, R, s, m, args, below, meth, c, Q, A, nL⟩ := X
  intro H locs ls hP hD hS hL
  exact lv_ifnull C.1 C.2.1 hd (kk H locs ls hP hD hS hL)
theorem z_aald (C : zC X k n cc own Ts d) (q0 : Nat) {a N i b : Nat} {f : Nat → Option Nat} (hd : decode cc pc = .ok (.aaload, 1)) (he : ws[q0]? = some (a, .inl (X.2.1.2.2.2.2, N, .inr (.inr (.inr (.inr f)))))) (hi : i < N) (hN : N < 2147483648) (hf : f i = some b) (kk : zG X k n ws lv (.ref b :: st) (pc + 1)) : zG X k n ws lv (.int (nI i) :: .ref a :: st) pc := by
  obtain ⟨p, E, e, R, s, m, args, below, meth, c, Q, A, nL⟩ := X
  intro H locs ls hP hD hS hL
  refine va_aldq (D := E.2.1) C.1 C.2.1 C.2.2.2.2.2.1.1 hP q0 2 he rfl (vp_in_nI hi hN) hd ?_
  rw [nI_clamp (by omega), hf]
  exact kk H locs ls hP hD hS hL
end ZMORE
theorem zi_1 (a : Nat) : nI a + Int32.ofInt 1 = nI (a + 1) := by rw [show Int32.ofInt 1 = nI 1 by decide]; exact nI_add _ _
theorem zi_5 (a : Nat) : nI a + Int32.ofInt 5 = nI (a + 5) := by rw [show Int32.ofInt 5 = nI 5 by decide]; exact nI_add _ _
theorem zi_m1 (a : Nat) : nI (a + 1) + Int32.ofInt (-1) = nI a := by rw [show Int32.ofInt (-1) = -1 by decide]; exact pk_m1 a
theorem zi_m (x : Int32) : x + Int32.ofInt (-1) = x + (-1) := by rw [show Int32.ofInt (-1) = -1 by decide]
theorem zi_p {a : Nat} (h : 1 ≤ a) : nI a + Int32.ofInt (-1) = nI (a - 1) := by
  obtain ⟨b, rfl⟩ : ∃ b, a = b + 1 := ⟨a - 1, by omega⟩
  exact zi_m1 b
theorem zi_s (a : Nat) : nI a - nI 1 = nI a + (-1) := by rw [Int32.sub_eq_add_neg, show -nI 1 = (-1 : Int32) by decide]
theorem zz_0 {a : Nat} (h : a < 2147483648) : nI a = 0 ↔ a = 0 := by rw [← nI_0]; exact nI_eq h (by decide)
theorem zz_0s {a : Nat} (h : a < 2147483648) : 0 = nI a ↔ a = 0 := by rw [eq_comm]; exact zz_0 h
theorem z_min {a b : Nat} (ha : a < 2147483648) (hb : b < 2147483648) : (if nI b < nI a then nI b else nI a) = nI (min a b) := by
  by_cases h : b < a
  · rw [if_pos ((nI_ltI hb ha).mpr h), Nat.min_eq_right (by omega)]
  · rw [if_neg (fun q => h ((nI_ltI hb ha).mp q)), Nat.min_eq_left (by omega)]
theorem z_neN {x : Int32} {c : Nat} (hc : c < 2147483648) (h : ¬ x = nI c) : x.toInt ≠ (c : Int) := fun e => h (Int32.toInt_inj.mp (e.trans (nI_toInt hc).symm))
theorem zb_fit (b : Bool) : fits .boolean (.int (zb b)) = true := by cases b <;> rfl
/-! pure words -/
/-- the first place of n at which p holds, else NONE -/
def zf (p : Nat → Bool) : Nat → Int32
  | 0 => -5
  | n + 1 => if zf p n = -5 then (if p n then nI n else -5) else zf p n
/-- how many of the first n places p holds at -/
def zc (p : Nat → Bool) : Nat → Nat
  | 0 => 0
  | n + 1 => zc p n + (if p n then 1 else 0)
/-- the last place below n at which p holds, else NONE -/
def zg (p : Nat → Bool) : Nat → Int32
  | 0 => -5
  | n + 1 => if p n then nI n else zg p n
def zu (f : Nat → Int32) : Nat → Int32
  | 0 => 0
  | n + 1 => zu f n + f n
theorem zc_y {p : Nat → Bool} {n : Nat} (h : p n = true) : zc p (n + 1) = zc p n + 1 := by simp [zc, h]
theorem zc_n {p : Nat → Bool} {n : Nat} (h : p n = false) : zc p (n + 1) = zc p n := by simp [zc, h]
theorem zc_le (p : Nat → Bool) : ∀ n, zc p n ≤ n
  | 0 => Nat.le_refl 0
  | n + 1 => by
    have := zc_le p n
    simp only [zc]
    split <;> omega
theorem nI_m5 {a : Nat} (h : a < 2147483648) : nI a ≠ -5 := by
  intro e
  have h1 : (nI a).toInt = (a : Int) := nI_toInt h
  rw [e] at h1
  have h2 : ((-5 : Int32)).toInt = -5 := by decide
  rw [h2] at h1
  omega
theorem zf_no {p : Nat → Bool} : ∀ {n : Nat}, (∀ j, j < n → p j = false) → zf p n = -5
  | 0, _ => rfl
  | n + 1, h => by
    simp [zf, zf_no (fun j hj => h j (Nat.lt_succ_of_lt hj)), h n (Nat.lt_succ_self n)]
theorem zf_at {p : Nat → Bool} {k : Nat} (hk : k < 2147483648) (h1 : p k = true) (h0 : ∀ j, j < k → p j = false) : ∀ {n : Nat}, k < n → zf p n = nI k
  | 0, h => absurd h (Nat.not_lt_zero k)
  | n + 1, h => by
    rcases Nat.lt_or_ge k n with q | q
    · simp [zf, zf_at hk h1 h0 q, nI_m5 hk]
    · have : k = n := by omega
      subst this
      simp [zf, zf_no h0, h1]
theorem zg_no {p : Nat → Bool} : ∀ {n : Nat}, (∀ j, j < n → p j = false) → zg p n = -5
  | 0, _ => rfl
  | n + 1, h => by
    simp [zg, zg_no (fun j hj => h j (Nat.lt_succ_of_lt hj)), h n (Nat.lt_succ_self n)]
theorem zg_at {p : Nat → Bool} {k : Nat} (h1 : p k = true) : ∀ {n : Nat}, (∀ j, k < j → j < n → p j = false) → k < n → zg p n = nI k
  | 0, _, h => absurd h (Nat.not_lt_zero k)
  | n + 1, h0, h => by
    rcases Nat.lt_or_ge k n with q | q
    · simp [zg, zg_at h1 (fun j a b => h0 j a (by omega)) q, h0 n q (Nat.lt_succ_self n)]
    · have : k = n := by omega
      subst this
      simp [zg, h1]
