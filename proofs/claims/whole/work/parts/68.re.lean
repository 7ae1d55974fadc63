/-! pairs: a public method of the class and of the model, with one answer; the worlds that they see -/
noncomputable def WAd (E : zE) (x0 h0 h1 w0 : Nat) (t : Nat → Nat) (r : Nat → Nat → Nat) (S : zSt) (o kp : Nat) (Q : Nat → zSt) : va_W := [(x0, .inr (5, [.ref (t 0), .ref h0, .ref w0])), ((t 0), .inr (4, [.ref (t 1), .ref (t 3), .ref (t 5), .ref (t 6), .int (zb (tK S))])), ((t 1), .inr (2, [.ref (t 2), .int (nI (rU S))])), ((t 2), .inl (E.2.2.1, 12, .inl (rO S))), ((t 3), .inr (2, [.ref (t 4), .int (nI (cU S))])), ((t 4), .inl (E.2.2.1, 8, .inl (cO S))), ((t 5), .inl (E.2.2.1, 96, .inl (bS S))), ((t 6), .inr (0, [.ref (t 7), .int (nI (mK S))])), ((t 7), .inl (E.2.2.1, 360, .inl (fA S))), (h0, .inr (1, [.ref h1, .int (nI o), .int (nI kp)])), (h1, .inl (E.2.2.2.2, 5, .inr (.inr (.inr (.inr (fun i9 => some (r i9 0))))))), (((r 0) 0), .inr (4, [.ref ((r 0) 1), .ref ((r 0) 3), .ref ((r 0) 5), .ref ((r 0) 6), .int (zb (tK (Q 0)))])), (((r 0) 1), .inr (2, [.ref ((r 0) 2), .int (nI (rU (Q 0)))])), (((r 0) 2), .inl (E.2.2.1, 12, .inl (rO (Q 0)))), (((r 0) 3), .inr (2, [.ref ((r 0) 4), .int (nI (cU (Q 0)))])), (((r 0) 4), .inl (E.2.2.1, 8, .inl (cO (Q 0)))), (((r 0) 5), .inl (E.2.2.1, 96, .inl (bS (Q 0)))), (((r 0) 6), .inr (0, [.ref ((r 0) 7), .int (nI (mK (Q 0)))])), (((r 0) 7), .inl (E.2.2.1, 360, .inl (fA (Q 0)))), (((r 1) 0), .inr (4, [.ref ((r 1) 1), .ref ((r 1) 3), .ref ((r 1) 5), .ref ((r 1) 6), .int (zb (tK (Q 1)))])), (((r 1) 1), .inr (2, [.ref ((r 1) 2), .int (nI (rU (Q 1)))])), (((r 1) 2), .inl (E.2.2.1, 12, .inl (rO (Q 1)))), (((r 1) 3), .inr (2, [.ref ((r 1) 4), .int (nI (cU (Q 1)))])), (((r 1) 4), .inl (E.2.2.1, 8, .inl (cO (Q 1)))), (((r 1) 5), .inl (E.2.2.1, 96, .inl (bS (Q 1)))), (((r 1) 6), .inr (0, [.ref ((r 1) 7), .int (nI (mK (Q 1)))])), (((r 1) 7), .inl (E.2.2.1, 360, .inl (fA (Q 1)))), (((r 2) 0), .inr (4, [.ref ((r 2) 1), .ref ((r 2) 3), .ref ((r 2) 5), .ref ((r 2) 6), .int (zb (tK (Q 2)))])), (((r 2) 1), .inr (2, [.ref ((r 2) 2), .int (nI (rU (Q 2)))])), (((r 2) 2), .inl (E.2.2.1, 12, .inl (rO (Q 2)))), (((r 2) 3), .inr (2, [.ref ((r 2) 4), .int (nI (cU (Q 2)))])), (((r 2) 4), .inl (E.2.2.1, 8, .inl (cO (Q 2)))), (((r 2) 5), .inl (E.2.2.1, 96, .inl (bS (Q 2)))), (((r 2) 6), .inr (0, [.ref ((r 2) 7), .int (nI (mK (Q 2)))])), (((r 2) 7), .inl (E.2.2.1, 360, .inl (fA (Q 2)))), (((r 3) 0), .inr (4, [.ref ((r 3) 1), .ref ((r 3) 3), .ref ((r 3) 5), .ref ((r 3) 6), .int (zb (tK (Q 3)))])), (((r 3) 1), .inr (2, [.ref ((r 3) 2), .int (nI (rU (Q 3)))])), (((r 3) 2), .inl (E.2.2.1, 12, .inl (rO (Q 3)))), (((r 3) 3), .inr (2, [.ref ((r 3) 4), .int (nI (cU (Q 3)))])), (((r 3) 4), .inl (E.2.2.1, 8, .inl (cO (Q 3)))), (((r 3) 5), .inl (E.2.2.1, 96, .inl (bS (Q 3)))), (((r 3) 6), .inr (0, [.ref ((r 3) 7), .int (nI (mK (Q 3)))])), (((r 3) 7), .inl (E.2.2.1, 360, .inl (fA (Q 3)))), (((r 4) 0), .inr (4, [.ref ((r 4) 1), .ref ((r 4) 3), .ref ((r 4) 5), .ref ((r 4) 6), .int (zb (tK (Q 4)))])), (((r 4) 1), .inr (2, [.ref ((r 4) 2), .int (nI (rU (Q 4)))])), (((r 4) 2), .inl (E.2.2.1, 12, .inl (rO (Q 4)))), (((r 4) 3), .inr (2, [.ref ((r 4) 4), .int (nI (cU (Q 4)))])), (((r 4) 4), .inl (E.2.2.1, 8, .inl (cO (Q 4)))), (((r 4) 5), .inl (E.2.2.1, 96, .inl (bS (Q 4)))), (((r 4) 6), .inr (0, [.ref ((r 4) 7), .int (nI (mK (Q 4)))])), (((r 4) 7), .inl (E.2.2.1, 360, .inl (fA (Q 4))))]
noncomputable def WRd (E : zE) (x0 h0 h1 w0 w1 : Nat) (t : Nat → Nat) (r : Nat → Nat → Nat) (S : zSt) (o kp : Nat) (Q : Nat → zSt) (tx : Nat → Nat) (ln : Nat) (s : zPs) : va_W := [(x0, .inr (5, [.ref (t 0), .ref h0, .ref w0])), ((t 0), .inr (4, [.ref (t 1), .ref (t 3), .ref (t 5), .ref (t 6), .int (zb (tK S))])), ((t 1), .inr (2, [.ref (t 2), .int (nI (rU S))])), ((t 2), .inl (E.2.2.1, 12, .inl (rO S))), ((t 3), .inr (2, [.ref (t 4), .int (nI (cU S))])), ((t 4), .inl (E.2.2.1, 8, .inl (cO S))), ((t 5), .inl (E.2.2.1, 96, .inl (bS S))), ((t 6), .inr (0, [.ref (t 7), .int (nI (mK S))])), ((t 7), .inl (E.2.2.1, 360, .inl (fA S))), (h0, .inr (1, [.ref h1, .int (nI o), .int (nI kp)])), (h1, .inl (E.2.2.2.2, 5, .inr (.inr (.inr (.inr (fun i9 => some (r i9 0))))))), (((r 0) 0), .inr (4, [.ref ((r 0) 1), .ref ((r 0) 3), .ref ((r 0) 5), .ref ((r 0) 6), .int (zb (tK (Q 0)))])), (((r 0) 1), .inr (2, [.ref ((r 0) 2), .int (nI (rU (Q 0)))])), (((r 0) 2), .inl (E.2.2.1, 12, .inl (rO (Q 0)))), (((r 0) 3), .inr (2, [.ref ((r 0) 4), .int (nI (cU (Q 0)))])), (((r 0) 4), .inl (E.2.2.1, 8, .inl (cO (Q 0)))), (((r 0) 5), .inl (E.2.2.1, 96, .inl (bS (Q 0)))), (((r 0) 6), .inr (0, [.ref ((r 0) 7), .int (nI (mK (Q 0)))])), (((r 0) 7), .inl (E.2.2.1, 360, .inl (fA (Q 0)))), (((r 1) 0), .inr (4, [.ref ((r 1) 1), .ref ((r 1) 3), .ref ((r 1) 5), .ref ((r 1) 6), .int (zb (tK (Q 1)))])), (((r 1) 1), .inr (2, [.ref ((r 1) 2), .int (nI (rU (Q 1)))])), (((r 1) 2), .inl (E.2.2.1, 12, .inl (rO (Q 1)))), (((r 1) 3), .inr (2, [.ref ((r 1) 4), .int (nI (cU (Q 1)))])), (((r 1) 4), .inl (E.2.2.1, 8, .inl (cO (Q 1)))), (((r 1) 5), .inl (E.2.2.1, 96, .inl (bS (Q 1)))), (((r 1) 6), .inr (0, [.ref ((r 1) 7), .int (nI (mK (Q 1)))])), (((r 1) 7), .inl (E.2.2.1, 360, .inl (fA (Q 1)))), (((r 2) 0), .inr (4, [.ref ((r 2) 1), .ref ((r 2) 3), .ref ((r 2) 5), .ref ((r 2) 6), .int (zb (tK (Q 2)))])), (((r 2) 1), .inr (2, [.ref ((r 2) 2), .int (nI (rU (Q 2)))])), (((r 2) 2), .inl (E.2.2.1, 12, .inl (rO (Q 2)))), (((r 2) 3), .inr (2, [.ref ((r 2) 4), .int (nI (cU (Q 2)))])), (((r 2) 4), .inl (E.2.2.1, 8, .inl (cO (Q 2)))), (((r 2) 5), .inl (E.2.2.1, 96, .inl (bS (Q 2)))), (((r 2) 6), .inr (0, [.ref ((r 2) 7), .int (nI (mK (Q 2)))])), (((r 2) 7), .inl (E.2.2.1, 360, .inl (fA (Q 2)))), (((r 3) 0), .inr (4, [.ref ((r 3) 1), .ref ((r 3) 3), .ref ((r 3) 5), .ref ((r 3) 6), .int (zb (tK (Q 3)))])), (((r 3) 1), .inr (2, [.ref ((r 3) 2), .int (nI (rU (Q 3)))])), (((r 3) 2), .inl (E.2.2.1, 12, .inl (rO (Q 3)))), (((r 3) 3), .inr (2, [.ref ((r 3) 4), .int (nI (cU (Q 3)))])), (((r 3) 4), .inl (E.2.2.1, 8, .inl (cO (Q 3)))), (((r 3) 5), .inl (E.2.2.1, 96, .inl (bS (Q 3)))), (((r 3) 6), .inr (0, [.ref ((r 3) 7), .int (nI (mK (Q 3)))])), (((r 3) 7), .inl (E.2.2.1, 360, .inl (fA (Q 3)))), (((r 4) 0), .inr (4, [.ref ((r 4) 1), .ref ((r 4) 3), .ref ((r 4) 5), .ref ((r 4) 6), .int (zb (tK (Q 4)))])), (((r 4) 1), .inr (2, [.ref ((r 4) 2), .int (nI (rU (Q 4)))])), (((r 4) 2), .inl (E.2.2.1, 12, .inl (rO (Q 4)))), (((r 4) 3), .inr (2, [.ref ((r 4) 4), .int (nI (cU (Q 4)))])), (((r 4) 4), .inl (E.2.2.1, 8, .inl (cO (Q 4)))), (((r 4) 5), .inl (E.2.2.1, 96, .inl (bS (Q 4)))), (((r 4) 6), .inr (0, [.ref ((r 4) 7), .int (nI (mK (Q 4)))])), (((r 4) 7), .inl (E.2.2.1, 360, .inl (fA (Q 4)))), (w0, .inr (3, [.ref w1, .int (nI ln), .int (nI (oP s)), .int (oS s), .int (oA s), .int (oL s), .int (oC s), .int (oV s)])), (w1, .inl (E.2.2.2.1, 60, .inl (fun j9 => nI (tx j9))))]
noncomputable def WTd (E : zE) (x0 h0 w0 : Nat) (t : Nat → Nat) (S : zSt) : va_W := [(x0, .inr (5, [.ref (t 0), .ref h0, .ref w0])), ((t 0), .inr (4, [.ref (t 1), .ref (t 3), .ref (t 5), .ref (t 6), .int (zb (tK S))])), ((t 1), .inr (2, [.ref (t 2), .int (nI (rU S))])), ((t 2), .inl (E.2.2.1, 12, .inl (rO S))), ((t 3), .inr (2, [.ref (t 4), .int (nI (cU S))])), ((t 4), .inl (E.2.2.1, 8, .inl (cO S))), ((t 5), .inl (E.2.2.1, 96, .inl (bS S))), ((t 6), .inr (0, [.ref (t 7), .int (nI (mK S))])), ((t 7), .inl (E.2.2.1, 360, .inl (fA S)))]
noncomputable def WXd (E : zE) (x0 t0 h0 w0 w1 : Nat) (tx : Nat → Nat) (ln : Nat) (s : zPs) : va_W := [(x0, .inr (5, [.ref t0, .ref h0, .ref w0])), (w0, .inr (3, [.ref w1, .int (nI ln), .int (nI (oP s)), .int (oS s), .int (oA s), .int (oL s), .int (oC s), .int (oV s)])), (w1, .inl (E.2.2.2.1, 60, .inl (fun j9 => nI (tx j9))))]
noncomputable def WCd (E : zE) (x0 h0 h1 w0 w1 : Nat) (t : Nat → Nat) (S : zSt) (o kp : Nat) (ln : Nat) (s : zPs) : va_W := [(x0, .inr (5, [.ref (t 0), .ref h0, .ref w0])), ((t 0), .inr (4, [.ref (t 1), .ref (t 3), .ref (t 5), .ref (t 6), .int (zb (tK S))])), ((t 1), .inr (2, [.ref (t 2), .int (nI (rU S))])), ((t 2), .inl (E.2.2.1, 12, .inl (rO S))), ((t 3), .inr (2, [.ref (t 4), .int (nI (cU S))])), ((t 4), .inl (E.2.2.1, 8, .inl (cO S))), ((t 5), .inl (E.2.2.1, 96, .inl (bS S))), ((t 6), .inr (0, [.ref (t 7), .int (nI (mK S))])), ((t 7), .inl (E.2.2.1, 360, .inl (fA S))), (h0, .inr (1, [.ref h1, .int (nI o), .int (nI kp)])), (w0, .inr (3, [.ref w1, .int (nI ln), .int (nI (oP s)), .int (oS s), .int (oA s), .int (oL s), .int (oC s), .int (oV s)]))]
noncomputable def W9d (E : zE) (a : Nat → Nat) (kp ty pl : Nat) (gd : Bool) (od : Nat) (s t : zMs) (Q : Nat → zMs) : va_W := [((a 0), .inr (6, [.ref (a 1), .ref (a 2), .ref (a 3), .int (nI kp), .int (nI ty), .ref (a 4), .int (nI pl), .int (zb gd), .int (nI od), .ref (a 5)])), ((a 1), .inl (E.2.2.1, 512, .inl (zMr s))), ((a 2), .inl (E.2.2.1, 512, .inl (zMr t))), ((a 3), .inl (E.2.2.1, 2048, .inl (zHi Q)))]
noncomputable def WNd (E : zE) (a : Nat → Nat) (kp ty pl : Nat) (gd : Bool) (od : Nat) (s t : zMs) (Q : Nat → zMs) (tx : Nat → Nat) (oo : Nat → Int32) : va_W := [((a 0), .inr (6, [.ref (a 1), .ref (a 2), .ref (a 3), .int (nI kp), .int (nI ty), .ref (a 4), .int (nI pl), .int (zb gd), .int (nI od), .ref (a 5)])), ((a 1), .inl (E.2.2.1, 512, .inl (zMr s))), ((a 2), .inl (E.2.2.1, 512, .inl (zMr t))), ((a 3), .inl (E.2.2.1, 2048, .inl (zHi Q))), ((a 4), .inl (E.2.2.2.1, 60, .inl (fun j9 => nI (tx j9)))), ((a 5), .inl (E.2.2.1, 120, .inl oo))]
noncomputable def WMd (E : zE) (a : Nat → Nat) (kp ty pl : Nat) (gd : Bool) (od : Nat) (s : zMs) : va_W := [((a 0), .inr (6, [.ref (a 1), .ref (a 2), .ref (a 3), .int (nI kp), .int (nI ty), .ref (a 4), .int (nI pl), .int (zb gd), .int (nI od), .ref (a 5)])), ((a 1), .inl (E.2.2.1, 512, .inl (zMr s)))]
noncomputable def WYd (E : zE) (a : Nat → Nat) (kp ty pl : Nat) (gd : Bool) (od : Nat) (tx : Nat → Nat) : va_W := [((a 0), .inr (6, [.ref (a 1), .ref (a 2), .ref (a 3), .int (nI kp), .int (nI ty), .ref (a 4), .int (nI pl), .int (zb gd), .int (nI od), .ref (a 5)])), ((a 4), .inl (E.2.2.2.1, 60, .inl (fun j9 => nI (tx j9))))]
noncomputable def LWd (E : zE) (x0 h0 h1 w0 w1 : Nat) (t : Nat → Nat) (r : Nat → Nat → Nat) (a : Nat → Nat) (S : zSt) (o kp : Nat) (Q : Nat → zSt) (tx : Nat → Nat) (ln : Nat) (ps : zPs) (pl : Nat) (gd : Bool) (od : Nat) (sm um : zMs) (Qm : Nat → zMs) (oo : Nat → Int32) (km : Nat) (tm : Nat → Nat) (lm : Nat) : va_W := [(x0, .inr (5, [.ref (t 0), .ref h0, .ref w0])), ((t 0), .inr (4, [.ref (t 1), .ref (t 3), .ref (t 5), .ref (t 6), .int (zb (tK S))])), ((t 1), .inr (2, [.ref (t 2), .int (nI (rU S))])), ((t 2), .inl (E.2.2.1, 12, .inl (rO S))), ((t 3), .inr (2, [.ref (t 4), .int (nI (cU S))])), ((t 4), .inl (E.2.2.1, 8, .inl (cO S))), ((t 5), .inl (E.2.2.1, 96, .inl (bS S))), ((t 6), .inr (0, [.ref (t 7), .int (nI (mK S))])), ((t 7), .inl (E.2.2.1, 360, .inl (fA S))), (h0, .inr (1, [.ref h1, .int (nI o), .int (nI kp)])), (h1, .inl (E.2.2.2.2, 5, .inr (.inr (.inr (.inr (fun i9 => some (r i9 0))))))), (((r 0) 0), .inr (4, [.ref ((r 0) 1), .ref ((r 0) 3), .ref ((r 0) 5), .ref ((r 0) 6), .int (zb (tK (Q 0)))])), (((r 0) 1), .inr (2, [.ref ((r 0) 2), .int (nI (rU (Q 0)))])), (((r 0) 2), .inl (E.2.2.1, 12, .inl (rO (Q 0)))), (((r 0) 3), .inr (2, [.ref ((r 0) 4), .int (nI (cU (Q 0)))])), (((r 0) 4), .inl (E.2.2.1, 8, .inl (cO (Q 0)))), (((r 0) 5), .inl (E.2.2.1, 96, .inl (bS (Q 0)))), (((r 0) 6), .inr (0, [.ref ((r 0) 7), .int (nI (mK (Q 0)))])), (((r 0) 7), .inl (E.2.2.1, 360, .inl (fA (Q 0)))), (((r 1) 0), .inr (4, [.ref ((r 1) 1), .ref ((r 1) 3), .ref ((r 1) 5), .ref ((r 1) 6), .int (zb (tK (Q 1)))])), (((r 1) 1), .inr (2, [.ref ((r 1) 2), .int (nI (rU (Q 1)))])), (((r 1) 2), .inl (E.2.2.1, 12, .inl (rO (Q 1)))), (((r 1) 3), .inr (2, [.ref ((r 1) 4), .int (nI (cU (Q 1)))])), (((r 1) 4), .inl (E.2.2.1, 8, .inl (cO (Q 1)))), (((r 1) 5), .inl (E.2.2.1, 96, .inl (bS (Q 1)))), (((r 1) 6), .inr (0, [.ref ((r 1) 7), .int (nI (mK (Q 1)))])), (((r 1) 7), .inl (E.2.2.1, 360, .inl (fA (Q 1)))), (((r 2) 0), .inr (4, [.ref ((r 2) 1), .ref ((r 2) 3), .ref ((r 2) 5), .ref ((r 2) 6), .int (zb (tK (Q 2)))])), (((r 2) 1), .inr (2, [.ref ((r 2) 2), .int (nI (rU (Q 2)))])), (((r 2) 2), .inl (E.2.2.1, 12, .inl (rO (Q 2)))), (((r 2) 3), .inr (2, [.ref ((r 2) 4), .int (nI (cU (Q 2)))])), (((r 2) 4), .inl (E.2.2.1, 8, .inl (cO (Q 2)))), (((r 2) 5), .inl (E.2.2.1, 96, .inl (bS (Q 2)))), (((r 2) 6), .inr (0, [.ref ((r 2) 7), .int (nI (mK (Q 2)))])), (((r 2) 7), .inl (E.2.2.1, 360, .inl (fA (Q 2)))), (((r 3) 0), .inr (4, [.ref ((r 3) 1), .ref ((r 3) 3), .ref ((r 3) 5), .ref ((r 3) 6), .int (zb (tK (Q 3)))])), (((r 3) 1), .inr (2, [.ref ((r 3) 2), .int (nI (rU (Q 3)))])), (((r 3) 2), .inl (E.2.2.1, 12, .inl (rO (Q 3)))), (((r 3) 3), .inr (2, [.ref ((r 3) 4), .int (nI (cU (Q 3)))])), (((r 3) 4), .inl (E.2.2.1, 8, .inl (cO (Q 3)))), (((r 3) 5), .inl (E.2.2.1, 96, .inl (bS (Q 3)))), (((r 3) 6), .inr (0, [.ref ((r 3) 7), .int (nI (mK (Q 3)))])), (((r 3) 7), .inl (E.2.2.1, 360, .inl (fA (Q 3)))), (((r 4) 0), .inr (4, [.ref ((r 4) 1), .ref ((r 4) 3), .ref ((r 4) 5), .ref ((r 4) 6), .int (zb (tK (Q 4)))])), (((r 4) 1), .inr (2, [.ref ((r 4) 2), .int (nI (rU (Q 4)))])), (((r 4) 2), .inl (E.2.2.1, 12, .inl (rO (Q 4)))), (((r 4) 3), .inr (2, [.ref ((r 4) 4), .int (nI (cU (Q 4)))])), (((r 4) 4), .inl (E.2.2.1, 8, .inl (cO (Q 4)))), (((r 4) 5), .inl (E.2.2.1, 96, .inl (bS (Q 4)))), (((r 4) 6), .inr (0, [.ref ((r 4) 7), .int (nI (mK (Q 4)))])), (((r 4) 7), .inl (E.2.2.1, 360, .inl (fA (Q 4)))), (w0, .inr (3, [.ref w1, .int (nI ln), .int (nI (oP ps)), .int (oS ps), .int (oA ps), .int (oL ps), .int (oC ps), .int (oV ps)])), (w1, .inl (E.2.2.2.1, 60, .inl (fun j9 => nI (tx j9)))), ((a 0), .inr (6, [.ref (a 1), .ref (a 2), .ref (a 3), .int (nI km), .int (nI lm), .ref (a 4), .int (nI pl), .int (zb gd), .int (nI od), .ref (a 5)])), ((a 1), .inl (E.2.2.1, 512, .inl (zMr sm))), ((a 2), .inl (E.2.2.1, 512, .inl (zMr um))), ((a 3), .inl (E.2.2.1, 2048, .inl (zHi Qm))), ((a 4), .inl (E.2.2.2.1, 60, .inl (fun j9 => nI (tm j9)))), ((a 5), .inl (E.2.2.1, 120, .inl oo))]
def HH (o kp : Nat) (P : Nat → zSt) (Q : Nat → zMs) (B : Nat) : Prop := o < 5 ∧ kp ≤ 4 ∧ HR o kp P Q B
theorem HH_mono {o kp B B' : Nat} {P : Nat → zSt} {Q : Nat → zMs} (h : HH o kp P Q B) (hb : B ≤ B') : HH o kp P Q B' := ⟨h.1, h.2.1, HR_mono h.2.2 hb⟩
theorem HH_act {o kp B : Nat} {P : Nat → zSt} {Q : Nat → zMs} {S : zSt} {s : zMs} (h : HH o kp P Q B) (hR : RR S s B) (x : Int32) : HH (zHo x o kp) (zHk x kp) (zRp P ((o + kp) % 5) S) (mHq x Q kp s) B := ⟨zHo_lt h.1, zHk_le h.2.1, HR_act h.2.2 hR h.1 h.2.1⟩
theorem z_inout (x : Int32) (n : Nat) (hn : n < 2147483648) : (x < 0 ∨ (¬ x < 0 ∧ nI n ≤ x)) ∨ ∃ j, j < n ∧ x = nI j := by
  by_cases h : x < 0 ∨ nI n ≤ x
  · exact Or.inl (z_or h)
  · exact Or.inr (z_nat hn (fun q => h (Or.inl q)) (fun q => h (Or.inr q)))
theorem z_inout' (x : Int32) (n : Nat) (hn : n < 2147483647) : (x < 0 ∨ (¬ x < 0 ∧ nI n < x)) ∨ ∃ j, j < n + 1 ∧ x = nI j := by
  by_cases h : x < 0 ∨ nI n < x
  · exact Or.inl (z_or h)
  · obtain ⟨j, hj, e⟩ := z_natle hn h
    exact Or.inr ⟨j, by omega, e⟩
theorem z_pos (x : Int32) (h : ¬ x < 0) : ∃ j, j < 2147483648 ∧ x = nI j := by
  have h1 := Int32.not_lt.mp h
  refine ⟨x.toInt.toNat, ?_, ?_⟩
  · have := Int32.toInt_lt x
    omega
  · have h2 : 0 ≤ x.toInt := by
      have := Int32.le_iff_toInt_le.mp h1
      simpa using this
    apply Int32.toInt_inj.mp
    rw [nI_toInt (by have := Int32.toInt_lt x; omega)]
    omega
theorem zc_0 {p : Nat → Bool} : ∀ {n : Nat}, (∀ j, j < n → p j = false) → zc p n = 0
  | 0, _ => rfl
  | n + 1, h => by rw [zc_n (h n (Nat.lt_succ_self n)), zc_0 (fun j hj => h j (by omega))]
theorem zc_gt {p : Nat → Bool} {j : Nat} (hp : p j = true) : ∀ {n : Nat}, j < n → 0 < zc p n
  | 0, h => absurd h (Nat.not_lt_zero j)
  | n + 1, h => by
    rw [zc_s]
    rcases Nat.lt_or_ge j n with q | q
    · have := zc_gt hp q; omega
    · rw [show n = j by omega, hp]; simp
/-! ### acts -/
section ACTS
variable (E : zE) (x0 h0 h1 w0 : Nat) (t : Nat → Nat) (r : Nat → Nat → Nat) (a : Nat → Nat) (ty pl : Nat) (gd : Bool) (od : Nat) {S : zSt} {o kp B : Nat} {Q : Nat → zSt} {s u : zMs} {Qm : Nat → zMs}
/-- what an act of both leads to -/
def prA (E : zE) (x0 h0 h1 w0 : Nat) (t : Nat → Nat) (r : Nat → Nat → Nat) (a : Nat → Nat) (ty pl : Nat) (gd : Bool) (od : Nat) (S : zSt) (o kp B : Nat) (Q : Nat → zSt) (s u : zMs) (Qm : Nat → zMs) (y5 : MethodName) (ws5 : List Cond) (d5 : Nat) (y6 : MethodName) (ws6 : List Cond) (d6 : Nat) (As : List Value) : Prop :=
  ∃ (v : Int32) (S' : zSt) (o' kp' : Nat) (Q' : Nat → zSt) (s' u' : zMs) (Qm' : Nat → zMs), zM E y5 ws5 d5 (.ref x0 :: As) (WAd E x0 h0 h1 w0 t r S o kp Q) (WAd E x0 h0 h1 w0 t r S' o' kp' Q') (some (.int v)) ∧ zM E y6 ws6 d6 (.ref (a 0) :: As) (W9d E a kp ty pl gd od s u Qm) (W9d E a kp' ty pl gd od s' u' Qm') (some (.int v)) ∧ RR S' s' (B + 61) ∧ HH o' kp' Q' Qm' (B + 61)
set_option maxRecDepth 100000 in
theorem pr_insert (h : RR S s B) (hh : HH o kp Q Qm B) (hB : B < 2147483500) (au ax p : Int32) : prA E x0 h0 h1 w0 t r a ty pl gd od S o kp B Q s u Qm yX5_insert wsX5_insert 6 yX6_insert wsX6_insert 4 [.int au, .int ax, .int p] := by
  obtain ⟨e, hr⟩ := RR_Ins (au := au) (ax := ax) (pl := p) h (by omega)
  have m := mX6_insert E a kp ty pl gd od s u Qm au ax p h.1.2.1 hh.2.1
  rw [← e, ← zHk_m hh.2.1] at m
  exact ⟨_, _, _, _, _, _, _, _, mX5_insert E x0 h0 h1 w0 t r S o kp Q au ax p h.1.1.1 h.1.1.2 hh.1 hh.2.1, m, RR_mono hr (by omega), HH_mono (HH_act hh h _) (by omega)⟩
set_option maxRecDepth 100000 in
theorem pr_remove (h : RR S s B) (hh : HH o kp Q Qm B) (hB : B < 2147483500) (au ax p : Int32) : prA E x0 h0 h1 w0 t r a ty pl gd od S o kp B Q s u Qm yX5_remove wsX5_remove 6 yX6_remove wsX6_remove 6 [.int au, .int ax, .int p] := by
  obtain ⟨e, hr⟩ := RR_Rem (au := au) (ax := ax) (pl := p) h (by omega)
  have m := mX6_remove E a kp ty pl gd od s u Qm au ax p h.1.2.1 hh.2.1
  rw [← e, ← zHk_m hh.2.1] at m
  exact ⟨(zRem S au ax p).1, (zRem S au ax p).2, zHo (zRem S au ax p).1 o kp, zHk (zRem S au ax p).1 kp, zRp Q ((o + kp) % 5) S, (mRem s au ax p).2, s, mHq (zRem S au ax p).1 Qm kp s, mX5_remove E x0 h0 h1 w0 t r S o kp Q au ax p h.1.1.1 h.1.1.2 hh.1 hh.2.1, m, RR_mono hr (by omega), HH_mono (HH_act hh h _) (by omega)⟩
set_option maxRecDepth 100000 in
theorem pr_set (h : RR S s B) (hh : HH o kp Q Qm B) (au rr c v : Int32) : prA E x0 h0 h1 w0 t r a ty pl gd od S o kp B Q s u Qm yX5_set wsX5_set 6 yX6_set wsX6_set 6 [.int au, .int rr, .int c, .int v] := by
  obtain ⟨e, hr⟩ := RR_Set (au := au) (r := rr) (c := c) (v := v) h
  have m := mX6_set E a kp ty pl gd od s u Qm au rr c v h.1.2.1 hh.2.1 h.1.2.2.1
  rw [← e, ← zHk_m hh.2.1] at m
  exact ⟨_, _, _, _, _, _, _, _, mX5_set E x0 h0 h1 w0 t r S o kp Q au rr c v h.1.1.1 h.1.1.2 hh.1 hh.2.1, m, RR_mono hr (by omega), HH_mono (HH_act hh h _) (by omega)⟩
theorem zb_c {b : Bool} {c : Bool} : zb b = zb c ↔ b = c := by cases b <;> cases c <;> decide
set_option maxRecDepth 100000 in
theorem pr_track (h : RR S s B) (hh : HH o kp Q Qm B) (bb : Bool) : prA E x0 h0 h1 w0 t r a ty pl gd od S o kp B Q s u Qm yX5_track wsX5_track 6 yX6_track wsX6_track 3 [.int (zb bb)] := by
  have e3 := h.2.1.2.2.2
  have ev : zc (pIS (fA S) (-1) (nI 0)) (mK S) = zc (mP0 (nZ s)) (nM s) := (RR_isS h).trans (zc_cg (fun x hx => by unfold mP0; rw [nI_0]))
  by_cases c : tK S = bb
  · have m : zM E yX6_track wsX6_track 3 [.ref (a 0), .int (zb bb)] (W9d E a kp ty pl gd od s u Qm) (W9d E a kp ty pl gd od s u Qm) (some (.int (-4))) := by
      cases bb with
      | true => exact mX6_track_1s E a kp ty pl gd od s u Qm h.1.2.1 hh.2.1 (by rw [e3, c]; rfl)
      | false => exact mX6_track_0s E a kp ty pl gd od s u Qm h.1.2.1 hh.2.1 (by rw [e3, c]; rfl)
    exact ⟨_, _, _, _, _, _, _, _, mX5_track_s E x0 h0 h1 w0 t r S o kp Q bb h.1.1.1 h.1.1.2 hh.1 hh.2.1 (by rw [c]), m, RR_mono h (by omega), HH_mono hh (by omega)⟩
  · have m : zM E yX6_track wsX6_track 3 [.ref (a 0), .int (zb bb)] (W9d E a kp ty pl gd od s u Qm) (W9d E a (mHk (nI (zc (mP0 (nZ s)) (nM s))) kp) ty pl gd od (mwT s bb) s (mHq (nI (zc (mP0 (nZ s)) (nM s))) Qm kp s)) (some (.int (nI (zc (mP0 (nZ s)) (nM s))))) := by
      cases bb with
      | true => exact mX6_track_1 E a kp ty pl gd od s u Qm h.1.2.1 hh.2.1 (by rw [e3]; exact fun z => c (zb_c.mp (z : zb (tK S) = zb true)))
      | false => exact mX6_track_0 E a kp ty pl gd od s u Qm h.1.2.1 hh.2.1 (by rw [e3]; exact fun z => c (zb_c.mp (z : zb (tK S) = zb false)))
    rw [← ev, ← zHk_m hh.2.1] at m
    exact ⟨_, _, _, _, _, _, _, _, mX5_track E x0 h0 h1 w0 t r S o kp Q bb h.1.1.1 h.1.1.2 hh.1 hh.2.1 (fun z => c (zb_c.mp z)), m, RR_mono (RR_Tk h bb) (by omega), HH_mono (HH_act hh h _) (by omega)⟩
set_option maxRecDepth 100000 in
theorem pr_accept (h : RR S s B) (hh : HH o kp Q Qm B) (x : Int32) : prA E x0 h0 h1 w0 t r a ty pl gd od S o kp B Q s u Qm yX5_accept wsX5_accept 7 yX6_accept wsX6_accept 6 [.int x] := by
  have hM := h.2.1.2.2.1
  have h60 := h.1.1.1.2.2
  rcases z_inout x (mK S) (by omega) with c | ⟨n, hn, e⟩
  · exact ⟨_, _, _, _, _, _, _, _, mX5_accept_b E x0 h0 h1 w0 t r S o kp Q x h.1.1.1 h.1.1.2 hh.1 hh.2.1 c, mX6_accept_b E a kp ty pl gd od s u Qm x h.1.2.1 hh.2.1 (by rw [hM]; exact c), RR_mono h (by omega), HH_mono hh (by omega)⟩
  · subst e
    have k3 := (h.2.2.1 n hn).2.2.1
    by_cases p : fA S (6 * n + 2) = 0
    · obtain ⟨hr, e⟩ := RR_AW h hn p
      have m := mX6_accept E a kp ty pl gd od s u Qm n h.1.2.1 hh.2.1 (by rw [hM]; exact hn) (by rw [k3]; exact p) (RR_gAW h hn p)
      rw [← e, ← zHk_m hh.2.1] at m
      exact ⟨_, _, _, _, _, _, _, _, mX5_accept E x0 h0 h1 w0 t r S o kp Q n h.1.1.1 h.1.1.2 hh.1 hh.2.1 hn p, m, RR_mono hr (by omega), HH_mono (HH_act hh h _) (by omega)⟩
    · exact ⟨_, _, _, _, _, _, _, _, mX5_accept_n E x0 h0 h1 w0 t r S o kp Q n h.1.1.1 h.1.1.2 hh.1 hh.2.1 hn p, mX6_accept_n E a kp ty pl gd od s u Qm n h.1.2.1 hh.2.1 (by rw [hM]; exact hn) (by rw [k3]; exact p), RR_mono h (by omega), HH_mono hh (by omega)⟩
set_option maxRecDepth 100000 in
theorem pr_reject (h : RR S s B) (hh : HH o kp Q Qm B) (x : Int32) : prA E x0 h0 h1 w0 t r a ty pl gd od S o kp B Q s u Qm yX5_reject wsX5_reject 6 yX6_reject wsX6_reject 6 [.int x] := by
  have hM := h.2.1.2.2.1
  have h60 := h.1.1.1.2.2
  rcases z_inout x (mK S) (by omega) with c | ⟨n, hn, e⟩
  · exact ⟨_, _, _, _, _, _, _, _, mX5_reject_b E x0 h0 h1 w0 t r S o kp Q x h.1.1.1 h.1.1.2 hh.1 hh.2.1 c, mX6_reject_b E a kp ty pl gd od s u Qm x h.1.2.1 hh.2.1 (by rw [hM]; exact c), RR_mono h (by omega), HH_mono hh (by omega)⟩
  · subst e
    have k3 := (h.2.2.1 n hn).2.2.1
    by_cases p : fA S (6 * n + 2) = 0
    · obtain ⟨hr, e⟩ := RR_RW h hn p
      have m := mX6_reject E a kp ty pl gd od s u Qm n h.1.2.1 hh.2.1 (by rw [hM]; exact hn) (by rw [k3]; exact p) (RR_lnX h hn p)
      rw [← e, ← zHk_m hh.2.1] at m
      exact ⟨_, _, _, _, _, _, _, _, mX5_reject E x0 h0 h1 w0 t r S o kp Q n h.1.1.1 h.1.1.2 hh.1 hh.2.1 hn p, m, RR_mono hr (by omega), HH_mono (HH_act hh h _) (by omega)⟩
    · exact ⟨_, _, _, _, _, _, _, _, mX5_reject_n E x0 h0 h1 w0 t r S o kp Q n h.1.1.1 h.1.1.2 hh.1 hh.2.1 hn p, mX6_reject_n E a kp ty pl gd od s u Qm n h.1.2.1 hh.2.1 (by rw [hM]; exact hn) (by rw [k3]; exact p), RR_mono h (by omega), HH_mono hh (by omega)⟩
theorem pIS_mFo (h : RR S s B) {au : Int32} (ha : au = -1 ∨ ∃ k, k < 4 ∧ au = nI k) : ∀ x, x < mK S → pIS (fA S) au (nI 0) x = mFo (nZ s) (nY s) au x := by
  intro x hx
  rw [← RR_SC h ha hx]
  unfold pIS zSC
  rw [nI_0, Bool.and_comm]
set_option maxRecDepth 100000 in
theorem pr_settle9 (h : RR S s B) (hh : HH o kp Q Qm B) (bb : Bool) {au : Int32} (ha : au = -1 ∨ ∃ k, k < 4 ∧ au = nI k)
    (m5n : zc (pIS (fA S) au (nI 0)) (mK S) = 0 → zM E yX5_settle wsX5_settle 8 [.ref x0, .int au, .int (zb bb)] (WAd E x0 h0 h1 w0 t r S o kp Q) (WAd E x0 h0 h1 w0 t r S o kp Q) (some (.int (-4))))
    (m5 : 0 < zc (pIS (fA S) au (nI 0)) (mK S) → zM E yX5_settle wsX5_settle 8 [.ref x0, .int au, .int (zb bb)] (WAd E x0 h0 h1 w0 t r S o kp Q) (WAd E x0 h0 h1 w0 t r (zSL S au bb (mK S)).1 (zHo (nI (zSL S au bb (mK S)).2) o kp) (zHk (nI (zSL S au bb (mK S)).2) kp) (zRp Q ((o + kp) % 5) S)) (some (.int (nI (zSL S au bb (mK S)).2))))
    (m6n : zf (mFo (nZ s) (nY s) au) (nM s) < 0 → zM E yX6_settle wsX6_settle 5 [.ref (a 0), .int au, .int (zb bb)] (W9d E a kp ty pl gd od s u Qm) (W9d E a kp ty pl gd od s u Qm) (some (.int (-4))))
    (m6 : ¬ zf (mFo (nZ s) (nY s) au) (nM s) < 0 → (∀ k, k ≤ nM s → okM (nU (mSL s au bb k).1) (nS (mSL s au bb k).1) (nM (mSL s au bb k).1) (nK (mSL s au bb k).1) ∧ (k < nM s → mFo (nZ (mSL s au bb k).1) (nY (mSL s au bb k).1) au k = true → gAW (mSL s au bb k).1 k ∧ lnX (nK (mSL s au bb k).1) (nR (mSL s au bb k).1) (nC (mSL s au bb k).1) (nS (mSL s au bb k).1) (nN (mSL s au bb k).1) (nU (mSL s au bb k).1) k)) → zM E yX6_settle wsX6_settle 5 [.ref (a 0), .int au, .int (zb bb)] (W9d E a kp ty pl gd od s u Qm) (W9d E a (mHk (nI (mSL s au bb (nM s)).2) kp) ty pl gd od (mSL s au bb (nM s)).1 s (mHq (nI (mSL s au bb (nM s)).2) Qm kp s)) (some (.int (nI (mSL s au bb (nM s)).2)))) :
    prA E x0 h0 h1 w0 t r a ty pl gd od S o kp B Q s u Qm yX5_settle wsX5_settle 8 yX6_settle wsX6_settle 5 [.int au, .int (zb bb)] := by
  have hM := h.2.1.2.2.1
  have h60 := h.1.1.1.2.2
  have ep := pIS_mFo h ha
  by_cases c : zf (mFo (nZ s) (nY s) au) (nM s) < 0
  · have z := zf_ng (by omega) c
    exact ⟨_, _, _, _, _, _, _, _, m5n (zc_0 (fun j hj => by rw [ep j hj]; exact z j (by omega))), m6n c, RR_mono h (by omega), HH_mono hh (by omega)⟩
  · have z := zf_nn (by omega) c
    obtain ⟨hr, e⟩ := RR_SL (b := bb) h ha (mK S) (Nat.le_refl _)
    have m := m6 c (fun k hk => by
      obtain ⟨ih, -⟩ := RR_SL (b := bb) h ha k (by omega)
      have hM2 : mK (zSL S au bb k).1 = mK S := (zSL_ok h.1.1.1 k).2.1
      refine ⟨ih.1.2.1, fun hk2 q => ?_⟩
      have q2 := zSC_p ((RR_SC ih ha (k := k) (by omega)).trans q)
      exact ⟨RR_gAW ih (by omega) q2, RR_lnX ih (by omega) q2⟩)
    rw [hM, ← e, ← zHk_m hh.2.1] at m
    exact ⟨_, _, _, _, _, _, _, _, m5 (zc_gt (j := zix (mFo (nZ s) (nY s) au) (nM s)) (by rw [ep _ (by omega)]; exact zix_p z) (by omega)), m, RR_mono hr (by omega), HH_mono (HH_act hh h _) (by omega)⟩
set_option maxRecDepth 100000 in
theorem pr_settle (h : RR S s B) (hh : HH o kp Q Qm B) (au : Int32) (bb : Bool) : prA E x0 h0 h1 w0 t r a ty pl gd od S o kp B Q s u Qm yX5_settle wsX5_settle 8 yX6_settle wsX6_settle 5 [.int au, .int (zb bb)] := by
  by_cases c : au = -1
  · subst c
    refine pr_settle9 E x0 h0 h1 w0 t r a ty pl gd od h hh bb (Or.inl rfl) (fun z => mX5_settle_n1 E x0 h0 h1 w0 t r S o kp Q bb h.1.1.1 h.1.1.2 hh.1 hh.2.1 z) (fun z => mX5_settle_1 E x0 h0 h1 w0 t r S o kp Q bb h.1.1.1 h.1.1.2 hh.1 hh.2.1 z) (fun z => ?_) (fun z g => ?_)
    · cases bb with
      | true => exact mX6_settle_mn1 E a kp ty pl gd od s u Qm h.1.2.1 hh.2.1 z
      | false => exact mX6_settle_mn0 E a kp ty pl gd od s u Qm h.1.2.1 hh.2.1 z
    · cases bb with
      | true => exact mX6_settle_m1 E a kp ty pl gd od s u Qm h.1.2.1 hh.2.1 z (fun k hk => ⟨(g k hk).1, fun q1 q2 => ((g k hk).2 q1 q2).1⟩)
      | false => exact mX6_settle_m0 E a kp ty pl gd od s u Qm h.1.2.1 hh.2.1 z (fun k hk => ⟨(g k hk).1, fun q1 q2 => ((g k hk).2 q1 q2).2⟩)
  · rcases z_inout au 4 (by decide) with c2 | ⟨n, hn, e⟩
    · have m : zM E yX6_settle wsX6_settle 5 [.ref (a 0), .int au, .int (zb bb)] (W9d E a kp ty pl gd od s u Qm) (W9d E a kp ty pl gd od s u Qm) (some (.int (-1))) := by
        cases bb with
        | true => exact mX6_settle_b1 E a kp ty pl gd od s u Qm au h.1.2.1 hh.2.1 c2 c
        | false => exact mX6_settle_b0 E a kp ty pl gd od s u Qm au h.1.2.1 hh.2.1 c2 c
      exact ⟨_, _, _, _, _, _, _, _, mX5_settle_b E x0 h0 h1 w0 t r S o kp Q au bb h.1.1.1 h.1.1.2 hh.1 hh.2.1 c2 c, m, RR_mono h (by omega), HH_mono hh (by omega)⟩
    · subst e
      refine pr_settle9 E x0 h0 h1 w0 t r a ty pl gd od h hh bb (Or.inr ⟨n, hn, rfl⟩) (fun z => mX5_settle_n2 E x0 h0 h1 w0 t r S o kp Q n bb h.1.1.1 h.1.1.2 hh.1 hh.2.1 hn z) (fun z => mX5_settle_2 E x0 h0 h1 w0 t r S o kp Q n bb h.1.1.1 h.1.1.2 hh.1 hh.2.1 hn z) (fun z => ?_) (fun z g => ?_)
      · cases bb with
        | true => exact mX6_settle_an1 E a kp ty pl gd od s u Qm n h.1.2.1 hh.2.1 hn z
        | false => exact mX6_settle_an0 E a kp ty pl gd od s u Qm n h.1.2.1 hh.2.1 hn z
      · cases bb with
        | true => exact mX6_settle_a1 E a kp ty pl gd od s u Qm n h.1.2.1 hh.2.1 hn z (fun k hk => ⟨(g k hk).1, fun q1 q2 => ((g k hk).2 q1 q2).1⟩)
        | false => exact mX6_settle_a0 E a kp ty pl gd od s u Qm n h.1.2.1 hh.2.1 hn z (fun k hk => ⟨(g k hk).1, fun q1 q2 => ((g k hk).2 q1 q2).2⟩)
set_option maxRecDepth 100000 in
theorem pr_undo (h : RR S s B) (hh : HH o kp Q Qm B) : prA E x0 h0 h1 w0 t r a ty pl gd od S o kp B Q s u Qm yX5_undo wsX5_undo 5 yX6_undo wsX6_undo 0 [] := by
  obtain ⟨ho, hk, hr⟩ := id hh
  cases kp with
  | zero => exact ⟨_, _, _, _, _, _, _, _, mX5_undo_0 E x0 h0 h1 w0 t r S o 0 Q h.1.1.1 h.1.1.2 ho hk rfl, mX6_undo_0 E a 0 ty pl gd od s u Qm h.1.2.1 hk rfl, RR_mono h (by omega), HH_mono hh (by omega)⟩
  | succ v =>
    exact ⟨_, _, _, _, _, _, _, _, mX5_undo E x0 h0 h1 w0 t r S o v Q ho (by omega), mX6_undo E a v ty pl gd od s u Qm (by omega), RR_mono (hr v (Nat.lt_succ_self v)) (by omega), ⟨ho, by omega, HR_mono (fun i hi => hr i (by omega)) (by omega)⟩⟩
end ACTS

