/-! tracking on and off, settling all: their worlds -/
theorem law_trs (E : zE) (x0 h0 h1 w0 : Nat) (t : Nat → Nat) (r : Nat → Nat → Nat) (S : zSt) (o kp : Nat) (Q : Nat → zSt) (bb : Bool) {B : Nat} (h : GG S B) (ho : o < 5) (hk : kp ≤ 4) (e : tK S = bb) : zM E yX5_track wsX5_track 6 [.ref x0, .int (zb bb)] (WAd E x0 h0 h1 w0 t r S o kp Q) (WAd E x0 h0 h1 w0 t r S o kp Q) (some (.int (-4))) := mX5_track_s E x0 h0 h1 w0 t r S o kp Q bb (gg_S h).1 (gg_S h).2 ho hk (by rw [e])
theorem zb_ne {a b : Bool} (h : ¬ a = b) : ¬ zb a = zb b := by cases a <;> cases b <;> first | exact absurd rfl h | decide
theorem law_tr (E : zE) (x0 h0 h1 w0 : Nat) (t : Nat → Nat) (r : Nat → Nat → Nat) (S : zSt) (o kp : Nat) (Q : Nat → zSt) (bb : Bool) {B : Nat} (h : GG S B) (ho : o < 5) (hk : kp ≤ 4) (e : ¬ tK S = bb) : ∃ (S' : zSt) (o' kp' : Nat) (Q' : Nat → zSt), GG S' B ∧ o' < 5 ∧ kp' ≤ 4 ∧ tK S' = bb ∧ zM E yX5_track wsX5_track 6 [.ref x0, .int (zb bb)] (WAd E x0 h0 h1 w0 t r S o kp Q) (WAd E x0 h0 h1 w0 t r S' o' kp' Q') (some (.int (nI (cnS S 0)))) := ⟨zTk S bb, zHo (nI (cnS S 0)) o kp, zHk (nI (cnS S 0)) kp, zRp Q ((o + kp) % 5) S, GG_Tk h bb, zHo_lt ho, zHk_le hk, rfl, mX5_track E x0 h0 h1 w0 t r S o kp Q bb (gg_S h).1 (gg_S h).2 ho hk (zb_ne e)⟩
theorem law_s1 (E : zE) (x0 h0 h1 w0 : Nat) (t : Nat → Nat) (r : Nat → Nat → Nat) (S : zSt) (o kp : Nat) (Q : Nat → zSt) (bb : Bool) {B : Nat} (h : GG S B) (ho : o < 5) (hk : kp ≤ 4) (hz : 0 < cnS S 0) : ∃ (S' : zSt) (o' kp' : Nat) (Q' : Nat → zSt) (T : Nat), GG S' B ∧ o' < 5 ∧ kp' ≤ 4 ∧ T ≤ 60 ∧ mK S' = mK S ∧ cnS S' 0 = 0 ∧ cnS S' (tB bb) = cnS S (tB bb) + T ∧ cnS S 0 ≤ T + cnS S' 3 ∧ zM E yX5_settle wsX5_settle 8 [.ref x0, .int (-1), .int (zb bb)] (WAd E x0 h0 h1 w0 t r S o kp Q) (WAd E x0 h0 h1 w0 t r S' o' kp' Q') (some (.int (nI T))) := by
  obtain ⟨f1, f2, f3, f4⟩ := SL_all h (b := bb) (Or.inl rfl)
  have hT : (zSL S (-1) bb (mK S)).2 ≤ 60 := by
    have := gg_M h
    have a1 : cnS (zSL S (-1) bb (mK S)).1 (tB bb) ≤ mK (zSL S (-1) bb (mK S)).1 := zc_le _ _
    omega
  exact ⟨(zSL S (-1) bb (mK S)).1, _, _, _, (zSL S (-1) bb (mK S)).2, GG_SL h (Or.inl rfl) _ (Nat.le_refl _), zHo_lt ho, zHk_le hk, hT, f1, f2, f3, f4, mX5_settle_1 E x0 h0 h1 w0 t r S o kp Q bb (gg_S h).1 (gg_S h).2 ho hk hz⟩
theorem law_s2 (E : zE) (x0 h0 h1 w0 : Nat) (t : Nat → Nat) (r : Nat → Nat → Nat) (S : zSt) (o kp : Nat) (Q : Nat → zSt) (bb : Bool) (k : Nat) {B : Nat} (h : GG S B) (ho : o < 5) (hk : kp ≤ 4) (hk4 : k < 4) (hz : 0 < cnA S k 0) : ∃ (S' : zSt) (o' kp' : Nat) (Q' : Nat → zSt) (T : Nat), GG S' B ∧ o' < 5 ∧ kp' ≤ 4 ∧ T ≤ 60 ∧ mK S' = mK S ∧ cnA S' k 0 = 0 ∧ cnS S' (tB bb) = cnS S (tB bb) + T ∧ cnA S k 0 ≤ T + cnS S' 3 ∧ zM E yX5_settle wsX5_settle 8 [.ref x0, .int (nI k), .int (zb bb)] (WAd E x0 h0 h1 w0 t r S o kp Q) (WAd E x0 h0 h1 w0 t r S' o' kp' Q') (some (.int (nI T))) := by
  have ha : nI k = -1 ∨ ∃ a, a < 4 ∧ nI k = nI a := Or.inr ⟨k, hk4, rfl⟩
  obtain ⟨f1, f2, f3, f4⟩ := SL_all h (b := bb) ha
  have hT : (zSL S (nI k) bb (mK S)).2 ≤ 60 := by
    have := gg_M h
    have a1 : cnS (zSL S (nI k) bb (mK S)).1 (tB bb) ≤ mK (zSL S (nI k) bb (mK S)).1 := zc_le _ _
    omega
  exact ⟨(zSL S (nI k) bb (mK S)).1, _, _, _, (zSL S (nI k) bb (mK S)).2, GG_SL h ha _ (Nat.le_refl _), zHo_lt ho, zHk_le hk, hT, f1, f2, f3, f4, mX5_settle_2 E x0 h0 h1 w0 t r S o kp Q k bb (gg_S h).1 (gg_S h).2 ho hk hk4 hz⟩
theorem law_n1 (E : zE) (x0 h0 h1 w0 : Nat) (t : Nat → Nat) (r : Nat → Nat → Nat) (S : zSt) (o kp : Nat) (Q : Nat → zSt) (bb : Bool) {B : Nat} (h : GG S B) (ho : o < 5) (hk : kp ≤ 4) (hz : cnS S 0 = 0) : zM E yX5_settle wsX5_settle 8 [.ref x0, .int (-1), .int (zb bb)] (WAd E x0 h0 h1 w0 t r S o kp Q) (WAd E x0 h0 h1 w0 t r S o kp Q) (some (.int (-4))) := mX5_settle_n1 E x0 h0 h1 w0 t r S o kp Q bb (gg_S h).1 (gg_S h).2 ho hk hz
theorem law_n2 (E : zE) (x0 h0 h1 w0 : Nat) (t : Nat → Nat) (r : Nat → Nat → Nat) (S : zSt) (o kp : Nat) (Q : Nat → zSt) (bb : Bool) (k : Nat) {B : Nat} (h : GG S B) (ho : o < 5) (hk : kp ≤ 4) (hk4 : k < 4) (hz : cnA S k 0 = 0) : zM E yX5_settle wsX5_settle 8 [.ref x0, .int (nI k), .int (zb bb)] (WAd E x0 h0 h1 w0 t r S o kp Q) (WAd E x0 h0 h1 w0 t r S o kp Q) (some (.int (-4))) := mX5_settle_n2 E x0 h0 h1 w0 t r S o kp Q k bb (gg_S h).1 (gg_S h).2 ho hk hk4 hz
theorem law_lt {T l c : Nat} (h : l ≤ T + c) (hT : T ≤ 60) (hl : l ≤ 60) (hc : c ≤ 60) : ¬ nI T < nI l - nI c := by
  rw [Int32.lt_iff_toInt_lt]
  have e : (nI l - nI c).toInt = (l : Int) - c := by
    rw [Int32.toInt_sub, nI_toInt (by omega), nI_toInt (by omega)]
    exact Int.bmod_eq_of_le (by omega) (by omega)
  rw [e, nI_toInt (by omega)]
  omega

set_option maxHeartbeats 4000000 in
set_option maxRecDepth 100000 in
theorem lw_c12_1 {X : zX} (M : zRq X) (x0 h0 h1 w0 w1 : Nat) (t : Nat → Nat) (r : Nat → Nat → Nat) (e : Nat) (he : e < 40) {b : Nat} (C : zC X (53 + 3 * e) (3001 + 23 * e) code RL wsL_law 10) (IH : LI X b x0 h0 h1 w0 w1 t r (e + 1)) (g h : Int32) (au ax : Nat) (S : zSt) (o kp : Nat) (Q : Nat → zSt) (tx : Nat → Nat) (ln : Nat) (ps : zPs) (hG : GG S (2 * e)) (ho : o < 5) (hk : kp ≤ 4) (hln : ln ≤ 60) (htx : ∀ j, tx j < 65536) (hau : au < 3) (ht : tK S = true) : zG X (53 + 3 * e) (3001 + 23 * e) (WRd X.2.1 x0 h0 h1 w0 w1 t r S o kp Q tx ln ps) [some (.ref b), some (.ref x0), some (.int (nI e)), some (.int g), some (.int h), some (.int (nI 12)), some (.int (nI au)), some (.int (nI ax)), none, none, none, none, none, none] [] 80 := by
  have hb0 : uU S 0 ≤ 12 := gg_u hG 0
  have hb1 : uU S 1 ≤ 8 := gg_u1 hG
  have hb2 : mK S ≤ 60 := gg_M hG
  refine z_iload C dL_law_80 rfl ?_
  refine z_iconst C (nI 2) dL_law_82 (by decide) ?_
  refine z_ncmp_ge_t C 120 dL_law_83 (by decide) (by omega) (by omega) (by omega) ?_
  refine z_iconst C (nI 1) dL_law_120 (by decide) ?_
  refine z_istore C dL_law_121 (Nat.le_of_ble_eq_true rfl) ?_
  refine z_lv (lv' := [some (.ref b), some (.ref x0), some (.int (nI e)), some (.int g), some (.int h), some (.int (nI 12)), some (.int (nI au)), some (.int (nI ax)), some (.int (nI 1)), none, none, none, none, none]) rfl ?_
  refine z_iload C dL_law_123 rfl ?_
  refine z_iconst C (nI 2) dL_law_125 (by decide) ?_
  refine z_ncmp_eq_f C 135 dL_law_126 (by decide) (by omega) (by omega) (by omega) ?_
  refine z_iload C dL_law_129 rfl ?_
  refine z_iconst C (nI 3) dL_law_131 (by decide) ?_
  refine z_ncmp_ne_t C 152 dL_law_132 (by decide) (by omega) (by omega) (by omega) ?_
  refine z_iload C dL_law_152 rfl ?_
  refine z_iconst C (nI 3) dL_law_154 (by decide) ?_
  refine z_ncmp_le_f C 181 dL_law_155 (by decide) (by omega) (by omega) (by omega) ?_
  refine z_iload C dL_law_158 rfl ?_
  refine z_bipush C (nI 9) dL_law_160 (by decide) ?_
  refine z_ncmp_ge_t C 181 dL_law_162 (by decide) (by omega) (by omega) (by omega) ?_
  refine z_iload C dL_law_181 rfl ?_
  refine z_bipush C (nI 8) dL_law_183 (by decide) ?_
  refine z_ncmp_le_f C 220 dL_law_185 (by decide) (by omega) (by omega) (by omega) ?_
  refine z_iload C dL_law_188 rfl ?_
  refine z_bipush C (nI 12) dL_law_190 (by decide) ?_
  refine z_ncmp_ge_t C 220 dL_law_192 (by decide) (by omega) (by omega) (by omega) ?_
  refine z_iload C dL_law_220 rfl ?_
  refine z_bipush C (nI 12) dL_law_222 (by decide) ?_
  refine z_ncmp_ne_f C 313 dL_law_224 (by decide) (by omega) (by omega) (by omega) ?_
  refine z_iload C dL_law_227 rfl ?_
  refine z_iconst C (nI 5) dL_law_229 (by decide) ?_
  refine z_ishr C dL_law_230 ?_
  refine z_iconst C (nI 3) dL_law_231 (by decide) ?_
  refine z_iand C dL_law_232 ?_
  refine z_if_le C 240 dL_law_233 (by decide) (fun h_1 => ?_) (fun h_1 => ?_)
  · refine z_iconst C (nI 0) dL_law_240 (by decide) ?_
    refine z_istore C dL_law_241 (Nat.le_of_ble_eq_true rfl) ?_
    refine z_lv (lv' := [some (.ref b), some (.ref x0), some (.int (nI e)), some (.int g), some (.int h), some (.int (nI 12)), some (.int (nI au)), some (.int (nI ax)), some (.int (nI 1)), some (.int (nI 0)), none, none, none, none]) rfl ?_
    refine z_aload_n C 1 dL_law_243 rfl rfl ?_
    refine z_iconst C (nI 5) dL_law_244 (by decide) ?_
    refine z_callVr C kX5_count gL_law_X5_count (l_cnt5y X.2.1 x0 h0 h1 w0 w1 t S o kp ln ps  hG ht) dL_law_245 [0, 1, 2, 3, 4, 5, 6, 7, 8, 9, 51] [] 0 rfl nd_0_1_2_3_4_5_6_7_8_9_51 rfl rfl rfl (by decide) (by decide) (Nat.le_of_ble_eq_true rfl) rfl ?_
    refine z_iconst C (nI 1) dL_law_248 (by decide) ?_
    refine z_ncmp_ne_f C 256 dL_law_249 (by decide) (by omega) (by omega) (by omega) ?_
    refine z_iconst C (nI 1) dL_law_252 (by decide) ?_
    refine z_goto C 257 dL_law_253 (by decide) ?_
    refine z_iload C dL_law_257 rfl ?_
    refine z_ncmp_ne_t C 267 dL_law_259 (by decide) (by omega) (by omega) (by omega) ?_
    refine z_aload_n C 1 dL_law_267 rfl rfl ?_
    refine z_iconst C (nI 1) dL_law_268 (by decide) ?_
    refine z_callVr C kX5_count gL_law_X5_count (l_cntK X.2.1 x0 h0 h1 w0 w1 t S o kp ln ps 0 hG (by decide)) dL_law_269 [0, 1, 2, 3, 4, 5, 6, 7, 8, 9, 51] [] 0 rfl nd_0_1_2_3_4_5_6_7_8_9_51 rfl rfl rfl (by decide) (by decide) (Nat.le_of_ble_eq_true rfl) rfl ?_
    have hg_2 : cnS S 0 ≤ mK S := zc_le _ _
    refine z_istore C dL_law_272 (Nat.le_of_ble_eq_true rfl) ?_
    refine z_lv (lv' := [some (.ref b), some (.ref x0), some (.int (nI e)), some (.int g), some (.int h), some (.int (nI 12)), some (.int (nI au)), some (.int (nI ax)), some (.int (nI 1)), some (.int (nI 0)), some (.int (nI (cnS S 0))), none, none, none]) rfl ?_
    refine z_aload_n C 1 dL_law_274 rfl rfl ?_
    refine z_iload C dL_law_275 rfl ?_
    obtain ⟨S', o', kp', Q', hG', ho', hk', ht', hM⟩ := law_tr X.2.1 x0 h0 h1 w0 t r S o kp Q false hG ho hk (by rw [ht]; decide)
    refine z_callV (wn := (WRd X.2.1 x0 h0 h1 w0 w1 t r S' o' kp' Q' tx ln ps)) C kX5_track gL_law_X5_track hM dL_law_277 [0, 1, 2, 3, 4, 5, 6, 7, 8, 9, 10, 11, 12, 13, 14, 15, 16, 17, 18, 19, 20, 21, 22, 23, 24, 25, 26, 27, 28, 29, 30, 31, 32, 33, 34, 35, 36, 37, 38, 39, 40, 41, 42, 43, 44, 45, 46, 47, 48, 49, 50] [] 0 rfl rfl nd_0_1_2_3_4_5_6_7_8_9_10_11_12_13_14_15_16_17_18_19_20_21_22_23_24_25_26_27_28_29_30_31_32_33_34_35_36_37_38_39_40_41_42_43_44_45_46_47_48_49_50 rfl rfl rfl (by decide) (by decide) (Nat.le_of_ble_eq_true rfl) rfl ((zput_par nd_0_1_2_3_4_5_6_7_8_9_10_11_12_13_14_15_16_17_18_19_20_21_22_23_24_25_26_27_28_29_30_31_32_33_34_35_36_37_38_39_40_41_42_43_44_45_46_47_48_49_50 rfl).trans rfl) ?_
    refine z_iload C dL_law_280 rfl ?_
    refine z_ncmp_ne_f C 307 dL_law_282 (by decide) (by omega) (by omega) (by omega) ?_
    refine z_aload_n C 1 dL_law_285 rfl rfl ?_
    refine z_iconst C (nI 5) dL_law_286 (by decide) ?_
    refine z_callVr C kX5_count gL_law_X5_count (l_cnt5n X.2.1 x0 h0 h1 w0 w1 t S' o' kp' ln ps  hG' ht') dL_law_287 [0, 1, 2, 3, 4, 5, 6, 7, 8, 9, 51] [] 0 rfl nd_0_1_2_3_4_5_6_7_8_9_51 rfl rfl rfl (by decide) (by decide) (Nat.le_of_ble_eq_true rfl) rfl ?_
    refine z_iload C dL_law_290 rfl ?_
    refine z_nif_eq_t C 299 dL_law_292 (by decide) (by omega) (by omega) ?_
    refine z_iconst C (nI 0) dL_law_299 (by decide) ?_
    refine z_ncmp_ne_f C 307 dL_law_300 (by decide) (by omega) (by omega) (by omega) ?_
    refine z_iconst C (nI 1) dL_law_303 (by decide) ?_
    refine z_goto C 308 dL_law_304 (by decide) ?_
    refine z_istore C dL_law_308 (Nat.le_of_ble_eq_true rfl) ?_
    refine z_lv (lv' := [some (.ref b), some (.ref x0), some (.int (nI e)), some (.int g), some (.int h), some (.int (nI 12)), some (.int (nI au)), some (.int (nI ax)), some (.int (nI 1)), some (.int (nI 0)), some (.int (nI (cnS S 0))), none, none, none]) rfl ?_
    refine z_goto C 506 dL_law_310 (by decide) ?_
    exact law_tail M C he IH _ _ _ _ _ _ _ _ _ _ _ _ _ _ _ _ _ (GG_mono hG' (by omega)) ho' hk' hln htx
  · refine z_iconst C (nI 1) dL_law_236 (by decide) ?_
    refine z_goto C 241 dL_law_237 (by decide) ?_
    refine z_istore C dL_law_241 (Nat.le_of_ble_eq_true rfl) ?_
    refine z_lv (lv' := [some (.ref b), some (.ref x0), some (.int (nI e)), some (.int g), some (.int h), some (.int (nI 12)), some (.int (nI au)), some (.int (nI ax)), some (.int (nI 1)), some (.int (nI 1)), none, none, none, none]) rfl ?_
    refine z_aload_n C 1 dL_law_243 rfl rfl ?_
    refine z_iconst C (nI 5) dL_law_244 (by decide) ?_
    refine z_callVr C kX5_count gL_law_X5_count (l_cnt5y X.2.1 x0 h0 h1 w0 w1 t S o kp ln ps  hG ht) dL_law_245 [0, 1, 2, 3, 4, 5, 6, 7, 8, 9, 51] [] 0 rfl nd_0_1_2_3_4_5_6_7_8_9_51 rfl rfl rfl (by decide) (by decide) (Nat.le_of_ble_eq_true rfl) rfl ?_
    refine z_iconst C (nI 1) dL_law_248 (by decide) ?_
    refine z_ncmp_ne_f C 256 dL_law_249 (by decide) (by omega) (by omega) (by omega) ?_
    refine z_iconst C (nI 1) dL_law_252 (by decide) ?_
    refine z_goto C 257 dL_law_253 (by decide) ?_
    refine z_iload C dL_law_257 rfl ?_
    refine z_ncmp_ne_f C 267 dL_law_259 (by decide) (by omega) (by omega) (by omega) ?_
    refine z_bipush C (-4) dL_law_262 (by decide) ?_
    refine z_goto C 272 dL_law_264 (by decide) ?_
    refine z_istore C dL_law_272 (Nat.le_of_ble_eq_true rfl) ?_
    refine z_lv (lv' := [some (.ref b), some (.ref x0), some (.int (nI e)), some (.int g), some (.int h), some (.int (nI 12)), some (.int (nI au)), some (.int (nI ax)), some (.int (nI 1)), some (.int (nI 1)), some (.int (-4)), none, none, none]) rfl ?_
    refine z_aload_n C 1 dL_law_274 rfl rfl ?_
    refine z_iload C dL_law_275 rfl ?_
    refine z_callV (wn := (WRd X.2.1 x0 h0 h1 w0 w1 t r S o kp Q tx ln ps)) C kX5_track gL_law_X5_track (law_trs X.2.1 x0 h0 h1 w0 t r S o kp Q true hG ho hk ht) dL_law_277 [0, 1, 2, 3, 4, 5, 6, 7, 8, 9, 10, 11, 12, 13, 14, 15, 16, 17, 18, 19, 20, 21, 22, 23, 24, 25, 26, 27, 28, 29, 30, 31, 32, 33, 34, 35, 36, 37, 38, 39, 40, 41, 42, 43, 44, 45, 46, 47, 48, 49, 50] [] 0 rfl rfl nd_0_1_2_3_4_5_6_7_8_9_10_11_12_13_14_15_16_17_18_19_20_21_22_23_24_25_26_27_28_29_30_31_32_33_34_35_36_37_38_39_40_41_42_43_44_45_46_47_48_49_50 rfl rfl rfl (by decide) (by decide) (Nat.le_of_ble_eq_true rfl) rfl ((zput_par nd_0_1_2_3_4_5_6_7_8_9_10_11_12_13_14_15_16_17_18_19_20_21_22_23_24_25_26_27_28_29_30_31_32_33_34_35_36_37_38_39_40_41_42_43_44_45_46_47_48_49_50 rfl).trans rfl) ?_
    refine z_iload C dL_law_280 rfl ?_
    refine z_icmp_ne_f C 307 dL_law_282 (by decide) rfl ?_
    refine z_aload_n C 1 dL_law_285 rfl rfl ?_
    refine z_iconst C (nI 5) dL_law_286 (by decide) ?_
    refine z_callVr C kX5_count gL_law_X5_count (l_cnt5y X.2.1 x0 h0 h1 w0 w1 t S o kp ln ps  hG ht) dL_law_287 [0, 1, 2, 3, 4, 5, 6, 7, 8, 9, 51] [] 0 rfl nd_0_1_2_3_4_5_6_7_8_9_51 rfl rfl rfl (by decide) (by decide) (Nat.le_of_ble_eq_true rfl) rfl ?_
    refine z_iload C dL_law_290 rfl ?_
    refine z_nif_eq_f C 299 dL_law_292 (by decide) (by omega) (by omega) ?_
    refine z_iconst C (nI 1) dL_law_295 (by decide) ?_
    refine z_goto C 300 dL_law_296 (by decide) ?_
    refine z_ncmp_ne_f C 307 dL_law_300 (by decide) (by omega) (by omega) (by omega) ?_
    refine z_iconst C (nI 1) dL_law_303 (by decide) ?_
    refine z_goto C 308 dL_law_304 (by decide) ?_
    refine z_istore C dL_law_308 (Nat.le_of_ble_eq_true rfl) ?_
    refine z_lv (lv' := [some (.ref b), some (.ref x0), some (.int (nI e)), some (.int g), some (.int h), some (.int (nI 12)), some (.int (nI au)), some (.int (nI ax)), some (.int (nI 1)), some (.int (nI 1)), some (.int (-4)), none, none, none]) rfl ?_
    refine z_goto C 506 dL_law_310 (by decide) ?_
    exact law_tail M C he IH _ _ _ _ _ _ _ _ _ _ _ _ _ _ _ _ _ (GG_mono hG (by omega)) ho hk hln htx

set_option maxHeartbeats 4000000 in
set_option maxRecDepth 100000 in
theorem lw_c12_0 {X : zX} (M : zRq X) (x0 h0 h1 w0 w1 : Nat) (t : Nat → Nat) (r : Nat → Nat → Nat) (e : Nat) (he : e < 40) {b : Nat} (C : zC X (53 + 3 * e) (3001 + 23 * e) code RL wsL_law 10) (IH : LI X b x0 h0 h1 w0 w1 t r (e + 1)) (g h : Int32) (au ax : Nat) (S : zSt) (o kp : Nat) (Q : Nat → zSt) (tx : Nat → Nat) (ln : Nat) (ps : zPs) (hG : GG S (2 * e)) (ho : o < 5) (hk : kp ≤ 4) (hln : ln ≤ 60) (htx : ∀ j, tx j < 65536) (hau : au < 3) (ht : tK S = false) : zG X (53 + 3 * e) (3001 + 23 * e) (WRd X.2.1 x0 h0 h1 w0 w1 t r S o kp Q tx ln ps) [some (.ref b), some (.ref x0), some (.int (nI e)), some (.int g), some (.int h), some (.int (nI 12)), some (.int (nI au)), some (.int (nI ax)), none, none, none, none, none, none] [] 80 := by
  have hb0 : uU S 0 ≤ 12 := gg_u hG 0
  have hb1 : uU S 1 ≤ 8 := gg_u1 hG
  have hb2 : mK S ≤ 60 := gg_M hG
  refine z_iload C dL_law_80 rfl ?_
  refine z_iconst C (nI 2) dL_law_82 (by decide) ?_
  refine z_ncmp_ge_t C 120 dL_law_83 (by decide) (by omega) (by omega) (by omega) ?_
  refine z_iconst C (nI 1) dL_law_120 (by decide) ?_
  refine z_istore C dL_law_121 (Nat.le_of_ble_eq_true rfl) ?_
  refine z_lv (lv' := [some (.ref b), some (.ref x0), some (.int (nI e)), some (.int g), some (.int h), some (.int (nI 12)), some (.int (nI au)), some (.int (nI ax)), some (.int (nI 1)), none, none, none, none, none]) rfl ?_
  refine z_iload C dL_law_123 rfl ?_
  refine z_iconst C (nI 2) dL_law_125 (by decide) ?_
  refine z_ncmp_eq_f C 135 dL_law_126 (by decide) (by omega) (by omega) (by omega) ?_
  refine z_iload C dL_law_129 rfl ?_
  refine z_iconst C (nI 3) dL_law_131 (by decide) ?_
  refine z_ncmp_ne_t C 152 dL_law_132 (by decide) (by omega) (by omega) (by omega) ?_
  refine z_iload C dL_law_152 rfl ?_
  refine z_iconst C (nI 3) dL_law_154 (by decide) ?_
  refine z_ncmp_le_f C 181 dL_law_155 (by decide) (by omega) (by omega) (by omega) ?_
  refine z_iload C dL_law_158 rfl ?_
  refine z_bipush C (nI 9) dL_law_160 (by decide) ?_
  refine z_ncmp_ge_t C 181 dL_law_162 (by decide) (by omega) (by omega) (by omega) ?_
  refine z_iload C dL_law_181 rfl ?_
  refine z_bipush C (nI 8) dL_law_183 (by decide) ?_
  refine z_ncmp_le_f C 220 dL_law_185 (by decide) (by omega) (by omega) (by omega) ?_
  refine z_iload C dL_law_188 rfl ?_
  refine z_bipush C (nI 12) dL_law_190 (by decide) ?_
  refine z_ncmp_ge_t C 220 dL_law_192 (by decide) (by omega) (by omega) (by omega) ?_
  refine z_iload C dL_law_220 rfl ?_
  refine z_bipush C (nI 12) dL_law_222 (by decide) ?_
  refine z_ncmp_ne_f C 313 dL_law_224 (by decide) (by omega) (by omega) (by omega) ?_
  refine z_iload C dL_law_227 rfl ?_
  refine z_iconst C (nI 5) dL_law_229 (by decide) ?_
  refine z_ishr C dL_law_230 ?_
  refine z_iconst C (nI 3) dL_law_231 (by decide) ?_
  refine z_iand C dL_law_232 ?_
  refine z_if_le C 240 dL_law_233 (by decide) (fun h_1 => ?_) (fun h_1 => ?_)
  · refine z_iconst C (nI 0) dL_law_240 (by decide) ?_
    refine z_istore C dL_law_241 (Nat.le_of_ble_eq_true rfl) ?_
    refine z_lv (lv' := [some (.ref b), some (.ref x0), some (.int (nI e)), some (.int g), some (.int h), some (.int (nI 12)), some (.int (nI au)), some (.int (nI ax)), some (.int (nI 1)), some (.int (nI 0)), none, none, none, none]) rfl ?_
    refine z_aload_n C 1 dL_law_243 rfl rfl ?_
    refine z_iconst C (nI 5) dL_law_244 (by decide) ?_
    refine z_callVr C kX5_count gL_law_X5_count (l_cnt5n X.2.1 x0 h0 h1 w0 w1 t S o kp ln ps  hG ht) dL_law_245 [0, 1, 2, 3, 4, 5, 6, 7, 8, 9, 51] [] 0 rfl nd_0_1_2_3_4_5_6_7_8_9_51 rfl rfl rfl (by decide) (by decide) (Nat.le_of_ble_eq_true rfl) rfl ?_
    refine z_iconst C (nI 1) dL_law_248 (by decide) ?_
    refine z_ncmp_ne_t C 256 dL_law_249 (by decide) (by omega) (by omega) (by omega) ?_
    refine z_iconst C (nI 0) dL_law_256 (by decide) ?_
    refine z_iload C dL_law_257 rfl ?_
    refine z_ncmp_ne_f C 267 dL_law_259 (by decide) (by omega) (by omega) (by omega) ?_
    refine z_bipush C (-4) dL_law_262 (by decide) ?_
    refine z_goto C 272 dL_law_264 (by decide) ?_
    refine z_istore C dL_law_272 (Nat.le_of_ble_eq_true rfl) ?_
    refine z_lv (lv' := [some (.ref b), some (.ref x0), some (.int (nI e)), some (.int g), some (.int h), some (.int (nI 12)), some (.int (nI au)), some (.int (nI ax)), some (.int (nI 1)), some (.int (nI 0)), some (.int (-4)), none, none, none]) rfl ?_
    refine z_aload_n C 1 dL_law_274 rfl rfl ?_
    refine z_iload C dL_law_275 rfl ?_
    refine z_callV (wn := (WRd X.2.1 x0 h0 h1 w0 w1 t r S o kp Q tx ln ps)) C kX5_track gL_law_X5_track (law_trs X.2.1 x0 h0 h1 w0 t r S o kp Q false hG ho hk ht) dL_law_277 [0, 1, 2, 3, 4, 5, 6, 7, 8, 9, 10, 11, 12, 13, 14, 15, 16, 17, 18, 19, 20, 21, 22, 23, 24, 25, 26, 27, 28, 29, 30, 31, 32, 33, 34, 35, 36, 37, 38, 39, 40, 41, 42, 43, 44, 45, 46, 47, 48, 49, 50] [] 0 rfl rfl nd_0_1_2_3_4_5_6_7_8_9_10_11_12_13_14_15_16_17_18_19_20_21_22_23_24_25_26_27_28_29_30_31_32_33_34_35_36_37_38_39_40_41_42_43_44_45_46_47_48_49_50 rfl rfl rfl (by decide) (by decide) (Nat.le_of_ble_eq_true rfl) rfl ((zput_par nd_0_1_2_3_4_5_6_7_8_9_10_11_12_13_14_15_16_17_18_19_20_21_22_23_24_25_26_27_28_29_30_31_32_33_34_35_36_37_38_39_40_41_42_43_44_45_46_47_48_49_50 rfl).trans rfl) ?_
    refine z_iload C dL_law_280 rfl ?_
    refine z_icmp_ne_f C 307 dL_law_282 (by decide) rfl ?_
    refine z_aload_n C 1 dL_law_285 rfl rfl ?_
    refine z_iconst C (nI 5) dL_law_286 (by decide) ?_
    refine z_callVr C kX5_count gL_law_X5_count (l_cnt5n X.2.1 x0 h0 h1 w0 w1 t S o kp ln ps  hG ht) dL_law_287 [0, 1, 2, 3, 4, 5, 6, 7, 8, 9, 51] [] 0 rfl nd_0_1_2_3_4_5_6_7_8_9_51 rfl rfl rfl (by decide) (by decide) (Nat.le_of_ble_eq_true rfl) rfl ?_
    refine z_iload C dL_law_290 rfl ?_
    refine z_nif_eq_t C 299 dL_law_292 (by decide) (by omega) (by omega) ?_
    refine z_iconst C (nI 0) dL_law_299 (by decide) ?_
    refine z_ncmp_ne_f C 307 dL_law_300 (by decide) (by omega) (by omega) (by omega) ?_
    refine z_iconst C (nI 1) dL_law_303 (by decide) ?_
    refine z_goto C 308 dL_law_304 (by decide) ?_
    refine z_istore C dL_law_308 (Nat.le_of_ble_eq_true rfl) ?_
    refine z_lv (lv' := [some (.ref b), some (.ref x0), some (.int (nI e)), some (.int g), some (.int h), some (.int (nI 12)), some (.int (nI au)), some (.int (nI ax)), some (.int (nI 1)), some (.int (nI 0)), some (.int (-4)), none, none, none]) rfl ?_
    refine z_goto C 506 dL_law_310 (by decide) ?_
    exact law_tail M C he IH _ _ _ _ _ _ _ _ _ _ _ _ _ _ _ _ _ (GG_mono hG (by omega)) ho hk hln htx
  · refine z_iconst C (nI 1) dL_law_236 (by decide) ?_
    refine z_goto C 241 dL_law_237 (by decide) ?_
    refine z_istore C dL_law_241 (Nat.le_of_ble_eq_true rfl) ?_
    refine z_lv (lv' := [some (.ref b), some (.ref x0), some (.int (nI e)), some (.int g), some (.int h), some (.int (nI 12)), some (.int (nI au)), some (.int (nI ax)), some (.int (nI 1)), some (.int (nI 1)), none, none, none, none]) rfl ?_
    refine z_aload_n C 1 dL_law_243 rfl rfl ?_
    refine z_iconst C (nI 5) dL_law_244 (by decide) ?_
    refine z_callVr C kX5_count gL_law_X5_count (l_cnt5n X.2.1 x0 h0 h1 w0 w1 t S o kp ln ps  hG ht) dL_law_245 [0, 1, 2, 3, 4, 5, 6, 7, 8, 9, 51] [] 0 rfl nd_0_1_2_3_4_5_6_7_8_9_51 rfl rfl rfl (by decide) (by decide) (Nat.le_of_ble_eq_true rfl) rfl ?_
    refine z_iconst C (nI 1) dL_law_248 (by decide) ?_
    refine z_ncmp_ne_t C 256 dL_law_249 (by decide) (by omega) (by omega) (by omega) ?_
    refine z_iconst C (nI 0) dL_law_256 (by decide) ?_
    refine z_iload C dL_law_257 rfl ?_
    refine z_ncmp_ne_t C 267 dL_law_259 (by decide) (by omega) (by omega) (by omega) ?_
    refine z_aload_n C 1 dL_law_267 rfl rfl ?_
    refine z_iconst C (nI 1) dL_law_268 (by decide) ?_
    refine z_callVr C kX5_count gL_law_X5_count (l_cntK X.2.1 x0 h0 h1 w0 w1 t S o kp ln ps 0 hG (by decide)) dL_law_269 [0, 1, 2, 3, 4, 5, 6, 7, 8, 9, 51] [] 0 rfl nd_0_1_2_3_4_5_6_7_8_9_51 rfl rfl rfl (by decide) (by decide) (Nat.le_of_ble_eq_true rfl) rfl ?_
    have hg_2 : cnS S 0 ≤ mK S := zc_le _ _
    refine z_istore C dL_law_272 (Nat.le_of_ble_eq_true rfl) ?_
    refine z_lv (lv' := [some (.ref b), some (.ref x0), some (.int (nI e)), some (.int g), some (.int h), some (.int (nI 12)), some (.int (nI au)), some (.int (nI ax)), some (.int (nI 1)), some (.int (nI 1)), some (.int (nI (cnS S 0))), none, none, none]) rfl ?_
    refine z_aload_n C 1 dL_law_274 rfl rfl ?_
    refine z_iload C dL_law_275 rfl ?_
    obtain ⟨S', o', kp', Q', hG', ho', hk', ht', hM⟩ := law_tr X.2.1 x0 h0 h1 w0 t r S o kp Q true hG ho hk (by rw [ht]; decide)
    refine z_callV (wn := (WRd X.2.1 x0 h0 h1 w0 w1 t r S' o' kp' Q' tx ln ps)) C kX5_track gL_law_X5_track hM dL_law_277 [0, 1, 2, 3, 4, 5, 6, 7, 8, 9, 10, 11, 12, 13, 14, 15, 16, 17, 18, 19, 20, 21, 22, 23, 24, 25, 26, 27, 28, 29, 30, 31, 32, 33, 34, 35, 36, 37, 38, 39, 40, 41, 42, 43, 44, 45, 46, 47, 48, 49, 50] [] 0 rfl rfl nd_0_1_2_3_4_5_6_7_8_9_10_11_12_13_14_15_16_17_18_19_20_21_22_23_24_25_26_27_28_29_30_31_32_33_34_35_36_37_38_39_40_41_42_43_44_45_46_47_48_49_50 rfl rfl rfl (by decide) (by decide) (Nat.le_of_ble_eq_true rfl) rfl ((zput_par nd_0_1_2_3_4_5_6_7_8_9_10_11_12_13_14_15_16_17_18_19_20_21_22_23_24_25_26_27_28_29_30_31_32_33_34_35_36_37_38_39_40_41_42_43_44_45_46_47_48_49_50 rfl).trans rfl) ?_
    refine z_iload C dL_law_280 rfl ?_
    refine z_ncmp_ne_f C 307 dL_law_282 (by decide) (by omega) (by omega) (by omega) ?_
    refine z_aload_n C 1 dL_law_285 rfl rfl ?_
    refine z_iconst C (nI 5) dL_law_286 (by decide) ?_
    refine z_callVr C kX5_count gL_law_X5_count (l_cnt5y X.2.1 x0 h0 h1 w0 w1 t S' o' kp' ln ps  hG' ht') dL_law_287 [0, 1, 2, 3, 4, 5, 6, 7, 8, 9, 51] [] 0 rfl nd_0_1_2_3_4_5_6_7_8_9_51 rfl rfl rfl (by decide) (by decide) (Nat.le_of_ble_eq_true rfl) rfl ?_
    refine z_iload C dL_law_290 rfl ?_
    refine z_nif_eq_f C 299 dL_law_292 (by decide) (by omega) (by omega) ?_
    refine z_iconst C (nI 1) dL_law_295 (by decide) ?_
    refine z_goto C 300 dL_law_296 (by decide) ?_
    refine z_ncmp_ne_f C 307 dL_law_300 (by decide) (by omega) (by omega) (by omega) ?_
    refine z_iconst C (nI 1) dL_law_303 (by decide) ?_
    refine z_goto C 308 dL_law_304 (by decide) ?_
    refine z_istore C dL_law_308 (Nat.le_of_ble_eq_true rfl) ?_
    refine z_lv (lv' := [some (.ref b), some (.ref x0), some (.int (nI e)), some (.int g), some (.int h), some (.int (nI 12)), some (.int (nI au)), some (.int (nI ax)), some (.int (nI 1)), some (.int (nI 1)), some (.int (nI (cnS S 0))), none, none, none]) rfl ?_
    refine z_goto C 506 dL_law_310 (by decide) ?_
    exact law_tail M C he IH _ _ _ _ _ _ _ _ _ _ _ _ _ _ _ _ _ (GG_mono hG' (by omega)) ho' hk' hln htx

theorem law_m1 (k : Nat) : nI (k + 1) - nI 1 = nI k := by rw [← nI_add]; exact Int32.add_sub_cancel _ _
theorem law_mw {a k : Nat} (h : a = k + 1) : nI a + (-1) = nI k := by rw [h]; exact (zi_s _).symm.trans (law_m1 k)
theorem law_mz {a : Nat} (h : a = 0) : nI a + (-1) = -1 := by rw [h]; decide

set_option maxHeartbeats 4000000 in
set_option maxRecDepth 100000 in
theorem lw_c14_n {X : zX} (M : zRq X) (x0 h0 h1 w0 w1 : Nat) (t : Nat → Nat) (r : Nat → Nat → Nat) (e : Nat) (he : e < 40) {b : Nat} (C : zC X (53 + 3 * e) (3001 + 23 * e) code RL wsL_law 10) (IH : LI X b x0 h0 h1 w0 w1 t r (e + 1)) (g h : Int32) (au ax : Nat) (S : zSt) (o kp : Nat) (Q : Nat → zSt) (tx : Nat → Nat) (ln : Nat) (ps : zPs) (hG : GG S (2 * e)) (ho : o < 5) (hk : kp ≤ 4) (hln : ln ≤ 60) (htx : ∀ j, tx j < 65536) (hau : au < 3) (hw : lw (h >>> ((nI 5) &&& 31)) 5 = 0) : zG X (53 + 3 * e) (3001 + 23 * e) (WRd X.2.1 x0 h0 h1 w0 w1 t r S o kp Q tx ln ps) [some (.ref b), some (.ref x0), some (.int (nI e)), some (.int g), some (.int h), some (.int (nI 14)), some (.int (nI au)), some (.int (nI ax)), none, none, none, none, none, none] [] 80 := by
  have hb0 : uU S 0 ≤ 12 := gg_u hG 0
  have hb1 : uU S 1 ≤ 8 := gg_u1 hG
  have hb2 : mK S ≤ 60 := gg_M hG
  refine z_iload C dL_law_80 rfl ?_
  refine z_iconst C (nI 2) dL_law_82 (by decide) ?_
  refine z_ncmp_ge_t C 120 dL_law_83 (by decide) (by omega) (by omega) (by omega) ?_
  refine z_iconst C (nI 1) dL_law_120 (by decide) ?_
  refine z_istore C dL_law_121 (Nat.le_of_ble_eq_true rfl) ?_
  refine z_lv (lv' := [some (.ref b), some (.ref x0), some (.int (nI e)), some (.int g), some (.int h), some (.int (nI 14)), some (.int (nI au)), some (.int (nI ax)), some (.int (nI 1)), none, none, none, none, none]) rfl ?_
  refine z_iload C dL_law_123 rfl ?_
  refine z_iconst C (nI 2) dL_law_125 (by decide) ?_
  refine z_ncmp_eq_f C 135 dL_law_126 (by decide) (by omega) (by omega) (by omega) ?_
  refine z_iload C dL_law_129 rfl ?_
  refine z_iconst C (nI 3) dL_law_131 (by decide) ?_
  refine z_ncmp_ne_t C 152 dL_law_132 (by decide) (by omega) (by omega) (by omega) ?_
  refine z_iload C dL_law_152 rfl ?_
  refine z_iconst C (nI 3) dL_law_154 (by decide) ?_
  refine z_ncmp_le_f C 181 dL_law_155 (by decide) (by omega) (by omega) (by omega) ?_
  refine z_iload C dL_law_158 rfl ?_
  refine z_bipush C (nI 9) dL_law_160 (by decide) ?_
  refine z_ncmp_ge_t C 181 dL_law_162 (by decide) (by omega) (by omega) (by omega) ?_
  refine z_iload C dL_law_181 rfl ?_
  refine z_bipush C (nI 8) dL_law_183 (by decide) ?_
  refine z_ncmp_le_f C 220 dL_law_185 (by decide) (by omega) (by omega) (by omega) ?_
  refine z_iload C dL_law_188 rfl ?_
  refine z_bipush C (nI 12) dL_law_190 (by decide) ?_
  refine z_ncmp_ge_t C 220 dL_law_192 (by decide) (by omega) (by omega) (by omega) ?_
  refine z_iload C dL_law_220 rfl ?_
  refine z_bipush C (nI 12) dL_law_222 (by decide) ?_
  refine z_ncmp_ne_t C 313 dL_law_224 (by decide) (by omega) (by omega) (by omega) ?_
  refine z_iload C dL_law_313 rfl ?_
  refine z_bipush C (nI 13) dL_law_315 (by decide) ?_
  refine z_ncmp_ne_t C 336 dL_law_317 (by decide) (by omega) (by omega) (by omega) ?_
  refine z_iload C dL_law_336 rfl ?_
  refine z_bipush C (nI 14) dL_law_338 (by decide) ?_
  refine z_ncmp_ne_f C 506 dL_law_340 (by decide) (by omega) (by omega) (by omega) ?_
  refine z_iload C dL_law_343 rfl ?_
  refine z_iconst C (nI 5) dL_law_345 (by decide) ?_
  refine z_ishr C dL_law_346 ?_
  refine z_iconst C (nI 5) dL_law_347 (by decide) ?_
  refine z_callS C kL_low gL_law_L_low (l_low X.2.1 (h >>> ((nI 5) &&& 31)) 5 (by decide) (by decide)) dL_law_348 [] rfl (by decide) (by decide) (Nat.le_of_ble_eq_true rfl) rfl ?_
  have hg_1 : lw (h >>> ((nI 5) &&& 31)) 5 < 5 := lw_lt (h >>> ((nI 5) &&& 31)) (by omega)
  refine z_iconst C (nI 1) dL_law_351 (by decide) ?_
  refine z_isub C dL_law_352 ?_
  refine z_top (y := nI (lw (h >>> ((nI 5) &&& 31)) 5) + (-1)) (zi_s _) ?_
  refine z_top (y := -1) (law_mz hw) ?_
  refine z_istore C dL_law_353 (Nat.le_of_ble_eq_true rfl) ?_
  refine z_lv (lv' := [some (.ref b), some (.ref x0), some (.int (nI e)), some (.int g), some (.int h), some (.int (nI 14)), some (.int (nI au)), some (.int (nI ax)), some (.int (nI 1)), some (.int (-1)), none, none, none, none]) rfl ?_
  refine z_iload C dL_law_355 rfl ?_
  refine z_if_ge_f C 368 dL_law_357 (by decide) (by decide) ?_
  refine z_aload_n C 1 dL_law_360 rfl rfl ?_
  refine z_iconst C (nI 1) dL_law_361 (by decide) ?_
  refine z_callVr C kX5_count gL_law_X5_count (l_cntK X.2.1 x0 h0 h1 w0 w1 t S o kp ln ps 0 hG (by decide)) dL_law_362 [0, 1, 2, 3, 4, 5, 6, 7, 8, 9, 51] [] 0 rfl nd_0_1_2_3_4_5_6_7_8_9_51 rfl rfl rfl (by decide) (by decide) (Nat.le_of_ble_eq_true rfl) rfl ?_
  have hg_2 : cnS S 0 ≤ mK S := zc_le _ _
  refine z_goto C 375 dL_law_365 (by decide) ?_
  refine z_istore C dL_law_375 (Nat.le_of_ble_eq_true rfl) ?_
  refine z_lv (lv' := [some (.ref b), some (.ref x0), some (.int (nI e)), some (.int g), some (.int h), some (.int (nI 14)), some (.int (nI au)), some (.int (nI ax)), some (.int (nI 1)), some (.int (-1)), some (.int (nI (cnS S 0))), none, none, none]) rfl ?_
  refine z_iload C dL_law_377 rfl ?_
  refine z_bipush C (nI 9) dL_law_379 (by decide) ?_
  refine z_ishr C dL_law_381 ?_
  refine z_iconst C (nI 1) dL_law_382 (by decide) ?_
  refine z_iand C dL_law_383 ?_
  refine z_iconst C (nI 1) dL_law_384 (by decide) ?_
  refine z_icmp_ne C 392 dL_law_385 (by decide) (fun h_3 => ?_) (fun h_3 => ?_)
  · refine z_iconst C (nI 0) dL_law_392 (by decide) ?_
    refine z_istore C dL_law_393 (Nat.le_of_ble_eq_true rfl) ?_
    refine z_lv (lv' := [some (.ref b), some (.ref x0), some (.int (nI e)), some (.int g), some (.int h), some (.int (nI 14)), some (.int (nI au)), some (.int (nI ax)), some (.int (nI 1)), some (.int (-1)), some (.int (nI (cnS S 0))), some (.int (nI 0)), none, none]) rfl ?_
    refine z_aload_n C 1 dL_law_395 rfl rfl ?_
    refine z_iload C dL_law_396 rfl ?_
    refine z_nif_eq_t C 405 dL_law_398 (by decide) (by omega) (by omega) ?_
    refine z_iconst C (nI 3) dL_law_405 (by decide) ?_
    refine z_callVr C kX5_count gL_law_X5_count (l_cntK X.2.1 x0 h0 h1 w0 w1 t S o kp ln ps 2 hG (by decide)) dL_law_406 [0, 1, 2, 3, 4, 5, 6, 7, 8, 9, 51] [] 0 rfl nd_0_1_2_3_4_5_6_7_8_9_51 rfl rfl rfl (by decide) (by decide) (Nat.le_of_ble_eq_true rfl) rfl ?_
    have hg_4 : cnS S 2 ≤ mK S := zc_le _ _
    refine z_istore C dL_law_409 (Nat.le_of_ble_eq_true rfl) ?_
    refine z_lv (lv' := [some (.ref b), some (.ref x0), some (.int (nI e)), some (.int g), some (.int h), some (.int (nI 14)), some (.int (nI au)), some (.int (nI ax)), some (.int (nI 1)), some (.int (-1)), some (.int (nI (cnS S 0))), some (.int (nI 0)), some (.int (nI (cnS S 2))), none]) rfl ?_
    refine z_aload_n C 1 dL_law_411 rfl rfl ?_
    refine z_iload C dL_law_412 rfl ?_
    refine z_iload C dL_law_414 rfl ?_
    rcases Nat.eq_zero_or_pos (cnS S 0) with hq_5 | hq_5
    · refine z_callV (wn := (WRd X.2.1 x0 h0 h1 w0 w1 t r S o kp Q tx ln ps)) C kX5_settle gL_law_X5_settle (law_n1 X.2.1 x0 h0 h1 w0 t r S o kp Q false hG ho hk hq_5) dL_law_416 [0, 1, 2, 3, 4, 5, 6, 7, 8, 9, 10, 11, 12, 13, 14, 15, 16, 17, 18, 19, 20, 21, 22, 23, 24, 25, 26, 27, 28, 29, 30, 31, 32, 33, 34, 35, 36, 37, 38, 39, 40, 41, 42, 43, 44, 45, 46, 47, 48, 49, 50] [] 0 rfl rfl nd_0_1_2_3_4_5_6_7_8_9_10_11_12_13_14_15_16_17_18_19_20_21_22_23_24_25_26_27_28_29_30_31_32_33_34_35_36_37_38_39_40_41_42_43_44_45_46_47_48_49_50 rfl rfl rfl (by decide) (by decide) (Nat.le_of_ble_eq_true rfl) rfl ((zput_par nd_0_1_2_3_4_5_6_7_8_9_10_11_12_13_14_15_16_17_18_19_20_21_22_23_24_25_26_27_28_29_30_31_32_33_34_35_36_37_38_39_40_41_42_43_44_45_46_47_48_49_50 rfl).trans rfl) ?_
      refine z_istore C dL_law_419 (Nat.le_of_ble_eq_true rfl) ?_
      refine z_lv (lv' := [some (.ref b), some (.ref x0), some (.int (nI e)), some (.int g), some (.int h), some (.int (nI 14)), some (.int (nI au)), some (.int (nI ax)), some (.int (nI 1)), some (.int (-1)), some (.int (nI (cnS S 0))), some (.int (nI 0)), some (.int (nI (cnS S 2))), some (.int (-4))]) rfl ?_
      refine z_iload C dL_law_421 rfl ?_
      refine z_nif_ne_f C 441 dL_law_423 (by decide) (by omega) (by omega) ?_
      refine z_iload C dL_law_426 rfl ?_
      refine z_bipush C (-4) dL_law_428 (by decide) ?_
      refine z_icmp_ne_f C 437 dL_law_430 (by decide) rfl ?_
      refine z_iconst C (nI 1) dL_law_433 (by decide) ?_
      refine z_goto C 504 dL_law_434 (by decide) ?_
      refine z_istore C dL_law_504 (Nat.le_of_ble_eq_true rfl) ?_
      refine z_lv (lv' := [some (.ref b), some (.ref x0), some (.int (nI e)), some (.int g), some (.int h), some (.int (nI 14)), some (.int (nI au)), some (.int (nI ax)), some (.int (nI 1)), some (.int (-1)), some (.int (nI (cnS S 0))), some (.int (nI 0)), some (.int (nI (cnS S 2))), some (.int (-4))]) rfl ?_
      exact law_tail M C he IH _ _ _ _ _ _ _ _ _ _ _ _ _ _ _ _ _ (GG_mono hG (by omega)) ho hk hln htx
    · obtain ⟨S', o', kp', Q', T, hG', ho', hk', hT, f1, f2, f3, f4, hM⟩ := law_s1 X.2.1 x0 h0 h1 w0 t r S o kp Q false hG ho hk hq_5
      replace f3 : cnS S' 2 = cnS S 2 + T := f3
      refine z_callV (wn := (WRd X.2.1 x0 h0 h1 w0 w1 t r S' o' kp' Q' tx ln ps)) C kX5_settle gL_law_X5_settle hM dL_law_416 [0, 1, 2, 3, 4, 5, 6, 7, 8, 9, 10, 11, 12, 13, 14, 15, 16, 17, 18, 19, 20, 21, 22, 23, 24, 25, 26, 27, 28, 29, 30, 31, 32, 33, 34, 35, 36, 37, 38, 39, 40, 41, 42, 43, 44, 45, 46, 47, 48, 49, 50] [] 0 rfl rfl nd_0_1_2_3_4_5_6_7_8_9_10_11_12_13_14_15_16_17_18_19_20_21_22_23_24_25_26_27_28_29_30_31_32_33_34_35_36_37_38_39_40_41_42_43_44_45_46_47_48_49_50 rfl rfl rfl (by decide) (by decide) (Nat.le_of_ble_eq_true rfl) rfl ((zput_par nd_0_1_2_3_4_5_6_7_8_9_10_11_12_13_14_15_16_17_18_19_20_21_22_23_24_25_26_27_28_29_30_31_32_33_34_35_36_37_38_39_40_41_42_43_44_45_46_47_48_49_50 rfl).trans rfl) ?_
      refine z_istore C dL_law_419 (Nat.le_of_ble_eq_true rfl) ?_
      refine z_lv (lv' := [some (.ref b), some (.ref x0), some (.int (nI e)), some (.int g), some (.int h), some (.int (nI 14)), some (.int (nI au)), some (.int (nI ax)), some (.int (nI 1)), some (.int (-1)), some (.int (nI (cnS S 0))), some (.int (nI 0)), some (.int (nI (cnS S 2))), some (.int (nI T))]) rfl ?_
      refine z_iload C dL_law_421 rfl ?_
      refine z_nif_ne_t C 441 dL_law_423 (by decide) (by omega) (by omega) ?_
      refine z_iload C dL_law_441 rfl ?_
      refine z_iload C dL_law_443 rfl ?_
      refine z_aload_n C 1 dL_law_445 rfl rfl ?_
      refine z_iconst C (nI 4) dL_law_446 (by decide) ?_
      refine z_callVr C kX5_count gL_law_X5_count (l_cntK X.2.1 x0 h0 h1 w0 w1 t S' o' kp' ln ps 3 hG' (by decide)) dL_law_447 [0, 1, 2, 3, 4, 5, 6, 7, 8, 9, 51] [.int (nI (cnS S 0)), .int (nI T)] 0 rfl nd_0_1_2_3_4_5_6_7_8_9_51 rfl rfl rfl (by decide) (by decide) (Nat.le_of_ble_eq_true rfl) rfl ?_
      have hg_6 : cnS S' 3 ≤ mK S' := zc_le _ _
      refine z_isub C dL_law_450 ?_
      refine z_icmp_lt_f C 503 dL_law_451 (by decide) (law_lt f4 hT (by omega) (by omega)) ?_
      refine z_aload_n C 1 dL_law_454 rfl rfl ?_
      refine z_iload C dL_law_455 rfl ?_
      refine z_nif_eq_t C 464 dL_law_457 (by decide) (by omega) (by omega) ?_
      refine z_iconst C (nI 3) dL_law_464 (by decide) ?_
      refine z_callVr C kX5_count gL_law_X5_count (l_cntK X.2.1 x0 h0 h1 w0 w1 t S' o' kp' ln ps 2 hG' (by decide)) dL_law_465 [0, 1, 2, 3, 4, 5, 6, 7, 8, 9, 51] [] 0 rfl nd_0_1_2_3_4_5_6_7_8_9_51 rfl rfl rfl (by decide) (by decide) (Nat.le_of_ble_eq_true rfl) rfl ?_
      have hg_7 : cnS S' 2 ≤ mK S' := zc_le _ _
      refine z_iload C dL_law_468 rfl ?_
      refine z_iload C dL_law_470 rfl ?_
      refine z_iadd C dL_law_472 ?_
      refine z_top (y := nI ((cnS S 2) + T)) (nI_add _ _) ?_
      refine z_ncmp_ne_f C 503 dL_law_473 (by decide) (by omega) (by omega) (by omega) ?_
      refine z_iload C dL_law_476 rfl ?_
      refine z_if_ge_f C 489 dL_law_478 (by decide) (by decide) ?_
      refine z_aload_n C 1 dL_law_481 rfl rfl ?_
      refine z_iconst C (nI 1) dL_law_482 (by decide) ?_
      refine z_callVr C kX5_count gL_law_X5_count (l_cntK X.2.1 x0 h0 h1 w0 w1 t S' o' kp' ln ps 0 hG' (by decide)) dL_law_483 [0, 1, 2, 3, 4, 5, 6, 7, 8, 9, 51] [] 0 rfl nd_0_1_2_3_4_5_6_7_8_9_51 rfl rfl rfl (by decide) (by decide) (Nat.le_of_ble_eq_true rfl) rfl ?_
      have hg_8 : cnS S' 0 ≤ mK S' := zc_le _ _
      refine z_goto C 496 dL_law_486 (by decide) ?_
      refine z_nif_ne_f C 503 dL_law_496 (by decide) (by omega) (by omega) ?_
      refine z_iconst C (nI 1) dL_law_499 (by decide) ?_
      refine z_goto C 504 dL_law_500 (by decide) ?_
      refine z_istore C dL_law_504 (Nat.le_of_ble_eq_true rfl) ?_
      refine z_lv (lv' := [some (.ref b), some (.ref x0), some (.int (nI e)), some (.int g), some (.int h), some (.int (nI 14)), some (.int (nI au)), some (.int (nI ax)), some (.int (nI 1)), some (.int (-1)), some (.int (nI (cnS S 0))), some (.int (nI 0)), some (.int (nI (cnS S 2))), some (.int (nI T))]) rfl ?_
      exact law_tail M C he IH _ _ _ _ _ _ _ _ _ _ _ _ _ _ _ _ _ (GG_mono hG' (by omega)) ho' hk' hln htx
  · refine z_iconst C (nI 1) dL_law_388 (by decide) ?_
    refine z_goto C 393 dL_law_389 (by decide) ?_
    refine z_istore C dL_law_393 (Nat.le_of_ble_eq_true rfl) ?_
    refine z_lv (lv' := [some (.ref b), some (.ref x0), some (.int (nI e)), some (.int g), some (.int h), some (.int (nI 14)), some (.int (nI au)), some (.int (nI ax)), some (.int (nI 1)), some (.int (-1)), some (.int (nI (cnS S 0))), some (.int (nI 1)), none, none]) rfl ?_
    refine z_aload_n C 1 dL_law_395 rfl rfl ?_
    refine z_iload C dL_law_396 rfl ?_
    refine z_nif_eq_f C 405 dL_law_398 (by decide) (by omega) (by omega) ?_
    refine z_iconst C (nI 2) dL_law_401 (by decide) ?_
    refine z_goto C 406 dL_law_402 (by decide) ?_
    refine z_callVr C kX5_count gL_law_X5_count (l_cntK X.2.1 x0 h0 h1 w0 w1 t S o kp ln ps 1 hG (by decide)) dL_law_406 [0, 1, 2, 3, 4, 5, 6, 7, 8, 9, 51] [] 0 rfl nd_0_1_2_3_4_5_6_7_8_9_51 rfl rfl rfl (by decide) (by decide) (Nat.le_of_ble_eq_true rfl) rfl ?_
    have hg_9 : cnS S 1 ≤ mK S := zc_le _ _
    refine z_istore C dL_law_409 (Nat.le_of_ble_eq_true rfl) ?_
    refine z_lv (lv' := [some (.ref b), some (.ref x0), some (.int (nI e)), some (.int g), some (.int h), some (.int (nI 14)), some (.int (nI au)), some (.int (nI ax)), some (.int (nI 1)), some (.int (-1)), some (.int (nI (cnS S 0))), some (.int (nI 1)), some (.int (nI (cnS S 1))), none]) rfl ?_
    refine z_aload_n C 1 dL_law_411 rfl rfl ?_
    refine z_iload C dL_law_412 rfl ?_
    refine z_iload C dL_law_414 rfl ?_
    rcases Nat.eq_zero_or_pos (cnS S 0) with hq_10 | hq_10
    · refine z_callV (wn := (WRd X.2.1 x0 h0 h1 w0 w1 t r S o kp Q tx ln ps)) C kX5_settle gL_law_X5_settle (law_n1 X.2.1 x0 h0 h1 w0 t r S o kp Q true hG ho hk hq_10) dL_law_416 [0, 1, 2, 3, 4, 5, 6, 7, 8, 9, 10, 11, 12, 13, 14, 15, 16, 17, 18, 19, 20, 21, 22, 23, 24, 25, 26, 27, 28, 29, 30, 31, 32, 33, 34, 35, 36, 37, 38, 39, 40, 41, 42, 43, 44, 45, 46, 47, 48, 49, 50] [] 0 rfl rfl nd_0_1_2_3_4_5_6_7_8_9_10_11_12_13_14_15_16_17_18_19_20_21_22_23_24_25_26_27_28_29_30_31_32_33_34_35_36_37_38_39_40_41_42_43_44_45_46_47_48_49_50 rfl rfl rfl (by decide) (by decide) (Nat.le_of_ble_eq_true rfl) rfl ((zput_par nd_0_1_2_3_4_5_6_7_8_9_10_11_12_13_14_15_16_17_18_19_20_21_22_23_24_25_26_27_28_29_30_31_32_33_34_35_36_37_38_39_40_41_42_43_44_45_46_47_48_49_50 rfl).trans rfl) ?_
      refine z_istore C dL_law_419 (Nat.le_of_ble_eq_true rfl) ?_
      refine z_lv (lv' := [some (.ref b), some (.ref x0), some (.int (nI e)), some (.int g), some (.int h), some (.int (nI 14)), some (.int (nI au)), some (.int (nI ax)), some (.int (nI 1)), some (.int (-1)), some (.int (nI (cnS S 0))), some (.int (nI 1)), some (.int (nI (cnS S 1))), some (.int (-4))]) rfl ?_
      refine z_iload C dL_law_421 rfl ?_
      refine z_nif_ne_f C 441 dL_law_423 (by decide) (by omega) (by omega) ?_
      refine z_iload C dL_law_426 rfl ?_
      refine z_bipush C (-4) dL_law_428 (by decide) ?_
      refine z_icmp_ne_f C 437 dL_law_430 (by decide) rfl ?_
      refine z_iconst C (nI 1) dL_law_433 (by decide) ?_
      refine z_goto C 504 dL_law_434 (by decide) ?_
      refine z_istore C dL_law_504 (Nat.le_of_ble_eq_true rfl) ?_
      refine z_lv (lv' := [some (.ref b), some (.ref x0), some (.int (nI e)), some (.int g), some (.int h), some (.int (nI 14)), some (.int (nI au)), some (.int (nI ax)), some (.int (nI 1)), some (.int (-1)), some (.int (nI (cnS S 0))), some (.int (nI 1)), some (.int (nI (cnS S 1))), some (.int (-4))]) rfl ?_
      exact law_tail M C he IH _ _ _ _ _ _ _ _ _ _ _ _ _ _ _ _ _ (GG_mono hG (by omega)) ho hk hln htx
    · obtain ⟨S', o', kp', Q', T, hG', ho', hk', hT, f1, f2, f3, f4, hM⟩ := law_s1 X.2.1 x0 h0 h1 w0 t r S o kp Q true hG ho hk hq_10
      replace f3 : cnS S' 1 = cnS S 1 + T := f3
      refine z_callV (wn := (WRd X.2.1 x0 h0 h1 w0 w1 t r S' o' kp' Q' tx ln ps)) C kX5_settle gL_law_X5_settle hM dL_law_416 [0, 1, 2, 3, 4, 5, 6, 7, 8, 9, 10, 11, 12, 13, 14, 15, 16, 17, 18, 19, 20, 21, 22, 23, 24, 25, 26, 27, 28, 29, 30, 31, 32, 33, 34, 35, 36, 37, 38, 39, 40, 41, 42, 43, 44, 45, 46, 47, 48, 49, 50] [] 0 rfl rfl nd_0_1_2_3_4_5_6_7_8_9_10_11_12_13_14_15_16_17_18_19_20_21_22_23_24_25_26_27_28_29_30_31_32_33_34_35_36_37_38_39_40_41_42_43_44_45_46_47_48_49_50 rfl rfl rfl (by decide) (by decide) (Nat.le_of_ble_eq_true rfl) rfl ((zput_par nd_0_1_2_3_4_5_6_7_8_9_10_11_12_13_14_15_16_17_18_19_20_21_22_23_24_25_26_27_28_29_30_31_32_33_34_35_36_37_38_39_40_41_42_43_44_45_46_47_48_49_50 rfl).trans rfl) ?_
      refine z_istore C dL_law_419 (Nat.le_of_ble_eq_true rfl) ?_
      refine z_lv (lv' := [some (.ref b), some (.ref x0), some (.int (nI e)), some (.int g), some (.int h), some (.int (nI 14)), some (.int (nI au)), some (.int (nI ax)), some (.int (nI 1)), some (.int (-1)), some (.int (nI (cnS S 0))), some (.int (nI 1)), some (.int (nI (cnS S 1))), some (.int (nI T))]) rfl ?_
      refine z_iload C dL_law_421 rfl ?_
      refine z_nif_ne_t C 441 dL_law_423 (by decide) (by omega) (by omega) ?_
      refine z_iload C dL_law_441 rfl ?_
      refine z_iload C dL_law_443 rfl ?_
      refine z_aload_n C 1 dL_law_445 rfl rfl ?_
      refine z_iconst C (nI 4) dL_law_446 (by decide) ?_
      refine z_callVr C kX5_count gL_law_X5_count (l_cntK X.2.1 x0 h0 h1 w0 w1 t S' o' kp' ln ps 3 hG' (by decide)) dL_law_447 [0, 1, 2, 3, 4, 5, 6, 7, 8, 9, 51] [.int (nI (cnS S 0)), .int (nI T)] 0 rfl nd_0_1_2_3_4_5_6_7_8_9_51 rfl rfl rfl (by decide) (by decide) (Nat.le_of_ble_eq_true rfl) rfl ?_
      have hg_11 : cnS S' 3 ≤ mK S' := zc_le _ _
      refine z_isub C dL_law_450 ?_
      refine z_icmp_lt_f C 503 dL_law_451 (by decide) (law_lt f4 hT (by omega) (by omega)) ?_
      refine z_aload_n C 1 dL_law_454 rfl rfl ?_
      refine z_iload C dL_law_455 rfl ?_
      refine z_nif_eq_f C 464 dL_law_457 (by decide) (by omega) (by omega) ?_
      refine z_iconst C (nI 2) dL_law_460 (by decide) ?_
      refine z_goto C 465 dL_law_461 (by decide) ?_
      refine z_callVr C kX5_count gL_law_X5_count (l_cntK X.2.1 x0 h0 h1 w0 w1 t S' o' kp' ln ps 1 hG' (by decide)) dL_law_465 [0, 1, 2, 3, 4, 5, 6, 7, 8, 9, 51] [] 0 rfl nd_0_1_2_3_4_5_6_7_8_9_51 rfl rfl rfl (by decide) (by decide) (Nat.le_of_ble_eq_true rfl) rfl ?_
      have hg_12 : cnS S' 1 ≤ mK S' := zc_le _ _
      refine z_iload C dL_law_468 rfl ?_
      refine z_iload C dL_law_470 rfl ?_
      refine z_iadd C dL_law_472 ?_
      refine z_top (y := nI ((cnS S 1) + T)) (nI_add _ _) ?_
      refine z_ncmp_ne_f C 503 dL_law_473 (by decide) (by omega) (by omega) (by omega) ?_
      refine z_iload C dL_law_476 rfl ?_
      refine z_if_ge_f C 489 dL_law_478 (by decide) (by decide) ?_
      refine z_aload_n C 1 dL_law_481 rfl rfl ?_
      refine z_iconst C (nI 1) dL_law_482 (by decide) ?_
      refine z_callVr C kX5_count gL_law_X5_count (l_cntK X.2.1 x0 h0 h1 w0 w1 t S' o' kp' ln ps 0 hG' (by decide)) dL_law_483 [0, 1, 2, 3, 4, 5, 6, 7, 8, 9, 51] [] 0 rfl nd_0_1_2_3_4_5_6_7_8_9_51 rfl rfl rfl (by decide) (by decide) (Nat.le_of_ble_eq_true rfl) rfl ?_
      have hg_13 : cnS S' 0 ≤ mK S' := zc_le _ _
      refine z_goto C 496 dL_law_486 (by decide) ?_
      refine z_nif_ne_f C 503 dL_law_496 (by decide) (by omega) (by omega) ?_
      refine z_iconst C (nI 1) dL_law_499 (by decide) ?_
      refine z_goto C 504 dL_law_500 (by decide) ?_
      refine z_istore C dL_law_504 (Nat.le_of_ble_eq_true rfl) ?_
      refine z_lv (lv' := [some (.ref b), some (.ref x0), some (.int (nI e)), some (.int g), some (.int h), some (.int (nI 14)), some (.int (nI au)), some (.int (nI ax)), some (.int (nI 1)), some (.int (-1)), some (.int (nI (cnS S 0))), some (.int (nI 1)), some (.int (nI (cnS S 1))), some (.int (nI T))]) rfl ?_
      exact law_tail M C he IH _ _ _ _ _ _ _ _ _ _ _ _ _ _ _ _ _ (GG_mono hG' (by omega)) ho' hk' hln htx

set_option maxHeartbeats 4000000 in
set_option maxRecDepth 100000 in
theorem lw_c14_k {X : zX} (M : zRq X) (x0 h0 h1 w0 w1 : Nat) (t : Nat → Nat) (r : Nat → Nat → Nat) (e : Nat) (he : e < 40) {b : Nat} (C : zC X (53 + 3 * e) (3001 + 23 * e) code RL wsL_law 10) (IH : LI X b x0 h0 h1 w0 w1 t r (e + 1)) (g h : Int32) (au ax k9 : Nat) (S : zSt) (o kp : Nat) (Q : Nat → zSt) (tx : Nat → Nat) (ln : Nat) (ps : zPs) (hG : GG S (2 * e)) (ho : o < 5) (hk : kp ≤ 4) (hln : ln ≤ 60) (htx : ∀ j, tx j < 65536) (hau : au < 3) (hk9 : k9 < 4) (hw : lw (h >>> ((nI 5) &&& 31)) 5 = k9 + 1) : zG X (53 + 3 * e) (3001 + 23 * e) (WRd X.2.1 x0 h0 h1 w0 w1 t r S o kp Q tx ln ps) [some (.ref b), some (.ref x0), some (.int (nI e)), some (.int g), some (.int h), some (.int (nI 14)), some (.int (nI au)), some (.int (nI ax)), none, none, none, none, none, none] [] 80 := by
  have hb0 : uU S 0 ≤ 12 := gg_u hG 0
  have hb1 : uU S 1 ≤ 8 := gg_u1 hG
  have hb2 : mK S ≤ 60 := gg_M hG
  refine z_iload C dL_law_80 rfl ?_
  refine z_iconst C (nI 2) dL_law_82 (by decide) ?_
  refine z_ncmp_ge_t C 120 dL_law_83 (by decide) (by omega) (by omega) (by omega) ?_
  refine z_iconst C (nI 1) dL_law_120 (by decide) ?_
  refine z_istore C dL_law_121 (Nat.le_of_ble_eq_true rfl) ?_
  refine z_lv (lv' := [some (.ref b), some (.ref x0), some (.int (nI e)), some (.int g), some (.int h), some (.int (nI 14)), some (.int (nI au)), some (.int (nI ax)), some (.int (nI 1)), none, none, none, none, none]) rfl ?_
  refine z_iload C dL_law_123 rfl ?_
  refine z_iconst C (nI 2) dL_law_125 (by decide) ?_
  refine z_ncmp_eq_f C 135 dL_law_126 (by decide) (by omega) (by omega) (by omega) ?_
  refine z_iload C dL_law_129 rfl ?_
  refine z_iconst C (nI 3) dL_law_131 (by decide) ?_
  refine z_ncmp_ne_t C 152 dL_law_132 (by decide) (by omega) (by omega) (by omega) ?_
  refine z_iload C dL_law_152 rfl ?_
  refine z_iconst C (nI 3) dL_law_154 (by decide) ?_
  refine z_ncmp_le_f C 181 dL_law_155 (by decide) (by omega) (by omega) (by omega) ?_
  refine z_iload C dL_law_158 rfl ?_
  refine z_bipush C (nI 9) dL_law_160 (by decide) ?_
  refine z_ncmp_ge_t C 181 dL_law_162 (by decide) (by omega) (by omega) (by omega) ?_
  refine z_iload C dL_law_181 rfl ?_
  refine z_bipush C (nI 8) dL_law_183 (by decide) ?_
  refine z_ncmp_le_f C 220 dL_law_185 (by decide) (by omega) (by omega) (by omega) ?_
  refine z_iload C dL_law_188 rfl ?_
  refine z_bipush C (nI 12) dL_law_190 (by decide) ?_
  refine z_ncmp_ge_t C 220 dL_law_192 (by decide) (by omega) (by omega) (by omega) ?_
  refine z_iload C dL_law_220 rfl ?_
  refine z_bipush C (nI 12) dL_law_222 (by decide) ?_
  refine z_ncmp_ne_t C 313 dL_law_224 (by decide) (by omega) (by omega) (by omega) ?_
  refine z_iload C dL_law_313 rfl ?_
  refine z_bipush C (nI 13) dL_law_315 (by decide) ?_
  refine z_ncmp_ne_t C 336 dL_law_317 (by decide) (by omega) (by omega) (by omega) ?_
  refine z_iload C dL_law_336 rfl ?_
  refine z_bipush C (nI 14) dL_law_338 (by decide) ?_
  refine z_ncmp_ne_f C 506 dL_law_340 (by decide) (by omega) (by omega) (by omega) ?_
  refine z_iload C dL_law_343 rfl ?_
  refine z_iconst C (nI 5) dL_law_345 (by decide) ?_
  refine z_ishr C dL_law_346 ?_
  refine z_iconst C (nI 5) dL_law_347 (by decide) ?_
  refine z_callS C kL_low gL_law_L_low (l_low X.2.1 (h >>> ((nI 5) &&& 31)) 5 (by decide) (by decide)) dL_law_348 [] rfl (by decide) (by decide) (Nat.le_of_ble_eq_true rfl) rfl ?_
  have hg_1 : lw (h >>> ((nI 5) &&& 31)) 5 < 5 := lw_lt (h >>> ((nI 5) &&& 31)) (by omega)
  refine z_iconst C (nI 1) dL_law_351 (by decide) ?_
  refine z_isub C dL_law_352 ?_
  refine z_top (y := nI (lw (h >>> ((nI 5) &&& 31)) 5) + (-1)) (zi_s _) ?_
  refine z_top (y := nI k9) (law_mw hw) ?_
  refine z_istore C dL_law_353 (Nat.le_of_ble_eq_true rfl) ?_
  refine z_lv (lv' := [some (.ref b), some (.ref x0), some (.int (nI e)), some (.int g), some (.int h), some (.int (nI 14)), some (.int (nI au)), some (.int (nI ax)), some (.int (nI 1)), some (.int (nI k9)), none, none, none, none]) rfl ?_
  refine z_iload C dL_law_355 rfl ?_
  refine z_nif_ge_t C 368 dL_law_357 (by decide) (by omega) (by trivial) ?_
  refine z_aload_n C 1 dL_law_368 rfl rfl ?_
  refine z_iload C dL_law_369 rfl ?_
  refine z_iconst C (nI 0) dL_law_371 (by decide) ?_
  refine z_callVr C kX5_author gL_law_X5_author (l_aut X.2.1 x0 h0 w0 t S k9 0 hG hk9 (by decide)) dL_law_372 [0, 1, 2, 3, 4, 5, 6, 7, 8] [] 0 rfl nd_0_1_2_3_4_5_6_7_8 rfl rfl rfl (by decide) (by decide) (Nat.le_of_ble_eq_true rfl) rfl ?_
  have hg_2 : cnA S k9 0 ≤ mK S := zc_le _ _
  refine z_istore C dL_law_375 (Nat.le_of_ble_eq_true rfl) ?_
  refine z_lv (lv' := [some (.ref b), some (.ref x0), some (.int (nI e)), some (.int g), some (.int h), some (.int (nI 14)), some (.int (nI au)), some (.int (nI ax)), some (.int (nI 1)), some (.int (nI k9)), some (.int (nI (cnA S k9 0))), none, none, none]) rfl ?_
  refine z_iload C dL_law_377 rfl ?_
  refine z_bipush C (nI 9) dL_law_379 (by decide) ?_
  refine z_ishr C dL_law_381 ?_
  refine z_iconst C (nI 1) dL_law_382 (by decide) ?_
  refine z_iand C dL_law_383 ?_
  refine z_iconst C (nI 1) dL_law_384 (by decide) ?_
  refine z_icmp_ne C 392 dL_law_385 (by decide) (fun h_3 => ?_) (fun h_3 => ?_)
  · refine z_iconst C (nI 0) dL_law_392 (by decide) ?_
    refine z_istore C dL_law_393 (Nat.le_of_ble_eq_true rfl) ?_
    refine z_lv (lv' := [some (.ref b), some (.ref x0), some (.int (nI e)), some (.int g), some (.int h), some (.int (nI 14)), some (.int (nI au)), some (.int (nI ax)), some (.int (nI 1)), some (.int (nI k9)), some (.int (nI (cnA S k9 0))), some (.int (nI 0)), none, none]) rfl ?_
    refine z_aload_n C 1 dL_law_395 rfl rfl ?_
    refine z_iload C dL_law_396 rfl ?_
    refine z_nif_eq_t C 405 dL_law_398 (by decide) (by omega) (by omega) ?_
    refine z_iconst C (nI 3) dL_law_405 (by decide) ?_
    refine z_callVr C kX5_count gL_law_X5_count (l_cntK X.2.1 x0 h0 h1 w0 w1 t S o kp ln ps 2 hG (by decide)) dL_law_406 [0, 1, 2, 3, 4, 5, 6, 7, 8, 9, 51] [] 0 rfl nd_0_1_2_3_4_5_6_7_8_9_51 rfl rfl rfl (by decide) (by decide) (Nat.le_of_ble_eq_true rfl) rfl ?_
    have hg_4 : cnS S 2 ≤ mK S := zc_le _ _
    refine z_istore C dL_law_409 (Nat.le_of_ble_eq_true rfl) ?_
    refine z_lv (lv' := [some (.ref b), some (.ref x0), some (.int (nI e)), some (.int g), some (.int h), some (.int (nI 14)), some (.int (nI au)), some (.int (nI ax)), some (.int (nI 1)), some (.int (nI k9)), some (.int (nI (cnA S k9 0))), some (.int (nI 0)), some (.int (nI (cnS S 2))), none]) rfl ?_
    refine z_aload_n C 1 dL_law_411 rfl rfl ?_
    refine z_iload C dL_law_412 rfl ?_
    refine z_iload C dL_law_414 rfl ?_
    rcases Nat.eq_zero_or_pos (cnA S k9 0) with hq_5 | hq_5
    · refine z_callV (wn := (WRd X.2.1 x0 h0 h1 w0 w1 t r S o kp Q tx ln ps)) C kX5_settle gL_law_X5_settle (law_n2 X.2.1 x0 h0 h1 w0 t r S o kp Q false k9 hG ho hk hk9 hq_5) dL_law_416 [0, 1, 2, 3, 4, 5, 6, 7, 8, 9, 10, 11, 12, 13, 14, 15, 16, 17, 18, 19, 20, 21, 22, 23, 24, 25, 26, 27, 28, 29, 30, 31, 32, 33, 34, 35, 36, 37, 38, 39, 40, 41, 42, 43, 44, 45, 46, 47, 48, 49, 50] [] 0 rfl rfl nd_0_1_2_3_4_5_6_7_8_9_10_11_12_13_14_15_16_17_18_19_20_21_22_23_24_25_26_27_28_29_30_31_32_33_34_35_36_37_38_39_40_41_42_43_44_45_46_47_48_49_50 rfl rfl rfl (by decide) (by decide) (Nat.le_of_ble_eq_true rfl) rfl ((zput_par nd_0_1_2_3_4_5_6_7_8_9_10_11_12_13_14_15_16_17_18_19_20_21_22_23_24_25_26_27_28_29_30_31_32_33_34_35_36_37_38_39_40_41_42_43_44_45_46_47_48_49_50 rfl).trans rfl) ?_
      refine z_istore C dL_law_419 (Nat.le_of_ble_eq_true rfl) ?_
      refine z_lv (lv' := [some (.ref b), some (.ref x0), some (.int (nI e)), some (.int g), some (.int h), some (.int (nI 14)), some (.int (nI au)), some (.int (nI ax)), some (.int (nI 1)), some (.int (nI k9)), some (.int (nI (cnA S k9 0))), some (.int (nI 0)), some (.int (nI (cnS S 2))), some (.int (-4))]) rfl ?_
      refine z_iload C dL_law_421 rfl ?_
      refine z_nif_ne_f C 441 dL_law_423 (by decide) (by omega) (by omega) ?_
      refine z_iload C dL_law_426 rfl ?_
      refine z_bipush C (-4) dL_law_428 (by decide) ?_
      refine z_icmp_ne_f C 437 dL_law_430 (by decide) rfl ?_
      refine z_iconst C (nI 1) dL_law_433 (by decide) ?_
      refine z_goto C 504 dL_law_434 (by decide) ?_
      refine z_istore C dL_law_504 (Nat.le_of_ble_eq_true rfl) ?_
      refine z_lv (lv' := [some (.ref b), some (.ref x0), some (.int (nI e)), some (.int g), some (.int h), some (.int (nI 14)), some (.int (nI au)), some (.int (nI ax)), some (.int (nI 1)), some (.int (nI k9)), some (.int (nI (cnA S k9 0))), some (.int (nI 0)), some (.int (nI (cnS S 2))), some (.int (-4))]) rfl ?_
      exact law_tail M C he IH _ _ _ _ _ _ _ _ _ _ _ _ _ _ _ _ _ (GG_mono hG (by omega)) ho hk hln htx
    · obtain ⟨S', o', kp', Q', T, hG', ho', hk', hT, f1, f2, f3, f4, hM⟩ := law_s2 X.2.1 x0 h0 h1 w0 t r S o kp Q false k9 hG ho hk hk9 hq_5
      replace f3 : cnS S' 2 = cnS S 2 + T := f3
      refine z_callV (wn := (WRd X.2.1 x0 h0 h1 w0 w1 t r S' o' kp' Q' tx ln ps)) C kX5_settle gL_law_X5_settle hM dL_law_416 [0, 1, 2, 3, 4, 5, 6, 7, 8, 9, 10, 11, 12, 13, 14, 15, 16, 17, 18, 19, 20, 21, 22, 23, 24, 25, 26, 27, 28, 29, 30, 31, 32, 33, 34, 35, 36, 37, 38, 39, 40, 41, 42, 43, 44, 45, 46, 47, 48, 49, 50] [] 0 rfl rfl nd_0_1_2_3_4_5_6_7_8_9_10_11_12_13_14_15_16_17_18_19_20_21_22_23_24_25_26_27_28_29_30_31_32_33_34_35_36_37_38_39_40_41_42_43_44_45_46_47_48_49_50 rfl rfl rfl (by decide) (by decide) (Nat.le_of_ble_eq_true rfl) rfl ((zput_par nd_0_1_2_3_4_5_6_7_8_9_10_11_12_13_14_15_16_17_18_19_20_21_22_23_24_25_26_27_28_29_30_31_32_33_34_35_36_37_38_39_40_41_42_43_44_45_46_47_48_49_50 rfl).trans rfl) ?_
      refine z_istore C dL_law_419 (Nat.le_of_ble_eq_true rfl) ?_
      refine z_lv (lv' := [some (.ref b), some (.ref x0), some (.int (nI e)), some (.int g), some (.int h), some (.int (nI 14)), some (.int (nI au)), some (.int (nI ax)), some (.int (nI 1)), some (.int (nI k9)), some (.int (nI (cnA S k9 0))), some (.int (nI 0)), some (.int (nI (cnS S 2))), some (.int (nI T))]) rfl ?_
      refine z_iload C dL_law_421 rfl ?_
      refine z_nif_ne_t C 441 dL_law_423 (by decide) (by omega) (by omega) ?_
      refine z_iload C dL_law_441 rfl ?_
      refine z_iload C dL_law_443 rfl ?_
      refine z_aload_n C 1 dL_law_445 rfl rfl ?_
      refine z_iconst C (nI 4) dL_law_446 (by decide) ?_
      refine z_callVr C kX5_count gL_law_X5_count (l_cntK X.2.1 x0 h0 h1 w0 w1 t S' o' kp' ln ps 3 hG' (by decide)) dL_law_447 [0, 1, 2, 3, 4, 5, 6, 7, 8, 9, 51] [.int (nI (cnA S k9 0)), .int (nI T)] 0 rfl nd_0_1_2_3_4_5_6_7_8_9_51 rfl rfl rfl (by decide) (by decide) (Nat.le_of_ble_eq_true rfl) rfl ?_
      have hg_6 : cnS S' 3 ≤ mK S' := zc_le _ _
      refine z_isub C dL_law_450 ?_
      refine z_icmp_lt_f C 503 dL_law_451 (by decide) (law_lt f4 hT (by omega) (by omega)) ?_
      refine z_aload_n C 1 dL_law_454 rfl rfl ?_
      refine z_iload C dL_law_455 rfl ?_
      refine z_nif_eq_t C 464 dL_law_457 (by decide) (by omega) (by omega) ?_
      refine z_iconst C (nI 3) dL_law_464 (by decide) ?_
      refine z_callVr C kX5_count gL_law_X5_count (l_cntK X.2.1 x0 h0 h1 w0 w1 t S' o' kp' ln ps 2 hG' (by decide)) dL_law_465 [0, 1, 2, 3, 4, 5, 6, 7, 8, 9, 51] [] 0 rfl nd_0_1_2_3_4_5_6_7_8_9_51 rfl rfl rfl (by decide) (by decide) (Nat.le_of_ble_eq_true rfl) rfl ?_
      have hg_7 : cnS S' 2 ≤ mK S' := zc_le _ _
      refine z_iload C dL_law_468 rfl ?_
      refine z_iload C dL_law_470 rfl ?_
      refine z_iadd C dL_law_472 ?_
      refine z_top (y := nI ((cnS S 2) + T)) (nI_add _ _) ?_
      refine z_ncmp_ne_f C 503 dL_law_473 (by decide) (by omega) (by omega) (by omega) ?_
      refine z_iload C dL_law_476 rfl ?_
      refine z_nif_ge_t C 489 dL_law_478 (by decide) (by omega) (by trivial) ?_
      refine z_aload_n C 1 dL_law_489 rfl rfl ?_
      refine z_iload C dL_law_490 rfl ?_
      refine z_iconst C (nI 0) dL_law_492 (by decide) ?_
      refine z_callVr C kX5_author gL_law_X5_author (l_aut X.2.1 x0 h0 w0 t S' k9 0 hG' hk9 (by decide)) dL_law_493 [0, 1, 2, 3, 4, 5, 6, 7, 8] [] 0 rfl nd_0_1_2_3_4_5_6_7_8 rfl rfl rfl (by decide) (by decide) (Nat.le_of_ble_eq_true rfl) rfl ?_
      have hg_8 : cnA S' k9 0 ≤ mK S' := zc_le _ _
      refine z_nif_ne_f C 503 dL_law_496 (by decide) (by omega) (by omega) ?_
      refine z_iconst C (nI 1) dL_law_499 (by decide) ?_
      refine z_goto C 504 dL_law_500 (by decide) ?_
      refine z_istore C dL_law_504 (Nat.le_of_ble_eq_true rfl) ?_
      refine z_lv (lv' := [some (.ref b), some (.ref x0), some (.int (nI e)), some (.int g), some (.int h), some (.int (nI 14)), some (.int (nI au)), some (.int (nI ax)), some (.int (nI 1)), some (.int (nI k9)), some (.int (nI (cnA S k9 0))), some (.int (nI 0)), some (.int (nI (cnS S 2))), some (.int (nI T))]) rfl ?_
      exact law_tail M C he IH _ _ _ _ _ _ _ _ _ _ _ _ _ _ _ _ _ (GG_mono hG' (by omega)) ho' hk' hln htx
  · refine z_iconst C (nI 1) dL_law_388 (by decide) ?_
    refine z_goto C 393 dL_law_389 (by decide) ?_
    refine z_istore C dL_law_393 (Nat.le_of_ble_eq_true rfl) ?_
    refine z_lv (lv' := [some (.ref b), some (.ref x0), some (.int (nI e)), some (.int g), some (.int h), some (.int (nI 14)), some (.int (nI au)), some (.int (nI ax)), some (.int (nI 1)), some (.int (nI k9)), some (.int (nI (cnA S k9 0))), some (.int (nI 1)), none, none]) rfl ?_
    refine z_aload_n C 1 dL_law_395 rfl rfl ?_
    refine z_iload C dL_law_396 rfl ?_
    refine z_nif_eq_f C 405 dL_law_398 (by decide) (by omega) (by omega) ?_
    refine z_iconst C (nI 2) dL_law_401 (by decide) ?_
    refine z_goto C 406 dL_law_402 (by decide) ?_
    refine z_callVr C kX5_count gL_law_X5_count (l_cntK X.2.1 x0 h0 h1 w0 w1 t S o kp ln ps 1 hG (by decide)) dL_law_406 [0, 1, 2, 3, 4, 5, 6, 7, 8, 9, 51] [] 0 rfl nd_0_1_2_3_4_5_6_7_8_9_51 rfl rfl rfl (by decide) (by decide) (Nat.le_of_ble_eq_true rfl) rfl ?_
    have hg_9 : cnS S 1 ≤ mK S := zc_le _ _
    refine z_istore C dL_law_409 (Nat.le_of_ble_eq_true rfl) ?_
    refine z_lv (lv' := [some (.ref b), some (.ref x0), some (.int (nI e)), some (.int g), some (.int h), some (.int (nI 14)), some (.int (nI au)), some (.int (nI ax)), some (.int (nI 1)), some (.int (nI k9)), some (.int (nI (cnA S k9 0))), some (.int (nI 1)), some (.int (nI (cnS S 1))), none]) rfl ?_
    refine z_aload_n C 1 dL_law_411 rfl rfl ?_
    refine z_iload C dL_law_412 rfl ?_
    refine z_iload C dL_law_414 rfl ?_
    rcases Nat.eq_zero_or_pos (cnA S k9 0) with hq_10 | hq_10
    · refine z_callV (wn := (WRd X.2.1 x0 h0 h1 w0 w1 t r S o kp Q tx ln ps)) C kX5_settle gL_law_X5_settle (law_n2 X.2.1 x0 h0 h1 w0 t r S o kp Q true k9 hG ho hk hk9 hq_10) dL_law_416 [0, 1, 2, 3, 4, 5, 6, 7, 8, 9, 10, 11, 12, 13, 14, 15, 16, 17, 18, 19, 20, 21, 22, 23, 24, 25, 26, 27, 28, 29, 30, 31, 32, 33, 34, 35, 36, 37, 38, 39, 40, 41, 42, 43, 44, 45, 46, 47, 48, 49, 50] [] 0 rfl rfl nd_0_1_2_3_4_5_6_7_8_9_10_11_12_13_14_15_16_17_18_19_20_21_22_23_24_25_26_27_28_29_30_31_32_33_34_35_36_37_38_39_40_41_42_43_44_45_46_47_48_49_50 rfl rfl rfl (by decide) (by decide) (Nat.le_of_ble_eq_true rfl) rfl ((zput_par nd_0_1_2_3_4_5_6_7_8_9_10_11_12_13_14_15_16_17_18_19_20_21_22_23_24_25_26_27_28_29_30_31_32_33_34_35_36_37_38_39_40_41_42_43_44_45_46_47_48_49_50 rfl).trans rfl) ?_
      refine z_istore C dL_law_419 (Nat.le_of_ble_eq_true rfl) ?_
      refine z_lv (lv' := [some (.ref b), some (.ref x0), some (.int (nI e)), some (.int g), some (.int h), some (.int (nI 14)), some (.int (nI au)), some (.int (nI ax)), some (.int (nI 1)), some (.int (nI k9)), some (.int (nI (cnA S k9 0))), some (.int (nI 1)), some (.int (nI (cnS S 1))), some (.int (-4))]) rfl ?_
      refine z_iload C dL_law_421 rfl ?_
      refine z_nif_ne_f C 441 dL_law_423 (by decide) (by omega) (by omega) ?_
      refine z_iload C dL_law_426 rfl ?_
      refine z_bipush C (-4) dL_law_428 (by decide) ?_
      refine z_icmp_ne_f C 437 dL_law_430 (by decide) rfl ?_
      refine z_iconst C (nI 1) dL_law_433 (by decide) ?_
      refine z_goto C 504 dL_law_434 (by decide) ?_
      refine z_istore C dL_law_504 (Nat.le_of_ble_eq_true rfl) ?_
      refine z_lv (lv' := [some (.ref b), some (.ref x0), some (.int (nI e)), some (.int g), some (.int h), some (.int (nI 14)), some (.int (nI au)), some (.int (nI ax)), some (.int (nI 1)), some (.int (nI k9)), some (.int (nI (cnA S k9 0))), some (.int (nI 1)), some (.int (nI (cnS S 1))), some (.int (-4))]) rfl ?_
      exact law_tail M C he IH _ _ _ _ _ _ _ _ _ _ _ _ _ _ _ _ _ (GG_mono hG (by omega)) ho hk hln htx
    · obtain ⟨S', o', kp', Q', T, hG', ho', hk', hT, f1, f2, f3, f4, hM⟩ := law_s2 X.2.1 x0 h0 h1 w0 t r S o kp Q true k9 hG ho hk hk9 hq_10
      replace f3 : cnS S' 1 = cnS S 1 + T := f3
      refine z_callV (wn := (WRd X.2.1 x0 h0 h1 w0 w1 t r S' o' kp' Q' tx ln ps)) C kX5_settle gL_law_X5_settle hM dL_law_416 [0, 1, 2, 3, 4, 5, 6, 7, 8, 9, 10, 11, 12, 13, 14, 15, 16, 17, 18, 19, 20, 21, 22, 23, 24, 25, 26, 27, 28, 29, 30, 31, 32, 33, 34, 35, 36, 37, 38, 39, 40, 41, 42, 43, 44, 45, 46, 47, 48, 49, 50] [] 0 rfl rfl nd_0_1_2_3_4_5_6_7_8_9_10_11_12_13_14_15_16_17_18_19_20_21_22_23_24_25_26_27_28_29_30_31_32_33_34_35_36_37_38_39_40_41_42_43_44_45_46_47_48_49_50 rfl rfl rfl (by decide) (by decide) (Nat.le_of_ble_eq_true rfl) rfl ((zput_par nd_0_1_2_3_4_5_6_7_8_9_10_11_12_13_14_15_16_17_18_19_20_21_22_23_24_25_26_27_28_29_30_31_32_33_34_35_36_37_38_39_40_41_42_43_44_45_46_47_48_49_50 rfl).trans rfl) ?_
      refine z_istore C dL_law_419 (Nat.le_of_ble_eq_true rfl) ?_
      refine z_lv (lv' := [some (.ref b), some (.ref x0), some (.int (nI e)), some (.int g), some (.int h), some (.int (nI 14)), some (.int (nI au)), some (.int (nI ax)), some (.int (nI 1)), some (.int (nI k9)), some (.int (nI (cnA S k9 0))), some (.int (nI 1)), some (.int (nI (cnS S 1))), some (.int (nI T))]) rfl ?_
      refine z_iload C dL_law_421 rfl ?_
      refine z_nif_ne_t C 441 dL_law_423 (by decide) (by omega) (by omega) ?_
      refine z_iload C dL_law_441 rfl ?_
      refine z_iload C dL_law_443 rfl ?_
      refine z_aload_n C 1 dL_law_445 rfl rfl ?_
      refine z_iconst C (nI 4) dL_law_446 (by decide) ?_
      refine z_callVr C kX5_count gL_law_X5_count (l_cntK X.2.1 x0 h0 h1 w0 w1 t S' o' kp' ln ps 3 hG' (by decide)) dL_law_447 [0, 1, 2, 3, 4, 5, 6, 7, 8, 9, 51] [.int (nI (cnA S k9 0)), .int (nI T)] 0 rfl nd_0_1_2_3_4_5_6_7_8_9_51 rfl rfl rfl (by decide) (by decide) (Nat.le_of_ble_eq_true rfl) rfl ?_
      have hg_11 : cnS S' 3 ≤ mK S' := zc_le _ _
      refine z_isub C dL_law_450 ?_
      refine z_icmp_lt_f C 503 dL_law_451 (by decide) (law_lt f4 hT (by omega) (by omega)) ?_
      refine z_aload_n C 1 dL_law_454 rfl rfl ?_
      refine z_iload C dL_law_455 rfl ?_
      refine z_nif_eq_f C 464 dL_law_457 (by decide) (by omega) (by omega) ?_
      refine z_iconst C (nI 2) dL_law_460 (by decide) ?_
      refine z_goto C 465 dL_law_461 (by decide) ?_
      refine z_callVr C kX5_count gL_law_X5_count (l_cntK X.2.1 x0 h0 h1 w0 w1 t S' o' kp' ln ps 1 hG' (by decide)) dL_law_465 [0, 1, 2, 3, 4, 5, 6, 7, 8, 9, 51] [] 0 rfl nd_0_1_2_3_4_5_6_7_8_9_51 rfl rfl rfl (by decide) (by decide) (Nat.le_of_ble_eq_true rfl) rfl ?_
      have hg_12 : cnS S' 1 ≤ mK S' := zc_le _ _
      refine z_iload C dL_law_468 rfl ?_
      refine z_iload C dL_law_470 rfl ?_
      refine z_iadd C dL_law_472 ?_
      refine z_top (y := nI ((cnS S 1) + T)) (nI_add _ _) ?_
      refine z_ncmp_ne_f C 503 dL_law_473 (by decide) (by omega) (by omega) (by omega) ?_
      refine z_iload C dL_law_476 rfl ?_
      refine z_nif_ge_t C 489 dL_law_478 (by decide) (by omega) (by trivial) ?_
      refine z_aload_n C 1 dL_law_489 rfl rfl ?_
      refine z_iload C dL_law_490 rfl ?_
      refine z_iconst C (nI 0) dL_law_492 (by decide) ?_
      refine z_callVr C kX5_author gL_law_X5_author (l_aut X.2.1 x0 h0 w0 t S' k9 0 hG' hk9 (by decide)) dL_law_493 [0, 1, 2, 3, 4, 5, 6, 7, 8] [] 0 rfl nd_0_1_2_3_4_5_6_7_8 rfl rfl rfl (by decide) (by decide) (Nat.le_of_ble_eq_true rfl) rfl ?_
      have hg_13 : cnA S' k9 0 ≤ mK S' := zc_le _ _
      refine z_nif_ne_f C 503 dL_law_496 (by decide) (by omega) (by omega) ?_
      refine z_iconst C (nI 1) dL_law_499 (by decide) ?_
      refine z_goto C 504 dL_law_500 (by decide) ?_
      refine z_istore C dL_law_504 (Nat.le_of_ble_eq_true rfl) ?_
      refine z_lv (lv' := [some (.ref b), some (.ref x0), some (.int (nI e)), some (.int g), some (.int h), some (.int (nI 14)), some (.int (nI au)), some (.int (nI ax)), some (.int (nI 1)), some (.int (nI k9)), some (.int (nI (cnA S k9 0))), some (.int (nI 1)), some (.int (nI (cnS S 1))), some (.int (nI T))]) rfl ?_
      exact law_tail M C he IH _ _ _ _ _ _ _ _ _ _ _ _ _ _ _ _ _ (GG_mono hG' (by omega)) ho' hk' hln htx
