/-! the law: its cases -/
theorem ndL_A : va_nd [0, 1, 2, 3, 4, 5, 6, 7, 8, 9, 10, 11, 12, 13, 14, 15, 16, 17, 18, 19, 20, 21, 22, 23, 24, 25, 26, 27, 28, 29, 30, 31, 32, 33, 34, 35, 36, 37, 38, 39, 40, 41, 42, 43, 44, 45, 46, 47, 48, 49, 50] = true := by decide +kernel
theorem ndL_R : va_nd [0, 1, 2, 3, 4, 5, 6, 7, 8, 9, 10, 11, 12, 13, 14, 15, 16, 17, 18, 19, 20, 21, 22, 23, 24, 25, 26, 27, 28, 29, 30, 31, 32, 33, 34, 35, 36, 37, 38, 39, 40, 41, 42, 43, 44, 45, 46, 47, 48, 49, 50, 51, 52] = true := by decide +kernel
theorem ndL_T : va_nd [0, 1, 2, 3, 4, 5, 6, 7, 8] = true := by decide +kernel
theorem ndL_X : va_nd [0, 51, 52] = true := by decide +kernel
theorem ndL_C : va_nd [0, 1, 2, 3, 4, 5, 6, 7, 8, 9, 51] = true := by decide +kernel
theorem ndL_9 : va_nd [53, 54, 55, 56] = true := by decide +kernel
theorem ndL_N : va_nd [53, 54, 55, 56, 57, 58] = true := by decide +kernel
theorem ndL_M : va_nd [53, 54] = true := by decide +kernel
theorem ndL_Y : va_nd [53, 57] = true := by decide +kernel
/-- what the law's loop comes to at index i, with names below B -/
def LI (X : zX) (kk nn b x0 h0 h1 w0 w1 : Nat) (t : Nat → Nat) (r : Nat → Nat → Nat) (a : Nat → Nat) (i B : Nat) : Prop := ∀ (S : zSt) (o kp : Nat) (Q : Nat → zSt) (tx : Nat → Nat) (ln : Nat) (ps : zPs) (pl : Nat) (gd : Bool) (od : Nat) (sm um : zMs) (Qm : Nat → zMs) (oo : Nat → Int32), RR S sm B → HH o kp Q Qm B → TX tx ln → zG X kk nn (LWd X.2.1 x0 h0 h1 w0 w1 t r a S o kp Q tx ln ps pl gd od sm um Qm oo kp tx ln) [some (.ref b), some (.ref x0), some (.ref (a 0)), some (.int (nI i))] [] 18
/-- a character out of an int -/
theorem law_ch (x : Int32) : ∃ c, c < 65536 ∧ (x.toUInt32 % 65536).toInt32 = nI c := by
  refine ⟨(x.toUInt32 % 65536).toNat, ?_, ?_⟩
  · rw [UInt32.toNat_mod]
    exact Nat.mod_lt _ (by decide)
  · apply Int32.toBitVec_inj.mp
    show (x.toUInt32 % 65536).toBitVec = BitVec.ofNat 32 (x.toUInt32 % 65536).toNat
    exact (BitVec.ofNat_toNat 32 (x.toUInt32 % 65536).toBitVec).symm
set_option maxHeartbeats 4000000 in
set_option maxRecDepth 100000 in
theorem law_track {X : zX} {kk nn : Nat} (C : zC X kk nn code RL wsL_law 10) {b L : Nat} {xs : Nat → Int32} (La : zLa X b L xs) (hL : L ≤ 2560) (x0 h0 h1 w0 w1 : Nat) (t : Nat → Nat) (r : Nat → Nat → Nat) (a : Nat → Nat) (S : zSt) (o kp : Nat) (Q : Nat → zSt) (tx : Nat → Nat) (ln : Nat) (ps : zPs) (pl : Nat) (gd : Bool) (od : Nat) (sm um : zMs) (Qm : Nat → zMs) (oo : Nat → Int32) (i B : Nat) (hR : RR S sm B) (hH : HH o kp Q Qm B) (hT : TX tx ln) (hB : B < 2147483500) (hi : i + 5 ≤ L) (IH : LI X kk nn b x0 h0 h1 w0 w1 t r a (i + 5) (B + 61)) : zG X kk nn (LWd X.2.1 x0 h0 h1 w0 w1 t r a S o kp Q tx ln ps pl gd od sm um Qm oo kp tx ln) [some (.ref b), some (.ref x0), some (.ref (a 0)), some (.int (nI i))] [] 132 := by
  by_cases hb9 : xs (i + 1) = 0
  · obtain ⟨v, S', o', kp', Q', s', u', Qm', m5, m6, hR', hH'⟩ := pr_track X.2.1 x0 h0 h1 w0 t r a ln pl gd od (u := um) hR hH  false
    refine z_aload_n C 1 dL_law_132 rfl rfl ?_
    refine z_aload_n C 0 dL_law_133 rfl rfl ?_
    refine z_iload_n C 3 dL_law_134 rfl rfl ?_
    refine z_iconst C (nI 1) dL_law_135 (by decide) ?_
    refine z_iadd C dL_law_136 ?_
    refine z_top (y := nI (i + 1)) (nI_add _ _) ?_
    refine z_sld C La (by omega) (by omega) dL_law_137 ?_
    refine z_if_eq_t C 145 dL_law_138 (by decide) hb9 ?_
    refine z_iconst C (nI 0) dL_law_145 (by decide) ?_
    refine z_callV (wn := LWd X.2.1 x0 h0 h1 w0 w1 t r a S' o' kp' Q' tx ln ps pl gd od sm um Qm oo kp tx ln) C kX5_track gL_law_X5_track m5 dL_law_146 [0, 1, 2, 3, 4, 5, 6, 7, 8, 9, 10, 11, 12, 13, 14, 15, 16, 17, 18, 19, 20, 21, 22, 23, 24, 25, 26, 27, 28, 29, 30, 31, 32, 33, 34, 35, 36, 37, 38, 39, 40, 41, 42, 43, 44, 45, 46, 47, 48, 49, 50] [] 0 rfl rfl ndL_A rfl rfl rfl (by decide) (by decide) (Nat.le_of_ble_eq_true rfl) rfl ((zput_par ndL_A rfl).trans rfl) ?_
    refine z_aload_n C 2 dL_law_149 rfl rfl ?_
    refine z_aload_n C 0 dL_law_150 rfl rfl ?_
    refine z_iload_n C 3 dL_law_151 rfl rfl ?_
    refine z_iconst C (nI 1) dL_law_152 (by decide) ?_
    refine z_iadd C dL_law_153 ?_
    refine z_top (y := nI (i + 1)) (nI_add _ _) ?_
    refine z_sld C La (by omega) (by omega) dL_law_154 ?_
    refine z_if_eq_t C 162 dL_law_155 (by decide) hb9 ?_
    refine z_iconst C (nI 0) dL_law_162 (by decide) ?_
    refine z_callV (wn := LWd X.2.1 x0 h0 h1 w0 w1 t r a S' o' kp' Q' tx ln ps pl gd od s' u' Qm' oo kp' tx ln) C kX6_track gL_law_X6_track m6 dL_law_163 [53, 54, 55, 56] [.int v] 53 rfl rfl ndL_9 rfl rfl rfl (by decide) (by decide) (Nat.le_of_ble_eq_true rfl) rfl ((zput_par ndL_9 rfl).trans rfl) ?_
    refine z_icmp_eq_t C 809 dL_law_166 (by decide) rfl ?_
    refine z_iinc C (nI (i + 5)) dL_law_809 rfl (zi_5 _) ?_
    refine z_goto C 18 dL_law_812 (by decide) ?_
    exact IH S' o' kp' Q' tx ln ps pl gd od s' u' Qm' oo hR' hH' hT
  · obtain ⟨v, S', o', kp', Q', s', u', Qm', m5, m6, hR', hH'⟩ := pr_track X.2.1 x0 h0 h1 w0 t r a ln pl gd od (u := um) hR hH  true
    refine z_aload_n C 1 dL_law_132 rfl rfl ?_
    refine z_aload_n C 0 dL_law_133 rfl rfl ?_
    refine z_iload_n C 3 dL_law_134 rfl rfl ?_
    refine z_iconst C (nI 1) dL_law_135 (by decide) ?_
    refine z_iadd C dL_law_136 ?_
    refine z_top (y := nI (i + 1)) (nI_add _ _) ?_
    refine z_sld C La (by omega) (by omega) dL_law_137 ?_
    refine z_if_eq_f C 145 dL_law_138 (by decide) hb9 ?_
    refine z_iconst C (nI 1) dL_law_141 (by decide) ?_
    refine z_goto C 146 dL_law_142 (by decide) ?_
    refine z_callV (wn := LWd X.2.1 x0 h0 h1 w0 w1 t r a S' o' kp' Q' tx ln ps pl gd od sm um Qm oo kp tx ln) C kX5_track gL_law_X5_track m5 dL_law_146 [0, 1, 2, 3, 4, 5, 6, 7, 8, 9, 10, 11, 12, 13, 14, 15, 16, 17, 18, 19, 20, 21, 22, 23, 24, 25, 26, 27, 28, 29, 30, 31, 32, 33, 34, 35, 36, 37, 38, 39, 40, 41, 42, 43, 44, 45, 46, 47, 48, 49, 50] [] 0 rfl rfl ndL_A rfl rfl rfl (by decide) (by decide) (Nat.le_of_ble_eq_true rfl) rfl ((zput_par ndL_A rfl).trans rfl) ?_
    refine z_aload_n C 2 dL_law_149 rfl rfl ?_
    refine z_aload_n C 0 dL_law_150 rfl rfl ?_
    refine z_iload_n C 3 dL_law_151 rfl rfl ?_
    refine z_iconst C (nI 1) dL_law_152 (by decide) ?_
    refine z_iadd C dL_law_153 ?_
    refine z_top (y := nI (i + 1)) (nI_add _ _) ?_
    refine z_sld C La (by omega) (by omega) dL_law_154 ?_
    refine z_if_eq_f C 162 dL_law_155 (by decide) hb9 ?_
    refine z_iconst C (nI 1) dL_law_158 (by decide) ?_
    refine z_goto C 163 dL_law_159 (by decide) ?_
    refine z_callV (wn := LWd X.2.1 x0 h0 h1 w0 w1 t r a S' o' kp' Q' tx ln ps pl gd od s' u' Qm' oo kp' tx ln) C kX6_track gL_law_X6_track m6 dL_law_163 [53, 54, 55, 56] [.int v] 53 rfl rfl ndL_9 rfl rfl rfl (by decide) (by decide) (Nat.le_of_ble_eq_true rfl) rfl ((zput_par ndL_9 rfl).trans rfl) ?_
    refine z_icmp_eq_t C 809 dL_law_166 (by decide) rfl ?_
    refine z_iinc C (nI (i + 5)) dL_law_809 rfl (zi_5 _) ?_
    refine z_goto C 18 dL_law_812 (by decide) ?_
    exact IH S' o' kp' Q' tx ln ps pl gd od s' u' Qm' oo hR' hH' hT

set_option maxHeartbeats 4000000 in
set_option maxRecDepth 100000 in
theorem law_insert {X : zX} {kk nn : Nat} (C : zC X kk nn code RL wsL_law 10) {b L : Nat} {xs : Nat → Int32} (La : zLa X b L xs) (hL : L ≤ 2560) (x0 h0 h1 w0 w1 : Nat) (t : Nat → Nat) (r : Nat → Nat → Nat) (a : Nat → Nat) (S : zSt) (o kp : Nat) (Q : Nat → zSt) (tx : Nat → Nat) (ln : Nat) (ps : zPs) (pl : Nat) (gd : Bool) (od : Nat) (sm um : zMs) (Qm : Nat → zMs) (oo : Nat → Int32) (i B : Nat) (hR : RR S sm B) (hH : HH o kp Q Qm B) (hT : TX tx ln) (hB : B < 2147483500) (hi : i + 5 ≤ L) (IH : LI X kk nn b x0 h0 h1 w0 w1 t r a (i + 5) (B + 61)) : zG X kk nn (LWd X.2.1 x0 h0 h1 w0 w1 t r a S o kp Q tx ln ps pl gd od sm um Qm oo kp tx ln) [some (.ref b), some (.ref x0), some (.ref (a 0)), some (.int (nI i))] [] 171 := by
  obtain ⟨v, S', o', kp', Q', s', u', Qm', m5, m6, hR', hH'⟩ := pr_insert X.2.1 x0 h0 h1 w0 t r a ln pl gd od (u := um) hR hH hB (xs (i + 1)) (xs (i + 2)) (xs (i + 3))
  refine z_aload_n C 1 dL_law_171 rfl rfl ?_
  refine z_aload_n C 0 dL_law_172 rfl rfl ?_
  refine z_iload_n C 3 dL_law_173 rfl rfl ?_
  refine z_iconst C (nI 1) dL_law_174 (by decide) ?_
  refine z_iadd C dL_law_175 ?_
  refine z_top (y := nI (i + 1)) (nI_add _ _) ?_
  refine z_sld C La (by omega) (by omega) dL_law_176 ?_
  refine z_aload_n C 0 dL_law_177 rfl rfl ?_
  refine z_iload_n C 3 dL_law_178 rfl rfl ?_
  refine z_iconst C (nI 2) dL_law_179 (by decide) ?_
  refine z_iadd C dL_law_180 ?_
  refine z_top (y := nI (i + 2)) (nI_add _ _) ?_
  refine z_sld C La (by omega) (by omega) dL_law_181 ?_
  refine z_aload_n C 0 dL_law_182 rfl rfl ?_
  refine z_iload_n C 3 dL_law_183 rfl rfl ?_
  refine z_iconst C (nI 3) dL_law_184 (by decide) ?_
  refine z_iadd C dL_law_185 ?_
  refine z_top (y := nI (i + 3)) (nI_add _ _) ?_
  refine z_sld C La (by omega) (by omega) dL_law_186 ?_
  refine z_callV (wn := LWd X.2.1 x0 h0 h1 w0 w1 t r a S' o' kp' Q' tx ln ps pl gd od sm um Qm oo kp tx ln) C kX5_insert gL_law_X5_insert m5 dL_law_187 [0, 1, 2, 3, 4, 5, 6, 7, 8, 9, 10, 11, 12, 13, 14, 15, 16, 17, 18, 19, 20, 21, 22, 23, 24, 25, 26, 27, 28, 29, 30, 31, 32, 33, 34, 35, 36, 37, 38, 39, 40, 41, 42, 43, 44, 45, 46, 47, 48, 49, 50] [] 0 rfl rfl ndL_A rfl rfl rfl (by decide) (by decide) (Nat.le_of_ble_eq_true rfl) rfl ((zput_par ndL_A rfl).trans rfl) ?_
  refine z_aload_n C 2 dL_law_190 rfl rfl ?_
  refine z_aload_n C 0 dL_law_191 rfl rfl ?_
  refine z_iload_n C 3 dL_law_192 rfl rfl ?_
  refine z_iconst C (nI 1) dL_law_193 (by decide) ?_
  refine z_iadd C dL_law_194 ?_
  refine z_top (y := nI (i + 1)) (nI_add _ _) ?_
  refine z_sld C La (by omega) (by omega) dL_law_195 ?_
  refine z_aload_n C 0 dL_law_196 rfl rfl ?_
  refine z_iload_n C 3 dL_law_197 rfl rfl ?_
  refine z_iconst C (nI 2) dL_law_198 (by decide) ?_
  refine z_iadd C dL_law_199 ?_
  refine z_top (y := nI (i + 2)) (nI_add _ _) ?_
  refine z_sld C La (by omega) (by omega) dL_law_200 ?_
  refine z_aload_n C 0 dL_law_201 rfl rfl ?_
  refine z_iload_n C 3 dL_law_202 rfl rfl ?_
  refine z_iconst C (nI 3) dL_law_203 (by decide) ?_
  refine z_iadd C dL_law_204 ?_
  refine z_top (y := nI (i + 3)) (nI_add _ _) ?_
  refine z_sld C La (by omega) (by omega) dL_law_205 ?_
  refine z_callV (wn := LWd X.2.1 x0 h0 h1 w0 w1 t r a S' o' kp' Q' tx ln ps pl gd od s' u' Qm' oo kp' tx ln) C kX6_insert gL_law_X6_insert m6 dL_law_206 [53, 54, 55, 56] [.int v] 53 rfl rfl ndL_9 rfl rfl rfl (by decide) (by decide) (Nat.le_of_ble_eq_true rfl) rfl ((zput_par ndL_9 rfl).trans rfl) ?_
  refine z_icmp_eq_t C 809 dL_law_209 (by decide) rfl ?_
  refine z_iinc C (nI (i + 5)) dL_law_809 rfl (zi_5 _) ?_
  refine z_goto C 18 dL_law_812 (by decide) ?_
  exact IH S' o' kp' Q' tx ln ps pl gd od s' u' Qm' oo hR' hH' hT

set_option maxHeartbeats 4000000 in
set_option maxRecDepth 100000 in
theorem law_remove {X : zX} {kk nn : Nat} (C : zC X kk nn code RL wsL_law 10) {b L : Nat} {xs : Nat → Int32} (La : zLa X b L xs) (hL : L ≤ 2560) (x0 h0 h1 w0 w1 : Nat) (t : Nat → Nat) (r : Nat → Nat → Nat) (a : Nat → Nat) (S : zSt) (o kp : Nat) (Q : Nat → zSt) (tx : Nat → Nat) (ln : Nat) (ps : zPs) (pl : Nat) (gd : Bool) (od : Nat) (sm um : zMs) (Qm : Nat → zMs) (oo : Nat → Int32) (i B : Nat) (hR : RR S sm B) (hH : HH o kp Q Qm B) (hT : TX tx ln) (hB : B < 2147483500) (hi : i + 5 ≤ L) (IH : LI X kk nn b x0 h0 h1 w0 w1 t r a (i + 5) (B + 61)) : zG X kk nn (LWd X.2.1 x0 h0 h1 w0 w1 t r a S o kp Q tx ln ps pl gd od sm um Qm oo kp tx ln) [some (.ref b), some (.ref x0), some (.ref (a 0)), some (.int (nI i))] [] 214 := by
  obtain ⟨v, S', o', kp', Q', s', u', Qm', m5, m6, hR', hH'⟩ := pr_remove X.2.1 x0 h0 h1 w0 t r a ln pl gd od (u := um) hR hH hB (xs (i + 1)) (xs (i + 2)) (xs (i + 3))
  refine z_aload_n C 1 dL_law_214 rfl rfl ?_
  refine z_aload_n C 0 dL_law_215 rfl rfl ?_
  refine z_iload_n C 3 dL_law_216 rfl rfl ?_
  refine z_iconst C (nI 1) dL_law_217 (by decide) ?_
  refine z_iadd C dL_law_218 ?_
  refine z_top (y := nI (i + 1)) (nI_add _ _) ?_
  refine z_sld C La (by omega) (by omega) dL_law_219 ?_
  refine z_aload_n C 0 dL_law_220 rfl rfl ?_
  refine z_iload_n C 3 dL_law_221 rfl rfl ?_
  refine z_iconst C (nI 2) dL_law_222 (by decide) ?_
  refine z_iadd C dL_law_223 ?_
  refine z_top (y := nI (i + 2)) (nI_add _ _) ?_
  refine z_sld C La (by omega) (by omega) dL_law_224 ?_
  refine z_aload_n C 0 dL_law_225 rfl rfl ?_
  refine z_iload_n C 3 dL_law_226 rfl rfl ?_
  refine z_iconst C (nI 3) dL_law_227 (by decide) ?_
  refine z_iadd C dL_law_228 ?_
  refine z_top (y := nI (i + 3)) (nI_add _ _) ?_
  refine z_sld C La (by omega) (by omega) dL_law_229 ?_
  refine z_callV (wn := LWd X.2.1 x0 h0 h1 w0 w1 t r a S' o' kp' Q' tx ln ps pl gd od sm um Qm oo kp tx ln) C kX5_remove gL_law_X5_remove m5 dL_law_230 [0, 1, 2, 3, 4, 5, 6, 7, 8, 9, 10, 11, 12, 13, 14, 15, 16, 17, 18, 19, 20, 21, 22, 23, 24, 25, 26, 27, 28, 29, 30, 31, 32, 33, 34, 35, 36, 37, 38, 39, 40, 41, 42, 43, 44, 45, 46, 47, 48, 49, 50] [] 0 rfl rfl ndL_A rfl rfl rfl (by decide) (by decide) (Nat.le_of_ble_eq_true rfl) rfl ((zput_par ndL_A rfl).trans rfl) ?_
  refine z_aload_n C 2 dL_law_233 rfl rfl ?_
  refine z_aload_n C 0 dL_law_234 rfl rfl ?_
  refine z_iload_n C 3 dL_law_235 rfl rfl ?_
  refine z_iconst C (nI 1) dL_law_236 (by decide) ?_
  refine z_iadd C dL_law_237 ?_
  refine z_top (y := nI (i + 1)) (nI_add _ _) ?_
  refine z_sld C La (by omega) (by omega) dL_law_238 ?_
  refine z_aload_n C 0 dL_law_239 rfl rfl ?_
  refine z_iload_n C 3 dL_law_240 rfl rfl ?_
  refine z_iconst C (nI 2) dL_law_241 (by decide) ?_
  refine z_iadd C dL_law_242 ?_
  refine z_top (y := nI (i + 2)) (nI_add _ _) ?_
  refine z_sld C La (by omega) (by omega) dL_law_243 ?_
  refine z_aload_n C 0 dL_law_244 rfl rfl ?_
  refine z_iload_n C 3 dL_law_245 rfl rfl ?_
  refine z_iconst C (nI 3) dL_law_246 (by decide) ?_
  refine z_iadd C dL_law_247 ?_
  refine z_top (y := nI (i + 3)) (nI_add _ _) ?_
  refine z_sld C La (by omega) (by omega) dL_law_248 ?_
  refine z_callV (wn := LWd X.2.1 x0 h0 h1 w0 w1 t r a S' o' kp' Q' tx ln ps pl gd od s' u' Qm' oo kp' tx ln) C kX6_remove gL_law_X6_remove m6 dL_law_249 [53, 54, 55, 56] [.int v] 53 rfl rfl ndL_9 rfl rfl rfl (by decide) (by decide) (Nat.le_of_ble_eq_true rfl) rfl ((zput_par ndL_9 rfl).trans rfl) ?_
  refine z_icmp_eq_t C 809 dL_law_252 (by decide) rfl ?_
  refine z_iinc C (nI (i + 5)) dL_law_809 rfl (zi_5 _) ?_
  refine z_goto C 18 dL_law_812 (by decide) ?_
  exact IH S' o' kp' Q' tx ln ps pl gd od s' u' Qm' oo hR' hH' hT

set_option maxHeartbeats 4000000 in
set_option maxRecDepth 100000 in
theorem law_set {X : zX} {kk nn : Nat} (C : zC X kk nn code RL wsL_law 10) {b L : Nat} {xs : Nat → Int32} (La : zLa X b L xs) (hL : L ≤ 2560) (x0 h0 h1 w0 w1 : Nat) (t : Nat → Nat) (r : Nat → Nat → Nat) (a : Nat → Nat) (S : zSt) (o kp : Nat) (Q : Nat → zSt) (tx : Nat → Nat) (ln : Nat) (ps : zPs) (pl : Nat) (gd : Bool) (od : Nat) (sm um : zMs) (Qm : Nat → zMs) (oo : Nat → Int32) (i B : Nat) (hR : RR S sm B) (hH : HH o kp Q Qm B) (hT : TX tx ln) (hB : B < 2147483500) (hi : i + 5 ≤ L) (IH : LI X kk nn b x0 h0 h1 w0 w1 t r a (i + 5) (B + 61)) : zG X kk nn (LWd X.2.1 x0 h0 h1 w0 w1 t r a S o kp Q tx ln ps pl gd od sm um Qm oo kp tx ln) [some (.ref b), some (.ref x0), some (.ref (a 0)), some (.int (nI i))] [] 257 := by
  obtain ⟨v, S', o', kp', Q', s', u', Qm', m5, m6, hR', hH'⟩ := pr_set X.2.1 x0 h0 h1 w0 t r a ln pl gd od (u := um) hR hH (xs (i + 1)) (xs (i + 2)) (xs (i + 3)) (xs (i + 4))
  refine z_aload_n C 1 dL_law_257 rfl rfl ?_
  refine z_aload_n C 0 dL_law_258 rfl rfl ?_
  refine z_iload_n C 3 dL_law_259 rfl rfl ?_
  refine z_iconst C (nI 1) dL_law_260 (by decide) ?_
  refine z_iadd C dL_law_261 ?_
  refine z_top (y := nI (i + 1)) (nI_add _ _) ?_
  refine z_sld C La (by omega) (by omega) dL_law_262 ?_
  refine z_aload_n C 0 dL_law_263 rfl rfl ?_
  refine z_iload_n C 3 dL_law_264 rfl rfl ?_
  refine z_iconst C (nI 2) dL_law_265 (by decide) ?_
  refine z_iadd C dL_law_266 ?_
  refine z_top (y := nI (i + 2)) (nI_add _ _) ?_
  refine z_sld C La (by omega) (by omega) dL_law_267 ?_
  refine z_aload_n C 0 dL_law_268 rfl rfl ?_
  refine z_iload_n C 3 dL_law_269 rfl rfl ?_
  refine z_iconst C (nI 3) dL_law_270 (by decide) ?_
  refine z_iadd C dL_law_271 ?_
  refine z_top (y := nI (i + 3)) (nI_add _ _) ?_
  refine z_sld C La (by omega) (by omega) dL_law_272 ?_
  refine z_aload_n C 0 dL_law_273 rfl rfl ?_
  refine z_iload_n C 3 dL_law_274 rfl rfl ?_
  refine z_iconst C (nI 4) dL_law_275 (by decide) ?_
  refine z_iadd C dL_law_276 ?_
  refine z_top (y := nI (i + 4)) (nI_add _ _) ?_
  refine z_sld C La (by omega) (by omega) dL_law_277 ?_
  refine z_callV (wn := LWd X.2.1 x0 h0 h1 w0 w1 t r a S' o' kp' Q' tx ln ps pl gd od sm um Qm oo kp tx ln) C kX5_set gL_law_X5_set m5 dL_law_278 [0, 1, 2, 3, 4, 5, 6, 7, 8, 9, 10, 11, 12, 13, 14, 15, 16, 17, 18, 19, 20, 21, 22, 23, 24, 25, 26, 27, 28, 29, 30, 31, 32, 33, 34, 35, 36, 37, 38, 39, 40, 41, 42, 43, 44, 45, 46, 47, 48, 49, 50] [] 0 rfl rfl ndL_A rfl rfl rfl (by decide) (by decide) (Nat.le_of_ble_eq_true rfl) rfl ((zput_par ndL_A rfl).trans rfl) ?_
  refine z_aload_n C 2 dL_law_281 rfl rfl ?_
  refine z_aload_n C 0 dL_law_282 rfl rfl ?_
  refine z_iload_n C 3 dL_law_283 rfl rfl ?_
  refine z_iconst C (nI 1) dL_law_284 (by decide) ?_
  refine z_iadd C dL_law_285 ?_
  refine z_top (y := nI (i + 1)) (nI_add _ _) ?_
  refine z_sld C La (by omega) (by omega) dL_law_286 ?_
  refine z_aload_n C 0 dL_law_287 rfl rfl ?_
  refine z_iload_n C 3 dL_law_288 rfl rfl ?_
  refine z_iconst C (nI 2) dL_law_289 (by decide) ?_
  refine z_iadd C dL_law_290 ?_
  refine z_top (y := nI (i + 2)) (nI_add _ _) ?_
  refine z_sld C La (by omega) (by omega) dL_law_291 ?_
  refine z_aload_n C 0 dL_law_292 rfl rfl ?_
  refine z_iload_n C 3 dL_law_293 rfl rfl ?_
  refine z_iconst C (nI 3) dL_law_294 (by decide) ?_
  refine z_iadd C dL_law_295 ?_
  refine z_top (y := nI (i + 3)) (nI_add _ _) ?_
  refine z_sld C La (by omega) (by omega) dL_law_296 ?_
  refine z_aload_n C 0 dL_law_297 rfl rfl ?_
  refine z_iload_n C 3 dL_law_298 rfl rfl ?_
  refine z_iconst C (nI 4) dL_law_299 (by decide) ?_
  refine z_iadd C dL_law_300 ?_
  refine z_top (y := nI (i + 4)) (nI_add _ _) ?_
  refine z_sld C La (by omega) (by omega) dL_law_301 ?_
  refine z_callV (wn := LWd X.2.1 x0 h0 h1 w0 w1 t r a S' o' kp' Q' tx ln ps pl gd od s' u' Qm' oo kp' tx ln) C kX6_set gL_law_X6_set m6 dL_law_302 [53, 54, 55, 56] [.int v] 53 rfl rfl ndL_9 rfl rfl rfl (by decide) (by decide) (Nat.le_of_ble_eq_true rfl) rfl ((zput_par ndL_9 rfl).trans rfl) ?_
  refine z_icmp_eq_t C 809 dL_law_305 (by decide) rfl ?_
  refine z_iinc C (nI (i + 5)) dL_law_809 rfl (zi_5 _) ?_
  refine z_goto C 18 dL_law_812 (by decide) ?_
  exact IH S' o' kp' Q' tx ln ps pl gd od s' u' Qm' oo hR' hH' hT

set_option maxHeartbeats 4000000 in
set_option maxRecDepth 100000 in
theorem law_accept {X : zX} {kk nn : Nat} (C : zC X kk nn code RL wsL_law 10) {b L : Nat} {xs : Nat → Int32} (La : zLa X b L xs) (hL : L ≤ 2560) (x0 h0 h1 w0 w1 : Nat) (t : Nat → Nat) (r : Nat → Nat → Nat) (a : Nat → Nat) (S : zSt) (o kp : Nat) (Q : Nat → zSt) (tx : Nat → Nat) (ln : Nat) (ps : zPs) (pl : Nat) (gd : Bool) (od : Nat) (sm um : zMs) (Qm : Nat → zMs) (oo : Nat → Int32) (i B : Nat) (hR : RR S sm B) (hH : HH o kp Q Qm B) (hT : TX tx ln) (hB : B < 2147483500) (hi : i + 5 ≤ L) (IH : LI X kk nn b x0 h0 h1 w0 w1 t r a (i + 5) (B + 61)) : zG X kk nn (LWd X.2.1 x0 h0 h1 w0 w1 t r a S o kp Q tx ln ps pl gd od sm um Qm oo kp tx ln) [some (.ref b), some (.ref x0), some (.ref (a 0)), some (.int (nI i))] [] 310 := by
  obtain ⟨v, S', o', kp', Q', s', u', Qm', m5, m6, hR', hH'⟩ := pr_accept X.2.1 x0 h0 h1 w0 t r a ln pl gd od (u := um) hR hH (xs (i + 1))
  refine z_aload_n C 1 dL_law_310 rfl rfl ?_
  refine z_aload_n C 0 dL_law_311 rfl rfl ?_
  refine z_iload_n C 3 dL_law_312 rfl rfl ?_
  refine z_iconst C (nI 1) dL_law_313 (by decide) ?_
  refine z_iadd C dL_law_314 ?_
  refine z_top (y := nI (i + 1)) (nI_add _ _) ?_
  refine z_sld C La (by omega) (by omega) dL_law_315 ?_
  refine z_callV (wn := LWd X.2.1 x0 h0 h1 w0 w1 t r a S' o' kp' Q' tx ln ps pl gd od sm um Qm oo kp tx ln) C kX5_accept gL_law_X5_accept m5 dL_law_316 [0, 1, 2, 3, 4, 5, 6, 7, 8, 9, 10, 11, 12, 13, 14, 15, 16, 17, 18, 19, 20, 21, 22, 23, 24, 25, 26, 27, 28, 29, 30, 31, 32, 33, 34, 35, 36, 37, 38, 39, 40, 41, 42, 43, 44, 45, 46, 47, 48, 49, 50] [] 0 rfl rfl ndL_A rfl rfl rfl (by decide) (by decide) (Nat.le_of_ble_eq_true rfl) rfl ((zput_par ndL_A rfl).trans rfl) ?_
  refine z_aload_n C 2 dL_law_319 rfl rfl ?_
  refine z_aload_n C 0 dL_law_320 rfl rfl ?_
  refine z_iload_n C 3 dL_law_321 rfl rfl ?_
  refine z_iconst C (nI 1) dL_law_322 (by decide) ?_
  refine z_iadd C dL_law_323 ?_
  refine z_top (y := nI (i + 1)) (nI_add _ _) ?_
  refine z_sld C La (by omega) (by omega) dL_law_324 ?_
  refine z_callV (wn := LWd X.2.1 x0 h0 h1 w0 w1 t r a S' o' kp' Q' tx ln ps pl gd od s' u' Qm' oo kp' tx ln) C kX6_accept gL_law_X6_accept m6 dL_law_325 [53, 54, 55, 56] [.int v] 53 rfl rfl ndL_9 rfl rfl rfl (by decide) (by decide) (Nat.le_of_ble_eq_true rfl) rfl ((zput_par ndL_9 rfl).trans rfl) ?_
  refine z_icmp_eq_t C 809 dL_law_328 (by decide) rfl ?_
  refine z_iinc C (nI (i + 5)) dL_law_809 rfl (zi_5 _) ?_
  refine z_goto C 18 dL_law_812 (by decide) ?_
  exact IH S' o' kp' Q' tx ln ps pl gd od s' u' Qm' oo hR' hH' hT

set_option maxHeartbeats 4000000 in
set_option maxRecDepth 100000 in
theorem law_reject {X : zX} {kk nn : Nat} (C : zC X kk nn code RL wsL_law 10) {b L : Nat} {xs : Nat → Int32} (La : zLa X b L xs) (hL : L ≤ 2560) (x0 h0 h1 w0 w1 : Nat) (t : Nat → Nat) (r : Nat → Nat → Nat) (a : Nat → Nat) (S : zSt) (o kp : Nat) (Q : Nat → zSt) (tx : Nat → Nat) (ln : Nat) (ps : zPs) (pl : Nat) (gd : Bool) (od : Nat) (sm um : zMs) (Qm : Nat → zMs) (oo : Nat → Int32) (i B : Nat) (hR : RR S sm B) (hH : HH o kp Q Qm B) (hT : TX tx ln) (hB : B < 2147483500) (hi : i + 5 ≤ L) (IH : LI X kk nn b x0 h0 h1 w0 w1 t r a (i + 5) (B + 61)) : zG X kk nn (LWd X.2.1 x0 h0 h1 w0 w1 t r a S o kp Q tx ln ps pl gd od sm um Qm oo kp tx ln) [some (.ref b), some (.ref x0), some (.ref (a 0)), some (.int (nI i))] [] 333 := by
  obtain ⟨v, S', o', kp', Q', s', u', Qm', m5, m6, hR', hH'⟩ := pr_reject X.2.1 x0 h0 h1 w0 t r a ln pl gd od (u := um) hR hH (xs (i + 1))
  refine z_aload_n C 1 dL_law_333 rfl rfl ?_
  refine z_aload_n C 0 dL_law_334 rfl rfl ?_
  refine z_iload_n C 3 dL_law_335 rfl rfl ?_
  refine z_iconst C (nI 1) dL_law_336 (by decide) ?_
  refine z_iadd C dL_law_337 ?_
  refine z_top (y := nI (i + 1)) (nI_add _ _) ?_
  refine z_sld C La (by omega) (by omega) dL_law_338 ?_
  refine z_callV (wn := LWd X.2.1 x0 h0 h1 w0 w1 t r a S' o' kp' Q' tx ln ps pl gd od sm um Qm oo kp tx ln) C kX5_reject gL_law_X5_reject m5 dL_law_339 [0, 1, 2, 3, 4, 5, 6, 7, 8, 9, 10, 11, 12, 13, 14, 15, 16, 17, 18, 19, 20, 21, 22, 23, 24, 25, 26, 27, 28, 29, 30, 31, 32, 33, 34, 35, 36, 37, 38, 39, 40, 41, 42, 43, 44, 45, 46, 47, 48, 49, 50] [] 0 rfl rfl ndL_A rfl rfl rfl (by decide) (by decide) (Nat.le_of_ble_eq_true rfl) rfl ((zput_par ndL_A rfl).trans rfl) ?_
  refine z_aload_n C 2 dL_law_342 rfl rfl ?_
  refine z_aload_n C 0 dL_law_343 rfl rfl ?_
  refine z_iload_n C 3 dL_law_344 rfl rfl ?_
  refine z_iconst C (nI 1) dL_law_345 (by decide) ?_
  refine z_iadd C dL_law_346 ?_
  refine z_top (y := nI (i + 1)) (nI_add _ _) ?_
  refine z_sld C La (by omega) (by omega) dL_law_347 ?_
  refine z_callV (wn := LWd X.2.1 x0 h0 h1 w0 w1 t r a S' o' kp' Q' tx ln ps pl gd od s' u' Qm' oo kp' tx ln) C kX6_reject gL_law_X6_reject m6 dL_law_348 [53, 54, 55, 56] [.int v] 53 rfl rfl ndL_9 rfl rfl rfl (by decide) (by decide) (Nat.le_of_ble_eq_true rfl) rfl ((zput_par ndL_9 rfl).trans rfl) ?_
  refine z_icmp_eq_t C 809 dL_law_351 (by decide) rfl ?_
  refine z_iinc C (nI (i + 5)) dL_law_809 rfl (zi_5 _) ?_
  refine z_goto C 18 dL_law_812 (by decide) ?_
  exact IH S' o' kp' Q' tx ln ps pl gd od s' u' Qm' oo hR' hH' hT

set_option maxHeartbeats 4000000 in
set_option maxRecDepth 100000 in
theorem law_settle {X : zX} {kk nn : Nat} (C : zC X kk nn code RL wsL_law 10) {b L : Nat} {xs : Nat → Int32} (La : zLa X b L xs) (hL : L ≤ 2560) (x0 h0 h1 w0 w1 : Nat) (t : Nat → Nat) (r : Nat → Nat → Nat) (a : Nat → Nat) (S : zSt) (o kp : Nat) (Q : Nat → zSt) (tx : Nat → Nat) (ln : Nat) (ps : zPs) (pl : Nat) (gd : Bool) (od : Nat) (sm um : zMs) (Qm : Nat → zMs) (oo : Nat → Int32) (i B : Nat) (hR : RR S sm B) (hH : HH o kp Q Qm B) (hT : TX tx ln) (hB : B < 2147483500) (hi : i + 5 ≤ L) (IH : LI X kk nn b x0 h0 h1 w0 w1 t r a (i + 5) (B + 61)) : zG X kk nn (LWd X.2.1 x0 h0 h1 w0 w1 t r a S o kp Q tx ln ps pl gd od sm um Qm oo kp tx ln) [some (.ref b), some (.ref x0), some (.ref (a 0)), some (.int (nI i))] [] 356 := by
  by_cases hb9 : xs (i + 2) = 0
  · obtain ⟨v, S', o', kp', Q', s', u', Qm', m5, m6, hR', hH'⟩ := pr_settle X.2.1 x0 h0 h1 w0 t r a ln pl gd od (u := um) hR hH (xs (i + 1)) false
    refine z_aload_n C 1 dL_law_356 rfl rfl ?_
    refine z_aload_n C 0 dL_law_357 rfl rfl ?_
    refine z_iload_n C 3 dL_law_358 rfl rfl ?_
    refine z_iconst C (nI 1) dL_law_359 (by decide) ?_
    refine z_iadd C dL_law_360 ?_
    refine z_top (y := nI (i + 1)) (nI_add _ _) ?_
    refine z_sld C La (by omega) (by omega) dL_law_361 ?_
    refine z_aload_n C 0 dL_law_362 rfl rfl ?_
    refine z_iload_n C 3 dL_law_363 rfl rfl ?_
    refine z_iconst C (nI 2) dL_law_364 (by decide) ?_
    refine z_iadd C dL_law_365 ?_
    refine z_top (y := nI (i + 2)) (nI_add _ _) ?_
    refine z_sld C La (by omega) (by omega) dL_law_366 ?_
    refine z_if_eq_t C 374 dL_law_367 (by decide) hb9 ?_
    refine z_iconst C (nI 0) dL_law_374 (by decide) ?_
    refine z_callV (wn := LWd X.2.1 x0 h0 h1 w0 w1 t r a S' o' kp' Q' tx ln ps pl gd od sm um Qm oo kp tx ln) C kX5_settle gL_law_X5_settle m5 dL_law_375 [0, 1, 2, 3, 4, 5, 6, 7, 8, 9, 10, 11, 12, 13, 14, 15, 16, 17, 18, 19, 20, 21, 22, 23, 24, 25, 26, 27, 28, 29, 30, 31, 32, 33, 34, 35, 36, 37, 38, 39, 40, 41, 42, 43, 44, 45, 46, 47, 48, 49, 50] [] 0 rfl rfl ndL_A rfl rfl rfl (by decide) (by decide) (Nat.le_of_ble_eq_true rfl) rfl ((zput_par ndL_A rfl).trans rfl) ?_
    refine z_aload_n C 2 dL_law_378 rfl rfl ?_
    refine z_aload_n C 0 dL_law_379 rfl rfl ?_
    refine z_iload_n C 3 dL_law_380 rfl rfl ?_
    refine z_iconst C (nI 1) dL_law_381 (by decide) ?_
    refine z_iadd C dL_law_382 ?_
    refine z_top (y := nI (i + 1)) (nI_add _ _) ?_
    refine z_sld C La (by omega) (by omega) dL_law_383 ?_
    refine z_aload_n C 0 dL_law_384 rfl rfl ?_
    refine z_iload_n C 3 dL_law_385 rfl rfl ?_
    refine z_iconst C (nI 2) dL_law_386 (by decide) ?_
    refine z_iadd C dL_law_387 ?_
    refine z_top (y := nI (i + 2)) (nI_add _ _) ?_
    refine z_sld C La (by omega) (by omega) dL_law_388 ?_
    refine z_if_eq_t C 396 dL_law_389 (by decide) hb9 ?_
    refine z_iconst C (nI 0) dL_law_396 (by decide) ?_
    refine z_callV (wn := LWd X.2.1 x0 h0 h1 w0 w1 t r a S' o' kp' Q' tx ln ps pl gd od s' u' Qm' oo kp' tx ln) C kX6_settle gL_law_X6_settle m6 dL_law_397 [53, 54, 55, 56] [.int v] 53 rfl rfl ndL_9 rfl rfl rfl (by decide) (by decide) (Nat.le_of_ble_eq_true rfl) rfl ((zput_par ndL_9 rfl).trans rfl) ?_
    refine z_icmp_eq_t C 809 dL_law_400 (by decide) rfl ?_
    refine z_iinc C (nI (i + 5)) dL_law_809 rfl (zi_5 _) ?_
    refine z_goto C 18 dL_law_812 (by decide) ?_
    exact IH S' o' kp' Q' tx ln ps pl gd od s' u' Qm' oo hR' hH' hT
  · obtain ⟨v, S', o', kp', Q', s', u', Qm', m5, m6, hR', hH'⟩ := pr_settle X.2.1 x0 h0 h1 w0 t r a ln pl gd od (u := um) hR hH (xs (i + 1)) true
    refine z_aload_n C 1 dL_law_356 rfl rfl ?_
    refine z_aload_n C 0 dL_law_357 rfl rfl ?_
    refine z_iload_n C 3 dL_law_358 rfl rfl ?_
    refine z_iconst C (nI 1) dL_law_359 (by decide) ?_
    refine z_iadd C dL_law_360 ?_
    refine z_top (y := nI (i + 1)) (nI_add _ _) ?_
    refine z_sld C La (by omega) (by omega) dL_law_361 ?_
    refine z_aload_n C 0 dL_law_362 rfl rfl ?_
    refine z_iload_n C 3 dL_law_363 rfl rfl ?_
    refine z_iconst C (nI 2) dL_law_364 (by decide) ?_
    refine z_iadd C dL_law_365 ?_
    refine z_top (y := nI (i + 2)) (nI_add _ _) ?_
    refine z_sld C La (by omega) (by omega) dL_law_366 ?_
    refine z_if_eq_f C 374 dL_law_367 (by decide) hb9 ?_
    refine z_iconst C (nI 1) dL_law_370 (by decide) ?_
    refine z_goto C 375 dL_law_371 (by decide) ?_
    refine z_callV (wn := LWd X.2.1 x0 h0 h1 w0 w1 t r a S' o' kp' Q' tx ln ps pl gd od sm um Qm oo kp tx ln) C kX5_settle gL_law_X5_settle m5 dL_law_375 [0, 1, 2, 3, 4, 5, 6, 7, 8, 9, 10, 11, 12, 13, 14, 15, 16, 17, 18, 19, 20, 21, 22, 23, 24, 25, 26, 27, 28, 29, 30, 31, 32, 33, 34, 35, 36, 37, 38, 39, 40, 41, 42, 43, 44, 45, 46, 47, 48, 49, 50] [] 0 rfl rfl ndL_A rfl rfl rfl (by decide) (by decide) (Nat.le_of_ble_eq_true rfl) rfl ((zput_par ndL_A rfl).trans rfl) ?_
    refine z_aload_n C 2 dL_law_378 rfl rfl ?_
    refine z_aload_n C 0 dL_law_379 rfl rfl ?_
    refine z_iload_n C 3 dL_law_380 rfl rfl ?_
    refine z_iconst C (nI 1) dL_law_381 (by decide) ?_
    refine z_iadd C dL_law_382 ?_
    refine z_top (y := nI (i + 1)) (nI_add _ _) ?_
    refine z_sld C La (by omega) (by omega) dL_law_383 ?_
    refine z_aload_n C 0 dL_law_384 rfl rfl ?_
    refine z_iload_n C 3 dL_law_385 rfl rfl ?_
    refine z_iconst C (nI 2) dL_law_386 (by decide) ?_
    refine z_iadd C dL_law_387 ?_
    refine z_top (y := nI (i + 2)) (nI_add _ _) ?_
    refine z_sld C La (by omega) (by omega) dL_law_388 ?_
    refine z_if_eq_f C 396 dL_law_389 (by decide) hb9 ?_
    refine z_iconst C (nI 1) dL_law_392 (by decide) ?_
    refine z_goto C 397 dL_law_393 (by decide) ?_
    refine z_callV (wn := LWd X.2.1 x0 h0 h1 w0 w1 t r a S' o' kp' Q' tx ln ps pl gd od s' u' Qm' oo kp' tx ln) C kX6_settle gL_law_X6_settle m6 dL_law_397 [53, 54, 55, 56] [.int v] 53 rfl rfl ndL_9 rfl rfl rfl (by decide) (by decide) (Nat.le_of_ble_eq_true rfl) rfl ((zput_par ndL_9 rfl).trans rfl) ?_
    refine z_icmp_eq_t C 809 dL_law_400 (by decide) rfl ?_
    refine z_iinc C (nI (i + 5)) dL_law_809 rfl (zi_5 _) ?_
    refine z_goto C 18 dL_law_812 (by decide) ?_
    exact IH S' o' kp' Q' tx ln ps pl gd od s' u' Qm' oo hR' hH' hT
