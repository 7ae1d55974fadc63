set_option maxHeartbeats 400000 in
set_option maxRecDepth 100000 in
theorem mX6_count_7 (E : zE) (a : Nat → Nat) (kp ty pl : Nat) (gd : Bool) (od : Nat) (vU vS : Nat → Nat) (vN : Nat → Int32) (vX vM : Nat) (vT : Bool) (vB vK vY vZ vR vC vV : Nat → Int32)  (hO : okM vU vS vM vK) : zM E yX6_count wsX6_count 5 [.ref (a 0), .int (nI 7)] [((a 0), .inr (6, [.ref (a 1), .ref (a 2), .ref (a 3), .int (nI kp), .int (nI ty), .ref (a 4), .int (nI pl), .int (zb gd), .int (nI od), .ref (a 5)])), ((a 1), .inl (E.2.2.1, 512, .inl (mRow vU vS vN vX vM vT vB vK vY vZ vR vC vV)))] [((a 0), .inr (6, [.ref (a 1), .ref (a 2), .ref (a 3), .int (nI kp), .int (nI ty), .ref (a 4), .int (nI pl), .int (zb gd), .int (nI od), .ref (a 5)])), ((a 1), .inl (E.2.2.1, 512, .inl (mRow vU vS vN vX vM vT vB vK vY vZ vR vC vV)))] (some (.int (nI (zc (fun p => mDm vZ vK vR vC vS vN vM 0 p) (vU 0) + zc (fun p => mDm vZ vK vR vC vS vN vM 1 p) (vU 1))))) := by
  refine zM.of kX6_count (Nat.le_of_ble_eq_true rfl) rfl [some (.ref (a 0)), some (.int (nI 7)), none, none, none, none, none] rfl (Nat.le_of_ble_eq_true rfl) ?_
  intro X eX C N
  subst eX
  obtain ⟨hu0, hu1, hM, hk1, hk2, hk3⟩ := id hO
  refine z_iconst C (nI 0) dX6_count_0 (by decide) ?_
  refine z_istore_n C 2 dX6_count_1 rfl (Nat.le_of_ble_eq_true rfl) ?_
  refine z_iconst C (nI 0) dX6_count_2 (by decide) ?_
  refine z_istore_n C 3 dX6_count_3 rfl (Nat.le_of_ble_eq_true rfl) ?_
  refine z_iconst C (nI 0) dX6_count_4 (by decide) ?_
  refine z_istore C dX6_count_5 (Nat.le_of_ble_eq_true rfl) ?_
  refine z_iload C dX6_count_7 rfl ?_
  refine z_iconst C (nI 2) dX6_count_9 (by decide) ?_
  refine z_ncmp_ge_f C 77 dX6_count_10 (by decide) (by omega) (by omega) (by omega) ?_
  refine z_iconst C (nI 0) dX6_count_13 (by decide) ?_
  refine z_istore C dX6_count_14 (Nat.le_of_ble_eq_true rfl) ?_
  have hL16 : ∀ (dd : Nat) (k0 : Nat) (n0 : Nat) (d0 : Nat), vU 0 - k0 = dd → (k0 ≤ vU 0) → (n0 = 0 + zc (fun p => mNw vZ vK vR vC vS vN vM 0 p) k0) → (d0 = 0 + zc (fun p => mDm vZ vK vR vC vS vN vM 0 p) k0) → (n0 ≤ 0 + k0) → (d0 ≤ 0 + k0) → zG X 0 0 [((a 0), .inr (6, [.ref (a 1), .ref (a 2), .ref (a 3), .int (nI kp), .int (nI ty), .ref (a 4), .int (nI pl), .int (zb gd), .int (nI od), .ref (a 5)])), ((a 1), .inl (X.2.1.2.2.1, 512, .inl (mRow vU vS vN vX vM vT vB vK vY vZ vR vC vV)))] [some (.ref (a 0)), some (.int (nI 7)), some (.int (nI n0)), some (.int (nI d0)), some (.int (nI 0)), some (.int (nI k0)), none] [] 16 := by
    intro dd
    induction dd using Nat.strongRecOn with
    | _ dd ih16 =>
    intro k0 n0 d0 hdd hk09 hn0 hd0 hnb0 hdb0
    refine z_iload C dX6_count_16 rfl ?_
    refine z_aload_n C 0 dX6_count_18 rfl rfl ?_
    refine z_iload C dX6_count_19 rfl ?_
    refine z_callVr C kX6_many gX6_count_X6_many (mX6_many_0 X.2.1 a kp ty pl gd od vU vS vN vX vM vT vB vK vY vZ vR vC vV ) dX6_count_21 [0, 1] [.int (nI k0)] 0 rfl nd_0_1 rfl rfl rfl (by decide) (by decide) (Nat.le_of_ble_eq_true rfl) rfl ?_
    refine z_ncmp_ge C 71 dX6_count_24 (by decide) (by omega) (by omega) (fun h_1 => ?_) (fun h_1 => ?_)
    · refine z_iinc C (nI 1) dX6_count_71 rfl (zi_1 _) ?_
      refine z_goto C 7 dX6_count_74 (by decide) ?_
      refine z_iload C dX6_count_7 rfl ?_
      refine z_iconst C (nI 2) dX6_count_9 (by decide) ?_
      refine z_ncmp_ge_f C 77 dX6_count_10 (by decide) (by omega) (by omega) (by omega) ?_
      refine z_iconst C (nI 0) dX6_count_13 (by decide) ?_
      refine z_istore C dX6_count_14 (Nat.le_of_ble_eq_true rfl) ?_
      have hL16 : ∀ (dd : Nat) (k1 : Nat) (n1 : Nat) (d1 : Nat), vU 1 - k1 = dd → (k1 ≤ vU 1) → (n1 = zc (fun p => mNw vZ vK vR vC vS vN vM 0 p) (vU 0) + zc (fun p => mNw vZ vK vR vC vS vN vM 1 p) k1) → (d1 = zc (fun p => mDm vZ vK vR vC vS vN vM 0 p) (vU 0) + zc (fun p => mDm vZ vK vR vC vS vN vM 1 p) k1) → (n1 ≤ 12 + k1) → (d1 ≤ 12 + k1) → zG X 0 0 [((a 0), .inr (6, [.ref (a 1), .ref (a 2), .ref (a 3), .int (nI kp), .int (nI ty), .ref (a 4), .int (nI pl), .int (zb gd), .int (nI od), .ref (a 5)])), ((a 1), .inl (X.2.1.2.2.1, 512, .inl (mRow vU vS vN vX vM vT vB vK vY vZ vR vC vV)))] [some (.ref (a 0)), some (.int (nI 7)), some (.int (nI n1)), some (.int (nI d1)), some (.int (nI 1)), some (.int (nI k1)), none] [] 16 := by
        intro dd
        induction dd using Nat.strongRecOn with
        | _ dd ih16 =>
        intro k1 n1 d1 hdd hk19 hn1 hd1 hnb1 hdb1
        refine z_iload C dX6_count_16 rfl ?_
        refine z_aload_n C 0 dX6_count_18 rfl rfl ?_
        refine z_iload C dX6_count_19 rfl ?_
        refine z_callVr C kX6_many gX6_count_X6_many (mX6_many_1 X.2.1 a kp ty pl gd od vU vS vN vX vM vT vB vK vY vZ vR vC vV ) dX6_count_21 [0, 1] [.int (nI k1)] 0 rfl nd_0_1 rfl rfl rfl (by decide) (by decide) (Nat.le_of_ble_eq_true rfl) rfl ?_
        refine z_ncmp_ge C 71 dX6_count_24 (by decide) (by omega) (by omega) (fun h_2 => ?_) (fun h_2 => ?_)
        · refine z_iinc C (nI 2) dX6_count_71 rfl (zi_1 _) ?_
          refine z_goto C 7 dX6_count_74 (by decide) ?_
          refine z_iload C dX6_count_7 rfl ?_
          refine z_iconst C (nI 2) dX6_count_9 (by decide) ?_
          refine z_ncmp_ge_t C 77 dX6_count_10 (by decide) (by omega) (by omega) (by omega) ?_
          refine z_iconst C (nI 0) dX6_count_77 (by decide) ?_
          refine z_istore C dX6_count_78 (Nat.le_of_ble_eq_true rfl) ?_
          refine z_iconst C (nI 0) dX6_count_80 (by decide) ?_
          refine z_istore C dX6_count_81 (Nat.le_of_ble_eq_true rfl) ?_
          refine z_iconst C (nI 0) dX6_count_83 (by decide) ?_
          refine z_istore C dX6_count_84 (Nat.le_of_ble_eq_true rfl) ?_
          have hL86 : ∀ (dd : Nat) (k : Nat) (s9 : Nat) (t9 : Nat), vM - k = dd → (k ≤ vM) → (s9 = zc (fun x => decide (vZ x = 0) && decide (vK x = nI 4)) k) → (t9 = 0) → (s9 ≤ k) → (t9 ≤ k) → zG X 0 0 [((a 0), .inr (6, [.ref (a 1), .ref (a 2), .ref (a 3), .int (nI kp), .int (nI ty), .ref (a 4), .int (nI pl), .int (zb gd), .int (nI od), .ref (a 5)])), ((a 1), .inl (X.2.1.2.2.1, 512, .inl (mRow vU vS vN vX vM vT vB vK vY vZ vR vC vV)))] [some (.ref (a 0)), some (.int (nI 7)), some (.int (nI n1)), some (.int (nI d1)), some (.int (nI s9)), some (.int (nI t9)), some (.int (nI k))] [] 86 := by
            intro dd
            induction dd using Nat.strongRecOn with
            | _ dd ih86 =>
            intro k s9 t9 hdd hk hs9 ht9 hsb htb
            refine z_iload C dX6_count_86 rfl ?_
            refine z_aload_n C 0 dX6_count_88 rfl rfl ?_
            refine z_get C fX6_count_7 0 dX6_count_89 rfl rfl ?_
            refine z_bipush C (nI 51) dX6_count_92 (by decide) ?_
            refine z_ialdN C 1 dX6_count_94 rfl (by omega) (by decide) ?_
            refine z_top (y := nI (vM)) (zMr_M) ?_
            refine z_ncmp_ge C 170 dX6_count_95 (by decide) (by omega) (by omega) (fun h_3 => ?_) (fun h_3 => ?_)
            · refine z_iload_n C 1 dX6_count_170 rfl rfl ?_
              refine z_tsAt C 7 249 dX6_count_171 (by decide) (by decide) rfl (by decide) ?_
              refine z_iload_n C 3 dX6_count_249 rfl rfl ?_
              exact z_iret C N dX6_count_250 (rfl) (by rw [hd1, show k1 = vU 1 by omega])
            · refine z_iload C dX6_count_98 rfl ?_
              refine z_aload_n C 0 dX6_count_100 rfl rfl ?_
              refine z_iload C dX6_count_101 rfl ?_
              refine z_callVr C kX6_isPending gX6_count_X6_isPending (mX6_isPending X.2.1 a kp ty pl gd od vU vS vN vX vM vT vB vK vY vZ vR vC vV k (by first | assumption | omega)) dX6_count_103 [0, 1] [.int (nI s9)] 0 rfl nd_0_1 rfl rfl rfl (by decide) (by decide) (Nat.le_of_ble_eq_true rfl) rfl ?_
              refine z_bif_eq C 126 dX6_count_106 (by decide) (fun h_4 => ?_) (fun h_4 => ?_)
              · refine z_iconst C (nI 0) dX6_count_126 (by decide) ?_
                refine z_iadd C dX6_count_127 ?_
                refine z_top (y := nI s9) (nI_add _ _) ?_
                refine z_istore C dX6_count_128 (Nat.le_of_ble_eq_true rfl) ?_
                refine z_iload C dX6_count_130 rfl ?_
                refine z_iload_n C 1 dX6_count_132 rfl rfl ?_
                refine z_iconst C (nI 1) dX6_count_133 (by decide) ?_
                refine z_iconst C (nI 4) dX6_count_134 (by decide) ?_
                refine z_callS C kX6_in gX6_count_X6_in (mX6_in_n1 X.2.1 (nI 7) 4 (by decide)) dX6_count_135 [.int (nI t9)] rfl (by decide) (by decide) (Nat.le_of_ble_eq_true rfl) rfl ?_
                refine z_bif_eq_t C 160 dX6_count_138 (by decide) rfl ?_
                refine z_iconst C (nI 0) dX6_count_160 (by decide) ?_
                refine z_iadd C dX6_count_161 ?_
                refine z_top (y := nI t9) (nI_add _ _) ?_
                refine z_istore C dX6_count_162 (Nat.le_of_ble_eq_true rfl) ?_
                refine z_iinc C (nI (k + 1)) dX6_count_164 rfl (zi_1 _) ?_
                refine z_goto C 86 dX6_count_167 (by decide) ?_
                exact ih86 (vM - (k + 1)) (by omega) (k + 1) s9 t9 rfl (by omega) (by subst hs9; first | exact (zc_y (by simp [nI_0, nI_eq, zz_0, zz_0s, h_1, h_2, h_3, of_decide_eq_false h_4, h_4]; done)).symm | exact (zc_n (by simp [nI_0, nI_eq, zz_0, zz_0s, h_1, h_2, h_3, of_decide_eq_false h_4, h_4]; done)).symm | (simp_all [nI_0]; done)) (by omega) (by omega) (by omega)
              · refine z_aload_n C 0 dX6_count_109 rfl rfl ?_
                refine z_iload C dX6_count_110 rfl ?_
                refine z_sipush C (nI 149) dX6_count_112 (by decide) ?_
                refine z_callVr C kX6_of gX6_count_X6_of (mX6_of_K X.2.1 a kp ty pl gd od vU vS vN vX vM vT vB vK vY vZ vR vC vV k (by first | assumption | omega)) dX6_count_115 [0, 1] [.int (nI s9)] 0 rfl nd_0_1 rfl rfl rfl (by decide) (by decide) (Nat.le_of_ble_eq_true rfl) rfl ?_
                refine z_iconst C (nI 4) dX6_count_118 (by decide) ?_
                refine z_icmp_ne C 126 dX6_count_119 (by decide) (fun h_5 => ?_) (fun h_5 => ?_)
                · refine z_iconst C (nI 0) dX6_count_126 (by decide) ?_
                  refine z_iadd C dX6_count_127 ?_
                  refine z_top (y := nI s9) (nI_add _ _) ?_
                  refine z_istore C dX6_count_128 (Nat.le_of_ble_eq_true rfl) ?_
                  refine z_iload C dX6_count_130 rfl ?_
                  refine z_iload_n C 1 dX6_count_132 rfl rfl ?_
                  refine z_iconst C (nI 1) dX6_count_133 (by decide) ?_
                  refine z_iconst C (nI 4) dX6_count_134 (by decide) ?_
                  refine z_callS C kX6_in gX6_count_X6_in (mX6_in_n1 X.2.1 (nI 7) 4 (by decide)) dX6_count_135 [.int (nI t9)] rfl (by decide) (by decide) (Nat.le_of_ble_eq_true rfl) rfl ?_
                  refine z_bif_eq_t C 160 dX6_count_138 (by decide) rfl ?_
                  refine z_iconst C (nI 0) dX6_count_160 (by decide) ?_
                  refine z_iadd C dX6_count_161 ?_
                  refine z_top (y := nI t9) (nI_add _ _) ?_
                  refine z_istore C dX6_count_162 (Nat.le_of_ble_eq_true rfl) ?_
                  refine z_iinc C (nI (k + 1)) dX6_count_164 rfl (zi_1 _) ?_
                  refine z_goto C 86 dX6_count_167 (by decide) ?_
                  exact ih86 (vM - (k + 1)) (by omega) (k + 1) s9 t9 rfl (by omega) (by subst hs9; first | exact (zc_y (by simp [nI_0, nI_eq, zz_0, zz_0s, h_1, h_2, h_3, of_decide_eq_true h_4, h_4, h_5]; done)).symm | exact (zc_n (by simp [nI_0, nI_eq, zz_0, zz_0s, h_1, h_2, h_3, of_decide_eq_true h_4, h_4, h_5]; done)).symm | (simp_all [nI_0]; done)) (by omega) (by omega) (by omega)
                · refine z_iconst C (nI 1) dX6_count_122 (by decide) ?_
                  refine z_goto C 127 dX6_count_123 (by decide) ?_
                  refine z_iadd C dX6_count_127 ?_
                  refine z_top (y := nI (s9 + 1)) (nI_add _ _) ?_
                  refine z_istore C dX6_count_128 (Nat.le_of_ble_eq_true rfl) ?_
                  refine z_iload C dX6_count_130 rfl ?_
                  refine z_iload_n C 1 dX6_count_132 rfl rfl ?_
                  refine z_iconst C (nI 1) dX6_count_133 (by decide) ?_
                  refine z_iconst C (nI 4) dX6_count_134 (by decide) ?_
                  refine z_callS C kX6_in gX6_count_X6_in (mX6_in_n1 X.2.1 (nI 7) 4 (by decide)) dX6_count_135 [.int (nI t9)] rfl (by decide) (by decide) (Nat.le_of_ble_eq_true rfl) rfl ?_
                  refine z_bif_eq_t C 160 dX6_count_138 (by decide) rfl ?_
                  refine z_iconst C (nI 0) dX6_count_160 (by decide) ?_
                  refine z_iadd C dX6_count_161 ?_
                  refine z_top (y := nI t9) (nI_add _ _) ?_
                  refine z_istore C dX6_count_162 (Nat.le_of_ble_eq_true rfl) ?_
                  refine z_iinc C (nI (k + 1)) dX6_count_164 rfl (zi_1 _) ?_
                  refine z_goto C 86 dX6_count_167 (by decide) ?_
                  exact ih86 (vM - (k + 1)) (by omega) (k + 1) (s9 + 1) t9 rfl (by omega) (by subst hs9; first | exact (zc_y (by simp [nI_0, nI_eq, zz_0, zz_0s, h_1, h_2, h_3, of_decide_eq_true h_4, h_4, h_5]; done)).symm | exact (zc_n (by simp [nI_0, nI_eq, zz_0, zz_0s, h_1, h_2, h_3, of_decide_eq_true h_4, h_4, h_5]; done)).symm | (simp_all [nI_0]; done)) (by omega) (by omega) (by omega)
          exact hL86 _ 0 0 0 rfl (by omega) (rfl) (rfl) (by omega) (by omega)
        · refine z_iload_n C 2 dX6_count_27 rfl rfl ?_
          refine z_aload_n C 0 dX6_count_28 rfl rfl ?_
          refine z_iload C dX6_count_29 rfl ?_
          refine z_iload C dX6_count_31 rfl ?_
          refine z_callVr C kX6_isNew gX6_count_X6_isNew (mX6_isNew_1 X.2.1 a kp ty pl gd od vU vS vN vX vM vT vB vK vY vZ vR vC vV k1 hO (by first | assumption | omega)) dX6_count_33 [0, 1] [.int (nI n1)] 0 rfl nd_0_1 rfl rfl rfl (by decide) (by decide) (Nat.le_of_ble_eq_true rfl) rfl ?_
          refine z_bif_eq C 43 dX6_count_36 (by decide) (fun h_6 => ?_) (fun h_6 => ?_)
          · refine z_iconst C (nI 0) dX6_count_43 (by decide) ?_
            refine z_iadd C dX6_count_44 ?_
            refine z_top (y := nI n1) (nI_add _ _) ?_
            refine z_istore_n C 2 dX6_count_45 rfl (Nat.le_of_ble_eq_true rfl) ?_
            refine z_iload_n C 3 dX6_count_46 rfl rfl ?_
            refine z_aload_n C 0 dX6_count_47 rfl rfl ?_
            refine z_iload C dX6_count_48 rfl ?_
            refine z_iload C dX6_count_50 rfl ?_
            refine z_callVr C kX6_isDoomed gX6_count_X6_isDoomed (mX6_isDoomed_1 X.2.1 a kp ty pl gd od vU vS vN vX vM vT vB vK vY vZ vR vC vV k1 hO (by first | assumption | omega)) dX6_count_52 [0, 1] [.int (nI d1)] 0 rfl nd_0_1 rfl rfl rfl (by decide) (by decide) (Nat.le_of_ble_eq_true rfl) rfl ?_
            refine z_bif_eq C 62 dX6_count_55 (by decide) (fun h_7 => ?_) (fun h_7 => ?_)
            · refine z_iconst C (nI 0) dX6_count_62 (by decide) ?_
              refine z_iadd C dX6_count_63 ?_
              refine z_top (y := nI d1) (nI_add _ _) ?_
              refine z_istore_n C 3 dX6_count_64 rfl (Nat.le_of_ble_eq_true rfl) ?_
              refine z_iinc C (nI (k1 + 1)) dX6_count_65 rfl (zi_1 _) ?_
              refine z_goto C 16 dX6_count_68 (by decide) ?_
              exact ih16 (vU 1 - (k1 + 1)) (by omega) (k1 + 1) n1 d1 rfl (by omega) (by have h8 := zc_s (p := (fun p => mNw vZ vK vR vC vS vN vM 1 p)) (k := k1); simp only [h_6, if_true, Bool.false_eq_true, if_false] at h8; omega) (by have h8 := zc_s (p := (fun p => mDm vZ vK vR vC vS vN vM 1 p)) (k := k1); simp only [h_7, if_true, Bool.false_eq_true, if_false] at h8; omega) (by omega) (by omega)
            · refine z_iconst C (nI 1) dX6_count_58 (by decide) ?_
              refine z_goto C 63 dX6_count_59 (by decide) ?_
              refine z_iadd C dX6_count_63 ?_
              refine z_top (y := nI (d1 + 1)) (nI_add _ _) ?_
              refine z_istore_n C 3 dX6_count_64 rfl (Nat.le_of_ble_eq_true rfl) ?_
              refine z_iinc C (nI (k1 + 1)) dX6_count_65 rfl (zi_1 _) ?_
              refine z_goto C 16 dX6_count_68 (by decide) ?_
              exact ih16 (vU 1 - (k1 + 1)) (by omega) (k1 + 1) n1 (d1 + 1) rfl (by omega) (by have h8 := zc_s (p := (fun p => mNw vZ vK vR vC vS vN vM 1 p)) (k := k1); simp only [h_6, if_true, Bool.false_eq_true, if_false] at h8; omega) (by have h8 := zc_s (p := (fun p => mDm vZ vK vR vC vS vN vM 1 p)) (k := k1); simp only [h_7, if_true, Bool.false_eq_true, if_false] at h8; omega) (by omega) (by omega)
          · refine z_iconst C (nI 1) dX6_count_39 (by decide) ?_
            refine z_goto C 44 dX6_count_40 (by decide) ?_
            refine z_iadd C dX6_count_44 ?_
            refine z_top (y := nI (n1 + 1)) (nI_add _ _) ?_
            refine z_istore_n C 2 dX6_count_45 rfl (Nat.le_of_ble_eq_true rfl) ?_
            refine z_iload_n C 3 dX6_count_46 rfl rfl ?_
            refine z_aload_n C 0 dX6_count_47 rfl rfl ?_
            refine z_iload C dX6_count_48 rfl ?_
            refine z_iload C dX6_count_50 rfl ?_
            refine z_callVr C kX6_isDoomed gX6_count_X6_isDoomed (mX6_isDoomed_1 X.2.1 a kp ty pl gd od vU vS vN vX vM vT vB vK vY vZ vR vC vV k1 hO (by first | assumption | omega)) dX6_count_52 [0, 1] [.int (nI d1)] 0 rfl nd_0_1 rfl rfl rfl (by decide) (by decide) (Nat.le_of_ble_eq_true rfl) rfl ?_
            refine z_bif_eq C 62 dX6_count_55 (by decide) (fun h_8 => ?_) (fun h_8 => ?_)
            · refine z_iconst C (nI 0) dX6_count_62 (by decide) ?_
              refine z_iadd C dX6_count_63 ?_
              refine z_top (y := nI d1) (nI_add _ _) ?_
              refine z_istore_n C 3 dX6_count_64 rfl (Nat.le_of_ble_eq_true rfl) ?_
              refine z_iinc C (nI (k1 + 1)) dX6_count_65 rfl (zi_1 _) ?_
              refine z_goto C 16 dX6_count_68 (by decide) ?_
              exact ih16 (vU 1 - (k1 + 1)) (by omega) (k1 + 1) (n1 + 1) d1 rfl (by omega) (by have h8 := zc_s (p := (fun p => mNw vZ vK vR vC vS vN vM 1 p)) (k := k1); simp only [h_6, if_true, Bool.false_eq_true, if_false] at h8; omega) (by have h8 := zc_s (p := (fun p => mDm vZ vK vR vC vS vN vM 1 p)) (k := k1); simp only [h_8, if_true, Bool.false_eq_true, if_false] at h8; omega) (by omega) (by omega)
            · refine z_iconst C (nI 1) dX6_count_58 (by decide) ?_
              refine z_goto C 63 dX6_count_59 (by decide) ?_
              refine z_iadd C dX6_count_63 ?_
              refine z_top (y := nI (d1 + 1)) (nI_add _ _) ?_
              refine z_istore_n C 3 dX6_count_64 rfl (Nat.le_of_ble_eq_true rfl) ?_
              refine z_iinc C (nI (k1 + 1)) dX6_count_65 rfl (zi_1 _) ?_
              refine z_goto C 16 dX6_count_68 (by decide) ?_
              exact ih16 (vU 1 - (k1 + 1)) (by omega) (k1 + 1) (n1 + 1) (d1 + 1) rfl (by omega) (by have h8 := zc_s (p := (fun p => mNw vZ vK vR vC vS vN vM 1 p)) (k := k1); simp only [h_6, if_true, Bool.false_eq_true, if_false] at h8; omega) (by have h8 := zc_s (p := (fun p => mDm vZ vK vR vC vS vN vM 1 p)) (k := k1); simp only [h_8, if_true, Bool.false_eq_true, if_false] at h8; omega) (by omega) (by omega)
      exact hL16 _ 0 n0 d0 rfl (by omega) (by rw [hn0, show k0 = vU 0 by omega]; simp [zc]) (by rw [hd0, show k0 = vU 0 by omega]; simp [zc]) (by omega) (by omega)
    · refine z_iload_n C 2 dX6_count_27 rfl rfl ?_
      refine z_aload_n C 0 dX6_count_28 rfl rfl ?_
      refine z_iload C dX6_count_29 rfl ?_
      refine z_iload C dX6_count_31 rfl ?_
      refine z_callVr C kX6_isNew gX6_count_X6_isNew (mX6_isNew_0 X.2.1 a kp ty pl gd od vU vS vN vX vM vT vB vK vY vZ vR vC vV k0 hO (by first | assumption | omega)) dX6_count_33 [0, 1] [.int (nI n0)] 0 rfl nd_0_1 rfl rfl rfl (by decide) (by decide) (Nat.le_of_ble_eq_true rfl) rfl ?_
      refine z_bif_eq C 43 dX6_count_36 (by decide) (fun h_9 => ?_) (fun h_9 => ?_)
      · refine z_iconst C (nI 0) dX6_count_43 (by decide) ?_
        refine z_iadd C dX6_count_44 ?_
        refine z_top (y := nI n0) (nI_add _ _) ?_
        refine z_istore_n C 2 dX6_count_45 rfl (Nat.le_of_ble_eq_true rfl) ?_
        refine z_iload_n C 3 dX6_count_46 rfl rfl ?_
        refine z_aload_n C 0 dX6_count_47 rfl rfl ?_
        refine z_iload C dX6_count_48 rfl ?_
        refine z_iload C dX6_count_50 rfl ?_
        refine z_callVr C kX6_isDoomed gX6_count_X6_isDoomed (mX6_isDoomed_0 X.2.1 a kp ty pl gd od vU vS vN vX vM vT vB vK vY vZ vR vC vV k0 hO (by first | assumption | omega)) dX6_count_52 [0, 1] [.int (nI d0)] 0 rfl nd_0_1 rfl rfl rfl (by decide) (by decide) (Nat.le_of_ble_eq_true rfl) rfl ?_
        refine z_bif_eq C 62 dX6_count_55 (by decide) (fun h_10 => ?_) (fun h_10 => ?_)
        · refine z_iconst C (nI 0) dX6_count_62 (by decide) ?_
          refine z_iadd C dX6_count_63 ?_
          refine z_top (y := nI d0) (nI_add _ _) ?_
          refine z_istore_n C 3 dX6_count_64 rfl (Nat.le_of_ble_eq_true rfl) ?_
          refine z_iinc C (nI (k0 + 1)) dX6_count_65 rfl (zi_1 _) ?_
          refine z_goto C 16 dX6_count_68 (by decide) ?_
          exact ih16 (vU 0 - (k0 + 1)) (by omega) (k0 + 1) n0 d0 rfl (by omega) (by have h8 := zc_s (p := (fun p => mNw vZ vK vR vC vS vN vM 0 p)) (k := k0); simp only [h_9, if_true, Bool.false_eq_true, if_false] at h8; omega) (by have h8 := zc_s (p := (fun p => mDm vZ vK vR vC vS vN vM 0 p)) (k := k0); simp only [h_10, if_true, Bool.false_eq_true, if_false] at h8; omega) (by omega) (by omega)
        · refine z_iconst C (nI 1) dX6_count_58 (by decide) ?_
          refine z_goto C 63 dX6_count_59 (by decide) ?_
          refine z_iadd C dX6_count_63 ?_
          refine z_top (y := nI (d0 + 1)) (nI_add _ _) ?_
          refine z_istore_n C 3 dX6_count_64 rfl (Nat.le_of_ble_eq_true rfl) ?_
          refine z_iinc C (nI (k0 + 1)) dX6_count_65 rfl (zi_1 _) ?_
          refine z_goto C 16 dX6_count_68 (by decide) ?_
          exact ih16 (vU 0 - (k0 + 1)) (by omega) (k0 + 1) n0 (d0 + 1) rfl (by omega) (by have h8 := zc_s (p := (fun p => mNw vZ vK vR vC vS vN vM 0 p)) (k := k0); simp only [h_9, if_true, Bool.false_eq_true, if_false] at h8; omega) (by have h8 := zc_s (p := (fun p => mDm vZ vK vR vC vS vN vM 0 p)) (k := k0); simp only [h_10, if_true, Bool.false_eq_true, if_false] at h8; omega) (by omega) (by omega)
      · refine z_iconst C (nI 1) dX6_count_39 (by decide) ?_
        refine z_goto C 44 dX6_count_40 (by decide) ?_
        refine z_iadd C dX6_count_44 ?_
        refine z_top (y := nI (n0 + 1)) (nI_add _ _) ?_
        refine z_istore_n C 2 dX6_count_45 rfl (Nat.le_of_ble_eq_true rfl) ?_
        refine z_iload_n C 3 dX6_count_46 rfl rfl ?_
        refine z_aload_n C 0 dX6_count_47 rfl rfl ?_
        refine z_iload C dX6_count_48 rfl ?_
        refine z_iload C dX6_count_50 rfl ?_
        refine z_callVr C kX6_isDoomed gX6_count_X6_isDoomed (mX6_isDoomed_0 X.2.1 a kp ty pl gd od vU vS vN vX vM vT vB vK vY vZ vR vC vV k0 hO (by first | assumption | omega)) dX6_count_52 [0, 1] [.int (nI d0)] 0 rfl nd_0_1 rfl rfl rfl (by decide) (by decide) (Nat.le_of_ble_eq_true rfl) rfl ?_
        refine z_bif_eq C 62 dX6_count_55 (by decide) (fun h_11 => ?_) (fun h_11 => ?_)
        · refine z_iconst C (nI 0) dX6_count_62 (by decide) ?_
          refine z_iadd C dX6_count_63 ?_
          refine z_top (y := nI d0) (nI_add _ _) ?_
          refine z_istore_n C 3 dX6_count_64 rfl (Nat.le_of_ble_eq_true rfl) ?_
          refine z_iinc C (nI (k0 + 1)) dX6_count_65 rfl (zi_1 _) ?_
          refine z_goto C 16 dX6_count_68 (by decide) ?_
          exact ih16 (vU 0 - (k0 + 1)) (by omega) (k0 + 1) (n0 + 1) d0 rfl (by omega) (by have h8 := zc_s (p := (fun p => mNw vZ vK vR vC vS vN vM 0 p)) (k := k0); simp only [h_9, if_true, Bool.false_eq_true, if_false] at h8; omega) (by have h8 := zc_s (p := (fun p => mDm vZ vK vR vC vS vN vM 0 p)) (k := k0); simp only [h_11, if_true, Bool.false_eq_true, if_false] at h8; omega) (by omega) (by omega)
        · refine z_iconst C (nI 1) dX6_count_58 (by decide) ?_
          refine z_goto C 63 dX6_count_59 (by decide) ?_
          refine z_iadd C dX6_count_63 ?_
          refine z_top (y := nI (d0 + 1)) (nI_add _ _) ?_
          refine z_istore_n C 3 dX6_count_64 rfl (Nat.le_of_ble_eq_true rfl) ?_
          refine z_iinc C (nI (k0 + 1)) dX6_count_65 rfl (zi_1 _) ?_
          refine z_goto C 16 dX6_count_68 (by decide) ?_
          exact ih16 (vU 0 - (k0 + 1)) (by omega) (k0 + 1) (n0 + 1) (d0 + 1) rfl (by omega) (by have h8 := zc_s (p := (fun p => mNw vZ vK vR vC vS vN vM 0 p)) (k := k0); simp only [h_9, if_true, Bool.false_eq_true, if_false] at h8; omega) (by have h8 := zc_s (p := (fun p => mDm vZ vK vR vC vS vN vM 0 p)) (k := k0); simp only [h_11, if_true, Bool.false_eq_true, if_false] at h8; omega) (by omega) (by omega)
  exact hL16 _ 0 0 0 rfl (by omega) (by simp [zc]) (by simp [zc]) (by omega) (by omega)

set_option maxHeartbeats 400000 in
set_option maxRecDepth 100000 in
theorem mX6_count_8 (E : zE) (a : Nat → Nat) (kp ty pl : Nat) (gd : Bool) (od : Nat) (vU vS : Nat → Nat) (vN : Nat → Int32) (vX vM : Nat) (vT : Bool) (vB vK vY vZ vR vC vV : Nat → Int32)  (hO : okM vU vS vM vK) : zM E yX6_count wsX6_count 5 [.ref (a 0), .int (nI 8)] [((a 0), .inr (6, [.ref (a 1), .ref (a 2), .ref (a 3), .int (nI kp), .int (nI ty), .ref (a 4), .int (nI pl), .int (zb gd), .int (nI od), .ref (a 5)])), ((a 1), .inl (E.2.2.1, 512, .inl (mRow vU vS vN vX vM vT vB vK vY vZ vR vC vV)))] [((a 0), .inr (6, [.ref (a 1), .ref (a 2), .ref (a 3), .int (nI kp), .int (nI ty), .ref (a 4), .int (nI pl), .int (zb gd), .int (nI od), .ref (a 5)])), ((a 1), .inl (E.2.2.1, 512, .inl (mRow vU vS vN vX vM vT vB vK vY vZ vR vC vV)))] (some (.int (nI (zc (fun x => decide (vZ x = 0) && decide (vK x = nI 4)) (vM))))) := by
  refine zM.of kX6_count (Nat.le_of_ble_eq_true rfl) rfl [some (.ref (a 0)), some (.int (nI 8)), none, none, none, none, none] rfl (Nat.le_of_ble_eq_true rfl) ?_
  intro X eX C N
  subst eX
  obtain ⟨hu0, hu1, hM, hk1, hk2, hk3⟩ := id hO
  refine z_iconst C (nI 0) dX6_count_0 (by decide) ?_
  refine z_istore_n C 2 dX6_count_1 rfl (Nat.le_of_ble_eq_true rfl) ?_
  refine z_iconst C (nI 0) dX6_count_2 (by decide) ?_
  refine z_istore_n C 3 dX6_count_3 rfl (Nat.le_of_ble_eq_true rfl) ?_
  refine z_iconst C (nI 0) dX6_count_4 (by decide) ?_
  refine z_istore C dX6_count_5 (Nat.le_of_ble_eq_true rfl) ?_
  refine z_iload C dX6_count_7 rfl ?_
  refine z_iconst C (nI 2) dX6_count_9 (by decide) ?_
  refine z_ncmp_ge_f C 77 dX6_count_10 (by decide) (by omega) (by omega) (by omega) ?_
  refine z_iconst C (nI 0) dX6_count_13 (by decide) ?_
  refine z_istore C dX6_count_14 (Nat.le_of_ble_eq_true rfl) ?_
  have hL16 : ∀ (dd : Nat) (k0 : Nat) (n0 : Nat) (d0 : Nat), vU 0 - k0 = dd → (k0 ≤ vU 0) → (n0 = 0 + zc (fun p => mNw vZ vK vR vC vS vN vM 0 p) k0) → (d0 = 0 + zc (fun p => mDm vZ vK vR vC vS vN vM 0 p) k0) → (n0 ≤ 0 + k0) → (d0 ≤ 0 + k0) → zG X 0 0 [((a 0), .inr (6, [.ref (a 1), .ref (a 2), .ref (a 3), .int (nI kp), .int (nI ty), .ref (a 4), .int (nI pl), .int (zb gd), .int (nI od), .ref (a 5)])), ((a 1), .inl (X.2.1.2.2.1, 512, .inl (mRow vU vS vN vX vM vT vB vK vY vZ vR vC vV)))] [some (.ref (a 0)), some (.int (nI 8)), some (.int (nI n0)), some (.int (nI d0)), some (.int (nI 0)), some (.int (nI k0)), none] [] 16 := by
    intro dd
    induction dd using Nat.strongRecOn with
    | _ dd ih16 =>
    intro k0 n0 d0 hdd hk09 hn0 hd0 hnb0 hdb0
    refine z_iload C dX6_count_16 rfl ?_
    refine z_aload_n C 0 dX6_count_18 rfl rfl ?_
    refine z_iload C dX6_count_19 rfl ?_
    refine z_callVr C kX6_many gX6_count_X6_many (mX6_many_0 X.2.1 a kp ty pl gd od vU vS vN vX vM vT vB vK vY vZ vR vC vV ) dX6_count_21 [0, 1] [.int (nI k0)] 0 rfl nd_0_1 rfl rfl rfl (by decide) (by decide) (Nat.le_of_ble_eq_true rfl) rfl ?_
    refine z_ncmp_ge C 71 dX6_count_24 (by decide) (by omega) (by omega) (fun h_1 => ?_) (fun h_1 => ?_)
    · refine z_iinc C (nI 1) dX6_count_71 rfl (zi_1 _) ?_
      refine z_goto C 7 dX6_count_74 (by decide) ?_
      refine z_iload C dX6_count_7 rfl ?_
      refine z_iconst C (nI 2) dX6_count_9 (by decide) ?_
      refine z_ncmp_ge_f C 77 dX6_count_10 (by decide) (by omega) (by omega) (by omega) ?_
      refine z_iconst C (nI 0) dX6_count_13 (by decide) ?_
      refine z_istore C dX6_count_14 (Nat.le_of_ble_eq_true rfl) ?_
      have hL16 : ∀ (dd : Nat) (k1 : Nat) (n1 : Nat) (d1 : Nat), vU 1 - k1 = dd → (k1 ≤ vU 1) → (n1 = zc (fun p => mNw vZ vK vR vC vS vN vM 0 p) (vU 0) + zc (fun p => mNw vZ vK vR vC vS vN vM 1 p) k1) → (d1 = zc (fun p => mDm vZ vK vR vC vS vN vM 0 p) (vU 0) + zc (fun p => mDm vZ vK vR vC vS vN vM 1 p) k1) → (n1 ≤ 12 + k1) → (d1 ≤ 12 + k1) → zG X 0 0 [((a 0), .inr (6, [.ref (a 1), .ref (a 2), .ref (a 3), .int (nI kp), .int (nI ty), .ref (a 4), .int (nI pl), .int (zb gd), .int (nI od), .ref (a 5)])), ((a 1), .inl (X.2.1.2.2.1, 512, .inl (mRow vU vS vN vX vM vT vB vK vY vZ vR vC vV)))] [some (.ref (a 0)), some (.int (nI 8)), some (.int (nI n1)), some (.int (nI d1)), some (.int (nI 1)), some (.int (nI k1)), none] [] 16 := by
        intro dd
        induction dd using Nat.strongRecOn with
        | _ dd ih16 =>
        intro k1 n1 d1 hdd hk19 hn1 hd1 hnb1 hdb1
        refine z_iload C dX6_count_16 rfl ?_
        refine z_aload_n C 0 dX6_count_18 rfl rfl ?_
        refine z_iload C dX6_count_19 rfl ?_
        refine z_callVr C kX6_many gX6_count_X6_many (mX6_many_1 X.2.1 a kp ty pl gd od vU vS vN vX vM vT vB vK vY vZ vR vC vV ) dX6_count_21 [0, 1] [.int (nI k1)] 0 rfl nd_0_1 rfl rfl rfl (by decide) (by decide) (Nat.le_of_ble_eq_true rfl) rfl ?_
        refine z_ncmp_ge C 71 dX6_count_24 (by decide) (by omega) (by omega) (fun h_2 => ?_) (fun h_2 => ?_)
        · refine z_iinc C (nI 2) dX6_count_71 rfl (zi_1 _) ?_
          refine z_goto C 7 dX6_count_74 (by decide) ?_
          refine z_iload C dX6_count_7 rfl ?_
          refine z_iconst C (nI 2) dX6_count_9 (by decide) ?_
          refine z_ncmp_ge_t C 77 dX6_count_10 (by decide) (by omega) (by omega) (by omega) ?_
          refine z_iconst C (nI 0) dX6_count_77 (by decide) ?_
          refine z_istore C dX6_count_78 (Nat.le_of_ble_eq_true rfl) ?_
          refine z_iconst C (nI 0) dX6_count_80 (by decide) ?_
          refine z_istore C dX6_count_81 (Nat.le_of_ble_eq_true rfl) ?_
          refine z_iconst C (nI 0) dX6_count_83 (by decide) ?_
          refine z_istore C dX6_count_84 (Nat.le_of_ble_eq_true rfl) ?_
          have hL86 : ∀ (dd : Nat) (k : Nat) (s9 : Nat) (t9 : Nat), vM - k = dd → (k ≤ vM) → (s9 = zc (fun x => decide (vZ x = 0) && decide (vK x = nI 4)) k) → (t9 = 0) → (s9 ≤ k) → (t9 ≤ k) → zG X 0 0 [((a 0), .inr (6, [.ref (a 1), .ref (a 2), .ref (a 3), .int (nI kp), .int (nI ty), .ref (a 4), .int (nI pl), .int (zb gd), .int (nI od), .ref (a 5)])), ((a 1), .inl (X.2.1.2.2.1, 512, .inl (mRow vU vS vN vX vM vT vB vK vY vZ vR vC vV)))] [some (.ref (a 0)), some (.int (nI 8)), some (.int (nI n1)), some (.int (nI d1)), some (.int (nI s9)), some (.int (nI t9)), some (.int (nI k))] [] 86 := by
            intro dd
            induction dd using Nat.strongRecOn with
            | _ dd ih86 =>
            intro k s9 t9 hdd hk hs9 ht9 hsb htb
            refine z_iload C dX6_count_86 rfl ?_
            refine z_aload_n C 0 dX6_count_88 rfl rfl ?_
            refine z_get C fX6_count_7 0 dX6_count_89 rfl rfl ?_
            refine z_bipush C (nI 51) dX6_count_92 (by decide) ?_
            refine z_ialdN C 1 dX6_count_94 rfl (by omega) (by decide) ?_
            refine z_top (y := nI (vM)) (zMr_M) ?_
            refine z_ncmp_ge C 170 dX6_count_95 (by decide) (by omega) (by omega) (fun h_3 => ?_) (fun h_3 => ?_)
            · refine z_iload_n C 1 dX6_count_170 rfl rfl ?_
              refine z_tsAt C 8 251 dX6_count_171 (by decide) (by decide) rfl (by decide) ?_
              refine z_iload C dX6_count_251 rfl ?_
              exact z_iret C N dX6_count_253 (rfl) (by rw [hs9, show k = vM by omega])
            · refine z_iload C dX6_count_98 rfl ?_
              refine z_aload_n C 0 dX6_count_100 rfl rfl ?_
              refine z_iload C dX6_count_101 rfl ?_
              refine z_callVr C kX6_isPending gX6_count_X6_isPending (mX6_isPending X.2.1 a kp ty pl gd od vU vS vN vX vM vT vB vK vY vZ vR vC vV k (by first | assumption | omega)) dX6_count_103 [0, 1] [.int (nI s9)] 0 rfl nd_0_1 rfl rfl rfl (by decide) (by decide) (Nat.le_of_ble_eq_true rfl) rfl ?_
              refine z_bif_eq C 126 dX6_count_106 (by decide) (fun h_4 => ?_) (fun h_4 => ?_)
              · refine z_iconst C (nI 0) dX6_count_126 (by decide) ?_
                refine z_iadd C dX6_count_127 ?_
                refine z_top (y := nI s9) (nI_add _ _) ?_
                refine z_istore C dX6_count_128 (Nat.le_of_ble_eq_true rfl) ?_
                refine z_iload C dX6_count_130 rfl ?_
                refine z_iload_n C 1 dX6_count_132 rfl rfl ?_
                refine z_iconst C (nI 1) dX6_count_133 (by decide) ?_
                refine z_iconst C (nI 4) dX6_count_134 (by decide) ?_
                refine z_callS C kX6_in gX6_count_X6_in (mX6_in_n1 X.2.1 (nI 8) 4 (by decide)) dX6_count_135 [.int (nI t9)] rfl (by decide) (by decide) (Nat.le_of_ble_eq_true rfl) rfl ?_
                refine z_bif_eq_t C 160 dX6_count_138 (by decide) rfl ?_
                refine z_iconst C (nI 0) dX6_count_160 (by decide) ?_
                refine z_iadd C dX6_count_161 ?_
                refine z_top (y := nI t9) (nI_add _ _) ?_
                refine z_istore C dX6_count_162 (Nat.le_of_ble_eq_true rfl) ?_
                refine z_iinc C (nI (k + 1)) dX6_count_164 rfl (zi_1 _) ?_
                refine z_goto C 86 dX6_count_167 (by decide) ?_
                exact ih86 (vM - (k + 1)) (by omega) (k + 1) s9 t9 rfl (by omega) (by subst hs9; first | exact (zc_y (by simp [nI_0, nI_eq, zz_0, zz_0s, h_1, h_2, h_3, of_decide_eq_false h_4, h_4]; done)).symm | exact (zc_n (by simp [nI_0, nI_eq, zz_0, zz_0s, h_1, h_2, h_3, of_decide_eq_false h_4, h_4]; done)).symm | (simp_all [nI_0]; done)) (by omega) (by omega) (by omega)
              · refine z_aload_n C 0 dX6_count_109 rfl rfl ?_
                refine z_iload C dX6_count_110 rfl ?_
                refine z_sipush C (nI 149) dX6_count_112 (by decide) ?_
                refine z_callVr C kX6_of gX6_count_X6_of (mX6_of_K X.2.1 a kp ty pl gd od vU vS vN vX vM vT vB vK vY vZ vR vC vV k (by first | assumption | omega)) dX6_count_115 [0, 1] [.int (nI s9)] 0 rfl nd_0_1 rfl rfl rfl (by decide) (by decide) (Nat.le_of_ble_eq_true rfl) rfl ?_
                refine z_iconst C (nI 4) dX6_count_118 (by decide) ?_
                refine z_icmp_ne C 126 dX6_count_119 (by decide) (fun h_5 => ?_) (fun h_5 => ?_)
                · refine z_iconst C (nI 0) dX6_count_126 (by decide) ?_
                  refine z_iadd C dX6_count_127 ?_
                  refine z_top (y := nI s9) (nI_add _ _) ?_
                  refine z_istore C dX6_count_128 (Nat.le_of_ble_eq_true rfl) ?_
                  refine z_iload C dX6_count_130 rfl ?_
                  refine z_iload_n C 1 dX6_count_132 rfl rfl ?_
                  refine z_iconst C (nI 1) dX6_count_133 (by decide) ?_
                  refine z_iconst C (nI 4) dX6_count_134 (by decide) ?_
                  refine z_callS C kX6_in gX6_count_X6_in (mX6_in_n1 X.2.1 (nI 8) 4 (by decide)) dX6_count_135 [.int (nI t9)] rfl (by decide) (by decide) (Nat.le_of_ble_eq_true rfl) rfl ?_
                  refine z_bif_eq_t C 160 dX6_count_138 (by decide) rfl ?_
                  refine z_iconst C (nI 0) dX6_count_160 (by decide) ?_
                  refine z_iadd C dX6_count_161 ?_
                  refine z_top (y := nI t9) (nI_add _ _) ?_
                  refine z_istore C dX6_count_162 (Nat.le_of_ble_eq_true rfl) ?_
                  refine z_iinc C (nI (k + 1)) dX6_count_164 rfl (zi_1 _) ?_
                  refine z_goto C 86 dX6_count_167 (by decide) ?_
                  exact ih86 (vM - (k + 1)) (by omega) (k + 1) s9 t9 rfl (by omega) (by subst hs9; first | exact (zc_y (by simp [nI_0, nI_eq, zz_0, zz_0s, h_1, h_2, h_3, of_decide_eq_true h_4, h_4, h_5]; done)).symm | exact (zc_n (by simp [nI_0, nI_eq, zz_0, zz_0s, h_1, h_2, h_3, of_decide_eq_true h_4, h_4, h_5]; done)).symm | (simp_all [nI_0]; done)) (by omega) (by omega) (by omega)
                · refine z_iconst C (nI 1) dX6_count_122 (by decide) ?_
                  refine z_goto C 127 dX6_count_123 (by decide) ?_
                  refine z_iadd C dX6_count_127 ?_
                  refine z_top (y := nI (s9 + 1)) (nI_add _ _) ?_
                  refine z_istore C dX6_count_128 (Nat.le_of_ble_eq_true rfl) ?_
                  refine z_iload C dX6_count_130 rfl ?_
                  refine z_iload_n C 1 dX6_count_132 rfl rfl ?_
                  refine z_iconst C (nI 1) dX6_count_133 (by decide) ?_
                  refine z_iconst C (nI 4) dX6_count_134 (by decide) ?_
                  refine z_callS C kX6_in gX6_count_X6_in (mX6_in_n1 X.2.1 (nI 8) 4 (by decide)) dX6_count_135 [.int (nI t9)] rfl (by decide) (by decide) (Nat.le_of_ble_eq_true rfl) rfl ?_
                  refine z_bif_eq_t C 160 dX6_count_138 (by decide) rfl ?_
                  refine z_iconst C (nI 0) dX6_count_160 (by decide) ?_
                  refine z_iadd C dX6_count_161 ?_
                  refine z_top (y := nI t9) (nI_add _ _) ?_
                  refine z_istore C dX6_count_162 (Nat.le_of_ble_eq_true rfl) ?_
                  refine z_iinc C (nI (k + 1)) dX6_count_164 rfl (zi_1 _) ?_
                  refine z_goto C 86 dX6_count_167 (by decide) ?_
                  exact ih86 (vM - (k + 1)) (by omega) (k + 1) (s9 + 1) t9 rfl (by omega) (by subst hs9; first | exact (zc_y (by simp [nI_0, nI_eq, zz_0, zz_0s, h_1, h_2, h_3, of_decide_eq_true h_4, h_4, h_5]; done)).symm | exact (zc_n (by simp [nI_0, nI_eq, zz_0, zz_0s, h_1, h_2, h_3, of_decide_eq_true h_4, h_4, h_5]; done)).symm | (simp_all [nI_0]; done)) (by omega) (by omega) (by omega)
          exact hL86 _ 0 0 0 rfl (by omega) (rfl) (rfl) (by omega) (by omega)
        · refine z_iload_n C 2 dX6_count_27 rfl rfl ?_
          refine z_aload_n C 0 dX6_count_28 rfl rfl ?_
          refine z_iload C dX6_count_29 rfl ?_
          refine z_iload C dX6_count_31 rfl ?_
          refine z_callVr C kX6_isNew gX6_count_X6_isNew (mX6_isNew_1 X.2.1 a kp ty pl gd od vU vS vN vX vM vT vB vK vY vZ vR vC vV k1 hO (by first | assumption | omega)) dX6_count_33 [0, 1] [.int (nI n1)] 0 rfl nd_0_1 rfl rfl rfl (by decide) (by decide) (Nat.le_of_ble_eq_true rfl) rfl ?_
          refine z_bif_eq C 43 dX6_count_36 (by decide) (fun h_6 => ?_) (fun h_6 => ?_)
          · refine z_iconst C (nI 0) dX6_count_43 (by decide) ?_
            refine z_iadd C dX6_count_44 ?_
            refine z_top (y := nI n1) (nI_add _ _) ?_
            refine z_istore_n C 2 dX6_count_45 rfl (Nat.le_of_ble_eq_true rfl) ?_
            refine z_iload_n C 3 dX6_count_46 rfl rfl ?_
            refine z_aload_n C 0 dX6_count_47 rfl rfl ?_
            refine z_iload C dX6_count_48 rfl ?_
            refine z_iload C dX6_count_50 rfl ?_
            refine z_callVr C kX6_isDoomed gX6_count_X6_isDoomed (mX6_isDoomed_1 X.2.1 a kp ty pl gd od vU vS vN vX vM vT vB vK vY vZ vR vC vV k1 hO (by first | assumption | omega)) dX6_count_52 [0, 1] [.int (nI d1)] 0 rfl nd_0_1 rfl rfl rfl (by decide) (by decide) (Nat.le_of_ble_eq_true rfl) rfl ?_
            refine z_bif_eq C 62 dX6_count_55 (by decide) (fun h_7 => ?_) (fun h_7 => ?_)
            · refine z_iconst C (nI 0) dX6_count_62 (by decide) ?_
              refine z_iadd C dX6_count_63 ?_
              refine z_top (y := nI d1) (nI_add _ _) ?_
              refine z_istore_n C 3 dX6_count_64 rfl (Nat.le_of_ble_eq_true rfl) ?_
              refine z_iinc C (nI (k1 + 1)) dX6_count_65 rfl (zi_1 _) ?_
              refine z_goto C 16 dX6_count_68 (by decide) ?_
              exact ih16 (vU 1 - (k1 + 1)) (by omega) (k1 + 1) n1 d1 rfl (by omega) (by have h8 := zc_s (p := (fun p => mNw vZ vK vR vC vS vN vM 1 p)) (k := k1); simp only [h_6, if_true, Bool.false_eq_true, if_false] at h8; omega) (by have h8 := zc_s (p := (fun p => mDm vZ vK vR vC vS vN vM 1 p)) (k := k1); simp only [h_7, if_true, Bool.false_eq_true, if_false] at h8; omega) (by omega) (by omega)
            · refine z_iconst C (nI 1) dX6_count_58 (by decide) ?_
              refine z_goto C 63 dX6_count_59 (by decide) ?_
              refine z_iadd C dX6_count_63 ?_
              refine z_top (y := nI (d1 + 1)) (nI_add _ _) ?_
              refine z_istore_n C 3 dX6_count_64 rfl (Nat.le_of_ble_eq_true rfl) ?_
              refine z_iinc C (nI (k1 + 1)) dX6_count_65 rfl (zi_1 _) ?_
              refine z_goto C 16 dX6_count_68 (by decide) ?_
              exact ih16 (vU 1 - (k1 + 1)) (by omega) (k1 + 1) n1 (d1 + 1) rfl (by omega) (by have h8 := zc_s (p := (fun p => mNw vZ vK vR vC vS vN vM 1 p)) (k := k1); simp only [h_6, if_true, Bool.false_eq_true, if_false] at h8; omega) (by have h8 := zc_s (p := (fun p => mDm vZ vK vR vC vS vN vM 1 p)) (k := k1); simp only [h_7, if_true, Bool.false_eq_true, if_false] at h8; omega) (by omega) (by omega)
          · refine z_iconst C (nI 1) dX6_count_39 (by decide) ?_
            refine z_goto C 44 dX6_count_40 (by decide) ?_
            refine z_iadd C dX6_count_44 ?_
            refine z_top (y := nI (n1 + 1)) (nI_add _ _) ?_
            refine z_istore_n C 2 dX6_count_45 rfl (Nat.le_of_ble_eq_true rfl) ?_
            refine z_iload_n C 3 dX6_count_46 rfl rfl ?_
            refine z_aload_n C 0 dX6_count_47 rfl rfl ?_
            refine z_iload C dX6_count_48 rfl ?_
            refine z_iload C dX6_count_50 rfl ?_
            refine z_callVr C kX6_isDoomed gX6_count_X6_isDoomed (mX6_isDoomed_1 X.2.1 a kp ty pl gd od vU vS vN vX vM vT vB vK vY vZ vR vC vV k1 hO (by first | assumption | omega)) dX6_count_52 [0, 1] [.int (nI d1)] 0 rfl nd_0_1 rfl rfl rfl (by decide) (by decide) (Nat.le_of_ble_eq_true rfl) rfl ?_
            refine z_bif_eq C 62 dX6_count_55 (by decide) (fun h_8 => ?_) (fun h_8 => ?_)
            · refine z_iconst C (nI 0) dX6_count_62 (by decide) ?_
              refine z_iadd C dX6_count_63 ?_
              refine z_top (y := nI d1) (nI_add _ _) ?_
              refine z_istore_n C 3 dX6_count_64 rfl (Nat.le_of_ble_eq_true rfl) ?_
              refine z_iinc C (nI (k1 + 1)) dX6_count_65 rfl (zi_1 _) ?_
              refine z_goto C 16 dX6_count_68 (by decide) ?_
              exact ih16 (vU 1 - (k1 + 1)) (by omega) (k1 + 1) (n1 + 1) d1 rfl (by omega) (by have h8 := zc_s (p := (fun p => mNw vZ vK vR vC vS vN vM 1 p)) (k := k1); simp only [h_6, if_true, Bool.false_eq_true, if_false] at h8; omega) (by have h8 := zc_s (p := (fun p => mDm vZ vK vR vC vS vN vM 1 p)) (k := k1); simp only [h_8, if_true, Bool.false_eq_true, if_false] at h8; omega) (by omega) (by omega)
            · refine z_iconst C (nI 1) dX6_count_58 (by decide) ?_
              refine z_goto C 63 dX6_count_59 (by decide) ?_
              refine z_iadd C dX6_count_63 ?_
              refine z_top (y := nI (d1 + 1)) (nI_add _ _) ?_
              refine z_istore_n C 3 dX6_count_64 rfl (Nat.le_of_ble_eq_true rfl) ?_
              refine z_iinc C (nI (k1 + 1)) dX6_count_65 rfl (zi_1 _) ?_
              refine z_goto C 16 dX6_count_68 (by decide) ?_
              exact ih16 (vU 1 - (k1 + 1)) (by omega) (k1 + 1) (n1 + 1) (d1 + 1) rfl (by omega) (by have h8 := zc_s (p := (fun p => mNw vZ vK vR vC vS vN vM 1 p)) (k := k1); simp only [h_6, if_true, Bool.false_eq_true, if_false] at h8; omega) (by have h8 := zc_s (p := (fun p => mDm vZ vK vR vC vS vN vM 1 p)) (k := k1); simp only [h_8, if_true, Bool.false_eq_true, if_false] at h8; omega) (by omega) (by omega)
      exact hL16 _ 0 n0 d0 rfl (by omega) (by rw [hn0, show k0 = vU 0 by omega]; simp [zc]) (by rw [hd0, show k0 = vU 0 by omega]; simp [zc]) (by omega) (by omega)
    · refine z_iload_n C 2 dX6_count_27 rfl rfl ?_
      refine z_aload_n C 0 dX6_count_28 rfl rfl ?_
      refine z_iload C dX6_count_29 rfl ?_
      refine z_iload C dX6_count_31 rfl ?_
      refine z_callVr C kX6_isNew gX6_count_X6_isNew (mX6_isNew_0 X.2.1 a kp ty pl gd od vU vS vN vX vM vT vB vK vY vZ vR vC vV k0 hO (by first | assumption | omega)) dX6_count_33 [0, 1] [.int (nI n0)] 0 rfl nd_0_1 rfl rfl rfl (by decide) (by decide) (Nat.le_of_ble_eq_true rfl) rfl ?_
      refine z_bif_eq C 43 dX6_count_36 (by decide) (fun h_9 => ?_) (fun h_9 => ?_)
      · refine z_iconst C (nI 0) dX6_count_43 (by decide) ?_
        refine z_iadd C dX6_count_44 ?_
        refine z_top (y := nI n0) (nI_add _ _) ?_
        refine z_istore_n C 2 dX6_count_45 rfl (Nat.le_of_ble_eq_true rfl) ?_
        refine z_iload_n C 3 dX6_count_46 rfl rfl ?_
        refine z_aload_n C 0 dX6_count_47 rfl rfl ?_
        refine z_iload C dX6_count_48 rfl ?_
        refine z_iload C dX6_count_50 rfl ?_
        refine z_callVr C kX6_isDoomed gX6_count_X6_isDoomed (mX6_isDoomed_0 X.2.1 a kp ty pl gd od vU vS vN vX vM vT vB vK vY vZ vR vC vV k0 hO (by first | assumption | omega)) dX6_count_52 [0, 1] [.int (nI d0)] 0 rfl nd_0_1 rfl rfl rfl (by decide) (by decide) (Nat.le_of_ble_eq_true rfl) rfl ?_
        refine z_bif_eq C 62 dX6_count_55 (by decide) (fun h_10 => ?_) (fun h_10 => ?_)
        · refine z_iconst C (nI 0) dX6_count_62 (by decide) ?_
          refine z_iadd C dX6_count_63 ?_
          refine z_top (y := nI d0) (nI_add _ _) ?_
          refine z_istore_n C 3 dX6_count_64 rfl (Nat.le_of_ble_eq_true rfl) ?_
          refine z_iinc C (nI (k0 + 1)) dX6_count_65 rfl (zi_1 _) ?_
          refine z_goto C 16 dX6_count_68 (by decide) ?_
          exact ih16 (vU 0 - (k0 + 1)) (by omega) (k0 + 1) n0 d0 rfl (by omega) (by have h8 := zc_s (p := (fun p => mNw vZ vK vR vC vS vN vM 0 p)) (k := k0); simp only [h_9, if_true, Bool.false_eq_true, if_false] at h8; omega) (by have h8 := zc_s (p := (fun p => mDm vZ vK vR vC vS vN vM 0 p)) (k := k0); simp only [h_10, if_true, Bool.false_eq_true, if_false] at h8; omega) (by omega) (by omega)
        · refine z_iconst C (nI 1) dX6_count_58 (by decide) ?_
          refine z_goto C 63 dX6_count_59 (by decide) ?_
          refine z_iadd C dX6_count_63 ?_
          refine z_top (y := nI (d0 + 1)) (nI_add _ _) ?_
          refine z_istore_n C 3 dX6_count_64 rfl (Nat.le_of_ble_eq_true rfl) ?_
          refine z_iinc C (nI (k0 + 1)) dX6_count_65 rfl (zi_1 _) ?_
          refine z_goto C 16 dX6_count_68 (by decide) ?_
          exact ih16 (vU 0 - (k0 + 1)) (by omega) (k0 + 1) n0 (d0 + 1) rfl (by omega) (by have h8 := zc_s (p := (fun p => mNw vZ vK vR vC vS vN vM 0 p)) (k := k0); simp only [h_9, if_true, Bool.false_eq_true, if_false] at h8; omega) (by have h8 := zc_s (p := (fun p => mDm vZ vK vR vC vS vN vM 0 p)) (k := k0); simp only [h_10, if_true, Bool.false_eq_true, if_false] at h8; omega) (by omega) (by omega)
      · refine z_iconst C (nI 1) dX6_count_39 (by decide) ?_
        refine z_goto C 44 dX6_count_40 (by decide) ?_
        refine z_iadd C dX6_count_44 ?_
        refine z_top (y := nI (n0 + 1)) (nI_add _ _) ?_
        refine z_istore_n C 2 dX6_count_45 rfl (Nat.le_of_ble_eq_true rfl) ?_
        refine z_iload_n C 3 dX6_count_46 rfl rfl ?_
        refine z_aload_n C 0 dX6_count_47 rfl rfl ?_
        refine z_iload C dX6_count_48 rfl ?_
        refine z_iload C dX6_count_50 rfl ?_
        refine z_callVr C kX6_isDoomed gX6_count_X6_isDoomed (mX6_isDoomed_0 X.2.1 a kp ty pl gd od vU vS vN vX vM vT vB vK vY vZ vR vC vV k0 hO (by first | assumption | omega)) dX6_count_52 [0, 1] [.int (nI d0)] 0 rfl nd_0_1 rfl rfl rfl (by decide) (by decide) (Nat.le_of_ble_eq_true rfl) rfl ?_
        refine z_bif_eq C 62 dX6_count_55 (by decide) (fun h_11 => ?_) (fun h_11 => ?_)
        · refine z_iconst C (nI 0) dX6_count_62 (by decide) ?_
          refine z_iadd C dX6_count_63 ?_
          refine z_top (y := nI d0) (nI_add _ _) ?_
          refine z_istore_n C 3 dX6_count_64 rfl (Nat.le_of_ble_eq_true rfl) ?_
          refine z_iinc C (nI (k0 + 1)) dX6_count_65 rfl (zi_1 _) ?_
          refine z_goto C 16 dX6_count_68 (by decide) ?_
          exact ih16 (vU 0 - (k0 + 1)) (by omega) (k0 + 1) (n0 + 1) d0 rfl (by omega) (by have h8 := zc_s (p := (fun p => mNw vZ vK vR vC vS vN vM 0 p)) (k := k0); simp only [h_9, if_true, Bool.false_eq_true, if_false] at h8; omega) (by have h8 := zc_s (p := (fun p => mDm vZ vK vR vC vS vN vM 0 p)) (k := k0); simp only [h_11, if_true, Bool.false_eq_true, if_false] at h8; omega) (by omega) (by omega)
        · refine z_iconst C (nI 1) dX6_count_58 (by decide) ?_
          refine z_goto C 63 dX6_count_59 (by decide) ?_
          refine z_iadd C dX6_count_63 ?_
          refine z_top (y := nI (d0 + 1)) (nI_add _ _) ?_
          refine z_istore_n C 3 dX6_count_64 rfl (Nat.le_of_ble_eq_true rfl) ?_
          refine z_iinc C (nI (k0 + 1)) dX6_count_65 rfl (zi_1 _) ?_
          refine z_goto C 16 dX6_count_68 (by decide) ?_
          exact ih16 (vU 0 - (k0 + 1)) (by omega) (k0 + 1) (n0 + 1) (d0 + 1) rfl (by omega) (by have h8 := zc_s (p := (fun p => mNw vZ vK vR vC vS vN vM 0 p)) (k := k0); simp only [h_9, if_true, Bool.false_eq_true, if_false] at h8; omega) (by have h8 := zc_s (p := (fun p => mDm vZ vK vR vC vS vN vM 0 p)) (k := k0); simp only [h_11, if_true, Bool.false_eq_true, if_false] at h8; omega) (by omega) (by omega)
  exact hL16 _ 0 0 0 rfl (by omega) (by simp [zc]) (by simp [zc]) (by omega) (by omega)

theorem fX6_count_26 : zF wsX6_count RX6 26 6 3 RX6 TX6 10 := ⟨by decide +kernel, rfl, by decide, by decide +kernel, rfl⟩
set_option maxHeartbeats 400000 in
set_option maxRecDepth 100000 in
theorem mX6_count_9 (E : zE) (a : Nat → Nat) (kp ty pl : Nat) (gd : Bool) (od : Nat) (vU vS : Nat → Nat) (vN : Nat → Int32) (vX vM : Nat) (vT : Bool) (vB vK vY vZ vR vC vV : Nat → Int32)  (hO : okM vU vS vM vK) : zM E yX6_count wsX6_count 5 [.ref (a 0), .int (nI 9)] [((a 0), .inr (6, [.ref (a 1), .ref (a 2), .ref (a 3), .int (nI kp), .int (nI ty), .ref (a 4), .int (nI pl), .int (zb gd), .int (nI od), .ref (a 5)])), ((a 1), .inl (E.2.2.1, 512, .inl (mRow vU vS vN vX vM vT vB vK vY vZ vR vC vV)))] [((a 0), .inr (6, [.ref (a 1), .ref (a 2), .ref (a 3), .int (nI kp), .int (nI ty), .ref (a 4), .int (nI pl), .int (zb gd), .int (nI od), .ref (a 5)])), ((a 1), .inl (E.2.2.1, 512, .inl (mRow vU vS vN vX vM vT vB vK vY vZ vR vC vV)))] (some (.int (nI kp))) := by
  refine zM.of kX6_count (Nat.le_of_ble_eq_true rfl) rfl [some (.ref (a 0)), some (.int (nI 9)), none, none, none, none, none] rfl (Nat.le_of_ble_eq_true rfl) ?_
  intro X eX C N
  subst eX
  obtain ⟨hu0, hu1, hM, hk1, hk2, hk3⟩ := id hO
  refine z_iconst C (nI 0) dX6_count_0 (by decide) ?_
  refine z_istore_n C 2 dX6_count_1 rfl (Nat.le_of_ble_eq_true rfl) ?_
  refine z_iconst C (nI 0) dX6_count_2 (by decide) ?_
  refine z_istore_n C 3 dX6_count_3 rfl (Nat.le_of_ble_eq_true rfl) ?_
  refine z_iconst C (nI 0) dX6_count_4 (by decide) ?_
  refine z_istore C dX6_count_5 (Nat.le_of_ble_eq_true rfl) ?_
  refine z_iload C dX6_count_7 rfl ?_
  refine z_iconst C (nI 2) dX6_count_9 (by decide) ?_
  refine z_ncmp_ge_f C 77 dX6_count_10 (by decide) (by omega) (by omega) (by omega) ?_
  refine z_iconst C (nI 0) dX6_count_13 (by decide) ?_
  refine z_istore C dX6_count_14 (Nat.le_of_ble_eq_true rfl) ?_
  have hL16 : ∀ (dd : Nat) (k0 : Nat) (n0 : Nat) (d0 : Nat), vU 0 - k0 = dd → (k0 ≤ vU 0) → (n0 = 0 + zc (fun p => mNw vZ vK vR vC vS vN vM 0 p) k0) → (d0 = 0 + zc (fun p => mDm vZ vK vR vC vS vN vM 0 p) k0) → (n0 ≤ 0 + k0) → (d0 ≤ 0 + k0) → zG X 0 0 [((a 0), .inr (6, [.ref (a 1), .ref (a 2), .ref (a 3), .int (nI kp), .int (nI ty), .ref (a 4), .int (nI pl), .int (zb gd), .int (nI od), .ref (a 5)])), ((a 1), .inl (X.2.1.2.2.1, 512, .inl (mRow vU vS vN vX vM vT vB vK vY vZ vR vC vV)))] [some (.ref (a 0)), some (.int (nI 9)), some (.int (nI n0)), some (.int (nI d0)), some (.int (nI 0)), some (.int (nI k0)), none] [] 16 := by
    intro dd
    induction dd using Nat.strongRecOn with
    | _ dd ih16 =>
    intro k0 n0 d0 hdd hk09 hn0 hd0 hnb0 hdb0
    refine z_iload C dX6_count_16 rfl ?_
    refine z_aload_n C 0 dX6_count_18 rfl rfl ?_
    refine z_iload C dX6_count_19 rfl ?_
    refine z_callVr C kX6_many gX6_count_X6_many (mX6_many_0 X.2.1 a kp ty pl gd od vU vS vN vX vM vT vB vK vY vZ vR vC vV ) dX6_count_21 [0, 1] [.int (nI k0)] 0 rfl nd_0_1 rfl rfl rfl (by decide) (by decide) (Nat.le_of_ble_eq_true rfl) rfl ?_
    refine z_ncmp_ge C 71 dX6_count_24 (by decide) (by omega) (by omega) (fun h_1 => ?_) (fun h_1 => ?_)
    · refine z_iinc C (nI 1) dX6_count_71 rfl (zi_1 _) ?_
      refine z_goto C 7 dX6_count_74 (by decide) ?_
      refine z_iload C dX6_count_7 rfl ?_
      refine z_iconst C (nI 2) dX6_count_9 (by decide) ?_
      refine z_ncmp_ge_f C 77 dX6_count_10 (by decide) (by omega) (by omega) (by omega) ?_
      refine z_iconst C (nI 0) dX6_count_13 (by decide) ?_
      refine z_istore C dX6_count_14 (Nat.le_of_ble_eq_true rfl) ?_
      have hL16 : ∀ (dd : Nat) (k1 : Nat) (n1 : Nat) (d1 : Nat), vU 1 - k1 = dd → (k1 ≤ vU 1) → (n1 = zc (fun p => mNw vZ vK vR vC vS vN vM 0 p) (vU 0) + zc (fun p => mNw vZ vK vR vC vS vN vM 1 p) k1) → (d1 = zc (fun p => mDm vZ vK vR vC vS vN vM 0 p) (vU 0) + zc (fun p => mDm vZ vK vR vC vS vN vM 1 p) k1) → (n1 ≤ 12 + k1) → (d1 ≤ 12 + k1) → zG X 0 0 [((a 0), .inr (6, [.ref (a 1), .ref (a 2), .ref (a 3), .int (nI kp), .int (nI ty), .ref (a 4), .int (nI pl), .int (zb gd), .int (nI od), .ref (a 5)])), ((a 1), .inl (X.2.1.2.2.1, 512, .inl (mRow vU vS vN vX vM vT vB vK vY vZ vR vC vV)))] [some (.ref (a 0)), some (.int (nI 9)), some (.int (nI n1)), some (.int (nI d1)), some (.int (nI 1)), some (.int (nI k1)), none] [] 16 := by
        intro dd
        induction dd using Nat.strongRecOn with
        | _ dd ih16 =>
        intro k1 n1 d1 hdd hk19 hn1 hd1 hnb1 hdb1
        refine z_iload C dX6_count_16 rfl ?_
        refine z_aload_n C 0 dX6_count_18 rfl rfl ?_
        refine z_iload C dX6_count_19 rfl ?_
        refine z_callVr C kX6_many gX6_count_X6_many (mX6_many_1 X.2.1 a kp ty pl gd od vU vS vN vX vM vT vB vK vY vZ vR vC vV ) dX6_count_21 [0, 1] [.int (nI k1)] 0 rfl nd_0_1 rfl rfl rfl (by decide) (by decide) (Nat.le_of_ble_eq_true rfl) rfl ?_
        refine z_ncmp_ge C 71 dX6_count_24 (by decide) (by omega) (by omega) (fun h_2 => ?_) (fun h_2 => ?_)
        · refine z_iinc C (nI 2) dX6_count_71 rfl (zi_1 _) ?_
          refine z_goto C 7 dX6_count_74 (by decide) ?_
          refine z_iload C dX6_count_7 rfl ?_
          refine z_iconst C (nI 2) dX6_count_9 (by decide) ?_
          refine z_ncmp_ge_t C 77 dX6_count_10 (by decide) (by omega) (by omega) (by omega) ?_
          refine z_iconst C (nI 0) dX6_count_77 (by decide) ?_
          refine z_istore C dX6_count_78 (Nat.le_of_ble_eq_true rfl) ?_
          refine z_iconst C (nI 0) dX6_count_80 (by decide) ?_
          refine z_istore C dX6_count_81 (Nat.le_of_ble_eq_true rfl) ?_
          refine z_iconst C (nI 0) dX6_count_83 (by decide) ?_
          refine z_istore C dX6_count_84 (Nat.le_of_ble_eq_true rfl) ?_
          have hL86 : ∀ (dd : Nat) (k : Nat) (s9 : Nat) (t9 : Nat), vM - k = dd → (k ≤ vM) → (s9 = zc (fun x => decide (vZ x = 0) && decide (vK x = nI 4)) k) → (t9 = 0) → (s9 ≤ k) → (t9 ≤ k) → zG X 0 0 [((a 0), .inr (6, [.ref (a 1), .ref (a 2), .ref (a 3), .int (nI kp), .int (nI ty), .ref (a 4), .int (nI pl), .int (zb gd), .int (nI od), .ref (a 5)])), ((a 1), .inl (X.2.1.2.2.1, 512, .inl (mRow vU vS vN vX vM vT vB vK vY vZ vR vC vV)))] [some (.ref (a 0)), some (.int (nI 9)), some (.int (nI n1)), some (.int (nI d1)), some (.int (nI s9)), some (.int (nI t9)), some (.int (nI k))] [] 86 := by
            intro dd
            induction dd using Nat.strongRecOn with
            | _ dd ih86 =>
            intro k s9 t9 hdd hk hs9 ht9 hsb htb
            refine z_iload C dX6_count_86 rfl ?_
            refine z_aload_n C 0 dX6_count_88 rfl rfl ?_
            refine z_get C fX6_count_7 0 dX6_count_89 rfl rfl ?_
            refine z_bipush C (nI 51) dX6_count_92 (by decide) ?_
            refine z_ialdN C 1 dX6_count_94 rfl (by omega) (by decide) ?_
            refine z_top (y := nI (vM)) (zMr_M) ?_
            refine z_ncmp_ge C 170 dX6_count_95 (by decide) (by omega) (by omega) (fun h_3 => ?_) (fun h_3 => ?_)
            · refine z_iload_n C 1 dX6_count_170 rfl rfl ?_
              refine z_tsAt C 9 254 dX6_count_171 (by decide) (by decide) rfl (by decide) ?_
              refine z_aload_n C 0 dX6_count_254 rfl rfl ?_
              refine z_get C fX6_count_26 0 dX6_count_255 rfl rfl ?_
              exact z_iret C N dX6_count_258 (rfl) (rfl)
            · refine z_iload C dX6_count_98 rfl ?_
              refine z_aload_n C 0 dX6_count_100 rfl rfl ?_
              refine z_iload C dX6_count_101 rfl ?_
              refine z_callVr C kX6_isPending gX6_count_X6_isPending (mX6_isPending X.2.1 a kp ty pl gd od vU vS vN vX vM vT vB vK vY vZ vR vC vV k (by first | assumption | omega)) dX6_count_103 [0, 1] [.int (nI s9)] 0 rfl nd_0_1 rfl rfl rfl (by decide) (by decide) (Nat.le_of_ble_eq_true rfl) rfl ?_
              refine z_bif_eq C 126 dX6_count_106 (by decide) (fun h_4 => ?_) (fun h_4 => ?_)
              · refine z_iconst C (nI 0) dX6_count_126 (by decide) ?_
                refine z_iadd C dX6_count_127 ?_
                refine z_top (y := nI s9) (nI_add _ _) ?_
                refine z_istore C dX6_count_128 (Nat.le_of_ble_eq_true rfl) ?_
                refine z_iload C dX6_count_130 rfl ?_
                refine z_iload_n C 1 dX6_count_132 rfl rfl ?_
                refine z_iconst C (nI 1) dX6_count_133 (by decide) ?_
                refine z_iconst C (nI 4) dX6_count_134 (by decide) ?_
                refine z_callS C kX6_in gX6_count_X6_in (mX6_in_n1 X.2.1 (nI 9) 4 (by decide)) dX6_count_135 [.int (nI t9)] rfl (by decide) (by decide) (Nat.le_of_ble_eq_true rfl) rfl ?_
                refine z_bif_eq_t C 160 dX6_count_138 (by decide) rfl ?_
                refine z_iconst C (nI 0) dX6_count_160 (by decide) ?_
                refine z_iadd C dX6_count_161 ?_
                refine z_top (y := nI t9) (nI_add _ _) ?_
                refine z_istore C dX6_count_162 (Nat.le_of_ble_eq_true rfl) ?_
                refine z_iinc C (nI (k + 1)) dX6_count_164 rfl (zi_1 _) ?_
                refine z_goto C 86 dX6_count_167 (by decide) ?_
                exact ih86 (vM - (k + 1)) (by omega) (k + 1) s9 t9 rfl (by omega) (by subst hs9; first | exact (zc_y (by simp [nI_0, nI_eq, zz_0, zz_0s, h_1, h_2, h_3, of_decide_eq_false h_4, h_4]; done)).symm | exact (zc_n (by simp [nI_0, nI_eq, zz_0, zz_0s, h_1, h_2, h_3, of_decide_eq_false h_4, h_4]; done)).symm | (simp_all [nI_0]; done)) (by omega) (by omega) (by omega)
              · refine z_aload_n C 0 dX6_count_109 rfl rfl ?_
                refine z_iload C dX6_count_110 rfl ?_
                refine z_sipush C (nI 149) dX6_count_112 (by decide) ?_
                refine z_callVr C kX6_of gX6_count_X6_of (mX6_of_K X.2.1 a kp ty pl gd od vU vS vN vX vM vT vB vK vY vZ vR vC vV k (by first | assumption | omega)) dX6_count_115 [0, 1] [.int (nI s9)] 0 rfl nd_0_1 rfl rfl rfl (by decide) (by decide) (Nat.le_of_ble_eq_true rfl) rfl ?_
                refine z_iconst C (nI 4) dX6_count_118 (by decide) ?_
                refine z_icmp_ne C 126 dX6_count_119 (by decide) (fun h_5 => ?_) (fun h_5 => ?_)
                · refine z_iconst C (nI 0) dX6_count_126 (by decide) ?_
                  refine z_iadd C dX6_count_127 ?_
                  refine z_top (y := nI s9) (nI_add _ _) ?_
                  refine z_istore C dX6_count_128 (Nat.le_of_ble_eq_true rfl) ?_
                  refine z_iload C dX6_count_130 rfl ?_
                  refine z_iload_n C 1 dX6_count_132 rfl rfl ?_
                  refine z_iconst C (nI 1) dX6_count_133 (by decide) ?_
                  refine z_iconst C (nI 4) dX6_count_134 (by decide) ?_
                  refine z_callS C kX6_in gX6_count_X6_in (mX6_in_n1 X.2.1 (nI 9) 4 (by decide)) dX6_count_135 [.int (nI t9)] rfl (by decide) (by decide) (Nat.le_of_ble_eq_true rfl) rfl ?_
                  refine z_bif_eq_t C 160 dX6_count_138 (by decide) rfl ?_
                  refine z_iconst C (nI 0) dX6_count_160 (by decide) ?_
                  refine z_iadd C dX6_count_161 ?_
                  refine z_top (y := nI t9) (nI_add _ _) ?_
                  refine z_istore C dX6_count_162 (Nat.le_of_ble_eq_true rfl) ?_
                  refine z_iinc C (nI (k + 1)) dX6_count_164 rfl (zi_1 _) ?_
                  refine z_goto C 86 dX6_count_167 (by decide) ?_
                  exact ih86 (vM - (k + 1)) (by omega) (k + 1) s9 t9 rfl (by omega) (by subst hs9; first | exact (zc_y (by simp [nI_0, nI_eq, zz_0, zz_0s, h_1, h_2, h_3, of_decide_eq_true h_4, h_4, h_5]; done)).symm | exact (zc_n (by simp [nI_0, nI_eq, zz_0, zz_0s, h_1, h_2, h_3, of_decide_eq_true h_4, h_4, h_5]; done)).symm | (simp_all [nI_0]; done)) (by omega) (by omega) (by omega)
                · refine z_iconst C (nI 1) dX6_count_122 (by decide) ?_
                  refine z_goto C 127 dX6_count_123 (by decide) ?_
                  refine z_iadd C dX6_count_127 ?_
                  refine z_top (y := nI (s9 + 1)) (nI_add _ _) ?_
                  refine z_istore C dX6_count_128 (Nat.le_of_ble_eq_true rfl) ?_
                  refine z_iload C dX6_count_130 rfl ?_
                  refine z_iload_n C 1 dX6_count_132 rfl rfl ?_
                  refine z_iconst C (nI 1) dX6_count_133 (by decide) ?_
                  refine z_iconst C (nI 4) dX6_count_134 (by decide) ?_
                  refine z_callS C kX6_in gX6_count_X6_in (mX6_in_n1 X.2.1 (nI 9) 4 (by decide)) dX6_count_135 [.int (nI t9)] rfl (by decide) (by decide) (Nat.le_of_ble_eq_true rfl) rfl ?_
                  refine z_bif_eq_t C 160 dX6_count_138 (by decide) rfl ?_
                  refine z_iconst C (nI 0) dX6_count_160 (by decide) ?_
                  refine z_iadd C dX6_count_161 ?_
                  refine z_top (y := nI t9) (nI_add _ _) ?_
                  refine z_istore C dX6_count_162 (Nat.le_of_ble_eq_true rfl) ?_
                  refine z_iinc C (nI (k + 1)) dX6_count_164 rfl (zi_1 _) ?_
                  refine z_goto C 86 dX6_count_167 (by decide) ?_
                  exact ih86 (vM - (k + 1)) (by omega) (k + 1) (s9 + 1) t9 rfl (by omega) (by subst hs9; first | exact (zc_y (by simp [nI_0, nI_eq, zz_0, zz_0s, h_1, h_2, h_3, of_decide_eq_true h_4, h_4, h_5]; done)).symm | exact (zc_n (by simp [nI_0, nI_eq, zz_0, zz_0s, h_1, h_2, h_3, of_decide_eq_true h_4, h_4, h_5]; done)).symm | (simp_all [nI_0]; done)) (by omega) (by omega) (by omega)
          exact hL86 _ 0 0 0 rfl (by omega) (rfl) (rfl) (by omega) (by omega)
        · refine z_iload_n C 2 dX6_count_27 rfl rfl ?_
          refine z_aload_n C 0 dX6_count_28 rfl rfl ?_
          refine z_iload C dX6_count_29 rfl ?_
          refine z_iload C dX6_count_31 rfl ?_
          refine z_callVr C kX6_isNew gX6_count_X6_isNew (mX6_isNew_1 X.2.1 a kp ty pl gd od vU vS vN vX vM vT vB vK vY vZ vR vC vV k1 hO (by first | assumption | omega)) dX6_count_33 [0, 1] [.int (nI n1)] 0 rfl nd_0_1 rfl rfl rfl (by decide) (by decide) (Nat.le_of_ble_eq_true rfl) rfl ?_
          refine z_bif_eq C 43 dX6_count_36 (by decide) (fun h_6 => ?_) (fun h_6 => ?_)
          · refine z_iconst C (nI 0) dX6_count_43 (by decide) ?_
            refine z_iadd C dX6_count_44 ?_
            refine z_top (y := nI n1) (nI_add _ _) ?_
            refine z_istore_n C 2 dX6_count_45 rfl (Nat.le_of_ble_eq_true rfl) ?_
            refine z_iload_n C 3 dX6_count_46 rfl rfl ?_
            refine z_aload_n C 0 dX6_count_47 rfl rfl ?_
            refine z_iload C dX6_count_48 rfl ?_
            refine z_iload C dX6_count_50 rfl ?_
            refine z_callVr C kX6_isDoomed gX6_count_X6_isDoomed (mX6_isDoomed_1 X.2.1 a kp ty pl gd od vU vS vN vX vM vT vB vK vY vZ vR vC vV k1 hO (by first | assumption | omega)) dX6_count_52 [0, 1] [.int (nI d1)] 0 rfl nd_0_1 rfl rfl rfl (by decide) (by decide) (Nat.le_of_ble_eq_true rfl) rfl ?_
            refine z_bif_eq C 62 dX6_count_55 (by decide) (fun h_7 => ?_) (fun h_7 => ?_)
            · refine z_iconst C (nI 0) dX6_count_62 (by decide) ?_
              refine z_iadd C dX6_count_63 ?_
              refine z_top (y := nI d1) (nI_add _ _) ?_
              refine z_istore_n C 3 dX6_count_64 rfl (Nat.le_of_ble_eq_true rfl) ?_
              refine z_iinc C (nI (k1 + 1)) dX6_count_65 rfl (zi_1 _) ?_
              refine z_goto C 16 dX6_count_68 (by decide) ?_
              exact ih16 (vU 1 - (k1 + 1)) (by omega) (k1 + 1) n1 d1 rfl (by omega) (by have h8 := zc_s (p := (fun p => mNw vZ vK vR vC vS vN vM 1 p)) (k := k1); simp only [h_6, if_true, Bool.false_eq_true, if_false] at h8; omega) (by have h8 := zc_s (p := (fun p => mDm vZ vK vR vC vS vN vM 1 p)) (k := k1); simp only [h_7, if_true, Bool.false_eq_true, if_false] at h8; omega) (by omega) (by omega)
            · refine z_iconst C (nI 1) dX6_count_58 (by decide) ?_
              refine z_goto C 63 dX6_count_59 (by decide) ?_
              refine z_iadd C dX6_count_63 ?_
              refine z_top (y := nI (d1 + 1)) (nI_add _ _) ?_
              refine z_istore_n C 3 dX6_count_64 rfl (Nat.le_of_ble_eq_true rfl) ?_
              refine z_iinc C (nI (k1 + 1)) dX6_count_65 rfl (zi_1 _) ?_
              refine z_goto C 16 dX6_count_68 (by decide) ?_
              exact ih16 (vU 1 - (k1 + 1)) (by omega) (k1 + 1) n1 (d1 + 1) rfl (by omega) (by have h8 := zc_s (p := (fun p => mNw vZ vK vR vC vS vN vM 1 p)) (k := k1); simp only [h_6, if_true, Bool.false_eq_true, if_false] at h8; omega) (by have h8 := zc_s (p := (fun p => mDm vZ vK vR vC vS vN vM 1 p)) (k := k1); simp only [h_7, if_true, Bool.false_eq_true, if_false] at h8; omega) (by omega) (by omega)
          · refine z_iconst C (nI 1) dX6_count_39 (by decide) ?_
            refine z_goto C 44 dX6_count_40 (by decide) ?_
            refine z_iadd C dX6_count_44 ?_
            refine z_top (y := nI (n1 + 1)) (nI_add _ _) ?_
            refine z_istore_n C 2 dX6_count_45 rfl (Nat.le_of_ble_eq_true rfl) ?_
            refine z_iload_n C 3 dX6_count_46 rfl rfl ?_
            refine z_aload_n C 0 dX6_count_47 rfl rfl ?_
            refine z_iload C dX6_count_48 rfl ?_
            refine z_iload C dX6_count_50 rfl ?_
            refine z_callVr C kX6_isDoomed gX6_count_X6_isDoomed (mX6_isDoomed_1 X.2.1 a kp ty pl gd od vU vS vN vX vM vT vB vK vY vZ vR vC vV k1 hO (by first | assumption | omega)) dX6_count_52 [0, 1] [.int (nI d1)] 0 rfl nd_0_1 rfl rfl rfl (by decide) (by decide) (Nat.le_of_ble_eq_true rfl) rfl ?_
            refine z_bif_eq C 62 dX6_count_55 (by decide) (fun h_8 => ?_) (fun h_8 => ?_)
            · refine z_iconst C (nI 0) dX6_count_62 (by decide) ?_
              refine z_iadd C dX6_count_63 ?_
              refine z_top (y := nI d1) (nI_add _ _) ?_
              refine z_istore_n C 3 dX6_count_64 rfl (Nat.le_of_ble_eq_true rfl) ?_
              refine z_iinc C (nI (k1 + 1)) dX6_count_65 rfl (zi_1 _) ?_
              refine z_goto C 16 dX6_count_68 (by decide) ?_
              exact ih16 (vU 1 - (k1 + 1)) (by omega) (k1 + 1) (n1 + 1) d1 rfl (by omega) (by have h8 := zc_s (p := (fun p => mNw vZ vK vR vC vS vN vM 1 p)) (k := k1); simp only [h_6, if_true, Bool.false_eq_true, if_false] at h8; omega) (by have h8 := zc_s (p := (fun p => mDm vZ vK vR vC vS vN vM 1 p)) (k := k1); simp only [h_8, if_true, Bool.false_eq_true, if_false] at h8; omega) (by omega) (by omega)
            · refine z_iconst C (nI 1) dX6_count_58 (by decide) ?_
              refine z_goto C 63 dX6_count_59 (by decide) ?_
              refine z_iadd C dX6_count_63 ?_
              refine z_top (y := nI (d1 + 1)) (nI_add _ _) ?_
              refine z_istore_n C 3 dX6_count_64 rfl (Nat.le_of_ble_eq_true rfl) ?_
              refine z_iinc C (nI (k1 + 1)) dX6_count_65 rfl (zi_1 _) ?_
              refine z_goto C 16 dX6_count_68 (by decide) ?_
              exact ih16 (vU 1 - (k1 + 1)) (by omega) (k1 + 1) (n1 + 1) (d1 + 1) rfl (by omega) (by have h8 := zc_s (p := (fun p => mNw vZ vK vR vC vS vN vM 1 p)) (k := k1); simp only [h_6, if_true, Bool.false_eq_true, if_false] at h8; omega) (by have h8 := zc_s (p := (fun p => mDm vZ vK vR vC vS vN vM 1 p)) (k := k1); simp only [h_8, if_true, Bool.false_eq_true, if_false] at h8; omega) (by omega) (by omega)
      exact hL16 _ 0 n0 d0 rfl (by omega) (by rw [hn0, show k0 = vU 0 by omega]; simp [zc]) (by rw [hd0, show k0 = vU 0 by omega]; simp [zc]) (by omega) (by omega)
    · refine z_iload_n C 2 dX6_count_27 rfl rfl ?_
      refine z_aload_n C 0 dX6_count_28 rfl rfl ?_
      refine z_iload C dX6_count_29 rfl ?_
      refine z_iload C dX6_count_31 rfl ?_
      refine z_callVr C kX6_isNew gX6_count_X6_isNew (mX6_isNew_0 X.2.1 a kp ty pl gd od vU vS vN vX vM vT vB vK vY vZ vR vC vV k0 hO (by first | assumption | omega)) dX6_count_33 [0, 1] [.int (nI n0)] 0 rfl nd_0_1 rfl rfl rfl (by decide) (by decide) (Nat.le_of_ble_eq_true rfl) rfl ?_
      refine z_bif_eq C 43 dX6_count_36 (by decide) (fun h_9 => ?_) (fun h_9 => ?_)
      · refine z_iconst C (nI 0) dX6_count_43 (by decide) ?_
        refine z_iadd C dX6_count_44 ?_
        refine z_top (y := nI n0) (nI_add _ _) ?_
        refine z_istore_n C 2 dX6_count_45 rfl (Nat.le_of_ble_eq_true rfl) ?_
        refine z_iload_n C 3 dX6_count_46 rfl rfl ?_
        refine z_aload_n C 0 dX6_count_47 rfl rfl ?_
        refine z_iload C dX6_count_48 rfl ?_
        refine z_iload C dX6_count_50 rfl ?_
        refine z_callVr C kX6_isDoomed gX6_count_X6_isDoomed (mX6_isDoomed_0 X.2.1 a kp ty pl gd od vU vS vN vX vM vT vB vK vY vZ vR vC vV k0 hO (by first | assumption | omega)) dX6_count_52 [0, 1] [.int (nI d0)] 0 rfl nd_0_1 rfl rfl rfl (by decide) (by decide) (Nat.le_of_ble_eq_true rfl) rfl ?_
        refine z_bif_eq C 62 dX6_count_55 (by decide) (fun h_10 => ?_) (fun h_10 => ?_)
        · refine z_iconst C (nI 0) dX6_count_62 (by decide) ?_
          refine z_iadd C dX6_count_63 ?_
          refine z_top (y := nI d0) (nI_add _ _) ?_
          refine z_istore_n C 3 dX6_count_64 rfl (Nat.le_of_ble_eq_true rfl) ?_
          refine z_iinc C (nI (k0 + 1)) dX6_count_65 rfl (zi_1 _) ?_
          refine z_goto C 16 dX6_count_68 (by decide) ?_
          exact ih16 (vU 0 - (k0 + 1)) (by omega) (k0 + 1) n0 d0 rfl (by omega) (by have h8 := zc_s (p := (fun p => mNw vZ vK vR vC vS vN vM 0 p)) (k := k0); simp only [h_9, if_true, Bool.false_eq_true, if_false] at h8; omega) (by have h8 := zc_s (p := (fun p => mDm vZ vK vR vC vS vN vM 0 p)) (k := k0); simp only [h_10, if_true, Bool.false_eq_true, if_false] at h8; omega) (by omega) (by omega)
        · refine z_iconst C (nI 1) dX6_count_58 (by decide) ?_
          refine z_goto C 63 dX6_count_59 (by decide) ?_
          refine z_iadd C dX6_count_63 ?_
          refine z_top (y := nI (d0 + 1)) (nI_add _ _) ?_
          refine z_istore_n C 3 dX6_count_64 rfl (Nat.le_of_ble_eq_true rfl) ?_
          refine z_iinc C (nI (k0 + 1)) dX6_count_65 rfl (zi_1 _) ?_
          refine z_goto C 16 dX6_count_68 (by decide) ?_
          exact ih16 (vU 0 - (k0 + 1)) (by omega) (k0 + 1) n0 (d0 + 1) rfl (by omega) (by have h8 := zc_s (p := (fun p => mNw vZ vK vR vC vS vN vM 0 p)) (k := k0); simp only [h_9, if_true, Bool.false_eq_true, if_false] at h8; omega) (by have h8 := zc_s (p := (fun p => mDm vZ vK vR vC vS vN vM 0 p)) (k := k0); simp only [h_10, if_true, Bool.false_eq_true, if_false] at h8; omega) (by omega) (by omega)
      · refine z_iconst C (nI 1) dX6_count_39 (by decide) ?_
        refine z_goto C 44 dX6_count_40 (by decide) ?_
        refine z_iadd C dX6_count_44 ?_
        refine z_top (y := nI (n0 + 1)) (nI_add _ _) ?_
        refine z_istore_n C 2 dX6_count_45 rfl (Nat.le_of_ble_eq_true rfl) ?_
        refine z_iload_n C 3 dX6_count_46 rfl rfl ?_
        refine z_aload_n C 0 dX6_count_47 rfl rfl ?_
        refine z_iload C dX6_count_48 rfl ?_
        refine z_iload C dX6_count_50 rfl ?_
        refine z_callVr C kX6_isDoomed gX6_count_X6_isDoomed (mX6_isDoomed_0 X.2.1 a kp ty pl gd od vU vS vN vX vM vT vB vK vY vZ vR vC vV k0 hO (by first | assumption | omega)) dX6_count_52 [0, 1] [.int (nI d0)] 0 rfl nd_0_1 rfl rfl rfl (by decide) (by decide) (Nat.le_of_ble_eq_true rfl) rfl ?_
        refine z_bif_eq C 62 dX6_count_55 (by decide) (fun h_11 => ?_) (fun h_11 => ?_)
        · refine z_iconst C (nI 0) dX6_count_62 (by decide) ?_
          refine z_iadd C dX6_count_63 ?_
          refine z_top (y := nI d0) (nI_add _ _) ?_
          refine z_istore_n C 3 dX6_count_64 rfl (Nat.le_of_ble_eq_true rfl) ?_
          refine z_iinc C (nI (k0 + 1)) dX6_count_65 rfl (zi_1 _) ?_
          refine z_goto C 16 dX6_count_68 (by decide) ?_
          exact ih16 (vU 0 - (k0 + 1)) (by omega) (k0 + 1) (n0 + 1) d0 rfl (by omega) (by have h8 := zc_s (p := (fun p => mNw vZ vK vR vC vS vN vM 0 p)) (k := k0); simp only [h_9, if_true, Bool.false_eq_true, if_false] at h8; omega) (by have h8 := zc_s (p := (fun p => mDm vZ vK vR vC vS vN vM 0 p)) (k := k0); simp only [h_11, if_true, Bool.false_eq_true, if_false] at h8; omega) (by omega) (by omega)
        · refine z_iconst C (nI 1) dX6_count_58 (by decide) ?_
          refine z_goto C 63 dX6_count_59 (by decide) ?_
          refine z_iadd C dX6_count_63 ?_
          refine z_top (y := nI (d0 + 1)) (nI_add _ _) ?_
          refine z_istore_n C 3 dX6_count_64 rfl (Nat.le_of_ble_eq_true rfl) ?_
          refine z_iinc C (nI (k0 + 1)) dX6_count_65 rfl (zi_1 _) ?_
          refine z_goto C 16 dX6_count_68 (by decide) ?_
          exact ih16 (vU 0 - (k0 + 1)) (by omega) (k0 + 1) (n0 + 1) (d0 + 1) rfl (by omega) (by have h8 := zc_s (p := (fun p => mNw vZ vK vR vC vS vN vM 0 p)) (k := k0); simp only [h_9, if_true, Bool.false_eq_true, if_false] at h8; omega) (by have h8 := zc_s (p := (fun p => mDm vZ vK vR vC vS vN vM 0 p)) (k := k0); simp only [h_11, if_true, Bool.false_eq_true, if_false] at h8; omega) (by omega) (by omega)
  exact hL16 _ 0 0 0 rfl (by omega) (by simp [zc]) (by simp [zc]) (by omega) (by omega)

theorem fX6_count_158 : zF wsX6_count RX6 158 6 4 RX6 TX6 10 := ⟨by decide +kernel, rfl, by decide, by decide +kernel, rfl⟩
set_option maxHeartbeats 400000 in
set_option maxRecDepth 100000 in
theorem mX6_count_10 (E : zE) (a : Nat → Nat) (kp ty pl : Nat) (gd : Bool) (od : Nat) (vU vS : Nat → Nat) (vN : Nat → Int32) (vX vM : Nat) (vT : Bool) (vB vK vY vZ vR vC vV : Nat → Int32)  (hO : okM vU vS vM vK) : zM E yX6_count wsX6_count 5 [.ref (a 0), .int (nI 10)] [((a 0), .inr (6, [.ref (a 1), .ref (a 2), .ref (a 3), .int (nI kp), .int (nI ty), .ref (a 4), .int (nI pl), .int (zb gd), .int (nI od), .ref (a 5)])), ((a 1), .inl (E.2.2.1, 512, .inl (mRow vU vS vN vX vM vT vB vK vY vZ vR vC vV)))] [((a 0), .inr (6, [.ref (a 1), .ref (a 2), .ref (a 3), .int (nI kp), .int (nI ty), .ref (a 4), .int (nI pl), .int (zb gd), .int (nI od), .ref (a 5)])), ((a 1), .inl (E.2.2.1, 512, .inl (mRow vU vS vN vX vM vT vB vK vY vZ vR vC vV)))] (some (.int (nI ty))) := by
  refine zM.of kX6_count (Nat.le_of_ble_eq_true rfl) rfl [some (.ref (a 0)), some (.int (nI 10)), none, none, none, none, none] rfl (Nat.le_of_ble_eq_true rfl) ?_
  intro X eX C N
  subst eX
  obtain ⟨hu0, hu1, hM, hk1, hk2, hk3⟩ := id hO
  refine z_iconst C (nI 0) dX6_count_0 (by decide) ?_
  refine z_istore_n C 2 dX6_count_1 rfl (Nat.le_of_ble_eq_true rfl) ?_
  refine z_iconst C (nI 0) dX6_count_2 (by decide) ?_
  refine z_istore_n C 3 dX6_count_3 rfl (Nat.le_of_ble_eq_true rfl) ?_
  refine z_iconst C (nI 0) dX6_count_4 (by decide) ?_
  refine z_istore C dX6_count_5 (Nat.le_of_ble_eq_true rfl) ?_
  refine z_iload C dX6_count_7 rfl ?_
  refine z_iconst C (nI 2) dX6_count_9 (by decide) ?_
  refine z_ncmp_ge_f C 77 dX6_count_10 (by decide) (by omega) (by omega) (by omega) ?_
  refine z_iconst C (nI 0) dX6_count_13 (by decide) ?_
  refine z_istore C dX6_count_14 (Nat.le_of_ble_eq_true rfl) ?_
  have hL16 : ∀ (dd : Nat) (k0 : Nat) (n0 : Nat) (d0 : Nat), vU 0 - k0 = dd → (k0 ≤ vU 0) → (n0 = 0 + zc (fun p => mNw vZ vK vR vC vS vN vM 0 p) k0) → (d0 = 0 + zc (fun p => mDm vZ vK vR vC vS vN vM 0 p) k0) → (n0 ≤ 0 + k0) → (d0 ≤ 0 + k0) → zG X 0 0 [((a 0), .inr (6, [.ref (a 1), .ref (a 2), .ref (a 3), .int (nI kp), .int (nI ty), .ref (a 4), .int (nI pl), .int (zb gd), .int (nI od), .ref (a 5)])), ((a 1), .inl (X.2.1.2.2.1, 512, .inl (mRow vU vS vN vX vM vT vB vK vY vZ vR vC vV)))] [some (.ref (a 0)), some (.int (nI 10)), some (.int (nI n0)), some (.int (nI d0)), some (.int (nI 0)), some (.int (nI k0)), none] [] 16 := by
    intro dd
    induction dd using Nat.strongRecOn with
    | _ dd ih16 =>
    intro k0 n0 d0 hdd hk09 hn0 hd0 hnb0 hdb0
    refine z_iload C dX6_count_16 rfl ?_
    refine z_aload_n C 0 dX6_count_18 rfl rfl ?_
    refine z_iload C dX6_count_19 rfl ?_
    refine z_callVr C kX6_many gX6_count_X6_many (mX6_many_0 X.2.1 a kp ty pl gd od vU vS vN vX vM vT vB vK vY vZ vR vC vV ) dX6_count_21 [0, 1] [.int (nI k0)] 0 rfl nd_0_1 rfl rfl rfl (by decide) (by decide) (Nat.le_of_ble_eq_true rfl) rfl ?_
    refine z_ncmp_ge C 71 dX6_count_24 (by decide) (by omega) (by omega) (fun h_1 => ?_) (fun h_1 => ?_)
    · refine z_iinc C (nI 1) dX6_count_71 rfl (zi_1 _) ?_
      refine z_goto C 7 dX6_count_74 (by decide) ?_
      refine z_iload C dX6_count_7 rfl ?_
      refine z_iconst C (nI 2) dX6_count_9 (by decide) ?_
      refine z_ncmp_ge_f C 77 dX6_count_10 (by decide) (by omega) (by omega) (by omega) ?_
      refine z_iconst C (nI 0) dX6_count_13 (by decide) ?_
      refine z_istore C dX6_count_14 (Nat.le_of_ble_eq_true rfl) ?_
      have hL16 : ∀ (dd : Nat) (k1 : Nat) (n1 : Nat) (d1 : Nat), vU 1 - k1 = dd → (k1 ≤ vU 1) → (n1 = zc (fun p => mNw vZ vK vR vC vS vN vM 0 p) (vU 0) + zc (fun p => mNw vZ vK vR vC vS vN vM 1 p) k1) → (d1 = zc (fun p => mDm vZ vK vR vC vS vN vM 0 p) (vU 0) + zc (fun p => mDm vZ vK vR vC vS vN vM 1 p) k1) → (n1 ≤ 12 + k1) → (d1 ≤ 12 + k1) → zG X 0 0 [((a 0), .inr (6, [.ref (a 1), .ref (a 2), .ref (a 3), .int (nI kp), .int (nI ty), .ref (a 4), .int (nI pl), .int (zb gd), .int (nI od), .ref (a 5)])), ((a 1), .inl (X.2.1.2.2.1, 512, .inl (mRow vU vS vN vX vM vT vB vK vY vZ vR vC vV)))] [some (.ref (a 0)), some (.int (nI 10)), some (.int (nI n1)), some (.int (nI d1)), some (.int (nI 1)), some (.int (nI k1)), none] [] 16 := by
        intro dd
        induction dd using Nat.strongRecOn with
        | _ dd ih16 =>
        intro k1 n1 d1 hdd hk19 hn1 hd1 hnb1 hdb1
        refine z_iload C dX6_count_16 rfl ?_
        refine z_aload_n C 0 dX6_count_18 rfl rfl ?_
        refine z_iload C dX6_count_19 rfl ?_
        refine z_callVr C kX6_many gX6_count_X6_many (mX6_many_1 X.2.1 a kp ty pl gd od vU vS vN vX vM vT vB vK vY vZ vR vC vV ) dX6_count_21 [0, 1] [.int (nI k1)] 0 rfl nd_0_1 rfl rfl rfl (by decide) (by decide) (Nat.le_of_ble_eq_true rfl) rfl ?_
        refine z_ncmp_ge C 71 dX6_count_24 (by decide) (by omega) (by omega) (fun h_2 => ?_) (fun h_2 => ?_)
        · refine z_iinc C (nI 2) dX6_count_71 rfl (zi_1 _) ?_
          refine z_goto C 7 dX6_count_74 (by decide) ?_
          refine z_iload C dX6_count_7 rfl ?_
          refine z_iconst C (nI 2) dX6_count_9 (by decide) ?_
          refine z_ncmp_ge_t C 77 dX6_count_10 (by decide) (by omega) (by omega) (by omega) ?_
          refine z_iconst C (nI 0) dX6_count_77 (by decide) ?_
          refine z_istore C dX6_count_78 (Nat.le_of_ble_eq_true rfl) ?_
          refine z_iconst C (nI 0) dX6_count_80 (by decide) ?_
          refine z_istore C dX6_count_81 (Nat.le_of_ble_eq_true rfl) ?_
          refine z_iconst C (nI 0) dX6_count_83 (by decide) ?_
          refine z_istore C dX6_count_84 (Nat.le_of_ble_eq_true rfl) ?_
          have hL86 : ∀ (dd : Nat) (k : Nat) (s9 : Nat) (t9 : Nat), vM - k = dd → (k ≤ vM) → (s9 = zc (fun x => decide (vZ x = 0) && decide (vK x = nI 4)) k) → (t9 = 0) → (s9 ≤ k) → (t9 ≤ k) → zG X 0 0 [((a 0), .inr (6, [.ref (a 1), .ref (a 2), .ref (a 3), .int (nI kp), .int (nI ty), .ref (a 4), .int (nI pl), .int (zb gd), .int (nI od), .ref (a 5)])), ((a 1), .inl (X.2.1.2.2.1, 512, .inl (mRow vU vS vN vX vM vT vB vK vY vZ vR vC vV)))] [some (.ref (a 0)), some (.int (nI 10)), some (.int (nI n1)), some (.int (nI d1)), some (.int (nI s9)), some (.int (nI t9)), some (.int (nI k))] [] 86 := by
            intro dd
            induction dd using Nat.strongRecOn with
            | _ dd ih86 =>
            intro k s9 t9 hdd hk hs9 ht9 hsb htb
            refine z_iload C dX6_count_86 rfl ?_
            refine z_aload_n C 0 dX6_count_88 rfl rfl ?_
            refine z_get C fX6_count_7 0 dX6_count_89 rfl rfl ?_
            refine z_bipush C (nI 51) dX6_count_92 (by decide) ?_
            refine z_ialdN C 1 dX6_count_94 rfl (by omega) (by decide) ?_
            refine z_top (y := nI (vM)) (zMr_M) ?_
            refine z_ncmp_ge C 170 dX6_count_95 (by decide) (by omega) (by omega) (fun h_3 => ?_) (fun h_3 => ?_)
            · refine z_iload_n C 1 dX6_count_170 rfl rfl ?_
              refine z_tsAt C 10 259 dX6_count_171 (by decide) (by decide) rfl (by decide) ?_
              refine z_aload_n C 0 dX6_count_259 rfl rfl ?_
              refine z_get C fX6_count_158 0 dX6_count_260 rfl rfl ?_
              exact z_iret C N dX6_count_263 (rfl) (rfl)
            · refine z_iload C dX6_count_98 rfl ?_
              refine z_aload_n C 0 dX6_count_100 rfl rfl ?_
              refine z_iload C dX6_count_101 rfl ?_
              refine z_callVr C kX6_isPending gX6_count_X6_isPending (mX6_isPending X.2.1 a kp ty pl gd od vU vS vN vX vM vT vB vK vY vZ vR vC vV k (by first | assumption | omega)) dX6_count_103 [0, 1] [.int (nI s9)] 0 rfl nd_0_1 rfl rfl rfl (by decide) (by decide) (Nat.le_of_ble_eq_true rfl) rfl ?_
              refine z_bif_eq C 126 dX6_count_106 (by decide) (fun h_4 => ?_) (fun h_4 => ?_)
              · refine z_iconst C (nI 0) dX6_count_126 (by decide) ?_
                refine z_iadd C dX6_count_127 ?_
                refine z_top (y := nI s9) (nI_add _ _) ?_
                refine z_istore C dX6_count_128 (Nat.le_of_ble_eq_true rfl) ?_
                refine z_iload C dX6_count_130 rfl ?_
                refine z_iload_n C 1 dX6_count_132 rfl rfl ?_
                refine z_iconst C (nI 1) dX6_count_133 (by decide) ?_
                refine z_iconst C (nI 4) dX6_count_134 (by decide) ?_
                refine z_callS C kX6_in gX6_count_X6_in (mX6_in_n1 X.2.1 (nI 10) 4 (by decide)) dX6_count_135 [.int (nI t9)] rfl (by decide) (by decide) (Nat.le_of_ble_eq_true rfl) rfl ?_
                refine z_bif_eq_t C 160 dX6_count_138 (by decide) rfl ?_
                refine z_iconst C (nI 0) dX6_count_160 (by decide) ?_
                refine z_iadd C dX6_count_161 ?_
                refine z_top (y := nI t9) (nI_add _ _) ?_
                refine z_istore C dX6_count_162 (Nat.le_of_ble_eq_true rfl) ?_
                refine z_iinc C (nI (k + 1)) dX6_count_164 rfl (zi_1 _) ?_
                refine z_goto C 86 dX6_count_167 (by decide) ?_
                exact ih86 (vM - (k + 1)) (by omega) (k + 1) s9 t9 rfl (by omega) (by subst hs9; first | exact (zc_y (by simp [nI_0, nI_eq, zz_0, zz_0s, h_1, h_2, h_3, of_decide_eq_false h_4, h_4]; done)).symm | exact (zc_n (by simp [nI_0, nI_eq, zz_0, zz_0s, h_1, h_2, h_3, of_decide_eq_false h_4, h_4]; done)).symm | (simp_all [nI_0]; done)) (by omega) (by omega) (by omega)
              · refine z_aload_n C 0 dX6_count_109 rfl rfl ?_
                refine z_iload C dX6_count_110 rfl ?_
                refine z_sipush C (nI 149) dX6_count_112 (by decide) ?_
                refine z_callVr C kX6_of gX6_count_X6_of (mX6_of_K X.2.1 a kp ty pl gd od vU vS vN vX vM vT vB vK vY vZ vR vC vV k (by first | assumption | omega)) dX6_count_115 [0, 1] [.int (nI s9)] 0 rfl nd_0_1 rfl rfl rfl (by decide) (by decide) (Nat.le_of_ble_eq_true rfl) rfl ?_
                refine z_iconst C (nI 4) dX6_count_118 (by decide) ?_
                refine z_icmp_ne C 126 dX6_count_119 (by decide) (fun h_5 => ?_) (fun h_5 => ?_)
                · refine z_iconst C (nI 0) dX6_count_126 (by decide) ?_
                  refine z_iadd C dX6_count_127 ?_
                  refine z_top (y := nI s9) (nI_add _ _) ?_
                  refine z_istore C dX6_count_128 (Nat.le_of_ble_eq_true rfl) ?_
                  refine z_iload C dX6_count_130 rfl ?_
                  refine z_iload_n C 1 dX6_count_132 rfl rfl ?_
                  refine z_iconst C (nI 1) dX6_count_133 (by decide) ?_
                  refine z_iconst C (nI 4) dX6_count_134 (by decide) ?_
                  refine z_callS C kX6_in gX6_count_X6_in (mX6_in_n1 X.2.1 (nI 10) 4 (by decide)) dX6_count_135 [.int (nI t9)] rfl (by decide) (by decide) (Nat.le_of_ble_eq_true rfl) rfl ?_
                  refine z_bif_eq_t C 160 dX6_count_138 (by decide) rfl ?_
                  refine z_iconst C (nI 0) dX6_count_160 (by decide) ?_
                  refine z_iadd C dX6_count_161 ?_
                  refine z_top (y := nI t9) (nI_add _ _) ?_
                  refine z_istore C dX6_count_162 (Nat.le_of_ble_eq_true rfl) ?_
                  refine z_iinc C (nI (k + 1)) dX6_count_164 rfl (zi_1 _) ?_
                  refine z_goto C 86 dX6_count_167 (by decide) ?_
                  exact ih86 (vM - (k + 1)) (by omega) (k + 1) s9 t9 rfl (by omega) (by subst hs9; first | exact (zc_y (by simp [nI_0, nI_eq, zz_0, zz_0s, h_1, h_2, h_3, of_decide_eq_true h_4, h_4, h_5]; done)).symm | exact (zc_n (by simp [nI_0, nI_eq, zz_0, zz_0s, h_1, h_2, h_3, of_decide_eq_true h_4, h_4, h_5]; done)).symm | (simp_all [nI_0]; done)) (by omega) (by omega) (by omega)
                · refine z_iconst C (nI 1) dX6_count_122 (by decide) ?_
                  refine z_goto C 127 dX6_count_123 (by decide) ?_
                  refine z_iadd C dX6_count_127 ?_
                  refine z_top (y := nI (s9 + 1)) (nI_add _ _) ?_
                  refine z_istore C dX6_count_128 (Nat.le_of_ble_eq_true rfl) ?_
                  refine z_iload C dX6_count_130 rfl ?_
                  refine z_iload_n C 1 dX6_count_132 rfl rfl ?_
                  refine z_iconst C (nI 1) dX6_count_133 (by decide) ?_
                  refine z_iconst C (nI 4) dX6_count_134 (by decide) ?_
                  refine z_callS C kX6_in gX6_count_X6_in (mX6_in_n1 X.2.1 (nI 10) 4 (by decide)) dX6_count_135 [.int (nI t9)] rfl (by decide) (by decide) (Nat.le_of_ble_eq_true rfl) rfl ?_
                  refine z_bif_eq_t C 160 dX6_count_138 (by decide) rfl ?_
                  refine z_iconst C (nI 0) dX6_count_160 (by decide) ?_
                  refine z_iadd C dX6_count_161 ?_
                  refine z_top (y := nI t9) (nI_add _ _) ?_
                  refine z_istore C dX6_count_162 (Nat.le_of_ble_eq_true rfl) ?_
                  refine z_iinc C (nI (k + 1)) dX6_count_164 rfl (zi_1 _) ?_
                  refine z_goto C 86 dX6_count_167 (by decide) ?_
                  exact ih86 (vM - (k + 1)) (by omega) (k + 1) (s9 + 1) t9 rfl (by omega) (by subst hs9; first | exact (zc_y (by simp [nI_0, nI_eq, zz_0, zz_0s, h_1, h_2, h_3, of_decide_eq_true h_4, h_4, h_5]; done)).symm | exact (zc_n (by simp [nI_0, nI_eq, zz_0, zz_0s, h_1, h_2, h_3, of_decide_eq_true h_4, h_4, h_5]; done)).symm | (simp_all [nI_0]; done)) (by omega) (by omega) (by omega)
          exact hL86 _ 0 0 0 rfl (by omega) (rfl) (rfl) (by omega) (by omega)
        · refine z_iload_n C 2 dX6_count_27 rfl rfl ?_
          refine z_aload_n C 0 dX6_count_28 rfl rfl ?_
          refine z_iload C dX6_count_29 rfl ?_
          refine z_iload C dX6_count_31 rfl ?_
          refine z_callVr C kX6_isNew gX6_count_X6_isNew (mX6_isNew_1 X.2.1 a kp ty pl gd od vU vS vN vX vM vT vB vK vY vZ vR vC vV k1 hO (by first | assumption | omega)) dX6_count_33 [0, 1] [.int (nI n1)] 0 rfl nd_0_1 rfl rfl rfl (by decide) (by decide) (Nat.le_of_ble_eq_true rfl) rfl ?_
          refine z_bif_eq C 43 dX6_count_36 (by decide) (fun h_6 => ?_) (fun h_6 => ?_)
          · refine z_iconst C (nI 0) dX6_count_43 (by decide) ?_
            refine z_iadd C dX6_count_44 ?_
            refine z_top (y := nI n1) (nI_add _ _) ?_
            refine z_istore_n C 2 dX6_count_45 rfl (Nat.le_of_ble_eq_true rfl) ?_
            refine z_iload_n C 3 dX6_count_46 rfl rfl ?_
            refine z_aload_n C 0 dX6_count_47 rfl rfl ?_
            refine z_iload C dX6_count_48 rfl ?_
            refine z_iload C dX6_count_50 rfl ?_
            refine z_callVr C kX6_isDoomed gX6_count_X6_isDoomed (mX6_isDoomed_1 X.2.1 a kp ty pl gd od vU vS vN vX vM vT vB vK vY vZ vR vC vV k1 hO (by first | assumption | omega)) dX6_count_52 [0, 1] [.int (nI d1)] 0 rfl nd_0_1 rfl rfl rfl (by decide) (by decide) (Nat.le_of_ble_eq_true rfl) rfl ?_
            refine z_bif_eq C 62 dX6_count_55 (by decide) (fun h_7 => ?_) (fun h_7 => ?_)
            · refine z_iconst C (nI 0) dX6_count_62 (by decide) ?_
              refine z_iadd C dX6_count_63 ?_
              refine z_top (y := nI d1) (nI_add _ _) ?_
              refine z_istore_n C 3 dX6_count_64 rfl (Nat.le_of_ble_eq_true rfl) ?_
              refine z_iinc C (nI (k1 + 1)) dX6_count_65 rfl (zi_1 _) ?_
              refine z_goto C 16 dX6_count_68 (by decide) ?_
              exact ih16 (vU 1 - (k1 + 1)) (by omega) (k1 + 1) n1 d1 rfl (by omega) (by have h8 := zc_s (p := (fun p => mNw vZ vK vR vC vS vN vM 1 p)) (k := k1); simp only [h_6, if_true, Bool.false_eq_true, if_false] at h8; omega) (by have h8 := zc_s (p := (fun p => mDm vZ vK vR vC vS vN vM 1 p)) (k := k1); simp only [h_7, if_true, Bool.false_eq_true, if_false] at h8; omega) (by omega) (by omega)
            · refine z_iconst C (nI 1) dX6_count_58 (by decide) ?_
              refine z_goto C 63 dX6_count_59 (by decide) ?_
              refine z_iadd C dX6_count_63 ?_
              refine z_top (y := nI (d1 + 1)) (nI_add _ _) ?_
              refine z_istore_n C 3 dX6_count_64 rfl (Nat.le_of_ble_eq_true rfl) ?_
              refine z_iinc C (nI (k1 + 1)) dX6_count_65 rfl (zi_1 _) ?_
              refine z_goto C 16 dX6_count_68 (by decide) ?_
              exact ih16 (vU 1 - (k1 + 1)) (by omega) (k1 + 1) n1 (d1 + 1) rfl (by omega) (by have h8 := zc_s (p := (fun p => mNw vZ vK vR vC vS vN vM 1 p)) (k := k1); simp only [h_6, if_true, Bool.false_eq_true, if_false] at h8; omega) (by have h8 := zc_s (p := (fun p => mDm vZ vK vR vC vS vN vM 1 p)) (k := k1); simp only [h_7, if_true, Bool.false_eq_true, if_false] at h8; omega) (by omega) (by omega)
          · refine z_iconst C (nI 1) dX6_count_39 (by decide) ?_
            refine z_goto C 44 dX6_count_40 (by decide) ?_
            refine z_iadd C dX6_count_44 ?_
            refine z_top (y := nI (n1 + 1)) (nI_add _ _) ?_
            refine z_istore_n C 2 dX6_count_45 rfl (Nat.le_of_ble_eq_true rfl) ?_
            refine z_iload_n C 3 dX6_count_46 rfl rfl ?_
            refine z_aload_n C 0 dX6_count_47 rfl rfl ?_
            refine z_iload C dX6_count_48 rfl ?_
            refine z_iload C dX6_count_50 rfl ?_
            refine z_callVr C kX6_isDoomed gX6_count_X6_isDoomed (mX6_isDoomed_1 X.2.1 a kp ty pl gd od vU vS vN vX vM vT vB vK vY vZ vR vC vV k1 hO (by first | assumption | omega)) dX6_count_52 [0, 1] [.int (nI d1)] 0 rfl nd_0_1 rfl rfl rfl (by decide) (by decide) (Nat.le_of_ble_eq_true rfl) rfl ?_
            refine z_bif_eq C 62 dX6_count_55 (by decide) (fun h_8 => ?_) (fun h_8 => ?_)
            · refine z_iconst C (nI 0) dX6_count_62 (by decide) ?_
              refine z_iadd C dX6_count_63 ?_
              refine z_top (y := nI d1) (nI_add _ _) ?_
              refine z_istore_n C 3 dX6_count_64 rfl (Nat.le_of_ble_eq_true rfl) ?_
              refine z_iinc C (nI (k1 + 1)) dX6_count_65 rfl (zi_1 _) ?_
              refine z_goto C 16 dX6_count_68 (by decide) ?_
              exact ih16 (vU 1 - (k1 + 1)) (by omega) (k1 + 1) (n1 + 1) d1 rfl (by omega) (by have h8 := zc_s (p := (fun p => mNw vZ vK vR vC vS vN vM 1 p)) (k := k1); simp only [h_6, if_true, Bool.false_eq_true, if_false] at h8; omega) (by have h8 := zc_s (p := (fun p => mDm vZ vK vR vC vS vN vM 1 p)) (k := k1); simp only [h_8, if_true, Bool.false_eq_true, if_false] at h8; omega) (by omega) (by omega)
            · refine z_iconst C (nI 1) dX6_count_58 (by decide) ?_
              refine z_goto C 63 dX6_count_59 (by decide) ?_
              refine z_iadd C dX6_count_63 ?_
              refine z_top (y := nI (d1 + 1)) (nI_add _ _) ?_
              refine z_istore_n C 3 dX6_count_64 rfl (Nat.le_of_ble_eq_true rfl) ?_
              refine z_iinc C (nI (k1 + 1)) dX6_count_65 rfl (zi_1 _) ?_
              refine z_goto C 16 dX6_count_68 (by decide) ?_
              exact ih16 (vU 1 - (k1 + 1)) (by omega) (k1 + 1) (n1 + 1) (d1 + 1) rfl (by omega) (by have h8 := zc_s (p := (fun p => mNw vZ vK vR vC vS vN vM 1 p)) (k := k1); simp only [h_6, if_true, Bool.false_eq_true, if_false] at h8; omega) (by have h8 := zc_s (p := (fun p => mDm vZ vK vR vC vS vN vM 1 p)) (k := k1); simp only [h_8, if_true, Bool.false_eq_true, if_false] at h8; omega) (by omega) (by omega)
      exact hL16 _ 0 n0 d0 rfl (by omega) (by rw [hn0, show k0 = vU 0 by omega]; simp [zc]) (by rw [hd0, show k0 = vU 0 by omega]; simp [zc]) (by omega) (by omega)
    · refine z_iload_n C 2 dX6_count_27 rfl rfl ?_
      refine z_aload_n C 0 dX6_count_28 rfl rfl ?_
      refine z_iload C dX6_count_29 rfl ?_
      refine z_iload C dX6_count_31 rfl ?_
      refine z_callVr C kX6_isNew gX6_count_X6_isNew (mX6_isNew_0 X.2.1 a kp ty pl gd od vU vS vN vX vM vT vB vK vY vZ vR vC vV k0 hO (by first | assumption | omega)) dX6_count_33 [0, 1] [.int (nI n0)] 0 rfl nd_0_1 rfl rfl rfl (by decide) (by decide) (Nat.le_of_ble_eq_true rfl) rfl ?_
      refine z_bif_eq C 43 dX6_count_36 (by decide) (fun h_9 => ?_) (fun h_9 => ?_)
      · refine z_iconst C (nI 0) dX6_count_43 (by decide) ?_
        refine z_iadd C dX6_count_44 ?_
        refine z_top (y := nI n0) (nI_add _ _) ?_
        refine z_istore_n C 2 dX6_count_45 rfl (Nat.le_of_ble_eq_true rfl) ?_
        refine z_iload_n C 3 dX6_count_46 rfl rfl ?_
        refine z_aload_n C 0 dX6_count_47 rfl rfl ?_
        refine z_iload C dX6_count_48 rfl ?_
        refine z_iload C dX6_count_50 rfl ?_
        refine z_callVr C kX6_isDoomed gX6_count_X6_isDoomed (mX6_isDoomed_0 X.2.1 a kp ty pl gd od vU vS vN vX vM vT vB vK vY vZ vR vC vV k0 hO (by first | assumption | omega)) dX6_count_52 [0, 1] [.int (nI d0)] 0 rfl nd_0_1 rfl rfl rfl (by decide) (by decide) (Nat.le_of_ble_eq_true rfl) rfl ?_
        refine z_bif_eq C 62 dX6_count_55 (by decide) (fun h_10 => ?_) (fun h_10 => ?_)
        · refine z_iconst C (nI 0) dX6_count_62 (by decide) ?_
          refine z_iadd C dX6_count_63 ?_
          refine z_top (y := nI d0) (nI_add _ _) ?_
          refine z_istore_n C 3 dX6_count_64 rfl (Nat.le_of_ble_eq_true rfl) ?_
          refine z_iinc C (nI (k0 + 1)) dX6_count_65 rfl (zi_1 _) ?_
          refine z_goto C 16 dX6_count_68 (by decide) ?_
          exact ih16 (vU 0 - (k0 + 1)) (by omega) (k0 + 1) n0 d0 rfl (by omega) (by have h8 := zc_s (p := (fun p => mNw vZ vK vR vC vS vN vM 0 p)) (k := k0); simp only [h_9, if_true, Bool.false_eq_true, if_false] at h8; omega) (by have h8 := zc_s (p := (fun p => mDm vZ vK vR vC vS vN vM 0 p)) (k := k0); simp only [h_10, if_true, Bool.false_eq_true, if_false] at h8; omega) (by omega) (by omega)
        · refine z_iconst C (nI 1) dX6_count_58 (by decide) ?_
          refine z_goto C 63 dX6_count_59 (by decide) ?_
          refine z_iadd C dX6_count_63 ?_
          refine z_top (y := nI (d0 + 1)) (nI_add _ _) ?_
          refine z_istore_n C 3 dX6_count_64 rfl (Nat.le_of_ble_eq_true rfl) ?_
          refine z_iinc C (nI (k0 + 1)) dX6_count_65 rfl (zi_1 _) ?_
          refine z_goto C 16 dX6_count_68 (by decide) ?_
          exact ih16 (vU 0 - (k0 + 1)) (by omega) (k0 + 1) n0 (d0 + 1) rfl (by omega) (by have h8 := zc_s (p := (fun p => mNw vZ vK vR vC vS vN vM 0 p)) (k := k0); simp only [h_9, if_true, Bool.false_eq_true, if_false] at h8; omega) (by have h8 := zc_s (p := (fun p => mDm vZ vK vR vC vS vN vM 0 p)) (k := k0); simp only [h_10, if_true, Bool.false_eq_true, if_false] at h8; omega) (by omega) (by omega)
      · refine z_iconst C (nI 1) dX6_count_39 (by decide) ?_
        refine z_goto C 44 dX6_count_40 (by decide) ?_
        refine z_iadd C dX6_count_44 ?_
        refine z_top (y := nI (n0 + 1)) (nI_add _ _) ?_
        refine z_istore_n C 2 dX6_count_45 rfl (Nat.le_of_ble_eq_true rfl) ?_
        refine z_iload_n C 3 dX6_count_46 rfl rfl ?_
        refine z_aload_n C 0 dX6_count_47 rfl rfl ?_
        refine z_iload C dX6_count_48 rfl ?_
        refine z_iload C dX6_count_50 rfl ?_
        refine z_callVr C kX6_isDoomed gX6_count_X6_isDoomed (mX6_isDoomed_0 X.2.1 a kp ty pl gd od vU vS vN vX vM vT vB vK vY vZ vR vC vV k0 hO (by first | assumption | omega)) dX6_count_52 [0, 1] [.int (nI d0)] 0 rfl nd_0_1 rfl rfl rfl (by decide) (by decide) (Nat.le_of_ble_eq_true rfl) rfl ?_
        refine z_bif_eq C 62 dX6_count_55 (by decide) (fun h_11 => ?_) (fun h_11 => ?_)
        · refine z_iconst C (nI 0) dX6_count_62 (by decide) ?_
          refine z_iadd C dX6_count_63 ?_
          refine z_top (y := nI d0) (nI_add _ _) ?_
          refine z_istore_n C 3 dX6_count_64 rfl (Nat.le_of_ble_eq_true rfl) ?_
          refine z_iinc C (nI (k0 + 1)) dX6_count_65 rfl (zi_1 _) ?_
          refine z_goto C 16 dX6_count_68 (by decide) ?_
          exact ih16 (vU 0 - (k0 + 1)) (by omega) (k0 + 1) (n0 + 1) d0 rfl (by omega) (by have h8 := zc_s (p := (fun p => mNw vZ vK vR vC vS vN vM 0 p)) (k := k0); simp only [h_9, if_true, Bool.false_eq_true, if_false] at h8; omega) (by have h8 := zc_s (p := (fun p => mDm vZ vK vR vC vS vN vM 0 p)) (k := k0); simp only [h_11, if_true, Bool.false_eq_true, if_false] at h8; omega) (by omega) (by omega)
        · refine z_iconst C (nI 1) dX6_count_58 (by decide) ?_
          refine z_goto C 63 dX6_count_59 (by decide) ?_
          refine z_iadd C dX6_count_63 ?_
          refine z_top (y := nI (d0 + 1)) (nI_add _ _) ?_
          refine z_istore_n C 3 dX6_count_64 rfl (Nat.le_of_ble_eq_true rfl) ?_
          refine z_iinc C (nI (k0 + 1)) dX6_count_65 rfl (zi_1 _) ?_
          refine z_goto C 16 dX6_count_68 (by decide) ?_
          exact ih16 (vU 0 - (k0 + 1)) (by omega) (k0 + 1) (n0 + 1) (d0 + 1) rfl (by omega) (by have h8 := zc_s (p := (fun p => mNw vZ vK vR vC vS vN vM 0 p)) (k := k0); simp only [h_9, if_true, Bool.false_eq_true, if_false] at h8; omega) (by have h8 := zc_s (p := (fun p => mDm vZ vK vR vC vS vN vM 0 p)) (k := k0); simp only [h_11, if_true, Bool.false_eq_true, if_false] at h8; omega) (by omega) (by omega)
  exact hL16 _ 0 0 0 rfl (by omega) (by simp [zc]) (by simp [zc]) (by omega) (by omega)

