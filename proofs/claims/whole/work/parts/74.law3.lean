set_option maxHeartbeats 4000000 in
set_option maxRecDepth 100000 in
theorem law_setting {X : zX} {kk nn : Nat} (C : zC X kk nn code RL wsL_law 10) {b L : Nat} {xs : Nat → Int32} (La : zLa X b L xs) (hL : L ≤ 2560) (x0 h0 h1 w0 w1 : Nat) (t : Nat → Nat) (r : Nat → Nat → Nat) (a : Nat → Nat) (S : zSt) (o kp : Nat) (Q : Nat → zSt) (tx : Nat → Nat) (ln : Nat) (ps : zPs) (pl : Nat) (gd : Bool) (od : Nat) (sm um : zMs) (Qm : Nat → zMs) (oo : Nat → Int32) (i B : Nat) (hR : RR S sm B) (hH : HH o kp Q Qm B) (hT : TX tx ln) (hB : B < 2147483500) (hi : i + 5 ≤ L) (IH : LI X kk nn b x0 h0 h1 w0 w1 t r a (i + 5) (B + 61)) : zG X kk nn (LWd X.2.1 x0 h0 h1 w0 w1 t r a S o kp Q tx ln ps pl gd od sm um Qm oo kp tx ln) [some (.ref b), some (.ref x0), some (.ref (a 0)), some (.int (nI i))] [] 598 := by
  obtain ⟨v, m5, m6⟩ := pr_setting X.2.1 x0 h0 w0 t a kp ln pl gd od hR (xs (i + 1)) (xs (i + 2)) (xs (i + 3))
  refine z_aload_n C 1 dL_law_598 rfl rfl ?_
  refine z_aload_n C 0 dL_law_599 rfl rfl ?_
  refine z_iload_n C 3 dL_law_600 rfl rfl ?_
  refine z_iconst C (nI 1) dL_law_601 (by decide) ?_
  refine z_iadd C dL_law_602 ?_
  refine z_top (y := nI (i + 1)) (nI_add _ _) ?_
  refine z_sld C La (by omega) (by omega) dL_law_603 ?_
  refine z_aload_n C 0 dL_law_604 rfl rfl ?_
  refine z_iload_n C 3 dL_law_605 rfl rfl ?_
  refine z_iconst C (nI 2) dL_law_606 (by decide) ?_
  refine z_iadd C dL_law_607 ?_
  refine z_top (y := nI (i + 2)) (nI_add _ _) ?_
  refine z_sld C La (by omega) (by omega) dL_law_608 ?_
  refine z_aload_n C 0 dL_law_609 rfl rfl ?_
  refine z_iload_n C 3 dL_law_610 rfl rfl ?_
  refine z_iconst C (nI 3) dL_law_611 (by decide) ?_
  refine z_iadd C dL_law_612 ?_
  refine z_top (y := nI (i + 3)) (nI_add _ _) ?_
  refine z_sld C La (by omega) (by omega) dL_law_613 ?_
  refine z_callVr C kX5_setting gL_law_X5_setting m5 dL_law_614 [0, 1, 2, 3, 4, 5, 6, 7, 8] [] 0 rfl ndL_T rfl rfl rfl (by decide) (by decide) (Nat.le_of_ble_eq_true rfl) rfl ?_
  refine z_aload_n C 2 dL_law_617 rfl rfl ?_
  refine z_aload_n C 0 dL_law_618 rfl rfl ?_
  refine z_iload_n C 3 dL_law_619 rfl rfl ?_
  refine z_iconst C (nI 1) dL_law_620 (by decide) ?_
  refine z_iadd C dL_law_621 ?_
  refine z_top (y := nI (i + 1)) (nI_add _ _) ?_
  refine z_sld C La (by omega) (by omega) dL_law_622 ?_
  refine z_aload_n C 0 dL_law_623 rfl rfl ?_
  refine z_iload_n C 3 dL_law_624 rfl rfl ?_
  refine z_iconst C (nI 2) dL_law_625 (by decide) ?_
  refine z_iadd C dL_law_626 ?_
  refine z_top (y := nI (i + 2)) (nI_add _ _) ?_
  refine z_sld C La (by omega) (by omega) dL_law_627 ?_
  refine z_aload_n C 0 dL_law_628 rfl rfl ?_
  refine z_iload_n C 3 dL_law_629 rfl rfl ?_
  refine z_iconst C (nI 3) dL_law_630 (by decide) ?_
  refine z_iadd C dL_law_631 ?_
  refine z_top (y := nI (i + 3)) (nI_add _ _) ?_
  refine z_sld C La (by omega) (by omega) dL_law_632 ?_
  refine z_callVr C kX6_setting gL_law_X6_setting m6 dL_law_633 [53, 54] [.int v] 53 rfl ndL_M rfl rfl rfl (by decide) (by decide) (Nat.le_of_ble_eq_true rfl) rfl ?_
  refine z_icmp_eq_t C 809 dL_law_636 (by decide) rfl ?_
  refine z_iinc C (nI (i + 5)) dL_law_809 rfl (zi_5 _) ?_
  refine z_goto C 18 dL_law_812 (by decide) ?_
  exact IH S o kp Q tx ln ps pl gd od sm um Qm oo (RR_mono hR (by omega)) (HH_mono hH (by omega)) hT

set_option maxHeartbeats 4000000 in
set_option maxRecDepth 100000 in
theorem law_change {X : zX} {kk nn : Nat} (C : zC X kk nn code RL wsL_law 10) {b L : Nat} {xs : Nat → Int32} (La : zLa X b L xs) (hL : L ≤ 2560) (x0 h0 h1 w0 w1 : Nat) (t : Nat → Nat) (r : Nat → Nat → Nat) (a : Nat → Nat) (S : zSt) (o kp : Nat) (Q : Nat → zSt) (tx : Nat → Nat) (ln : Nat) (ps : zPs) (pl : Nat) (gd : Bool) (od : Nat) (sm um : zMs) (Qm : Nat → zMs) (oo : Nat → Int32) (i B : Nat) (hR : RR S sm B) (hH : HH o kp Q Qm B) (hT : TX tx ln) (hB : B < 2147483500) (hi : i + 5 ≤ L) (IH : LI X kk nn b x0 h0 h1 w0 w1 t r a (i + 5) (B + 61)) : zG X kk nn (LWd X.2.1 x0 h0 h1 w0 w1 t r a S o kp Q tx ln ps pl gd od sm um Qm oo kp tx ln) [some (.ref b), some (.ref x0), some (.ref (a 0)), some (.int (nI i))] [] 641 := by
  obtain ⟨v, m5, m6⟩ := pr_change X.2.1 x0 h0 w0 t a kp ln pl gd od hR hB (xs (i + 1)) (xs (i + 2))
  refine z_aload_n C 1 dL_law_641 rfl rfl ?_
  refine z_aload_n C 0 dL_law_642 rfl rfl ?_
  refine z_iload_n C 3 dL_law_643 rfl rfl ?_
  refine z_iconst C (nI 1) dL_law_644 (by decide) ?_
  refine z_iadd C dL_law_645 ?_
  refine z_top (y := nI (i + 1)) (nI_add _ _) ?_
  refine z_sld C La (by omega) (by omega) dL_law_646 ?_
  refine z_aload_n C 0 dL_law_647 rfl rfl ?_
  refine z_iload_n C 3 dL_law_648 rfl rfl ?_
  refine z_iconst C (nI 2) dL_law_649 (by decide) ?_
  refine z_iadd C dL_law_650 ?_
  refine z_top (y := nI (i + 2)) (nI_add _ _) ?_
  refine z_sld C La (by omega) (by omega) dL_law_651 ?_
  refine z_callVr C kX5_change gL_law_X5_change m5 dL_law_652 [0, 1, 2, 3, 4, 5, 6, 7, 8] [] 0 rfl ndL_T rfl rfl rfl (by decide) (by decide) (Nat.le_of_ble_eq_true rfl) rfl ?_
  refine z_aload_n C 2 dL_law_655 rfl rfl ?_
  refine z_aload_n C 0 dL_law_656 rfl rfl ?_
  refine z_iload_n C 3 dL_law_657 rfl rfl ?_
  refine z_iconst C (nI 1) dL_law_658 (by decide) ?_
  refine z_iadd C dL_law_659 ?_
  refine z_top (y := nI (i + 1)) (nI_add _ _) ?_
  refine z_sld C La (by omega) (by omega) dL_law_660 ?_
  refine z_aload_n C 0 dL_law_661 rfl rfl ?_
  refine z_iload_n C 3 dL_law_662 rfl rfl ?_
  refine z_iconst C (nI 2) dL_law_663 (by decide) ?_
  refine z_iadd C dL_law_664 ?_
  refine z_top (y := nI (i + 2)) (nI_add _ _) ?_
  refine z_sld C La (by omega) (by omega) dL_law_665 ?_
  refine z_callVr C kX6_change gL_law_X6_change m6 dL_law_666 [53, 54] [.int v] 53 rfl ndL_M rfl rfl rfl (by decide) (by decide) (Nat.le_of_ble_eq_true rfl) rfl ?_
  refine z_icmp_eq_t C 809 dL_law_669 (by decide) rfl ?_
  refine z_iinc C (nI (i + 5)) dL_law_809 rfl (zi_5 _) ?_
  refine z_goto C 18 dL_law_812 (by decide) ?_
  exact IH S o kp Q tx ln ps pl gd od sm um Qm oo (RR_mono hR (by omega)) (HH_mono hH (by omega)) hT

set_option maxHeartbeats 4000000 in
set_option maxRecDepth 100000 in
theorem law_restsOn {X : zX} {kk nn : Nat} (C : zC X kk nn code RL wsL_law 10) {b L : Nat} {xs : Nat → Int32} (La : zLa X b L xs) (hL : L ≤ 2560) (x0 h0 h1 w0 w1 : Nat) (t : Nat → Nat) (r : Nat → Nat → Nat) (a : Nat → Nat) (S : zSt) (o kp : Nat) (Q : Nat → zSt) (tx : Nat → Nat) (ln : Nat) (ps : zPs) (pl : Nat) (gd : Bool) (od : Nat) (sm um : zMs) (Qm : Nat → zMs) (oo : Nat → Int32) (i B : Nat) (hR : RR S sm B) (hH : HH o kp Q Qm B) (hT : TX tx ln) (hB : B < 2147483500) (hi : i + 5 ≤ L) (IH : LI X kk nn b x0 h0 h1 w0 w1 t r a (i + 5) (B + 61)) : zG X kk nn (LWd X.2.1 x0 h0 h1 w0 w1 t r a S o kp Q tx ln ps pl gd od sm um Qm oo kp tx ln) [some (.ref b), some (.ref x0), some (.ref (a 0)), some (.int (nI i))] [] 674 := by
  obtain ⟨v, m5, m6⟩ := pr_restsOn X.2.1 x0 h0 w0 t a kp ln pl gd od hR (xs (i + 1)) (xs (i + 2))
  refine z_aload_n C 1 dL_law_674 rfl rfl ?_
  refine z_aload_n C 0 dL_law_675 rfl rfl ?_
  refine z_iload_n C 3 dL_law_676 rfl rfl ?_
  refine z_iconst C (nI 1) dL_law_677 (by decide) ?_
  refine z_iadd C dL_law_678 ?_
  refine z_top (y := nI (i + 1)) (nI_add _ _) ?_
  refine z_sld C La (by omega) (by omega) dL_law_679 ?_
  refine z_aload_n C 0 dL_law_680 rfl rfl ?_
  refine z_iload_n C 3 dL_law_681 rfl rfl ?_
  refine z_iconst C (nI 2) dL_law_682 (by decide) ?_
  refine z_iadd C dL_law_683 ?_
  refine z_top (y := nI (i + 2)) (nI_add _ _) ?_
  refine z_sld C La (by omega) (by omega) dL_law_684 ?_
  refine z_callVr C kX5_restsOn gL_law_X5_restsOn m5 dL_law_685 [0, 1, 2, 3, 4, 5, 6, 7, 8] [] 0 rfl ndL_T rfl rfl rfl (by decide) (by decide) (Nat.le_of_ble_eq_true rfl) rfl ?_
  refine z_aload_n C 2 dL_law_688 rfl rfl ?_
  refine z_aload_n C 0 dL_law_689 rfl rfl ?_
  refine z_iload_n C 3 dL_law_690 rfl rfl ?_
  refine z_iconst C (nI 1) dL_law_691 (by decide) ?_
  refine z_iadd C dL_law_692 ?_
  refine z_top (y := nI (i + 1)) (nI_add _ _) ?_
  refine z_sld C La (by omega) (by omega) dL_law_693 ?_
  refine z_aload_n C 0 dL_law_694 rfl rfl ?_
  refine z_iload_n C 3 dL_law_695 rfl rfl ?_
  refine z_iconst C (nI 2) dL_law_696 (by decide) ?_
  refine z_iadd C dL_law_697 ?_
  refine z_top (y := nI (i + 2)) (nI_add _ _) ?_
  refine z_sld C La (by omega) (by omega) dL_law_698 ?_
  refine z_callVr C kX6_restsOn gL_law_X6_restsOn m6 dL_law_699 [53, 54] [.int v] 53 rfl ndL_M rfl rfl rfl (by decide) (by decide) (Nat.le_of_ble_eq_true rfl) rfl ?_
  refine z_icmp_eq_t C 809 dL_law_702 (by decide) rfl ?_
  refine z_iinc C (nI (i + 5)) dL_law_809 rfl (zi_5 _) ?_
  refine z_goto C 18 dL_law_812 (by decide) ?_
  exact IH S o kp Q tx ln ps pl gd od sm um Qm oo (RR_mono hR (by omega)) (HH_mono hH (by omega)) hT

set_option maxHeartbeats 4000000 in
set_option maxRecDepth 100000 in
theorem law_pending {X : zX} {kk nn : Nat} (C : zC X kk nn code RL wsL_law 10) {b L : Nat} {xs : Nat → Int32} (La : zLa X b L xs) (hL : L ≤ 2560) (x0 h0 h1 w0 w1 : Nat) (t : Nat → Nat) (r : Nat → Nat → Nat) (a : Nat → Nat) (S : zSt) (o kp : Nat) (Q : Nat → zSt) (tx : Nat → Nat) (ln : Nat) (ps : zPs) (pl : Nat) (gd : Bool) (od : Nat) (sm um : zMs) (Qm : Nat → zMs) (oo : Nat → Int32) (i B : Nat) (hR : RR S sm B) (hH : HH o kp Q Qm B) (hT : TX tx ln) (hB : B < 2147483500) (hi : i + 5 ≤ L) (IH : LI X kk nn b x0 h0 h1 w0 w1 t r a (i + 5) (B + 61)) : zG X kk nn (LWd X.2.1 x0 h0 h1 w0 w1 t r a S o kp Q tx ln ps pl gd od sm um Qm oo kp tx ln) [some (.ref b), some (.ref x0), some (.ref (a 0)), some (.int (nI i))] [] 707 := by
  obtain ⟨v, m5, m6⟩ := pr_pending X.2.1 x0 h0 w0 t a kp ln pl gd od hR hB (xs (i + 1))
  refine z_aload_n C 1 dL_law_707 rfl rfl ?_
  refine z_aload_n C 0 dL_law_708 rfl rfl ?_
  refine z_iload_n C 3 dL_law_709 rfl rfl ?_
  refine z_iconst C (nI 1) dL_law_710 (by decide) ?_
  refine z_iadd C dL_law_711 ?_
  refine z_top (y := nI (i + 1)) (nI_add _ _) ?_
  refine z_sld C La (by omega) (by omega) dL_law_712 ?_
  refine z_callVr C kX5_pending gL_law_X5_pending m5 dL_law_713 [0, 1, 2, 3, 4, 5, 6, 7, 8] [] 0 rfl ndL_T rfl rfl rfl (by decide) (by decide) (Nat.le_of_ble_eq_true rfl) rfl ?_
  refine z_aload_n C 2 dL_law_716 rfl rfl ?_
  refine z_aload_n C 0 dL_law_717 rfl rfl ?_
  refine z_iload_n C 3 dL_law_718 rfl rfl ?_
  refine z_iconst C (nI 1) dL_law_719 (by decide) ?_
  refine z_iadd C dL_law_720 ?_
  refine z_top (y := nI (i + 1)) (nI_add _ _) ?_
  refine z_sld C La (by omega) (by omega) dL_law_721 ?_
  refine z_callVr C kX6_pending gL_law_X6_pending m6 dL_law_722 [53, 54] [.int v] 53 rfl ndL_M rfl rfl rfl (by decide) (by decide) (Nat.le_of_ble_eq_true rfl) rfl ?_
  refine z_icmp_eq_t C 809 dL_law_725 (by decide) rfl ?_
  refine z_iinc C (nI (i + 5)) dL_law_809 rfl (zi_5 _) ?_
  refine z_goto C 18 dL_law_812 (by decide) ?_
  exact IH S o kp Q tx ln ps pl gd od sm um Qm oo (RR_mono hR (by omega)) (HH_mono hH (by omega)) hT

set_option maxHeartbeats 4000000 in
set_option maxRecDepth 100000 in
theorem law_author {X : zX} {kk nn : Nat} (C : zC X kk nn code RL wsL_law 10) {b L : Nat} {xs : Nat → Int32} (La : zLa X b L xs) (hL : L ≤ 2560) (x0 h0 h1 w0 w1 : Nat) (t : Nat → Nat) (r : Nat → Nat → Nat) (a : Nat → Nat) (S : zSt) (o kp : Nat) (Q : Nat → zSt) (tx : Nat → Nat) (ln : Nat) (ps : zPs) (pl : Nat) (gd : Bool) (od : Nat) (sm um : zMs) (Qm : Nat → zMs) (oo : Nat → Int32) (i B : Nat) (hR : RR S sm B) (hH : HH o kp Q Qm B) (hT : TX tx ln) (hB : B < 2147483500) (hi : i + 5 ≤ L) (IH : LI X kk nn b x0 h0 h1 w0 w1 t r a (i + 5) (B + 61)) : zG X kk nn (LWd X.2.1 x0 h0 h1 w0 w1 t r a S o kp Q tx ln ps pl gd od sm um Qm oo kp tx ln) [some (.ref b), some (.ref x0), some (.ref (a 0)), some (.int (nI i))] [] 730 := by
  obtain ⟨v, m5, m6⟩ := pr_author X.2.1 x0 h0 w0 t a kp ln pl gd od hR (xs (i + 1)) (xs (i + 2))
  refine z_aload_n C 1 dL_law_730 rfl rfl ?_
  refine z_aload_n C 0 dL_law_731 rfl rfl ?_
  refine z_iload_n C 3 dL_law_732 rfl rfl ?_
  refine z_iconst C (nI 1) dL_law_733 (by decide) ?_
  refine z_iadd C dL_law_734 ?_
  refine z_top (y := nI (i + 1)) (nI_add _ _) ?_
  refine z_sld C La (by omega) (by omega) dL_law_735 ?_
  refine z_aload_n C 0 dL_law_736 rfl rfl ?_
  refine z_iload_n C 3 dL_law_737 rfl rfl ?_
  refine z_iconst C (nI 2) dL_law_738 (by decide) ?_
  refine z_iadd C dL_law_739 ?_
  refine z_top (y := nI (i + 2)) (nI_add _ _) ?_
  refine z_sld C La (by omega) (by omega) dL_law_740 ?_
  refine z_callVr C kX5_author gL_law_X5_author m5 dL_law_741 [0, 1, 2, 3, 4, 5, 6, 7, 8] [] 0 rfl ndL_T rfl rfl rfl (by decide) (by decide) (Nat.le_of_ble_eq_true rfl) rfl ?_
  refine z_aload_n C 2 dL_law_744 rfl rfl ?_
  refine z_aload_n C 0 dL_law_745 rfl rfl ?_
  refine z_iload_n C 3 dL_law_746 rfl rfl ?_
  refine z_iconst C (nI 1) dL_law_747 (by decide) ?_
  refine z_iadd C dL_law_748 ?_
  refine z_top (y := nI (i + 1)) (nI_add _ _) ?_
  refine z_sld C La (by omega) (by omega) dL_law_749 ?_
  refine z_aload_n C 0 dL_law_750 rfl rfl ?_
  refine z_iload_n C 3 dL_law_751 rfl rfl ?_
  refine z_iconst C (nI 2) dL_law_752 (by decide) ?_
  refine z_iadd C dL_law_753 ?_
  refine z_top (y := nI (i + 2)) (nI_add _ _) ?_
  refine z_sld C La (by omega) (by omega) dL_law_754 ?_
  refine z_callVr C kX6_author gL_law_X6_author m6 dL_law_755 [53, 54] [.int v] 53 rfl ndL_M rfl rfl rfl (by decide) (by decide) (Nat.le_of_ble_eq_true rfl) rfl ?_
  refine z_icmp_eq_t C 809 dL_law_758 (by decide) rfl ?_
  refine z_iinc C (nI (i + 5)) dL_law_809 rfl (zi_5 _) ?_
  refine z_goto C 18 dL_law_812 (by decide) ?_
  exact IH S o kp Q tx ln ps pl gd od sm um Qm oo (RR_mono hR (by omega)) (HH_mono hH (by omega)) hT

set_option maxHeartbeats 4000000 in
set_option maxRecDepth 100000 in
theorem law_sum {X : zX} {kk nn : Nat} (C : zC X kk nn code RL wsL_law 10) {b L : Nat} {xs : Nat → Int32} (La : zLa X b L xs) (hL : L ≤ 2560) (x0 h0 h1 w0 w1 : Nat) (t : Nat → Nat) (r : Nat → Nat → Nat) (a : Nat → Nat) (S : zSt) (o kp : Nat) (Q : Nat → zSt) (tx : Nat → Nat) (ln : Nat) (ps : zPs) (pl : Nat) (gd : Bool) (od : Nat) (sm um : zMs) (Qm : Nat → zMs) (oo : Nat → Int32) (i B : Nat) (hR : RR S sm B) (hH : HH o kp Q Qm B) (hT : TX tx ln) (hB : B < 2147483500) (hi : i + 5 ≤ L) (IH : LI X kk nn b x0 h0 h1 w0 w1 t r a (i + 5) (B + 61)) : zG X kk nn (LWd X.2.1 x0 h0 h1 w0 w1 t r a S o kp Q tx ln ps pl gd od sm um Qm oo kp tx ln) [some (.ref b), some (.ref x0), some (.ref (a 0)), some (.int (nI i))] [] 763 := by
  obtain ⟨v, m5, m6⟩ := pr_sum X.2.1 x0 h0 w0 t a kp ln pl gd od hR (xs (i + 1))
  refine z_aload_n C 1 dL_law_763 rfl rfl ?_
  refine z_aload_n C 0 dL_law_764 rfl rfl ?_
  refine z_iload_n C 3 dL_law_765 rfl rfl ?_
  refine z_iconst C (nI 1) dL_law_766 (by decide) ?_
  refine z_iadd C dL_law_767 ?_
  refine z_top (y := nI (i + 1)) (nI_add _ _) ?_
  refine z_sld C La (by omega) (by omega) dL_law_768 ?_
  refine z_callVr C kX5_sum gL_law_X5_sum m5 dL_law_769 [0, 1, 2, 3, 4, 5, 6, 7, 8] [] 0 rfl ndL_T rfl rfl rfl (by decide) (by decide) (Nat.le_of_ble_eq_true rfl) rfl ?_
  refine z_aload_n C 2 dL_law_772 rfl rfl ?_
  refine z_aload_n C 0 dL_law_773 rfl rfl ?_
  refine z_iload_n C 3 dL_law_774 rfl rfl ?_
  refine z_iconst C (nI 1) dL_law_775 (by decide) ?_
  refine z_iadd C dL_law_776 ?_
  refine z_top (y := nI (i + 1)) (nI_add _ _) ?_
  refine z_sld C La (by omega) (by omega) dL_law_777 ?_
  refine z_callVr C kX6_sum gL_law_X6_sum m6 dL_law_778 [53, 54] [.int v] 53 rfl ndL_M rfl rfl rfl (by decide) (by decide) (Nat.le_of_ble_eq_true rfl) rfl ?_
  refine z_icmp_eq_t C 809 dL_law_781 (by decide) rfl ?_
  refine z_iinc C (nI (i + 5)) dL_law_809 rfl (zi_5 _) ?_
  refine z_goto C 18 dL_law_812 (by decide) ?_
  exact IH S o kp Q tx ln ps pl gd od sm um Qm oo (RR_mono hR (by omega)) (HH_mono hH (by omega)) hT

set_option maxHeartbeats 4000000 in
set_option maxRecDepth 100000 in
theorem law_count {X : zX} {kk nn : Nat} (C : zC X kk nn code RL wsL_law 10) {b L : Nat} {xs : Nat → Int32} (La : zLa X b L xs) (hL : L ≤ 2560) (x0 h0 h1 w0 w1 : Nat) (t : Nat → Nat) (r : Nat → Nat → Nat) (a : Nat → Nat) (S : zSt) (o kp : Nat) (Q : Nat → zSt) (tx : Nat → Nat) (ln : Nat) (ps : zPs) (pl : Nat) (gd : Bool) (od : Nat) (sm um : zMs) (Qm : Nat → zMs) (oo : Nat → Int32) (i B : Nat) (hR : RR S sm B) (hH : HH o kp Q Qm B) (hT : TX tx ln) (hB : B < 2147483500) (hi : i + 5 ≤ L) (IH : LI X kk nn b x0 h0 h1 w0 w1 t r a (i + 5) (B + 61)) : zG X kk nn (LWd X.2.1 x0 h0 h1 w0 w1 t r a S o kp Q tx ln ps pl gd od sm um Qm oo kp tx ln) [some (.ref b), some (.ref x0), some (.ref (a 0)), some (.int (nI i))] [] 786 := by
  obtain ⟨v, m5, m6⟩ := pr_count X.2.1 x0 h0 h1 w0 w1 t a o kp ln pl gd od ps hR (xs (i + 1))
  refine z_aload_n C 1 dL_law_786 rfl rfl ?_
  refine z_aload_n C 0 dL_law_787 rfl rfl ?_
  refine z_iload_n C 3 dL_law_788 rfl rfl ?_
  refine z_iconst C (nI 1) dL_law_789 (by decide) ?_
  refine z_iadd C dL_law_790 ?_
  refine z_top (y := nI (i + 1)) (nI_add _ _) ?_
  refine z_sld C La (by omega) (by omega) dL_law_791 ?_
  refine z_callVr C kX5_count gL_law_X5_count m5 dL_law_792 [0, 1, 2, 3, 4, 5, 6, 7, 8, 9, 51] [] 0 rfl ndL_C rfl rfl rfl (by decide) (by decide) (Nat.le_of_ble_eq_true rfl) rfl ?_
  refine z_aload_n C 2 dL_law_795 rfl rfl ?_
  refine z_aload_n C 0 dL_law_796 rfl rfl ?_
  refine z_iload_n C 3 dL_law_797 rfl rfl ?_
  refine z_iconst C (nI 1) dL_law_798 (by decide) ?_
  refine z_iadd C dL_law_799 ?_
  refine z_top (y := nI (i + 1)) (nI_add _ _) ?_
  refine z_sld C La (by omega) (by omega) dL_law_800 ?_
  refine z_callVr C kX6_count gL_law_X6_count m6 dL_law_801 [53, 54] [.int v] 53 rfl ndL_M rfl rfl rfl (by decide) (by decide) (Nat.le_of_ble_eq_true rfl) rfl ?_
  refine z_icmp_eq_t C 809 dL_law_804 (by decide) rfl ?_
  refine z_iinc C (nI (i + 5)) dL_law_809 rfl (zi_5 _) ?_
  refine z_goto C 18 dL_law_812 (by decide) ?_
  exact IH S o kp Q tx ln ps pl gd od sm um Qm oo (RR_mono hR (by omega)) (HH_mono hH (by omega)) hT
