theorem w_law_text {X : Nat × (Nat → Int32)} {M : ng_M} {i : Int32} (h : ng_inv M) (h6 : ng_six X i) (kk : ∀ M2 : ng_M, ng_inv M2 → ng_Go X mi_L_law 61 1407 [some (.ref 1007), some (.ref 0), some (.ref 73), some (.int i)] [] M2 ng_F1) : ng_Go X mi_L_law 61 543 [some (.ref 1007), some (.ref 0), some (.ref 73), some (.int i)] [] M ng_F1 := by
  obtain ⟨g0, g1, g2, g3, g4, g5⟩ := h6
  refine ng_aload_1 dL_law_543 ?_
  refine ng_aload_0 dL_law_544 ?_
  refine ng_iload_3 dL_law_545 ?_
  refine ng_iconst_1 dL_law_546 ?_
  refine ng_iadd dL_law_547 ?_
  refine ng_kld (k := 7) dL_law_548 rfl (by assumption) ?_
  refine ng_callV_1i (y2 := mi_X8_text) dL_law_549 lk_L_56 ms_X8_text my_X8_text (by first | exact ⟨_, rfl⟩ | assumption | exact ng_fld_obj (f := 0) (by assumption)) mc_X8 (by first | decide | exact Nat.le_of_ble_eq_true rfl) (pr_text h) (by decide) (fun v M1 h1 => ?_)
  refine ng_aload_2 dL_law_552 ?_
  refine ng_aload_0 dL_law_553 ?_
  refine ng_iload_3 dL_law_554 ?_
  refine ng_iconst_1 dL_law_555 ?_
  refine ng_iadd dL_law_556 ?_
  refine ng_kld (k := 7) dL_law_557 rfl (by assumption) ?_
  refine ng_callV_1i (y2 := mi_X9_text) dL_law_558 lk_L_59 ms_X9_text my_X9_text (by first | exact ⟨_, rfl⟩ | assumption | exact ng_fld_obj (f := 0) (by assumption)) mc_X9 (by first | decide | exact Nat.le_of_ble_eq_true rfl) (h1) (by decide) (fun v2 M2 h2 => ?_)
  refine ng_icmp_eq 1407 dL_law_561 (by decide +kernel) (fun h561 => ?_) (fun h561 => ?_)
  · exact kk M2 h2.2
  · exact absurd h2.1.symm h561
theorem w_law_law {X : Nat × (Nat → Int32)} {M : ng_M} {i : Int32} (h : ng_inv M) (h6 : ng_six X i) (kk : ∀ M2 : ng_M, ng_inv M2 → ng_Go X mi_L_law 61 1407 [some (.ref 1007), some (.ref 0), some (.ref 73), some (.int i)] [] M2 ng_F1) : ng_Go X mi_L_law 61 566 [some (.ref 1007), some (.ref 0), some (.ref 73), some (.int i)] [] M ng_F1 := by
  obtain ⟨g0, g1, g2, g3, g4, g5⟩ := h6
  refine ng_aload_1 dL_law_566 ?_
  refine ng_aload_0 dL_law_567 ?_
  refine ng_iload_3 dL_law_568 ?_
  refine ng_iconst_1 dL_law_569 ?_
  refine ng_iadd dL_law_570 ?_
  refine ng_kld (k := 7) dL_law_571 rfl (by assumption) ?_
  refine ng_aload_0 dL_law_572 ?_
  refine ng_iload_3 dL_law_573 ?_
  refine ng_iconst_2 dL_law_574 ?_
  refine ng_iadd dL_law_575 ?_
  refine ng_kld (k := 7) dL_law_576 rfl (by assumption) ?_
  refine ng_aload_0 dL_law_577 ?_
  refine ng_iload_3 dL_law_578 ?_
  refine ng_iconst_3 dL_law_579 ?_
  refine ng_iadd dL_law_580 ?_
  refine ng_kld (k := 7) dL_law_581 rfl (by assumption) ?_
  refine ng_aload_0 dL_law_582 ?_
  refine ng_iload_3 dL_law_583 ?_
  refine ng_iconst_4 dL_law_584 ?_
  refine ng_iadd dL_law_585 ?_
  refine ng_kld (k := 7) dL_law_586 rfl (by assumption) ?_
  refine ng_aload_0 dL_law_587 ?_
  refine ng_iload_3 dL_law_588 ?_
  refine ng_iconst_5 dL_law_589 ?_
  refine ng_iadd dL_law_590 ?_
  refine ng_kld (k := 7) dL_law_591 rfl (by assumption) ?_
  refine ng_callV_5i (y2 := mi_X8_law) dL_law_592 lk_L_60 ms_X8_law my_X8_law (by first | exact ⟨_, rfl⟩ | assumption | exact ng_fld_obj (f := 0) (by assumption)) mc_X8 (by first | decide | exact Nat.le_of_ble_eq_true rfl) (pr_law h) (by decide) (fun v M1 h1 => ?_)
  refine ng_aload_2 dL_law_595 ?_
  refine ng_aload_0 dL_law_596 ?_
  refine ng_iload_3 dL_law_597 ?_
  refine ng_iconst_1 dL_law_598 ?_
  refine ng_iadd dL_law_599 ?_
  refine ng_kld (k := 7) dL_law_600 rfl (by assumption) ?_
  refine ng_aload_0 dL_law_601 ?_
  refine ng_iload_3 dL_law_602 ?_
  refine ng_iconst_2 dL_law_603 ?_
  refine ng_iadd dL_law_604 ?_
  refine ng_kld (k := 7) dL_law_605 rfl (by assumption) ?_
  refine ng_aload_0 dL_law_606 ?_
  refine ng_iload_3 dL_law_607 ?_
  refine ng_iconst_3 dL_law_608 ?_
  refine ng_iadd dL_law_609 ?_
  refine ng_kld (k := 7) dL_law_610 rfl (by assumption) ?_
  refine ng_aload_0 dL_law_611 ?_
  refine ng_iload_3 dL_law_612 ?_
  refine ng_iconst_4 dL_law_613 ?_
  refine ng_iadd dL_law_614 ?_
  refine ng_kld (k := 7) dL_law_615 rfl (by assumption) ?_
  refine ng_aload_0 dL_law_616 ?_
  refine ng_iload_3 dL_law_617 ?_
  refine ng_iconst_5 dL_law_618 ?_
  refine ng_iadd dL_law_619 ?_
  refine ng_kld (k := 7) dL_law_620 rfl (by assumption) ?_
  refine ng_callV_5i (y2 := mi_X9_law) dL_law_621 lk_L_64 ms_X9_law my_X9_law (by first | exact ⟨_, rfl⟩ | assumption | exact ng_fld_obj (f := 0) (by assumption)) mc_X9 (by first | decide | exact Nat.le_of_ble_eq_true rfl) (h1) (by decide) (fun v2 M2 h2 => ?_)
  refine ng_icmp_eq 1407 dL_law_624 (by decide +kernel) (fun h624 => ?_) (fun h624 => ?_)
  · exact kk M2 h2.2
  · exact absurd h2.1.symm h624
theorem w_law_year {X : Nat × (Nat → Int32)} {M : ng_M} {i : Int32} (h : ng_inv M) (h6 : ng_six X i) (kk : ∀ M2 : ng_M, ng_inv M2 → ng_Go X mi_L_law 61 1407 [some (.ref 1007), some (.ref 0), some (.ref 73), some (.int i)] [] M2 ng_F1) : ng_Go X mi_L_law 61 629 [some (.ref 1007), some (.ref 0), some (.ref 73), some (.int i)] [] M ng_F1 := by
  obtain ⟨g0, g1, g2, g3, g4, g5⟩ := h6
  refine ng_aload_1 dL_law_629 ?_
  refine ng_aload_0 dL_law_630 ?_
  refine ng_iload_3 dL_law_631 ?_
  refine ng_iconst_1 dL_law_632 ?_
  refine ng_iadd dL_law_633 ?_
  refine ng_kld (k := 7) dL_law_634 rfl (by assumption) ?_
  refine ng_aload_0 dL_law_635 ?_
  refine ng_iload_3 dL_law_636 ?_
  refine ng_iconst_2 dL_law_637 ?_
  refine ng_iadd dL_law_638 ?_
  refine ng_kld (k := 7) dL_law_639 rfl (by assumption) ?_
  refine ng_callV_2i (y2 := mi_X8_year) dL_law_640 lk_L_65 ms_X8_year my_X8_year (by first | exact ⟨_, rfl⟩ | assumption | exact ng_fld_obj (f := 0) (by assumption)) mc_X8 (by first | decide | exact Nat.le_of_ble_eq_true rfl) (pr_year h) (by decide) (fun v M1 h1 => ?_)
  refine ng_aload_2 dL_law_643 ?_
  refine ng_aload_0 dL_law_644 ?_
  refine ng_iload_3 dL_law_645 ?_
  refine ng_iconst_1 dL_law_646 ?_
  refine ng_iadd dL_law_647 ?_
  refine ng_kld (k := 7) dL_law_648 rfl (by assumption) ?_
  refine ng_aload_0 dL_law_649 ?_
  refine ng_iload_3 dL_law_650 ?_
  refine ng_iconst_2 dL_law_651 ?_
  refine ng_iadd dL_law_652 ?_
  refine ng_kld (k := 7) dL_law_653 rfl (by assumption) ?_
  refine ng_callV_2i (y2 := mi_X9_year) dL_law_654 lk_L_68 ms_X9_year my_X9_year (by first | exact ⟨_, rfl⟩ | assumption | exact ng_fld_obj (f := 0) (by assumption)) mc_X9 (by first | decide | exact Nat.le_of_ble_eq_true rfl) (h1) (by decide) (fun v2 M2 h2 => ?_)
  refine ng_icmp_eq 1407 dL_law_657 (by decide +kernel) (fun h657 => ?_) (fun h657 => ?_)
  · exact kk M2 h2.2
  · exact absurd h2.1.symm h657
theorem w_law_give {X : Nat × (Nat → Int32)} {M : ng_M} {i : Int32} (h : ng_inv M) (h6 : ng_six X i) (kk : ∀ M2 : ng_M, ng_inv M2 → ng_Go X mi_L_law 61 1407 [some (.ref 1007), some (.ref 0), some (.ref 73), some (.int i)] [] M2 ng_F1) : ng_Go X mi_L_law 61 662 [some (.ref 1007), some (.ref 0), some (.ref 73), some (.int i)] [] M ng_F1 := by
  obtain ⟨g0, g1, g2, g3, g4, g5⟩ := h6
  refine ng_aload_1 dL_law_662 ?_
  refine ng_aload_0 dL_law_663 ?_
  refine ng_iload_3 dL_law_664 ?_
  refine ng_iconst_1 dL_law_665 ?_
  refine ng_iadd dL_law_666 ?_
  refine ng_kld (k := 7) dL_law_667 rfl (by assumption) ?_
  refine ng_callV_1i (y2 := mi_X8_give) dL_law_668 lk_L_69 ms_X8_give my_X8_give (by first | exact ⟨_, rfl⟩ | assumption | exact ng_fld_obj (f := 0) (by assumption)) mc_X8 (by first | decide | exact Nat.le_of_ble_eq_true rfl) (pr_give h) (by decide) (fun v M1 h1 => ?_)
  refine ng_aload_2 dL_law_671 ?_
  refine ng_aload_0 dL_law_672 ?_
  refine ng_iload_3 dL_law_673 ?_
  refine ng_iconst_1 dL_law_674 ?_
  refine ng_iadd dL_law_675 ?_
  refine ng_kld (k := 7) dL_law_676 rfl (by assumption) ?_
  refine ng_callV_1i (y2 := mi_X9_give) dL_law_677 lk_L_72 ms_X9_give my_X9_give (by first | exact ⟨_, rfl⟩ | assumption | exact ng_fld_obj (f := 0) (by assumption)) mc_X9 (by first | decide | exact Nat.le_of_ble_eq_true rfl) (h1) (by decide) (fun v2 M2 h2 => ?_)
  refine ng_icmp_eq 1407 dL_law_680 (by decide +kernel) (fun h680 => ?_) (fun h680 => ?_)
  · exact kk M2 h2.2
  · exact absurd h2.1.symm h680
theorem w_law_life {X : Nat × (Nat → Int32)} {M : ng_M} {i : Int32} (h : ng_inv M) (h6 : ng_six X i) (kk : ∀ M2 : ng_M, ng_inv M2 → ng_Go X mi_L_law 61 1407 [some (.ref 1007), some (.ref 0), some (.ref 73), some (.int i)] [] M2 ng_F1) : ng_Go X mi_L_law 61 685 [some (.ref 1007), some (.ref 0), some (.ref 73), some (.int i)] [] M ng_F1 := by
  obtain ⟨g0, g1, g2, g3, g4, g5⟩ := h6
  refine ng_aload_1 dL_law_685 ?_
  refine ng_aload_0 dL_law_686 ?_
  refine ng_iload_3 dL_law_687 ?_
  refine ng_iconst_1 dL_law_688 ?_
  refine ng_iadd dL_law_689 ?_
  refine ng_kld (k := 7) dL_law_690 rfl (by assumption) ?_
  refine ng_aload_0 dL_law_691 ?_
  refine ng_iload_3 dL_law_692 ?_
  refine ng_iconst_2 dL_law_693 ?_
  refine ng_iadd dL_law_694 ?_
  refine ng_kld (k := 7) dL_law_695 rfl (by assumption) ?_
  refine ng_callV_2i (y2 := mi_X8_life) dL_law_696 lk_L_73 ms_X8_life my_X8_life (by first | exact ⟨_, rfl⟩ | assumption | exact ng_fld_obj (f := 0) (by assumption)) mc_X8 (by first | decide | exact Nat.le_of_ble_eq_true rfl) (pr_life h) (by decide) (fun v M1 h1 => ?_)
  refine ng_aload_2 dL_law_699 ?_
  refine ng_aload_0 dL_law_700 ?_
  refine ng_iload_3 dL_law_701 ?_
  refine ng_iconst_1 dL_law_702 ?_
  refine ng_iadd dL_law_703 ?_
  refine ng_kld (k := 7) dL_law_704 rfl (by assumption) ?_
  refine ng_aload_0 dL_law_705 ?_
  refine ng_iload_3 dL_law_706 ?_
  refine ng_iconst_2 dL_law_707 ?_
  refine ng_iadd dL_law_708 ?_
  refine ng_kld (k := 7) dL_law_709 rfl (by assumption) ?_
  refine ng_callV_2i (y2 := mi_X9_life) dL_law_710 lk_L_76 ms_X9_life my_X9_life (by first | exact ⟨_, rfl⟩ | assumption | exact ng_fld_obj (f := 0) (by assumption)) mc_X9 (by first | decide | exact Nat.le_of_ble_eq_true rfl) (h1) (by decide) (fun v2 M2 h2 => ?_)
  refine ng_icmp_eq 1407 dL_law_713 (by decide +kernel) (fun h713 => ?_) (fun h713 => ?_)
  · exact kk M2 h2.2
  · exact absurd h2.1.symm h713
theorem w_law_then {X : Nat × (Nat → Int32)} {M : ng_M} {i : Int32} (h : ng_inv M) (h6 : ng_six X i) (kk : ∀ M2 : ng_M, ng_inv M2 → ng_Go X mi_L_law 61 1407 [some (.ref 1007), some (.ref 0), some (.ref 73), some (.int i)] [] M2 ng_F1) : ng_Go X mi_L_law 61 718 [some (.ref 1007), some (.ref 0), some (.ref 73), some (.int i)] [] M ng_F1 := by
  obtain ⟨g0, g1, g2, g3, g4, g5⟩ := h6
  refine ng_aload_1 dL_law_718 ?_
  refine ng_aload_0 dL_law_719 ?_
  refine ng_iload_3 dL_law_720 ?_
  refine ng_iconst_1 dL_law_721 ?_
  refine ng_iadd dL_law_722 ?_
  refine ng_kld (k := 7) dL_law_723 rfl (by assumption) ?_
  refine ng_aload_0 dL_law_724 ?_
  refine ng_iload_3 dL_law_725 ?_
  refine ng_iconst_2 dL_law_726 ?_
  refine ng_iadd dL_law_727 ?_
  refine ng_kld (k := 7) dL_law_728 rfl (by assumption) ?_
  refine ng_aload_0 dL_law_729 ?_
  refine ng_iload_3 dL_law_730 ?_
  refine ng_iconst_3 dL_law_731 ?_
  refine ng_iadd dL_law_732 ?_
  refine ng_kld (k := 7) dL_law_733 rfl (by assumption) ?_
  refine ng_callV_3i (y2 := mi_X8_then) dL_law_734 lk_L_77 ms_X8_then my_X8_then (by first | exact ⟨_, rfl⟩ | assumption | exact ng_fld_obj (f := 0) (by assumption)) mc_X8 (by first | decide | exact Nat.le_of_ble_eq_true rfl) (pr_then h) (by decide) (fun v M1 h1 => ?_)
  refine ng_aload_2 dL_law_737 ?_
  refine ng_aload_0 dL_law_738 ?_
  refine ng_iload_3 dL_law_739 ?_
  refine ng_iconst_1 dL_law_740 ?_
  refine ng_iadd dL_law_741 ?_
  refine ng_kld (k := 7) dL_law_742 rfl (by assumption) ?_
  refine ng_aload_0 dL_law_743 ?_
  refine ng_iload_3 dL_law_744 ?_
  refine ng_iconst_2 dL_law_745 ?_
  refine ng_iadd dL_law_746 ?_
  refine ng_kld (k := 7) dL_law_747 rfl (by assumption) ?_
  refine ng_aload_0 dL_law_748 ?_
  refine ng_iload_3 dL_law_749 ?_
  refine ng_iconst_3 dL_law_750 ?_
  refine ng_iadd dL_law_751 ?_
  refine ng_kld (k := 7) dL_law_752 rfl (by assumption) ?_
  refine ng_callV_3i (y2 := mi_X9_then) dL_law_753 lk_L_80 ms_X9_then my_X9_then (by first | exact ⟨_, rfl⟩ | assumption | exact ng_fld_obj (f := 0) (by assumption)) mc_X9 (by first | decide | exact Nat.le_of_ble_eq_true rfl) (h1) (by decide) (fun v2 M2 h2 => ?_)
  refine ng_icmp_eq 1407 dL_law_756 (by decide +kernel) (fun h756 => ?_) (fun h756 => ?_)
  · exact kk M2 h2.2
  · exact absurd h2.1.symm h756
theorem w_law_by {X : Nat × (Nat → Int32)} {M : ng_M} {i : Int32} (h : ng_inv M) (h6 : ng_six X i) (kk : ∀ M2 : ng_M, ng_inv M2 → ng_Go X mi_L_law 61 1407 [some (.ref 1007), some (.ref 0), some (.ref 73), some (.int i)] [] M2 ng_F1) : ng_Go X mi_L_law 61 761 [some (.ref 1007), some (.ref 0), some (.ref 73), some (.int i)] [] M ng_F1 := by
  obtain ⟨g0, g1, g2, g3, g4, g5⟩ := h6
  refine ng_aload_1 dL_law_761 ?_
  refine ng_aload_0 dL_law_762 ?_
  refine ng_iload_3 dL_law_763 ?_
  refine ng_iconst_1 dL_law_764 ?_
  refine ng_iadd dL_law_765 ?_
  refine ng_kld (k := 7) dL_law_766 rfl (by assumption) ?_
  refine ng_aload_0 dL_law_767 ?_
  refine ng_iload_3 dL_law_768 ?_
  refine ng_iconst_2 dL_law_769 ?_
  refine ng_iadd dL_law_770 ?_
  refine ng_kld (k := 7) dL_law_771 rfl (by assumption) ?_
  refine ng_callV_2i (y2 := mi_X8_by) dL_law_772 lk_L_81 ms_X8_by my_X8_by (by first | exact ⟨_, rfl⟩ | assumption | exact ng_fld_obj (f := 0) (by assumption)) mc_X8 (by first | decide | exact Nat.le_of_ble_eq_true rfl) (pr_by h) (by decide) (fun v M1 h1 => ?_)
  refine ng_aload_2 dL_law_775 ?_
  refine ng_aload_0 dL_law_776 ?_
  refine ng_iload_3 dL_law_777 ?_
  refine ng_iconst_1 dL_law_778 ?_
  refine ng_iadd dL_law_779 ?_
  refine ng_kld (k := 7) dL_law_780 rfl (by assumption) ?_
  refine ng_aload_0 dL_law_781 ?_
  refine ng_iload_3 dL_law_782 ?_
  refine ng_iconst_2 dL_law_783 ?_
  refine ng_iadd dL_law_784 ?_
  refine ng_kld (k := 7) dL_law_785 rfl (by assumption) ?_
  refine ng_callV_2i (y2 := mi_X9_by) dL_law_786 lk_L_84 ms_X9_by my_X9_by (by first | exact ⟨_, rfl⟩ | assumption | exact ng_fld_obj (f := 0) (by assumption)) mc_X9 (by first | decide | exact Nat.le_of_ble_eq_true rfl) (h1) (by decide) (fun v2 M2 h2 => ?_)
  refine ng_icmp_eq 1407 dL_law_789 (by decide +kernel) (fun h789 => ?_) (fun h789 => ?_)
  · exact kk M2 h2.2
  · exact absurd h2.1.symm h789
theorem w_law_best {X : Nat × (Nat → Int32)} {M : ng_M} {i : Int32} (h : ng_inv M) (h6 : ng_six X i) (kk : ∀ M2 : ng_M, ng_inv M2 → ng_Go X mi_L_law 61 1407 [some (.ref 1007), some (.ref 0), some (.ref 73), some (.int i)] [] M2 ng_F1) : ng_Go X mi_L_law 61 794 [some (.ref 1007), some (.ref 0), some (.ref 73), some (.int i)] [] M ng_F1 := by
  obtain ⟨g0, g1, g2, g3, g4, g5⟩ := h6
  refine ng_aload_1 dL_law_794 ?_
  refine ng_aload_0 dL_law_795 ?_
  refine ng_iload_3 dL_law_796 ?_
  refine ng_iconst_1 dL_law_797 ?_
  refine ng_iadd dL_law_798 ?_
  refine ng_kld (k := 7) dL_law_799 rfl (by assumption) ?_
  refine ng_aload_0 dL_law_800 ?_
  refine ng_iload_3 dL_law_801 ?_
  refine ng_iconst_2 dL_law_802 ?_
  refine ng_iadd dL_law_803 ?_
  refine ng_kld (k := 7) dL_law_804 rfl (by assumption) ?_
  refine ng_callV_2i (y2 := mi_X8_best) dL_law_805 lk_L_85 ms_X8_best my_X8_best (by first | exact ⟨_, rfl⟩ | assumption | exact ng_fld_obj (f := 0) (by assumption)) mc_X8 (by first | decide | exact Nat.le_of_ble_eq_true rfl) (pr_best h) (by decide) (fun v M1 h1 => ?_)
  refine ng_aload_2 dL_law_808 ?_
  refine ng_aload_0 dL_law_809 ?_
  refine ng_iload_3 dL_law_810 ?_
  refine ng_iconst_1 dL_law_811 ?_
  refine ng_iadd dL_law_812 ?_
  refine ng_kld (k := 7) dL_law_813 rfl (by assumption) ?_
  refine ng_aload_0 dL_law_814 ?_
  refine ng_iload_3 dL_law_815 ?_
  refine ng_iconst_2 dL_law_816 ?_
  refine ng_iadd dL_law_817 ?_
  refine ng_kld (k := 7) dL_law_818 rfl (by assumption) ?_
  refine ng_callV_2i (y2 := mi_X9_best) dL_law_819 lk_L_88 ms_X9_best my_X9_best (by first | exact ⟨_, rfl⟩ | assumption | exact ng_fld_obj (f := 0) (by assumption)) mc_X9 (by first | decide | exact Nat.le_of_ble_eq_true rfl) (h1) (by decide) (fun v2 M2 h2 => ?_)
  refine ng_icmp_eq 1407 dL_law_822 (by decide +kernel) (fun h822 => ?_) (fun h822 => ?_)
  · exact kk M2 h2.2
  · exact absurd h2.1.symm h822
