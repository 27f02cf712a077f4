/-! THE LAW: its cases 12 to 19 -/
theorem dL_law_600 : decode cL_law 600 = .ok (.aload_n 1, 1) := by decide +kernel
theorem dL_law_601 : decode cL_law 601 = .ok (.invokevirtual 69, 3) := by decide +kernel
theorem dL_law_604 : decode cL_law 604 = .ok (.aload_n 2, 1) := by decide +kernel
theorem dL_law_605 : decode cL_law 605 = .ok (.invokevirtual 72, 3) := by decide +kernel
theorem dL_law_608 : decode cL_law 608 = .ok (.if_icmp .eq 423, 3) := by decide +kernel
theorem dL_law_611 : decode cL_law 611 = .ok (.iconst 0, 1) := by decide +kernel
theorem dL_law_612 : decode cL_law 612 = .ok (.ireturn, 1) := by decide +kernel
theorem dL_law_613 : decode cL_law 613 = .ok (.aload_n 1, 1) := by decide +kernel
theorem dL_law_614 : decode cL_law 614 = .ok (.aload_n 0, 1) := by decide +kernel
theorem dL_law_615 : decode cL_law 615 = .ok (.iload_n 3, 1) := by decide +kernel
theorem dL_law_616 : decode cL_law 616 = .ok (.iconst 1, 1) := by decide +kernel
theorem dL_law_617 : decode cL_law 617 = .ok (.iadd, 1) := by decide +kernel
theorem dL_law_618 : decode cL_law 618 = .ok (.iaload, 1) := by decide +kernel
theorem dL_law_619 : decode cL_law 619 = .ok (.aload_n 0, 1) := by decide +kernel
theorem dL_law_620 : decode cL_law 620 = .ok (.iload_n 3, 1) := by decide +kernel
theorem dL_law_621 : decode cL_law 621 = .ok (.iconst 2, 1) := by decide +kernel
theorem dL_law_622 : decode cL_law 622 = .ok (.iadd, 1) := by decide +kernel
theorem dL_law_623 : decode cL_law 623 = .ok (.iaload, 1) := by decide +kernel
theorem dL_law_624 : decode cL_law 624 = .ok (.invokevirtual 73, 3) := by decide +kernel
theorem dL_law_627 : decode cL_law 627 = .ok (.aload_n 2, 1) := by decide +kernel
theorem dL_law_628 : decode cL_law 628 = .ok (.aload_n 0, 1) := by decide +kernel
theorem dL_law_629 : decode cL_law 629 = .ok (.iload_n 3, 1) := by decide +kernel
theorem dL_law_630 : decode cL_law 630 = .ok (.iconst 1, 1) := by decide +kernel
theorem dL_law_631 : decode cL_law 631 = .ok (.iadd, 1) := by decide +kernel
theorem dL_law_632 : decode cL_law 632 = .ok (.iaload, 1) := by decide +kernel
theorem dL_law_633 : decode cL_law 633 = .ok (.aload_n 0, 1) := by decide +kernel
theorem dL_law_634 : decode cL_law 634 = .ok (.iload_n 3, 1) := by decide +kernel
theorem dL_law_635 : decode cL_law 635 = .ok (.iconst 2, 1) := by decide +kernel
theorem dL_law_636 : decode cL_law 636 = .ok (.iadd, 1) := by decide +kernel
theorem dL_law_637 : decode cL_law 637 = .ok (.iaload, 1) := by decide +kernel
theorem dL_law_638 : decode cL_law 638 = .ok (.invokevirtual 76, 3) := by decide +kernel
theorem dL_law_641 : decode cL_law 641 = .ok (.if_icmp .eq 390, 3) := by decide +kernel
theorem dL_law_644 : decode cL_law 644 = .ok (.iconst 0, 1) := by decide +kernel
theorem dL_law_645 : decode cL_law 645 = .ok (.ireturn, 1) := by decide +kernel
theorem dL_law_646 : decode cL_law 646 = .ok (.aload_n 1, 1) := by decide +kernel
theorem dL_law_647 : decode cL_law 647 = .ok (.aload_n 0, 1) := by decide +kernel
theorem dL_law_648 : decode cL_law 648 = .ok (.iload_n 3, 1) := by decide +kernel
theorem dL_law_649 : decode cL_law 649 = .ok (.iconst 1, 1) := by decide +kernel
theorem dL_law_650 : decode cL_law 650 = .ok (.iadd, 1) := by decide +kernel
theorem dL_law_651 : decode cL_law 651 = .ok (.iaload, 1) := by decide +kernel
theorem dL_law_652 : decode cL_law 652 = .ok (.aload_n 0, 1) := by decide +kernel
theorem dL_law_653 : decode cL_law 653 = .ok (.iload_n 3, 1) := by decide +kernel
theorem dL_law_654 : decode cL_law 654 = .ok (.iconst 2, 1) := by decide +kernel
theorem dL_law_655 : decode cL_law 655 = .ok (.iadd, 1) := by decide +kernel
theorem dL_law_656 : decode cL_law 656 = .ok (.iaload, 1) := by decide +kernel
theorem dL_law_657 : decode cL_law 657 = .ok (.aload_n 0, 1) := by decide +kernel
theorem dL_law_658 : decode cL_law 658 = .ok (.iload_n 3, 1) := by decide +kernel
theorem dL_law_659 : decode cL_law 659 = .ok (.iconst 3, 1) := by decide +kernel
theorem dL_law_660 : decode cL_law 660 = .ok (.iadd, 1) := by decide +kernel
theorem dL_law_661 : decode cL_law 661 = .ok (.iaload, 1) := by decide +kernel
theorem dL_law_662 : decode cL_law 662 = .ok (.invokevirtual 77, 3) := by decide +kernel
theorem dL_law_665 : decode cL_law 665 = .ok (.aload_n 2, 1) := by decide +kernel
theorem dL_law_666 : decode cL_law 666 = .ok (.aload_n 0, 1) := by decide +kernel
theorem dL_law_667 : decode cL_law 667 = .ok (.iload_n 3, 1) := by decide +kernel
theorem dL_law_668 : decode cL_law 668 = .ok (.iconst 1, 1) := by decide +kernel
theorem dL_law_669 : decode cL_law 669 = .ok (.iadd, 1) := by decide +kernel
theorem dL_law_670 : decode cL_law 670 = .ok (.iaload, 1) := by decide +kernel
theorem dL_law_671 : decode cL_law 671 = .ok (.aload_n 0, 1) := by decide +kernel
theorem dL_law_672 : decode cL_law 672 = .ok (.iload_n 3, 1) := by decide +kernel
theorem dL_law_673 : decode cL_law 673 = .ok (.iconst 2, 1) := by decide +kernel
theorem dL_law_674 : decode cL_law 674 = .ok (.iadd, 1) := by decide +kernel
theorem dL_law_675 : decode cL_law 675 = .ok (.iaload, 1) := by decide +kernel
theorem dL_law_676 : decode cL_law 676 = .ok (.aload_n 0, 1) := by decide +kernel
theorem dL_law_677 : decode cL_law 677 = .ok (.iload_n 3, 1) := by decide +kernel
theorem dL_law_678 : decode cL_law 678 = .ok (.iconst 3, 1) := by decide +kernel
theorem dL_law_679 : decode cL_law 679 = .ok (.iadd, 1) := by decide +kernel
theorem dL_law_680 : decode cL_law 680 = .ok (.iaload, 1) := by decide +kernel
theorem dL_law_681 : decode cL_law 681 = .ok (.invokevirtual 80, 3) := by decide +kernel
theorem dL_law_684 : decode cL_law 684 = .ok (.if_icmp .eq 347, 3) := by decide +kernel
theorem dL_law_687 : decode cL_law 687 = .ok (.iconst 0, 1) := by decide +kernel
theorem dL_law_688 : decode cL_law 688 = .ok (.ireturn, 1) := by decide +kernel
theorem dL_law_689 : decode cL_law 689 = .ok (.aload_n 1, 1) := by decide +kernel
theorem dL_law_690 : decode cL_law 690 = .ok (.aload_n 0, 1) := by decide +kernel
theorem dL_law_691 : decode cL_law 691 = .ok (.iload_n 3, 1) := by decide +kernel
theorem dL_law_692 : decode cL_law 692 = .ok (.iconst 1, 1) := by decide +kernel
theorem dL_law_693 : decode cL_law 693 = .ok (.iadd, 1) := by decide +kernel
theorem dL_law_694 : decode cL_law 694 = .ok (.iaload, 1) := by decide +kernel
theorem dL_law_695 : decode cL_law 695 = .ok (.invokevirtual 81, 3) := by decide +kernel
theorem dL_law_698 : decode cL_law 698 = .ok (.aload_n 2, 1) := by decide +kernel
theorem dL_law_699 : decode cL_law 699 = .ok (.aload_n 0, 1) := by decide +kernel
theorem dL_law_700 : decode cL_law 700 = .ok (.iload_n 3, 1) := by decide +kernel
theorem dL_law_701 : decode cL_law 701 = .ok (.iconst 1, 1) := by decide +kernel
theorem dL_law_702 : decode cL_law 702 = .ok (.iadd, 1) := by decide +kernel
theorem dL_law_703 : decode cL_law 703 = .ok (.iaload, 1) := by decide +kernel
theorem dL_law_704 : decode cL_law 704 = .ok (.invokevirtual 84, 3) := by decide +kernel
theorem dL_law_707 : decode cL_law 707 = .ok (.if_icmp .eq 324, 3) := by decide +kernel
theorem dL_law_710 : decode cL_law 710 = .ok (.iconst 0, 1) := by decide +kernel
theorem dL_law_711 : decode cL_law 711 = .ok (.ireturn, 1) := by decide +kernel
theorem dL_law_712 : decode cL_law 712 = .ok (.aload_n 1, 1) := by decide +kernel
theorem dL_law_713 : decode cL_law 713 = .ok (.aload_n 0, 1) := by decide +kernel
theorem dL_law_714 : decode cL_law 714 = .ok (.iload_n 3, 1) := by decide +kernel
theorem dL_law_715 : decode cL_law 715 = .ok (.iconst 1, 1) := by decide +kernel
theorem dL_law_716 : decode cL_law 716 = .ok (.iadd, 1) := by decide +kernel
theorem dL_law_717 : decode cL_law 717 = .ok (.iaload, 1) := by decide +kernel
theorem dL_law_718 : decode cL_law 718 = .ok (.invokevirtual 85, 3) := by decide +kernel
theorem dL_law_721 : decode cL_law 721 = .ok (.aload_n 2, 1) := by decide +kernel
theorem dL_law_722 : decode cL_law 722 = .ok (.aload_n 0, 1) := by decide +kernel
theorem dL_law_723 : decode cL_law 723 = .ok (.iload_n 3, 1) := by decide +kernel
theorem dL_law_724 : decode cL_law 724 = .ok (.iconst 1, 1) := by decide +kernel
theorem dL_law_725 : decode cL_law 725 = .ok (.iadd, 1) := by decide +kernel
theorem dL_law_726 : decode cL_law 726 = .ok (.iaload, 1) := by decide +kernel
theorem dL_law_727 : decode cL_law 727 = .ok (.invokevirtual 88, 3) := by decide +kernel
theorem dL_law_730 : decode cL_law 730 = .ok (.if_icmp .eq 301, 3) := by decide +kernel
theorem dL_law_733 : decode cL_law 733 = .ok (.iconst 0, 1) := by decide +kernel
theorem dL_law_734 : decode cL_law 734 = .ok (.ireturn, 1) := by decide +kernel
theorem dL_law_735 : decode cL_law 735 = .ok (.aload_n 1, 1) := by decide +kernel
theorem dL_law_736 : decode cL_law 736 = .ok (.aload_n 0, 1) := by decide +kernel
theorem dL_law_737 : decode cL_law 737 = .ok (.iload_n 3, 1) := by decide +kernel
theorem dL_law_738 : decode cL_law 738 = .ok (.iconst 1, 1) := by decide +kernel
theorem dL_law_739 : decode cL_law 739 = .ok (.iadd, 1) := by decide +kernel
theorem dL_law_740 : decode cL_law 740 = .ok (.iaload, 1) := by decide +kernel
theorem dL_law_741 : decode cL_law 741 = .ok (.invokevirtual 89, 3) := by decide +kernel
theorem dL_law_744 : decode cL_law 744 = .ok (.aload_n 2, 1) := by decide +kernel
theorem dL_law_745 : decode cL_law 745 = .ok (.aload_n 0, 1) := by decide +kernel
theorem dL_law_746 : decode cL_law 746 = .ok (.iload_n 3, 1) := by decide +kernel
theorem dL_law_747 : decode cL_law 747 = .ok (.iconst 1, 1) := by decide +kernel
theorem dL_law_748 : decode cL_law 748 = .ok (.iadd, 1) := by decide +kernel
theorem dL_law_749 : decode cL_law 749 = .ok (.iaload, 1) := by decide +kernel
theorem dL_law_750 : decode cL_law 750 = .ok (.invokevirtual 92, 3) := by decide +kernel
theorem dL_law_753 : decode cL_law 753 = .ok (.if_icmp .eq 278, 3) := by decide +kernel
theorem dL_law_756 : decode cL_law 756 = .ok (.iconst 0, 1) := by decide +kernel
theorem dL_law_757 : decode cL_law 757 = .ok (.ireturn, 1) := by decide +kernel
theorem dL_law_758 : decode cL_law 758 = .ok (.aload_n 1, 1) := by decide +kernel
theorem dL_law_759 : decode cL_law 759 = .ok (.aload_n 0, 1) := by decide +kernel
theorem dL_law_760 : decode cL_law 760 = .ok (.iload_n 3, 1) := by decide +kernel
theorem dL_law_761 : decode cL_law 761 = .ok (.iconst 1, 1) := by decide +kernel
theorem dL_law_762 : decode cL_law 762 = .ok (.iadd, 1) := by decide +kernel
theorem dL_law_763 : decode cL_law 763 = .ok (.iaload, 1) := by decide +kernel
theorem dL_law_764 : decode cL_law 764 = .ok (.aload_n 0, 1) := by decide +kernel
theorem dL_law_765 : decode cL_law 765 = .ok (.iload_n 3, 1) := by decide +kernel
theorem dL_law_766 : decode cL_law 766 = .ok (.iconst 2, 1) := by decide +kernel
theorem dL_law_767 : decode cL_law 767 = .ok (.iadd, 1) := by decide +kernel
theorem dL_law_768 : decode cL_law 768 = .ok (.iaload, 1) := by decide +kernel
theorem dL_law_769 : decode cL_law 769 = .ok (.invokevirtual 93, 3) := by decide +kernel
theorem dL_law_772 : decode cL_law 772 = .ok (.aload_n 2, 1) := by decide +kernel
theorem dL_law_773 : decode cL_law 773 = .ok (.aload_n 0, 1) := by decide +kernel
theorem dL_law_774 : decode cL_law 774 = .ok (.iload_n 3, 1) := by decide +kernel
theorem dL_law_775 : decode cL_law 775 = .ok (.iconst 1, 1) := by decide +kernel
theorem dL_law_776 : decode cL_law 776 = .ok (.iadd, 1) := by decide +kernel
theorem dL_law_777 : decode cL_law 777 = .ok (.iaload, 1) := by decide +kernel
theorem dL_law_778 : decode cL_law 778 = .ok (.aload_n 0, 1) := by decide +kernel
theorem dL_law_779 : decode cL_law 779 = .ok (.iload_n 3, 1) := by decide +kernel
theorem dL_law_780 : decode cL_law 780 = .ok (.iconst 2, 1) := by decide +kernel
theorem dL_law_781 : decode cL_law 781 = .ok (.iadd, 1) := by decide +kernel
theorem dL_law_782 : decode cL_law 782 = .ok (.iaload, 1) := by decide +kernel
theorem dL_law_783 : decode cL_law 783 = .ok (.invokevirtual 96, 3) := by decide +kernel
theorem dL_law_786 : decode cL_law 786 = .ok (.if_icmp .eq 245, 3) := by decide +kernel
theorem dL_law_789 : decode cL_law 789 = .ok (.iconst 0, 1) := by decide +kernel
theorem dL_law_790 : decode cL_law 790 = .ok (.ireturn, 1) := by decide +kernel
theorem dL_law_791 : decode cL_law 791 = .ok (.aload_n 1, 1) := by decide +kernel
theorem dL_law_792 : decode cL_law 792 = .ok (.invokevirtual 97, 3) := by decide +kernel
theorem dL_law_795 : decode cL_law 795 = .ok (.aload_n 2, 1) := by decide +kernel
theorem dL_law_796 : decode cL_law 796 = .ok (.invokevirtual 100, 3) := by decide +kernel
theorem dL_law_799 : decode cL_law 799 = .ok (.if_icmp .eq 232, 3) := by decide +kernel
theorem dL_law_802 : decode cL_law 802 = .ok (.iconst 0, 1) := by decide +kernel
theorem dL_law_803 : decode cL_law 803 = .ok (.ireturn, 1) := by decide +kernel
section LC
variable {G : GG} {b L i : Nat} {xs : Nat → Int32} {σ : AH}
theorem lc_undo (hL : L ≤ 3072) (hi : i + 6 ≤ L) (H : IV σ) (hn : ∀ σ2, IV σ2 → J G RL cL_law 4 ret (TL G b L xs) 184 σ2 184 6624 1031 [some (.ref (EXT + 400)), some (.ref 0), some (.ref 171), some (.int (nI i))] []) : J G RL cL_law 4 ret (TL G b L xs) 184 σ 184 6624 600 [some (.ref (EXT + 400)), some (.ref 0), some (.ref 171), some (.int (nI i))] [] := by
  obtain ⟨v, σ1, σ2, h5, h6, H2, fs, ho⟩ := IV_undo (G := G) (z := 184) H
  obtain ⟨fs0, ho0⟩ := IV_0 H
  refine j_aload_n dL_law_600 rfl rfl ?_
  refine j_callV h5 dL_law_601 rfl mv_L_69 ho0 rfl ⟨(Nat.le_of_ble_eq_true rfl), (Nat.le_of_ble_eq_true rfl)⟩ ⟨(Nat.le_of_ble_eq_true rfl), (Nat.le_of_ble_eq_true rfl)⟩ (Nat.le_of_ble_eq_true rfl) ?_
  refine j_aload_n dL_law_604 rfl rfl ?_
  refine j_callV h6 dL_law_605 rfl mv_L_72 ho rfl ⟨(Nat.le_of_ble_eq_true rfl), (Nat.le_of_ble_eq_true rfl)⟩ ⟨(Nat.le_of_ble_eq_true rfl), (Nat.le_of_ble_eq_true rfl)⟩ (Nat.le_of_ble_eq_true rfl) ?_
  refine j_icmp_eq 1031 dL_law_608 (by decide) (fun b608 => ?_) (fun b608 => by exact absurd rfl b608)
  exact hn σ2 H2
theorem lc_person (hL : L ≤ 3072) (hi : i + 6 ≤ L) (H : IV σ) (hn : ∀ σ2, IV σ2 → J G RL cL_law 4 ret (TL G b L xs) 184 σ2 184 6624 1031 [some (.ref (EXT + 400)), some (.ref 0), some (.ref 171), some (.int (nI i))] []) : J G RL cL_law 4 ret (TL G b L xs) 184 σ 184 6624 613 [some (.ref (EXT + 400)), some (.ref 0), some (.ref 171), some (.int (nI i))] [] := by
  obtain ⟨v, σ1, σ2, h5, h6, H2, fs, ho⟩ := IV_person (G := G) (z := 184) H (xs (i + 1)) (xs (i + 2))
  obtain ⟨fs0, ho0⟩ := IV_0 H
  refine j_aload_n dL_law_613 rfl rfl ?_
  refine j_aload_n dL_law_614 rfl rfl ?_
  refine j_iload_n dL_law_615 rfl rfl ?_
  refine j_iconst (nI 1) dL_law_616 rfl ?_
  first | refine j_iaddN dL_law_617 ?_ | refine j_iadd dL_law_617 ?_
  refine j_sld dL_law_618 (by omega) hL ?_
  refine j_aload_n dL_law_619 rfl rfl ?_
  refine j_iload_n dL_law_620 rfl rfl ?_
  refine j_iconst (nI 2) dL_law_621 rfl ?_
  first | refine j_iaddN dL_law_622 ?_ | refine j_iadd dL_law_622 ?_
  refine j_sld dL_law_623 (by omega) hL ?_
  refine j_callV h5 dL_law_624 rfl mv_L_73 ho0 rfl ⟨(Nat.le_of_ble_eq_true rfl), (Nat.le_of_ble_eq_true rfl)⟩ ⟨(Nat.le_of_ble_eq_true rfl), (Nat.le_of_ble_eq_true rfl)⟩ (Nat.le_of_ble_eq_true rfl) ?_
  refine j_aload_n dL_law_627 rfl rfl ?_
  refine j_aload_n dL_law_628 rfl rfl ?_
  refine j_iload_n dL_law_629 rfl rfl ?_
  refine j_iconst (nI 1) dL_law_630 rfl ?_
  first | refine j_iaddN dL_law_631 ?_ | refine j_iadd dL_law_631 ?_
  refine j_sld dL_law_632 (by omega) hL ?_
  refine j_aload_n dL_law_633 rfl rfl ?_
  refine j_iload_n dL_law_634 rfl rfl ?_
  refine j_iconst (nI 2) dL_law_635 rfl ?_
  first | refine j_iaddN dL_law_636 ?_ | refine j_iadd dL_law_636 ?_
  refine j_sld dL_law_637 (by omega) hL ?_
  refine j_callV h6 dL_law_638 rfl mv_L_76 ho rfl ⟨(Nat.le_of_ble_eq_true rfl), (Nat.le_of_ble_eq_true rfl)⟩ ⟨(Nat.le_of_ble_eq_true rfl), (Nat.le_of_ble_eq_true rfl)⟩ (Nat.le_of_ble_eq_true rfl) ?_
  refine j_icmp_eq 1031 dL_law_641 (by decide) (fun b641 => ?_) (fun b641 => by exact absurd rfl b641)
  exact hn σ2 H2
theorem lc_fits (hL : L ≤ 3072) (hi : i + 6 ≤ L) (H : IV σ) (hn : ∀ σ2, IV σ2 → J G RL cL_law 4 ret (TL G b L xs) 184 σ2 184 6624 1031 [some (.ref (EXT + 400)), some (.ref 0), some (.ref 171), some (.int (nI i))] []) : J G RL cL_law 4 ret (TL G b L xs) 184 σ 184 6624 646 [some (.ref (EXT + 400)), some (.ref 0), some (.ref 171), some (.int (nI i))] [] := by
  obtain ⟨v, σ1, σ2, h5, h6, H2, fs, ho⟩ := IV_fits (G := G) (z := 184) H (xs (i + 1)) (xs (i + 2)) (xs (i + 3))
  obtain ⟨fs0, ho0⟩ := IV_0 H
  refine j_aload_n dL_law_646 rfl rfl ?_
  refine j_aload_n dL_law_647 rfl rfl ?_
  refine j_iload_n dL_law_648 rfl rfl ?_
  refine j_iconst (nI 1) dL_law_649 rfl ?_
  first | refine j_iaddN dL_law_650 ?_ | refine j_iadd dL_law_650 ?_
  refine j_sld dL_law_651 (by omega) hL ?_
  refine j_aload_n dL_law_652 rfl rfl ?_
  refine j_iload_n dL_law_653 rfl rfl ?_
  refine j_iconst (nI 2) dL_law_654 rfl ?_
  first | refine j_iaddN dL_law_655 ?_ | refine j_iadd dL_law_655 ?_
  refine j_sld dL_law_656 (by omega) hL ?_
  refine j_aload_n dL_law_657 rfl rfl ?_
  refine j_iload_n dL_law_658 rfl rfl ?_
  refine j_iconst (nI 3) dL_law_659 rfl ?_
  first | refine j_iaddN dL_law_660 ?_ | refine j_iadd dL_law_660 ?_
  refine j_sld dL_law_661 (by omega) hL ?_
  refine j_callV h5 dL_law_662 rfl mv_L_77 ho0 rfl ⟨(Nat.le_of_ble_eq_true rfl), (Nat.le_of_ble_eq_true rfl)⟩ ⟨(Nat.le_of_ble_eq_true rfl), (Nat.le_of_ble_eq_true rfl)⟩ (Nat.le_of_ble_eq_true rfl) ?_
  refine j_aload_n dL_law_665 rfl rfl ?_
  refine j_aload_n dL_law_666 rfl rfl ?_
  refine j_iload_n dL_law_667 rfl rfl ?_
  refine j_iconst (nI 1) dL_law_668 rfl ?_
  first | refine j_iaddN dL_law_669 ?_ | refine j_iadd dL_law_669 ?_
  refine j_sld dL_law_670 (by omega) hL ?_
  refine j_aload_n dL_law_671 rfl rfl ?_
  refine j_iload_n dL_law_672 rfl rfl ?_
  refine j_iconst (nI 2) dL_law_673 rfl ?_
  first | refine j_iaddN dL_law_674 ?_ | refine j_iadd dL_law_674 ?_
  refine j_sld dL_law_675 (by omega) hL ?_
  refine j_aload_n dL_law_676 rfl rfl ?_
  refine j_iload_n dL_law_677 rfl rfl ?_
  refine j_iconst (nI 3) dL_law_678 rfl ?_
  first | refine j_iaddN dL_law_679 ?_ | refine j_iadd dL_law_679 ?_
  refine j_sld dL_law_680 (by omega) hL ?_
  refine j_callV h6 dL_law_681 rfl mv_L_80 ho rfl ⟨(Nat.le_of_ble_eq_true rfl), (Nat.le_of_ble_eq_true rfl)⟩ ⟨(Nat.le_of_ble_eq_true rfl), (Nat.le_of_ble_eq_true rfl)⟩ (Nat.le_of_ble_eq_true rfl) ?_
  refine j_icmp_eq 1031 dL_law_684 (by decide) (fun b684 => ?_) (fun b684 => by exact absurd rfl b684)
  exact hn σ2 H2
theorem lc_hiding (hL : L ≤ 3072) (hi : i + 6 ≤ L) (H : IV σ) (hn : ∀ σ2, IV σ2 → J G RL cL_law 4 ret (TL G b L xs) 184 σ2 184 6624 1031 [some (.ref (EXT + 400)), some (.ref 0), some (.ref 171), some (.int (nI i))] []) : J G RL cL_law 4 ret (TL G b L xs) 184 σ 184 6624 689 [some (.ref (EXT + 400)), some (.ref 0), some (.ref 171), some (.int (nI i))] [] := by
  obtain ⟨v, σ1, σ2, h5, h6, H2, fs, ho⟩ := IV_hiding (G := G) (z := 184) H (xs (i + 1))
  obtain ⟨fs0, ho0⟩ := IV_0 H
  refine j_aload_n dL_law_689 rfl rfl ?_
  refine j_aload_n dL_law_690 rfl rfl ?_
  refine j_iload_n dL_law_691 rfl rfl ?_
  refine j_iconst (nI 1) dL_law_692 rfl ?_
  first | refine j_iaddN dL_law_693 ?_ | refine j_iadd dL_law_693 ?_
  refine j_sld dL_law_694 (by omega) hL ?_
  refine j_callV h5 dL_law_695 rfl mv_L_81 ho0 rfl ⟨(Nat.le_of_ble_eq_true rfl), (Nat.le_of_ble_eq_true rfl)⟩ ⟨(Nat.le_of_ble_eq_true rfl), (Nat.le_of_ble_eq_true rfl)⟩ (Nat.le_of_ble_eq_true rfl) ?_
  refine j_aload_n dL_law_698 rfl rfl ?_
  refine j_aload_n dL_law_699 rfl rfl ?_
  refine j_iload_n dL_law_700 rfl rfl ?_
  refine j_iconst (nI 1) dL_law_701 rfl ?_
  first | refine j_iaddN dL_law_702 ?_ | refine j_iadd dL_law_702 ?_
  refine j_sld dL_law_703 (by omega) hL ?_
  refine j_callV h6 dL_law_704 rfl mv_L_84 ho rfl ⟨(Nat.le_of_ble_eq_true rfl), (Nat.le_of_ble_eq_true rfl)⟩ ⟨(Nat.le_of_ble_eq_true rfl), (Nat.le_of_ble_eq_true rfl)⟩ (Nat.le_of_ble_eq_true rfl) ?_
  refine j_icmp_eq 1031 dL_law_707 (by decide) (fun b707 => ?_) (fun b707 => by exact absurd rfl b707)
  exact hn σ2 H2
theorem lc_clear (hL : L ≤ 3072) (hi : i + 6 ≤ L) (H : IV σ) (hn : ∀ σ2, IV σ2 → J G RL cL_law 4 ret (TL G b L xs) 184 σ2 184 6624 1031 [some (.ref (EXT + 400)), some (.ref 0), some (.ref 171), some (.int (nI i))] []) : J G RL cL_law 4 ret (TL G b L xs) 184 σ 184 6624 712 [some (.ref (EXT + 400)), some (.ref 0), some (.ref 171), some (.int (nI i))] [] := by
  obtain ⟨v, σ1, σ2, h5, h6, H2, fs, ho⟩ := IV_clear (G := G) (z := 184) H (xs (i + 1))
  obtain ⟨fs0, ho0⟩ := IV_0 H
  refine j_aload_n dL_law_712 rfl rfl ?_
  refine j_aload_n dL_law_713 rfl rfl ?_
  refine j_iload_n dL_law_714 rfl rfl ?_
  refine j_iconst (nI 1) dL_law_715 rfl ?_
  first | refine j_iaddN dL_law_716 ?_ | refine j_iadd dL_law_716 ?_
  refine j_sld dL_law_717 (by omega) hL ?_
  refine j_callV h5 dL_law_718 rfl mv_L_85 ho0 rfl ⟨(Nat.le_of_ble_eq_true rfl), (Nat.le_of_ble_eq_true rfl)⟩ ⟨(Nat.le_of_ble_eq_true rfl), (Nat.le_of_ble_eq_true rfl)⟩ (Nat.le_of_ble_eq_true rfl) ?_
  refine j_aload_n dL_law_721 rfl rfl ?_
  refine j_aload_n dL_law_722 rfl rfl ?_
  refine j_iload_n dL_law_723 rfl rfl ?_
  refine j_iconst (nI 1) dL_law_724 rfl ?_
  first | refine j_iaddN dL_law_725 ?_ | refine j_iadd dL_law_725 ?_
  refine j_sld dL_law_726 (by omega) hL ?_
  refine j_callV h6 dL_law_727 rfl mv_L_88 ho rfl ⟨(Nat.le_of_ble_eq_true rfl), (Nat.le_of_ble_eq_true rfl)⟩ ⟨(Nat.le_of_ble_eq_true rfl), (Nat.le_of_ble_eq_true rfl)⟩ (Nat.le_of_ble_eq_true rfl) ?_
  refine j_icmp_eq 1031 dL_law_730 (by decide) (fun b730 => ?_) (fun b730 => by exact absurd rfl b730)
  exact hn σ2 H2
theorem lc_coin (hL : L ≤ 3072) (hi : i + 6 ≤ L) (H : IV σ) (hn : ∀ σ2, IV σ2 → J G RL cL_law 4 ret (TL G b L xs) 184 σ2 184 6624 1031 [some (.ref (EXT + 400)), some (.ref 0), some (.ref 171), some (.int (nI i))] []) : J G RL cL_law 4 ret (TL G b L xs) 184 σ 184 6624 735 [some (.ref (EXT + 400)), some (.ref 0), some (.ref 171), some (.int (nI i))] [] := by
  obtain ⟨v, σ1, σ2, h5, h6, H2, fs, ho⟩ := IV_coin (G := G) (z := 184) H (xs (i + 1))
  obtain ⟨fs0, ho0⟩ := IV_0 H
  refine j_aload_n dL_law_735 rfl rfl ?_
  refine j_aload_n dL_law_736 rfl rfl ?_
  refine j_iload_n dL_law_737 rfl rfl ?_
  refine j_iconst (nI 1) dL_law_738 rfl ?_
  first | refine j_iaddN dL_law_739 ?_ | refine j_iadd dL_law_739 ?_
  refine j_sld dL_law_740 (by omega) hL ?_
  refine j_callV h5 dL_law_741 rfl mv_L_89 ho0 rfl ⟨(Nat.le_of_ble_eq_true rfl), (Nat.le_of_ble_eq_true rfl)⟩ ⟨(Nat.le_of_ble_eq_true rfl), (Nat.le_of_ble_eq_true rfl)⟩ (Nat.le_of_ble_eq_true rfl) ?_
  refine j_aload_n dL_law_744 rfl rfl ?_
  refine j_aload_n dL_law_745 rfl rfl ?_
  refine j_iload_n dL_law_746 rfl rfl ?_
  refine j_iconst (nI 1) dL_law_747 rfl ?_
  first | refine j_iaddN dL_law_748 ?_ | refine j_iadd dL_law_748 ?_
  refine j_sld dL_law_749 (by omega) hL ?_
  refine j_callV h6 dL_law_750 rfl mv_L_92 ho rfl ⟨(Nat.le_of_ble_eq_true rfl), (Nat.le_of_ble_eq_true rfl)⟩ ⟨(Nat.le_of_ble_eq_true rfl), (Nat.le_of_ble_eq_true rfl)⟩ (Nat.le_of_ble_eq_true rfl) ?_
  refine j_icmp_eq 1031 dL_law_753 (by decide) (fun b753 => ?_) (fun b753 => by exact absurd rfl b753)
  exact hn σ2 H2
theorem lc_run (hL : L ≤ 3072) (hi : i + 6 ≤ L) (H : IV σ) (hn : ∀ σ2, IV σ2 → J G RL cL_law 4 ret (TL G b L xs) 184 σ2 184 6624 1031 [some (.ref (EXT + 400)), some (.ref 0), some (.ref 171), some (.int (nI i))] []) : J G RL cL_law 4 ret (TL G b L xs) 184 σ 184 6624 758 [some (.ref (EXT + 400)), some (.ref 0), some (.ref 171), some (.int (nI i))] [] := by
  obtain ⟨v, σ1, σ2, h5, h6, H2, fs, ho⟩ := IV_run (G := G) (z := 184) H (xs (i + 1)) (xs (i + 2))
  obtain ⟨fs0, ho0⟩ := IV_0 H
  refine j_aload_n dL_law_758 rfl rfl ?_
  refine j_aload_n dL_law_759 rfl rfl ?_
  refine j_iload_n dL_law_760 rfl rfl ?_
  refine j_iconst (nI 1) dL_law_761 rfl ?_
  first | refine j_iaddN dL_law_762 ?_ | refine j_iadd dL_law_762 ?_
  refine j_sld dL_law_763 (by omega) hL ?_
  refine j_aload_n dL_law_764 rfl rfl ?_
  refine j_iload_n dL_law_765 rfl rfl ?_
  refine j_iconst (nI 2) dL_law_766 rfl ?_
  first | refine j_iaddN dL_law_767 ?_ | refine j_iadd dL_law_767 ?_
  refine j_sld dL_law_768 (by omega) hL ?_
  refine j_callV h5 dL_law_769 rfl mv_L_93 ho0 rfl ⟨(Nat.le_of_ble_eq_true rfl), (Nat.le_of_ble_eq_true rfl)⟩ ⟨(Nat.le_of_ble_eq_true rfl), (Nat.le_of_ble_eq_true rfl)⟩ (Nat.le_of_ble_eq_true rfl) ?_
  refine j_aload_n dL_law_772 rfl rfl ?_
  refine j_aload_n dL_law_773 rfl rfl ?_
  refine j_iload_n dL_law_774 rfl rfl ?_
  refine j_iconst (nI 1) dL_law_775 rfl ?_
  first | refine j_iaddN dL_law_776 ?_ | refine j_iadd dL_law_776 ?_
  refine j_sld dL_law_777 (by omega) hL ?_
  refine j_aload_n dL_law_778 rfl rfl ?_
  refine j_iload_n dL_law_779 rfl rfl ?_
  refine j_iconst (nI 2) dL_law_780 rfl ?_
  first | refine j_iaddN dL_law_781 ?_ | refine j_iadd dL_law_781 ?_
  refine j_sld dL_law_782 (by omega) hL ?_
  refine j_callV h6 dL_law_783 rfl mv_L_96 ho rfl ⟨(Nat.le_of_ble_eq_true rfl), (Nat.le_of_ble_eq_true rfl)⟩ ⟨(Nat.le_of_ble_eq_true rfl), (Nat.le_of_ble_eq_true rfl)⟩ (Nat.le_of_ble_eq_true rfl) ?_
  refine j_icmp_eq 1031 dL_law_786 (by decide) (fun b786 => ?_) (fun b786 => by exact absurd rfl b786)
  exact hn σ2 H2
theorem lc_cheats (hL : L ≤ 3072) (hi : i + 6 ≤ L) (H : IV σ) (hn : ∀ σ2, IV σ2 → J G RL cL_law 4 ret (TL G b L xs) 184 σ2 184 6624 1031 [some (.ref (EXT + 400)), some (.ref 0), some (.ref 171), some (.int (nI i))] []) : J G RL cL_law 4 ret (TL G b L xs) 184 σ 184 6624 791 [some (.ref (EXT + 400)), some (.ref 0), some (.ref 171), some (.int (nI i))] [] := by
  obtain ⟨v, σ1, σ2, h5, h6, H2, fs, ho⟩ := IV_cheats (G := G) (z := 184) H
  obtain ⟨fs0, ho0⟩ := IV_0 H
  refine j_aload_n dL_law_791 rfl rfl ?_
  refine j_callV h5 dL_law_792 rfl mv_L_97 ho0 rfl ⟨(Nat.le_of_ble_eq_true rfl), (Nat.le_of_ble_eq_true rfl)⟩ ⟨(Nat.le_of_ble_eq_true rfl), (Nat.le_of_ble_eq_true rfl)⟩ (Nat.le_of_ble_eq_true rfl) ?_
  refine j_aload_n dL_law_795 rfl rfl ?_
  refine j_callV h6 dL_law_796 rfl mv_L_100 ho rfl ⟨(Nat.le_of_ble_eq_true rfl), (Nat.le_of_ble_eq_true rfl)⟩ ⟨(Nat.le_of_ble_eq_true rfl), (Nat.le_of_ble_eq_true rfl)⟩ (Nat.le_of_ble_eq_true rfl) ?_
  refine j_icmp_eq 1031 dL_law_799 (by decide) (fun b799 => ?_) (fun b799 => by exact absurd rfl b799)
  exact hn σ2 H2
end LC
