theorem dL_law_647 : decode cL_law 647 = .ok (.aload_n 1, 1) := by decide +kernel
theorem dL_law_648 : decode cL_law 648 = .ok (.aload_n 0, 1) := by decide +kernel
theorem dL_law_649 : decode cL_law 649 = .ok (.iload_n 3, 1) := by decide +kernel
theorem dL_law_650 : decode cL_law 650 = .ok (.iconst 1, 1) := by decide +kernel
theorem dL_law_651 : decode cL_law 651 = .ok (.iadd, 1) := by decide +kernel
theorem dL_law_652 : decode cL_law 652 = .ok (.iaload, 1) := by decide +kernel
theorem dL_law_653 : decode cL_law 653 = .ok (.aload_n 0, 1) := by decide +kernel
theorem dL_law_654 : decode cL_law 654 = .ok (.iload_n 3, 1) := by decide +kernel
theorem dL_law_655 : decode cL_law 655 = .ok (.iconst 2, 1) := by decide +kernel
theorem dL_law_656 : decode cL_law 656 = .ok (.iadd, 1) := by decide +kernel
theorem dL_law_657 : decode cL_law 657 = .ok (.iaload, 1) := by decide +kernel
theorem dL_law_658 : decode cL_law 658 = .ok (.aload_n 0, 1) := by decide +kernel
theorem dL_law_659 : decode cL_law 659 = .ok (.iload_n 3, 1) := by decide +kernel
theorem dL_law_660 : decode cL_law 660 = .ok (.iconst 3, 1) := by decide +kernel
theorem dL_law_661 : decode cL_law 661 = .ok (.iadd, 1) := by decide +kernel
theorem dL_law_662 : decode cL_law 662 = .ok (.iaload, 1) := by decide +kernel
theorem dL_law_663 : decode cL_law 663 = .ok (.invokevirtual 85, 3) := by decide +kernel
theorem dL_law_666 : decode cL_law 666 = .ok (.pop, 1) := by decide +kernel
theorem dL_law_667 : decode cL_law 667 = .ok (.aload_n 2, 1) := by decide +kernel
theorem dL_law_668 : decode cL_law 668 = .ok (.aload_n 0, 1) := by decide +kernel
theorem dL_law_669 : decode cL_law 669 = .ok (.iload_n 3, 1) := by decide +kernel
theorem dL_law_670 : decode cL_law 670 = .ok (.iconst 1, 1) := by decide +kernel
theorem dL_law_671 : decode cL_law 671 = .ok (.iadd, 1) := by decide +kernel
theorem dL_law_672 : decode cL_law 672 = .ok (.iaload, 1) := by decide +kernel
theorem dL_law_673 : decode cL_law 673 = .ok (.aload_n 0, 1) := by decide +kernel
theorem dL_law_674 : decode cL_law 674 = .ok (.iload_n 3, 1) := by decide +kernel
theorem dL_law_675 : decode cL_law 675 = .ok (.iconst 2, 1) := by decide +kernel
theorem dL_law_676 : decode cL_law 676 = .ok (.iadd, 1) := by decide +kernel
theorem dL_law_677 : decode cL_law 677 = .ok (.iaload, 1) := by decide +kernel
theorem dL_law_678 : decode cL_law 678 = .ok (.aload_n 0, 1) := by decide +kernel
theorem dL_law_679 : decode cL_law 679 = .ok (.iload_n 3, 1) := by decide +kernel
theorem dL_law_680 : decode cL_law 680 = .ok (.iconst 3, 1) := by decide +kernel
theorem dL_law_681 : decode cL_law 681 = .ok (.iadd, 1) := by decide +kernel
theorem dL_law_682 : decode cL_law 682 = .ok (.iaload, 1) := by decide +kernel
theorem dL_law_683 : decode cL_law 683 = .ok (.invokevirtual 88, 3) := by decide +kernel
theorem dL_law_686 : decode cL_law 686 = .ok (.pop, 1) := by decide +kernel
theorem dL_law_687 : decode cL_law 687 = .ok (.goto 590, 3) := by decide +kernel
theorem dL_law_690 : decode cL_law 690 = .ok (.aload_n 1, 1) := by decide +kernel
theorem dL_law_691 : decode cL_law 691 = .ok (.aload_n 0, 1) := by decide +kernel
theorem dL_law_692 : decode cL_law 692 = .ok (.iload_n 3, 1) := by decide +kernel
theorem dL_law_693 : decode cL_law 693 = .ok (.iconst 1, 1) := by decide +kernel
theorem dL_law_694 : decode cL_law 694 = .ok (.iadd, 1) := by decide +kernel
theorem dL_law_695 : decode cL_law 695 = .ok (.iaload, 1) := by decide +kernel
theorem dL_law_696 : decode cL_law 696 = .ok (.aload_n 0, 1) := by decide +kernel
theorem dL_law_697 : decode cL_law 697 = .ok (.iload_n 3, 1) := by decide +kernel
theorem dL_law_698 : decode cL_law 698 = .ok (.iconst 2, 1) := by decide +kernel
theorem dL_law_699 : decode cL_law 699 = .ok (.iadd, 1) := by decide +kernel
theorem dL_law_700 : decode cL_law 700 = .ok (.iaload, 1) := by decide +kernel
theorem dL_law_701 : decode cL_law 701 = .ok (.aload_n 0, 1) := by decide +kernel
theorem dL_law_702 : decode cL_law 702 = .ok (.iload_n 3, 1) := by decide +kernel
theorem dL_law_703 : decode cL_law 703 = .ok (.iconst 3, 1) := by decide +kernel
theorem dL_law_704 : decode cL_law 704 = .ok (.iadd, 1) := by decide +kernel
theorem dL_law_705 : decode cL_law 705 = .ok (.iaload, 1) := by decide +kernel
theorem dL_law_706 : decode cL_law 706 = .ok (.aload_n 0, 1) := by decide +kernel
theorem dL_law_707 : decode cL_law 707 = .ok (.iload_n 3, 1) := by decide +kernel
theorem dL_law_708 : decode cL_law 708 = .ok (.iconst 4, 1) := by decide +kernel
theorem dL_law_709 : decode cL_law 709 = .ok (.iadd, 1) := by decide +kernel
theorem dL_law_710 : decode cL_law 710 = .ok (.iaload, 1) := by decide +kernel
theorem dL_law_711 : decode cL_law 711 = .ok (.invokevirtual 89, 3) := by decide +kernel
theorem dL_law_714 : decode cL_law 714 = .ok (.pop, 1) := by decide +kernel
theorem dL_law_715 : decode cL_law 715 = .ok (.aload_n 2, 1) := by decide +kernel
theorem dL_law_716 : decode cL_law 716 = .ok (.aload_n 0, 1) := by decide +kernel
theorem dL_law_717 : decode cL_law 717 = .ok (.iload_n 3, 1) := by decide +kernel
theorem dL_law_718 : decode cL_law 718 = .ok (.iconst 1, 1) := by decide +kernel
theorem dL_law_719 : decode cL_law 719 = .ok (.iadd, 1) := by decide +kernel
theorem dL_law_720 : decode cL_law 720 = .ok (.iaload, 1) := by decide +kernel
theorem dL_law_721 : decode cL_law 721 = .ok (.aload_n 0, 1) := by decide +kernel
theorem dL_law_722 : decode cL_law 722 = .ok (.iload_n 3, 1) := by decide +kernel
theorem dL_law_723 : decode cL_law 723 = .ok (.iconst 2, 1) := by decide +kernel
theorem dL_law_724 : decode cL_law 724 = .ok (.iadd, 1) := by decide +kernel
theorem dL_law_725 : decode cL_law 725 = .ok (.iaload, 1) := by decide +kernel
theorem dL_law_726 : decode cL_law 726 = .ok (.aload_n 0, 1) := by decide +kernel
theorem dL_law_727 : decode cL_law 727 = .ok (.iload_n 3, 1) := by decide +kernel
theorem dL_law_728 : decode cL_law 728 = .ok (.iconst 3, 1) := by decide +kernel
theorem dL_law_729 : decode cL_law 729 = .ok (.iadd, 1) := by decide +kernel
theorem dL_law_730 : decode cL_law 730 = .ok (.iaload, 1) := by decide +kernel
theorem dL_law_731 : decode cL_law 731 = .ok (.aload_n 0, 1) := by decide +kernel
theorem dL_law_732 : decode cL_law 732 = .ok (.iload_n 3, 1) := by decide +kernel
theorem dL_law_733 : decode cL_law 733 = .ok (.iconst 4, 1) := by decide +kernel
theorem dL_law_734 : decode cL_law 734 = .ok (.iadd, 1) := by decide +kernel
theorem dL_law_735 : decode cL_law 735 = .ok (.iaload, 1) := by decide +kernel
theorem dL_law_736 : decode cL_law 736 = .ok (.invokevirtual 93, 3) := by decide +kernel
theorem dL_law_739 : decode cL_law 739 = .ok (.pop, 1) := by decide +kernel
theorem dL_law_740 : decode cL_law 740 = .ok (.goto 537, 3) := by decide +kernel
theorem dL_law_743 : decode cL_law 743 = .ok (.aload_n 1, 1) := by decide +kernel
theorem dL_law_744 : decode cL_law 744 = .ok (.aload_n 0, 1) := by decide +kernel
theorem dL_law_745 : decode cL_law 745 = .ok (.iload_n 3, 1) := by decide +kernel
theorem dL_law_746 : decode cL_law 746 = .ok (.iconst 1, 1) := by decide +kernel
theorem dL_law_747 : decode cL_law 747 = .ok (.iadd, 1) := by decide +kernel
theorem dL_law_748 : decode cL_law 748 = .ok (.iaload, 1) := by decide +kernel
theorem dL_law_749 : decode cL_law 749 = .ok (.aload_n 0, 1) := by decide +kernel
theorem dL_law_750 : decode cL_law 750 = .ok (.iload_n 3, 1) := by decide +kernel
theorem dL_law_751 : decode cL_law 751 = .ok (.iconst 2, 1) := by decide +kernel
theorem dL_law_752 : decode cL_law 752 = .ok (.iadd, 1) := by decide +kernel
theorem dL_law_753 : decode cL_law 753 = .ok (.iaload, 1) := by decide +kernel
theorem dL_law_754 : decode cL_law 754 = .ok (.invokevirtual 94, 3) := by decide +kernel
theorem dL_law_757 : decode cL_law 757 = .ok (.pop, 1) := by decide +kernel
theorem dL_law_758 : decode cL_law 758 = .ok (.aload_n 2, 1) := by decide +kernel
theorem dL_law_759 : decode cL_law 759 = .ok (.aload_n 0, 1) := by decide +kernel
theorem dL_law_760 : decode cL_law 760 = .ok (.iload_n 3, 1) := by decide +kernel
theorem dL_law_761 : decode cL_law 761 = .ok (.iconst 1, 1) := by decide +kernel
theorem dL_law_762 : decode cL_law 762 = .ok (.iadd, 1) := by decide +kernel
theorem dL_law_763 : decode cL_law 763 = .ok (.iaload, 1) := by decide +kernel
theorem dL_law_764 : decode cL_law 764 = .ok (.aload_n 0, 1) := by decide +kernel
theorem dL_law_765 : decode cL_law 765 = .ok (.iload_n 3, 1) := by decide +kernel
theorem dL_law_766 : decode cL_law 766 = .ok (.iconst 2, 1) := by decide +kernel
theorem dL_law_767 : decode cL_law 767 = .ok (.iadd, 1) := by decide +kernel
theorem dL_law_768 : decode cL_law 768 = .ok (.iaload, 1) := by decide +kernel
theorem dL_law_769 : decode cL_law 769 = .ok (.invokevirtual 97, 3) := by decide +kernel
theorem dL_law_772 : decode cL_law 772 = .ok (.pop, 1) := by decide +kernel
theorem dL_law_773 : decode cL_law 773 = .ok (.goto 504, 3) := by decide +kernel
theorem dL_law_776 : decode cL_law 776 = .ok (.aload_n 1, 1) := by decide +kernel
theorem dL_law_777 : decode cL_law 777 = .ok (.aload_n 0, 1) := by decide +kernel
theorem dL_law_778 : decode cL_law 778 = .ok (.iload_n 3, 1) := by decide +kernel
theorem dL_law_779 : decode cL_law 779 = .ok (.iconst 1, 1) := by decide +kernel
theorem dL_law_780 : decode cL_law 780 = .ok (.iadd, 1) := by decide +kernel
theorem dL_law_781 : decode cL_law 781 = .ok (.iaload, 1) := by decide +kernel
theorem dL_law_782 : decode cL_law 782 = .ok (.invokevirtual 98, 3) := by decide +kernel
theorem dL_law_785 : decode cL_law 785 = .ok (.pop, 1) := by decide +kernel
theorem dL_law_786 : decode cL_law 786 = .ok (.aload_n 2, 1) := by decide +kernel
theorem dL_law_787 : decode cL_law 787 = .ok (.aload_n 0, 1) := by decide +kernel
theorem dL_law_788 : decode cL_law 788 = .ok (.iload_n 3, 1) := by decide +kernel
theorem dL_law_789 : decode cL_law 789 = .ok (.iconst 1, 1) := by decide +kernel
theorem dL_law_790 : decode cL_law 790 = .ok (.iadd, 1) := by decide +kernel
theorem dL_law_791 : decode cL_law 791 = .ok (.iaload, 1) := by decide +kernel
theorem dL_law_792 : decode cL_law 792 = .ok (.invokevirtual 101, 3) := by decide +kernel
theorem dL_law_795 : decode cL_law 795 = .ok (.pop, 1) := by decide +kernel
theorem dL_law_796 : decode cL_law 796 = .ok (.goto 481, 3) := by decide +kernel
theorem dL_law_799 : decode cL_law 799 = .ok (.aload_n 1, 1) := by decide +kernel
theorem dL_law_800 : decode cL_law 800 = .ok (.aload_n 0, 1) := by decide +kernel
theorem dL_law_801 : decode cL_law 801 = .ok (.iload_n 3, 1) := by decide +kernel
theorem dL_law_802 : decode cL_law 802 = .ok (.iconst 1, 1) := by decide +kernel
theorem dL_law_803 : decode cL_law 803 = .ok (.iadd, 1) := by decide +kernel
theorem dL_law_804 : decode cL_law 804 = .ok (.iaload, 1) := by decide +kernel
theorem dL_law_805 : decode cL_law 805 = .ok (.aload_n 0, 1) := by decide +kernel
theorem dL_law_806 : decode cL_law 806 = .ok (.iload_n 3, 1) := by decide +kernel
theorem dL_law_807 : decode cL_law 807 = .ok (.iconst 2, 1) := by decide +kernel
theorem dL_law_808 : decode cL_law 808 = .ok (.iadd, 1) := by decide +kernel
theorem dL_law_809 : decode cL_law 809 = .ok (.iaload, 1) := by decide +kernel
theorem dL_law_810 : decode cL_law 810 = .ok (.aload_n 0, 1) := by decide +kernel
theorem dL_law_811 : decode cL_law 811 = .ok (.iload_n 3, 1) := by decide +kernel
theorem dL_law_812 : decode cL_law 812 = .ok (.iconst 3, 1) := by decide +kernel
theorem dL_law_813 : decode cL_law 813 = .ok (.iadd, 1) := by decide +kernel
theorem dL_law_814 : decode cL_law 814 = .ok (.iaload, 1) := by decide +kernel
theorem dL_law_815 : decode cL_law 815 = .ok (.aload_n 0, 1) := by decide +kernel
theorem dL_law_816 : decode cL_law 816 = .ok (.iload_n 3, 1) := by decide +kernel
theorem dL_law_817 : decode cL_law 817 = .ok (.iconst 4, 1) := by decide +kernel
theorem dL_law_818 : decode cL_law 818 = .ok (.iadd, 1) := by decide +kernel
theorem dL_law_819 : decode cL_law 819 = .ok (.iaload, 1) := by decide +kernel
theorem dL_law_820 : decode cL_law 820 = .ok (.aload_n 0, 1) := by decide +kernel
theorem dL_law_821 : decode cL_law 821 = .ok (.iload_n 3, 1) := by decide +kernel
theorem dL_law_822 : decode cL_law 822 = .ok (.iconst 5, 1) := by decide +kernel
theorem dL_law_823 : decode cL_law 823 = .ok (.iadd, 1) := by decide +kernel
theorem dL_law_824 : decode cL_law 824 = .ok (.iaload, 1) := by decide +kernel
theorem dL_law_825 : decode cL_law 825 = .ok (.invokevirtual 102, 3) := by decide +kernel
theorem dL_law_828 : decode cL_law 828 = .ok (.pop, 1) := by decide +kernel
theorem dL_law_829 : decode cL_law 829 = .ok (.aload_n 2, 1) := by decide +kernel
theorem dL_law_830 : decode cL_law 830 = .ok (.aload_n 0, 1) := by decide +kernel
theorem dL_law_831 : decode cL_law 831 = .ok (.iload_n 3, 1) := by decide +kernel
theorem dL_law_832 : decode cL_law 832 = .ok (.iconst 1, 1) := by decide +kernel
theorem dL_law_833 : decode cL_law 833 = .ok (.iadd, 1) := by decide +kernel
theorem dL_law_834 : decode cL_law 834 = .ok (.iaload, 1) := by decide +kernel
theorem dL_law_835 : decode cL_law 835 = .ok (.aload_n 0, 1) := by decide +kernel
theorem dL_law_836 : decode cL_law 836 = .ok (.iload_n 3, 1) := by decide +kernel
theorem dL_law_837 : decode cL_law 837 = .ok (.iconst 2, 1) := by decide +kernel
theorem dL_law_838 : decode cL_law 838 = .ok (.iadd, 1) := by decide +kernel
theorem dL_law_839 : decode cL_law 839 = .ok (.iaload, 1) := by decide +kernel
theorem dL_law_840 : decode cL_law 840 = .ok (.aload_n 0, 1) := by decide +kernel
theorem dL_law_841 : decode cL_law 841 = .ok (.iload_n 3, 1) := by decide +kernel
theorem dL_law_842 : decode cL_law 842 = .ok (.iconst 3, 1) := by decide +kernel
theorem dL_law_843 : decode cL_law 843 = .ok (.iadd, 1) := by decide +kernel
theorem dL_law_844 : decode cL_law 844 = .ok (.iaload, 1) := by decide +kernel
theorem dL_law_845 : decode cL_law 845 = .ok (.aload_n 0, 1) := by decide +kernel
theorem dL_law_846 : decode cL_law 846 = .ok (.iload_n 3, 1) := by decide +kernel
theorem dL_law_847 : decode cL_law 847 = .ok (.iconst 4, 1) := by decide +kernel
theorem dL_law_848 : decode cL_law 848 = .ok (.iadd, 1) := by decide +kernel
theorem dL_law_849 : decode cL_law 849 = .ok (.iaload, 1) := by decide +kernel
theorem dL_law_850 : decode cL_law 850 = .ok (.aload_n 0, 1) := by decide +kernel
theorem dL_law_851 : decode cL_law 851 = .ok (.iload_n 3, 1) := by decide +kernel
theorem dL_law_852 : decode cL_law 852 = .ok (.iconst 5, 1) := by decide +kernel
theorem dL_law_853 : decode cL_law 853 = .ok (.iadd, 1) := by decide +kernel
theorem dL_law_854 : decode cL_law 854 = .ok (.iaload, 1) := by decide +kernel
theorem dL_law_855 : decode cL_law 855 = .ok (.invokevirtual 106, 3) := by decide +kernel
theorem dL_law_858 : decode cL_law 858 = .ok (.pop, 1) := by decide +kernel
theorem dL_law_859 : decode cL_law 859 = .ok (.goto 418, 3) := by decide +kernel
section LC
variable {p : Program} {l : Launch} {e : Env} {s : State} {m : MethodId} {below : List Frame} {meth : Method} {c : Code} {b L : Nat} {xs : Nat → Int32} {X : EX} {K : SK} {h0 m0 zi : Nat} {H : Heap} {locs : List Loc} {ls : Array Slot} {Q : State → Prop}
theorem hdV_X10_close : yX10_close.cls = RX10 ∧ yX10_close.cls ≠ "java/lang/invoke/MethodHandle" ∧ yX10_close.cls ≠ "java/lang/invoke/VarHandle" ∧ (parseMethodDescriptor yX10_close.desc).map (fun d => d.parameters.length) = some 3 := by decide +kernel
theorem hdV_X11_close : yX11_close.cls = RX11 ∧ yX11_close.cls ≠ "java/lang/invoke/MethodHandle" ∧ yX11_close.cls ≠ "java/lang/invoke/VarHandle" ∧ (parseMethodDescriptor yX11_close.desc).map (fun d => d.parameters.length) = some 3 := by decide +kernel
set_option maxRecDepth 100000 in
set_option maxHeartbeats 8000000 in
theorem lc_17 (S : CallFix p m c cL_law 4 s #[Value.ref b] wsL_law RL) (hX : va_X b L xs s s.heap) (hbl : b < s.heap.size) (hL : L ≤ 3072) (hzi : zi + 6 ≤ L) (hZ : sE K (fun q : Nat => s.heap.size ≤ q) s s.heap) (hW : LW X h0 m0 s H locs) (hl : lv_has ls 4 [(3, .int (nI zi)), (2, .ref m0), (1, .ref h0), (0, .ref b)]) (kk : ∀ (H : Heap) (locs : List Loc) (ls : Array Slot), LW X h0 m0 s H locs → lv_has ls 4 [(3, .int (nI zi)), (2, .ref m0), (1, .ref h0), (0, .ref b)] → W p l e room_1 s m #[Value.ref b] below meth c H locs 94 3522 Q (F0 m 1277 ls [])) : W p l e room_1 s m #[Value.ref b] below meth c H locs 94 3522 Q (F0 m 647 ls []) := by
  have zx := S.1
  have zb := S.2.1
  have hbA : ¬ (fun q : Nat => s.heap.size ≤ q) b := Nat.not_le.mpr hbl
  refine LW_e hW (fun nw sp xa la lb an sv dv n0 n1 n2 n3 n4 g0 gs gn gm ap svp dvp n0p n1p n2p n3p n4p g0p gsp gnp gmp i0 i1 ai svi dvi n0i n1i n2i n3i n4i g0i gsi gni gmi aj svj dvj n0j n1j n2j n3j n4j g0j gsj gnj gmj fz hb n bd vd fd fr ag dg ar dr hc tm tf vo da gd fk ma lc ld t vt fa u4 fK u5 u6 fR fh d0 d1 d2 d3 d4 fg ft fb fw w0 w1 w2 w3 w4 fv hIV hRL G => ?_)
  obtain ⟨hR0, hR1, hR2⟩ := hRL
  obtain ⟨hI_n0, hI_n1, hI_n2, hI_n3, hI_n4, hI_n0p, hI_n1p, hI_n2p, hI_n3p, hI_n4p, hI_n0i, hI_n1i, hI_n2i, hI_n3i, hI_n4i, hI_n0j, hI_n1j, hI_n2j, hI_n3j, hI_n4j, hI_n, hI_bd, hI_t, hI_fa, hI_fK, hI_fh, hI_fw⟩ := hIV
  have hO_bd := hI_bd
  obtain ⟨hd0_bd, hd1_bd⟩ := hO_bd
  have hO_t := hI_t
  obtain ⟨ht0_t, ht1_t⟩ := hO_t
  have hO_fa := hI_fa.2
  obtain ⟨hm0_fa, hm1_fa, hm2_fa, hm3_fa, hm4_fa⟩ := hO_fa
  have hO_fh := hI_fh.2
  obtain ⟨hm0_fh, hm1_fh, hm2_fh, hm3_fh, hm4_fh⟩ := hO_fh
  have hO_fw := hI_fw.2
  obtain ⟨hm0_fw, hm1_fw, hm2_fw, hm3_fw, hm4_fw⟩ := hO_fw
  refine lv_aload_n zx zb dL_law_647 rfl (lv_at hl 2 rfl) ?_
  refine lv_aload_n zx zb dL_law_648 rfl (lv_at hl 3 rfl) ?_
  refine lv_iload_n zx zb dL_law_649 rfl (lv_at hl 0 rfl) ?_
  refine lv_iconst (v := 1) zx zb dL_law_650 (by decide) ?_
  refine r_iadd (v := (nI (zi + 1))) S (nI_add zi 1) dL_law_651 ?_
  refine va_sld zx zb hX hbl hbA G.2.2.2.1 (vp_in_nI (by omega) (by omega)) dL_law_652 ?_
  refine k_it (v := xs (zi + 1)) (congrArg xs (nI_clamp (by omega))) ?_
  refine lv_aload_n zx zb dL_law_653 rfl (lv_at hl 3 rfl) ?_
  refine lv_iload_n zx zb dL_law_654 rfl (lv_at hl 0 rfl) ?_
  refine lv_iconst (v := 2) zx zb dL_law_655 (by decide) ?_
  refine r_iadd (v := (nI (zi + 2))) S (nI_add zi 2) dL_law_656 ?_
  refine va_sld zx zb hX hbl hbA G.2.2.2.1 (vp_in_nI (by omega) (by omega)) dL_law_657 ?_
  refine k_it (v := xs (zi + 2)) (congrArg xs (nI_clamp (by omega))) ?_
  refine lv_aload_n zx zb dL_law_658 rfl (lv_at hl 3 rfl) ?_
  refine lv_iload_n zx zb dL_law_659 rfl (lv_at hl 0 rfl) ?_
  refine lv_iconst (v := 3) zx zb dL_law_660 (by decide) ?_
  refine r_iadd (v := (nI (zi + 3))) S (nI_add zi 3) dL_law_661 ?_
  refine va_sld zx zb hX hbl hbA G.2.2.2.1 (vp_in_nI (by omega) (by omega)) dL_law_662 ?_
  refine k_it (v := xs (zi + 3)) (congrArg xs (nI_clamp (by omega))) ?_
  refine b_wi (cells' := 94) (slots' := 3522) (wr := @HAppend.hAppend va_W va_W va_W _ (rcV X sp ap svp dvp n0p n1p n2p n3p n4p g0p gsp gnp gmp) (@HAppend.hAppend va_W va_W va_W _ ([((xa 2), .inl (X.2.2.2.1, 2, .inr (.inr (.inr (.inr (imQ i0 i1))))))]) (@HAppend.hAppend va_W va_W va_W _ (rcV X i0 ai svi dvi n0i n1i n2i n3i n4i g0i gsi gni gmi) (@HAppend.hAppend va_W va_W va_W _ (rcV X i1 aj svj dvj n0j n1j n2j n3j n4j g0j gsj gnj gmj) (@HAppend.hAppend va_W va_W va_W _ ([((xa 3), .inl (X.2.2.1, 2, .inl fz))]) (@HAppend.hAppend va_W va_W va_W _ (rdV X (xa 4) hb n bd vd fd) (@HAppend.hAppend va_W va_W va_W _ ([((xa 10), .inr (7, [.ref hc, .int tm])), (hc, .inl (X.2.1, 16, .inl tf))]) (@HAppend.hAppend va_W va_W va_W _ (odW (xa 11) vo) (@HAppend.hAppend va_W va_W va_W _ (duW X (xa 12) da gd) (@HAppend.hAppend va_W va_W va_W _ ([((xa 13), .inl (X.2.1, 6, .inl fk))]) (@HAppend.hAppend va_W va_W va_W _ (mW m0 ma lc ld n t vt) (@HAppend.hAppend va_W va_W va_W _ ([((ma 0), .inl (X.2.1, 371, .inl fa))]) (@HAppend.hAppend va_W va_W va_W _ ([((ma 1), .inl (X.2.1, 742, .inl fK))]) (@HAppend.hAppend va_W va_W va_W _ ([((ma 2), .inl (X.2.2.1, 2, .inl fz))]) (@HAppend.hAppend va_W va_W va_W _ ([((ma 3), .inl (X.2.1, 3, .inl fR))]) (@HAppend.hAppend va_W va_W va_W _ ([((ma 6), .inl (X.2.1, 55, .inl fh))]) (@HAppend.hAppend va_W va_W va_W _ ([((ma 7), .inl (X.2.1, 6, .inl fg))]) (@HAppend.hAppend va_W va_W va_W _ ([((ma 8), .inl (X.2.1, 10, .inl ft))]) (@HAppend.hAppend va_W va_W va_W _ ([((ma 9), .inl (X.2.1, 20, .inl fb))]) (@HAppend.hAppend va_W va_W va_W _ ([((ma 10), .inl (X.2.1, 150, .inl fd))]) (@HAppend.hAppend va_W va_W va_W _ ([((ma 16), .inl (X.2.1, 123, .inl fw))]) ([((ma 17), .inl (X.2.1, 3, .inl fv))])))))))))))))))))))))) G rfl rfl [0, 1, 2, 3, 4, 5, 6, 7, 8, 9, 10, 11, 12, 13, 14, 15, 16, 70, 71, 69] [17, 18, 19, 20, 21, 22, 23, 24, 25, 26, 27, 28, 29, 30, 31, 32, 33, 34, 35, 36, 37, 38, 39, 40, 41, 42, 43, 44, 45, 46, 47, 48, 49, 50, 51, 52, 53, 54, 55, 56, 57, 58, 59, 60, 61, 62, 63, 64, 65, 66, 67, 68, 72, 73, 74, 75, 76, 77, 78, 79, 80, 81, 82, 83, 84, 85, 86, 87, 88, 89, 90, 91, 92, 93] rfl rfl rfl rfl (n_V (As := [.int (xs (zi + 1)), .int (xs (zi + 2)), .int (xs (zi + 3))]) (rest := []) (C := RX10) (T := TX10) (N := 14) (ci := 8) S G (s_close l X h0 nw sp xa la lb an sv dv n0 n1 n2 n3 n4 g0 gs gn gm ag dg ar dr fr (xs (zi + 1)) (xs (zi + 2)) (xs (zi + 3)) hI_n0 hI_n1 hI_n2 hI_n3 hI_n4 H.size) gL_law_X10_close rfl rfl rfl hdV_X10_close ⟨Nat.le_of_ble_eq_true rfl, Nat.le_of_ble_eq_true rfl⟩ [0, 1, 2, 3, 4, 5, 6, 7, 8, 9, 10, 11, 12, 13, 14, 15, 16, 70, 71, 69] rfl rfl 0 rfl rfl rfl hl.1 (Nat.le_of_ble_eq_true rfl) dL_law_663 ⟨Nat.le_of_ble_eq_true rfl, Nat.le_of_ble_eq_true rfl⟩) (fun r_1 u_1 H locs hp_1 G => ?_)
  obtain ⟨a_1a, d_1b, a_1c, d_1d, f_1e⟩ := u_1
  have hq_1 := hp_1
  refine lv_pop zx zb dL_law_666 rfl ?_
  refine lv_aload_n zx zb dL_law_667 rfl (lv_at hl 1 rfl) ?_
  refine lv_aload_n zx zb dL_law_668 rfl (lv_at hl 3 rfl) ?_
  refine lv_iload_n zx zb dL_law_669 rfl (lv_at hl 0 rfl) ?_
  refine lv_iconst (v := 1) zx zb dL_law_670 (by decide) ?_
  refine r_iadd (v := (nI (zi + 1))) S (nI_add zi 1) dL_law_671 ?_
  refine va_sld zx zb hX hbl hbA G.2.2.2.1 (vp_in_nI (by omega) (by omega)) dL_law_672 ?_
  refine k_it (v := xs (zi + 1)) (congrArg xs (nI_clamp (by omega))) ?_
  refine lv_aload_n zx zb dL_law_673 rfl (lv_at hl 3 rfl) ?_
  refine lv_iload_n zx zb dL_law_674 rfl (lv_at hl 0 rfl) ?_
  refine lv_iconst (v := 2) zx zb dL_law_675 (by decide) ?_
  refine r_iadd (v := (nI (zi + 2))) S (nI_add zi 2) dL_law_676 ?_
  refine va_sld zx zb hX hbl hbA G.2.2.2.1 (vp_in_nI (by omega) (by omega)) dL_law_677 ?_
  refine k_it (v := xs (zi + 2)) (congrArg xs (nI_clamp (by omega))) ?_
  refine lv_aload_n zx zb dL_law_678 rfl (lv_at hl 3 rfl) ?_
  refine lv_iload_n zx zb dL_law_679 rfl (lv_at hl 0 rfl) ?_
  refine lv_iconst (v := 3) zx zb dL_law_680 (by decide) ?_
  refine r_iadd (v := (nI (zi + 3))) S (nI_add zi 3) dL_law_681 ?_
  refine va_sld zx zb hX hbl hbA G.2.2.2.1 (vp_in_nI (by omega) (by omega)) dL_law_682 ?_
  refine k_it (v := xs (zi + 3)) (congrArg xs (nI_clamp (by omega))) ?_
  refine b_wi (cells' := 94) (slots' := 3522) (wr := @HAppend.hAppend va_W va_W va_W _ (rcV X sp ap svp dvp n0p n1p n2p n3p n4p g0p gsp gnp gmp) (@HAppend.hAppend va_W va_W va_W _ ([((xa 2), .inl (X.2.2.2.1, 2, .inr (.inr (.inr (.inr (imQ i0 i1))))))]) (@HAppend.hAppend va_W va_W va_W _ (rcV X i0 ai svi dvi n0i n1i n2i n3i n4i g0i gsi gni gmi) (@HAppend.hAppend va_W va_W va_W _ (rcV X i1 aj svj dvj n0j n1j n2j n3j n4j g0j gsj gnj gmj) (@HAppend.hAppend va_W va_W va_W _ ([((xa 3), .inl (X.2.2.1, 2, .inl fz))]) (@HAppend.hAppend va_W va_W va_W _ (rdV X (xa 4) hb n bd vd fd) (@HAppend.hAppend va_W va_W va_W _ ([((xa 10), .inr (7, [.ref hc, .int tm])), (hc, .inl (X.2.1, 16, .inl tf))]) (@HAppend.hAppend va_W va_W va_W _ (odW (xa 11) vo) (@HAppend.hAppend va_W va_W va_W _ (duW X (xa 12) da gd) (@HAppend.hAppend va_W va_W va_W _ ([((xa 13), .inl (X.2.1, 6, .inl fk))]) (@HAppend.hAppend va_W va_W va_W _ ([((ma 1), .inl (X.2.1, 742, .inl fK))]) (@HAppend.hAppend va_W va_W va_W _ ([((ma 2), .inl (X.2.2.1, 2, .inl fz))]) (@HAppend.hAppend va_W va_W va_W _ ([((ma 7), .inl (X.2.1, 6, .inl fg))]) (@HAppend.hAppend va_W va_W va_W _ ([((ma 8), .inl (X.2.1, 10, .inl ft))]) (@HAppend.hAppend va_W va_W va_W _ ([((ma 9), .inl (X.2.1, 20, .inl fb))]) (@HAppend.hAppend va_W va_W va_W _ ([((ma 10), .inl (X.2.1, 150, .inl fd))]) (@HAppend.hAppend va_W va_W va_W _ ([((ma 16), .inl (X.2.1, 123, .inl fw))]) (@HAppend.hAppend va_W va_W va_W _ ([((ma 17), .inl (X.2.1, 3, .inl fv))]) (@HAppend.hAppend va_W va_W va_W _ (xW h0 nw sp xa la lb) (@HAppend.hAppend va_W va_W va_W _ (rcV X nw an sv dv n0 n1 n2 n3 n4 g0 gs gn gm) (@HAppend.hAppend va_W va_W va_W _ (rnV (xa 8) a_1a d_1b) (@HAppend.hAppend va_W va_W va_W _ (rnV (xa 9) a_1c d_1d) ([((xa 5), .inl (X.2.1, 3, .inl f_1e))]))))))))))))))))))))))) G rfl rfl [62, 63, 67, 66] [0, 1, 2, 3, 4, 5, 6, 7, 8, 9, 10, 11, 12, 13, 14, 15, 16, 17, 18, 19, 20, 21, 22, 23, 24, 25, 26, 27, 28, 29, 30, 31, 32, 33, 34, 35, 36, 37, 38, 39, 40, 41, 42, 43, 44, 45, 46, 47, 48, 49, 50, 51, 52, 53, 54, 55, 56, 57, 58, 59, 60, 61, 64, 65, 68, 69, 70, 71, 72, 73, 74, 75, 76, 77, 78, 79, 80, 81, 82, 83, 84, 85, 86, 87, 88, 89, 90, 91, 92, 93] rfl rfl rfl rfl (n_V (As := [.int (xs (zi + 1)), .int (xs (zi + 2)), .int (xs (zi + 3))]) (rest := []) (C := RX11) (T := TX11) (N := 18) (ci := 9) S G (m_close l X m0 ma lc ld n t vt fa n0 n2 n3 n4 u4 fh d0 d1 d2 d3 d4 fR (xs (zi + 1)) (xs (zi + 2)) (xs (zi + 3)) hI_n hI_t hI_fa hI_fh H.size) gL_law_X11_close rfl rfl rfl hdV_X11_close ⟨Nat.le_of_ble_eq_true rfl, Nat.le_of_ble_eq_true rfl⟩ [62, 63, 67, 66] rfl rfl 62 rfl rfl rfl hl.1 (Nat.le_of_ble_eq_true rfl) dL_law_683 ⟨Nat.le_of_ble_eq_true rfl, Nat.le_of_ble_eq_true rfl⟩) (fun r_2 u_2 H locs hp_2 G => ?_)
  obtain ⟨f_2a, c0_2b, c1_2c, c2_2d, c3_2e, c4_2f, f_2g⟩ := u_2
  try dsimp only at hp_2
  obtain ⟨hI_f_2a, hq_2⟩ := hp_2
  have hO_f_2a := hI_f_2a.2
  obtain ⟨hm0_f_2a, hm1_f_2a, hm2_f_2a, hm3_f_2a, hm4_f_2a⟩ := hO_f_2a
  refine lv_pop zx zb dL_law_686 rfl ?_
  refine lv_goto (tgt := 1277) zx zb dL_law_687 (by decide) ?_
  have G : wd X (fun q : Nat => s.heap.size ≤ q) (fun q : Nat => s.heap.size ≤ q) s (@HAppend.hAppend va_W va_W va_W _ (xW h0 nw sp xa la lb) (@HAppend.hAppend va_W va_W va_W _ (rcV X nw an sv dv n0 n1 n2 n3 n4 g0 gs gn gm) (@HAppend.hAppend va_W va_W va_W _ (rcV X sp ap svp dvp n0p n1p n2p n3p n4p g0p gsp gnp gmp) (@HAppend.hAppend va_W va_W va_W _ ([((xa 2), .inl (X.2.2.2.1, 2, .inr (.inr (.inr (.inr (imQ i0 i1))))))]) (@HAppend.hAppend va_W va_W va_W _ (rcV X i0 ai svi dvi n0i n1i n2i n3i n4i g0i gsi gni gmi) (@HAppend.hAppend va_W va_W va_W _ (rcV X i1 aj svj dvj n0j n1j n2j n3j n4j g0j gsj gnj gmj) (@HAppend.hAppend va_W va_W va_W _ ([((xa 3), .inl (X.2.2.1, 2, .inl fz))]) (@HAppend.hAppend va_W va_W va_W _ (rdV X (xa 4) hb n bd vd fd) (@HAppend.hAppend va_W va_W va_W _ ([((xa 5), .inl (X.2.1, 3, .inl f_1e))]) (@HAppend.hAppend va_W va_W va_W _ (rnV (xa 8) a_1a d_1b) (@HAppend.hAppend va_W va_W va_W _ (rnV (xa 9) a_1c d_1d) (@HAppend.hAppend va_W va_W va_W _ ([((xa 10), .inr (7, [.ref hc, .int tm])), (hc, .inl (X.2.1, 16, .inl tf))]) (@HAppend.hAppend va_W va_W va_W _ (odW (xa 11) vo) (@HAppend.hAppend va_W va_W va_W _ (duW X (xa 12) da gd) (@HAppend.hAppend va_W va_W va_W _ ([((xa 13), .inl (X.2.1, 6, .inl fk))]) (@HAppend.hAppend va_W va_W va_W _ (mW m0 ma lc ld n t vt) (@HAppend.hAppend va_W va_W va_W _ ([((ma 0), .inl (X.2.1, 371, .inl fa))]) (@HAppend.hAppend va_W va_W va_W _ ([((ma 1), .inl (X.2.1, 742, .inl fK))]) (@HAppend.hAppend va_W va_W va_W _ ([((ma 2), .inl (X.2.2.1, 2, .inl fz))]) (@HAppend.hAppend va_W va_W va_W _ ([((ma 3), .inl (X.2.1, 3, .inl f_2g))]) (@HAppend.hAppend va_W va_W va_W _ ([((ma 6), .inl (X.2.1, 55, .inl f_2a))]) (@HAppend.hAppend va_W va_W va_W _ ([((ma 7), .inl (X.2.1, 6, .inl fg))]) (@HAppend.hAppend va_W va_W va_W _ ([((ma 8), .inl (X.2.1, 10, .inl ft))]) (@HAppend.hAppend va_W va_W va_W _ ([((ma 9), .inl (X.2.1, 20, .inl fb))]) (@HAppend.hAppend va_W va_W va_W _ ([((ma 10), .inl (X.2.1, 150, .inl fd))]) (@HAppend.hAppend va_W va_W va_W _ ([((ma 16), .inl (X.2.1, 123, .inl fw))]) ([((ma 17), .inl (X.2.1, 3, .inl fv))]))))))))))))))))))))))))))) H locs := wd_sub G [70, 71, 72, 73, 74, 75, 76, 77, 78, 79, 80, 81, 82, 83, 84, 85, 86, 0, 1, 2, 3, 4, 5, 6, 7, 8, 9, 10, 11, 12, 13, 14, 15, 16, 17, 18, 19, 20, 21, 22, 23, 24, 25, 26, 27, 28, 29, 30, 31, 32, 33, 34, 35, 36, 37, 38, 39, 40, 41, 42, 43, 44, 45, 46, 47, 48, 49, 50, 51, 89, 87, 88, 52, 53, 54, 55, 56, 57, 58, 59, 60, 61, 90, 91, 62, 63, 93, 92, 64, 65, 66, 67, 68, 69] rfl rfl
  exact kk _ _ _ (LW_i nw sp xa la lb an sv dv n0 n1 n2 n3 n4 g0 gs gn gm ap svp dvp n0p n1p n2p n3p n4p g0p gsp gnp gmp i0 i1 ai svi dvi n0i n1i n2i n3i n4i g0i gsi gni gmi aj svj dvj n0j n1j n2j n3j n4j g0j gsj gnj gmj fz hb n bd vd fd f_1e a_1a d_1b a_1c d_1d hc tm tf vo da gd fk ma lc ld t vt fa u4 fK u5 u6 f_2g f_2a c0_2b c1_2c c2_2d c3_2e c4_2f fg ft fb fw w0 w1 w2 w3 w4 fv ⟨hI_n0, hI_n1, hI_n2, hI_n3, hI_n4, hI_n0p, hI_n1p, hI_n2p, hI_n3p, hI_n4p, hI_n0i, hI_n1i, hI_n2i, hI_n3i, hI_n4i, hI_n0j, hI_n1j, hI_n2j, hI_n3j, hI_n4j, hI_n, hI_bd, hI_t, hI_fa, hI_fK, hI_f_2a, hI_fw⟩ ⟨hR0, hR1, hR2⟩ G) hl
theorem hdV_X10_seen : yX10_seen.cls = RX10 ∧ yX10_seen.cls ≠ "java/lang/invoke/MethodHandle" ∧ yX10_seen.cls ≠ "java/lang/invoke/VarHandle" ∧ (parseMethodDescriptor yX10_seen.desc).map (fun d => d.parameters.length) = some 4 := by decide +kernel
theorem hdV_X11_seen : yX11_seen.cls = RX11 ∧ yX11_seen.cls ≠ "java/lang/invoke/MethodHandle" ∧ yX11_seen.cls ≠ "java/lang/invoke/VarHandle" ∧ (parseMethodDescriptor yX11_seen.desc).map (fun d => d.parameters.length) = some 4 := by decide +kernel
set_option maxRecDepth 100000 in
set_option maxHeartbeats 8000000 in
theorem lc_18 (S : CallFix p m c cL_law 4 s #[Value.ref b] wsL_law RL) (hX : va_X b L xs s s.heap) (hbl : b < s.heap.size) (hL : L ≤ 3072) (hzi : zi + 6 ≤ L) (hZ : sE K (fun q : Nat => s.heap.size ≤ q) s s.heap) (hW : LW X h0 m0 s H locs) (hl : lv_has ls 4 [(3, .int (nI zi)), (2, .ref m0), (1, .ref h0), (0, .ref b)]) (kk : ∀ (H : Heap) (locs : List Loc) (ls : Array Slot), LW X h0 m0 s H locs → lv_has ls 4 [(3, .int (nI zi)), (2, .ref m0), (1, .ref h0), (0, .ref b)] → W p l e room_1 s m #[Value.ref b] below meth c H locs 94 3522 Q (F0 m 1277 ls [])) : W p l e room_1 s m #[Value.ref b] below meth c H locs 94 3522 Q (F0 m 690 ls []) := by
  have zx := S.1
  have zb := S.2.1
  have hbA : ¬ (fun q : Nat => s.heap.size ≤ q) b := Nat.not_le.mpr hbl
  refine LW_e hW (fun nw sp xa la lb an sv dv n0 n1 n2 n3 n4 g0 gs gn gm ap svp dvp n0p n1p n2p n3p n4p g0p gsp gnp gmp i0 i1 ai svi dvi n0i n1i n2i n3i n4i g0i gsi gni gmi aj svj dvj n0j n1j n2j n3j n4j g0j gsj gnj gmj fz hb n bd vd fd fr ag dg ar dr hc tm tf vo da gd fk ma lc ld t vt fa u4 fK u5 u6 fR fh d0 d1 d2 d3 d4 fg ft fb fw w0 w1 w2 w3 w4 fv hIV hRL G => ?_)
  obtain ⟨hR0, hR1, hR2⟩ := hRL
  obtain ⟨hI_n0, hI_n1, hI_n2, hI_n3, hI_n4, hI_n0p, hI_n1p, hI_n2p, hI_n3p, hI_n4p, hI_n0i, hI_n1i, hI_n2i, hI_n3i, hI_n4i, hI_n0j, hI_n1j, hI_n2j, hI_n3j, hI_n4j, hI_n, hI_bd, hI_t, hI_fa, hI_fK, hI_fh, hI_fw⟩ := hIV
  have hO_bd := hI_bd
  obtain ⟨hd0_bd, hd1_bd⟩ := hO_bd
  have hO_t := hI_t
  obtain ⟨ht0_t, ht1_t⟩ := hO_t
  have hO_fa := hI_fa.2
  obtain ⟨hm0_fa, hm1_fa, hm2_fa, hm3_fa, hm4_fa⟩ := hO_fa
  have hO_fh := hI_fh.2
  obtain ⟨hm0_fh, hm1_fh, hm2_fh, hm3_fh, hm4_fh⟩ := hO_fh
  have hO_fw := hI_fw.2
  obtain ⟨hm0_fw, hm1_fw, hm2_fw, hm3_fw, hm4_fw⟩ := hO_fw
  refine lv_aload_n zx zb dL_law_690 rfl (lv_at hl 2 rfl) ?_
  refine lv_aload_n zx zb dL_law_691 rfl (lv_at hl 3 rfl) ?_
  refine lv_iload_n zx zb dL_law_692 rfl (lv_at hl 0 rfl) ?_
  refine lv_iconst (v := 1) zx zb dL_law_693 (by decide) ?_
  refine r_iadd (v := (nI (zi + 1))) S (nI_add zi 1) dL_law_694 ?_
  refine va_sld zx zb hX hbl hbA G.2.2.2.1 (vp_in_nI (by omega) (by omega)) dL_law_695 ?_
  refine k_it (v := xs (zi + 1)) (congrArg xs (nI_clamp (by omega))) ?_
  refine lv_aload_n zx zb dL_law_696 rfl (lv_at hl 3 rfl) ?_
  refine lv_iload_n zx zb dL_law_697 rfl (lv_at hl 0 rfl) ?_
  refine lv_iconst (v := 2) zx zb dL_law_698 (by decide) ?_
  refine r_iadd (v := (nI (zi + 2))) S (nI_add zi 2) dL_law_699 ?_
  refine va_sld zx zb hX hbl hbA G.2.2.2.1 (vp_in_nI (by omega) (by omega)) dL_law_700 ?_
  refine k_it (v := xs (zi + 2)) (congrArg xs (nI_clamp (by omega))) ?_
  refine lv_aload_n zx zb dL_law_701 rfl (lv_at hl 3 rfl) ?_
  refine lv_iload_n zx zb dL_law_702 rfl (lv_at hl 0 rfl) ?_
  refine lv_iconst (v := 3) zx zb dL_law_703 (by decide) ?_
  refine r_iadd (v := (nI (zi + 3))) S (nI_add zi 3) dL_law_704 ?_
  refine va_sld zx zb hX hbl hbA G.2.2.2.1 (vp_in_nI (by omega) (by omega)) dL_law_705 ?_
  refine k_it (v := xs (zi + 3)) (congrArg xs (nI_clamp (by omega))) ?_
  refine lv_aload_n zx zb dL_law_706 rfl (lv_at hl 3 rfl) ?_
  refine lv_iload_n zx zb dL_law_707 rfl (lv_at hl 0 rfl) ?_
  refine lv_iconst (v := 4) zx zb dL_law_708 (by decide) ?_
  refine r_iadd (v := (nI (zi + 4))) S (nI_add zi 4) dL_law_709 ?_
  refine va_sld zx zb hX hbl hbA G.2.2.2.1 (vp_in_nI (by omega) (by omega)) dL_law_710 ?_
  refine k_it (v := xs (zi + 4)) (congrArg xs (nI_clamp (by omega))) ?_
  refine b_wi (cells' := 94) (slots' := 3522) (wr := @HAppend.hAppend va_W va_W va_W _ (rcV X sp ap svp dvp n0p n1p n2p n3p n4p g0p gsp gnp gmp) (@HAppend.hAppend va_W va_W va_W _ ([((xa 2), .inl (X.2.2.2.1, 2, .inr (.inr (.inr (.inr (imQ i0 i1))))))]) (@HAppend.hAppend va_W va_W va_W _ (rcV X i0 ai svi dvi n0i n1i n2i n3i n4i g0i gsi gni gmi) (@HAppend.hAppend va_W va_W va_W _ (rcV X i1 aj svj dvj n0j n1j n2j n3j n4j g0j gsj gnj gmj) (@HAppend.hAppend va_W va_W va_W _ ([((xa 3), .inl (X.2.2.1, 2, .inl fz))]) (@HAppend.hAppend va_W va_W va_W _ (rdV X (xa 4) hb n bd vd fd) (@HAppend.hAppend va_W va_W va_W _ (rnV (xa 8) ag dg) (@HAppend.hAppend va_W va_W va_W _ (rnV (xa 9) ar dr) (@HAppend.hAppend va_W va_W va_W _ ([((xa 10), .inr (7, [.ref hc, .int tm])), (hc, .inl (X.2.1, 16, .inl tf))]) (@HAppend.hAppend va_W va_W va_W _ (odW (xa 11) vo) (@HAppend.hAppend va_W va_W va_W _ (duW X (xa 12) da gd) (@HAppend.hAppend va_W va_W va_W _ ([((xa 13), .inl (X.2.1, 6, .inl fk))]) (@HAppend.hAppend va_W va_W va_W _ (mW m0 ma lc ld n t vt) (@HAppend.hAppend va_W va_W va_W _ ([((ma 0), .inl (X.2.1, 371, .inl fa))]) (@HAppend.hAppend va_W va_W va_W _ ([((ma 1), .inl (X.2.1, 742, .inl fK))]) (@HAppend.hAppend va_W va_W va_W _ ([((ma 2), .inl (X.2.2.1, 2, .inl fz))]) (@HAppend.hAppend va_W va_W va_W _ ([((ma 3), .inl (X.2.1, 3, .inl fR))]) (@HAppend.hAppend va_W va_W va_W _ ([((ma 6), .inl (X.2.1, 55, .inl fh))]) (@HAppend.hAppend va_W va_W va_W _ ([((ma 7), .inl (X.2.1, 6, .inl fg))]) (@HAppend.hAppend va_W va_W va_W _ ([((ma 8), .inl (X.2.1, 10, .inl ft))]) (@HAppend.hAppend va_W va_W va_W _ ([((ma 9), .inl (X.2.1, 20, .inl fb))]) (@HAppend.hAppend va_W va_W va_W _ ([((ma 10), .inl (X.2.1, 150, .inl fd))]) (@HAppend.hAppend va_W va_W va_W _ ([((ma 16), .inl (X.2.1, 123, .inl fw))]) ([((ma 17), .inl (X.2.1, 3, .inl fv))])))))))))))))))))))))))) G rfl rfl [0, 1, 2, 3, 4, 5, 6, 7, 8, 9, 10, 11, 12, 13, 14, 15, 16, 69] [17, 18, 19, 20, 21, 22, 23, 24, 25, 26, 27, 28, 29, 30, 31, 32, 33, 34, 35, 36, 37, 38, 39, 40, 41, 42, 43, 44, 45, 46, 47, 48, 49, 50, 51, 52, 53, 54, 55, 56, 57, 58, 59, 60, 61, 62, 63, 64, 65, 66, 67, 68, 70, 71, 72, 73, 74, 75, 76, 77, 78, 79, 80, 81, 82, 83, 84, 85, 86, 87, 88, 89, 90, 91, 92, 93] rfl rfl rfl rfl (n_V (As := [.int (xs (zi + 1)), .int (xs (zi + 2)), .int (xs (zi + 3)), .int (xs (zi + 4))]) (rest := []) (C := RX10) (T := TX10) (N := 14) (ci := 8) S G (x_seen l X h0 nw sp xa la lb an sv dv n0 n1 n2 n3 n4 g0 gs gn gm fr (xs (zi + 1)) (xs (zi + 2)) (xs (zi + 3)) (xs (zi + 4)) hI_n0 hI_n1 hI_n2 hI_n3 hI_n4 H.size) gL_law_X10_seen rfl rfl rfl hdV_X10_seen ⟨Nat.le_of_ble_eq_true rfl, Nat.le_of_ble_eq_true rfl⟩ [0, 1, 2, 3, 4, 5, 6, 7, 8, 9, 10, 11, 12, 13, 14, 15, 16, 69] rfl rfl 0 rfl rfl rfl hl.1 (Nat.le_of_ble_eq_true rfl) dL_law_711 ⟨Nat.le_of_ble_eq_true rfl, Nat.le_of_ble_eq_true rfl⟩) (fun r_1 u_1 H locs hp_1 G => ?_)
  obtain ⟨n2_1a, gs_1b, f_1c⟩ := u_1
  try dsimp only at hp_1
  obtain ⟨hI_n2_1a, hq_1⟩ := hp_1
  refine lv_pop zx zb dL_law_714 rfl ?_
  refine lv_aload_n zx zb dL_law_715 rfl (lv_at hl 1 rfl) ?_
  refine lv_aload_n zx zb dL_law_716 rfl (lv_at hl 3 rfl) ?_
  refine lv_iload_n zx zb dL_law_717 rfl (lv_at hl 0 rfl) ?_
  refine lv_iconst (v := 1) zx zb dL_law_718 (by decide) ?_
  refine r_iadd (v := (nI (zi + 1))) S (nI_add zi 1) dL_law_719 ?_
  refine va_sld zx zb hX hbl hbA G.2.2.2.1 (vp_in_nI (by omega) (by omega)) dL_law_720 ?_
  refine k_it (v := xs (zi + 1)) (congrArg xs (nI_clamp (by omega))) ?_
  refine lv_aload_n zx zb dL_law_721 rfl (lv_at hl 3 rfl) ?_
  refine lv_iload_n zx zb dL_law_722 rfl (lv_at hl 0 rfl) ?_
  refine lv_iconst (v := 2) zx zb dL_law_723 (by decide) ?_
  refine r_iadd (v := (nI (zi + 2))) S (nI_add zi 2) dL_law_724 ?_
  refine va_sld zx zb hX hbl hbA G.2.2.2.1 (vp_in_nI (by omega) (by omega)) dL_law_725 ?_
  refine k_it (v := xs (zi + 2)) (congrArg xs (nI_clamp (by omega))) ?_
  refine lv_aload_n zx zb dL_law_726 rfl (lv_at hl 3 rfl) ?_
  refine lv_iload_n zx zb dL_law_727 rfl (lv_at hl 0 rfl) ?_
  refine lv_iconst (v := 3) zx zb dL_law_728 (by decide) ?_
  refine r_iadd (v := (nI (zi + 3))) S (nI_add zi 3) dL_law_729 ?_
  refine va_sld zx zb hX hbl hbA G.2.2.2.1 (vp_in_nI (by omega) (by omega)) dL_law_730 ?_
  refine k_it (v := xs (zi + 3)) (congrArg xs (nI_clamp (by omega))) ?_
  refine lv_aload_n zx zb dL_law_731 rfl (lv_at hl 3 rfl) ?_
  refine lv_iload_n zx zb dL_law_732 rfl (lv_at hl 0 rfl) ?_
  refine lv_iconst (v := 4) zx zb dL_law_733 (by decide) ?_
  refine r_iadd (v := (nI (zi + 4))) S (nI_add zi 4) dL_law_734 ?_
  refine va_sld zx zb hX hbl hbA G.2.2.2.1 (vp_in_nI (by omega) (by omega)) dL_law_735 ?_
  refine k_it (v := xs (zi + 4)) (congrArg xs (nI_clamp (by omega))) ?_
  refine b_wi (cells' := 94) (slots' := 3522) (wr := @HAppend.hAppend va_W va_W va_W _ (rcV X sp ap svp dvp n0p n1p n2p n3p n4p g0p gsp gnp gmp) (@HAppend.hAppend va_W va_W va_W _ ([((xa 2), .inl (X.2.2.2.1, 2, .inr (.inr (.inr (.inr (imQ i0 i1))))))]) (@HAppend.hAppend va_W va_W va_W _ (rcV X i0 ai svi dvi n0i n1i n2i n3i n4i g0i gsi gni gmi) (@HAppend.hAppend va_W va_W va_W _ (rcV X i1 aj svj dvj n0j n1j n2j n3j n4j g0j gsj gnj gmj) (@HAppend.hAppend va_W va_W va_W _ ([((xa 3), .inl (X.2.2.1, 2, .inl fz))]) (@HAppend.hAppend va_W va_W va_W _ (rdV X (xa 4) hb n bd vd fd) (@HAppend.hAppend va_W va_W va_W _ (rnV (xa 8) ag dg) (@HAppend.hAppend va_W va_W va_W _ (rnV (xa 9) ar dr) (@HAppend.hAppend va_W va_W va_W _ ([((xa 10), .inr (7, [.ref hc, .int tm])), (hc, .inl (X.2.1, 16, .inl tf))]) (@HAppend.hAppend va_W va_W va_W _ (odW (xa 11) vo) (@HAppend.hAppend va_W va_W va_W _ (duW X (xa 12) da gd) (@HAppend.hAppend va_W va_W va_W _ ([((xa 13), .inl (X.2.1, 6, .inl fk))]) (@HAppend.hAppend va_W va_W va_W _ ([((ma 1), .inl (X.2.1, 742, .inl fK))]) (@HAppend.hAppend va_W va_W va_W _ ([((ma 2), .inl (X.2.2.1, 2, .inl fz))]) (@HAppend.hAppend va_W va_W va_W _ ([((ma 6), .inl (X.2.1, 55, .inl fh))]) (@HAppend.hAppend va_W va_W va_W _ ([((ma 7), .inl (X.2.1, 6, .inl fg))]) (@HAppend.hAppend va_W va_W va_W _ ([((ma 8), .inl (X.2.1, 10, .inl ft))]) (@HAppend.hAppend va_W va_W va_W _ ([((ma 9), .inl (X.2.1, 20, .inl fb))]) (@HAppend.hAppend va_W va_W va_W _ ([((ma 10), .inl (X.2.1, 150, .inl fd))]) (@HAppend.hAppend va_W va_W va_W _ ([((ma 16), .inl (X.2.1, 123, .inl fw))]) (@HAppend.hAppend va_W va_W va_W _ ([((ma 17), .inl (X.2.1, 3, .inl fv))]) (@HAppend.hAppend va_W va_W va_W _ (xW h0 nw sp xa la lb) (@HAppend.hAppend va_W va_W va_W _ (rcV X nw an sv dv n0 n1 n2_1a n3 n4 g0 gs_1b gn gm) ([((xa 5), .inl (X.2.1, 3, .inl f_1c))])))))))))))))))))))))))) G rfl rfl [64, 65, 68] [0, 1, 2, 3, 4, 5, 6, 7, 8, 9, 10, 11, 12, 13, 14, 15, 16, 17, 18, 19, 20, 21, 22, 23, 24, 25, 26, 27, 28, 29, 30, 31, 32, 33, 34, 35, 36, 37, 38, 39, 40, 41, 42, 43, 44, 45, 46, 47, 48, 49, 50, 51, 52, 53, 54, 55, 56, 57, 58, 59, 60, 61, 62, 63, 66, 67, 69, 70, 71, 72, 73, 74, 75, 76, 77, 78, 79, 80, 81, 82, 83, 84, 85, 86, 87, 88, 89, 90, 91, 92, 93] rfl rfl rfl rfl (n_V (As := [.int (xs (zi + 1)), .int (xs (zi + 2)), .int (xs (zi + 3)), .int (xs (zi + 4))]) (rest := []) (C := RX11) (T := TX11) (N := 18) (ci := 9) S G (y_seen l X m0 ma lc ld n t vt fa n0 n2 n3 n4 u4 fR (xs (zi + 1)) (xs (zi + 2)) (xs (zi + 3)) (xs (zi + 4)) hI_n hI_t hI_fa H.size) gL_law_X11_seen rfl rfl rfl hdV_X11_seen ⟨Nat.le_of_ble_eq_true rfl, Nat.le_of_ble_eq_true rfl⟩ [64, 65, 68] rfl rfl 64 rfl rfl rfl hl.1 (Nat.le_of_ble_eq_true rfl) dL_law_736 ⟨Nat.le_of_ble_eq_true rfl, Nat.le_of_ble_eq_true rfl⟩) (fun r_2 u_2 H locs hp_2 G => ?_)
  obtain ⟨f_2a, c1_2b, f_2c⟩ := u_2
  try dsimp only at hp_2
  obtain ⟨hI_f_2a, hq_2⟩ := hp_2
  have hO_f_2a := hI_f_2a.2
  obtain ⟨hm0_f_2a, hm1_f_2a, hm2_f_2a, hm3_f_2a, hm4_f_2a⟩ := hO_f_2a
  have hEQ := (apgF_rn hq_1).trans (apgF_rn hq_2).symm
  have hN0 : REL n0 n2_1a n3 n4 sv gs_1b gn gm f_2a := REL_seen hR0 (by omega) (by omega) (by omega) (by omega) hq_1 hq_2
  have hEA : r_1 = r_2 := congrArg (fun z => z.1) hEQ
  refine lv_pop zx zb dL_law_739 rfl ?_
  refine lv_goto (tgt := 1277) zx zb dL_law_740 (by decide) ?_
  obtain rfl : n2_1a = c1_2b := congrArg (fun z => z.2) hEQ
  have G : wd X (fun q : Nat => s.heap.size ≤ q) (fun q : Nat => s.heap.size ≤ q) s (@HAppend.hAppend va_W va_W va_W _ (xW h0 nw sp xa la lb) (@HAppend.hAppend va_W va_W va_W _ (rcV X nw an sv dv n0 n1 n2_1a n3 n4 g0 gs_1b gn gm) (@HAppend.hAppend va_W va_W va_W _ (rcV X sp ap svp dvp n0p n1p n2p n3p n4p g0p gsp gnp gmp) (@HAppend.hAppend va_W va_W va_W _ ([((xa 2), .inl (X.2.2.2.1, 2, .inr (.inr (.inr (.inr (imQ i0 i1))))))]) (@HAppend.hAppend va_W va_W va_W _ (rcV X i0 ai svi dvi n0i n1i n2i n3i n4i g0i gsi gni gmi) (@HAppend.hAppend va_W va_W va_W _ (rcV X i1 aj svj dvj n0j n1j n2j n3j n4j g0j gsj gnj gmj) (@HAppend.hAppend va_W va_W va_W _ ([((xa 3), .inl (X.2.2.1, 2, .inl fz))]) (@HAppend.hAppend va_W va_W va_W _ (rdV X (xa 4) hb n bd vd fd) (@HAppend.hAppend va_W va_W va_W _ ([((xa 5), .inl (X.2.1, 3, .inl f_1c))]) (@HAppend.hAppend va_W va_W va_W _ (rnV (xa 8) ag dg) (@HAppend.hAppend va_W va_W va_W _ (rnV (xa 9) ar dr) (@HAppend.hAppend va_W va_W va_W _ ([((xa 10), .inr (7, [.ref hc, .int tm])), (hc, .inl (X.2.1, 16, .inl tf))]) (@HAppend.hAppend va_W va_W va_W _ (odW (xa 11) vo) (@HAppend.hAppend va_W va_W va_W _ (duW X (xa 12) da gd) (@HAppend.hAppend va_W va_W va_W _ ([((xa 13), .inl (X.2.1, 6, .inl fk))]) (@HAppend.hAppend va_W va_W va_W _ (mW m0 ma lc ld n t vt) (@HAppend.hAppend va_W va_W va_W _ ([((ma 0), .inl (X.2.1, 371, .inl f_2a))]) (@HAppend.hAppend va_W va_W va_W _ ([((ma 1), .inl (X.2.1, 742, .inl fK))]) (@HAppend.hAppend va_W va_W va_W _ ([((ma 2), .inl (X.2.2.1, 2, .inl fz))]) (@HAppend.hAppend va_W va_W va_W _ ([((ma 3), .inl (X.2.1, 3, .inl f_2c))]) (@HAppend.hAppend va_W va_W va_W _ ([((ma 6), .inl (X.2.1, 55, .inl fh))]) (@HAppend.hAppend va_W va_W va_W _ ([((ma 7), .inl (X.2.1, 6, .inl fg))]) (@HAppend.hAppend va_W va_W va_W _ ([((ma 8), .inl (X.2.1, 10, .inl ft))]) (@HAppend.hAppend va_W va_W va_W _ ([((ma 9), .inl (X.2.1, 20, .inl fb))]) (@HAppend.hAppend va_W va_W va_W _ ([((ma 10), .inl (X.2.1, 150, .inl fd))]) (@HAppend.hAppend va_W va_W va_W _ ([((ma 16), .inl (X.2.1, 123, .inl fw))]) ([((ma 17), .inl (X.2.1, 3, .inl fv))]))))))))))))))))))))))))))) H locs := wd_sub G [73, 74, 75, 76, 77, 78, 79, 80, 81, 82, 83, 84, 85, 86, 87, 88, 89, 0, 1, 2, 3, 4, 5, 6, 7, 8, 9, 10, 11, 12, 13, 14, 15, 16, 17, 18, 19, 20, 21, 22, 23, 24, 25, 26, 27, 28, 29, 30, 31, 32, 33, 34, 35, 36, 37, 38, 39, 40, 41, 42, 43, 44, 45, 46, 47, 48, 49, 50, 51, 90, 52, 53, 54, 55, 56, 57, 58, 59, 60, 61, 62, 63, 91, 92, 64, 65, 93, 66, 67, 68, 69, 70, 71, 72] rfl rfl
  exact kk _ _ _ (LW_i nw sp xa la lb an sv dv n0 n1 n2_1a n3 n4 g0 gs_1b gn gm ap svp dvp n0p n1p n2p n3p n4p g0p gsp gnp gmp i0 i1 ai svi dvi n0i n1i n2i n3i n4i g0i gsi gni gmi aj svj dvj n0j n1j n2j n3j n4j g0j gsj gnj gmj fz hb n bd vd fd f_1c ag dg ar dr hc tm tf vo da gd fk ma lc ld t vt f_2a u4 fK u5 u6 f_2c fh d0 d1 d2 d3 d4 fg ft fb fw w0 w1 w2 w3 w4 fv ⟨hI_n0, hI_n1, hI_n2_1a, hI_n3, hI_n4, hI_n0p, hI_n1p, hI_n2p, hI_n3p, hI_n4p, hI_n0i, hI_n1i, hI_n2i, hI_n3i, hI_n4i, hI_n0j, hI_n1j, hI_n2j, hI_n3j, hI_n4j, hI_n, hI_bd, hI_t, hI_f_2a, hI_fK, hI_fh, hI_fw⟩ ⟨hN0, hR1, hR2⟩ G) hl
theorem hdV_X10_strong : yX10_strong.cls = RX10 ∧ yX10_strong.cls ≠ "java/lang/invoke/MethodHandle" ∧ yX10_strong.cls ≠ "java/lang/invoke/VarHandle" ∧ (parseMethodDescriptor yX10_strong.desc).map (fun d => d.parameters.length) = some 2 := by decide +kernel
theorem hdV_X11_strong : yX11_strong.cls = RX11 ∧ yX11_strong.cls ≠ "java/lang/invoke/MethodHandle" ∧ yX11_strong.cls ≠ "java/lang/invoke/VarHandle" ∧ (parseMethodDescriptor yX11_strong.desc).map (fun d => d.parameters.length) = some 2 := by decide +kernel
set_option maxRecDepth 100000 in
set_option maxHeartbeats 8000000 in
theorem lc_19 (S : CallFix p m c cL_law 4 s #[Value.ref b] wsL_law RL) (hX : va_X b L xs s s.heap) (hbl : b < s.heap.size) (hL : L ≤ 3072) (hzi : zi + 6 ≤ L) (hZ : sE K (fun q : Nat => s.heap.size ≤ q) s s.heap) (hW : LW X h0 m0 s H locs) (hl : lv_has ls 4 [(3, .int (nI zi)), (2, .ref m0), (1, .ref h0), (0, .ref b)]) (kk : ∀ (H : Heap) (locs : List Loc) (ls : Array Slot), LW X h0 m0 s H locs → lv_has ls 4 [(3, .int (nI zi)), (2, .ref m0), (1, .ref h0), (0, .ref b)] → W p l e room_1 s m #[Value.ref b] below meth c H locs 94 3522 Q (F0 m 1277 ls [])) : W p l e room_1 s m #[Value.ref b] below meth c H locs 94 3522 Q (F0 m 743 ls []) := by
  have zx := S.1
  have zb := S.2.1
  have hbA : ¬ (fun q : Nat => s.heap.size ≤ q) b := Nat.not_le.mpr hbl
  refine LW_e hW (fun nw sp xa la lb an sv dv n0 n1 n2 n3 n4 g0 gs gn gm ap svp dvp n0p n1p n2p n3p n4p g0p gsp gnp gmp i0 i1 ai svi dvi n0i n1i n2i n3i n4i g0i gsi gni gmi aj svj dvj n0j n1j n2j n3j n4j g0j gsj gnj gmj fz hb n bd vd fd fr ag dg ar dr hc tm tf vo da gd fk ma lc ld t vt fa u4 fK u5 u6 fR fh d0 d1 d2 d3 d4 fg ft fb fw w0 w1 w2 w3 w4 fv hIV hRL G => ?_)
  obtain ⟨hR0, hR1, hR2⟩ := hRL
  obtain ⟨hI_n0, hI_n1, hI_n2, hI_n3, hI_n4, hI_n0p, hI_n1p, hI_n2p, hI_n3p, hI_n4p, hI_n0i, hI_n1i, hI_n2i, hI_n3i, hI_n4i, hI_n0j, hI_n1j, hI_n2j, hI_n3j, hI_n4j, hI_n, hI_bd, hI_t, hI_fa, hI_fK, hI_fh, hI_fw⟩ := hIV
  have hO_bd := hI_bd
  obtain ⟨hd0_bd, hd1_bd⟩ := hO_bd
  have hO_t := hI_t
  obtain ⟨ht0_t, ht1_t⟩ := hO_t
  have hO_fa := hI_fa.2
  obtain ⟨hm0_fa, hm1_fa, hm2_fa, hm3_fa, hm4_fa⟩ := hO_fa
  have hO_fh := hI_fh.2
  obtain ⟨hm0_fh, hm1_fh, hm2_fh, hm3_fh, hm4_fh⟩ := hO_fh
  have hO_fw := hI_fw.2
  obtain ⟨hm0_fw, hm1_fw, hm2_fw, hm3_fw, hm4_fw⟩ := hO_fw
  refine lv_aload_n zx zb dL_law_743 rfl (lv_at hl 2 rfl) ?_
  refine lv_aload_n zx zb dL_law_744 rfl (lv_at hl 3 rfl) ?_
  refine lv_iload_n zx zb dL_law_745 rfl (lv_at hl 0 rfl) ?_
  refine lv_iconst (v := 1) zx zb dL_law_746 (by decide) ?_
  refine r_iadd (v := (nI (zi + 1))) S (nI_add zi 1) dL_law_747 ?_
  refine va_sld zx zb hX hbl hbA G.2.2.2.1 (vp_in_nI (by omega) (by omega)) dL_law_748 ?_
  refine k_it (v := xs (zi + 1)) (congrArg xs (nI_clamp (by omega))) ?_
  refine lv_aload_n zx zb dL_law_749 rfl (lv_at hl 3 rfl) ?_
  refine lv_iload_n zx zb dL_law_750 rfl (lv_at hl 0 rfl) ?_
  refine lv_iconst (v := 2) zx zb dL_law_751 (by decide) ?_
  refine r_iadd (v := (nI (zi + 2))) S (nI_add zi 2) dL_law_752 ?_
  refine va_sld zx zb hX hbl hbA G.2.2.2.1 (vp_in_nI (by omega) (by omega)) dL_law_753 ?_
  refine k_it (v := xs (zi + 2)) (congrArg xs (nI_clamp (by omega))) ?_
  refine b_wi (cells' := 94) (slots' := 3522) (wr := @HAppend.hAppend va_W va_W va_W _ (rcV X sp ap svp dvp n0p n1p n2p n3p n4p g0p gsp gnp gmp) (@HAppend.hAppend va_W va_W va_W _ ([((xa 2), .inl (X.2.2.2.1, 2, .inr (.inr (.inr (.inr (imQ i0 i1))))))]) (@HAppend.hAppend va_W va_W va_W _ (rcV X i0 ai svi dvi n0i n1i n2i n3i n4i g0i gsi gni gmi) (@HAppend.hAppend va_W va_W va_W _ (rcV X i1 aj svj dvj n0j n1j n2j n3j n4j g0j gsj gnj gmj) (@HAppend.hAppend va_W va_W va_W _ ([((xa 3), .inl (X.2.2.1, 2, .inl fz))]) (@HAppend.hAppend va_W va_W va_W _ (rdV X (xa 4) hb n bd vd fd) (@HAppend.hAppend va_W va_W va_W _ (rnV (xa 8) ag dg) (@HAppend.hAppend va_W va_W va_W _ (rnV (xa 9) ar dr) (@HAppend.hAppend va_W va_W va_W _ ([((xa 10), .inr (7, [.ref hc, .int tm])), (hc, .inl (X.2.1, 16, .inl tf))]) (@HAppend.hAppend va_W va_W va_W _ (odW (xa 11) vo) (@HAppend.hAppend va_W va_W va_W _ (duW X (xa 12) da gd) (@HAppend.hAppend va_W va_W va_W _ ([((xa 13), .inl (X.2.1, 6, .inl fk))]) (@HAppend.hAppend va_W va_W va_W _ (mW m0 ma lc ld n t vt) (@HAppend.hAppend va_W va_W va_W _ ([((ma 0), .inl (X.2.1, 371, .inl fa))]) (@HAppend.hAppend va_W va_W va_W _ ([((ma 1), .inl (X.2.1, 742, .inl fK))]) (@HAppend.hAppend va_W va_W va_W _ ([((ma 2), .inl (X.2.2.1, 2, .inl fz))]) (@HAppend.hAppend va_W va_W va_W _ ([((ma 3), .inl (X.2.1, 3, .inl fR))]) (@HAppend.hAppend va_W va_W va_W _ ([((ma 6), .inl (X.2.1, 55, .inl fh))]) (@HAppend.hAppend va_W va_W va_W _ ([((ma 7), .inl (X.2.1, 6, .inl fg))]) (@HAppend.hAppend va_W va_W va_W _ ([((ma 8), .inl (X.2.1, 10, .inl ft))]) (@HAppend.hAppend va_W va_W va_W _ ([((ma 9), .inl (X.2.1, 20, .inl fb))]) (@HAppend.hAppend va_W va_W va_W _ ([((ma 10), .inl (X.2.1, 150, .inl fd))]) (@HAppend.hAppend va_W va_W va_W _ ([((ma 16), .inl (X.2.1, 123, .inl fw))]) ([((ma 17), .inl (X.2.1, 3, .inl fv))])))))))))))))))))))))))) G rfl rfl [0, 1, 2, 3, 4, 5, 6, 7, 8, 9, 10, 11, 12, 13, 14, 15, 16, 69] [17, 18, 19, 20, 21, 22, 23, 24, 25, 26, 27, 28, 29, 30, 31, 32, 33, 34, 35, 36, 37, 38, 39, 40, 41, 42, 43, 44, 45, 46, 47, 48, 49, 50, 51, 52, 53, 54, 55, 56, 57, 58, 59, 60, 61, 62, 63, 64, 65, 66, 67, 68, 70, 71, 72, 73, 74, 75, 76, 77, 78, 79, 80, 81, 82, 83, 84, 85, 86, 87, 88, 89, 90, 91, 92, 93] rfl rfl rfl rfl (n_V (As := [.int (xs (zi + 1)), .int (xs (zi + 2))]) (rest := []) (C := RX10) (T := TX10) (N := 14) (ci := 8) S G (x_strong l X h0 nw sp xa la lb an sv dv n0 n1 n2 n3 n4 g0 gs gn gm fr (xs (zi + 1)) (xs (zi + 2)) hI_n0 hI_n1 hI_n2 hI_n3 hI_n4 H.size) gL_law_X10_strong rfl rfl rfl hdV_X10_strong ⟨Nat.le_of_ble_eq_true rfl, Nat.le_of_ble_eq_true rfl⟩ [0, 1, 2, 3, 4, 5, 6, 7, 8, 9, 10, 11, 12, 13, 14, 15, 16, 69] rfl rfl 0 rfl rfl rfl hl.1 (Nat.le_of_ble_eq_true rfl) dL_law_754 ⟨Nat.le_of_ble_eq_true rfl, Nat.le_of_ble_eq_true rfl⟩) (fun r_1 u_1 H locs hp_1 G => ?_)
  obtain ⟨f_1, rfl⟩ : ∃ z, z = u_1 := ⟨_, rfl⟩
  have hq_1 := hp_1
  refine lv_pop zx zb dL_law_757 rfl ?_
  refine lv_aload_n zx zb dL_law_758 rfl (lv_at hl 1 rfl) ?_
  refine lv_aload_n zx zb dL_law_759 rfl (lv_at hl 3 rfl) ?_
  refine lv_iload_n zx zb dL_law_760 rfl (lv_at hl 0 rfl) ?_
  refine lv_iconst (v := 1) zx zb dL_law_761 (by decide) ?_
  refine r_iadd (v := (nI (zi + 1))) S (nI_add zi 1) dL_law_762 ?_
  refine va_sld zx zb hX hbl hbA G.2.2.2.1 (vp_in_nI (by omega) (by omega)) dL_law_763 ?_
  refine k_it (v := xs (zi + 1)) (congrArg xs (nI_clamp (by omega))) ?_
  refine lv_aload_n zx zb dL_law_764 rfl (lv_at hl 3 rfl) ?_
  refine lv_iload_n zx zb dL_law_765 rfl (lv_at hl 0 rfl) ?_
  refine lv_iconst (v := 2) zx zb dL_law_766 (by decide) ?_
  refine r_iadd (v := (nI (zi + 2))) S (nI_add zi 2) dL_law_767 ?_
  refine va_sld zx zb hX hbl hbA G.2.2.2.1 (vp_in_nI (by omega) (by omega)) dL_law_768 ?_
  refine k_it (v := xs (zi + 2)) (congrArg xs (nI_clamp (by omega))) ?_
  refine b_wi (cells' := 94) (slots' := 3522) (wr := @HAppend.hAppend va_W va_W va_W _ (rcV X sp ap svp dvp n0p n1p n2p n3p n4p g0p gsp gnp gmp) (@HAppend.hAppend va_W va_W va_W _ ([((xa 2), .inl (X.2.2.2.1, 2, .inr (.inr (.inr (.inr (imQ i0 i1))))))]) (@HAppend.hAppend va_W va_W va_W _ (rcV X i0 ai svi dvi n0i n1i n2i n3i n4i g0i gsi gni gmi) (@HAppend.hAppend va_W va_W va_W _ (rcV X i1 aj svj dvj n0j n1j n2j n3j n4j g0j gsj gnj gmj) (@HAppend.hAppend va_W va_W va_W _ ([((xa 3), .inl (X.2.2.1, 2, .inl fz))]) (@HAppend.hAppend va_W va_W va_W _ (rdV X (xa 4) hb n bd vd fd) (@HAppend.hAppend va_W va_W va_W _ (rnV (xa 8) ag dg) (@HAppend.hAppend va_W va_W va_W _ (rnV (xa 9) ar dr) (@HAppend.hAppend va_W va_W va_W _ ([((xa 10), .inr (7, [.ref hc, .int tm])), (hc, .inl (X.2.1, 16, .inl tf))]) (@HAppend.hAppend va_W va_W va_W _ (odW (xa 11) vo) (@HAppend.hAppend va_W va_W va_W _ (duW X (xa 12) da gd) (@HAppend.hAppend va_W va_W va_W _ ([((xa 13), .inl (X.2.1, 6, .inl fk))]) (@HAppend.hAppend va_W va_W va_W _ ([((ma 1), .inl (X.2.1, 742, .inl fK))]) (@HAppend.hAppend va_W va_W va_W _ ([((ma 2), .inl (X.2.2.1, 2, .inl fz))]) (@HAppend.hAppend va_W va_W va_W _ ([((ma 6), .inl (X.2.1, 55, .inl fh))]) (@HAppend.hAppend va_W va_W va_W _ ([((ma 7), .inl (X.2.1, 6, .inl fg))]) (@HAppend.hAppend va_W va_W va_W _ ([((ma 8), .inl (X.2.1, 10, .inl ft))]) (@HAppend.hAppend va_W va_W va_W _ ([((ma 9), .inl (X.2.1, 20, .inl fb))]) (@HAppend.hAppend va_W va_W va_W _ ([((ma 10), .inl (X.2.1, 150, .inl fd))]) (@HAppend.hAppend va_W va_W va_W _ ([((ma 16), .inl (X.2.1, 123, .inl fw))]) (@HAppend.hAppend va_W va_W va_W _ ([((ma 17), .inl (X.2.1, 3, .inl fv))]) (@HAppend.hAppend va_W va_W va_W _ (xW h0 nw sp xa la lb) (@HAppend.hAppend va_W va_W va_W _ (rcV X nw an sv dv n0 n1 n2 n3 n4 g0 gs gn gm) ([((xa 5), .inl (X.2.1, 3, .inl f_1))])))))))))))))))))))))))) G rfl rfl [64, 65, 68] [0, 1, 2, 3, 4, 5, 6, 7, 8, 9, 10, 11, 12, 13, 14, 15, 16, 17, 18, 19, 20, 21, 22, 23, 24, 25, 26, 27, 28, 29, 30, 31, 32, 33, 34, 35, 36, 37, 38, 39, 40, 41, 42, 43, 44, 45, 46, 47, 48, 49, 50, 51, 52, 53, 54, 55, 56, 57, 58, 59, 60, 61, 62, 63, 66, 67, 69, 70, 71, 72, 73, 74, 75, 76, 77, 78, 79, 80, 81, 82, 83, 84, 85, 86, 87, 88, 89, 90, 91, 92, 93] rfl rfl rfl rfl (n_V (As := [.int (xs (zi + 1)), .int (xs (zi + 2))]) (rest := []) (C := RX11) (T := TX11) (N := 18) (ci := 9) S G (y_strong l X m0 ma lc ld n t vt fa n0 n2 n3 n4 u4 fR (xs (zi + 1)) (xs (zi + 2)) hI_n hI_t hI_fa H.size) gL_law_X11_strong rfl rfl rfl hdV_X11_strong ⟨Nat.le_of_ble_eq_true rfl, Nat.le_of_ble_eq_true rfl⟩ [64, 65, 68] rfl rfl 64 rfl rfl rfl hl.1 (Nat.le_of_ble_eq_true rfl) dL_law_769 ⟨Nat.le_of_ble_eq_true rfl, Nat.le_of_ble_eq_true rfl⟩) (fun r_2 u_2 H locs hp_2 G => ?_)
  obtain ⟨f_2, rfl⟩ : ∃ z, z = u_2 := ⟨_, rfl⟩
  have hq_2 := hp_2
  have hEA : r_1 = r_2 := hq_1.trans ((REL_str hR0 (by omega)).trans hq_2.symm)
  refine lv_pop zx zb dL_law_772 rfl ?_
  refine lv_goto (tgt := 1277) zx zb dL_law_773 (by decide) ?_
  have G : wd X (fun q : Nat => s.heap.size ≤ q) (fun q : Nat => s.heap.size ≤ q) s (@HAppend.hAppend va_W va_W va_W _ (xW h0 nw sp xa la lb) (@HAppend.hAppend va_W va_W va_W _ (rcV X nw an sv dv n0 n1 n2 n3 n4 g0 gs gn gm) (@HAppend.hAppend va_W va_W va_W _ (rcV X sp ap svp dvp n0p n1p n2p n3p n4p g0p gsp gnp gmp) (@HAppend.hAppend va_W va_W va_W _ ([((xa 2), .inl (X.2.2.2.1, 2, .inr (.inr (.inr (.inr (imQ i0 i1))))))]) (@HAppend.hAppend va_W va_W va_W _ (rcV X i0 ai svi dvi n0i n1i n2i n3i n4i g0i gsi gni gmi) (@HAppend.hAppend va_W va_W va_W _ (rcV X i1 aj svj dvj n0j n1j n2j n3j n4j g0j gsj gnj gmj) (@HAppend.hAppend va_W va_W va_W _ ([((xa 3), .inl (X.2.2.1, 2, .inl fz))]) (@HAppend.hAppend va_W va_W va_W _ (rdV X (xa 4) hb n bd vd fd) (@HAppend.hAppend va_W va_W va_W _ ([((xa 5), .inl (X.2.1, 3, .inl f_1))]) (@HAppend.hAppend va_W va_W va_W _ (rnV (xa 8) ag dg) (@HAppend.hAppend va_W va_W va_W _ (rnV (xa 9) ar dr) (@HAppend.hAppend va_W va_W va_W _ ([((xa 10), .inr (7, [.ref hc, .int tm])), (hc, .inl (X.2.1, 16, .inl tf))]) (@HAppend.hAppend va_W va_W va_W _ (odW (xa 11) vo) (@HAppend.hAppend va_W va_W va_W _ (duW X (xa 12) da gd) (@HAppend.hAppend va_W va_W va_W _ ([((xa 13), .inl (X.2.1, 6, .inl fk))]) (@HAppend.hAppend va_W va_W va_W _ (mW m0 ma lc ld n t vt) (@HAppend.hAppend va_W va_W va_W _ ([((ma 0), .inl (X.2.1, 371, .inl fa))]) (@HAppend.hAppend va_W va_W va_W _ ([((ma 1), .inl (X.2.1, 742, .inl fK))]) (@HAppend.hAppend va_W va_W va_W _ ([((ma 2), .inl (X.2.2.1, 2, .inl fz))]) (@HAppend.hAppend va_W va_W va_W _ ([((ma 3), .inl (X.2.1, 3, .inl f_2))]) (@HAppend.hAppend va_W va_W va_W _ ([((ma 6), .inl (X.2.1, 55, .inl fh))]) (@HAppend.hAppend va_W va_W va_W _ ([((ma 7), .inl (X.2.1, 6, .inl fg))]) (@HAppend.hAppend va_W va_W va_W _ ([((ma 8), .inl (X.2.1, 10, .inl ft))]) (@HAppend.hAppend va_W va_W va_W _ ([((ma 9), .inl (X.2.1, 20, .inl fb))]) (@HAppend.hAppend va_W va_W va_W _ ([((ma 10), .inl (X.2.1, 150, .inl fd))]) (@HAppend.hAppend va_W va_W va_W _ ([((ma 16), .inl (X.2.1, 123, .inl fw))]) ([((ma 17), .inl (X.2.1, 3, .inl fv))]))))))))))))))))))))))))))) H locs := wd_sub G [73, 74, 75, 76, 77, 78, 79, 80, 81, 82, 83, 84, 85, 86, 87, 88, 89, 0, 1, 2, 3, 4, 5, 6, 7, 8, 9, 10, 11, 12, 13, 14, 15, 16, 17, 18, 19, 20, 21, 22, 23, 24, 25, 26, 27, 28, 29, 30, 31, 32, 33, 34, 35, 36, 37, 38, 39, 40, 41, 42, 43, 44, 45, 46, 47, 48, 49, 50, 51, 90, 52, 53, 54, 55, 56, 57, 58, 59, 60, 61, 62, 63, 91, 92, 64, 65, 93, 66, 67, 68, 69, 70, 71, 72] rfl rfl
  exact kk _ _ _ (LW_i nw sp xa la lb an sv dv n0 n1 n2 n3 n4 g0 gs gn gm ap svp dvp n0p n1p n2p n3p n4p g0p gsp gnp gmp i0 i1 ai svi dvi n0i n1i n2i n3i n4i g0i gsi gni gmi aj svj dvj n0j n1j n2j n3j n4j g0j gsj gnj gmj fz hb n bd vd fd f_1 ag dg ar dr hc tm tf vo da gd fk ma lc ld t vt fa u4 fK u5 u6 f_2 fh d0 d1 d2 d3 d4 fg ft fb fw w0 w1 w2 w3 w4 fv ⟨hI_n0, hI_n1, hI_n2, hI_n3, hI_n4, hI_n0p, hI_n1p, hI_n2p, hI_n3p, hI_n4p, hI_n0i, hI_n1i, hI_n2i, hI_n3i, hI_n4i, hI_n0j, hI_n1j, hI_n2j, hI_n3j, hI_n4j, hI_n, hI_bd, hI_t, hI_fa, hI_fK, hI_fh, hI_fw⟩ ⟨hR0, hR1, hR2⟩ G) hl
theorem hdV_X10_tell : yX10_tell.cls = RX10 ∧ yX10_tell.cls ≠ "java/lang/invoke/MethodHandle" ∧ yX10_tell.cls ≠ "java/lang/invoke/VarHandle" ∧ (parseMethodDescriptor yX10_tell.desc).map (fun d => d.parameters.length) = some 1 := by decide +kernel
theorem hdV_X11_tell : yX11_tell.cls = RX11 ∧ yX11_tell.cls ≠ "java/lang/invoke/MethodHandle" ∧ yX11_tell.cls ≠ "java/lang/invoke/VarHandle" ∧ (parseMethodDescriptor yX11_tell.desc).map (fun d => d.parameters.length) = some 1 := by decide +kernel
set_option maxRecDepth 100000 in
set_option maxHeartbeats 8000000 in
theorem lc_20 (S : CallFix p m c cL_law 4 s #[Value.ref b] wsL_law RL) (hX : va_X b L xs s s.heap) (hbl : b < s.heap.size) (hL : L ≤ 3072) (hzi : zi + 6 ≤ L) (hZ : sE K (fun q : Nat => s.heap.size ≤ q) s s.heap) (hW : LW X h0 m0 s H locs) (hl : lv_has ls 4 [(3, .int (nI zi)), (2, .ref m0), (1, .ref h0), (0, .ref b)]) (kk : ∀ (H : Heap) (locs : List Loc) (ls : Array Slot), LW X h0 m0 s H locs → lv_has ls 4 [(3, .int (nI zi)), (2, .ref m0), (1, .ref h0), (0, .ref b)] → W p l e room_1 s m #[Value.ref b] below meth c H locs 94 3522 Q (F0 m 1277 ls [])) : W p l e room_1 s m #[Value.ref b] below meth c H locs 94 3522 Q (F0 m 776 ls []) := by
  have zx := S.1
  have zb := S.2.1
  have hbA : ¬ (fun q : Nat => s.heap.size ≤ q) b := Nat.not_le.mpr hbl
  refine LW_e hW (fun nw sp xa la lb an sv dv n0 n1 n2 n3 n4 g0 gs gn gm ap svp dvp n0p n1p n2p n3p n4p g0p gsp gnp gmp i0 i1 ai svi dvi n0i n1i n2i n3i n4i g0i gsi gni gmi aj svj dvj n0j n1j n2j n3j n4j g0j gsj gnj gmj fz hb n bd vd fd fr ag dg ar dr hc tm tf vo da gd fk ma lc ld t vt fa u4 fK u5 u6 fR fh d0 d1 d2 d3 d4 fg ft fb fw w0 w1 w2 w3 w4 fv hIV hRL G => ?_)
  obtain ⟨hR0, hR1, hR2⟩ := hRL
  obtain ⟨hI_n0, hI_n1, hI_n2, hI_n3, hI_n4, hI_n0p, hI_n1p, hI_n2p, hI_n3p, hI_n4p, hI_n0i, hI_n1i, hI_n2i, hI_n3i, hI_n4i, hI_n0j, hI_n1j, hI_n2j, hI_n3j, hI_n4j, hI_n, hI_bd, hI_t, hI_fa, hI_fK, hI_fh, hI_fw⟩ := hIV
  have hO_bd := hI_bd
  obtain ⟨hd0_bd, hd1_bd⟩ := hO_bd
  have hO_t := hI_t
  obtain ⟨ht0_t, ht1_t⟩ := hO_t
  have hO_fa := hI_fa.2
  obtain ⟨hm0_fa, hm1_fa, hm2_fa, hm3_fa, hm4_fa⟩ := hO_fa
  have hO_fh := hI_fh.2
  obtain ⟨hm0_fh, hm1_fh, hm2_fh, hm3_fh, hm4_fh⟩ := hO_fh
  have hO_fw := hI_fw.2
  obtain ⟨hm0_fw, hm1_fw, hm2_fw, hm3_fw, hm4_fw⟩ := hO_fw
  refine lv_aload_n zx zb dL_law_776 rfl (lv_at hl 2 rfl) ?_
  refine lv_aload_n zx zb dL_law_777 rfl (lv_at hl 3 rfl) ?_
  refine lv_iload_n zx zb dL_law_778 rfl (lv_at hl 0 rfl) ?_
  refine lv_iconst (v := 1) zx zb dL_law_779 (by decide) ?_
  refine r_iadd (v := (nI (zi + 1))) S (nI_add zi 1) dL_law_780 ?_
  refine va_sld zx zb hX hbl hbA G.2.2.2.1 (vp_in_nI (by omega) (by omega)) dL_law_781 ?_
  refine k_it (v := xs (zi + 1)) (congrArg xs (nI_clamp (by omega))) ?_
  refine b_wi (cells' := 94) (slots' := 3522) (wr := @HAppend.hAppend va_W va_W va_W _ (rcV X sp ap svp dvp n0p n1p n2p n3p n4p g0p gsp gnp gmp) (@HAppend.hAppend va_W va_W va_W _ ([((xa 2), .inl (X.2.2.2.1, 2, .inr (.inr (.inr (.inr (imQ i0 i1))))))]) (@HAppend.hAppend va_W va_W va_W _ (rcV X i0 ai svi dvi n0i n1i n2i n3i n4i g0i gsi gni gmi) (@HAppend.hAppend va_W va_W va_W _ (rcV X i1 aj svj dvj n0j n1j n2j n3j n4j g0j gsj gnj gmj) (@HAppend.hAppend va_W va_W va_W _ ([((xa 3), .inl (X.2.2.1, 2, .inl fz))]) (@HAppend.hAppend va_W va_W va_W _ (rdV X (xa 4) hb n bd vd fd) (@HAppend.hAppend va_W va_W va_W _ (rnV (xa 8) ag dg) (@HAppend.hAppend va_W va_W va_W _ (rnV (xa 9) ar dr) (@HAppend.hAppend va_W va_W va_W _ (odW (xa 11) vo) (@HAppend.hAppend va_W va_W va_W _ (duW X (xa 12) da gd) (@HAppend.hAppend va_W va_W va_W _ ([((xa 13), .inl (X.2.1, 6, .inl fk))]) (@HAppend.hAppend va_W va_W va_W _ (mW m0 ma lc ld n t vt) (@HAppend.hAppend va_W va_W va_W _ ([((ma 0), .inl (X.2.1, 371, .inl fa))]) (@HAppend.hAppend va_W va_W va_W _ ([((ma 1), .inl (X.2.1, 742, .inl fK))]) (@HAppend.hAppend va_W va_W va_W _ ([((ma 2), .inl (X.2.2.1, 2, .inl fz))]) (@HAppend.hAppend va_W va_W va_W _ ([((ma 3), .inl (X.2.1, 3, .inl fR))]) (@HAppend.hAppend va_W va_W va_W _ ([((ma 6), .inl (X.2.1, 55, .inl fh))]) (@HAppend.hAppend va_W va_W va_W _ ([((ma 7), .inl (X.2.1, 6, .inl fg))]) (@HAppend.hAppend va_W va_W va_W _ ([((ma 8), .inl (X.2.1, 10, .inl ft))]) (@HAppend.hAppend va_W va_W va_W _ ([((ma 9), .inl (X.2.1, 20, .inl fb))]) (@HAppend.hAppend va_W va_W va_W _ ([((ma 10), .inl (X.2.1, 150, .inl fd))]) (@HAppend.hAppend va_W va_W va_W _ ([((ma 16), .inl (X.2.1, 123, .inl fw))]) ([((ma 17), .inl (X.2.1, 3, .inl fv))]))))))))))))))))))))))) G rfl rfl [0, 1, 2, 3, 4, 5, 6, 7, 8, 9, 10, 11, 12, 13, 14, 15, 16, 72, 73, 69] [17, 18, 19, 20, 21, 22, 23, 24, 25, 26, 27, 28, 29, 30, 31, 32, 33, 34, 35, 36, 37, 38, 39, 40, 41, 42, 43, 44, 45, 46, 47, 48, 49, 50, 51, 52, 53, 54, 55, 56, 57, 58, 59, 60, 61, 62, 63, 64, 65, 66, 67, 68, 70, 71, 74, 75, 76, 77, 78, 79, 80, 81, 82, 83, 84, 85, 86, 87, 88, 89, 90, 91, 92, 93] rfl rfl rfl rfl (n_V (As := [.int (xs (zi + 1))]) (rest := []) (C := RX10) (T := TX10) (N := 14) (ci := 8) S G (x_tell l X h0 nw sp xa la lb an sv dv n0 n1 n2 n3 n4 g0 gs gn gm hc tm tf fr (xs (zi + 1)) hI_n0 hI_n1 hI_n2 hI_n3 hI_n4 H.size) gL_law_X10_tell rfl rfl rfl hdV_X10_tell ⟨Nat.le_of_ble_eq_true rfl, Nat.le_of_ble_eq_true rfl⟩ [0, 1, 2, 3, 4, 5, 6, 7, 8, 9, 10, 11, 12, 13, 14, 15, 16, 72, 73, 69] rfl rfl 0 rfl rfl rfl hl.1 (Nat.le_of_ble_eq_true rfl) dL_law_782 ⟨Nat.le_of_ble_eq_true rfl, Nat.le_of_ble_eq_true rfl⟩) (fun r_1 u_1 H locs hp_1 G => ?_)
  obtain ⟨m_1a, f_1b, f_1c⟩ := u_1
  have hq_1 := hp_1
  refine lv_pop zx zb dL_law_785 rfl ?_
  refine lv_aload_n zx zb dL_law_786 rfl (lv_at hl 1 rfl) ?_
  refine lv_aload_n zx zb dL_law_787 rfl (lv_at hl 3 rfl) ?_
  refine lv_iload_n zx zb dL_law_788 rfl (lv_at hl 0 rfl) ?_
  refine lv_iconst (v := 1) zx zb dL_law_789 (by decide) ?_
  refine r_iadd (v := (nI (zi + 1))) S (nI_add zi 1) dL_law_790 ?_
  refine va_sld zx zb hX hbl hbA G.2.2.2.1 (vp_in_nI (by omega) (by omega)) dL_law_791 ?_
  refine k_it (v := xs (zi + 1)) (congrArg xs (nI_clamp (by omega))) ?_
  refine b_wi (cells' := 94) (slots' := 3522) (wr := @HAppend.hAppend va_W va_W va_W _ (rcV X sp ap svp dvp n0p n1p n2p n3p n4p g0p gsp gnp gmp) (@HAppend.hAppend va_W va_W va_W _ ([((xa 2), .inl (X.2.2.2.1, 2, .inr (.inr (.inr (.inr (imQ i0 i1))))))]) (@HAppend.hAppend va_W va_W va_W _ (rcV X i0 ai svi dvi n0i n1i n2i n3i n4i g0i gsi gni gmi) (@HAppend.hAppend va_W va_W va_W _ (rcV X i1 aj svj dvj n0j n1j n2j n3j n4j g0j gsj gnj gmj) (@HAppend.hAppend va_W va_W va_W _ ([((xa 3), .inl (X.2.2.1, 2, .inl fz))]) (@HAppend.hAppend va_W va_W va_W _ (rdV X (xa 4) hb n bd vd fd) (@HAppend.hAppend va_W va_W va_W _ (rnV (xa 8) ag dg) (@HAppend.hAppend va_W va_W va_W _ (rnV (xa 9) ar dr) (@HAppend.hAppend va_W va_W va_W _ (odW (xa 11) vo) (@HAppend.hAppend va_W va_W va_W _ (duW X (xa 12) da gd) (@HAppend.hAppend va_W va_W va_W _ ([((xa 13), .inl (X.2.1, 6, .inl fk))]) (@HAppend.hAppend va_W va_W va_W _ ([((ma 1), .inl (X.2.1, 742, .inl fK))]) (@HAppend.hAppend va_W va_W va_W _ ([((ma 2), .inl (X.2.2.1, 2, .inl fz))]) (@HAppend.hAppend va_W va_W va_W _ ([((ma 6), .inl (X.2.1, 55, .inl fh))]) (@HAppend.hAppend va_W va_W va_W _ ([((ma 7), .inl (X.2.1, 6, .inl fg))]) (@HAppend.hAppend va_W va_W va_W _ ([((ma 9), .inl (X.2.1, 20, .inl fb))]) (@HAppend.hAppend va_W va_W va_W _ ([((ma 10), .inl (X.2.1, 150, .inl fd))]) (@HAppend.hAppend va_W va_W va_W _ ([((ma 16), .inl (X.2.1, 123, .inl fw))]) (@HAppend.hAppend va_W va_W va_W _ ([((ma 17), .inl (X.2.1, 3, .inl fv))]) (@HAppend.hAppend va_W va_W va_W _ (xW h0 nw sp xa la lb) (@HAppend.hAppend va_W va_W va_W _ (rcV X nw an sv dv n0 n1 n2 n3 n4 g0 gs gn gm) (@HAppend.hAppend va_W va_W va_W _ ([((xa 10), .inr (7, [.ref hc, .int m_1a])), (hc, .inl (X.2.1, 16, .inl f_1b))]) ([((xa 5), .inl (X.2.1, 3, .inl f_1c))]))))))))))))))))))))))) G rfl rfl [62, 63, 69, 66] [0, 1, 2, 3, 4, 5, 6, 7, 8, 9, 10, 11, 12, 13, 14, 15, 16, 17, 18, 19, 20, 21, 22, 23, 24, 25, 26, 27, 28, 29, 30, 31, 32, 33, 34, 35, 36, 37, 38, 39, 40, 41, 42, 43, 44, 45, 46, 47, 48, 49, 50, 51, 52, 53, 54, 55, 56, 57, 58, 59, 60, 61, 64, 65, 67, 68, 70, 71, 72, 73, 74, 75, 76, 77, 78, 79, 80, 81, 82, 83, 84, 85, 86, 87, 88, 89, 90, 91, 92, 93] rfl rfl rfl rfl (n_V (As := [.int (xs (zi + 1))]) (rest := []) (C := RX11) (T := TX11) (N := 18) (ci := 9) S G (y_tell l X m0 ma lc ld n t vt fa n0 n2 n3 n4 u4 ft fR (xs (zi + 1)) hI_n hI_t hI_fa H.size) gL_law_X11_tell rfl rfl rfl hdV_X11_tell ⟨Nat.le_of_ble_eq_true rfl, Nat.le_of_ble_eq_true rfl⟩ [62, 63, 69, 66] rfl rfl 62 rfl rfl rfl hl.1 (Nat.le_of_ble_eq_true rfl) dL_law_792 ⟨Nat.le_of_ble_eq_true rfl, Nat.le_of_ble_eq_true rfl⟩) (fun r_2 u_2 H locs hp_2 G => ?_)
  obtain ⟨f_2a, f_2b⟩ := u_2
  have hq_2 := hp_2
  have hEA : r_1 = r_2 := hq_1.trans ((REL_tel hR0 (by omega)).trans hq_2.symm)
  refine lv_pop zx zb dL_law_795 rfl ?_
  refine lv_goto (tgt := 1277) zx zb dL_law_796 (by decide) ?_
  have G : wd X (fun q : Nat => s.heap.size ≤ q) (fun q : Nat => s.heap.size ≤ q) s (@HAppend.hAppend va_W va_W va_W _ (xW h0 nw sp xa la lb) (@HAppend.hAppend va_W va_W va_W _ (rcV X nw an sv dv n0 n1 n2 n3 n4 g0 gs gn gm) (@HAppend.hAppend va_W va_W va_W _ (rcV X sp ap svp dvp n0p n1p n2p n3p n4p g0p gsp gnp gmp) (@HAppend.hAppend va_W va_W va_W _ ([((xa 2), .inl (X.2.2.2.1, 2, .inr (.inr (.inr (.inr (imQ i0 i1))))))]) (@HAppend.hAppend va_W va_W va_W _ (rcV X i0 ai svi dvi n0i n1i n2i n3i n4i g0i gsi gni gmi) (@HAppend.hAppend va_W va_W va_W _ (rcV X i1 aj svj dvj n0j n1j n2j n3j n4j g0j gsj gnj gmj) (@HAppend.hAppend va_W va_W va_W _ ([((xa 3), .inl (X.2.2.1, 2, .inl fz))]) (@HAppend.hAppend va_W va_W va_W _ (rdV X (xa 4) hb n bd vd fd) (@HAppend.hAppend va_W va_W va_W _ ([((xa 5), .inl (X.2.1, 3, .inl f_1c))]) (@HAppend.hAppend va_W va_W va_W _ (rnV (xa 8) ag dg) (@HAppend.hAppend va_W va_W va_W _ (rnV (xa 9) ar dr) (@HAppend.hAppend va_W va_W va_W _ ([((xa 10), .inr (7, [.ref hc, .int m_1a])), (hc, .inl (X.2.1, 16, .inl f_1b))]) (@HAppend.hAppend va_W va_W va_W _ (odW (xa 11) vo) (@HAppend.hAppend va_W va_W va_W _ (duW X (xa 12) da gd) (@HAppend.hAppend va_W va_W va_W _ ([((xa 13), .inl (X.2.1, 6, .inl fk))]) (@HAppend.hAppend va_W va_W va_W _ (mW m0 ma lc ld n t vt) (@HAppend.hAppend va_W va_W va_W _ ([((ma 0), .inl (X.2.1, 371, .inl fa))]) (@HAppend.hAppend va_W va_W va_W _ ([((ma 1), .inl (X.2.1, 742, .inl fK))]) (@HAppend.hAppend va_W va_W va_W _ ([((ma 2), .inl (X.2.2.1, 2, .inl fz))]) (@HAppend.hAppend va_W va_W va_W _ ([((ma 3), .inl (X.2.1, 3, .inl f_2b))]) (@HAppend.hAppend va_W va_W va_W _ ([((ma 6), .inl (X.2.1, 55, .inl fh))]) (@HAppend.hAppend va_W va_W va_W _ ([((ma 7), .inl (X.2.1, 6, .inl fg))]) (@HAppend.hAppend va_W va_W va_W _ ([((ma 8), .inl (X.2.1, 10, .inl f_2a))]) (@HAppend.hAppend va_W va_W va_W _ ([((ma 9), .inl (X.2.1, 20, .inl fb))]) (@HAppend.hAppend va_W va_W va_W _ ([((ma 10), .inl (X.2.1, 150, .inl fd))]) (@HAppend.hAppend va_W va_W va_W _ ([((ma 16), .inl (X.2.1, 123, .inl fw))]) ([((ma 17), .inl (X.2.1, 3, .inl fv))]))))))))))))))))))))))))))) H locs := wd_sub G [70, 71, 72, 73, 74, 75, 76, 77, 78, 79, 80, 81, 82, 83, 84, 85, 86, 0, 1, 2, 3, 4, 5, 6, 7, 8, 9, 10, 11, 12, 13, 14, 15, 16, 17, 18, 19, 20, 21, 22, 23, 24, 25, 26, 27, 28, 29, 30, 31, 32, 33, 34, 35, 36, 37, 38, 39, 40, 41, 42, 43, 44, 45, 46, 47, 48, 49, 50, 51, 89, 52, 53, 87, 88, 54, 55, 56, 57, 58, 59, 60, 61, 90, 91, 62, 63, 93, 64, 65, 92, 66, 67, 68, 69] rfl rfl
  exact kk _ _ _ (LW_i nw sp xa la lb an sv dv n0 n1 n2 n3 n4 g0 gs gn gm ap svp dvp n0p n1p n2p n3p n4p g0p gsp gnp gmp i0 i1 ai svi dvi n0i n1i n2i n3i n4i g0i gsi gni gmi aj svj dvj n0j n1j n2j n3j n4j g0j gsj gnj gmj fz hb n bd vd fd f_1c ag dg ar dr hc m_1a f_1b vo da gd fk ma lc ld t vt fa u4 fK u5 u6 f_2b fh d0 d1 d2 d3 d4 fg f_2a fb fw w0 w1 w2 w3 w4 fv ⟨hI_n0, hI_n1, hI_n2, hI_n3, hI_n4, hI_n0p, hI_n1p, hI_n2p, hI_n3p, hI_n4p, hI_n0i, hI_n1i, hI_n2i, hI_n3i, hI_n4i, hI_n0j, hI_n1j, hI_n2j, hI_n3j, hI_n4j, hI_n, hI_bd, hI_t, hI_fa, hI_fK, hI_fh, hI_fw⟩ ⟨hR0, hR1, hR2⟩ G) hl
theorem hdV_X10_note : yX10_note.cls = RX10 ∧ yX10_note.cls ≠ "java/lang/invoke/MethodHandle" ∧ yX10_note.cls ≠ "java/lang/invoke/VarHandle" ∧ (parseMethodDescriptor yX10_note.desc).map (fun d => d.parameters.length) = some 5 := by decide +kernel
theorem hdV_X11_note : yX11_note.cls = RX11 ∧ yX11_note.cls ≠ "java/lang/invoke/MethodHandle" ∧ yX11_note.cls ≠ "java/lang/invoke/VarHandle" ∧ (parseMethodDescriptor yX11_note.desc).map (fun d => d.parameters.length) = some 5 := by decide +kernel
set_option maxRecDepth 100000 in
set_option maxHeartbeats 8000000 in
theorem lc_21 (S : CallFix p m c cL_law 4 s #[Value.ref b] wsL_law RL) (hX : va_X b L xs s s.heap) (hbl : b < s.heap.size) (hL : L ≤ 3072) (hzi : zi + 6 ≤ L) (hZ : sE K (fun q : Nat => s.heap.size ≤ q) s s.heap) (hW : LW X h0 m0 s H locs) (hl : lv_has ls 4 [(3, .int (nI zi)), (2, .ref m0), (1, .ref h0), (0, .ref b)]) (kk : ∀ (H : Heap) (locs : List Loc) (ls : Array Slot), LW X h0 m0 s H locs → lv_has ls 4 [(3, .int (nI zi)), (2, .ref m0), (1, .ref h0), (0, .ref b)] → W p l e room_1 s m #[Value.ref b] below meth c H locs 94 3522 Q (F0 m 1277 ls [])) : W p l e room_1 s m #[Value.ref b] below meth c H locs 94 3522 Q (F0 m 799 ls []) := by
  have zx := S.1
  have zb := S.2.1
  have hbA : ¬ (fun q : Nat => s.heap.size ≤ q) b := Nat.not_le.mpr hbl
  refine LW_e hW (fun nw sp xa la lb an sv dv n0 n1 n2 n3 n4 g0 gs gn gm ap svp dvp n0p n1p n2p n3p n4p g0p gsp gnp gmp i0 i1 ai svi dvi n0i n1i n2i n3i n4i g0i gsi gni gmi aj svj dvj n0j n1j n2j n3j n4j g0j gsj gnj gmj fz hb n bd vd fd fr ag dg ar dr hc tm tf vo da gd fk ma lc ld t vt fa u4 fK u5 u6 fR fh d0 d1 d2 d3 d4 fg ft fb fw w0 w1 w2 w3 w4 fv hIV hRL G => ?_)
  obtain ⟨hR0, hR1, hR2⟩ := hRL
  obtain ⟨hI_n0, hI_n1, hI_n2, hI_n3, hI_n4, hI_n0p, hI_n1p, hI_n2p, hI_n3p, hI_n4p, hI_n0i, hI_n1i, hI_n2i, hI_n3i, hI_n4i, hI_n0j, hI_n1j, hI_n2j, hI_n3j, hI_n4j, hI_n, hI_bd, hI_t, hI_fa, hI_fK, hI_fh, hI_fw⟩ := hIV
  have hO_bd := hI_bd
  obtain ⟨hd0_bd, hd1_bd⟩ := hO_bd
  have hO_t := hI_t
  obtain ⟨ht0_t, ht1_t⟩ := hO_t
  have hO_fa := hI_fa.2
  obtain ⟨hm0_fa, hm1_fa, hm2_fa, hm3_fa, hm4_fa⟩ := hO_fa
  have hO_fh := hI_fh.2
  obtain ⟨hm0_fh, hm1_fh, hm2_fh, hm3_fh, hm4_fh⟩ := hO_fh
  have hO_fw := hI_fw.2
  obtain ⟨hm0_fw, hm1_fw, hm2_fw, hm3_fw, hm4_fw⟩ := hO_fw
  refine lv_aload_n zx zb dL_law_799 rfl (lv_at hl 2 rfl) ?_
  refine lv_aload_n zx zb dL_law_800 rfl (lv_at hl 3 rfl) ?_
  refine lv_iload_n zx zb dL_law_801 rfl (lv_at hl 0 rfl) ?_
  refine lv_iconst (v := 1) zx zb dL_law_802 (by decide) ?_
  refine r_iadd (v := (nI (zi + 1))) S (nI_add zi 1) dL_law_803 ?_
  refine va_sld zx zb hX hbl hbA G.2.2.2.1 (vp_in_nI (by omega) (by omega)) dL_law_804 ?_
  refine k_it (v := xs (zi + 1)) (congrArg xs (nI_clamp (by omega))) ?_
  refine lv_aload_n zx zb dL_law_805 rfl (lv_at hl 3 rfl) ?_
  refine lv_iload_n zx zb dL_law_806 rfl (lv_at hl 0 rfl) ?_
  refine lv_iconst (v := 2) zx zb dL_law_807 (by decide) ?_
  refine r_iadd (v := (nI (zi + 2))) S (nI_add zi 2) dL_law_808 ?_
  refine va_sld zx zb hX hbl hbA G.2.2.2.1 (vp_in_nI (by omega) (by omega)) dL_law_809 ?_
  refine k_it (v := xs (zi + 2)) (congrArg xs (nI_clamp (by omega))) ?_
  refine lv_aload_n zx zb dL_law_810 rfl (lv_at hl 3 rfl) ?_
  refine lv_iload_n zx zb dL_law_811 rfl (lv_at hl 0 rfl) ?_
  refine lv_iconst (v := 3) zx zb dL_law_812 (by decide) ?_
  refine r_iadd (v := (nI (zi + 3))) S (nI_add zi 3) dL_law_813 ?_
  refine va_sld zx zb hX hbl hbA G.2.2.2.1 (vp_in_nI (by omega) (by omega)) dL_law_814 ?_
  refine k_it (v := xs (zi + 3)) (congrArg xs (nI_clamp (by omega))) ?_
  refine lv_aload_n zx zb dL_law_815 rfl (lv_at hl 3 rfl) ?_
  refine lv_iload_n zx zb dL_law_816 rfl (lv_at hl 0 rfl) ?_
  refine lv_iconst (v := 4) zx zb dL_law_817 (by decide) ?_
  refine r_iadd (v := (nI (zi + 4))) S (nI_add zi 4) dL_law_818 ?_
  refine va_sld zx zb hX hbl hbA G.2.2.2.1 (vp_in_nI (by omega) (by omega)) dL_law_819 ?_
  refine k_it (v := xs (zi + 4)) (congrArg xs (nI_clamp (by omega))) ?_
  refine lv_aload_n zx zb dL_law_820 rfl (lv_at hl 3 rfl) ?_
  refine lv_iload_n zx zb dL_law_821 rfl (lv_at hl 0 rfl) ?_
  refine lv_iconst (v := 5) zx zb dL_law_822 (by decide) ?_
  refine r_iadd (v := (nI (zi + 5))) S (nI_add zi 5) dL_law_823 ?_
  refine va_sld zx zb hX hbl hbA G.2.2.2.1 (vp_in_nI (by omega) (by omega)) dL_law_824 ?_
  refine k_it (v := xs (zi + 5)) (congrArg xs (nI_clamp (by omega))) ?_
  refine b_wi (cells' := 94) (slots' := 3522) (wr := @HAppend.hAppend va_W va_W va_W _ (rcV X sp ap svp dvp n0p n1p n2p n3p n4p g0p gsp gnp gmp) (@HAppend.hAppend va_W va_W va_W _ ([((xa 2), .inl (X.2.2.2.1, 2, .inr (.inr (.inr (.inr (imQ i0 i1))))))]) (@HAppend.hAppend va_W va_W va_W _ (rcV X i0 ai svi dvi n0i n1i n2i n3i n4i g0i gsi gni gmi) (@HAppend.hAppend va_W va_W va_W _ (rcV X i1 aj svj dvj n0j n1j n2j n3j n4j g0j gsj gnj gmj) (@HAppend.hAppend va_W va_W va_W _ ([((xa 3), .inl (X.2.2.1, 2, .inl fz))]) (@HAppend.hAppend va_W va_W va_W _ (rdV X (xa 4) hb n bd vd fd) (@HAppend.hAppend va_W va_W va_W _ (rnV (xa 8) ag dg) (@HAppend.hAppend va_W va_W va_W _ (rnV (xa 9) ar dr) (@HAppend.hAppend va_W va_W va_W _ ([((xa 10), .inr (7, [.ref hc, .int tm])), (hc, .inl (X.2.1, 16, .inl tf))]) (@HAppend.hAppend va_W va_W va_W _ (odW (xa 11) vo) (@HAppend.hAppend va_W va_W va_W _ (duW X (xa 12) da gd) (@HAppend.hAppend va_W va_W va_W _ ([((xa 13), .inl (X.2.1, 6, .inl fk))]) (@HAppend.hAppend va_W va_W va_W _ (mW m0 ma lc ld n t vt) (@HAppend.hAppend va_W va_W va_W _ ([((ma 0), .inl (X.2.1, 371, .inl fa))]) (@HAppend.hAppend va_W va_W va_W _ ([((ma 1), .inl (X.2.1, 742, .inl fK))]) (@HAppend.hAppend va_W va_W va_W _ ([((ma 2), .inl (X.2.2.1, 2, .inl fz))]) (@HAppend.hAppend va_W va_W va_W _ ([((ma 3), .inl (X.2.1, 3, .inl fR))]) (@HAppend.hAppend va_W va_W va_W _ ([((ma 6), .inl (X.2.1, 55, .inl fh))]) (@HAppend.hAppend va_W va_W va_W _ ([((ma 7), .inl (X.2.1, 6, .inl fg))]) (@HAppend.hAppend va_W va_W va_W _ ([((ma 8), .inl (X.2.1, 10, .inl ft))]) (@HAppend.hAppend va_W va_W va_W _ ([((ma 9), .inl (X.2.1, 20, .inl fb))]) (@HAppend.hAppend va_W va_W va_W _ ([((ma 10), .inl (X.2.1, 150, .inl fd))]) (@HAppend.hAppend va_W va_W va_W _ ([((ma 16), .inl (X.2.1, 123, .inl fw))]) ([((ma 17), .inl (X.2.1, 3, .inl fv))])))))))))))))))))))))))) G rfl rfl [0, 1, 2, 3, 4, 5, 6, 7, 8, 9, 10, 11, 12, 13, 14, 15, 16, 69] [17, 18, 19, 20, 21, 22, 23, 24, 25, 26, 27, 28, 29, 30, 31, 32, 33, 34, 35, 36, 37, 38, 39, 40, 41, 42, 43, 44, 45, 46, 47, 48, 49, 50, 51, 52, 53, 54, 55, 56, 57, 58, 59, 60, 61, 62, 63, 64, 65, 66, 67, 68, 70, 71, 72, 73, 74, 75, 76, 77, 78, 79, 80, 81, 82, 83, 84, 85, 86, 87, 88, 89, 90, 91, 92, 93] rfl rfl rfl rfl (n_V (As := [.int (xs (zi + 1)), .int (xs (zi + 2)), .int (xs (zi + 3)), .int (xs (zi + 4)), .int (xs (zi + 5))]) (rest := []) (C := RX10) (T := TX10) (N := 14) (ci := 8) S G (x_note l X h0 nw sp xa la lb an sv dv n0 n1 n2 n3 n4 g0 gs gn gm fr (xs (zi + 1)) (xs (zi + 2)) (xs (zi + 3)) (xs (zi + 4)) (xs (zi + 5)) hI_n0 hI_n1 hI_n2 hI_n3 hI_n4 H.size) gL_law_X10_note rfl rfl rfl hdV_X10_note ⟨Nat.le_of_ble_eq_true rfl, Nat.le_of_ble_eq_true rfl⟩ [0, 1, 2, 3, 4, 5, 6, 7, 8, 9, 10, 11, 12, 13, 14, 15, 16, 69] rfl rfl 0 rfl rfl rfl hl.1 (Nat.le_of_ble_eq_true rfl) dL_law_825 ⟨Nat.le_of_ble_eq_true rfl, Nat.le_of_ble_eq_true rfl⟩) (fun r_1 u_1 H locs hp_1 G => ?_)
  obtain ⟨n3_1a, gn_1b, f_1c⟩ := u_1
  try dsimp only at hp_1
  obtain ⟨hI_n3_1a, hq_1⟩ := hp_1
  refine lv_pop zx zb dL_law_828 rfl ?_
  refine lv_aload_n zx zb dL_law_829 rfl (lv_at hl 1 rfl) ?_
  refine lv_aload_n zx zb dL_law_830 rfl (lv_at hl 3 rfl) ?_
  refine lv_iload_n zx zb dL_law_831 rfl (lv_at hl 0 rfl) ?_
  refine lv_iconst (v := 1) zx zb dL_law_832 (by decide) ?_
  refine r_iadd (v := (nI (zi + 1))) S (nI_add zi 1) dL_law_833 ?_
  refine va_sld zx zb hX hbl hbA G.2.2.2.1 (vp_in_nI (by omega) (by omega)) dL_law_834 ?_
  refine k_it (v := xs (zi + 1)) (congrArg xs (nI_clamp (by omega))) ?_
  refine lv_aload_n zx zb dL_law_835 rfl (lv_at hl 3 rfl) ?_
  refine lv_iload_n zx zb dL_law_836 rfl (lv_at hl 0 rfl) ?_
  refine lv_iconst (v := 2) zx zb dL_law_837 (by decide) ?_
  refine r_iadd (v := (nI (zi + 2))) S (nI_add zi 2) dL_law_838 ?_
  refine va_sld zx zb hX hbl hbA G.2.2.2.1 (vp_in_nI (by omega) (by omega)) dL_law_839 ?_
  refine k_it (v := xs (zi + 2)) (congrArg xs (nI_clamp (by omega))) ?_
  refine lv_aload_n zx zb dL_law_840 rfl (lv_at hl 3 rfl) ?_
  refine lv_iload_n zx zb dL_law_841 rfl (lv_at hl 0 rfl) ?_
  refine lv_iconst (v := 3) zx zb dL_law_842 (by decide) ?_
  refine r_iadd (v := (nI (zi + 3))) S (nI_add zi 3) dL_law_843 ?_
  refine va_sld zx zb hX hbl hbA G.2.2.2.1 (vp_in_nI (by omega) (by omega)) dL_law_844 ?_
  refine k_it (v := xs (zi + 3)) (congrArg xs (nI_clamp (by omega))) ?_
  refine lv_aload_n zx zb dL_law_845 rfl (lv_at hl 3 rfl) ?_
  refine lv_iload_n zx zb dL_law_846 rfl (lv_at hl 0 rfl) ?_
  refine lv_iconst (v := 4) zx zb dL_law_847 (by decide) ?_
  refine r_iadd (v := (nI (zi + 4))) S (nI_add zi 4) dL_law_848 ?_
  refine va_sld zx zb hX hbl hbA G.2.2.2.1 (vp_in_nI (by omega) (by omega)) dL_law_849 ?_
  refine k_it (v := xs (zi + 4)) (congrArg xs (nI_clamp (by omega))) ?_
  refine lv_aload_n zx zb dL_law_850 rfl (lv_at hl 3 rfl) ?_
  refine lv_iload_n zx zb dL_law_851 rfl (lv_at hl 0 rfl) ?_
  refine lv_iconst (v := 5) zx zb dL_law_852 (by decide) ?_
  refine r_iadd (v := (nI (zi + 5))) S (nI_add zi 5) dL_law_853 ?_
  refine va_sld zx zb hX hbl hbA G.2.2.2.1 (vp_in_nI (by omega) (by omega)) dL_law_854 ?_
  refine k_it (v := xs (zi + 5)) (congrArg xs (nI_clamp (by omega))) ?_
  refine b_wi (cells' := 94) (slots' := 3522) (wr := @HAppend.hAppend va_W va_W va_W _ (rcV X sp ap svp dvp n0p n1p n2p n3p n4p g0p gsp gnp gmp) (@HAppend.hAppend va_W va_W va_W _ ([((xa 2), .inl (X.2.2.2.1, 2, .inr (.inr (.inr (.inr (imQ i0 i1))))))]) (@HAppend.hAppend va_W va_W va_W _ (rcV X i0 ai svi dvi n0i n1i n2i n3i n4i g0i gsi gni gmi) (@HAppend.hAppend va_W va_W va_W _ (rcV X i1 aj svj dvj n0j n1j n2j n3j n4j g0j gsj gnj gmj) (@HAppend.hAppend va_W va_W va_W _ ([((xa 3), .inl (X.2.2.1, 2, .inl fz))]) (@HAppend.hAppend va_W va_W va_W _ (rdV X (xa 4) hb n bd vd fd) (@HAppend.hAppend va_W va_W va_W _ (rnV (xa 8) ag dg) (@HAppend.hAppend va_W va_W va_W _ (rnV (xa 9) ar dr) (@HAppend.hAppend va_W va_W va_W _ ([((xa 10), .inr (7, [.ref hc, .int tm])), (hc, .inl (X.2.1, 16, .inl tf))]) (@HAppend.hAppend va_W va_W va_W _ (odW (xa 11) vo) (@HAppend.hAppend va_W va_W va_W _ (duW X (xa 12) da gd) (@HAppend.hAppend va_W va_W va_W _ ([((xa 13), .inl (X.2.1, 6, .inl fk))]) (@HAppend.hAppend va_W va_W va_W _ ([((ma 1), .inl (X.2.1, 742, .inl fK))]) (@HAppend.hAppend va_W va_W va_W _ ([((ma 2), .inl (X.2.2.1, 2, .inl fz))]) (@HAppend.hAppend va_W va_W va_W _ ([((ma 6), .inl (X.2.1, 55, .inl fh))]) (@HAppend.hAppend va_W va_W va_W _ ([((ma 7), .inl (X.2.1, 6, .inl fg))]) (@HAppend.hAppend va_W va_W va_W _ ([((ma 8), .inl (X.2.1, 10, .inl ft))]) (@HAppend.hAppend va_W va_W va_W _ ([((ma 9), .inl (X.2.1, 20, .inl fb))]) (@HAppend.hAppend va_W va_W va_W _ ([((ma 10), .inl (X.2.1, 150, .inl fd))]) (@HAppend.hAppend va_W va_W va_W _ ([((ma 16), .inl (X.2.1, 123, .inl fw))]) (@HAppend.hAppend va_W va_W va_W _ ([((ma 17), .inl (X.2.1, 3, .inl fv))]) (@HAppend.hAppend va_W va_W va_W _ (xW h0 nw sp xa la lb) (@HAppend.hAppend va_W va_W va_W _ (rcV X nw an sv dv n0 n1 n2 n3_1a n4 g0 gs gn_1b gm) ([((xa 5), .inl (X.2.1, 3, .inl f_1c))])))))))))))))))))))))))) G rfl rfl [64, 65, 68] [0, 1, 2, 3, 4, 5, 6, 7, 8, 9, 10, 11, 12, 13, 14, 15, 16, 17, 18, 19, 20, 21, 22, 23, 24, 25, 26, 27, 28, 29, 30, 31, 32, 33, 34, 35, 36, 37, 38, 39, 40, 41, 42, 43, 44, 45, 46, 47, 48, 49, 50, 51, 52, 53, 54, 55, 56, 57, 58, 59, 60, 61, 62, 63, 66, 67, 69, 70, 71, 72, 73, 74, 75, 76, 77, 78, 79, 80, 81, 82, 83, 84, 85, 86, 87, 88, 89, 90, 91, 92, 93] rfl rfl rfl rfl (n_V (As := [.int (xs (zi + 1)), .int (xs (zi + 2)), .int (xs (zi + 3)), .int (xs (zi + 4)), .int (xs (zi + 5))]) (rest := []) (C := RX11) (T := TX11) (N := 18) (ci := 9) S G (y_note l X m0 ma lc ld n t vt fa n0 n2 n3 n4 u4 fR (xs (zi + 1)) (xs (zi + 2)) (xs (zi + 3)) (xs (zi + 4)) (xs (zi + 5)) hI_n hI_t hI_fa H.size) gL_law_X11_note rfl rfl rfl hdV_X11_note ⟨Nat.le_of_ble_eq_true rfl, Nat.le_of_ble_eq_true rfl⟩ [64, 65, 68] rfl rfl 64 rfl rfl rfl hl.1 (Nat.le_of_ble_eq_true rfl) dL_law_855 ⟨Nat.le_of_ble_eq_true rfl, Nat.le_of_ble_eq_true rfl⟩) (fun r_2 u_2 H locs hp_2 G => ?_)
  obtain ⟨f_2a, c2_2b, f_2c⟩ := u_2
  try dsimp only at hp_2
  obtain ⟨hI_f_2a, hq_2⟩ := hp_2
  have hO_f_2a := hI_f_2a.2
  obtain ⟨hm0_f_2a, hm1_f_2a, hm2_f_2a, hm3_f_2a, hm4_f_2a⟩ := hO_f_2a
  have hEQ := (apgF_rn hq_1).trans (apgF_rn hq_2).symm
  have hN0 : REL n0 n2 n3_1a n4 sv gs gn_1b gm f_2a := REL_note hR0 (by omega) (by omega) (by omega) (by omega) hq_1 hq_2
  have hEA : r_1 = r_2 := congrArg (fun z => z.1) hEQ
  refine lv_pop zx zb dL_law_858 rfl ?_
  refine lv_goto (tgt := 1277) zx zb dL_law_859 (by decide) ?_
  obtain rfl : n3_1a = c2_2b := congrArg (fun z => z.2) hEQ
  have G : wd X (fun q : Nat => s.heap.size ≤ q) (fun q : Nat => s.heap.size ≤ q) s (@HAppend.hAppend va_W va_W va_W _ (xW h0 nw sp xa la lb) (@HAppend.hAppend va_W va_W va_W _ (rcV X nw an sv dv n0 n1 n2 n3_1a n4 g0 gs gn_1b gm) (@HAppend.hAppend va_W va_W va_W _ (rcV X sp ap svp dvp n0p n1p n2p n3p n4p g0p gsp gnp gmp) (@HAppend.hAppend va_W va_W va_W _ ([((xa 2), .inl (X.2.2.2.1, 2, .inr (.inr (.inr (.inr (imQ i0 i1))))))]) (@HAppend.hAppend va_W va_W va_W _ (rcV X i0 ai svi dvi n0i n1i n2i n3i n4i g0i gsi gni gmi) (@HAppend.hAppend va_W va_W va_W _ (rcV X i1 aj svj dvj n0j n1j n2j n3j n4j g0j gsj gnj gmj) (@HAppend.hAppend va_W va_W va_W _ ([((xa 3), .inl (X.2.2.1, 2, .inl fz))]) (@HAppend.hAppend va_W va_W va_W _ (rdV X (xa 4) hb n bd vd fd) (@HAppend.hAppend va_W va_W va_W _ ([((xa 5), .inl (X.2.1, 3, .inl f_1c))]) (@HAppend.hAppend va_W va_W va_W _ (rnV (xa 8) ag dg) (@HAppend.hAppend va_W va_W va_W _ (rnV (xa 9) ar dr) (@HAppend.hAppend va_W va_W va_W _ ([((xa 10), .inr (7, [.ref hc, .int tm])), (hc, .inl (X.2.1, 16, .inl tf))]) (@HAppend.hAppend va_W va_W va_W _ (odW (xa 11) vo) (@HAppend.hAppend va_W va_W va_W _ (duW X (xa 12) da gd) (@HAppend.hAppend va_W va_W va_W _ ([((xa 13), .inl (X.2.1, 6, .inl fk))]) (@HAppend.hAppend va_W va_W va_W _ (mW m0 ma lc ld n t vt) (@HAppend.hAppend va_W va_W va_W _ ([((ma 0), .inl (X.2.1, 371, .inl f_2a))]) (@HAppend.hAppend va_W va_W va_W _ ([((ma 1), .inl (X.2.1, 742, .inl fK))]) (@HAppend.hAppend va_W va_W va_W _ ([((ma 2), .inl (X.2.2.1, 2, .inl fz))]) (@HAppend.hAppend va_W va_W va_W _ ([((ma 3), .inl (X.2.1, 3, .inl f_2c))]) (@HAppend.hAppend va_W va_W va_W _ ([((ma 6), .inl (X.2.1, 55, .inl fh))]) (@HAppend.hAppend va_W va_W va_W _ ([((ma 7), .inl (X.2.1, 6, .inl fg))]) (@HAppend.hAppend va_W va_W va_W _ ([((ma 8), .inl (X.2.1, 10, .inl ft))]) (@HAppend.hAppend va_W va_W va_W _ ([((ma 9), .inl (X.2.1, 20, .inl fb))]) (@HAppend.hAppend va_W va_W va_W _ ([((ma 10), .inl (X.2.1, 150, .inl fd))]) (@HAppend.hAppend va_W va_W va_W _ ([((ma 16), .inl (X.2.1, 123, .inl fw))]) ([((ma 17), .inl (X.2.1, 3, .inl fv))]))))))))))))))))))))))))))) H locs := wd_sub G [73, 74, 75, 76, 77, 78, 79, 80, 81, 82, 83, 84, 85, 86, 87, 88, 89, 0, 1, 2, 3, 4, 5, 6, 7, 8, 9, 10, 11, 12, 13, 14, 15, 16, 17, 18, 19, 20, 21, 22, 23, 24, 25, 26, 27, 28, 29, 30, 31, 32, 33, 34, 35, 36, 37, 38, 39, 40, 41, 42, 43, 44, 45, 46, 47, 48, 49, 50, 51, 90, 52, 53, 54, 55, 56, 57, 58, 59, 60, 61, 62, 63, 91, 92, 64, 65, 93, 66, 67, 68, 69, 70, 71, 72] rfl rfl
  exact kk _ _ _ (LW_i nw sp xa la lb an sv dv n0 n1 n2 n3_1a n4 g0 gs gn_1b gm ap svp dvp n0p n1p n2p n3p n4p g0p gsp gnp gmp i0 i1 ai svi dvi n0i n1i n2i n3i n4i g0i gsi gni gmi aj svj dvj n0j n1j n2j n3j n4j g0j gsj gnj gmj fz hb n bd vd fd f_1c ag dg ar dr hc tm tf vo da gd fk ma lc ld t vt f_2a u4 fK u5 u6 f_2c fh d0 d1 d2 d3 d4 fg ft fb fw w0 w1 w2 w3 w4 fv ⟨hI_n0, hI_n1, hI_n2, hI_n3_1a, hI_n4, hI_n0p, hI_n1p, hI_n2p, hI_n3p, hI_n4p, hI_n0i, hI_n1i, hI_n2i, hI_n3i, hI_n4i, hI_n0j, hI_n1j, hI_n2j, hI_n3j, hI_n4j, hI_n, hI_bd, hI_t, hI_f_2a, hI_fK, hI_fh, hI_fw⟩ ⟨hN0, hR1, hR2⟩ G) hl
end LC
