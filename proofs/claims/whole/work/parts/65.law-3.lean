theorem dL_law_651 : decode code 651 = .ok (.iconst 0, 1) := by decide +kernel
theorem dL_law_652 : decode code 652 = .ok (.ireturn, 1) := by decide +kernel
theorem dL_law_653 : decode code 653 = .ok (.goto 561, 3) := by decide +kernel
theorem dL_law_656 : decode code 656 = .ok (.aload_n 1, 1) := by decide +kernel
theorem dL_law_657 : decode code 657 = .ok (.aload_n 0, 1) := by decide +kernel
theorem dL_law_658 : decode code 658 = .ok (.iload 4, 2) := by decide +kernel
theorem dL_law_660 : decode code 660 = .ok (.iconst 1, 1) := by decide +kernel
theorem dL_law_661 : decode code 661 = .ok (.iadd, 1) := by decide +kernel
theorem dL_law_662 : decode code 662 = .ok (.iaload, 1) := by decide +kernel
theorem dL_law_663 : decode code 663 = .ok (.aload_n 0, 1) := by decide +kernel
theorem dL_law_664 : decode code 664 = .ok (.iload 4, 2) := by decide +kernel
theorem dL_law_666 : decode code 666 = .ok (.iconst 2, 1) := by decide +kernel
theorem dL_law_667 : decode code 667 = .ok (.iadd, 1) := by decide +kernel
theorem dL_law_668 : decode code 668 = .ok (.iaload, 1) := by decide +kernel
theorem dL_law_669 : decode code 669 = .ok (.ifCond .eq 7, 3) := by decide +kernel
theorem dL_law_672 : decode code 672 = .ok (.iconst 1, 1) := by decide +kernel
theorem dL_law_673 : decode code 673 = .ok (.goto 4, 3) := by decide +kernel
theorem dL_law_676 : decode code 676 = .ok (.iconst 0, 1) := by decide +kernel
theorem dL_law_677 : decode code 677 = .ok (.invokestatic 125, 3) := by decide +kernel
theorem dL_law_680 : decode code 680 = .ok (.istore 5, 2) := by decide +kernel
theorem dL_law_682 : decode code 682 = .ok (.aload_n 2, 1) := by decide +kernel
theorem dL_law_683 : decode code 683 = .ok (.aload_n 0, 1) := by decide +kernel
theorem dL_law_684 : decode code 684 = .ok (.iload 4, 2) := by decide +kernel
theorem dL_law_686 : decode code 686 = .ok (.iconst 1, 1) := by decide +kernel
theorem dL_law_687 : decode code 687 = .ok (.iadd, 1) := by decide +kernel
theorem dL_law_688 : decode code 688 = .ok (.iaload, 1) := by decide +kernel
theorem dL_law_689 : decode code 689 = .ok (.aload_n 0, 1) := by decide +kernel
theorem dL_law_690 : decode code 690 = .ok (.iload 4, 2) := by decide +kernel
theorem dL_law_692 : decode code 692 = .ok (.iconst 2, 1) := by decide +kernel
theorem dL_law_693 : decode code 693 = .ok (.iadd, 1) := by decide +kernel
theorem dL_law_694 : decode code 694 = .ok (.iaload, 1) := by decide +kernel
theorem dL_law_695 : decode code 695 = .ok (.ifCond .eq 7, 3) := by decide +kernel
theorem dL_law_698 : decode code 698 = .ok (.iconst 1, 1) := by decide +kernel
theorem dL_law_699 : decode code 699 = .ok (.goto 4, 3) := by decide +kernel
theorem dL_law_702 : decode code 702 = .ok (.iconst 0, 1) := by decide +kernel
theorem dL_law_703 : decode code 703 = .ok (.invokevirtual 128, 3) := by decide +kernel
theorem dL_law_706 : decode code 706 = .ok (.aload_n 2, 1) := by decide +kernel
theorem dL_law_707 : decode code 707 = .ok (.invokevirtual 96, 3) := by decide +kernel
theorem dL_law_710 : decode code 710 = .ok (.iload 5, 2) := by decide +kernel
theorem dL_law_712 : decode code 712 = .ok (.if_icmp .eq 5, 3) := by decide +kernel
theorem dL_law_715 : decode code 715 = .ok (.iconst 0, 1) := by decide +kernel
theorem dL_law_716 : decode code 716 = .ok (.ireturn, 1) := by decide +kernel
theorem dL_law_717 : decode code 717 = .ok (.goto 497, 3) := by decide +kernel
theorem dL_law_720 : decode code 720 = .ok (.aload_n 1, 1) := by decide +kernel
theorem dL_law_721 : decode code 721 = .ok (.aload_n 0, 1) := by decide +kernel
theorem dL_law_722 : decode code 722 = .ok (.iload 4, 2) := by decide +kernel
theorem dL_law_724 : decode code 724 = .ok (.iconst 1, 1) := by decide +kernel
theorem dL_law_725 : decode code 725 = .ok (.iadd, 1) := by decide +kernel
theorem dL_law_726 : decode code 726 = .ok (.iaload, 1) := by decide +kernel
theorem dL_law_727 : decode code 727 = .ok (.invokestatic 129, 3) := by decide +kernel
theorem dL_law_730 : decode code 730 = .ok (.istore 5, 2) := by decide +kernel
theorem dL_law_732 : decode code 732 = .ok (.aload_n 2, 1) := by decide +kernel
theorem dL_law_733 : decode code 733 = .ok (.aload_n 0, 1) := by decide +kernel
theorem dL_law_734 : decode code 734 = .ok (.iload 4, 2) := by decide +kernel
theorem dL_law_736 : decode code 736 = .ok (.iconst 1, 1) := by decide +kernel
theorem dL_law_737 : decode code 737 = .ok (.iadd, 1) := by decide +kernel
theorem dL_law_738 : decode code 738 = .ok (.iaload, 1) := by decide +kernel
theorem dL_law_739 : decode code 739 = .ok (.invokevirtual 132, 3) := by decide +kernel
theorem dL_law_742 : decode code 742 = .ok (.aload_n 2, 1) := by decide +kernel
theorem dL_law_743 : decode code 743 = .ok (.invokevirtual 96, 3) := by decide +kernel
theorem dL_law_746 : decode code 746 = .ok (.iload 5, 2) := by decide +kernel
theorem dL_law_748 : decode code 748 = .ok (.if_icmp .eq 5, 3) := by decide +kernel
theorem dL_law_751 : decode code 751 = .ok (.iconst 0, 1) := by decide +kernel
theorem dL_law_752 : decode code 752 = .ok (.ireturn, 1) := by decide +kernel
theorem dL_law_753 : decode code 753 = .ok (.goto 461, 3) := by decide +kernel
theorem dL_law_756 : decode code 756 = .ok (.aload_n 1, 1) := by decide +kernel
theorem dL_law_757 : decode code 757 = .ok (.aload_n 0, 1) := by decide +kernel
theorem dL_law_758 : decode code 758 = .ok (.iload 4, 2) := by decide +kernel
theorem dL_law_760 : decode code 760 = .ok (.iconst 1, 1) := by decide +kernel
theorem dL_law_761 : decode code 761 = .ok (.iadd, 1) := by decide +kernel
theorem dL_law_762 : decode code 762 = .ok (.iaload, 1) := by decide +kernel
theorem dL_law_763 : decode code 763 = .ok (.aload_n 0, 1) := by decide +kernel
theorem dL_law_764 : decode code 764 = .ok (.iload 4, 2) := by decide +kernel
theorem dL_law_766 : decode code 766 = .ok (.iconst 2, 1) := by decide +kernel
theorem dL_law_767 : decode code 767 = .ok (.iadd, 1) := by decide +kernel
theorem dL_law_768 : decode code 768 = .ok (.iaload, 1) := by decide +kernel
theorem dL_law_769 : decode code 769 = .ok (.aload_n 3, 1) := by decide +kernel
theorem dL_law_770 : decode code 770 = .ok (.invokestatic 133, 3) := by decide +kernel
theorem dL_law_773 : decode code 773 = .ok (.istore 5, 2) := by decide +kernel
theorem dL_law_775 : decode code 775 = .ok (.aload_n 2, 1) := by decide +kernel
theorem dL_law_776 : decode code 776 = .ok (.aload_n 0, 1) := by decide +kernel
theorem dL_law_777 : decode code 777 = .ok (.iload 4, 2) := by decide +kernel
theorem dL_law_779 : decode code 779 = .ok (.iconst 1, 1) := by decide +kernel
theorem dL_law_780 : decode code 780 = .ok (.iadd, 1) := by decide +kernel
theorem dL_law_781 : decode code 781 = .ok (.iaload, 1) := by decide +kernel
theorem dL_law_782 : decode code 782 = .ok (.aload_n 0, 1) := by decide +kernel
theorem dL_law_783 : decode code 783 = .ok (.iload 4, 2) := by decide +kernel
theorem dL_law_785 : decode code 785 = .ok (.iconst 2, 1) := by decide +kernel
theorem dL_law_786 : decode code 786 = .ok (.iadd, 1) := by decide +kernel
theorem dL_law_787 : decode code 787 = .ok (.iaload, 1) := by decide +kernel
theorem dL_law_788 : decode code 788 = .ok (.invokevirtual 136, 3) := by decide +kernel
theorem dL_law_791 : decode code 791 = .ok (.istore 6, 2) := by decide +kernel
theorem dL_law_793 : decode code 793 = .ok (.aload_n 2, 1) := by decide +kernel
theorem dL_law_794 : decode code 794 = .ok (.invokevirtual 96, 3) := by decide +kernel
theorem dL_law_797 : decode code 797 = .ok (.iload 5, 2) := by decide +kernel
theorem dL_law_799 : decode code 799 = .ok (.if_icmp .eq 5, 3) := by decide +kernel
theorem dL_law_802 : decode code 802 = .ok (.iconst 0, 1) := by decide +kernel
theorem dL_law_803 : decode code 803 = .ok (.ireturn, 1) := by decide +kernel
theorem dL_law_804 : decode code 804 = .ok (.iload 5, 2) := by decide +kernel
theorem dL_law_806 : decode code 806 = .ok (.ifCond .ne 15, 3) := by decide +kernel
theorem dL_law_809 : decode code 809 = .ok (.aload_n 3, 1) := by decide +kernel
theorem dL_law_810 : decode code 810 = .ok (.iconst 0, 1) := by decide +kernel
theorem dL_law_811 : decode code 811 = .ok (.laload, 1) := by decide +kernel
theorem dL_law_812 : decode code 812 = .ok (.iload 6, 2) := by decide +kernel
theorem dL_law_814 : decode code 814 = .ok (.i2l, 1) := by decide +kernel
theorem dL_law_815 : decode code 815 = .ok (.lcmp, 1) := by decide +kernel
theorem dL_law_816 : decode code 816 = .ok (.ifCond .eq 5, 3) := by decide +kernel
theorem dL_law_819 : decode code 819 = .ok (.iconst 0, 1) := by decide +kernel
theorem dL_law_820 : decode code 820 = .ok (.ireturn, 1) := by decide +kernel
theorem dL_law_821 : decode code 821 = .ok (.goto 393, 3) := by decide +kernel
theorem dL_law_824 : decode code 824 = .ok (.aload_n 1, 1) := by decide +kernel
theorem dL_law_825 : decode code 825 = .ok (.aload_n 0, 1) := by decide +kernel
theorem dL_law_826 : decode code 826 = .ok (.iload 4, 2) := by decide +kernel
theorem dL_law_828 : decode code 828 = .ok (.iconst 1, 1) := by decide +kernel
theorem dL_law_829 : decode code 829 = .ok (.iadd, 1) := by decide +kernel
theorem dL_law_830 : decode code 830 = .ok (.iaload, 1) := by decide +kernel
theorem dL_law_831 : decode code 831 = .ok (.aload_n 3, 1) := by decide +kernel
theorem dL_law_832 : decode code 832 = .ok (.invokestatic 137, 3) := by decide +kernel
theorem dL_law_835 : decode code 835 = .ok (.istore 5, 2) := by decide +kernel
theorem dL_law_837 : decode code 837 = .ok (.aload_n 2, 1) := by decide +kernel
theorem dL_law_838 : decode code 838 = .ok (.aload_n 0, 1) := by decide +kernel
theorem dL_law_839 : decode code 839 = .ok (.iload 4, 2) := by decide +kernel
theorem dL_law_841 : decode code 841 = .ok (.iconst 1, 1) := by decide +kernel
theorem dL_law_842 : decode code 842 = .ok (.iadd, 1) := by decide +kernel
theorem dL_law_843 : decode code 843 = .ok (.iaload, 1) := by decide +kernel
theorem dL_law_844 : decode code 844 = .ok (.invokevirtual 140, 3) := by decide +kernel
theorem dL_law_847 : decode code 847 = .ok (.lstore 6, 2) := by decide +kernel
theorem dL_law_849 : decode code 849 = .ok (.aload_n 2, 1) := by decide +kernel
theorem dL_law_850 : decode code 850 = .ok (.invokevirtual 96, 3) := by decide +kernel
theorem dL_law_853 : decode code 853 = .ok (.iload 5, 2) := by decide +kernel
