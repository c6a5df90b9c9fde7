theorem dX12_changes_727 : decode cX12_changes 727 = .ok (.lload 16, 2) := by decide +kernel
theorem dX12_changes_729 : decode cX12_changes 729 = .ok (.aload_n 0, 1) := by decide +kernel
theorem dX12_changes_730 : decode cX12_changes 730 = .ok (.invokevirtual 70, 3) := by decide +kernel
theorem dX12_changes_733 : decode cX12_changes 733 = .ok (.lcmp, 1) := by decide +kernel
theorem dX12_changes_734 : decode cX12_changes 734 = .ok (.ifCond .ne 14, 3) := by decide +kernel
theorem dX12_changes_737 : decode cX12_changes 737 = .ok (.iload 6, 2) := by decide +kernel
theorem dX12_changes_739 : decode cX12_changes 739 = .ok (.iload 7, 2) := by decide +kernel
theorem dX12_changes_741 : decode cX12_changes 741 = .ok (.if_icmp .gt 7, 3) := by decide +kernel
theorem dX12_changes_744 : decode cX12_changes 744 = .ok (.iconst 1, 1) := by decide +kernel
theorem dX12_changes_745 : decode cX12_changes 745 = .ok (.goto 4, 3) := by decide +kernel
theorem dX12_changes_748 : decode cX12_changes 748 = .ok (.iconst 0, 1) := by decide +kernel
theorem dX12_changes_749 : decode cX12_changes 749 = .ok (.istore 18, 2) := by decide +kernel
theorem dX12_changes_751 : decode cX12_changes 751 = .ok (.iload 18, 2) := by decide +kernel
theorem dX12_changes_753 : decode cX12_changes 753 = .ok (.ifCond .eq 45, 3) := by decide +kernel
theorem dX12_changes_756 : decode cX12_changes 756 = .ok (.aload_n 0, 1) := by decide +kernel
theorem dX12_changes_757 : decode cX12_changes 757 = .ok (.invokevirtual 139, 3) := by decide +kernel
theorem dX12_changes_760 : decode cX12_changes 760 = .ok (.ifCond .lt 38, 3) := by decide +kernel
theorem dX12_changes_763 : decode cX12_changes 763 = .ok (.aload_n 0, 1) := by decide +kernel
theorem dX12_changes_764 : decode cX12_changes 764 = .ok (.iconst 5, 1) := by decide +kernel
theorem dX12_changes_765 : decode cX12_changes 765 = .ok (.iload 8, 2) := by decide +kernel
theorem dX12_changes_767 : decode cX12_changes 767 = .ok (.invokevirtual 116, 3) := by decide +kernel
theorem dX12_changes_770 : decode cX12_changes 770 = .ok (.ifCond .le 28, 3) := by decide +kernel
theorem dX12_changes_773 : decode cX12_changes 773 = .ok (.iload 6, 2) := by decide +kernel
theorem dX12_changes_775 : decode cX12_changes 775 = .ok (.ifCond .lt 23, 3) := by decide +kernel
theorem dX12_changes_778 : decode cX12_changes 778 = .ok (.iload 6, 2) := by decide +kernel
theorem dX12_changes_780 : decode cX12_changes 780 = .ok (.sipush 150, 3) := by decide +kernel
theorem dX12_changes_783 : decode cX12_changes 783 = .ok (.if_icmp .gt 15, 3) := by decide +kernel
theorem dX12_changes_786 : decode cX12_changes 786 = .ok (.iload 6, 2) := by decide +kernel
theorem dX12_changes_788 : decode cX12_changes 788 = .ok (.bipush 10, 2) := by decide +kernel
theorem dX12_changes_790 : decode cX12_changes 790 = .ok (.irem, 1) := by decide +kernel
theorem dX12_changes_791 : decode cX12_changes 791 = .ok (.ifCond .ne 7, 3) := by decide +kernel
theorem dX12_changes_794 : decode cX12_changes 794 = .ok (.iconst 1, 1) := by decide +kernel
theorem dX12_changes_795 : decode cX12_changes 795 = .ok (.goto 4, 3) := by decide +kernel
theorem dX12_changes_798 : decode cX12_changes 798 = .ok (.iconst 0, 1) := by decide +kernel
theorem dX12_changes_799 : decode cX12_changes 799 = .ok (.ireturn, 1) := by decide +kernel
theorem dX12_changes_800 : decode cX12_changes 800 = .ok (.aload_n 0, 1) := by decide +kernel
theorem dX12_changes_801 : decode cX12_changes 801 = .ok (.bipush 24, 2) := by decide +kernel
theorem dX12_changes_803 : decode cX12_changes 803 = .ok (.iconst 0, 1) := by decide +kernel
theorem dX12_changes_804 : decode cX12_changes 804 = .ok (.invokevirtual 110, 3) := by decide +kernel
theorem dX12_changes_807 : decode cX12_changes 807 = .ok (.iconst (-1), 1) := by decide +kernel
theorem dX12_changes_808 : decode cX12_changes 808 = .ok (.if_icmp .ne 63, 3) := by decide +kernel
theorem dX12_changes_811 : decode cX12_changes 811 = .ok (.aload_n 0, 1) := by decide +kernel
theorem dX12_changes_812 : decode cX12_changes 812 = .ok (.iconst 0, 1) := by decide +kernel
theorem dX12_changes_813 : decode cX12_changes 813 = .ok (.iconst 3, 1) := by decide +kernel
theorem dX12_changes_814 : decode cX12_changes 814 = .ok (.invokevirtual 113, 3) := by decide +kernel
theorem dX12_changes_817 : decode cX12_changes 817 = .ok (.iconst (-1), 1) := by decide +kernel
theorem dX12_changes_818 : decode cX12_changes 818 = .ok (.if_icmp .ne 53, 3) := by decide +kernel
theorem dX12_changes_821 : decode cX12_changes 821 = .ok (.aload_n 0, 1) := by decide +kernel
theorem dX12_changes_822 : decode cX12_changes 822 = .ok (.bipush 99, 2) := by decide +kernel
theorem dX12_changes_824 : decode cX12_changes 824 = .ok (.iconst 0, 1) := by decide +kernel
theorem dX12_changes_825 : decode cX12_changes 825 = .ok (.invokevirtual 119, 3) := by decide +kernel
theorem dX12_changes_828 : decode cX12_changes 828 = .ok (.iconst (-1), 1) := by decide +kernel
theorem dX12_changes_829 : decode cX12_changes 829 = .ok (.if_icmp .ne 42, 3) := by decide +kernel
theorem dX12_changes_832 : decode cX12_changes 832 = .ok (.aload_n 0, 1) := by decide +kernel
theorem dX12_changes_833 : decode cX12_changes 833 = .ok (.sipush 1441, 3) := by decide +kernel
theorem dX12_changes_836 : decode cX12_changes 836 = .ok (.invokevirtual 94, 3) := by decide +kernel
theorem dX12_changes_839 : decode cX12_changes 839 = .ok (.iconst (-1), 1) := by decide +kernel
theorem dX12_changes_840 : decode cX12_changes 840 = .ok (.if_icmp .ne 31, 3) := by decide +kernel
theorem dX12_changes_843 : decode cX12_changes 843 = .ok (.aload_n 0, 1) := by decide +kernel
theorem dX12_changes_844 : decode cX12_changes 844 = .ok (.sipush 401, 3) := by decide +kernel
theorem dX12_changes_847 : decode cX12_changes 847 = .ok (.sipush 300, 3) := by decide +kernel
theorem dX12_changes_850 : decode cX12_changes 850 = .ok (.invokevirtual 127, 3) := by decide +kernel
theorem dX12_changes_853 : decode cX12_changes 853 = .ok (.iconst (-1), 1) := by decide +kernel
theorem dX12_changes_854 : decode cX12_changes 854 = .ok (.if_icmp .ne 17, 3) := by decide +kernel
theorem dX12_changes_857 : decode cX12_changes 857 = .ok (.aload_n 0, 1) := by decide +kernel
theorem dX12_changes_858 : decode cX12_changes 858 = .ok (.bipush 12, 2) := by decide +kernel
theorem dX12_changes_860 : decode cX12_changes 860 = .ok (.invokevirtual 27, 3) := by decide +kernel
theorem dX12_changes_863 : decode cX12_changes 863 = .ok (.iconst (-1), 1) := by decide +kernel
theorem dX12_changes_864 : decode cX12_changes 864 = .ok (.if_icmp .ne 7, 3) := by decide +kernel
theorem dX12_changes_867 : decode cX12_changes 867 = .ok (.iconst 1, 1) := by decide +kernel
theorem dX12_changes_868 : decode cX12_changes 868 = .ok (.goto 4, 3) := by decide +kernel
theorem dX12_changes_871 : decode cX12_changes 871 = .ok (.iconst 0, 1) := by decide +kernel
theorem dX12_changes_872 : decode cX12_changes 872 = .ok (.ireturn, 1) := by decide +kernel
