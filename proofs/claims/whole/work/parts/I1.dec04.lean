/-! the law, instruction by instruction -/
theorem d_law_746 : decode code 746 = .ok (.iconst 2, 1) := by decide +kernel
theorem d_law_747 : decode code 747 = .ok (.iadd, 1) := by decide +kernel
theorem d_law_748 : decode code 748 = .ok (.iaload, 1) := by decide +kernel
theorem d_law_749 : decode code 749 = .ok (.invokevirtual 103, 3) := by decide +kernel
theorem d_law_752 : decode code 752 = .ok (.aload_n 2, 1) := by decide +kernel
theorem d_law_753 : decode code 753 = .ok (.aload_n 0, 1) := by decide +kernel
theorem d_law_754 : decode code 754 = .ok (.iload 4, 2) := by decide +kernel
theorem d_law_756 : decode code 756 = .ok (.iconst 1, 1) := by decide +kernel
theorem d_law_757 : decode code 757 = .ok (.iadd, 1) := by decide +kernel
theorem d_law_758 : decode code 758 = .ok (.iaload, 1) := by decide +kernel
theorem d_law_759 : decode code 759 = .ok (.aload_n 0, 1) := by decide +kernel
theorem d_law_760 : decode code 760 = .ok (.iload 4, 2) := by decide +kernel
theorem d_law_762 : decode code 762 = .ok (.iconst 2, 1) := by decide +kernel
theorem d_law_763 : decode code 763 = .ok (.iadd, 1) := by decide +kernel
theorem d_law_764 : decode code 764 = .ok (.iaload, 1) := by decide +kernel
theorem d_law_765 : decode code 765 = .ok (.invokevirtual 106, 3) := by decide +kernel
theorem d_law_768 : decode code 768 = .ok (.if_icmp .eq 540, 3) := by decide +kernel
theorem d_law_771 : decode code 771 = .ok (.iconst 0, 1) := by decide +kernel
theorem d_law_772 : decode code 772 = .ok (.ireturn, 1) := by decide +kernel
theorem d_law_773 : decode code 773 = .ok (.aload_n 1, 1) := by decide +kernel
theorem d_law_774 : decode code 774 = .ok (.aload_n 0, 1) := by decide +kernel
theorem d_law_775 : decode code 775 = .ok (.iload 4, 2) := by decide +kernel
theorem d_law_777 : decode code 777 = .ok (.iconst 1, 1) := by decide +kernel
theorem d_law_778 : decode code 778 = .ok (.iadd, 1) := by decide +kernel
theorem d_law_779 : decode code 779 = .ok (.iaload, 1) := by decide +kernel
theorem d_law_780 : decode code 780 = .ok (.invokevirtual 107, 3) := by decide +kernel
theorem d_law_783 : decode code 783 = .ok (.aload_n 2, 1) := by decide +kernel
theorem d_law_784 : decode code 784 = .ok (.aload_n 0, 1) := by decide +kernel
theorem d_law_785 : decode code 785 = .ok (.iload 4, 2) := by decide +kernel
theorem d_law_787 : decode code 787 = .ok (.iconst 1, 1) := by decide +kernel
theorem d_law_788 : decode code 788 = .ok (.iadd, 1) := by decide +kernel
theorem d_law_789 : decode code 789 = .ok (.iaload, 1) := by decide +kernel
theorem d_law_790 : decode code 790 = .ok (.invokevirtual 110, 3) := by decide +kernel
theorem d_law_793 : decode code 793 = .ok (.if_icmp .eq 515, 3) := by decide +kernel
theorem d_law_796 : decode code 796 = .ok (.iconst 0, 1) := by decide +kernel
theorem d_law_797 : decode code 797 = .ok (.ireturn, 1) := by decide +kernel
theorem d_law_798 : decode code 798 = .ok (.aload_n 1, 1) := by decide +kernel
theorem d_law_799 : decode code 799 = .ok (.aload_n 0, 1) := by decide +kernel
theorem d_law_800 : decode code 800 = .ok (.iload 4, 2) := by decide +kernel
theorem d_law_802 : decode code 802 = .ok (.iconst 1, 1) := by decide +kernel
theorem d_law_803 : decode code 803 = .ok (.iadd, 1) := by decide +kernel
theorem d_law_804 : decode code 804 = .ok (.iaload, 1) := by decide +kernel
theorem d_law_805 : decode code 805 = .ok (.aload_n 0, 1) := by decide +kernel
theorem d_law_806 : decode code 806 = .ok (.iload 4, 2) := by decide +kernel
theorem d_law_808 : decode code 808 = .ok (.iconst 2, 1) := by decide +kernel
theorem d_law_809 : decode code 809 = .ok (.iadd, 1) := by decide +kernel
theorem d_law_810 : decode code 810 = .ok (.iaload, 1) := by decide +kernel
theorem d_law_811 : decode code 811 = .ok (.invokevirtual 111, 3) := by decide +kernel
theorem d_law_814 : decode code 814 = .ok (.aload_n 2, 1) := by decide +kernel
theorem d_law_815 : decode code 815 = .ok (.aload_n 0, 1) := by decide +kernel
theorem d_law_816 : decode code 816 = .ok (.iload 4, 2) := by decide +kernel
theorem d_law_818 : decode code 818 = .ok (.iconst 1, 1) := by decide +kernel
theorem d_law_819 : decode code 819 = .ok (.iadd, 1) := by decide +kernel
theorem d_law_820 : decode code 820 = .ok (.iaload, 1) := by decide +kernel
theorem d_law_821 : decode code 821 = .ok (.aload_n 0, 1) := by decide +kernel
theorem d_law_822 : decode code 822 = .ok (.iload 4, 2) := by decide +kernel
theorem d_law_824 : decode code 824 = .ok (.iconst 2, 1) := by decide +kernel
theorem d_law_825 : decode code 825 = .ok (.iadd, 1) := by decide +kernel
theorem d_law_826 : decode code 826 = .ok (.iaload, 1) := by decide +kernel
theorem d_law_827 : decode code 827 = .ok (.invokevirtual 114, 3) := by decide +kernel
theorem d_law_830 : decode code 830 = .ok (.if_icmp .eq 478, 3) := by decide +kernel
theorem d_law_833 : decode code 833 = .ok (.iconst 0, 1) := by decide +kernel
theorem d_law_834 : decode code 834 = .ok (.ireturn, 1) := by decide +kernel
theorem d_law_835 : decode code 835 = .ok (.aload_n 1, 1) := by decide +kernel
theorem d_law_836 : decode code 836 = .ok (.aload_n 0, 1) := by decide +kernel
theorem d_law_837 : decode code 837 = .ok (.iload 4, 2) := by decide +kernel
theorem d_law_839 : decode code 839 = .ok (.iconst 1, 1) := by decide +kernel
theorem d_law_840 : decode code 840 = .ok (.iadd, 1) := by decide +kernel
theorem d_law_841 : decode code 841 = .ok (.iaload, 1) := by decide +kernel
theorem d_law_842 : decode code 842 = .ok (.invokevirtual 115, 3) := by decide +kernel
theorem d_law_845 : decode code 845 = .ok (.aload_n 2, 1) := by decide +kernel
theorem d_law_846 : decode code 846 = .ok (.aload_n 0, 1) := by decide +kernel
theorem d_law_847 : decode code 847 = .ok (.iload 4, 2) := by decide +kernel
theorem d_law_849 : decode code 849 = .ok (.iconst 1, 1) := by decide +kernel
theorem d_law_850 : decode code 850 = .ok (.iadd, 1) := by decide +kernel
theorem d_law_851 : decode code 851 = .ok (.iaload, 1) := by decide +kernel
theorem d_law_852 : decode code 852 = .ok (.invokevirtual 118, 3) := by decide +kernel
theorem d_law_855 : decode code 855 = .ok (.if_icmp .eq 453, 3) := by decide +kernel
theorem d_law_858 : decode code 858 = .ok (.iconst 0, 1) := by decide +kernel
theorem d_law_859 : decode code 859 = .ok (.ireturn, 1) := by decide +kernel
theorem d_law_860 : decode code 860 = .ok (.aload_n 1, 1) := by decide +kernel
theorem d_law_861 : decode code 861 = .ok (.aload_n 0, 1) := by decide +kernel
theorem d_law_862 : decode code 862 = .ok (.iload 4, 2) := by decide +kernel
theorem d_law_864 : decode code 864 = .ok (.iconst 1, 1) := by decide +kernel
theorem d_law_865 : decode code 865 = .ok (.iadd, 1) := by decide +kernel
theorem d_law_866 : decode code 866 = .ok (.iaload, 1) := by decide +kernel
theorem d_law_867 : decode code 867 = .ok (.aload_n 0, 1) := by decide +kernel
theorem d_law_868 : decode code 868 = .ok (.iload 4, 2) := by decide +kernel
theorem d_law_870 : decode code 870 = .ok (.iconst 2, 1) := by decide +kernel
theorem d_law_871 : decode code 871 = .ok (.iadd, 1) := by decide +kernel
theorem d_law_872 : decode code 872 = .ok (.iaload, 1) := by decide +kernel
theorem d_law_873 : decode code 873 = .ok (.invokevirtual 119, 3) := by decide +kernel
theorem d_law_876 : decode code 876 = .ok (.aload_n 2, 1) := by decide +kernel
theorem d_law_877 : decode code 877 = .ok (.aload_n 0, 1) := by decide +kernel
theorem d_law_878 : decode code 878 = .ok (.iload 4, 2) := by decide +kernel
theorem d_law_880 : decode code 880 = .ok (.iconst 1, 1) := by decide +kernel
theorem d_law_881 : decode code 881 = .ok (.iadd, 1) := by decide +kernel
theorem d_law_882 : decode code 882 = .ok (.iaload, 1) := by decide +kernel
theorem d_law_883 : decode code 883 = .ok (.aload_n 0, 1) := by decide +kernel
theorem d_law_884 : decode code 884 = .ok (.iload 4, 2) := by decide +kernel
