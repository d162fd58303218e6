theorem dl_752 : decode code 752 = .ok (.iaload, 1) := by decide +kernel
theorem dl_753 : decode code 753 = .ok (.invokevirtual 103, 3) := by decide +kernel
theorem dl_756 : decode code 756 = .ok (.if_icmp .eq 169, 3) := by decide +kernel
theorem dl_759 : decode code 759 = .ok (.iconst 0, 1) := by decide +kernel
theorem dl_760 : decode code 760 = .ok (.ireturn, 1) := by decide +kernel
theorem dl_761 : decode code 761 = .ok (.aload_n 1, 1) := by decide +kernel
theorem dl_762 : decode code 762 = .ok (.aload_n 0, 1) := by decide +kernel
theorem dl_763 : decode code 763 = .ok (.iload_n 3, 1) := by decide +kernel
theorem dl_764 : decode code 764 = .ok (.iconst 1, 1) := by decide +kernel
theorem dl_765 : decode code 765 = .ok (.iadd, 1) := by decide +kernel
theorem dl_766 : decode code 766 = .ok (.iaload, 1) := by decide +kernel
theorem dl_767 : decode code 767 = .ok (.invokevirtual 104, 3) := by decide +kernel
theorem dl_770 : decode code 770 = .ok (.aload_n 2, 1) := by decide +kernel
theorem dl_771 : decode code 771 = .ok (.aload_n 0, 1) := by decide +kernel
theorem dl_772 : decode code 772 = .ok (.iload_n 3, 1) := by decide +kernel
theorem dl_773 : decode code 773 = .ok (.iconst 1, 1) := by decide +kernel
theorem dl_774 : decode code 774 = .ok (.iadd, 1) := by decide +kernel
theorem dl_775 : decode code 775 = .ok (.iaload, 1) := by decide +kernel
theorem dl_776 : decode code 776 = .ok (.invokevirtual 107, 3) := by decide +kernel
theorem dl_779 : decode code 779 = .ok (.if_icmp .eq 146, 3) := by decide +kernel
theorem dl_782 : decode code 782 = .ok (.iconst 0, 1) := by decide +kernel
theorem dl_783 : decode code 783 = .ok (.ireturn, 1) := by decide +kernel
theorem dl_784 : decode code 784 = .ok (.aload_n 1, 1) := by decide +kernel
theorem dl_785 : decode code 785 = .ok (.aload_n 0, 1) := by decide +kernel
theorem dl_786 : decode code 786 = .ok (.iload_n 3, 1) := by decide +kernel
theorem dl_787 : decode code 787 = .ok (.iconst 1, 1) := by decide +kernel
theorem dl_788 : decode code 788 = .ok (.iadd, 1) := by decide +kernel
theorem dl_789 : decode code 789 = .ok (.iaload, 1) := by decide +kernel
theorem dl_790 : decode code 790 = .ok (.invokevirtual 108, 3) := by decide +kernel
theorem dl_793 : decode code 793 = .ok (.aload_n 2, 1) := by decide +kernel
theorem dl_794 : decode code 794 = .ok (.aload_n 0, 1) := by decide +kernel
theorem dl_795 : decode code 795 = .ok (.iload_n 3, 1) := by decide +kernel
theorem dl_796 : decode code 796 = .ok (.iconst 1, 1) := by decide +kernel
theorem dl_797 : decode code 797 = .ok (.iadd, 1) := by decide +kernel
theorem dl_798 : decode code 798 = .ok (.iaload, 1) := by decide +kernel
theorem dl_799 : decode code 799 = .ok (.invokevirtual 111, 3) := by decide +kernel
theorem dl_802 : decode code 802 = .ok (.if_icmp .eq 123, 3) := by decide +kernel
theorem dl_805 : decode code 805 = .ok (.iconst 0, 1) := by decide +kernel
theorem dl_806 : decode code 806 = .ok (.ireturn, 1) := by decide +kernel
theorem dl_807 : decode code 807 = .ok (.aload_n 1, 1) := by decide +kernel
theorem dl_808 : decode code 808 = .ok (.aload_n 0, 1) := by decide +kernel
theorem dl_809 : decode code 809 = .ok (.iload_n 3, 1) := by decide +kernel
theorem dl_810 : decode code 810 = .ok (.iconst 1, 1) := by decide +kernel
theorem dl_811 : decode code 811 = .ok (.iadd, 1) := by decide +kernel
theorem dl_812 : decode code 812 = .ok (.iaload, 1) := by decide +kernel
theorem dl_813 : decode code 813 = .ok (.invokevirtual 112, 3) := by decide +kernel
theorem dl_816 : decode code 816 = .ok (.aload_n 2, 1) := by decide +kernel
theorem dl_817 : decode code 817 = .ok (.aload_n 0, 1) := by decide +kernel
theorem dl_818 : decode code 818 = .ok (.iload_n 3, 1) := by decide +kernel
theorem dl_819 : decode code 819 = .ok (.iconst 1, 1) := by decide +kernel
theorem dl_820 : decode code 820 = .ok (.iadd, 1) := by decide +kernel
theorem dl_821 : decode code 821 = .ok (.iaload, 1) := by decide +kernel
theorem dl_822 : decode code 822 = .ok (.invokevirtual 115, 3) := by decide +kernel
theorem dl_825 : decode code 825 = .ok (.if_icmp .eq 100, 3) := by decide +kernel
theorem dl_828 : decode code 828 = .ok (.iconst 0, 1) := by decide +kernel
theorem dl_829 : decode code 829 = .ok (.ireturn, 1) := by decide +kernel
theorem dl_830 : decode code 830 = .ok (.aload_n 1, 1) := by decide +kernel
theorem dl_831 : decode code 831 = .ok (.aload_n 0, 1) := by decide +kernel
theorem dl_832 : decode code 832 = .ok (.iload_n 3, 1) := by decide +kernel
theorem dl_833 : decode code 833 = .ok (.iconst 1, 1) := by decide +kernel
theorem dl_834 : decode code 834 = .ok (.iadd, 1) := by decide +kernel
theorem dl_835 : decode code 835 = .ok (.iaload, 1) := by decide +kernel
theorem dl_836 : decode code 836 = .ok (.ifCond .eq 7, 3) := by decide +kernel
theorem dl_839 : decode code 839 = .ok (.iconst 1, 1) := by decide +kernel
theorem dl_840 : decode code 840 = .ok (.goto 4, 3) := by decide +kernel
theorem dl_843 : decode code 843 = .ok (.iconst 0, 1) := by decide +kernel
theorem dl_844 : decode code 844 = .ok (.aload_n 0, 1) := by decide +kernel
theorem dl_845 : decode code 845 = .ok (.iload_n 3, 1) := by decide +kernel
theorem dl_846 : decode code 846 = .ok (.iconst 2, 1) := by decide +kernel
theorem dl_847 : decode code 847 = .ok (.iadd, 1) := by decide +kernel
theorem dl_848 : decode code 848 = .ok (.iaload, 1) := by decide +kernel
theorem dl_849 : decode code 849 = .ok (.invokevirtual 116, 3) := by decide +kernel
theorem dl_852 : decode code 852 = .ok (.aload_n 2, 1) := by decide +kernel
theorem dl_853 : decode code 853 = .ok (.aload_n 0, 1) := by decide +kernel
theorem dl_854 : decode code 854 = .ok (.iload_n 3, 1) := by decide +kernel
theorem dl_855 : decode code 855 = .ok (.iconst 1, 1) := by decide +kernel
theorem dl_856 : decode code 856 = .ok (.iadd, 1) := by decide +kernel
theorem dl_857 : decode code 857 = .ok (.iaload, 1) := by decide +kernel
theorem dl_858 : decode code 858 = .ok (.ifCond .eq 7, 3) := by decide +kernel
theorem dl_861 : decode code 861 = .ok (.iconst 1, 1) := by decide +kernel
theorem dl_862 : decode code 862 = .ok (.goto 4, 3) := by decide +kernel
theorem dl_865 : decode code 865 = .ok (.iconst 0, 1) := by decide +kernel
theorem dl_866 : decode code 866 = .ok (.aload_n 0, 1) := by decide +kernel
theorem dl_867 : decode code 867 = .ok (.iload_n 3, 1) := by decide +kernel
theorem dl_868 : decode code 868 = .ok (.iconst 2, 1) := by decide +kernel
theorem dl_869 : decode code 869 = .ok (.iadd, 1) := by decide +kernel
theorem dl_870 : decode code 870 = .ok (.iaload, 1) := by decide +kernel
theorem dl_871 : decode code 871 = .ok (.invokevirtual 120, 3) := by decide +kernel
theorem dl_874 : decode code 874 = .ok (.if_icmp .eq 51, 3) := by decide +kernel
theorem dl_877 : decode code 877 = .ok (.iconst 0, 1) := by decide +kernel
theorem dl_878 : decode code 878 = .ok (.ireturn, 1) := by decide +kernel
theorem dl_879 : decode code 879 = .ok (.aload_n 1, 1) := by decide +kernel
theorem dl_880 : decode code 880 = .ok (.invokevirtual 121, 3) := by decide +kernel
theorem dl_883 : decode code 883 = .ok (.aload_n 2, 1) := by decide +kernel
theorem dl_884 : decode code 884 = .ok (.invokevirtual 124, 3) := by decide +kernel
theorem dl_887 : decode code 887 = .ok (.if_icmp .eq 38, 3) := by decide +kernel
theorem dl_890 : decode code 890 = .ok (.iconst 0, 1) := by decide +kernel
theorem dl_891 : decode code 891 = .ok (.ireturn, 1) := by decide +kernel
theorem dl_892 : decode code 892 = .ok (.aload_n 1, 1) := by decide +kernel
theorem dl_893 : decode code 893 = .ok (.aload_n 0, 1) := by decide +kernel
theorem dl_894 : decode code 894 = .ok (.iload_n 3, 1) := by decide +kernel
theorem dl_895 : decode code 895 = .ok (.iconst 1, 1) := by decide +kernel
theorem dl_896 : decode code 896 = .ok (.iadd, 1) := by decide +kernel
theorem dl_897 : decode code 897 = .ok (.iaload, 1) := by decide +kernel
theorem dl_898 : decode code 898 = .ok (.aload_n 0, 1) := by decide +kernel
theorem dl_899 : decode code 899 = .ok (.iload_n 3, 1) := by decide +kernel
theorem dl_900 : decode code 900 = .ok (.iconst 2, 1) := by decide +kernel
theorem dl_901 : decode code 901 = .ok (.iadd, 1) := by decide +kernel
theorem dl_902 : decode code 902 = .ok (.iaload, 1) := by decide +kernel
theorem dl_903 : decode code 903 = .ok (.invokevirtual 125, 3) := by decide +kernel
theorem dl_906 : decode code 906 = .ok (.aload_n 2, 1) := by decide +kernel
theorem dl_907 : decode code 907 = .ok (.aload_n 0, 1) := by decide +kernel
theorem dl_908 : decode code 908 = .ok (.iload_n 3, 1) := by decide +kernel
theorem dl_909 : decode code 909 = .ok (.iconst 1, 1) := by decide +kernel
theorem dl_910 : decode code 910 = .ok (.iadd, 1) := by decide +kernel
theorem dl_911 : decode code 911 = .ok (.iaload, 1) := by decide +kernel
theorem dl_912 : decode code 912 = .ok (.aload_n 0, 1) := by decide +kernel
theorem dl_913 : decode code 913 = .ok (.iload_n 3, 1) := by decide +kernel
theorem dl_914 : decode code 914 = .ok (.iconst 2, 1) := by decide +kernel
theorem dl_915 : decode code 915 = .ok (.iadd, 1) := by decide +kernel
theorem dl_916 : decode code 916 = .ok (.iaload, 1) := by decide +kernel
theorem dl_917 : decode code 917 = .ok (.invokevirtual 128, 3) := by decide +kernel
theorem dl_920 : decode code 920 = .ok (.if_icmp .eq 5, 3) := by decide +kernel
theorem dl_923 : decode code 923 = .ok (.iconst 0, 1) := by decide +kernel
theorem dl_924 : decode code 924 = .ok (.ireturn, 1) := by decide +kernel
theorem dl_925 : decode code 925 = .ok (.iinc 3 4, 3) := by decide +kernel
theorem dl_928 : decode code 928 = .ok (.goto (-910), 3) := by decide +kernel
theorem dl_931 : decode code 931 = .ok (.iconst 1, 1) := by decide +kernel
theorem dl_932 : decode code 932 = .ok (.ireturn, 1) := by decide +kernel
