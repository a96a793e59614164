theorem jd_law_746 : decode code 746 = .ok (.iconst 2, 1) := by decide +kernel
theorem jd_law_747 : decode code 747 = .ok (.iadd, 1) := by decide +kernel
theorem jd_law_748 : decode code 748 = .ok (.iaload, 1) := by decide +kernel
theorem jd_law_749 : decode code 749 = .ok (.aload_n 0, 1) := by decide +kernel
theorem jd_law_750 : decode code 750 = .ok (.iload_n 3, 1) := by decide +kernel
theorem jd_law_751 : decode code 751 = .ok (.iconst 3, 1) := by decide +kernel
theorem jd_law_752 : decode code 752 = .ok (.iadd, 1) := by decide +kernel
theorem jd_law_753 : decode code 753 = .ok (.iaload, 1) := by decide +kernel
theorem jd_law_754 : decode code 754 = .ok (.invokevirtual 97, 3) := by decide +kernel
theorem jd_law_757 : decode code 757 = .ok (.aload_n 2, 1) := by decide +kernel
theorem jd_law_758 : decode code 758 = .ok (.aload_n 0, 1) := by decide +kernel
theorem jd_law_759 : decode code 759 = .ok (.iload_n 3, 1) := by decide +kernel
theorem jd_law_760 : decode code 760 = .ok (.iconst 1, 1) := by decide +kernel
theorem jd_law_761 : decode code 761 = .ok (.iadd, 1) := by decide +kernel
theorem jd_law_762 : decode code 762 = .ok (.iaload, 1) := by decide +kernel
theorem jd_law_763 : decode code 763 = .ok (.aload_n 0, 1) := by decide +kernel
theorem jd_law_764 : decode code 764 = .ok (.iload_n 3, 1) := by decide +kernel
theorem jd_law_765 : decode code 765 = .ok (.iconst 2, 1) := by decide +kernel
theorem jd_law_766 : decode code 766 = .ok (.iadd, 1) := by decide +kernel
theorem jd_law_767 : decode code 767 = .ok (.iaload, 1) := by decide +kernel
theorem jd_law_768 : decode code 768 = .ok (.aload_n 0, 1) := by decide +kernel
theorem jd_law_769 : decode code 769 = .ok (.iload_n 3, 1) := by decide +kernel
theorem jd_law_770 : decode code 770 = .ok (.iconst 3, 1) := by decide +kernel
theorem jd_law_771 : decode code 771 = .ok (.iadd, 1) := by decide +kernel
theorem jd_law_772 : decode code 772 = .ok (.iaload, 1) := by decide +kernel
theorem jd_law_773 : decode code 773 = .ok (.invokevirtual 100, 3) := by decide +kernel
theorem jd_law_776 : decode code 776 = .ok (.if_icmp .eq 252, 3) := by decide +kernel
theorem jd_law_779 : decode code 779 = .ok (.iconst 0, 1) := by decide +kernel
theorem jd_law_780 : decode code 780 = .ok (.ireturn, 1) := by decide +kernel
theorem jd_law_781 : decode code 781 = .ok (.aload_n 1, 1) := by decide +kernel
theorem jd_law_782 : decode code 782 = .ok (.aload_n 0, 1) := by decide +kernel
theorem jd_law_783 : decode code 783 = .ok (.iload_n 3, 1) := by decide +kernel
theorem jd_law_784 : decode code 784 = .ok (.iconst 1, 1) := by decide +kernel
theorem jd_law_785 : decode code 785 = .ok (.iadd, 1) := by decide +kernel
theorem jd_law_786 : decode code 786 = .ok (.iaload, 1) := by decide +kernel
theorem jd_law_787 : decode code 787 = .ok (.aload_n 0, 1) := by decide +kernel
theorem jd_law_788 : decode code 788 = .ok (.iload_n 3, 1) := by decide +kernel
theorem jd_law_789 : decode code 789 = .ok (.iconst 2, 1) := by decide +kernel
theorem jd_law_790 : decode code 790 = .ok (.iadd, 1) := by decide +kernel
theorem jd_law_791 : decode code 791 = .ok (.iaload, 1) := by decide +kernel
theorem jd_law_792 : decode code 792 = .ok (.invokevirtual 101, 3) := by decide +kernel
theorem jd_law_795 : decode code 795 = .ok (.aload_n 2, 1) := by decide +kernel
theorem jd_law_796 : decode code 796 = .ok (.aload_n 0, 1) := by decide +kernel
theorem jd_law_797 : decode code 797 = .ok (.iload_n 3, 1) := by decide +kernel
theorem jd_law_798 : decode code 798 = .ok (.iconst 1, 1) := by decide +kernel
theorem jd_law_799 : decode code 799 = .ok (.iadd, 1) := by decide +kernel
theorem jd_law_800 : decode code 800 = .ok (.iaload, 1) := by decide +kernel
theorem jd_law_801 : decode code 801 = .ok (.aload_n 0, 1) := by decide +kernel
theorem jd_law_802 : decode code 802 = .ok (.iload_n 3, 1) := by decide +kernel
theorem jd_law_803 : decode code 803 = .ok (.iconst 2, 1) := by decide +kernel
theorem jd_law_804 : decode code 804 = .ok (.iadd, 1) := by decide +kernel
theorem jd_law_805 : decode code 805 = .ok (.iaload, 1) := by decide +kernel
theorem jd_law_806 : decode code 806 = .ok (.invokevirtual 104, 3) := by decide +kernel
theorem jd_law_809 : decode code 809 = .ok (.if_icmp .eq 219, 3) := by decide +kernel
theorem jd_law_812 : decode code 812 = .ok (.iconst 0, 1) := by decide +kernel
theorem jd_law_813 : decode code 813 = .ok (.ireturn, 1) := by decide +kernel
theorem jd_law_814 : decode code 814 = .ok (.aload_n 1, 1) := by decide +kernel
theorem jd_law_815 : decode code 815 = .ok (.invokevirtual 105, 3) := by decide +kernel
theorem jd_law_818 : decode code 818 = .ok (.aload_n 2, 1) := by decide +kernel
theorem jd_law_819 : decode code 819 = .ok (.invokevirtual 108, 3) := by decide +kernel
theorem jd_law_822 : decode code 822 = .ok (.if_icmp .eq 206, 3) := by decide +kernel
theorem jd_law_825 : decode code 825 = .ok (.iconst 0, 1) := by decide +kernel
theorem jd_law_826 : decode code 826 = .ok (.ireturn, 1) := by decide +kernel
theorem jd_law_827 : decode code 827 = .ok (.aload_n 1, 1) := by decide +kernel
theorem jd_law_828 : decode code 828 = .ok (.invokevirtual 109, 3) := by decide +kernel
theorem jd_law_831 : decode code 831 = .ok (.aload_n 2, 1) := by decide +kernel
theorem jd_law_832 : decode code 832 = .ok (.invokevirtual 112, 3) := by decide +kernel
theorem jd_law_835 : decode code 835 = .ok (.if_icmp .eq 193, 3) := by decide +kernel
theorem jd_law_838 : decode code 838 = .ok (.iconst 0, 1) := by decide +kernel
theorem jd_law_839 : decode code 839 = .ok (.ireturn, 1) := by decide +kernel
theorem jd_law_840 : decode code 840 = .ok (.aload_n 1, 1) := by decide +kernel
theorem jd_law_841 : decode code 841 = .ok (.aload_n 0, 1) := by decide +kernel
theorem jd_law_842 : decode code 842 = .ok (.iload_n 3, 1) := by decide +kernel
theorem jd_law_843 : decode code 843 = .ok (.iconst 1, 1) := by decide +kernel
theorem jd_law_844 : decode code 844 = .ok (.iadd, 1) := by decide +kernel
theorem jd_law_845 : decode code 845 = .ok (.iaload, 1) := by decide +kernel
theorem jd_law_846 : decode code 846 = .ok (.aload_n 0, 1) := by decide +kernel
theorem jd_law_847 : decode code 847 = .ok (.iload_n 3, 1) := by decide +kernel
theorem jd_law_848 : decode code 848 = .ok (.iconst 2, 1) := by decide +kernel
theorem jd_law_849 : decode code 849 = .ok (.iadd, 1) := by decide +kernel
theorem jd_law_850 : decode code 850 = .ok (.iaload, 1) := by decide +kernel
theorem jd_law_851 : decode code 851 = .ok (.invokevirtual 113, 3) := by decide +kernel
theorem jd_law_854 : decode code 854 = .ok (.aload_n 2, 1) := by decide +kernel
theorem jd_law_855 : decode code 855 = .ok (.aload_n 0, 1) := by decide +kernel
theorem jd_law_856 : decode code 856 = .ok (.iload_n 3, 1) := by decide +kernel
theorem jd_law_857 : decode code 857 = .ok (.iconst 1, 1) := by decide +kernel
theorem jd_law_858 : decode code 858 = .ok (.iadd, 1) := by decide +kernel
theorem jd_law_859 : decode code 859 = .ok (.iaload, 1) := by decide +kernel
theorem jd_law_860 : decode code 860 = .ok (.aload_n 0, 1) := by decide +kernel
theorem jd_law_861 : decode code 861 = .ok (.iload_n 3, 1) := by decide +kernel
theorem jd_law_862 : decode code 862 = .ok (.iconst 2, 1) := by decide +kernel
theorem jd_law_863 : decode code 863 = .ok (.iadd, 1) := by decide +kernel
theorem jd_law_864 : decode code 864 = .ok (.iaload, 1) := by decide +kernel
theorem jd_law_865 : decode code 865 = .ok (.invokevirtual 116, 3) := by decide +kernel
theorem jd_law_868 : decode code 868 = .ok (.if_icmp .eq 160, 3) := by decide +kernel
theorem jd_law_871 : decode code 871 = .ok (.iconst 0, 1) := by decide +kernel
theorem jd_law_872 : decode code 872 = .ok (.ireturn, 1) := by decide +kernel
theorem jd_law_873 : decode code 873 = .ok (.aload_n 1, 1) := by decide +kernel
theorem jd_law_874 : decode code 874 = .ok (.aload_n 0, 1) := by decide +kernel
theorem jd_law_875 : decode code 875 = .ok (.iload_n 3, 1) := by decide +kernel
theorem jd_law_876 : decode code 876 = .ok (.iconst 1, 1) := by decide +kernel
theorem jd_law_877 : decode code 877 = .ok (.iadd, 1) := by decide +kernel
theorem jd_law_878 : decode code 878 = .ok (.iaload, 1) := by decide +kernel
theorem jd_law_879 : decode code 879 = .ok (.aload_n 0, 1) := by decide +kernel
theorem jd_law_880 : decode code 880 = .ok (.iload_n 3, 1) := by decide +kernel
theorem jd_law_881 : decode code 881 = .ok (.iconst 2, 1) := by decide +kernel
theorem jd_law_882 : decode code 882 = .ok (.iadd, 1) := by decide +kernel
theorem jd_law_883 : decode code 883 = .ok (.iaload, 1) := by decide +kernel
theorem jd_law_884 : decode code 884 = .ok (.aload_n 0, 1) := by decide +kernel
theorem jd_law_885 : decode code 885 = .ok (.iload_n 3, 1) := by decide +kernel
theorem jd_law_886 : decode code 886 = .ok (.iconst 3, 1) := by decide +kernel
theorem jd_law_887 : decode code 887 = .ok (.iadd, 1) := by decide +kernel
theorem jd_law_888 : decode code 888 = .ok (.iaload, 1) := by decide +kernel
theorem jd_law_889 : decode code 889 = .ok (.aload_n 0, 1) := by decide +kernel
theorem jd_law_890 : decode code 890 = .ok (.iload_n 3, 1) := by decide +kernel
theorem jd_law_891 : decode code 891 = .ok (.iconst 4, 1) := by decide +kernel
theorem jd_law_892 : decode code 892 = .ok (.iadd, 1) := by decide +kernel
theorem jd_law_893 : decode code 893 = .ok (.iaload, 1) := by decide +kernel
theorem jd_law_894 : decode code 894 = .ok (.aload_n 0, 1) := by decide +kernel
theorem jd_law_895 : decode code 895 = .ok (.iload_n 3, 1) := by decide +kernel
