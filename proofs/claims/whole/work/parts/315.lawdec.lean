theorem jd_law_896 : decode code 896 = .ok (.iconst 5, 1) := by decide +kernel
theorem jd_law_897 : decode code 897 = .ok (.iadd, 1) := by decide +kernel
theorem jd_law_898 : decode code 898 = .ok (.iaload, 1) := by decide +kernel
theorem jd_law_899 : decode code 899 = .ok (.invokevirtual 117, 3) := by decide +kernel
theorem jd_law_902 : decode code 902 = .ok (.aload_n 2, 1) := by decide +kernel
theorem jd_law_903 : decode code 903 = .ok (.aload_n 0, 1) := by decide +kernel
theorem jd_law_904 : decode code 904 = .ok (.iload_n 3, 1) := by decide +kernel
theorem jd_law_905 : decode code 905 = .ok (.iconst 1, 1) := by decide +kernel
theorem jd_law_906 : decode code 906 = .ok (.iadd, 1) := by decide +kernel
theorem jd_law_907 : decode code 907 = .ok (.iaload, 1) := by decide +kernel
theorem jd_law_908 : decode code 908 = .ok (.aload_n 0, 1) := by decide +kernel
theorem jd_law_909 : decode code 909 = .ok (.iload_n 3, 1) := by decide +kernel
theorem jd_law_910 : decode code 910 = .ok (.iconst 2, 1) := by decide +kernel
theorem jd_law_911 : decode code 911 = .ok (.iadd, 1) := by decide +kernel
theorem jd_law_912 : decode code 912 = .ok (.iaload, 1) := by decide +kernel
theorem jd_law_913 : decode code 913 = .ok (.aload_n 0, 1) := by decide +kernel
theorem jd_law_914 : decode code 914 = .ok (.iload_n 3, 1) := by decide +kernel
theorem jd_law_915 : decode code 915 = .ok (.iconst 3, 1) := by decide +kernel
theorem jd_law_916 : decode code 916 = .ok (.iadd, 1) := by decide +kernel
theorem jd_law_917 : decode code 917 = .ok (.iaload, 1) := by decide +kernel
theorem jd_law_918 : decode code 918 = .ok (.aload_n 0, 1) := by decide +kernel
theorem jd_law_919 : decode code 919 = .ok (.iload_n 3, 1) := by decide +kernel
theorem jd_law_920 : decode code 920 = .ok (.iconst 4, 1) := by decide +kernel
theorem jd_law_921 : decode code 921 = .ok (.iadd, 1) := by decide +kernel
theorem jd_law_922 : decode code 922 = .ok (.iaload, 1) := by decide +kernel
theorem jd_law_923 : decode code 923 = .ok (.aload_n 0, 1) := by decide +kernel
theorem jd_law_924 : decode code 924 = .ok (.iload_n 3, 1) := by decide +kernel
theorem jd_law_925 : decode code 925 = .ok (.iconst 5, 1) := by decide +kernel
theorem jd_law_926 : decode code 926 = .ok (.iadd, 1) := by decide +kernel
theorem jd_law_927 : decode code 927 = .ok (.iaload, 1) := by decide +kernel
theorem jd_law_928 : decode code 928 = .ok (.invokevirtual 121, 3) := by decide +kernel
theorem jd_law_931 : decode code 931 = .ok (.if_icmp .eq 97, 3) := by decide +kernel
theorem jd_law_934 : decode code 934 = .ok (.iconst 0, 1) := by decide +kernel
theorem jd_law_935 : decode code 935 = .ok (.ireturn, 1) := by decide +kernel
theorem jd_law_936 : decode code 936 = .ok (.aload_n 1, 1) := by decide +kernel
theorem jd_law_937 : decode code 937 = .ok (.aload_n 0, 1) := by decide +kernel
theorem jd_law_938 : decode code 938 = .ok (.iload_n 3, 1) := by decide +kernel
theorem jd_law_939 : decode code 939 = .ok (.iconst 1, 1) := by decide +kernel
theorem jd_law_940 : decode code 940 = .ok (.iadd, 1) := by decide +kernel
theorem jd_law_941 : decode code 941 = .ok (.iaload, 1) := by decide +kernel
theorem jd_law_942 : decode code 942 = .ok (.aload_n 0, 1) := by decide +kernel
theorem jd_law_943 : decode code 943 = .ok (.iload_n 3, 1) := by decide +kernel
theorem jd_law_944 : decode code 944 = .ok (.iconst 2, 1) := by decide +kernel
theorem jd_law_945 : decode code 945 = .ok (.iadd, 1) := by decide +kernel
theorem jd_law_946 : decode code 946 = .ok (.iaload, 1) := by decide +kernel
theorem jd_law_947 : decode code 947 = .ok (.aload_n 0, 1) := by decide +kernel
theorem jd_law_948 : decode code 948 = .ok (.iload_n 3, 1) := by decide +kernel
theorem jd_law_949 : decode code 949 = .ok (.iconst 3, 1) := by decide +kernel
theorem jd_law_950 : decode code 950 = .ok (.iadd, 1) := by decide +kernel
theorem jd_law_951 : decode code 951 = .ok (.iaload, 1) := by decide +kernel
theorem jd_law_952 : decode code 952 = .ok (.invokevirtual 122, 3) := by decide +kernel
theorem jd_law_955 : decode code 955 = .ok (.aload_n 2, 1) := by decide +kernel
theorem jd_law_956 : decode code 956 = .ok (.aload_n 0, 1) := by decide +kernel
theorem jd_law_957 : decode code 957 = .ok (.iload_n 3, 1) := by decide +kernel
theorem jd_law_958 : decode code 958 = .ok (.iconst 1, 1) := by decide +kernel
theorem jd_law_959 : decode code 959 = .ok (.iadd, 1) := by decide +kernel
theorem jd_law_960 : decode code 960 = .ok (.iaload, 1) := by decide +kernel
theorem jd_law_961 : decode code 961 = .ok (.aload_n 0, 1) := by decide +kernel
theorem jd_law_962 : decode code 962 = .ok (.iload_n 3, 1) := by decide +kernel
theorem jd_law_963 : decode code 963 = .ok (.iconst 2, 1) := by decide +kernel
theorem jd_law_964 : decode code 964 = .ok (.iadd, 1) := by decide +kernel
theorem jd_law_965 : decode code 965 = .ok (.iaload, 1) := by decide +kernel
theorem jd_law_966 : decode code 966 = .ok (.aload_n 0, 1) := by decide +kernel
theorem jd_law_967 : decode code 967 = .ok (.iload_n 3, 1) := by decide +kernel
theorem jd_law_968 : decode code 968 = .ok (.iconst 3, 1) := by decide +kernel
theorem jd_law_969 : decode code 969 = .ok (.iadd, 1) := by decide +kernel
theorem jd_law_970 : decode code 970 = .ok (.iaload, 1) := by decide +kernel
theorem jd_law_971 : decode code 971 = .ok (.invokevirtual 125, 3) := by decide +kernel
theorem jd_law_974 : decode code 974 = .ok (.if_icmp .eq 54, 3) := by decide +kernel
theorem jd_law_977 : decode code 977 = .ok (.iconst 0, 1) := by decide +kernel
theorem jd_law_978 : decode code 978 = .ok (.ireturn, 1) := by decide +kernel
theorem jd_law_979 : decode code 979 = .ok (.aload_n 1, 1) := by decide +kernel
theorem jd_law_980 : decode code 980 = .ok (.invokevirtual 126, 3) := by decide +kernel
theorem jd_law_983 : decode code 983 = .ok (.aload_n 2, 1) := by decide +kernel
theorem jd_law_984 : decode code 984 = .ok (.invokevirtual 129, 3) := by decide +kernel
theorem jd_law_987 : decode code 987 = .ok (.if_icmp .eq 41, 3) := by decide +kernel
theorem jd_law_990 : decode code 990 = .ok (.iconst 0, 1) := by decide +kernel
theorem jd_law_991 : decode code 991 = .ok (.ireturn, 1) := by decide +kernel
theorem jd_law_992 : decode code 992 = .ok (.aload_n 1, 1) := by decide +kernel
theorem jd_law_993 : decode code 993 = .ok (.invokevirtual 130, 3) := by decide +kernel
theorem jd_law_996 : decode code 996 = .ok (.aload_n 2, 1) := by decide +kernel
theorem jd_law_997 : decode code 997 = .ok (.invokevirtual 133, 3) := by decide +kernel
theorem jd_law_1000 : decode code 1000 = .ok (.if_icmp .eq 28, 3) := by decide +kernel
theorem jd_law_1003 : decode code 1003 = .ok (.iconst 0, 1) := by decide +kernel
theorem jd_law_1004 : decode code 1004 = .ok (.ireturn, 1) := by decide +kernel
theorem jd_law_1005 : decode code 1005 = .ok (.aload_n 1, 1) := by decide +kernel
theorem jd_law_1006 : decode code 1006 = .ok (.aload_n 0, 1) := by decide +kernel
theorem jd_law_1007 : decode code 1007 = .ok (.iload_n 3, 1) := by decide +kernel
theorem jd_law_1008 : decode code 1008 = .ok (.iconst 1, 1) := by decide +kernel
theorem jd_law_1009 : decode code 1009 = .ok (.iadd, 1) := by decide +kernel
theorem jd_law_1010 : decode code 1010 = .ok (.iaload, 1) := by decide +kernel
theorem jd_law_1011 : decode code 1011 = .ok (.invokevirtual 134, 3) := by decide +kernel
theorem jd_law_1014 : decode code 1014 = .ok (.aload_n 2, 1) := by decide +kernel
theorem jd_law_1015 : decode code 1015 = .ok (.aload_n 0, 1) := by decide +kernel
theorem jd_law_1016 : decode code 1016 = .ok (.iload_n 3, 1) := by decide +kernel
theorem jd_law_1017 : decode code 1017 = .ok (.iconst 1, 1) := by decide +kernel
theorem jd_law_1018 : decode code 1018 = .ok (.iadd, 1) := by decide +kernel
theorem jd_law_1019 : decode code 1019 = .ok (.iaload, 1) := by decide +kernel
theorem jd_law_1020 : decode code 1020 = .ok (.invokevirtual 137, 3) := by decide +kernel
theorem jd_law_1023 : decode code 1023 = .ok (.if_icmp .eq 5, 3) := by decide +kernel
theorem jd_law_1026 : decode code 1026 = .ok (.iconst 0, 1) := by decide +kernel
theorem jd_law_1027 : decode code 1027 = .ok (.ireturn, 1) := by decide +kernel
theorem jd_law_1028 : decode code 1028 = .ok (.iinc 3 6, 3) := by decide +kernel
theorem jd_law_1031 : decode code 1031 = .ok (.goto (-1013), 3) := by decide +kernel
theorem jd_law_1034 : decode code 1034 = .ok (.iconst 1, 1) := by decide +kernel
theorem jd_law_1035 : decode code 1035 = .ok (.ireturn, 1) := by decide +kernel
