theorem dl_900 : decode code 900 = .ok (.iaload, 1) := by decide +kernel
theorem dl_901 : decode code 901 = .ok (.invokevirtual 109, 3) := by decide +kernel
theorem dl_904 : decode code 904 = .ok (.pop, 1) := by decide +kernel
theorem dl_905 : decode code 905 = .ok (.aload_n 2, 1) := by decide +kernel
theorem dl_906 : decode code 906 = .ok (.aload_n 0, 1) := by decide +kernel
theorem dl_907 : decode code 907 = .ok (.iload_n 3, 1) := by decide +kernel
theorem dl_908 : decode code 908 = .ok (.iconst 1, 1) := by decide +kernel
theorem dl_909 : decode code 909 = .ok (.iadd, 1) := by decide +kernel
theorem dl_910 : decode code 910 = .ok (.iaload, 1) := by decide +kernel
theorem dl_911 : decode code 911 = .ok (.ifCond .eq 7, 3) := by decide +kernel
theorem dl_914 : decode code 914 = .ok (.iconst 1, 1) := by decide +kernel
theorem dl_915 : decode code 915 = .ok (.goto 4, 3) := by decide +kernel
theorem dl_918 : decode code 918 = .ok (.iconst 0, 1) := by decide +kernel
theorem dl_919 : decode code 919 = .ok (.aload_n 0, 1) := by decide +kernel
theorem dl_920 : decode code 920 = .ok (.iload_n 3, 1) := by decide +kernel
theorem dl_921 : decode code 921 = .ok (.iconst 2, 1) := by decide +kernel
theorem dl_922 : decode code 922 = .ok (.iadd, 1) := by decide +kernel
theorem dl_923 : decode code 923 = .ok (.iaload, 1) := by decide +kernel
theorem dl_924 : decode code 924 = .ok (.invokevirtual 112, 3) := by decide +kernel
theorem dl_927 : decode code 927 = .ok (.pop, 1) := by decide +kernel
theorem dl_928 : decode code 928 = .ok (.goto 297, 3) := by decide +kernel
theorem dl_931 : decode code 931 = .ok (.aload_n 1, 1) := by decide +kernel
theorem dl_932 : decode code 932 = .ok (.invokevirtual 113, 3) := by decide +kernel
theorem dl_935 : decode code 935 = .ok (.pop, 1) := by decide +kernel
theorem dl_936 : decode code 936 = .ok (.aload_n 2, 1) := by decide +kernel
theorem dl_937 : decode code 937 = .ok (.invokevirtual 116, 3) := by decide +kernel
theorem dl_940 : decode code 940 = .ok (.pop, 1) := by decide +kernel
theorem dl_941 : decode code 941 = .ok (.goto 284, 3) := by decide +kernel
theorem dl_944 : decode code 944 = .ok (.aload_n 1, 1) := by decide +kernel
theorem dl_945 : decode code 945 = .ok (.aload_n 0, 1) := by decide +kernel
theorem dl_946 : decode code 946 = .ok (.iload_n 3, 1) := by decide +kernel
theorem dl_947 : decode code 947 = .ok (.iconst 1, 1) := by decide +kernel
theorem dl_948 : decode code 948 = .ok (.iadd, 1) := by decide +kernel
theorem dl_949 : decode code 949 = .ok (.iaload, 1) := by decide +kernel
theorem dl_950 : decode code 950 = .ok (.ifCond .eq 7, 3) := by decide +kernel
theorem dl_953 : decode code 953 = .ok (.iconst 1, 1) := by decide +kernel
theorem dl_954 : decode code 954 = .ok (.goto 4, 3) := by decide +kernel
theorem dl_957 : decode code 957 = .ok (.iconst 0, 1) := by decide +kernel
theorem dl_958 : decode code 958 = .ok (.aload_n 0, 1) := by decide +kernel
theorem dl_959 : decode code 959 = .ok (.iload_n 3, 1) := by decide +kernel
theorem dl_960 : decode code 960 = .ok (.iconst 2, 1) := by decide +kernel
theorem dl_961 : decode code 961 = .ok (.iadd, 1) := by decide +kernel
theorem dl_962 : decode code 962 = .ok (.iaload, 1) := by decide +kernel
theorem dl_963 : decode code 963 = .ok (.invokevirtual 117, 3) := by decide +kernel
theorem dl_966 : decode code 966 = .ok (.pop, 1) := by decide +kernel
theorem dl_967 : decode code 967 = .ok (.aload_n 2, 1) := by decide +kernel
theorem dl_968 : decode code 968 = .ok (.aload_n 0, 1) := by decide +kernel
theorem dl_969 : decode code 969 = .ok (.iload_n 3, 1) := by decide +kernel
theorem dl_970 : decode code 970 = .ok (.iconst 1, 1) := by decide +kernel
theorem dl_971 : decode code 971 = .ok (.iadd, 1) := by decide +kernel
theorem dl_972 : decode code 972 = .ok (.iaload, 1) := by decide +kernel
theorem dl_973 : decode code 973 = .ok (.ifCond .eq 7, 3) := by decide +kernel
theorem dl_976 : decode code 976 = .ok (.iconst 1, 1) := by decide +kernel
theorem dl_977 : decode code 977 = .ok (.goto 4, 3) := by decide +kernel
theorem dl_980 : decode code 980 = .ok (.iconst 0, 1) := by decide +kernel
theorem dl_981 : decode code 981 = .ok (.aload_n 0, 1) := by decide +kernel
theorem dl_982 : decode code 982 = .ok (.iload_n 3, 1) := by decide +kernel
theorem dl_983 : decode code 983 = .ok (.iconst 2, 1) := by decide +kernel
theorem dl_984 : decode code 984 = .ok (.iadd, 1) := by decide +kernel
theorem dl_985 : decode code 985 = .ok (.iaload, 1) := by decide +kernel
theorem dl_986 : decode code 986 = .ok (.invokevirtual 120, 3) := by decide +kernel
theorem dl_989 : decode code 989 = .ok (.pop, 1) := by decide +kernel
theorem dl_990 : decode code 990 = .ok (.goto 235, 3) := by decide +kernel
theorem dl_993 : decode code 993 = .ok (.aload_n 1, 1) := by decide +kernel
theorem dl_994 : decode code 994 = .ok (.aload_n 0, 1) := by decide +kernel
theorem dl_995 : decode code 995 = .ok (.iload_n 3, 1) := by decide +kernel
theorem dl_996 : decode code 996 = .ok (.iconst 1, 1) := by decide +kernel
theorem dl_997 : decode code 997 = .ok (.iadd, 1) := by decide +kernel
theorem dl_998 : decode code 998 = .ok (.iaload, 1) := by decide +kernel
theorem dl_999 : decode code 999 = .ok (.ifCond .eq 7, 3) := by decide +kernel
theorem dl_1002 : decode code 1002 = .ok (.iconst 1, 1) := by decide +kernel
theorem dl_1003 : decode code 1003 = .ok (.goto 4, 3) := by decide +kernel
theorem dl_1006 : decode code 1006 = .ok (.iconst 0, 1) := by decide +kernel
theorem dl_1007 : decode code 1007 = .ok (.invokevirtual 121, 3) := by decide +kernel
theorem dl_1010 : decode code 1010 = .ok (.pop, 1) := by decide +kernel
theorem dl_1011 : decode code 1011 = .ok (.aload_n 2, 1) := by decide +kernel
theorem dl_1012 : decode code 1012 = .ok (.aload_n 0, 1) := by decide +kernel
theorem dl_1013 : decode code 1013 = .ok (.iload_n 3, 1) := by decide +kernel
theorem dl_1014 : decode code 1014 = .ok (.iconst 1, 1) := by decide +kernel
theorem dl_1015 : decode code 1015 = .ok (.iadd, 1) := by decide +kernel
theorem dl_1016 : decode code 1016 = .ok (.iaload, 1) := by decide +kernel
theorem dl_1017 : decode code 1017 = .ok (.ifCond .eq 7, 3) := by decide +kernel
theorem dl_1020 : decode code 1020 = .ok (.iconst 1, 1) := by decide +kernel
theorem dl_1021 : decode code 1021 = .ok (.goto 4, 3) := by decide +kernel
theorem dl_1024 : decode code 1024 = .ok (.iconst 0, 1) := by decide +kernel
theorem dl_1025 : decode code 1025 = .ok (.invokevirtual 124, 3) := by decide +kernel
theorem dl_1028 : decode code 1028 = .ok (.pop, 1) := by decide +kernel
theorem dl_1029 : decode code 1029 = .ok (.goto 196, 3) := by decide +kernel
theorem dl_1032 : decode code 1032 = .ok (.aload_n 1, 1) := by decide +kernel
theorem dl_1033 : decode code 1033 = .ok (.invokevirtual 125, 3) := by decide +kernel
theorem dl_1036 : decode code 1036 = .ok (.pop, 1) := by decide +kernel
theorem dl_1037 : decode code 1037 = .ok (.aload_n 2, 1) := by decide +kernel
theorem dl_1038 : decode code 1038 = .ok (.invokevirtual 128, 3) := by decide +kernel
theorem dl_1041 : decode code 1041 = .ok (.pop, 1) := by decide +kernel
theorem dl_1042 : decode code 1042 = .ok (.goto 183, 3) := by decide +kernel
theorem dl_1045 : decode code 1045 = .ok (.aload_n 1, 1) := by decide +kernel
theorem dl_1046 : decode code 1046 = .ok (.aload_n 0, 1) := by decide +kernel
theorem dl_1047 : decode code 1047 = .ok (.iload_n 3, 1) := by decide +kernel
theorem dl_1048 : decode code 1048 = .ok (.iconst 1, 1) := by decide +kernel
theorem dl_1049 : decode code 1049 = .ok (.iadd, 1) := by decide +kernel
theorem dl_1050 : decode code 1050 = .ok (.iaload, 1) := by decide +kernel
theorem dl_1051 : decode code 1051 = .ok (.invokevirtual 129, 3) := by decide +kernel
theorem dl_1054 : decode code 1054 = .ok (.pop, 1) := by decide +kernel
theorem dl_1055 : decode code 1055 = .ok (.aload_n 2, 1) := by decide +kernel
theorem dl_1056 : decode code 1056 = .ok (.aload_n 0, 1) := by decide +kernel
theorem dl_1057 : decode code 1057 = .ok (.iload_n 3, 1) := by decide +kernel
theorem dl_1058 : decode code 1058 = .ok (.iconst 1, 1) := by decide +kernel
theorem dl_1059 : decode code 1059 = .ok (.iadd, 1) := by decide +kernel
theorem dl_1060 : decode code 1060 = .ok (.iaload, 1) := by decide +kernel
theorem dl_1061 : decode code 1061 = .ok (.invokevirtual 132, 3) := by decide +kernel
