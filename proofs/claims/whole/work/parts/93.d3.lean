/-! THE LAW: its instructions -/
theorem dl_888 : decode code 888 = .ok (.iload_n 3, 1) := by decide +kernel
theorem dl_889 : decode code 889 = .ok (.iconst 2, 1) := by decide +kernel
theorem dl_890 : decode code 890 = .ok (.iadd, 1) := by decide +kernel
theorem dl_891 : decode code 891 = .ok (.iaload, 1) := by decide +kernel
theorem dl_892 : decode code 892 = .ok (.invokevirtual 95, 3) := by decide +kernel
theorem dl_895 : decode code 895 = .ok (.aload_n 2, 1) := by decide +kernel
theorem dl_896 : decode code 896 = .ok (.aload_n 0, 1) := by decide +kernel
theorem dl_897 : decode code 897 = .ok (.iload_n 3, 1) := by decide +kernel
theorem dl_898 : decode code 898 = .ok (.iconst 1, 1) := by decide +kernel
theorem dl_899 : decode code 899 = .ok (.iadd, 1) := by decide +kernel
theorem dl_900 : decode code 900 = .ok (.iaload, 1) := by decide +kernel
theorem dl_901 : decode code 901 = .ok (.aload_n 0, 1) := by decide +kernel
theorem dl_902 : decode code 902 = .ok (.iload_n 3, 1) := by decide +kernel
theorem dl_903 : decode code 903 = .ok (.iconst 2, 1) := by decide +kernel
theorem dl_904 : decode code 904 = .ok (.iadd, 1) := by decide +kernel
theorem dl_905 : decode code 905 = .ok (.iaload, 1) := by decide +kernel
theorem dl_906 : decode code 906 = .ok (.invokevirtual 98, 3) := by decide +kernel
theorem dl_909 : decode code 909 = .ok (.if_icmp .eq 460, 3) := by decide +kernel
theorem dl_912 : decode code 912 = .ok (.iconst 0, 1) := by decide +kernel
theorem dl_913 : decode code 913 = .ok (.ireturn, 1) := by decide +kernel
theorem dl_914 : decode code 914 = .ok (.aload_n 1, 1) := by decide +kernel
theorem dl_915 : decode code 915 = .ok (.invokevirtual 99, 3) := by decide +kernel
theorem dl_918 : decode code 918 = .ok (.aload_n 2, 1) := by decide +kernel
theorem dl_919 : decode code 919 = .ok (.invokevirtual 102, 3) := by decide +kernel
theorem dl_922 : decode code 922 = .ok (.if_icmp .eq 447, 3) := by decide +kernel
theorem dl_925 : decode code 925 = .ok (.iconst 0, 1) := by decide +kernel
theorem dl_926 : decode code 926 = .ok (.ireturn, 1) := by decide +kernel
theorem dl_927 : decode code 927 = .ok (.aload_n 1, 1) := by decide +kernel
theorem dl_928 : decode code 928 = .ok (.aload_n 0, 1) := by decide +kernel
theorem dl_929 : decode code 929 = .ok (.iload_n 3, 1) := by decide +kernel
theorem dl_930 : decode code 930 = .ok (.iconst 1, 1) := by decide +kernel
theorem dl_931 : decode code 931 = .ok (.iadd, 1) := by decide +kernel
theorem dl_932 : decode code 932 = .ok (.iaload, 1) := by decide +kernel
theorem dl_933 : decode code 933 = .ok (.aload_n 0, 1) := by decide +kernel
theorem dl_934 : decode code 934 = .ok (.iload_n 3, 1) := by decide +kernel
theorem dl_935 : decode code 935 = .ok (.iconst 2, 1) := by decide +kernel
theorem dl_936 : decode code 936 = .ok (.iadd, 1) := by decide +kernel
theorem dl_937 : decode code 937 = .ok (.iaload, 1) := by decide +kernel
theorem dl_938 : decode code 938 = .ok (.invokevirtual 103, 3) := by decide +kernel
theorem dl_941 : decode code 941 = .ok (.aload_n 2, 1) := by decide +kernel
theorem dl_942 : decode code 942 = .ok (.aload_n 0, 1) := by decide +kernel
theorem dl_943 : decode code 943 = .ok (.iload_n 3, 1) := by decide +kernel
theorem dl_944 : decode code 944 = .ok (.iconst 1, 1) := by decide +kernel
theorem dl_945 : decode code 945 = .ok (.iadd, 1) := by decide +kernel
theorem dl_946 : decode code 946 = .ok (.iaload, 1) := by decide +kernel
theorem dl_947 : decode code 947 = .ok (.aload_n 0, 1) := by decide +kernel
theorem dl_948 : decode code 948 = .ok (.iload_n 3, 1) := by decide +kernel
theorem dl_949 : decode code 949 = .ok (.iconst 2, 1) := by decide +kernel
theorem dl_950 : decode code 950 = .ok (.iadd, 1) := by decide +kernel
theorem dl_951 : decode code 951 = .ok (.iaload, 1) := by decide +kernel
theorem dl_952 : decode code 952 = .ok (.invokevirtual 106, 3) := by decide +kernel
theorem dl_955 : decode code 955 = .ok (.if_icmp .eq 414, 3) := by decide +kernel
theorem dl_958 : decode code 958 = .ok (.iconst 0, 1) := by decide +kernel
theorem dl_959 : decode code 959 = .ok (.ireturn, 1) := by decide +kernel
theorem dl_960 : decode code 960 = .ok (.aload_n 1, 1) := by decide +kernel
theorem dl_961 : decode code 961 = .ok (.aload_n 0, 1) := by decide +kernel
theorem dl_962 : decode code 962 = .ok (.iload_n 3, 1) := by decide +kernel
theorem dl_963 : decode code 963 = .ok (.iconst 1, 1) := by decide +kernel
theorem dl_964 : decode code 964 = .ok (.iadd, 1) := by decide +kernel
theorem dl_965 : decode code 965 = .ok (.iaload, 1) := by decide +kernel
theorem dl_966 : decode code 966 = .ok (.aload_n 0, 1) := by decide +kernel
theorem dl_967 : decode code 967 = .ok (.iload_n 3, 1) := by decide +kernel
theorem dl_968 : decode code 968 = .ok (.iconst 2, 1) := by decide +kernel
theorem dl_969 : decode code 969 = .ok (.iadd, 1) := by decide +kernel
theorem dl_970 : decode code 970 = .ok (.iaload, 1) := by decide +kernel
theorem dl_971 : decode code 971 = .ok (.invokevirtual 107, 3) := by decide +kernel
theorem dl_974 : decode code 974 = .ok (.aload_n 2, 1) := by decide +kernel
theorem dl_975 : decode code 975 = .ok (.aload_n 0, 1) := by decide +kernel
theorem dl_976 : decode code 976 = .ok (.iload_n 3, 1) := by decide +kernel
theorem dl_977 : decode code 977 = .ok (.iconst 1, 1) := by decide +kernel
theorem dl_978 : decode code 978 = .ok (.iadd, 1) := by decide +kernel
theorem dl_979 : decode code 979 = .ok (.iaload, 1) := by decide +kernel
theorem dl_980 : decode code 980 = .ok (.aload_n 0, 1) := by decide +kernel
theorem dl_981 : decode code 981 = .ok (.iload_n 3, 1) := by decide +kernel
theorem dl_982 : decode code 982 = .ok (.iconst 2, 1) := by decide +kernel
theorem dl_983 : decode code 983 = .ok (.iadd, 1) := by decide +kernel
theorem dl_984 : decode code 984 = .ok (.iaload, 1) := by decide +kernel
theorem dl_985 : decode code 985 = .ok (.invokevirtual 110, 3) := by decide +kernel
theorem dl_988 : decode code 988 = .ok (.if_icmp .eq 381, 3) := by decide +kernel
theorem dl_991 : decode code 991 = .ok (.iconst 0, 1) := by decide +kernel
theorem dl_992 : decode code 992 = .ok (.ireturn, 1) := by decide +kernel
theorem dl_993 : decode code 993 = .ok (.aload_n 1, 1) := by decide +kernel
theorem dl_994 : decode code 994 = .ok (.aload_n 0, 1) := by decide +kernel
theorem dl_995 : decode code 995 = .ok (.iload_n 3, 1) := by decide +kernel
theorem dl_996 : decode code 996 = .ok (.iconst 1, 1) := by decide +kernel
theorem dl_997 : decode code 997 = .ok (.iadd, 1) := by decide +kernel
theorem dl_998 : decode code 998 = .ok (.iaload, 1) := by decide +kernel
theorem dl_999 : decode code 999 = .ok (.invokevirtual 111, 3) := by decide +kernel
theorem dl_1002 : decode code 1002 = .ok (.aload_n 2, 1) := by decide +kernel
theorem dl_1003 : decode code 1003 = .ok (.aload_n 0, 1) := by decide +kernel
theorem dl_1004 : decode code 1004 = .ok (.iload_n 3, 1) := by decide +kernel
theorem dl_1005 : decode code 1005 = .ok (.iconst 1, 1) := by decide +kernel
theorem dl_1006 : decode code 1006 = .ok (.iadd, 1) := by decide +kernel
theorem dl_1007 : decode code 1007 = .ok (.iaload, 1) := by decide +kernel
theorem dl_1008 : decode code 1008 = .ok (.invokevirtual 114, 3) := by decide +kernel
theorem dl_1011 : decode code 1011 = .ok (.if_icmp .eq 358, 3) := by decide +kernel
theorem dl_1014 : decode code 1014 = .ok (.iconst 0, 1) := by decide +kernel
theorem dl_1015 : decode code 1015 = .ok (.ireturn, 1) := by decide +kernel
theorem dl_1016 : decode code 1016 = .ok (.aload_n 1, 1) := by decide +kernel
theorem dl_1017 : decode code 1017 = .ok (.aload_n 0, 1) := by decide +kernel
theorem dl_1018 : decode code 1018 = .ok (.iload_n 3, 1) := by decide +kernel
theorem dl_1019 : decode code 1019 = .ok (.iconst 1, 1) := by decide +kernel
theorem dl_1020 : decode code 1020 = .ok (.iadd, 1) := by decide +kernel
theorem dl_1021 : decode code 1021 = .ok (.iaload, 1) := by decide +kernel
theorem dl_1022 : decode code 1022 = .ok (.invokevirtual 115, 3) := by decide +kernel
theorem dl_1025 : decode code 1025 = .ok (.aload_n 2, 1) := by decide +kernel
theorem dl_1026 : decode code 1026 = .ok (.aload_n 0, 1) := by decide +kernel
theorem dl_1027 : decode code 1027 = .ok (.iload_n 3, 1) := by decide +kernel
theorem dl_1028 : decode code 1028 = .ok (.iconst 1, 1) := by decide +kernel
theorem dl_1029 : decode code 1029 = .ok (.iadd, 1) := by decide +kernel
theorem dl_1030 : decode code 1030 = .ok (.iaload, 1) := by decide +kernel
theorem dl_1031 : decode code 1031 = .ok (.invokevirtual 118, 3) := by decide +kernel
theorem dl_1034 : decode code 1034 = .ok (.if_icmp .eq 335, 3) := by decide +kernel
theorem dl_1037 : decode code 1037 = .ok (.iconst 0, 1) := by decide +kernel
theorem dl_1038 : decode code 1038 = .ok (.ireturn, 1) := by decide +kernel
theorem dl_1039 : decode code 1039 = .ok (.aload_n 1, 1) := by decide +kernel
theorem dl_1040 : decode code 1040 = .ok (.aload_n 0, 1) := by decide +kernel
theorem dl_1041 : decode code 1041 = .ok (.iload_n 3, 1) := by decide +kernel
theorem dl_1042 : decode code 1042 = .ok (.iconst 1, 1) := by decide +kernel
theorem dl_1043 : decode code 1043 = .ok (.iadd, 1) := by decide +kernel
theorem dl_1044 : decode code 1044 = .ok (.iaload, 1) := by decide +kernel
theorem dl_1045 : decode code 1045 = .ok (.invokevirtual 119, 3) := by decide +kernel
theorem dl_1048 : decode code 1048 = .ok (.aload_n 2, 1) := by decide +kernel
theorem dl_1049 : decode code 1049 = .ok (.aload_n 0, 1) := by decide +kernel
theorem dl_1050 : decode code 1050 = .ok (.iload_n 3, 1) := by decide +kernel
theorem dl_1051 : decode code 1051 = .ok (.iconst 1, 1) := by decide +kernel
theorem dl_1052 : decode code 1052 = .ok (.iadd, 1) := by decide +kernel
theorem dl_1053 : decode code 1053 = .ok (.iaload, 1) := by decide +kernel
theorem dl_1054 : decode code 1054 = .ok (.invokevirtual 122, 3) := by decide +kernel
theorem dl_1057 : decode code 1057 = .ok (.if_icmp .eq 312, 3) := by decide +kernel
theorem dl_1060 : decode code 1060 = .ok (.iconst 0, 1) := by decide +kernel
theorem dl_1061 : decode code 1061 = .ok (.ireturn, 1) := by decide +kernel
theorem dl_1062 : decode code 1062 = .ok (.aload_n 1, 1) := by decide +kernel
theorem dl_1063 : decode code 1063 = .ok (.aload_n 0, 1) := by decide +kernel
theorem dl_1064 : decode code 1064 = .ok (.iload_n 3, 1) := by decide +kernel
theorem dl_1065 : decode code 1065 = .ok (.iconst 1, 1) := by decide +kernel
theorem dl_1066 : decode code 1066 = .ok (.iadd, 1) := by decide +kernel
theorem dl_1067 : decode code 1067 = .ok (.iaload, 1) := by decide +kernel
theorem dl_1068 : decode code 1068 = .ok (.aload_n 0, 1) := by decide +kernel
theorem dl_1069 : decode code 1069 = .ok (.iload_n 3, 1) := by decide +kernel
theorem dl_1070 : decode code 1070 = .ok (.iconst 2, 1) := by decide +kernel
theorem dl_1071 : decode code 1071 = .ok (.iadd, 1) := by decide +kernel
theorem dl_1072 : decode code 1072 = .ok (.iaload, 1) := by decide +kernel
theorem dl_1073 : decode code 1073 = .ok (.invokevirtual 123, 3) := by decide +kernel
theorem dl_1076 : decode code 1076 = .ok (.aload_n 2, 1) := by decide +kernel
theorem dl_1077 : decode code 1077 = .ok (.aload_n 0, 1) := by decide +kernel
theorem dl_1078 : decode code 1078 = .ok (.iload_n 3, 1) := by decide +kernel
theorem dl_1079 : decode code 1079 = .ok (.iconst 1, 1) := by decide +kernel
theorem dl_1080 : decode code 1080 = .ok (.iadd, 1) := by decide +kernel
theorem dl_1081 : decode code 1081 = .ok (.iaload, 1) := by decide +kernel
theorem dl_1082 : decode code 1082 = .ok (.aload_n 0, 1) := by decide +kernel
theorem dl_1083 : decode code 1083 = .ok (.iload_n 3, 1) := by decide +kernel
theorem dl_1084 : decode code 1084 = .ok (.iconst 2, 1) := by decide +kernel
theorem dl_1085 : decode code 1085 = .ok (.iadd, 1) := by decide +kernel
theorem dl_1086 : decode code 1086 = .ok (.iaload, 1) := by decide +kernel
theorem dl_1087 : decode code 1087 = .ok (.invokevirtual 126, 3) := by decide +kernel
theorem dl_1090 : decode code 1090 = .ok (.if_icmp .eq 279, 3) := by decide +kernel
theorem dl_1093 : decode code 1093 = .ok (.iconst 0, 1) := by decide +kernel
theorem dl_1094 : decode code 1094 = .ok (.ireturn, 1) := by decide +kernel
theorem dl_1095 : decode code 1095 = .ok (.aload_n 1, 1) := by decide +kernel
theorem dl_1096 : decode code 1096 = .ok (.aload_n 0, 1) := by decide +kernel
theorem dl_1097 : decode code 1097 = .ok (.iload_n 3, 1) := by decide +kernel
theorem dl_1098 : decode code 1098 = .ok (.iconst 1, 1) := by decide +kernel
theorem dl_1099 : decode code 1099 = .ok (.iadd, 1) := by decide +kernel
theorem dl_1100 : decode code 1100 = .ok (.iaload, 1) := by decide +kernel
theorem dl_1101 : decode code 1101 = .ok (.aload_n 0, 1) := by decide +kernel
theorem dl_1102 : decode code 1102 = .ok (.iload_n 3, 1) := by decide +kernel
theorem dl_1103 : decode code 1103 = .ok (.iconst 2, 1) := by decide +kernel
theorem dl_1104 : decode code 1104 = .ok (.iadd, 1) := by decide +kernel
theorem dl_1105 : decode code 1105 = .ok (.iaload, 1) := by decide +kernel
theorem dl_1106 : decode code 1106 = .ok (.invokevirtual 127, 3) := by decide +kernel
theorem dl_1109 : decode code 1109 = .ok (.aload_n 2, 1) := by decide +kernel
theorem dl_1110 : decode code 1110 = .ok (.aload_n 0, 1) := by decide +kernel
theorem dl_1111 : decode code 1111 = .ok (.iload_n 3, 1) := by decide +kernel
theorem dl_1112 : decode code 1112 = .ok (.iconst 1, 1) := by decide +kernel
theorem dl_1113 : decode code 1113 = .ok (.iadd, 1) := by decide +kernel
theorem dl_1114 : decode code 1114 = .ok (.iaload, 1) := by decide +kernel
theorem dl_1115 : decode code 1115 = .ok (.aload_n 0, 1) := by decide +kernel
theorem dl_1116 : decode code 1116 = .ok (.iload_n 3, 1) := by decide +kernel
theorem dl_1117 : decode code 1117 = .ok (.iconst 2, 1) := by decide +kernel
theorem dl_1118 : decode code 1118 = .ok (.iadd, 1) := by decide +kernel
theorem dl_1119 : decode code 1119 = .ok (.iaload, 1) := by decide +kernel
theorem dl_1120 : decode code 1120 = .ok (.invokevirtual 130, 3) := by decide +kernel
theorem dl_1123 : decode code 1123 = .ok (.if_icmp .eq 246, 3) := by decide +kernel
theorem dl_1126 : decode code 1126 = .ok (.iconst 0, 1) := by decide +kernel
theorem dl_1127 : decode code 1127 = .ok (.ireturn, 1) := by decide +kernel
theorem dl_1128 : decode code 1128 = .ok (.aload_n 1, 1) := by decide +kernel
theorem dl_1129 : decode code 1129 = .ok (.aload_n 0, 1) := by decide +kernel
theorem dl_1130 : decode code 1130 = .ok (.iload_n 3, 1) := by decide +kernel
theorem dl_1131 : decode code 1131 = .ok (.iconst 1, 1) := by decide +kernel
theorem dl_1132 : decode code 1132 = .ok (.iadd, 1) := by decide +kernel
theorem dl_1133 : decode code 1133 = .ok (.iaload, 1) := by decide +kernel
theorem dl_1134 : decode code 1134 = .ok (.aload_n 0, 1) := by decide +kernel
theorem dl_1135 : decode code 1135 = .ok (.iload_n 3, 1) := by decide +kernel
theorem dl_1136 : decode code 1136 = .ok (.iconst 2, 1) := by decide +kernel
theorem dl_1137 : decode code 1137 = .ok (.iadd, 1) := by decide +kernel
theorem dl_1138 : decode code 1138 = .ok (.iaload, 1) := by decide +kernel
theorem dl_1139 : decode code 1139 = .ok (.invokevirtual 131, 3) := by decide +kernel
theorem dl_1142 : decode code 1142 = .ok (.aload_n 2, 1) := by decide +kernel
theorem dl_1143 : decode code 1143 = .ok (.aload_n 0, 1) := by decide +kernel
