/-! the law: its instructions, 3 -/
theorem dL_930 : decode code 930 = .ok (.iload_n 3, 1) := by decide +kernel
theorem dL_931 : decode code 931 = .ok (.iconst 1, 1) := by decide +kernel
theorem dL_932 : decode code 932 = .ok (.iadd, 1) := by decide +kernel
theorem dL_933 : decode code 933 = .ok (.iaload, 1) := by decide +kernel
theorem dL_934 : decode code 934 = .ok (.aload_n 0, 1) := by decide +kernel
theorem dL_935 : decode code 935 = .ok (.iload_n 3, 1) := by decide +kernel
theorem dL_936 : decode code 936 = .ok (.iconst 2, 1) := by decide +kernel
theorem dL_937 : decode code 937 = .ok (.iadd, 1) := by decide +kernel
theorem dL_938 : decode code 938 = .ok (.iaload, 1) := by decide +kernel
theorem dL_939 : decode code 939 = .ok (.invokevirtual 103, 3) := by decide +kernel
theorem dL_942 : decode code 942 = .ok (.if_icmp .eq 664, 3) := by decide +kernel
theorem dL_945 : decode code 945 = .ok (.iconst 0, 1) := by decide +kernel
theorem dL_946 : decode code 946 = .ok (.ireturn, 1) := by decide +kernel
theorem dL_947 : decode code 947 = .ok (.aload_n 1, 1) := by decide +kernel
theorem dL_948 : decode code 948 = .ok (.aload_n 0, 1) := by decide +kernel
theorem dL_949 : decode code 949 = .ok (.iload_n 3, 1) := by decide +kernel
theorem dL_950 : decode code 950 = .ok (.iconst 1, 1) := by decide +kernel
theorem dL_951 : decode code 951 = .ok (.iadd, 1) := by decide +kernel
theorem dL_952 : decode code 952 = .ok (.iaload, 1) := by decide +kernel
theorem dL_953 : decode code 953 = .ok (.aload_n 0, 1) := by decide +kernel
theorem dL_954 : decode code 954 = .ok (.iload_n 3, 1) := by decide +kernel
theorem dL_955 : decode code 955 = .ok (.iconst 2, 1) := by decide +kernel
theorem dL_956 : decode code 956 = .ok (.iadd, 1) := by decide +kernel
theorem dL_957 : decode code 957 = .ok (.iaload, 1) := by decide +kernel
theorem dL_958 : decode code 958 = .ok (.aload_n 0, 1) := by decide +kernel
theorem dL_959 : decode code 959 = .ok (.iload_n 3, 1) := by decide +kernel
theorem dL_960 : decode code 960 = .ok (.iconst 3, 1) := by decide +kernel
theorem dL_961 : decode code 961 = .ok (.iadd, 1) := by decide +kernel
theorem dL_962 : decode code 962 = .ok (.iaload, 1) := by decide +kernel
theorem dL_963 : decode code 963 = .ok (.invokevirtual 104, 3) := by decide +kernel
theorem dL_966 : decode code 966 = .ok (.aload_n 2, 1) := by decide +kernel
theorem dL_967 : decode code 967 = .ok (.aload_n 0, 1) := by decide +kernel
theorem dL_968 : decode code 968 = .ok (.iload_n 3, 1) := by decide +kernel
theorem dL_969 : decode code 969 = .ok (.iconst 1, 1) := by decide +kernel
theorem dL_970 : decode code 970 = .ok (.iadd, 1) := by decide +kernel
theorem dL_971 : decode code 971 = .ok (.iaload, 1) := by decide +kernel
theorem dL_972 : decode code 972 = .ok (.aload_n 0, 1) := by decide +kernel
theorem dL_973 : decode code 973 = .ok (.iload_n 3, 1) := by decide +kernel
theorem dL_974 : decode code 974 = .ok (.iconst 2, 1) := by decide +kernel
theorem dL_975 : decode code 975 = .ok (.iadd, 1) := by decide +kernel
theorem dL_976 : decode code 976 = .ok (.iaload, 1) := by decide +kernel
theorem dL_977 : decode code 977 = .ok (.aload_n 0, 1) := by decide +kernel
theorem dL_978 : decode code 978 = .ok (.iload_n 3, 1) := by decide +kernel
theorem dL_979 : decode code 979 = .ok (.iconst 3, 1) := by decide +kernel
theorem dL_980 : decode code 980 = .ok (.iadd, 1) := by decide +kernel
theorem dL_981 : decode code 981 = .ok (.iaload, 1) := by decide +kernel
theorem dL_982 : decode code 982 = .ok (.invokevirtual 107, 3) := by decide +kernel
theorem dL_985 : decode code 985 = .ok (.if_icmp .eq 621, 3) := by decide +kernel
theorem dL_988 : decode code 988 = .ok (.iconst 0, 1) := by decide +kernel
theorem dL_989 : decode code 989 = .ok (.ireturn, 1) := by decide +kernel
theorem dL_990 : decode code 990 = .ok (.aload_n 1, 1) := by decide +kernel
theorem dL_991 : decode code 991 = .ok (.aload_n 0, 1) := by decide +kernel
theorem dL_992 : decode code 992 = .ok (.iload_n 3, 1) := by decide +kernel
theorem dL_993 : decode code 993 = .ok (.iconst 1, 1) := by decide +kernel
theorem dL_994 : decode code 994 = .ok (.iadd, 1) := by decide +kernel
theorem dL_995 : decode code 995 = .ok (.iaload, 1) := by decide +kernel
theorem dL_996 : decode code 996 = .ok (.invokevirtual 108, 3) := by decide +kernel
theorem dL_999 : decode code 999 = .ok (.aload_n 2, 1) := by decide +kernel
theorem dL_1000 : decode code 1000 = .ok (.aload_n 0, 1) := by decide +kernel
theorem dL_1001 : decode code 1001 = .ok (.iload_n 3, 1) := by decide +kernel
theorem dL_1002 : decode code 1002 = .ok (.iconst 1, 1) := by decide +kernel
theorem dL_1003 : decode code 1003 = .ok (.iadd, 1) := by decide +kernel
theorem dL_1004 : decode code 1004 = .ok (.iaload, 1) := by decide +kernel
theorem dL_1005 : decode code 1005 = .ok (.invokevirtual 111, 3) := by decide +kernel
theorem dL_1008 : decode code 1008 = .ok (.if_icmp .eq 598, 3) := by decide +kernel
theorem dL_1011 : decode code 1011 = .ok (.iconst 0, 1) := by decide +kernel
theorem dL_1012 : decode code 1012 = .ok (.ireturn, 1) := by decide +kernel
theorem dL_1013 : decode code 1013 = .ok (.aload_n 1, 1) := by decide +kernel
theorem dL_1014 : decode code 1014 = .ok (.aload_n 0, 1) := by decide +kernel
theorem dL_1015 : decode code 1015 = .ok (.iload_n 3, 1) := by decide +kernel
theorem dL_1016 : decode code 1016 = .ok (.iconst 1, 1) := by decide +kernel
theorem dL_1017 : decode code 1017 = .ok (.iadd, 1) := by decide +kernel
theorem dL_1018 : decode code 1018 = .ok (.iaload, 1) := by decide +kernel
theorem dL_1019 : decode code 1019 = .ok (.aload_n 0, 1) := by decide +kernel
theorem dL_1020 : decode code 1020 = .ok (.iload_n 3, 1) := by decide +kernel
theorem dL_1021 : decode code 1021 = .ok (.iconst 2, 1) := by decide +kernel
theorem dL_1022 : decode code 1022 = .ok (.iadd, 1) := by decide +kernel
theorem dL_1023 : decode code 1023 = .ok (.iaload, 1) := by decide +kernel
theorem dL_1024 : decode code 1024 = .ok (.invokevirtual 112, 3) := by decide +kernel
theorem dL_1027 : decode code 1027 = .ok (.aload_n 2, 1) := by decide +kernel
theorem dL_1028 : decode code 1028 = .ok (.aload_n 0, 1) := by decide +kernel
theorem dL_1029 : decode code 1029 = .ok (.iload_n 3, 1) := by decide +kernel
theorem dL_1030 : decode code 1030 = .ok (.iconst 1, 1) := by decide +kernel
theorem dL_1031 : decode code 1031 = .ok (.iadd, 1) := by decide +kernel
theorem dL_1032 : decode code 1032 = .ok (.iaload, 1) := by decide +kernel
theorem dL_1033 : decode code 1033 = .ok (.aload_n 0, 1) := by decide +kernel
theorem dL_1034 : decode code 1034 = .ok (.iload_n 3, 1) := by decide +kernel
theorem dL_1035 : decode code 1035 = .ok (.iconst 2, 1) := by decide +kernel
theorem dL_1036 : decode code 1036 = .ok (.iadd, 1) := by decide +kernel
theorem dL_1037 : decode code 1037 = .ok (.iaload, 1) := by decide +kernel
theorem dL_1038 : decode code 1038 = .ok (.invokevirtual 115, 3) := by decide +kernel
theorem dL_1041 : decode code 1041 = .ok (.if_icmp .eq 565, 3) := by decide +kernel
theorem dL_1044 : decode code 1044 = .ok (.iconst 0, 1) := by decide +kernel
theorem dL_1045 : decode code 1045 = .ok (.ireturn, 1) := by decide +kernel
theorem dL_1046 : decode code 1046 = .ok (.aload_n 1, 1) := by decide +kernel
theorem dL_1047 : decode code 1047 = .ok (.invokevirtual 116, 3) := by decide +kernel
theorem dL_1050 : decode code 1050 = .ok (.aload_n 2, 1) := by decide +kernel
theorem dL_1051 : decode code 1051 = .ok (.invokevirtual 120, 3) := by decide +kernel
theorem dL_1054 : decode code 1054 = .ok (.if_icmp .eq 552, 3) := by decide +kernel
theorem dL_1057 : decode code 1057 = .ok (.iconst 0, 1) := by decide +kernel
theorem dL_1058 : decode code 1058 = .ok (.ireturn, 1) := by decide +kernel
theorem dL_1059 : decode code 1059 = .ok (.aload_n 1, 1) := by decide +kernel
theorem dL_1060 : decode code 1060 = .ok (.invokevirtual 121, 3) := by decide +kernel
theorem dL_1063 : decode code 1063 = .ok (.aload_n 2, 1) := by decide +kernel
theorem dL_1064 : decode code 1064 = .ok (.invokevirtual 124, 3) := by decide +kernel
theorem dL_1067 : decode code 1067 = .ok (.if_icmp .eq 539, 3) := by decide +kernel
theorem dL_1070 : decode code 1070 = .ok (.iconst 0, 1) := by decide +kernel
theorem dL_1071 : decode code 1071 = .ok (.ireturn, 1) := by decide +kernel
theorem dL_1072 : decode code 1072 = .ok (.aload_n 1, 1) := by decide +kernel
theorem dL_1073 : decode code 1073 = .ok (.aload_n 0, 1) := by decide +kernel
theorem dL_1074 : decode code 1074 = .ok (.iload_n 3, 1) := by decide +kernel
theorem dL_1075 : decode code 1075 = .ok (.iconst 1, 1) := by decide +kernel
theorem dL_1076 : decode code 1076 = .ok (.iadd, 1) := by decide +kernel
theorem dL_1077 : decode code 1077 = .ok (.iaload, 1) := by decide +kernel
theorem dL_1078 : decode code 1078 = .ok (.invokevirtual 125, 3) := by decide +kernel
theorem dL_1081 : decode code 1081 = .ok (.aload_n 2, 1) := by decide +kernel
theorem dL_1082 : decode code 1082 = .ok (.aload_n 0, 1) := by decide +kernel
theorem dL_1083 : decode code 1083 = .ok (.iload_n 3, 1) := by decide +kernel
theorem dL_1084 : decode code 1084 = .ok (.iconst 1, 1) := by decide +kernel
theorem dL_1085 : decode code 1085 = .ok (.iadd, 1) := by decide +kernel
theorem dL_1086 : decode code 1086 = .ok (.iaload, 1) := by decide +kernel
theorem dL_1087 : decode code 1087 = .ok (.invokevirtual 128, 3) := by decide +kernel
theorem dL_1090 : decode code 1090 = .ok (.if_icmp .eq 516, 3) := by decide +kernel
theorem dL_1093 : decode code 1093 = .ok (.iconst 0, 1) := by decide +kernel
theorem dL_1094 : decode code 1094 = .ok (.ireturn, 1) := by decide +kernel
theorem dL_1095 : decode code 1095 = .ok (.aload_n 1, 1) := by decide +kernel
theorem dL_1096 : decode code 1096 = .ok (.aload_n 0, 1) := by decide +kernel
theorem dL_1097 : decode code 1097 = .ok (.iload_n 3, 1) := by decide +kernel
theorem dL_1098 : decode code 1098 = .ok (.iconst 1, 1) := by decide +kernel
theorem dL_1099 : decode code 1099 = .ok (.iadd, 1) := by decide +kernel
theorem dL_1100 : decode code 1100 = .ok (.iaload, 1) := by decide +kernel
theorem dL_1101 : decode code 1101 = .ok (.aload_n 0, 1) := by decide +kernel
theorem dL_1102 : decode code 1102 = .ok (.iload_n 3, 1) := by decide +kernel
theorem dL_1103 : decode code 1103 = .ok (.iconst 2, 1) := by decide +kernel
theorem dL_1104 : decode code 1104 = .ok (.iadd, 1) := by decide +kernel
theorem dL_1105 : decode code 1105 = .ok (.iaload, 1) := by decide +kernel
theorem dL_1106 : decode code 1106 = .ok (.invokevirtual 129, 3) := by decide +kernel
theorem dL_1109 : decode code 1109 = .ok (.aload_n 2, 1) := by decide +kernel
theorem dL_1110 : decode code 1110 = .ok (.aload_n 0, 1) := by decide +kernel
theorem dL_1111 : decode code 1111 = .ok (.iload_n 3, 1) := by decide +kernel
theorem dL_1112 : decode code 1112 = .ok (.iconst 1, 1) := by decide +kernel
theorem dL_1113 : decode code 1113 = .ok (.iadd, 1) := by decide +kernel
theorem dL_1114 : decode code 1114 = .ok (.iaload, 1) := by decide +kernel
theorem dL_1115 : decode code 1115 = .ok (.aload_n 0, 1) := by decide +kernel
theorem dL_1116 : decode code 1116 = .ok (.iload_n 3, 1) := by decide +kernel
theorem dL_1117 : decode code 1117 = .ok (.iconst 2, 1) := by decide +kernel
theorem dL_1118 : decode code 1118 = .ok (.iadd, 1) := by decide +kernel
theorem dL_1119 : decode code 1119 = .ok (.iaload, 1) := by decide +kernel
theorem dL_1120 : decode code 1120 = .ok (.invokevirtual 132, 3) := by decide +kernel
theorem dL_1123 : decode code 1123 = .ok (.if_icmp .eq 483, 3) := by decide +kernel
theorem dL_1126 : decode code 1126 = .ok (.iconst 0, 1) := by decide +kernel
theorem dL_1127 : decode code 1127 = .ok (.ireturn, 1) := by decide +kernel
theorem dL_1128 : decode code 1128 = .ok (.aload_n 1, 1) := by decide +kernel
theorem dL_1129 : decode code 1129 = .ok (.aload_n 0, 1) := by decide +kernel
theorem dL_1130 : decode code 1130 = .ok (.iload_n 3, 1) := by decide +kernel
theorem dL_1131 : decode code 1131 = .ok (.iconst 1, 1) := by decide +kernel
theorem dL_1132 : decode code 1132 = .ok (.iadd, 1) := by decide +kernel
theorem dL_1133 : decode code 1133 = .ok (.iaload, 1) := by decide +kernel
theorem dL_1134 : decode code 1134 = .ok (.aload_n 0, 1) := by decide +kernel
theorem dL_1135 : decode code 1135 = .ok (.iload_n 3, 1) := by decide +kernel
theorem dL_1136 : decode code 1136 = .ok (.iconst 2, 1) := by decide +kernel
theorem dL_1137 : decode code 1137 = .ok (.iadd, 1) := by decide +kernel
theorem dL_1138 : decode code 1138 = .ok (.iaload, 1) := by decide +kernel
theorem dL_1139 : decode code 1139 = .ok (.aload_n 0, 1) := by decide +kernel
theorem dL_1140 : decode code 1140 = .ok (.iload_n 3, 1) := by decide +kernel
theorem dL_1141 : decode code 1141 = .ok (.iconst 3, 1) := by decide +kernel
theorem dL_1142 : decode code 1142 = .ok (.iadd, 1) := by decide +kernel
theorem dL_1143 : decode code 1143 = .ok (.iaload, 1) := by decide +kernel
theorem dL_1144 : decode code 1144 = .ok (.invokevirtual 133, 3) := by decide +kernel
theorem dL_1147 : decode code 1147 = .ok (.aload_n 2, 1) := by decide +kernel
theorem dL_1148 : decode code 1148 = .ok (.aload_n 0, 1) := by decide +kernel
theorem dL_1149 : decode code 1149 = .ok (.iload_n 3, 1) := by decide +kernel
theorem dL_1150 : decode code 1150 = .ok (.iconst 1, 1) := by decide +kernel
theorem dL_1151 : decode code 1151 = .ok (.iadd, 1) := by decide +kernel
theorem dL_1152 : decode code 1152 = .ok (.iaload, 1) := by decide +kernel
theorem dL_1153 : decode code 1153 = .ok (.aload_n 0, 1) := by decide +kernel
theorem dL_1154 : decode code 1154 = .ok (.iload_n 3, 1) := by decide +kernel
theorem dL_1155 : decode code 1155 = .ok (.iconst 2, 1) := by decide +kernel
theorem dL_1156 : decode code 1156 = .ok (.iadd, 1) := by decide +kernel
theorem dL_1157 : decode code 1157 = .ok (.iaload, 1) := by decide +kernel
theorem dL_1158 : decode code 1158 = .ok (.aload_n 0, 1) := by decide +kernel
theorem dL_1159 : decode code 1159 = .ok (.iload_n 3, 1) := by decide +kernel
theorem dL_1160 : decode code 1160 = .ok (.iconst 3, 1) := by decide +kernel
theorem dL_1161 : decode code 1161 = .ok (.iadd, 1) := by decide +kernel
theorem dL_1162 : decode code 1162 = .ok (.iaload, 1) := by decide +kernel
theorem dL_1163 : decode code 1163 = .ok (.invokevirtual 136, 3) := by decide +kernel
theorem dL_1166 : decode code 1166 = .ok (.if_icmp .eq 440, 3) := by decide +kernel
theorem dL_1169 : decode code 1169 = .ok (.iconst 0, 1) := by decide +kernel
theorem dL_1170 : decode code 1170 = .ok (.ireturn, 1) := by decide +kernel
theorem dL_1171 : decode code 1171 = .ok (.aload_n 1, 1) := by decide +kernel
theorem dL_1172 : decode code 1172 = .ok (.aload_n 0, 1) := by decide +kernel
theorem dL_1173 : decode code 1173 = .ok (.iload_n 3, 1) := by decide +kernel
theorem dL_1174 : decode code 1174 = .ok (.iconst 1, 1) := by decide +kernel
theorem dL_1175 : decode code 1175 = .ok (.iadd, 1) := by decide +kernel
theorem dL_1176 : decode code 1176 = .ok (.iaload, 1) := by decide +kernel
theorem dL_1177 : decode code 1177 = .ok (.aload_n 0, 1) := by decide +kernel
theorem dL_1178 : decode code 1178 = .ok (.iload_n 3, 1) := by decide +kernel
theorem dL_1179 : decode code 1179 = .ok (.iconst 2, 1) := by decide +kernel
theorem dL_1180 : decode code 1180 = .ok (.iadd, 1) := by decide +kernel
theorem dL_1181 : decode code 1181 = .ok (.iaload, 1) := by decide +kernel
