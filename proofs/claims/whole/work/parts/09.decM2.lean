theorem dL_law_897 : decode mL_law.2.1 897 = .ok (.ifCond .ne 15, 3) := by decide +kernel
theorem dL_law_900 : decode mL_law.2.1 900 = .ok (.aload_n 3, 1) := by decide +kernel
theorem dL_law_901 : decode mL_law.2.1 901 = .ok (.iconst 0, 1) := by decide +kernel
theorem dL_law_902 : decode mL_law.2.1 902 = .ok (.laload, 1) := by decide +kernel
theorem dL_law_903 : decode mL_law.2.1 903 = .ok (.iload 6, 2) := by decide +kernel
theorem dL_law_905 : decode mL_law.2.1 905 = .ok (.i2l, 1) := by decide +kernel
theorem dL_law_906 : decode mL_law.2.1 906 = .ok (.lcmp, 1) := by decide +kernel
theorem dL_law_907 : decode mL_law.2.1 907 = .ok (.ifCond .eq 5, 3) := by decide +kernel
theorem dL_law_910 : decode mL_law.2.1 910 = .ok (.iconst 0, 1) := by decide +kernel
theorem dL_law_911 : decode mL_law.2.1 911 = .ok (.ireturn, 1) := by decide +kernel
theorem dL_law_912 : decode mL_law.2.1 912 = .ok (.goto 778, 3) := by decide +kernel
theorem dL_law_915 : decode mL_law.2.1 915 = .ok (.aload_n 1, 1) := by decide +kernel
theorem dL_law_916 : decode mL_law.2.1 916 = .ok (.aload_n 0, 1) := by decide +kernel
theorem dL_law_917 : decode mL_law.2.1 917 = .ok (.iload 4, 2) := by decide +kernel
theorem dL_law_919 : decode mL_law.2.1 919 = .ok (.iconst 1, 1) := by decide +kernel
theorem dL_law_920 : decode mL_law.2.1 920 = .ok (.iadd, 1) := by decide +kernel
theorem dL_law_921 : decode mL_law.2.1 921 = .ok (.iaload, 1) := by decide +kernel
theorem dL_law_922 : decode mL_law.2.1 922 = .ok (.aload_n 0, 1) := by decide +kernel
theorem dL_law_923 : decode mL_law.2.1 923 = .ok (.iload 4, 2) := by decide +kernel
theorem dL_law_925 : decode mL_law.2.1 925 = .ok (.iconst 2, 1) := by decide +kernel
theorem dL_law_926 : decode mL_law.2.1 926 = .ok (.iadd, 1) := by decide +kernel
theorem dL_law_927 : decode mL_law.2.1 927 = .ok (.iaload, 1) := by decide +kernel
theorem dL_law_928 : decode mL_law.2.1 928 = .ok (.invokestatic 143, 3) := by decide +kernel
theorem dL_law_931 : decode mL_law.2.1 931 = .ok (.istore 5, 2) := by decide +kernel
theorem dL_law_933 : decode mL_law.2.1 933 = .ok (.aload_n 2, 1) := by decide +kernel
theorem dL_law_934 : decode mL_law.2.1 934 = .ok (.aload_n 0, 1) := by decide +kernel
theorem dL_law_935 : decode mL_law.2.1 935 = .ok (.iload 4, 2) := by decide +kernel
theorem dL_law_937 : decode mL_law.2.1 937 = .ok (.iconst 1, 1) := by decide +kernel
theorem dL_law_938 : decode mL_law.2.1 938 = .ok (.iadd, 1) := by decide +kernel
theorem dL_law_939 : decode mL_law.2.1 939 = .ok (.iaload, 1) := by decide +kernel
theorem dL_law_940 : decode mL_law.2.1 940 = .ok (.aload_n 0, 1) := by decide +kernel
theorem dL_law_941 : decode mL_law.2.1 941 = .ok (.iload 4, 2) := by decide +kernel
theorem dL_law_943 : decode mL_law.2.1 943 = .ok (.iconst 2, 1) := by decide +kernel
theorem dL_law_944 : decode mL_law.2.1 944 = .ok (.iadd, 1) := by decide +kernel
theorem dL_law_945 : decode mL_law.2.1 945 = .ok (.iaload, 1) := by decide +kernel
theorem dL_law_946 : decode mL_law.2.1 946 = .ok (.invokevirtual 145, 3) := by decide +kernel
theorem dL_law_949 : decode mL_law.2.1 949 = .ok (.aload_n 2, 1) := by decide +kernel
theorem dL_law_950 : decode mL_law.2.1 950 = .ok (.invokevirtual 105, 3) := by decide +kernel
theorem dL_law_953 : decode mL_law.2.1 953 = .ok (.iload 5, 2) := by decide +kernel
theorem dL_law_955 : decode mL_law.2.1 955 = .ok (.if_icmp .eq 5, 3) := by decide +kernel
theorem dL_law_958 : decode mL_law.2.1 958 = .ok (.iconst 0, 1) := by decide +kernel
theorem dL_law_959 : decode mL_law.2.1 959 = .ok (.ireturn, 1) := by decide +kernel
theorem dL_law_960 : decode mL_law.2.1 960 = .ok (.goto 730, 3) := by decide +kernel
theorem dL_law_963 : decode mL_law.2.1 963 = .ok (.aload_n 1, 1) := by decide +kernel
theorem dL_law_964 : decode mL_law.2.1 964 = .ok (.aload_n 0, 1) := by decide +kernel
theorem dL_law_965 : decode mL_law.2.1 965 = .ok (.iload 4, 2) := by decide +kernel
theorem dL_law_967 : decode mL_law.2.1 967 = .ok (.iconst 1, 1) := by decide +kernel
theorem dL_law_968 : decode mL_law.2.1 968 = .ok (.iadd, 1) := by decide +kernel
theorem dL_law_969 : decode mL_law.2.1 969 = .ok (.iaload, 1) := by decide +kernel
theorem dL_law_970 : decode mL_law.2.1 970 = .ok (.aload_n 0, 1) := by decide +kernel
theorem dL_law_971 : decode mL_law.2.1 971 = .ok (.iload 4, 2) := by decide +kernel
theorem dL_law_973 : decode mL_law.2.1 973 = .ok (.iconst 2, 1) := by decide +kernel
theorem dL_law_974 : decode mL_law.2.1 974 = .ok (.iadd, 1) := by decide +kernel
theorem dL_law_975 : decode mL_law.2.1 975 = .ok (.iaload, 1) := by decide +kernel
theorem dL_law_976 : decode mL_law.2.1 976 = .ok (.aload_n 0, 1) := by decide +kernel
theorem dL_law_977 : decode mL_law.2.1 977 = .ok (.iload 4, 2) := by decide +kernel
theorem dL_law_979 : decode mL_law.2.1 979 = .ok (.iconst 3, 1) := by decide +kernel
theorem dL_law_980 : decode mL_law.2.1 980 = .ok (.iadd, 1) := by decide +kernel
theorem dL_law_981 : decode mL_law.2.1 981 = .ok (.iaload, 1) := by decide +kernel
theorem dL_law_982 : decode mL_law.2.1 982 = .ok (.invokestatic 146, 3) := by decide +kernel
theorem dL_law_985 : decode mL_law.2.1 985 = .ok (.istore 5, 2) := by decide +kernel
theorem dL_law_987 : decode mL_law.2.1 987 = .ok (.aload_n 2, 1) := by decide +kernel
theorem dL_law_988 : decode mL_law.2.1 988 = .ok (.aload_n 0, 1) := by decide +kernel
theorem dL_law_989 : decode mL_law.2.1 989 = .ok (.iload 4, 2) := by decide +kernel
theorem dL_law_991 : decode mL_law.2.1 991 = .ok (.iconst 1, 1) := by decide +kernel
theorem dL_law_992 : decode mL_law.2.1 992 = .ok (.iadd, 1) := by decide +kernel
theorem dL_law_993 : decode mL_law.2.1 993 = .ok (.iaload, 1) := by decide +kernel
theorem dL_law_994 : decode mL_law.2.1 994 = .ok (.aload_n 0, 1) := by decide +kernel
theorem dL_law_995 : decode mL_law.2.1 995 = .ok (.iload 4, 2) := by decide +kernel
theorem dL_law_997 : decode mL_law.2.1 997 = .ok (.iconst 2, 1) := by decide +kernel
theorem dL_law_998 : decode mL_law.2.1 998 = .ok (.iadd, 1) := by decide +kernel
theorem dL_law_999 : decode mL_law.2.1 999 = .ok (.iaload, 1) := by decide +kernel
theorem dL_law_1000 : decode mL_law.2.1 1000 = .ok (.aload_n 0, 1) := by decide +kernel
theorem dL_law_1001 : decode mL_law.2.1 1001 = .ok (.iload 4, 2) := by decide +kernel
theorem dL_law_1003 : decode mL_law.2.1 1003 = .ok (.iconst 3, 1) := by decide +kernel
theorem dL_law_1004 : decode mL_law.2.1 1004 = .ok (.iadd, 1) := by decide +kernel
theorem dL_law_1005 : decode mL_law.2.1 1005 = .ok (.iaload, 1) := by decide +kernel
theorem dL_law_1006 : decode mL_law.2.1 1006 = .ok (.invokevirtual 149, 3) := by decide +kernel
theorem dL_law_1009 : decode mL_law.2.1 1009 = .ok (.aload_n 2, 1) := by decide +kernel
theorem dL_law_1010 : decode mL_law.2.1 1010 = .ok (.invokevirtual 105, 3) := by decide +kernel
theorem dL_law_1013 : decode mL_law.2.1 1013 = .ok (.iload 5, 2) := by decide +kernel
theorem dL_law_1015 : decode mL_law.2.1 1015 = .ok (.if_icmp .eq 5, 3) := by decide +kernel
theorem dL_law_1018 : decode mL_law.2.1 1018 = .ok (.iconst 0, 1) := by decide +kernel
theorem dL_law_1019 : decode mL_law.2.1 1019 = .ok (.ireturn, 1) := by decide +kernel
theorem dL_law_1020 : decode mL_law.2.1 1020 = .ok (.goto 670, 3) := by decide +kernel
theorem dL_law_1023 : decode mL_law.2.1 1023 = .ok (.aload_n 1, 1) := by decide +kernel
theorem dL_law_1024 : decode mL_law.2.1 1024 = .ok (.aload_n 0, 1) := by decide +kernel
theorem dL_law_1025 : decode mL_law.2.1 1025 = .ok (.iload 4, 2) := by decide +kernel
theorem dL_law_1027 : decode mL_law.2.1 1027 = .ok (.iconst 1, 1) := by decide +kernel
theorem dL_law_1028 : decode mL_law.2.1 1028 = .ok (.iadd, 1) := by decide +kernel
theorem dL_law_1029 : decode mL_law.2.1 1029 = .ok (.iaload, 1) := by decide +kernel
theorem dL_law_1030 : decode mL_law.2.1 1030 = .ok (.aload_n 0, 1) := by decide +kernel
theorem dL_law_1031 : decode mL_law.2.1 1031 = .ok (.iload 4, 2) := by decide +kernel
theorem dL_law_1033 : decode mL_law.2.1 1033 = .ok (.iconst 2, 1) := by decide +kernel
theorem dL_law_1034 : decode mL_law.2.1 1034 = .ok (.iadd, 1) := by decide +kernel
theorem dL_law_1035 : decode mL_law.2.1 1035 = .ok (.iaload, 1) := by decide +kernel
theorem dL_law_1036 : decode mL_law.2.1 1036 = .ok (.aload_n 0, 1) := by decide +kernel
theorem dL_law_1037 : decode mL_law.2.1 1037 = .ok (.iload 4, 2) := by decide +kernel
theorem dL_law_1039 : decode mL_law.2.1 1039 = .ok (.iconst 3, 1) := by decide +kernel
theorem dL_law_1040 : decode mL_law.2.1 1040 = .ok (.iadd, 1) := by decide +kernel
theorem dL_law_1041 : decode mL_law.2.1 1041 = .ok (.iaload, 1) := by decide +kernel
theorem dL_law_1042 : decode mL_law.2.1 1042 = .ok (.aload_n 3, 1) := by decide +kernel
theorem dL_law_1043 : decode mL_law.2.1 1043 = .ok (.invokestatic 150, 3) := by decide +kernel
theorem dL_law_1046 : decode mL_law.2.1 1046 = .ok (.istore 5, 2) := by decide +kernel
theorem dL_law_1048 : decode mL_law.2.1 1048 = .ok (.aload_n 2, 1) := by decide +kernel
theorem dL_law_1049 : decode mL_law.2.1 1049 = .ok (.aload_n 0, 1) := by decide +kernel
theorem dL_law_1050 : decode mL_law.2.1 1050 = .ok (.iload 4, 2) := by decide +kernel
theorem dL_law_1052 : decode mL_law.2.1 1052 = .ok (.iconst 1, 1) := by decide +kernel
theorem dL_law_1053 : decode mL_law.2.1 1053 = .ok (.iadd, 1) := by decide +kernel
theorem dL_law_1054 : decode mL_law.2.1 1054 = .ok (.iaload, 1) := by decide +kernel
theorem dL_law_1055 : decode mL_law.2.1 1055 = .ok (.aload_n 0, 1) := by decide +kernel
theorem dL_law_1056 : decode mL_law.2.1 1056 = .ok (.iload 4, 2) := by decide +kernel
theorem dL_law_1058 : decode mL_law.2.1 1058 = .ok (.iconst 2, 1) := by decide +kernel
theorem dL_law_1059 : decode mL_law.2.1 1059 = .ok (.iadd, 1) := by decide +kernel
theorem dL_law_1060 : decode mL_law.2.1 1060 = .ok (.iaload, 1) := by decide +kernel
theorem dL_law_1061 : decode mL_law.2.1 1061 = .ok (.aload_n 0, 1) := by decide +kernel
theorem dL_law_1062 : decode mL_law.2.1 1062 = .ok (.iload 4, 2) := by decide +kernel
theorem dL_law_1064 : decode mL_law.2.1 1064 = .ok (.iconst 3, 1) := by decide +kernel
theorem dL_law_1065 : decode mL_law.2.1 1065 = .ok (.iadd, 1) := by decide +kernel
theorem dL_law_1066 : decode mL_law.2.1 1066 = .ok (.iaload, 1) := by decide +kernel
theorem dL_law_1067 : decode mL_law.2.1 1067 = .ok (.invokevirtual 152, 3) := by decide +kernel
theorem dL_law_1070 : decode mL_law.2.1 1070 = .ok (.istore 6, 2) := by decide +kernel
theorem dL_law_1072 : decode mL_law.2.1 1072 = .ok (.aload_n 2, 1) := by decide +kernel
theorem dL_law_1073 : decode mL_law.2.1 1073 = .ok (.invokevirtual 105, 3) := by decide +kernel
theorem dL_law_1076 : decode mL_law.2.1 1076 = .ok (.iload 5, 2) := by decide +kernel
theorem dL_law_1078 : decode mL_law.2.1 1078 = .ok (.if_icmp .eq 5, 3) := by decide +kernel
theorem dL_law_1081 : decode mL_law.2.1 1081 = .ok (.iconst 0, 1) := by decide +kernel
theorem dL_law_1082 : decode mL_law.2.1 1082 = .ok (.ireturn, 1) := by decide +kernel
theorem dL_law_1083 : decode mL_law.2.1 1083 = .ok (.iload 5, 2) := by decide +kernel
theorem dL_law_1085 : decode mL_law.2.1 1085 = .ok (.ifCond .ne 15, 3) := by decide +kernel
theorem dL_law_1088 : decode mL_law.2.1 1088 = .ok (.aload_n 3, 1) := by decide +kernel
theorem dL_law_1089 : decode mL_law.2.1 1089 = .ok (.iconst 0, 1) := by decide +kernel
theorem dL_law_1090 : decode mL_law.2.1 1090 = .ok (.laload, 1) := by decide +kernel
theorem dL_law_1091 : decode mL_law.2.1 1091 = .ok (.iload 6, 2) := by decide +kernel
theorem dL_law_1093 : decode mL_law.2.1 1093 = .ok (.i2l, 1) := by decide +kernel
theorem dL_law_1094 : decode mL_law.2.1 1094 = .ok (.lcmp, 1) := by decide +kernel
theorem dL_law_1095 : decode mL_law.2.1 1095 = .ok (.ifCond .eq 5, 3) := by decide +kernel
theorem dL_law_1098 : decode mL_law.2.1 1098 = .ok (.iconst 0, 1) := by decide +kernel
theorem dL_law_1099 : decode mL_law.2.1 1099 = .ok (.ireturn, 1) := by decide +kernel
theorem dL_law_1100 : decode mL_law.2.1 1100 = .ok (.goto 590, 3) := by decide +kernel
theorem dL_law_1103 : decode mL_law.2.1 1103 = .ok (.aload_n 1, 1) := by decide +kernel
theorem dL_law_1104 : decode mL_law.2.1 1104 = .ok (.aload_n 0, 1) := by decide +kernel
theorem dL_law_1105 : decode mL_law.2.1 1105 = .ok (.iload 4, 2) := by decide +kernel
theorem dL_law_1107 : decode mL_law.2.1 1107 = .ok (.iconst 1, 1) := by decide +kernel
theorem dL_law_1108 : decode mL_law.2.1 1108 = .ok (.iadd, 1) := by decide +kernel
theorem dL_law_1109 : decode mL_law.2.1 1109 = .ok (.iaload, 1) := by decide +kernel
theorem dL_law_1110 : decode mL_law.2.1 1110 = .ok (.aload_n 0, 1) := by decide +kernel
theorem dL_law_1111 : decode mL_law.2.1 1111 = .ok (.iload 4, 2) := by decide +kernel
theorem dL_law_1113 : decode mL_law.2.1 1113 = .ok (.iconst 2, 1) := by decide +kernel
theorem dL_law_1114 : decode mL_law.2.1 1114 = .ok (.iadd, 1) := by decide +kernel
theorem dL_law_1115 : decode mL_law.2.1 1115 = .ok (.iaload, 1) := by decide +kernel
theorem dL_law_1116 : decode mL_law.2.1 1116 = .ok (.aload_n 0, 1) := by decide +kernel
theorem dL_law_1117 : decode mL_law.2.1 1117 = .ok (.iload 4, 2) := by decide +kernel
theorem dL_law_1119 : decode mL_law.2.1 1119 = .ok (.iconst 3, 1) := by decide +kernel
theorem dL_law_1120 : decode mL_law.2.1 1120 = .ok (.iadd, 1) := by decide +kernel
theorem dL_law_1121 : decode mL_law.2.1 1121 = .ok (.iaload, 1) := by decide +kernel
theorem dL_law_1122 : decode mL_law.2.1 1122 = .ok (.aload_n 3, 1) := by decide +kernel
theorem dL_law_1123 : decode mL_law.2.1 1123 = .ok (.invokestatic 153, 3) := by decide +kernel
theorem dL_law_1126 : decode mL_law.2.1 1126 = .ok (.istore 5, 2) := by decide +kernel
theorem dL_law_1128 : decode mL_law.2.1 1128 = .ok (.aload_n 2, 1) := by decide +kernel
theorem dL_law_1129 : decode mL_law.2.1 1129 = .ok (.aload_n 0, 1) := by decide +kernel
theorem dL_law_1130 : decode mL_law.2.1 1130 = .ok (.iload 4, 2) := by decide +kernel
theorem dL_law_1132 : decode mL_law.2.1 1132 = .ok (.iconst 1, 1) := by decide +kernel
theorem dL_law_1133 : decode mL_law.2.1 1133 = .ok (.iadd, 1) := by decide +kernel
theorem dL_law_1134 : decode mL_law.2.1 1134 = .ok (.iaload, 1) := by decide +kernel
theorem dL_law_1135 : decode mL_law.2.1 1135 = .ok (.aload_n 0, 1) := by decide +kernel
theorem dL_law_1136 : decode mL_law.2.1 1136 = .ok (.iload 4, 2) := by decide +kernel
theorem dL_law_1138 : decode mL_law.2.1 1138 = .ok (.iconst 2, 1) := by decide +kernel
theorem dL_law_1139 : decode mL_law.2.1 1139 = .ok (.iadd, 1) := by decide +kernel
theorem dL_law_1140 : decode mL_law.2.1 1140 = .ok (.iaload, 1) := by decide +kernel
theorem dL_law_1141 : decode mL_law.2.1 1141 = .ok (.aload_n 0, 1) := by decide +kernel
theorem dL_law_1142 : decode mL_law.2.1 1142 = .ok (.iload 4, 2) := by decide +kernel
theorem dL_law_1144 : decode mL_law.2.1 1144 = .ok (.iconst 3, 1) := by decide +kernel
theorem dL_law_1145 : decode mL_law.2.1 1145 = .ok (.iadd, 1) := by decide +kernel
theorem dL_law_1146 : decode mL_law.2.1 1146 = .ok (.iaload, 1) := by decide +kernel
theorem dL_law_1147 : decode mL_law.2.1 1147 = .ok (.invokevirtual 155, 3) := by decide +kernel
theorem dL_law_1150 : decode mL_law.2.1 1150 = .ok (.istore 6, 2) := by decide +kernel
theorem dL_law_1152 : decode mL_law.2.1 1152 = .ok (.aload_n 2, 1) := by decide +kernel
theorem dL_law_1153 : decode mL_law.2.1 1153 = .ok (.invokevirtual 105, 3) := by decide +kernel
theorem dL_law_1156 : decode mL_law.2.1 1156 = .ok (.iload 5, 2) := by decide +kernel
theorem dL_law_1158 : decode mL_law.2.1 1158 = .ok (.if_icmp .eq 5, 3) := by decide +kernel
theorem dL_law_1161 : decode mL_law.2.1 1161 = .ok (.iconst 0, 1) := by decide +kernel
theorem dL_law_1162 : decode mL_law.2.1 1162 = .ok (.ireturn, 1) := by decide +kernel
theorem dL_law_1163 : decode mL_law.2.1 1163 = .ok (.iload 5, 2) := by decide +kernel
theorem dL_law_1165 : decode mL_law.2.1 1165 = .ok (.ifCond .ne 15, 3) := by decide +kernel
theorem dL_law_1168 : decode mL_law.2.1 1168 = .ok (.aload_n 3, 1) := by decide +kernel
theorem dL_law_1169 : decode mL_law.2.1 1169 = .ok (.iconst 0, 1) := by decide +kernel
theorem dL_law_1170 : decode mL_law.2.1 1170 = .ok (.laload, 1) := by decide +kernel
theorem dL_law_1171 : decode mL_law.2.1 1171 = .ok (.iload 6, 2) := by decide +kernel
theorem dL_law_1173 : decode mL_law.2.1 1173 = .ok (.i2l, 1) := by decide +kernel
theorem dL_law_1174 : decode mL_law.2.1 1174 = .ok (.lcmp, 1) := by decide +kernel
theorem dL_law_1175 : decode mL_law.2.1 1175 = .ok (.ifCond .eq 5, 3) := by decide +kernel
theorem dL_law_1178 : decode mL_law.2.1 1178 = .ok (.iconst 0, 1) := by decide +kernel
theorem dL_law_1179 : decode mL_law.2.1 1179 = .ok (.ireturn, 1) := by decide +kernel
theorem dL_law_1180 : decode mL_law.2.1 1180 = .ok (.goto 510, 3) := by decide +kernel
theorem dL_law_1183 : decode mL_law.2.1 1183 = .ok (.aload_n 1, 1) := by decide +kernel
theorem dL_law_1184 : decode mL_law.2.1 1184 = .ok (.aload_n 0, 1) := by decide +kernel
theorem dL_law_1185 : decode mL_law.2.1 1185 = .ok (.iload 4, 2) := by decide +kernel
theorem dL_law_1187 : decode mL_law.2.1 1187 = .ok (.iconst 1, 1) := by decide +kernel
theorem dL_law_1188 : decode mL_law.2.1 1188 = .ok (.iadd, 1) := by decide +kernel
theorem dL_law_1189 : decode mL_law.2.1 1189 = .ok (.iaload, 1) := by decide +kernel
theorem dL_law_1190 : decode mL_law.2.1 1190 = .ok (.aload_n 3, 1) := by decide +kernel
theorem dL_law_1191 : decode mL_law.2.1 1191 = .ok (.invokestatic 156, 3) := by decide +kernel
theorem dL_law_1194 : decode mL_law.2.1 1194 = .ok (.istore 5, 2) := by decide +kernel
theorem dL_law_1196 : decode mL_law.2.1 1196 = .ok (.aload_n 2, 1) := by decide +kernel
theorem dL_law_1197 : decode mL_law.2.1 1197 = .ok (.aload_n 0, 1) := by decide +kernel
theorem dL_law_1198 : decode mL_law.2.1 1198 = .ok (.iload 4, 2) := by decide +kernel
theorem dL_law_1200 : decode mL_law.2.1 1200 = .ok (.iconst 1, 1) := by decide +kernel
theorem dL_law_1201 : decode mL_law.2.1 1201 = .ok (.iadd, 1) := by decide +kernel
theorem dL_law_1202 : decode mL_law.2.1 1202 = .ok (.iaload, 1) := by decide +kernel
theorem dL_law_1203 : decode mL_law.2.1 1203 = .ok (.invokevirtual 158, 3) := by decide +kernel
theorem dL_law_1206 : decode mL_law.2.1 1206 = .ok (.istore 6, 2) := by decide +kernel
theorem dL_law_1208 : decode mL_law.2.1 1208 = .ok (.aload_n 2, 1) := by decide +kernel
theorem dL_law_1209 : decode mL_law.2.1 1209 = .ok (.invokevirtual 105, 3) := by decide +kernel
theorem dL_law_1212 : decode mL_law.2.1 1212 = .ok (.iload 5, 2) := by decide +kernel
theorem dL_law_1214 : decode mL_law.2.1 1214 = .ok (.if_icmp .eq 5, 3) := by decide +kernel
theorem dL_law_1217 : decode mL_law.2.1 1217 = .ok (.iconst 0, 1) := by decide +kernel
theorem dL_law_1218 : decode mL_law.2.1 1218 = .ok (.ireturn, 1) := by decide +kernel
theorem dL_law_1219 : decode mL_law.2.1 1219 = .ok (.iload 5, 2) := by decide +kernel
theorem dL_law_1221 : decode mL_law.2.1 1221 = .ok (.ifCond .ne 15, 3) := by decide +kernel
theorem dL_law_1224 : decode mL_law.2.1 1224 = .ok (.aload_n 3, 1) := by decide +kernel
theorem dL_law_1225 : decode mL_law.2.1 1225 = .ok (.iconst 0, 1) := by decide +kernel
theorem dL_law_1226 : decode mL_law.2.1 1226 = .ok (.laload, 1) := by decide +kernel
theorem dL_law_1227 : decode mL_law.2.1 1227 = .ok (.iload 6, 2) := by decide +kernel
theorem dL_law_1229 : decode mL_law.2.1 1229 = .ok (.i2l, 1) := by decide +kernel
theorem dL_law_1230 : decode mL_law.2.1 1230 = .ok (.lcmp, 1) := by decide +kernel
theorem dL_law_1231 : decode mL_law.2.1 1231 = .ok (.ifCond .eq 5, 3) := by decide +kernel
theorem dL_law_1234 : decode mL_law.2.1 1234 = .ok (.iconst 0, 1) := by decide +kernel
theorem dL_law_1235 : decode mL_law.2.1 1235 = .ok (.ireturn, 1) := by decide +kernel
theorem dL_law_1236 : decode mL_law.2.1 1236 = .ok (.goto 454, 3) := by decide +kernel
theorem dL_law_1239 : decode mL_law.2.1 1239 = .ok (.aload_n 1, 1) := by decide +kernel
theorem dL_law_1240 : decode mL_law.2.1 1240 = .ok (.aload_n 0, 1) := by decide +kernel
theorem dL_law_1241 : decode mL_law.2.1 1241 = .ok (.iload 4, 2) := by decide +kernel
theorem dL_law_1243 : decode mL_law.2.1 1243 = .ok (.iconst 1, 1) := by decide +kernel
theorem dL_law_1244 : decode mL_law.2.1 1244 = .ok (.iadd, 1) := by decide +kernel
theorem dL_law_1245 : decode mL_law.2.1 1245 = .ok (.iaload, 1) := by decide +kernel
theorem dL_law_1246 : decode mL_law.2.1 1246 = .ok (.aload_n 0, 1) := by decide +kernel
theorem dL_law_1247 : decode mL_law.2.1 1247 = .ok (.iload 4, 2) := by decide +kernel
theorem dL_law_1249 : decode mL_law.2.1 1249 = .ok (.iconst 2, 1) := by decide +kernel
theorem dL_law_1250 : decode mL_law.2.1 1250 = .ok (.iadd, 1) := by decide +kernel
theorem dL_law_1251 : decode mL_law.2.1 1251 = .ok (.iaload, 1) := by decide +kernel
theorem dL_law_1252 : decode mL_law.2.1 1252 = .ok (.aload_n 3, 1) := by decide +kernel
theorem dL_law_1253 : decode mL_law.2.1 1253 = .ok (.invokestatic 159, 3) := by decide +kernel
theorem dL_law_1256 : decode mL_law.2.1 1256 = .ok (.istore 5, 2) := by decide +kernel
theorem dL_law_1258 : decode mL_law.2.1 1258 = .ok (.aload_n 2, 1) := by decide +kernel
theorem dL_law_1259 : decode mL_law.2.1 1259 = .ok (.aload_n 0, 1) := by decide +kernel
theorem dL_law_1260 : decode mL_law.2.1 1260 = .ok (.iload 4, 2) := by decide +kernel
theorem dL_law_1262 : decode mL_law.2.1 1262 = .ok (.iconst 1, 1) := by decide +kernel
theorem dL_law_1263 : decode mL_law.2.1 1263 = .ok (.iadd, 1) := by decide +kernel
theorem dL_law_1264 : decode mL_law.2.1 1264 = .ok (.iaload, 1) := by decide +kernel
theorem dL_law_1265 : decode mL_law.2.1 1265 = .ok (.aload_n 0, 1) := by decide +kernel
theorem dL_law_1266 : decode mL_law.2.1 1266 = .ok (.iload 4, 2) := by decide +kernel
theorem dL_law_1268 : decode mL_law.2.1 1268 = .ok (.iconst 2, 1) := by decide +kernel
theorem dL_law_1269 : decode mL_law.2.1 1269 = .ok (.iadd, 1) := by decide +kernel
theorem dL_law_1270 : decode mL_law.2.1 1270 = .ok (.iaload, 1) := by decide +kernel
theorem dL_law_1271 : decode mL_law.2.1 1271 = .ok (.invokevirtual 161, 3) := by decide +kernel
theorem dL_law_1274 : decode mL_law.2.1 1274 = .ok (.istore 6, 2) := by decide +kernel
theorem dL_law_1276 : decode mL_law.2.1 1276 = .ok (.aload_n 2, 1) := by decide +kernel
theorem dL_law_1277 : decode mL_law.2.1 1277 = .ok (.invokevirtual 105, 3) := by decide +kernel
theorem dL_law_1280 : decode mL_law.2.1 1280 = .ok (.iload 5, 2) := by decide +kernel
theorem dL_law_1282 : decode mL_law.2.1 1282 = .ok (.if_icmp .eq 5, 3) := by decide +kernel
theorem dL_law_1285 : decode mL_law.2.1 1285 = .ok (.iconst 0, 1) := by decide +kernel
theorem dL_law_1286 : decode mL_law.2.1 1286 = .ok (.ireturn, 1) := by decide +kernel
theorem dL_law_1287 : decode mL_law.2.1 1287 = .ok (.iload 5, 2) := by decide +kernel
theorem dL_law_1289 : decode mL_law.2.1 1289 = .ok (.ifCond .ne 15, 3) := by decide +kernel
theorem dL_law_1292 : decode mL_law.2.1 1292 = .ok (.aload_n 3, 1) := by decide +kernel
theorem dL_law_1293 : decode mL_law.2.1 1293 = .ok (.iconst 0, 1) := by decide +kernel
theorem dL_law_1294 : decode mL_law.2.1 1294 = .ok (.laload, 1) := by decide +kernel
theorem dL_law_1295 : decode mL_law.2.1 1295 = .ok (.iload 6, 2) := by decide +kernel
theorem dL_law_1297 : decode mL_law.2.1 1297 = .ok (.i2l, 1) := by decide +kernel
theorem dL_law_1298 : decode mL_law.2.1 1298 = .ok (.lcmp, 1) := by decide +kernel
theorem dL_law_1299 : decode mL_law.2.1 1299 = .ok (.ifCond .eq 5, 3) := by decide +kernel
theorem dL_law_1302 : decode mL_law.2.1 1302 = .ok (.iconst 0, 1) := by decide +kernel
theorem dL_law_1303 : decode mL_law.2.1 1303 = .ok (.ireturn, 1) := by decide +kernel
theorem dL_law_1304 : decode mL_law.2.1 1304 = .ok (.goto 386, 3) := by decide +kernel
theorem dL_law_1307 : decode mL_law.2.1 1307 = .ok (.aload_n 1, 1) := by decide +kernel
theorem dL_law_1308 : decode mL_law.2.1 1308 = .ok (.aload_n 0, 1) := by decide +kernel
theorem dL_law_1309 : decode mL_law.2.1 1309 = .ok (.iload 4, 2) := by decide +kernel
theorem dL_law_1311 : decode mL_law.2.1 1311 = .ok (.iconst 1, 1) := by decide +kernel
theorem dL_law_1312 : decode mL_law.2.1 1312 = .ok (.iadd, 1) := by decide +kernel
theorem dL_law_1313 : decode mL_law.2.1 1313 = .ok (.iaload, 1) := by decide +kernel
theorem dL_law_1314 : decode mL_law.2.1 1314 = .ok (.aload_n 0, 1) := by decide +kernel
theorem dL_law_1315 : decode mL_law.2.1 1315 = .ok (.iload 4, 2) := by decide +kernel
theorem dL_law_1317 : decode mL_law.2.1 1317 = .ok (.iconst 2, 1) := by decide +kernel
theorem dL_law_1318 : decode mL_law.2.1 1318 = .ok (.iadd, 1) := by decide +kernel
theorem dL_law_1319 : decode mL_law.2.1 1319 = .ok (.iaload, 1) := by decide +kernel
theorem dL_law_1320 : decode mL_law.2.1 1320 = .ok (.aload_n 3, 1) := by decide +kernel
theorem dL_law_1321 : decode mL_law.2.1 1321 = .ok (.invokestatic 162, 3) := by decide +kernel
theorem dL_law_1324 : decode mL_law.2.1 1324 = .ok (.istore 5, 2) := by decide +kernel
theorem dL_law_1326 : decode mL_law.2.1 1326 = .ok (.aload_n 2, 1) := by decide +kernel
theorem dL_law_1327 : decode mL_law.2.1 1327 = .ok (.aload_n 0, 1) := by decide +kernel
theorem dL_law_1328 : decode mL_law.2.1 1328 = .ok (.iload 4, 2) := by decide +kernel
theorem dL_law_1330 : decode mL_law.2.1 1330 = .ok (.iconst 1, 1) := by decide +kernel
theorem dL_law_1331 : decode mL_law.2.1 1331 = .ok (.iadd, 1) := by decide +kernel
theorem dL_law_1332 : decode mL_law.2.1 1332 = .ok (.iaload, 1) := by decide +kernel
theorem dL_law_1333 : decode mL_law.2.1 1333 = .ok (.aload_n 0, 1) := by decide +kernel
theorem dL_law_1334 : decode mL_law.2.1 1334 = .ok (.iload 4, 2) := by decide +kernel
theorem dL_law_1336 : decode mL_law.2.1 1336 = .ok (.iconst 2, 1) := by decide +kernel
theorem dL_law_1337 : decode mL_law.2.1 1337 = .ok (.iadd, 1) := by decide +kernel
theorem dL_law_1338 : decode mL_law.2.1 1338 = .ok (.iaload, 1) := by decide +kernel
theorem dL_law_1339 : decode mL_law.2.1 1339 = .ok (.invokevirtual 164, 3) := by decide +kernel
theorem dL_law_1342 : decode mL_law.2.1 1342 = .ok (.lstore 6, 2) := by decide +kernel
theorem dL_law_1344 : decode mL_law.2.1 1344 = .ok (.aload_n 2, 1) := by decide +kernel
theorem dL_law_1345 : decode mL_law.2.1 1345 = .ok (.invokevirtual 105, 3) := by decide +kernel
theorem dL_law_1348 : decode mL_law.2.1 1348 = .ok (.iload 5, 2) := by decide +kernel
theorem dL_law_1350 : decode mL_law.2.1 1350 = .ok (.if_icmp .eq 5, 3) := by decide +kernel
theorem dL_law_1353 : decode mL_law.2.1 1353 = .ok (.iconst 0, 1) := by decide +kernel
theorem dL_law_1354 : decode mL_law.2.1 1354 = .ok (.ireturn, 1) := by decide +kernel
theorem dL_law_1355 : decode mL_law.2.1 1355 = .ok (.iload 5, 2) := by decide +kernel
theorem dL_law_1357 : decode mL_law.2.1 1357 = .ok (.ifCond .ne 14, 3) := by decide +kernel
theorem dL_law_1360 : decode mL_law.2.1 1360 = .ok (.aload_n 3, 1) := by decide +kernel
theorem dL_law_1361 : decode mL_law.2.1 1361 = .ok (.iconst 0, 1) := by decide +kernel
theorem dL_law_1362 : decode mL_law.2.1 1362 = .ok (.laload, 1) := by decide +kernel
theorem dL_law_1363 : decode mL_law.2.1 1363 = .ok (.lload 6, 2) := by decide +kernel
theorem dL_law_1365 : decode mL_law.2.1 1365 = .ok (.lcmp, 1) := by decide +kernel
theorem dL_law_1366 : decode mL_law.2.1 1366 = .ok (.ifCond .eq 5, 3) := by decide +kernel
theorem dL_law_1369 : decode mL_law.2.1 1369 = .ok (.iconst 0, 1) := by decide +kernel
theorem dL_law_1370 : decode mL_law.2.1 1370 = .ok (.ireturn, 1) := by decide +kernel
theorem dL_law_1371 : decode mL_law.2.1 1371 = .ok (.goto 319, 3) := by decide +kernel
theorem dL_law_1374 : decode mL_law.2.1 1374 = .ok (.aload_n 1, 1) := by decide +kernel
theorem dL_law_1375 : decode mL_law.2.1 1375 = .ok (.aload_n 0, 1) := by decide +kernel
theorem dL_law_1376 : decode mL_law.2.1 1376 = .ok (.iload 4, 2) := by decide +kernel
theorem dL_law_1378 : decode mL_law.2.1 1378 = .ok (.iconst 1, 1) := by decide +kernel
theorem dL_law_1379 : decode mL_law.2.1 1379 = .ok (.iadd, 1) := by decide +kernel
theorem dL_law_1380 : decode mL_law.2.1 1380 = .ok (.iaload, 1) := by decide +kernel
theorem dL_law_1381 : decode mL_law.2.1 1381 = .ok (.aload_n 0, 1) := by decide +kernel
theorem dL_law_1382 : decode mL_law.2.1 1382 = .ok (.iload 4, 2) := by decide +kernel
theorem dL_law_1384 : decode mL_law.2.1 1384 = .ok (.iconst 2, 1) := by decide +kernel
theorem dL_law_1385 : decode mL_law.2.1 1385 = .ok (.iadd, 1) := by decide +kernel
theorem dL_law_1386 : decode mL_law.2.1 1386 = .ok (.iaload, 1) := by decide +kernel
theorem dL_law_1387 : decode mL_law.2.1 1387 = .ok (.aload_n 3, 1) := by decide +kernel
theorem dL_law_1388 : decode mL_law.2.1 1388 = .ok (.invokestatic 165, 3) := by decide +kernel
theorem dL_law_1391 : decode mL_law.2.1 1391 = .ok (.istore 5, 2) := by decide +kernel
theorem dL_law_1393 : decode mL_law.2.1 1393 = .ok (.aload_n 2, 1) := by decide +kernel
theorem dL_law_1394 : decode mL_law.2.1 1394 = .ok (.aload_n 0, 1) := by decide +kernel
theorem dL_law_1395 : decode mL_law.2.1 1395 = .ok (.iload 4, 2) := by decide +kernel
theorem dL_law_1397 : decode mL_law.2.1 1397 = .ok (.iconst 1, 1) := by decide +kernel
theorem dL_law_1398 : decode mL_law.2.1 1398 = .ok (.iadd, 1) := by decide +kernel
theorem dL_law_1399 : decode mL_law.2.1 1399 = .ok (.iaload, 1) := by decide +kernel
theorem dL_law_1400 : decode mL_law.2.1 1400 = .ok (.aload_n 0, 1) := by decide +kernel
theorem dL_law_1401 : decode mL_law.2.1 1401 = .ok (.iload 4, 2) := by decide +kernel
theorem dL_law_1403 : decode mL_law.2.1 1403 = .ok (.iconst 2, 1) := by decide +kernel
theorem dL_law_1404 : decode mL_law.2.1 1404 = .ok (.iadd, 1) := by decide +kernel
theorem dL_law_1405 : decode mL_law.2.1 1405 = .ok (.iaload, 1) := by decide +kernel
theorem dL_law_1406 : decode mL_law.2.1 1406 = .ok (.invokevirtual 167, 3) := by decide +kernel
theorem dL_law_1409 : decode mL_law.2.1 1409 = .ok (.istore 6, 2) := by decide +kernel
theorem dL_law_1411 : decode mL_law.2.1 1411 = .ok (.aload_n 2, 1) := by decide +kernel
theorem dL_law_1412 : decode mL_law.2.1 1412 = .ok (.invokevirtual 105, 3) := by decide +kernel
theorem dL_law_1415 : decode mL_law.2.1 1415 = .ok (.iload 5, 2) := by decide +kernel
theorem dL_law_1417 : decode mL_law.2.1 1417 = .ok (.if_icmp .eq 5, 3) := by decide +kernel
theorem dL_law_1420 : decode mL_law.2.1 1420 = .ok (.iconst 0, 1) := by decide +kernel
theorem dL_law_1421 : decode mL_law.2.1 1421 = .ok (.ireturn, 1) := by decide +kernel
theorem dL_law_1422 : decode mL_law.2.1 1422 = .ok (.iload 5, 2) := by decide +kernel
theorem dL_law_1424 : decode mL_law.2.1 1424 = .ok (.ifCond .ne 15, 3) := by decide +kernel
theorem dL_law_1427 : decode mL_law.2.1 1427 = .ok (.aload_n 3, 1) := by decide +kernel
theorem dL_law_1428 : decode mL_law.2.1 1428 = .ok (.iconst 0, 1) := by decide +kernel
theorem dL_law_1429 : decode mL_law.2.1 1429 = .ok (.laload, 1) := by decide +kernel
theorem dL_law_1430 : decode mL_law.2.1 1430 = .ok (.iload 6, 2) := by decide +kernel
theorem dL_law_1432 : decode mL_law.2.1 1432 = .ok (.i2l, 1) := by decide +kernel
theorem dL_law_1433 : decode mL_law.2.1 1433 = .ok (.lcmp, 1) := by decide +kernel
theorem dL_law_1434 : decode mL_law.2.1 1434 = .ok (.ifCond .eq 5, 3) := by decide +kernel
theorem dL_law_1437 : decode mL_law.2.1 1437 = .ok (.iconst 0, 1) := by decide +kernel
theorem dL_law_1438 : decode mL_law.2.1 1438 = .ok (.ireturn, 1) := by decide +kernel
theorem dL_law_1439 : decode mL_law.2.1 1439 = .ok (.goto 251, 3) := by decide +kernel
theorem dL_law_1442 : decode mL_law.2.1 1442 = .ok (.aload_n 1, 1) := by decide +kernel
theorem dL_law_1443 : decode mL_law.2.1 1443 = .ok (.aload_n 0, 1) := by decide +kernel
theorem dL_law_1444 : decode mL_law.2.1 1444 = .ok (.iload 4, 2) := by decide +kernel
theorem dL_law_1446 : decode mL_law.2.1 1446 = .ok (.iconst 1, 1) := by decide +kernel
theorem dL_law_1447 : decode mL_law.2.1 1447 = .ok (.iadd, 1) := by decide +kernel
theorem dL_law_1448 : decode mL_law.2.1 1448 = .ok (.iaload, 1) := by decide +kernel
theorem dL_law_1449 : decode mL_law.2.1 1449 = .ok (.aload_n 0, 1) := by decide +kernel
theorem dL_law_1450 : decode mL_law.2.1 1450 = .ok (.iload 4, 2) := by decide +kernel
theorem dL_law_1452 : decode mL_law.2.1 1452 = .ok (.iconst 2, 1) := by decide +kernel
theorem dL_law_1453 : decode mL_law.2.1 1453 = .ok (.iadd, 1) := by decide +kernel
theorem dL_law_1454 : decode mL_law.2.1 1454 = .ok (.iaload, 1) := by decide +kernel
theorem dL_law_1455 : decode mL_law.2.1 1455 = .ok (.aload_n 3, 1) := by decide +kernel
theorem dL_law_1456 : decode mL_law.2.1 1456 = .ok (.invokestatic 168, 3) := by decide +kernel
theorem dL_law_1459 : decode mL_law.2.1 1459 = .ok (.istore 5, 2) := by decide +kernel
theorem dL_law_1461 : decode mL_law.2.1 1461 = .ok (.aload_n 2, 1) := by decide +kernel
theorem dL_law_1462 : decode mL_law.2.1 1462 = .ok (.aload_n 0, 1) := by decide +kernel
theorem dL_law_1463 : decode mL_law.2.1 1463 = .ok (.iload 4, 2) := by decide +kernel
theorem dL_law_1465 : decode mL_law.2.1 1465 = .ok (.iconst 1, 1) := by decide +kernel
theorem dL_law_1466 : decode mL_law.2.1 1466 = .ok (.iadd, 1) := by decide +kernel
theorem dL_law_1467 : decode mL_law.2.1 1467 = .ok (.iaload, 1) := by decide +kernel
theorem dL_law_1468 : decode mL_law.2.1 1468 = .ok (.aload_n 0, 1) := by decide +kernel
theorem dL_law_1469 : decode mL_law.2.1 1469 = .ok (.iload 4, 2) := by decide +kernel
theorem dL_law_1471 : decode mL_law.2.1 1471 = .ok (.iconst 2, 1) := by decide +kernel
theorem dL_law_1472 : decode mL_law.2.1 1472 = .ok (.iadd, 1) := by decide +kernel
theorem dL_law_1473 : decode mL_law.2.1 1473 = .ok (.iaload, 1) := by decide +kernel
theorem dL_law_1474 : decode mL_law.2.1 1474 = .ok (.invokevirtual 170, 3) := by decide +kernel
theorem dL_law_1477 : decode mL_law.2.1 1477 = .ok (.istore 6, 2) := by decide +kernel
theorem dL_law_1479 : decode mL_law.2.1 1479 = .ok (.aload_n 2, 1) := by decide +kernel
theorem dL_law_1480 : decode mL_law.2.1 1480 = .ok (.invokevirtual 105, 3) := by decide +kernel
theorem dL_law_1483 : decode mL_law.2.1 1483 = .ok (.iload 5, 2) := by decide +kernel
theorem dL_law_1485 : decode mL_law.2.1 1485 = .ok (.if_icmp .eq 5, 3) := by decide +kernel
theorem dL_law_1488 : decode mL_law.2.1 1488 = .ok (.iconst 0, 1) := by decide +kernel
theorem dL_law_1489 : decode mL_law.2.1 1489 = .ok (.ireturn, 1) := by decide +kernel
theorem dL_law_1490 : decode mL_law.2.1 1490 = .ok (.iload 5, 2) := by decide +kernel
theorem dL_law_1492 : decode mL_law.2.1 1492 = .ok (.ifCond .ne 15, 3) := by decide +kernel
theorem dL_law_1495 : decode mL_law.2.1 1495 = .ok (.aload_n 3, 1) := by decide +kernel
theorem dL_law_1496 : decode mL_law.2.1 1496 = .ok (.iconst 0, 1) := by decide +kernel
theorem dL_law_1497 : decode mL_law.2.1 1497 = .ok (.laload, 1) := by decide +kernel
theorem dL_law_1498 : decode mL_law.2.1 1498 = .ok (.iload 6, 2) := by decide +kernel
theorem dL_law_1500 : decode mL_law.2.1 1500 = .ok (.i2l, 1) := by decide +kernel
theorem dL_law_1501 : decode mL_law.2.1 1501 = .ok (.lcmp, 1) := by decide +kernel
theorem dL_law_1502 : decode mL_law.2.1 1502 = .ok (.ifCond .eq 5, 3) := by decide +kernel
theorem dL_law_1505 : decode mL_law.2.1 1505 = .ok (.iconst 0, 1) := by decide +kernel
theorem dL_law_1506 : decode mL_law.2.1 1506 = .ok (.ireturn, 1) := by decide +kernel
theorem dL_law_1507 : decode mL_law.2.1 1507 = .ok (.goto 183, 3) := by decide +kernel
theorem dL_law_1510 : decode mL_law.2.1 1510 = .ok (.aload_n 1, 1) := by decide +kernel
theorem dL_law_1511 : decode mL_law.2.1 1511 = .ok (.aload_n 0, 1) := by decide +kernel
theorem dL_law_1512 : decode mL_law.2.1 1512 = .ok (.iload 4, 2) := by decide +kernel
theorem dL_law_1514 : decode mL_law.2.1 1514 = .ok (.iconst 1, 1) := by decide +kernel
theorem dL_law_1515 : decode mL_law.2.1 1515 = .ok (.iadd, 1) := by decide +kernel
theorem dL_law_1516 : decode mL_law.2.1 1516 = .ok (.iaload, 1) := by decide +kernel
theorem dL_law_1517 : decode mL_law.2.1 1517 = .ok (.aload_n 3, 1) := by decide +kernel
theorem dL_law_1518 : decode mL_law.2.1 1518 = .ok (.invokestatic 171, 3) := by decide +kernel
theorem dL_law_1521 : decode mL_law.2.1 1521 = .ok (.istore 5, 2) := by decide +kernel
theorem dL_law_1523 : decode mL_law.2.1 1523 = .ok (.aload_n 2, 1) := by decide +kernel
theorem dL_law_1524 : decode mL_law.2.1 1524 = .ok (.aload_n 0, 1) := by decide +kernel
theorem dL_law_1525 : decode mL_law.2.1 1525 = .ok (.iload 4, 2) := by decide +kernel
theorem dL_law_1527 : decode mL_law.2.1 1527 = .ok (.iconst 1, 1) := by decide +kernel
theorem dL_law_1528 : decode mL_law.2.1 1528 = .ok (.iadd, 1) := by decide +kernel
theorem dL_law_1529 : decode mL_law.2.1 1529 = .ok (.iaload, 1) := by decide +kernel
theorem dL_law_1530 : decode mL_law.2.1 1530 = .ok (.invokevirtual 173, 3) := by decide +kernel
theorem dL_law_1533 : decode mL_law.2.1 1533 = .ok (.istore 6, 2) := by decide +kernel
theorem dL_law_1535 : decode mL_law.2.1 1535 = .ok (.aload_n 2, 1) := by decide +kernel
theorem dL_law_1536 : decode mL_law.2.1 1536 = .ok (.invokevirtual 105, 3) := by decide +kernel
theorem dL_law_1539 : decode mL_law.2.1 1539 = .ok (.iload 5, 2) := by decide +kernel
theorem dL_law_1541 : decode mL_law.2.1 1541 = .ok (.if_icmp .eq 5, 3) := by decide +kernel
theorem dL_law_1544 : decode mL_law.2.1 1544 = .ok (.iconst 0, 1) := by decide +kernel
theorem dL_law_1545 : decode mL_law.2.1 1545 = .ok (.ireturn, 1) := by decide +kernel
theorem dL_law_1546 : decode mL_law.2.1 1546 = .ok (.iload 5, 2) := by decide +kernel
theorem dL_law_1548 : decode mL_law.2.1 1548 = .ok (.ifCond .ne 15, 3) := by decide +kernel
theorem dL_law_1551 : decode mL_law.2.1 1551 = .ok (.aload_n 3, 1) := by decide +kernel
theorem dL_law_1552 : decode mL_law.2.1 1552 = .ok (.iconst 0, 1) := by decide +kernel
theorem dL_law_1553 : decode mL_law.2.1 1553 = .ok (.laload, 1) := by decide +kernel
theorem dL_law_1554 : decode mL_law.2.1 1554 = .ok (.iload 6, 2) := by decide +kernel
theorem dL_law_1556 : decode mL_law.2.1 1556 = .ok (.i2l, 1) := by decide +kernel
theorem dL_law_1557 : decode mL_law.2.1 1557 = .ok (.lcmp, 1) := by decide +kernel
theorem dL_law_1558 : decode mL_law.2.1 1558 = .ok (.ifCond .eq 5, 3) := by decide +kernel
theorem dL_law_1561 : decode mL_law.2.1 1561 = .ok (.iconst 0, 1) := by decide +kernel
theorem dL_law_1562 : decode mL_law.2.1 1562 = .ok (.ireturn, 1) := by decide +kernel
theorem dL_law_1563 : decode mL_law.2.1 1563 = .ok (.goto 127, 3) := by decide +kernel
theorem dL_law_1566 : decode mL_law.2.1 1566 = .ok (.aload_n 1, 1) := by decide +kernel
theorem dL_law_1567 : decode mL_law.2.1 1567 = .ok (.aload_n 0, 1) := by decide +kernel
theorem dL_law_1568 : decode mL_law.2.1 1568 = .ok (.iload 4, 2) := by decide +kernel
theorem dL_law_1570 : decode mL_law.2.1 1570 = .ok (.iconst 1, 1) := by decide +kernel
theorem dL_law_1571 : decode mL_law.2.1 1571 = .ok (.iadd, 1) := by decide +kernel
theorem dL_law_1572 : decode mL_law.2.1 1572 = .ok (.iaload, 1) := by decide +kernel
theorem dL_law_1573 : decode mL_law.2.1 1573 = .ok (.aload_n 3, 1) := by decide +kernel
theorem dL_law_1574 : decode mL_law.2.1 1574 = .ok (.invokestatic 174, 3) := by decide +kernel
theorem dL_law_1577 : decode mL_law.2.1 1577 = .ok (.istore 5, 2) := by decide +kernel
theorem dL_law_1579 : decode mL_law.2.1 1579 = .ok (.aload_n 2, 1) := by decide +kernel
theorem dL_law_1580 : decode mL_law.2.1 1580 = .ok (.aload_n 0, 1) := by decide +kernel
theorem dL_law_1581 : decode mL_law.2.1 1581 = .ok (.iload 4, 2) := by decide +kernel
theorem dL_law_1583 : decode mL_law.2.1 1583 = .ok (.iconst 1, 1) := by decide +kernel
theorem dL_law_1584 : decode mL_law.2.1 1584 = .ok (.iadd, 1) := by decide +kernel
theorem dL_law_1585 : decode mL_law.2.1 1585 = .ok (.iaload, 1) := by decide +kernel
theorem dL_law_1586 : decode mL_law.2.1 1586 = .ok (.invokevirtual 176, 3) := by decide +kernel
theorem dL_law_1589 : decode mL_law.2.1 1589 = .ok (.istore 6, 2) := by decide +kernel
theorem dL_law_1591 : decode mL_law.2.1 1591 = .ok (.aload_n 2, 1) := by decide +kernel
theorem dL_law_1592 : decode mL_law.2.1 1592 = .ok (.invokevirtual 105, 3) := by decide +kernel
theorem dL_law_1595 : decode mL_law.2.1 1595 = .ok (.iload 5, 2) := by decide +kernel
theorem dL_law_1597 : decode mL_law.2.1 1597 = .ok (.if_icmp .eq 5, 3) := by decide +kernel
theorem dL_law_1600 : decode mL_law.2.1 1600 = .ok (.iconst 0, 1) := by decide +kernel
theorem dL_law_1601 : decode mL_law.2.1 1601 = .ok (.ireturn, 1) := by decide +kernel
theorem dL_law_1602 : decode mL_law.2.1 1602 = .ok (.iload 5, 2) := by decide +kernel
theorem dL_law_1604 : decode mL_law.2.1 1604 = .ok (.ifCond .ne 15, 3) := by decide +kernel
theorem dL_law_1607 : decode mL_law.2.1 1607 = .ok (.aload_n 3, 1) := by decide +kernel
theorem dL_law_1608 : decode mL_law.2.1 1608 = .ok (.iconst 0, 1) := by decide +kernel
theorem dL_law_1609 : decode mL_law.2.1 1609 = .ok (.laload, 1) := by decide +kernel
theorem dL_law_1610 : decode mL_law.2.1 1610 = .ok (.iload 6, 2) := by decide +kernel
theorem dL_law_1612 : decode mL_law.2.1 1612 = .ok (.i2l, 1) := by decide +kernel
theorem dL_law_1613 : decode mL_law.2.1 1613 = .ok (.lcmp, 1) := by decide +kernel
theorem dL_law_1614 : decode mL_law.2.1 1614 = .ok (.ifCond .eq 5, 3) := by decide +kernel
theorem dL_law_1617 : decode mL_law.2.1 1617 = .ok (.iconst 0, 1) := by decide +kernel
theorem dL_law_1618 : decode mL_law.2.1 1618 = .ok (.ireturn, 1) := by decide +kernel
theorem dL_law_1619 : decode mL_law.2.1 1619 = .ok (.goto 71, 3) := by decide +kernel
theorem dL_law_1622 : decode mL_law.2.1 1622 = .ok (.aload_n 1, 1) := by decide +kernel
theorem dL_law_1623 : decode mL_law.2.1 1623 = .ok (.aload_n 0, 1) := by decide +kernel
theorem dL_law_1624 : decode mL_law.2.1 1624 = .ok (.iload 4, 2) := by decide +kernel
theorem dL_law_1626 : decode mL_law.2.1 1626 = .ok (.iconst 1, 1) := by decide +kernel
theorem dL_law_1627 : decode mL_law.2.1 1627 = .ok (.iadd, 1) := by decide +kernel
theorem dL_law_1628 : decode mL_law.2.1 1628 = .ok (.iaload, 1) := by decide +kernel
theorem dL_law_1629 : decode mL_law.2.1 1629 = .ok (.aload_n 0, 1) := by decide +kernel
theorem dL_law_1630 : decode mL_law.2.1 1630 = .ok (.iload 4, 2) := by decide +kernel
theorem dL_law_1632 : decode mL_law.2.1 1632 = .ok (.iconst 2, 1) := by decide +kernel
theorem dL_law_1633 : decode mL_law.2.1 1633 = .ok (.iadd, 1) := by decide +kernel
theorem dL_law_1634 : decode mL_law.2.1 1634 = .ok (.iaload, 1) := by decide +kernel
theorem dL_law_1635 : decode mL_law.2.1 1635 = .ok (.aload_n 3, 1) := by decide +kernel
theorem dL_law_1636 : decode mL_law.2.1 1636 = .ok (.invokestatic 177, 3) := by decide +kernel
theorem dL_law_1639 : decode mL_law.2.1 1639 = .ok (.istore 5, 2) := by decide +kernel
theorem dL_law_1641 : decode mL_law.2.1 1641 = .ok (.aload_n 2, 1) := by decide +kernel
theorem dL_law_1642 : decode mL_law.2.1 1642 = .ok (.aload_n 0, 1) := by decide +kernel
theorem dL_law_1643 : decode mL_law.2.1 1643 = .ok (.iload 4, 2) := by decide +kernel
theorem dL_law_1645 : decode mL_law.2.1 1645 = .ok (.iconst 1, 1) := by decide +kernel
theorem dL_law_1646 : decode mL_law.2.1 1646 = .ok (.iadd, 1) := by decide +kernel
theorem dL_law_1647 : decode mL_law.2.1 1647 = .ok (.iaload, 1) := by decide +kernel
theorem dL_law_1648 : decode mL_law.2.1 1648 = .ok (.aload_n 0, 1) := by decide +kernel
theorem dL_law_1649 : decode mL_law.2.1 1649 = .ok (.iload 4, 2) := by decide +kernel
theorem dL_law_1651 : decode mL_law.2.1 1651 = .ok (.iconst 2, 1) := by decide +kernel
theorem dL_law_1652 : decode mL_law.2.1 1652 = .ok (.iadd, 1) := by decide +kernel
theorem dL_law_1653 : decode mL_law.2.1 1653 = .ok (.iaload, 1) := by decide +kernel
theorem dL_law_1654 : decode mL_law.2.1 1654 = .ok (.invokevirtual 179, 3) := by decide +kernel
theorem dL_law_1657 : decode mL_law.2.1 1657 = .ok (.istore 6, 2) := by decide +kernel
theorem dL_law_1659 : decode mL_law.2.1 1659 = .ok (.aload_n 2, 1) := by decide +kernel
theorem dL_law_1660 : decode mL_law.2.1 1660 = .ok (.invokevirtual 105, 3) := by decide +kernel
theorem dL_law_1663 : decode mL_law.2.1 1663 = .ok (.iload 5, 2) := by decide +kernel
theorem dL_law_1665 : decode mL_law.2.1 1665 = .ok (.if_icmp .eq 5, 3) := by decide +kernel
theorem dL_law_1668 : decode mL_law.2.1 1668 = .ok (.iconst 0, 1) := by decide +kernel
theorem dL_law_1669 : decode mL_law.2.1 1669 = .ok (.ireturn, 1) := by decide +kernel
theorem dL_law_1670 : decode mL_law.2.1 1670 = .ok (.iload 5, 2) := by decide +kernel
theorem dL_law_1672 : decode mL_law.2.1 1672 = .ok (.ifCond .ne 15, 3) := by decide +kernel
theorem dL_law_1675 : decode mL_law.2.1 1675 = .ok (.aload_n 3, 1) := by decide +kernel
theorem dL_law_1676 : decode mL_law.2.1 1676 = .ok (.iconst 0, 1) := by decide +kernel
theorem dL_law_1677 : decode mL_law.2.1 1677 = .ok (.laload, 1) := by decide +kernel
theorem dL_law_1678 : decode mL_law.2.1 1678 = .ok (.iload 6, 2) := by decide +kernel
theorem dL_law_1680 : decode mL_law.2.1 1680 = .ok (.i2l, 1) := by decide +kernel
theorem dL_law_1681 : decode mL_law.2.1 1681 = .ok (.lcmp, 1) := by decide +kernel
theorem dL_law_1682 : decode mL_law.2.1 1682 = .ok (.ifCond .eq 5, 3) := by decide +kernel
theorem dL_law_1685 : decode mL_law.2.1 1685 = .ok (.iconst 0, 1) := by decide +kernel
theorem dL_law_1686 : decode mL_law.2.1 1686 = .ok (.ireturn, 1) := by decide +kernel
theorem dL_law_1687 : decode mL_law.2.1 1687 = .ok (.goto 3, 3) := by decide +kernel
theorem dL_law_1690 : decode mL_law.2.1 1690 = .ok (.iinc 4 7, 3) := by decide +kernel
theorem dL_law_1693 : decode mL_law.2.1 1693 = .ok (.goto (-1670), 3) := by decide +kernel
theorem dL_law_1696 : decode mL_law.2.1 1696 = .ok (.iconst 1, 1) := by decide +kernel
theorem dL_law_1697 : decode mL_law.2.1 1697 = .ok (.ireturn, 1) := by decide +kernel
