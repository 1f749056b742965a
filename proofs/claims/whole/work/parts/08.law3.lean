set_option maxRecDepth 100000 in
theorem d_L_law_889 : decode code 889 = .ok (.aload_n 0, 1) := by decide +kernel
set_option maxRecDepth 100000 in
theorem d_L_law_890 : decode code 890 = .ok (.iload 4, 2) := by decide +kernel
set_option maxRecDepth 100000 in
theorem d_L_law_892 : decode code 892 = .ok (.iconst 1, 1) := by decide +kernel
set_option maxRecDepth 100000 in
theorem d_L_law_893 : decode code 893 = .ok (.iadd, 1) := by decide +kernel
set_option maxRecDepth 100000 in
theorem d_L_law_894 : decode code 894 = .ok (.iaload, 1) := by decide +kernel
set_option maxRecDepth 100000 in
theorem d_L_law_895 : decode code 895 = .ok (.aload_n 0, 1) := by decide +kernel
set_option maxRecDepth 100000 in
theorem d_L_law_896 : decode code 896 = .ok (.iload 4, 2) := by decide +kernel
set_option maxRecDepth 100000 in
theorem d_L_law_898 : decode code 898 = .ok (.iconst 2, 1) := by decide +kernel
set_option maxRecDepth 100000 in
theorem d_L_law_899 : decode code 899 = .ok (.iadd, 1) := by decide +kernel
set_option maxRecDepth 100000 in
theorem d_L_law_900 : decode code 900 = .ok (.iaload, 1) := by decide +kernel
set_option maxRecDepth 100000 in
theorem d_L_law_901 : decode code 901 = .ok (.aload_n 3, 1) := by decide +kernel
set_option maxRecDepth 100000 in
theorem d_L_law_902 : decode code 902 = .ok (.invokestatic 131, 3) := by decide +kernel
set_option maxRecDepth 100000 in
theorem d_L_law_905 : decode code 905 = .ok (.istore 5, 2) := by decide +kernel
set_option maxRecDepth 100000 in
theorem d_L_law_907 : decode code 907 = .ok (.aload_n 2, 1) := by decide +kernel
set_option maxRecDepth 100000 in
theorem d_L_law_908 : decode code 908 = .ok (.aload_n 0, 1) := by decide +kernel
set_option maxRecDepth 100000 in
theorem d_L_law_909 : decode code 909 = .ok (.iload 4, 2) := by decide +kernel
set_option maxRecDepth 100000 in
theorem d_L_law_911 : decode code 911 = .ok (.iconst 1, 1) := by decide +kernel
set_option maxRecDepth 100000 in
theorem d_L_law_912 : decode code 912 = .ok (.iadd, 1) := by decide +kernel
set_option maxRecDepth 100000 in
theorem d_L_law_913 : decode code 913 = .ok (.iaload, 1) := by decide +kernel
set_option maxRecDepth 100000 in
theorem d_L_law_914 : decode code 914 = .ok (.aload_n 0, 1) := by decide +kernel
set_option maxRecDepth 100000 in
theorem d_L_law_915 : decode code 915 = .ok (.iload 4, 2) := by decide +kernel
set_option maxRecDepth 100000 in
theorem d_L_law_917 : decode code 917 = .ok (.iconst 2, 1) := by decide +kernel
set_option maxRecDepth 100000 in
theorem d_L_law_918 : decode code 918 = .ok (.iadd, 1) := by decide +kernel
set_option maxRecDepth 100000 in
theorem d_L_law_919 : decode code 919 = .ok (.iaload, 1) := by decide +kernel
set_option maxRecDepth 100000 in
theorem d_L_law_920 : decode code 920 = .ok (.invokevirtual 133, 3) := by decide +kernel
set_option maxRecDepth 100000 in
theorem d_L_law_923 : decode code 923 = .ok (.istore 6, 2) := by decide +kernel
set_option maxRecDepth 100000 in
theorem d_L_law_925 : decode code 925 = .ok (.aload_n 2, 1) := by decide +kernel
set_option maxRecDepth 100000 in
theorem d_L_law_926 : decode code 926 = .ok (.invokevirtual 91, 3) := by decide +kernel
set_option maxRecDepth 100000 in
theorem d_L_law_929 : decode code 929 = .ok (.iload 5, 2) := by decide +kernel
set_option maxRecDepth 100000 in
theorem d_L_law_931 : decode code 931 = .ok (.if_icmp .eq 5, 3) := by decide +kernel
set_option maxRecDepth 100000 in
theorem d_L_law_934 : decode code 934 = .ok (.iconst 0, 1) := by decide +kernel
set_option maxRecDepth 100000 in
theorem d_L_law_935 : decode code 935 = .ok (.ireturn, 1) := by decide +kernel
set_option maxRecDepth 100000 in
theorem d_L_law_936 : decode code 936 = .ok (.iload 5, 2) := by decide +kernel
set_option maxRecDepth 100000 in
theorem d_L_law_938 : decode code 938 = .ok (.ifCond .ne 15, 3) := by decide +kernel
set_option maxRecDepth 100000 in
theorem d_L_law_941 : decode code 941 = .ok (.aload_n 3, 1) := by decide +kernel
set_option maxRecDepth 100000 in
theorem d_L_law_942 : decode code 942 = .ok (.iconst 0, 1) := by decide +kernel
set_option maxRecDepth 100000 in
theorem d_L_law_943 : decode code 943 = .ok (.laload, 1) := by decide +kernel
set_option maxRecDepth 100000 in
theorem d_L_law_944 : decode code 944 = .ok (.iload 6, 2) := by decide +kernel
set_option maxRecDepth 100000 in
theorem d_L_law_946 : decode code 946 = .ok (.i2l, 1) := by decide +kernel
set_option maxRecDepth 100000 in
theorem d_L_law_947 : decode code 947 = .ok (.lcmp, 1) := by decide +kernel
set_option maxRecDepth 100000 in
theorem d_L_law_948 : decode code 948 = .ok (.ifCond .eq 5, 3) := by decide +kernel
set_option maxRecDepth 100000 in
theorem d_L_law_951 : decode code 951 = .ok (.iconst 0, 1) := by decide +kernel
set_option maxRecDepth 100000 in
theorem d_L_law_952 : decode code 952 = .ok (.ireturn, 1) := by decide +kernel
set_option maxRecDepth 100000 in
theorem d_L_law_953 : decode code 953 = .ok (.goto 296, 3) := by decide +kernel
set_option maxRecDepth 100000 in
theorem d_L_law_956 : decode code 956 = .ok (.aload_n 1, 1) := by decide +kernel
set_option maxRecDepth 100000 in
theorem d_L_law_957 : decode code 957 = .ok (.aload_n 0, 1) := by decide +kernel
set_option maxRecDepth 100000 in
theorem d_L_law_958 : decode code 958 = .ok (.iload 4, 2) := by decide +kernel
set_option maxRecDepth 100000 in
theorem d_L_law_960 : decode code 960 = .ok (.iconst 1, 1) := by decide +kernel
set_option maxRecDepth 100000 in
theorem d_L_law_961 : decode code 961 = .ok (.iadd, 1) := by decide +kernel
set_option maxRecDepth 100000 in
theorem d_L_law_962 : decode code 962 = .ok (.iaload, 1) := by decide +kernel
set_option maxRecDepth 100000 in
theorem d_L_law_963 : decode code 963 = .ok (.aload_n 3, 1) := by decide +kernel
set_option maxRecDepth 100000 in
theorem d_L_law_964 : decode code 964 = .ok (.invokestatic 134, 3) := by decide +kernel
set_option maxRecDepth 100000 in
theorem d_L_law_967 : decode code 967 = .ok (.istore 5, 2) := by decide +kernel
set_option maxRecDepth 100000 in
theorem d_L_law_969 : decode code 969 = .ok (.aload_n 2, 1) := by decide +kernel
set_option maxRecDepth 100000 in
theorem d_L_law_970 : decode code 970 = .ok (.aload_n 0, 1) := by decide +kernel
set_option maxRecDepth 100000 in
theorem d_L_law_971 : decode code 971 = .ok (.iload 4, 2) := by decide +kernel
set_option maxRecDepth 100000 in
theorem d_L_law_973 : decode code 973 = .ok (.iconst 1, 1) := by decide +kernel
set_option maxRecDepth 100000 in
theorem d_L_law_974 : decode code 974 = .ok (.iadd, 1) := by decide +kernel
set_option maxRecDepth 100000 in
theorem d_L_law_975 : decode code 975 = .ok (.iaload, 1) := by decide +kernel
set_option maxRecDepth 100000 in
theorem d_L_law_976 : decode code 976 = .ok (.invokevirtual 136, 3) := by decide +kernel
set_option maxRecDepth 100000 in
theorem d_L_law_979 : decode code 979 = .ok (.istore 6, 2) := by decide +kernel
set_option maxRecDepth 100000 in
theorem d_L_law_981 : decode code 981 = .ok (.aload_n 2, 1) := by decide +kernel
set_option maxRecDepth 100000 in
theorem d_L_law_982 : decode code 982 = .ok (.invokevirtual 91, 3) := by decide +kernel
set_option maxRecDepth 100000 in
theorem d_L_law_985 : decode code 985 = .ok (.iload 5, 2) := by decide +kernel
set_option maxRecDepth 100000 in
theorem d_L_law_987 : decode code 987 = .ok (.if_icmp .eq 5, 3) := by decide +kernel
set_option maxRecDepth 100000 in
theorem d_L_law_990 : decode code 990 = .ok (.iconst 0, 1) := by decide +kernel
set_option maxRecDepth 100000 in
theorem d_L_law_991 : decode code 991 = .ok (.ireturn, 1) := by decide +kernel
set_option maxRecDepth 100000 in
theorem d_L_law_992 : decode code 992 = .ok (.iload 5, 2) := by decide +kernel
set_option maxRecDepth 100000 in
theorem d_L_law_994 : decode code 994 = .ok (.ifCond .ne 15, 3) := by decide +kernel
set_option maxRecDepth 100000 in
theorem d_L_law_997 : decode code 997 = .ok (.aload_n 3, 1) := by decide +kernel
set_option maxRecDepth 100000 in
theorem d_L_law_998 : decode code 998 = .ok (.iconst 0, 1) := by decide +kernel
set_option maxRecDepth 100000 in
theorem d_L_law_999 : decode code 999 = .ok (.laload, 1) := by decide +kernel
set_option maxRecDepth 100000 in
theorem d_L_law_1000 : decode code 1000 = .ok (.iload 6, 2) := by decide +kernel
set_option maxRecDepth 100000 in
theorem d_L_law_1002 : decode code 1002 = .ok (.i2l, 1) := by decide +kernel
set_option maxRecDepth 100000 in
theorem d_L_law_1003 : decode code 1003 = .ok (.lcmp, 1) := by decide +kernel
set_option maxRecDepth 100000 in
theorem d_L_law_1004 : decode code 1004 = .ok (.ifCond .eq 5, 3) := by decide +kernel
set_option maxRecDepth 100000 in
theorem d_L_law_1007 : decode code 1007 = .ok (.iconst 0, 1) := by decide +kernel
set_option maxRecDepth 100000 in
theorem d_L_law_1008 : decode code 1008 = .ok (.ireturn, 1) := by decide +kernel
set_option maxRecDepth 100000 in
theorem d_L_law_1009 : decode code 1009 = .ok (.goto 240, 3) := by decide +kernel
set_option maxRecDepth 100000 in
theorem d_L_law_1012 : decode code 1012 = .ok (.aload_n 1, 1) := by decide +kernel
set_option maxRecDepth 100000 in
theorem d_L_law_1013 : decode code 1013 = .ok (.aload_n 0, 1) := by decide +kernel
set_option maxRecDepth 100000 in
theorem d_L_law_1014 : decode code 1014 = .ok (.iload 4, 2) := by decide +kernel
set_option maxRecDepth 100000 in
theorem d_L_law_1016 : decode code 1016 = .ok (.iconst 1, 1) := by decide +kernel
set_option maxRecDepth 100000 in
theorem d_L_law_1017 : decode code 1017 = .ok (.iadd, 1) := by decide +kernel
set_option maxRecDepth 100000 in
theorem d_L_law_1018 : decode code 1018 = .ok (.iaload, 1) := by decide +kernel
set_option maxRecDepth 100000 in
theorem d_L_law_1019 : decode code 1019 = .ok (.aload_n 3, 1) := by decide +kernel
set_option maxRecDepth 100000 in
theorem d_L_law_1020 : decode code 1020 = .ok (.invokestatic 137, 3) := by decide +kernel
set_option maxRecDepth 100000 in
theorem d_L_law_1023 : decode code 1023 = .ok (.istore 5, 2) := by decide +kernel
set_option maxRecDepth 100000 in
theorem d_L_law_1025 : decode code 1025 = .ok (.aload_n 2, 1) := by decide +kernel
set_option maxRecDepth 100000 in
theorem d_L_law_1026 : decode code 1026 = .ok (.aload_n 0, 1) := by decide +kernel
set_option maxRecDepth 100000 in
theorem d_L_law_1027 : decode code 1027 = .ok (.iload 4, 2) := by decide +kernel
set_option maxRecDepth 100000 in
theorem d_L_law_1029 : decode code 1029 = .ok (.iconst 1, 1) := by decide +kernel
set_option maxRecDepth 100000 in
theorem d_L_law_1030 : decode code 1030 = .ok (.iadd, 1) := by decide +kernel
set_option maxRecDepth 100000 in
theorem d_L_law_1031 : decode code 1031 = .ok (.iaload, 1) := by decide +kernel
set_option maxRecDepth 100000 in
theorem d_L_law_1032 : decode code 1032 = .ok (.invokevirtual 139, 3) := by decide +kernel
set_option maxRecDepth 100000 in
theorem d_L_law_1035 : decode code 1035 = .ok (.istore 6, 2) := by decide +kernel
set_option maxRecDepth 100000 in
theorem d_L_law_1037 : decode code 1037 = .ok (.aload_n 2, 1) := by decide +kernel
set_option maxRecDepth 100000 in
theorem d_L_law_1038 : decode code 1038 = .ok (.invokevirtual 91, 3) := by decide +kernel
set_option maxRecDepth 100000 in
theorem d_L_law_1041 : decode code 1041 = .ok (.iload 5, 2) := by decide +kernel
set_option maxRecDepth 100000 in
theorem d_L_law_1043 : decode code 1043 = .ok (.if_icmp .eq 5, 3) := by decide +kernel
set_option maxRecDepth 100000 in
theorem d_L_law_1046 : decode code 1046 = .ok (.iconst 0, 1) := by decide +kernel
set_option maxRecDepth 100000 in
theorem d_L_law_1047 : decode code 1047 = .ok (.ireturn, 1) := by decide +kernel
set_option maxRecDepth 100000 in
theorem d_L_law_1048 : decode code 1048 = .ok (.iload 5, 2) := by decide +kernel
set_option maxRecDepth 100000 in
theorem d_L_law_1050 : decode code 1050 = .ok (.ifCond .ne 15, 3) := by decide +kernel
set_option maxRecDepth 100000 in
theorem d_L_law_1053 : decode code 1053 = .ok (.aload_n 3, 1) := by decide +kernel
set_option maxRecDepth 100000 in
theorem d_L_law_1054 : decode code 1054 = .ok (.iconst 0, 1) := by decide +kernel
set_option maxRecDepth 100000 in
theorem d_L_law_1055 : decode code 1055 = .ok (.laload, 1) := by decide +kernel
set_option maxRecDepth 100000 in
theorem d_L_law_1056 : decode code 1056 = .ok (.iload 6, 2) := by decide +kernel
set_option maxRecDepth 100000 in
theorem d_L_law_1058 : decode code 1058 = .ok (.i2l, 1) := by decide +kernel
set_option maxRecDepth 100000 in
theorem d_L_law_1059 : decode code 1059 = .ok (.lcmp, 1) := by decide +kernel
set_option maxRecDepth 100000 in
theorem d_L_law_1060 : decode code 1060 = .ok (.ifCond .eq 5, 3) := by decide +kernel
set_option maxRecDepth 100000 in
theorem d_L_law_1063 : decode code 1063 = .ok (.iconst 0, 1) := by decide +kernel
set_option maxRecDepth 100000 in
theorem d_L_law_1064 : decode code 1064 = .ok (.ireturn, 1) := by decide +kernel
set_option maxRecDepth 100000 in
theorem d_L_law_1065 : decode code 1065 = .ok (.goto 184, 3) := by decide +kernel
set_option maxRecDepth 100000 in
theorem d_L_law_1068 : decode code 1068 = .ok (.aload_n 1, 1) := by decide +kernel
set_option maxRecDepth 100000 in
theorem d_L_law_1069 : decode code 1069 = .ok (.aload_n 0, 1) := by decide +kernel
set_option maxRecDepth 100000 in
theorem d_L_law_1070 : decode code 1070 = .ok (.iload 4, 2) := by decide +kernel
set_option maxRecDepth 100000 in
theorem d_L_law_1072 : decode code 1072 = .ok (.iconst 1, 1) := by decide +kernel
set_option maxRecDepth 100000 in
theorem d_L_law_1073 : decode code 1073 = .ok (.iadd, 1) := by decide +kernel
set_option maxRecDepth 100000 in
theorem d_L_law_1074 : decode code 1074 = .ok (.iaload, 1) := by decide +kernel
set_option maxRecDepth 100000 in
theorem d_L_law_1075 : decode code 1075 = .ok (.aload_n 3, 1) := by decide +kernel
set_option maxRecDepth 100000 in
theorem d_L_law_1076 : decode code 1076 = .ok (.invokestatic 140, 3) := by decide +kernel
set_option maxRecDepth 100000 in
theorem d_L_law_1079 : decode code 1079 = .ok (.istore 5, 2) := by decide +kernel
set_option maxRecDepth 100000 in
theorem d_L_law_1081 : decode code 1081 = .ok (.aload_n 2, 1) := by decide +kernel
set_option maxRecDepth 100000 in
theorem d_L_law_1082 : decode code 1082 = .ok (.aload_n 0, 1) := by decide +kernel
set_option maxRecDepth 100000 in
theorem d_L_law_1083 : decode code 1083 = .ok (.iload 4, 2) := by decide +kernel
set_option maxRecDepth 100000 in
theorem d_L_law_1085 : decode code 1085 = .ok (.iconst 1, 1) := by decide +kernel
set_option maxRecDepth 100000 in
theorem d_L_law_1086 : decode code 1086 = .ok (.iadd, 1) := by decide +kernel
set_option maxRecDepth 100000 in
theorem d_L_law_1087 : decode code 1087 = .ok (.iaload, 1) := by decide +kernel
set_option maxRecDepth 100000 in
theorem d_L_law_1088 : decode code 1088 = .ok (.invokevirtual 142, 3) := by decide +kernel
set_option maxRecDepth 100000 in
theorem d_L_law_1091 : decode code 1091 = .ok (.istore 6, 2) := by decide +kernel
set_option maxRecDepth 100000 in
theorem d_L_law_1093 : decode code 1093 = .ok (.aload_n 2, 1) := by decide +kernel
set_option maxRecDepth 100000 in
theorem d_L_law_1094 : decode code 1094 = .ok (.invokevirtual 91, 3) := by decide +kernel
set_option maxRecDepth 100000 in
theorem d_L_law_1097 : decode code 1097 = .ok (.iload 5, 2) := by decide +kernel
set_option maxRecDepth 100000 in
theorem d_L_law_1099 : decode code 1099 = .ok (.if_icmp .eq 5, 3) := by decide +kernel
set_option maxRecDepth 100000 in
theorem d_L_law_1102 : decode code 1102 = .ok (.iconst 0, 1) := by decide +kernel
set_option maxRecDepth 100000 in
theorem d_L_law_1103 : decode code 1103 = .ok (.ireturn, 1) := by decide +kernel
set_option maxRecDepth 100000 in
theorem d_L_law_1104 : decode code 1104 = .ok (.iload 5, 2) := by decide +kernel
set_option maxRecDepth 100000 in
theorem d_L_law_1106 : decode code 1106 = .ok (.ifCond .ne 15, 3) := by decide +kernel
set_option maxRecDepth 100000 in
theorem d_L_law_1109 : decode code 1109 = .ok (.aload_n 3, 1) := by decide +kernel
set_option maxRecDepth 100000 in
theorem d_L_law_1110 : decode code 1110 = .ok (.iconst 0, 1) := by decide +kernel
set_option maxRecDepth 100000 in
theorem d_L_law_1111 : decode code 1111 = .ok (.laload, 1) := by decide +kernel
set_option maxRecDepth 100000 in
theorem d_L_law_1112 : decode code 1112 = .ok (.iload 6, 2) := by decide +kernel
set_option maxRecDepth 100000 in
theorem d_L_law_1114 : decode code 1114 = .ok (.i2l, 1) := by decide +kernel
set_option maxRecDepth 100000 in
theorem d_L_law_1115 : decode code 1115 = .ok (.lcmp, 1) := by decide +kernel
set_option maxRecDepth 100000 in
theorem d_L_law_1116 : decode code 1116 = .ok (.ifCond .eq 5, 3) := by decide +kernel
set_option maxRecDepth 100000 in
theorem d_L_law_1119 : decode code 1119 = .ok (.iconst 0, 1) := by decide +kernel
set_option maxRecDepth 100000 in
theorem d_L_law_1120 : decode code 1120 = .ok (.ireturn, 1) := by decide +kernel
set_option maxRecDepth 100000 in
theorem d_L_law_1121 : decode code 1121 = .ok (.goto 128, 3) := by decide +kernel
set_option maxRecDepth 100000 in
theorem d_L_law_1124 : decode code 1124 = .ok (.aload_n 1, 1) := by decide +kernel
set_option maxRecDepth 100000 in
theorem d_L_law_1125 : decode code 1125 = .ok (.invokevirtual 143, 3) := by decide +kernel
set_option maxRecDepth 100000 in
theorem d_L_law_1128 : decode code 1128 = .ok (.aload_n 2, 1) := by decide +kernel
set_option maxRecDepth 100000 in
theorem d_L_law_1129 : decode code 1129 = .ok (.invokevirtual 146, 3) := by decide +kernel
set_option maxRecDepth 100000 in
theorem d_L_law_1132 : decode code 1132 = .ok (.if_icmp .eq 117, 3) := by decide +kernel
set_option maxRecDepth 100000 in
theorem d_L_law_1135 : decode code 1135 = .ok (.iconst 0, 1) := by decide +kernel
set_option maxRecDepth 100000 in
theorem d_L_law_1136 : decode code 1136 = .ok (.ireturn, 1) := by decide +kernel
set_option maxRecDepth 100000 in
theorem d_L_law_1137 : decode code 1137 = .ok (.aload_n 1, 1) := by decide +kernel
set_option maxRecDepth 100000 in
theorem d_L_law_1138 : decode code 1138 = .ok (.aload_n 0, 1) := by decide +kernel
set_option maxRecDepth 100000 in
theorem d_L_law_1139 : decode code 1139 = .ok (.iload 4, 2) := by decide +kernel
set_option maxRecDepth 100000 in
theorem d_L_law_1141 : decode code 1141 = .ok (.iconst 1, 1) := by decide +kernel
set_option maxRecDepth 100000 in
theorem d_L_law_1142 : decode code 1142 = .ok (.iadd, 1) := by decide +kernel
set_option maxRecDepth 100000 in
theorem d_L_law_1143 : decode code 1143 = .ok (.iaload, 1) := by decide +kernel
set_option maxRecDepth 100000 in
theorem d_L_law_1144 : decode code 1144 = .ok (.aload_n 3, 1) := by decide +kernel
set_option maxRecDepth 100000 in
theorem d_L_law_1145 : decode code 1145 = .ok (.invokestatic 147, 3) := by decide +kernel
set_option maxRecDepth 100000 in
theorem d_L_law_1148 : decode code 1148 = .ok (.istore 5, 2) := by decide +kernel
set_option maxRecDepth 100000 in
theorem d_L_law_1150 : decode code 1150 = .ok (.aload_n 2, 1) := by decide +kernel
set_option maxRecDepth 100000 in
theorem d_L_law_1151 : decode code 1151 = .ok (.aload_n 0, 1) := by decide +kernel
set_option maxRecDepth 100000 in
theorem d_L_law_1152 : decode code 1152 = .ok (.iload 4, 2) := by decide +kernel
set_option maxRecDepth 100000 in
theorem d_L_law_1154 : decode code 1154 = .ok (.iconst 1, 1) := by decide +kernel
set_option maxRecDepth 100000 in
theorem d_L_law_1155 : decode code 1155 = .ok (.iadd, 1) := by decide +kernel
set_option maxRecDepth 100000 in
theorem d_L_law_1156 : decode code 1156 = .ok (.iaload, 1) := by decide +kernel
set_option maxRecDepth 100000 in
theorem d_L_law_1157 : decode code 1157 = .ok (.invokevirtual 149, 3) := by decide +kernel
set_option maxRecDepth 100000 in
theorem d_L_law_1160 : decode code 1160 = .ok (.istore 6, 2) := by decide +kernel
set_option maxRecDepth 100000 in
theorem d_L_law_1162 : decode code 1162 = .ok (.aload_n 2, 1) := by decide +kernel
set_option maxRecDepth 100000 in
theorem d_L_law_1163 : decode code 1163 = .ok (.invokevirtual 91, 3) := by decide +kernel
set_option maxRecDepth 100000 in
theorem d_L_law_1166 : decode code 1166 = .ok (.iload 5, 2) := by decide +kernel
set_option maxRecDepth 100000 in
theorem d_L_law_1168 : decode code 1168 = .ok (.if_icmp .eq 5, 3) := by decide +kernel
set_option maxRecDepth 100000 in
theorem d_L_law_1171 : decode code 1171 = .ok (.iconst 0, 1) := by decide +kernel
set_option maxRecDepth 100000 in
theorem d_L_law_1172 : decode code 1172 = .ok (.ireturn, 1) := by decide +kernel
set_option maxRecDepth 100000 in
theorem d_L_law_1173 : decode code 1173 = .ok (.iload 5, 2) := by decide +kernel
set_option maxRecDepth 100000 in
theorem d_L_law_1175 : decode code 1175 = .ok (.ifCond .ne 15, 3) := by decide +kernel
set_option maxRecDepth 100000 in
theorem d_L_law_1178 : decode code 1178 = .ok (.aload_n 3, 1) := by decide +kernel
set_option maxRecDepth 100000 in
theorem d_L_law_1179 : decode code 1179 = .ok (.iconst 0, 1) := by decide +kernel
set_option maxRecDepth 100000 in
theorem d_L_law_1180 : decode code 1180 = .ok (.laload, 1) := by decide +kernel
set_option maxRecDepth 100000 in
theorem d_L_law_1181 : decode code 1181 = .ok (.iload 6, 2) := by decide +kernel
set_option maxRecDepth 100000 in
theorem d_L_law_1183 : decode code 1183 = .ok (.i2l, 1) := by decide +kernel
set_option maxRecDepth 100000 in
theorem d_L_law_1184 : decode code 1184 = .ok (.lcmp, 1) := by decide +kernel
set_option maxRecDepth 100000 in
theorem d_L_law_1185 : decode code 1185 = .ok (.ifCond .eq 5, 3) := by decide +kernel
set_option maxRecDepth 100000 in
theorem d_L_law_1188 : decode code 1188 = .ok (.iconst 0, 1) := by decide +kernel
set_option maxRecDepth 100000 in
theorem d_L_law_1189 : decode code 1189 = .ok (.ireturn, 1) := by decide +kernel
set_option maxRecDepth 100000 in
theorem d_L_law_1190 : decode code 1190 = .ok (.goto 59, 3) := by decide +kernel
set_option maxRecDepth 100000 in
theorem d_L_law_1193 : decode code 1193 = .ok (.aload_n 1, 1) := by decide +kernel
set_option maxRecDepth 100000 in
theorem d_L_law_1194 : decode code 1194 = .ok (.aload_n 0, 1) := by decide +kernel
set_option maxRecDepth 100000 in
theorem d_L_law_1195 : decode code 1195 = .ok (.iload 4, 2) := by decide +kernel
set_option maxRecDepth 100000 in
theorem d_L_law_1197 : decode code 1197 = .ok (.iconst 1, 1) := by decide +kernel
set_option maxRecDepth 100000 in
theorem d_L_law_1198 : decode code 1198 = .ok (.iadd, 1) := by decide +kernel
set_option maxRecDepth 100000 in
theorem d_L_law_1199 : decode code 1199 = .ok (.iaload, 1) := by decide +kernel
set_option maxRecDepth 100000 in
theorem d_L_law_1200 : decode code 1200 = .ok (.aload_n 3, 1) := by decide +kernel
set_option maxRecDepth 100000 in
theorem d_L_law_1201 : decode code 1201 = .ok (.invokestatic 150, 3) := by decide +kernel
set_option maxRecDepth 100000 in
theorem d_L_law_1204 : decode code 1204 = .ok (.istore 5, 2) := by decide +kernel
set_option maxRecDepth 100000 in
theorem d_L_law_1206 : decode code 1206 = .ok (.aload_n 2, 1) := by decide +kernel
set_option maxRecDepth 100000 in
theorem d_L_law_1207 : decode code 1207 = .ok (.aload_n 0, 1) := by decide +kernel
set_option maxRecDepth 100000 in
theorem d_L_law_1208 : decode code 1208 = .ok (.iload 4, 2) := by decide +kernel
set_option maxRecDepth 100000 in
theorem d_L_law_1210 : decode code 1210 = .ok (.iconst 1, 1) := by decide +kernel
set_option maxRecDepth 100000 in
theorem d_L_law_1211 : decode code 1211 = .ok (.iadd, 1) := by decide +kernel
set_option maxRecDepth 100000 in
theorem d_L_law_1212 : decode code 1212 = .ok (.iaload, 1) := by decide +kernel
set_option maxRecDepth 100000 in
theorem d_L_law_1213 : decode code 1213 = .ok (.invokevirtual 152, 3) := by decide +kernel
set_option maxRecDepth 100000 in
theorem d_L_law_1216 : decode code 1216 = .ok (.istore 6, 2) := by decide +kernel
set_option maxRecDepth 100000 in
theorem d_L_law_1218 : decode code 1218 = .ok (.aload_n 2, 1) := by decide +kernel
set_option maxRecDepth 100000 in
theorem d_L_law_1219 : decode code 1219 = .ok (.invokevirtual 91, 3) := by decide +kernel
set_option maxRecDepth 100000 in
theorem d_L_law_1222 : decode code 1222 = .ok (.iload 5, 2) := by decide +kernel
set_option maxRecDepth 100000 in
theorem d_L_law_1224 : decode code 1224 = .ok (.if_icmp .eq 5, 3) := by decide +kernel
set_option maxRecDepth 100000 in
theorem d_L_law_1227 : decode code 1227 = .ok (.iconst 0, 1) := by decide +kernel
set_option maxRecDepth 100000 in
theorem d_L_law_1228 : decode code 1228 = .ok (.ireturn, 1) := by decide +kernel
set_option maxRecDepth 100000 in
theorem d_L_law_1229 : decode code 1229 = .ok (.iload 5, 2) := by decide +kernel
set_option maxRecDepth 100000 in
theorem d_L_law_1231 : decode code 1231 = .ok (.ifCond .ne 15, 3) := by decide +kernel
set_option maxRecDepth 100000 in
theorem d_L_law_1234 : decode code 1234 = .ok (.aload_n 3, 1) := by decide +kernel
set_option maxRecDepth 100000 in
theorem d_L_law_1235 : decode code 1235 = .ok (.iconst 0, 1) := by decide +kernel
set_option maxRecDepth 100000 in
theorem d_L_law_1236 : decode code 1236 = .ok (.laload, 1) := by decide +kernel
set_option maxRecDepth 100000 in
theorem d_L_law_1237 : decode code 1237 = .ok (.iload 6, 2) := by decide +kernel
set_option maxRecDepth 100000 in
theorem d_L_law_1239 : decode code 1239 = .ok (.i2l, 1) := by decide +kernel
set_option maxRecDepth 100000 in
theorem d_L_law_1240 : decode code 1240 = .ok (.lcmp, 1) := by decide +kernel
set_option maxRecDepth 100000 in
theorem d_L_law_1241 : decode code 1241 = .ok (.ifCond .eq 5, 3) := by decide +kernel
set_option maxRecDepth 100000 in
theorem d_L_law_1244 : decode code 1244 = .ok (.iconst 0, 1) := by decide +kernel
set_option maxRecDepth 100000 in
theorem d_L_law_1245 : decode code 1245 = .ok (.ireturn, 1) := by decide +kernel
set_option maxRecDepth 100000 in
theorem d_L_law_1246 : decode code 1246 = .ok (.goto 3, 3) := by decide +kernel
set_option maxRecDepth 100000 in
theorem d_L_law_1249 : decode code 1249 = .ok (.iinc 4 5, 3) := by decide +kernel
set_option maxRecDepth 100000 in
theorem d_L_law_1252 : decode code 1252 = .ok (.goto (-1219), 3) := by decide +kernel
set_option maxRecDepth 100000 in
theorem d_L_law_1255 : decode code 1255 = .ok (.iconst 1, 1) := by decide +kernel
set_option maxRecDepth 100000 in
theorem d_L_law_1256 : decode code 1256 = .ok (.ireturn, 1) := by decide +kernel
set_option maxRecDepth 100000 in
theorem s_L_law_0 : zNew m_L_law 0 6 3 [.null, .null, .null] := ⟨8, R_B, T_B, ty_B, d_L_law_0, rfl, fun w hw => List.mem_cons_of_mem _ (uws_B w hw), tyok_B, List.mem_cons_of_mem _ w_17, List.mem_cons_of_mem _ w_18, List.mem_cons_of_mem _ w_1, by decide, by decide⟩
set_option maxRecDepth 100000 in
theorem s_L_law_6 : zCS m_L_law 6 m_L_cell 2 := ⟨75, zT, d_L_law_6, zGoodS w_185 w_186 w_0 w_187, Or.inl rfl, ⟨by decide +kernel, by decide +kernel, by decide +kernel⟩, ⟨by decide, by decide⟩⟩
set_option maxRecDepth 100000 in
theorem s_L_law_9 : zCI m_L_law 9 m_B_init 1 := ⟨81, zT, d_L_law_9, zGood w_21, rfl, ⟨List.mem_cons_of_mem _ w_1, List.mem_cons_of_mem _ w_20, rfl⟩, Or.inl (List.mem_cons_of_mem _ w_19), ⟨by decide +kernel, by decide +kernel, by decide +kernel⟩, ⟨by decide, by decide⟩⟩
set_option maxRecDepth 100000 in
theorem s_L_law_13 : zNew m_L_law 13 7 22 [.int 0, .int 0, .null, .null, .null, .null, .null, .null, .null, .null, .null, .null, .null, .null, .null, .null, .null, .null, .null, .int 0, .null, .null] := ⟨84, R_M, T_M, ty_M, d_L_law_13, rfl, fun w hw => List.mem_cons_of_mem _ (uws_M w hw), tyok_M, List.mem_cons_of_mem _ w_578, List.mem_cons_of_mem _ w_579, List.mem_cons_of_mem _ w_9, by decide, by decide⟩
set_option maxRecDepth 100000 in
theorem s_L_law_19 : zCS m_L_law 19 m_L_cell 2 := ⟨75, zT, d_L_law_19, zGoodS w_185 w_186 w_0 w_187, Or.inl rfl, ⟨by decide +kernel, by decide +kernel, by decide +kernel⟩, ⟨by decide, by decide⟩⟩
set_option maxRecDepth 100000 in
theorem s_L_law_22 : zCI m_L_law 22 m_M_init 1 := ⟨86, zT, d_L_law_22, zGood w_582, rfl, ⟨List.mem_cons_of_mem _ w_9, List.mem_cons_of_mem _ w_581, rfl⟩, Or.inl (List.mem_cons_of_mem _ w_580), ⟨by decide +kernel, by decide +kernel, by decide +kernel⟩, ⟨by decide, by decide⟩⟩
set_option maxRecDepth 100000 in
theorem s_L_law_27 : Cond.arrayClass .long ∈ m_L_law.2.2.2.2.1 := List.mem_cons_of_mem _ w_783
set_option maxRecDepth 100000 in
theorem s_L_law_166 : zCS m_L_law 166 m_L_code 6 := ⟨87, zT, d_L_law_166, zGoodS w_188 w_189 w_0 w_190, Or.inr rfl, ⟨by decide +kernel, by decide +kernel, by decide +kernel⟩, ⟨by decide, by decide⟩⟩
set_option maxRecDepth 100000 in
theorem s_L_law_196 : zCV m_L_law 196 m_M_code 4 := ⟨90, zT, d_L_law_196, zGoodV w_656 w_657 w_658 w_9 w_659, rfl, ⟨by decide +kernel, by decide +kernel, by decide +kernel⟩, ⟨by decide, by decide⟩⟩
set_option maxRecDepth 100000 in
theorem s_L_law_202 : zCV m_L_law 202 m_M_thrown 0 := ⟨91, zT, d_L_law_202, zGoodV w_652 w_653 w_654 w_9 w_655, rfl, ⟨by decide +kernel, by decide +kernel, by decide +kernel⟩, ⟨by decide, by decide⟩⟩
set_option maxRecDepth 100000 in
theorem s_L_law_245 : zCS m_L_law 245 m_L_poke 3 := ⟨95, zT, d_L_law_245, zGoodS w_313 w_314 w_0 w_315, Or.inr rfl, ⟨by decide +kernel, by decide +kernel, by decide +kernel⟩, ⟨by decide, by decide⟩⟩
set_option maxRecDepth 100000 in
theorem s_L_law_263 : zCV m_L_law 263 m_M_poke 2 := ⟨98, zT, d_L_law_263, zGoodV w_667 w_668 w_669 w_9 w_670, rfl, ⟨by decide +kernel, by decide +kernel, by decide +kernel⟩, ⟨by decide, by decide⟩⟩
set_option maxRecDepth 100000 in
theorem s_L_law_267 : zCV m_L_law 267 m_M_thrown 0 := ⟨91, zT, d_L_law_267, zGoodV w_652 w_653 w_654 w_9 w_655, rfl, ⟨by decide +kernel, by decide +kernel, by decide +kernel⟩, ⟨by decide, by decide⟩⟩
set_option maxRecDepth 100000 in
theorem s_L_law_288 : zCS m_L_law 288 m_L_step 3 := ⟨99, zT, d_L_law_288, zGoodS w_341 w_342 w_0 w_343, Or.inr rfl, ⟨by decide +kernel, by decide +kernel, by decide +kernel⟩, ⟨by decide, by decide⟩⟩
set_option maxRecDepth 100000 in
theorem s_L_law_300 : zCV m_L_law 300 m_M_step 1 := ⟨102, zT, d_L_law_300, zGoodV w_679 w_680 w_681 w_9 w_682, rfl, ⟨by decide +kernel, by decide +kernel, by decide +kernel⟩, ⟨by decide, by decide⟩⟩
set_option maxRecDepth 100000 in
theorem s_L_law_306 : zCV m_L_law 306 m_M_thrown 0 := ⟨91, zT, d_L_law_306, zGoodV w_652 w_653 w_654 w_9 w_655, rfl, ⟨by decide +kernel, by decide +kernel, by decide +kernel⟩, ⟨by decide, by decide⟩⟩
set_option maxRecDepth 100000 in
theorem s_L_law_344 : zCS m_L_law 344 m_L_drain 3 := ⟨103, zT, d_L_law_344, zGoodS w_401 w_402 w_0 w_403, Or.inr rfl, ⟨by decide +kernel, by decide +kernel, by decide +kernel⟩, ⟨by decide, by decide⟩⟩
set_option maxRecDepth 100000 in
theorem s_L_law_356 : zCV m_L_law 356 m_M_drain 1 := ⟨105, zT, d_L_law_356, zGoodV w_711 w_712 w_713 w_9 w_714, rfl, ⟨by decide +kernel, by decide +kernel, by decide +kernel⟩, ⟨by decide, by decide⟩⟩
set_option maxRecDepth 100000 in
theorem s_L_law_362 : zCV m_L_law 362 m_M_thrown 0 := ⟨91, zT, d_L_law_362, zGoodV w_652 w_653 w_654 w_9 w_655, rfl, ⟨by decide +kernel, by decide +kernel, by decide +kernel⟩, ⟨by decide, by decide⟩⟩
set_option maxRecDepth 100000 in
theorem s_L_law_400 : zCS m_L_law 400 m_L_grant 3 := ⟨106, zT, d_L_law_400, zGoodS w_412 w_413 w_0 w_414, Or.inr rfl, ⟨by decide +kernel, by decide +kernel, by decide +kernel⟩, ⟨by decide, by decide⟩⟩
set_option maxRecDepth 100000 in
theorem s_L_law_412 : zCV m_L_law 412 m_M_grant 1 := ⟨108, zT, d_L_law_412, zGoodV w_715 w_716 w_717 w_9 w_718, rfl, ⟨by decide +kernel, by decide +kernel, by decide +kernel⟩, ⟨by decide, by decide⟩⟩
set_option maxRecDepth 100000 in
theorem s_L_law_418 : zCV m_L_law 418 m_M_thrown 0 := ⟨91, zT, d_L_law_418, zGoodV w_652 w_653 w_654 w_9 w_655, rfl, ⟨by decide +kernel, by decide +kernel, by decide +kernel⟩, ⟨by decide, by decide⟩⟩
set_option maxRecDepth 100000 in
theorem s_L_law_456 : zCS m_L_law 456 m_L_fill 3 := ⟨109, zT, d_L_law_456, zGoodS w_443 w_444 w_0 w_445, Or.inr rfl, ⟨by decide +kernel, by decide +kernel, by decide +kernel⟩, ⟨by decide, by decide⟩⟩
set_option maxRecDepth 100000 in
theorem s_L_law_468 : zCV m_L_law 468 m_M_fill 1 := ⟨111, zT, d_L_law_468, zGoodV w_727 w_728 w_729 w_9 w_730, rfl, ⟨by decide +kernel, by decide +kernel, by decide +kernel⟩, ⟨by decide, by decide⟩⟩
set_option maxRecDepth 100000 in
theorem s_L_law_474 : zCV m_L_law 474 m_M_thrown 0 := ⟨91, zT, d_L_law_474, zGoodV w_652 w_653 w_654 w_9 w_655, rfl, ⟨by decide +kernel, by decide +kernel, by decide +kernel⟩, ⟨by decide, by decide⟩⟩
set_option maxRecDepth 100000 in
theorem s_L_law_518 : zCS m_L_law 518 m_L_register 4 := ⟨112, zT, d_L_law_518, zGoodS w_462 w_463 w_0 w_464, Or.inr rfl, ⟨by decide +kernel, by decide +kernel, by decide +kernel⟩, ⟨by decide, by decide⟩⟩
set_option maxRecDepth 100000 in
theorem s_L_law_536 : zCV m_L_law 536 m_M_register 2 := ⟨115, zT, d_L_law_536, zGoodV w_731 w_732 w_733 w_9 w_734, rfl, ⟨by decide +kernel, by decide +kernel, by decide +kernel⟩, ⟨by decide, by decide⟩⟩
set_option maxRecDepth 100000 in
theorem s_L_law_542 : zCV m_L_law 542 m_M_thrown 0 := ⟨91, zT, d_L_law_542, zGoodV w_652 w_653 w_654 w_9 w_655, rfl, ⟨by decide +kernel, by decide +kernel, by decide +kernel⟩, ⟨by decide, by decide⟩⟩
set_option maxRecDepth 100000 in
theorem s_L_law_580 : zCS m_L_law 580 m_L_place 3 := ⟨116, zT, d_L_law_580, zGoodS w_470 w_471 w_0 w_472, Or.inr rfl, ⟨by decide +kernel, by decide +kernel, by decide +kernel⟩, ⟨by decide, by decide⟩⟩
set_option maxRecDepth 100000 in
theorem s_L_law_592 : zCV m_L_law 592 m_M_place 1 := ⟨118, zT, d_L_law_592, zGoodV w_735 w_736 w_737 w_9 w_738, rfl, ⟨by decide +kernel, by decide +kernel, by decide +kernel⟩, ⟨by decide, by decide⟩⟩
set_option maxRecDepth 100000 in
theorem s_L_law_598 : zCV m_L_law 598 m_M_thrown 0 := ⟨91, zT, d_L_law_598, zGoodV w_652 w_653 w_654 w_9 w_655, rfl, ⟨by decide +kernel, by decide +kernel, by decide +kernel⟩, ⟨by decide, by decide⟩⟩
set_option maxRecDepth 100000 in
theorem s_L_law_636 : zCS m_L_law 636 m_L_buffered 3 := ⟨119, zT, d_L_law_636, zGoodS w_477 w_478 w_0 w_479, Or.inr rfl, ⟨by decide +kernel, by decide +kernel, by decide +kernel⟩, ⟨by decide, by decide⟩⟩
set_option maxRecDepth 100000 in
theorem s_L_law_648 : zCV m_L_law 648 m_M_buffered 1 := ⟨121, zT, d_L_law_648, zGoodV w_739 w_740 w_741 w_9 w_742, rfl, ⟨by decide +kernel, by decide +kernel, by decide +kernel⟩, ⟨by decide, by decide⟩⟩
set_option maxRecDepth 100000 in
theorem s_L_law_654 : zCV m_L_law 654 m_M_thrown 0 := ⟨91, zT, d_L_law_654, zGoodV w_652 w_653 w_654 w_9 w_655, rfl, ⟨by decide +kernel, by decide +kernel, by decide +kernel⟩, ⟨by decide, by decide⟩⟩
set_option maxRecDepth 100000 in
theorem s_L_law_698 : zCS m_L_law 698 m_L_storeAddress 4 := ⟨122, zT, d_L_law_698, zGoodS w_484 w_485 w_0 w_486, Or.inr rfl, ⟨by decide +kernel, by decide +kernel, by decide +kernel⟩, ⟨by decide, by decide⟩⟩
set_option maxRecDepth 100000 in
theorem s_L_law_716 : zCV m_L_law 716 m_M_storeAddress 2 := ⟨124, zT, d_L_law_716, zGoodV w_743 w_744 w_745 w_9 w_746, rfl, ⟨by decide +kernel, by decide +kernel, by decide +kernel⟩, ⟨by decide, by decide⟩⟩
set_option maxRecDepth 100000 in
theorem s_L_law_722 : zCV m_L_law 722 m_M_thrown 0 := ⟨91, zT, d_L_law_722, zGoodV w_652 w_653 w_654 w_9 w_655, rfl, ⟨by decide +kernel, by decide +kernel, by decide +kernel⟩, ⟨by decide, by decide⟩⟩
set_option maxRecDepth 100000 in
theorem s_L_law_766 : zCS m_L_law 766 m_L_storeValue 4 := ⟨125, zT, d_L_law_766, zGoodS w_511 w_512 w_0 w_513, Or.inr rfl, ⟨by decide +kernel, by decide +kernel, by decide +kernel⟩, ⟨by decide, by decide⟩⟩
set_option maxRecDepth 100000 in
theorem s_L_law_784 : zCV m_L_law 784 m_M_storeValue 2 := ⟨127, zT, d_L_law_784, zGoodV w_747 w_748 w_749 w_9 w_750, rfl, ⟨by decide +kernel, by decide +kernel, by decide +kernel⟩, ⟨by decide, by decide⟩⟩
set_option maxRecDepth 100000 in
theorem s_L_law_790 : zCV m_L_law 790 m_M_thrown 0 := ⟨91, zT, d_L_law_790, zGoodV w_652 w_653 w_654 w_9 w_655, rfl, ⟨by decide +kernel, by decide +kernel, by decide +kernel⟩, ⟨by decide, by decide⟩⟩
set_option maxRecDepth 100000 in
theorem s_L_law_834 : zCS m_L_law 834 m_L_line 4 := ⟨128, zT, d_L_law_834, zGoodS w_518 w_519 w_0 w_520, Or.inr rfl, ⟨by decide +kernel, by decide +kernel, by decide +kernel⟩, ⟨by decide, by decide⟩⟩
set_option maxRecDepth 100000 in
theorem s_L_law_852 : zCV m_L_law 852 m_M_line 2 := ⟨130, zT, d_L_law_852, zGoodV w_751 w_752 w_753 w_9 w_754, rfl, ⟨by decide +kernel, by decide +kernel, by decide +kernel⟩, ⟨by decide, by decide⟩⟩
set_option maxRecDepth 100000 in
theorem s_L_law_858 : zCV m_L_law 858 m_M_thrown 0 := ⟨91, zT, d_L_law_858, zGoodV w_652 w_653 w_654 w_9 w_655, rfl, ⟨by decide +kernel, by decide +kernel, by decide +kernel⟩, ⟨by decide, by decide⟩⟩
set_option maxRecDepth 100000 in
theorem s_L_law_902 : zCS m_L_law 902 m_L_cached 4 := ⟨131, zT, d_L_law_902, zGoodS w_526 w_527 w_0 w_528, Or.inr rfl, ⟨by decide +kernel, by decide +kernel, by decide +kernel⟩, ⟨by decide, by decide⟩⟩
set_option maxRecDepth 100000 in
theorem s_L_law_920 : zCV m_L_law 920 m_M_cached 2 := ⟨133, zT, d_L_law_920, zGoodV w_755 w_756 w_757 w_9 w_758, rfl, ⟨by decide +kernel, by decide +kernel, by decide +kernel⟩, ⟨by decide, by decide⟩⟩
set_option maxRecDepth 100000 in
theorem s_L_law_926 : zCV m_L_law 926 m_M_thrown 0 := ⟨91, zT, d_L_law_926, zGoodV w_652 w_653 w_654 w_9 w_655, rfl, ⟨by decide +kernel, by decide +kernel, by decide +kernel⟩, ⟨by decide, by decide⟩⟩
set_option maxRecDepth 100000 in
theorem s_L_law_964 : zCS m_L_law 964 m_L_request 3 := ⟨134, zT, d_L_law_964, zGoodS w_534 w_535 w_0 w_536, Or.inr rfl, ⟨by decide +kernel, by decide +kernel, by decide +kernel⟩, ⟨by decide, by decide⟩⟩
set_option maxRecDepth 100000 in
theorem s_L_law_976 : zCV m_L_law 976 m_M_request 1 := ⟨136, zT, d_L_law_976, zGoodV w_759 w_760 w_761 w_9 w_762, rfl, ⟨by decide +kernel, by decide +kernel, by decide +kernel⟩, ⟨by decide, by decide⟩⟩
set_option maxRecDepth 100000 in
theorem s_L_law_982 : zCV m_L_law 982 m_M_thrown 0 := ⟨91, zT, d_L_law_982, zGoodV w_652 w_653 w_654 w_9 w_655, rfl, ⟨by decide +kernel, by decide +kernel, by decide +kernel⟩, ⟨by decide, by decide⟩⟩
set_option maxRecDepth 100000 in
theorem s_L_law_1020 : zCS m_L_law 1020 m_L_memory 3 := ⟨137, zT, d_L_law_1020, zGoodS w_541 w_542 w_0 w_543, Or.inr rfl, ⟨by decide +kernel, by decide +kernel, by decide +kernel⟩, ⟨by decide, by decide⟩⟩
set_option maxRecDepth 100000 in
theorem s_L_law_1032 : zCV m_L_law 1032 m_M_memory 1 := ⟨139, zT, d_L_law_1032, zGoodV w_763 w_764 w_765 w_9 w_766, rfl, ⟨by decide +kernel, by decide +kernel, by decide +kernel⟩, ⟨by decide, by decide⟩⟩
set_option maxRecDepth 100000 in
theorem s_L_law_1038 : zCV m_L_law 1038 m_M_thrown 0 := ⟨91, zT, d_L_law_1038, zGoodV w_652 w_653 w_654 w_9 w_655, rfl, ⟨by decide +kernel, by decide +kernel, by decide +kernel⟩, ⟨by decide, by decide⟩⟩
set_option maxRecDepth 100000 in
theorem s_L_law_1076 : zCS m_L_law 1076 m_L_word 3 := ⟨140, zT, d_L_law_1076, zGoodS w_548 w_549 w_0 w_550, Or.inr rfl, ⟨by decide +kernel, by decide +kernel, by decide +kernel⟩, ⟨by decide, by decide⟩⟩
set_option maxRecDepth 100000 in
theorem s_L_law_1088 : zCV m_L_law 1088 m_M_word 1 := ⟨142, zT, d_L_law_1088, zGoodV w_767 w_768 w_769 w_9 w_770, rfl, ⟨by decide +kernel, by decide +kernel, by decide +kernel⟩, ⟨by decide, by decide⟩⟩
set_option maxRecDepth 100000 in
theorem s_L_law_1094 : zCV m_L_law 1094 m_M_thrown 0 := ⟨91, zT, d_L_law_1094, zGoodV w_652 w_653 w_654 w_9 w_655, rfl, ⟨by decide +kernel, by decide +kernel, by decide +kernel⟩, ⟨by decide, by decide⟩⟩
set_option maxRecDepth 100000 in
theorem s_L_law_1125 : zCV m_L_law 1125 m_B_events 0 := ⟨143, zT, d_L_law_1125, zGoodV w_181 w_182 w_183 w_1 w_184, rfl, ⟨by decide +kernel, by decide +kernel, by decide +kernel⟩, ⟨by decide, by decide⟩⟩
set_option maxRecDepth 100000 in
theorem s_L_law_1129 : zCV m_L_law 1129 m_M_events 0 := ⟨146, zT, d_L_law_1129, zGoodV w_771 w_772 w_773 w_9 w_774, rfl, ⟨by decide +kernel, by decide +kernel, by decide +kernel⟩, ⟨by decide, by decide⟩⟩
set_option maxRecDepth 100000 in
theorem s_L_law_1145 : zCS m_L_law 1145 m_L_event 3 := ⟨147, zT, d_L_law_1145, zGoodS w_555 w_556 w_0 w_557, Or.inr rfl, ⟨by decide +kernel, by decide +kernel, by decide +kernel⟩, ⟨by decide, by decide⟩⟩
set_option maxRecDepth 100000 in
theorem s_L_law_1157 : zCV m_L_law 1157 m_M_event 1 := ⟨149, zT, d_L_law_1157, zGoodV w_775 w_776 w_777 w_9 w_778, rfl, ⟨by decide +kernel, by decide +kernel, by decide +kernel⟩, ⟨by decide, by decide⟩⟩
set_option maxRecDepth 100000 in
theorem s_L_law_1163 : zCV m_L_law 1163 m_M_thrown 0 := ⟨91, zT, d_L_law_1163, zGoodV w_652 w_653 w_654 w_9 w_655, rfl, ⟨by decide +kernel, by decide +kernel, by decide +kernel⟩, ⟨by decide, by decide⟩⟩
set_option maxRecDepth 100000 in
theorem s_L_law_1201 : zCS m_L_law 1201 m_L_eventValue 3 := ⟨150, zT, d_L_law_1201, zGoodS w_571 w_572 w_0 w_573, Or.inr rfl, ⟨by decide +kernel, by decide +kernel, by decide +kernel⟩, ⟨by decide, by decide⟩⟩
set_option maxRecDepth 100000 in
theorem s_L_law_1213 : zCV m_L_law 1213 m_M_eventValue 1 := ⟨152, zT, d_L_law_1213, zGoodV w_779 w_780 w_781 w_9 w_782, rfl, ⟨by decide +kernel, by decide +kernel, by decide +kernel⟩, ⟨by decide, by decide⟩⟩
set_option maxRecDepth 100000 in
theorem s_L_law_1219 : zCV m_L_law 1219 m_M_thrown 0 := ⟨91, zT, d_L_law_1219, zGoodV w_652 w_653 w_654 w_9 w_655, rfl, ⟨by decide +kernel, by decide +kernel, by decide +kernel⟩, ⟨by decide, by decide⟩⟩
