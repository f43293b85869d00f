/-! the law's instructions, on -/
theorem d_Law_law_862 : decode code 862 = .ok (.iconst 2, 1) := by decide +kernel
theorem d_Law_law_863 : decode code 863 = .ok (.iadd, 1) := by decide +kernel
theorem d_Law_law_864 : decode code 864 = .ok (.iaload, 1) := by decide +kernel
theorem d_Law_law_865 : decode code 865 = .ok (.aload_n 0, 1) := by decide +kernel
theorem d_Law_law_866 : decode code 866 = .ok (.iload 4, 2) := by decide +kernel
theorem d_Law_law_868 : decode code 868 = .ok (.iconst 3, 1) := by decide +kernel
theorem d_Law_law_869 : decode code 869 = .ok (.iadd, 1) := by decide +kernel
theorem d_Law_law_870 : decode code 870 = .ok (.iaload, 1) := by decide +kernel
theorem d_Law_law_871 : decode code 871 = .ok (.aload_n 3, 1) := by decide +kernel
theorem d_Law_law_872 : decode code 872 = .ok (.invokestatic 188, 3) := by decide +kernel
theorem d_Law_law_875 : decode code 875 = .ok (.istore 5, 2) := by decide +kernel
theorem d_Law_law_877 : decode code 877 = .ok (.aload_n 2, 1) := by decide +kernel
theorem d_Law_law_878 : decode code 878 = .ok (.aload_n 0, 1) := by decide +kernel
theorem d_Law_law_879 : decode code 879 = .ok (.iload 4, 2) := by decide +kernel
theorem d_Law_law_881 : decode code 881 = .ok (.iconst 1, 1) := by decide +kernel
theorem d_Law_law_882 : decode code 882 = .ok (.iadd, 1) := by decide +kernel
theorem d_Law_law_883 : decode code 883 = .ok (.iaload, 1) := by decide +kernel
theorem d_Law_law_884 : decode code 884 = .ok (.aload_n 0, 1) := by decide +kernel
theorem d_Law_law_885 : decode code 885 = .ok (.iload 4, 2) := by decide +kernel
theorem d_Law_law_887 : decode code 887 = .ok (.iconst 2, 1) := by decide +kernel
theorem d_Law_law_888 : decode code 888 = .ok (.iadd, 1) := by decide +kernel
theorem d_Law_law_889 : decode code 889 = .ok (.iaload, 1) := by decide +kernel
theorem d_Law_law_890 : decode code 890 = .ok (.aload_n 0, 1) := by decide +kernel
theorem d_Law_law_891 : decode code 891 = .ok (.iload 4, 2) := by decide +kernel
theorem d_Law_law_893 : decode code 893 = .ok (.iconst 3, 1) := by decide +kernel
theorem d_Law_law_894 : decode code 894 = .ok (.iadd, 1) := by decide +kernel
theorem d_Law_law_895 : decode code 895 = .ok (.iaload, 1) := by decide +kernel
theorem d_Law_law_896 : decode code 896 = .ok (.invokevirtual 191, 3) := by decide +kernel
theorem d_Law_law_899 : decode code 899 = .ok (.istore 6, 2) := by decide +kernel
theorem d_Law_law_901 : decode code 901 = .ok (.aload_n 2, 1) := by decide +kernel
theorem d_Law_law_902 : decode code 902 = .ok (.invokevirtual 160, 3) := by decide +kernel
theorem d_Law_law_905 : decode code 905 = .ok (.iload 5, 2) := by decide +kernel
theorem d_Law_law_907 : decode code 907 = .ok (.if_icmp .eq 5, 3) := by decide +kernel
theorem d_Law_law_910 : decode code 910 = .ok (.iconst 0, 1) := by decide +kernel
theorem d_Law_law_911 : decode code 911 = .ok (.ireturn, 1) := by decide +kernel
theorem d_Law_law_912 : decode code 912 = .ok (.iload 5, 2) := by decide +kernel
theorem d_Law_law_914 : decode code 914 = .ok (.ifCond .ne 15, 3) := by decide +kernel
theorem d_Law_law_917 : decode code 917 = .ok (.aload_n 3, 1) := by decide +kernel
theorem d_Law_law_918 : decode code 918 = .ok (.iconst 0, 1) := by decide +kernel
theorem d_Law_law_919 : decode code 919 = .ok (.laload, 1) := by decide +kernel
theorem d_Law_law_920 : decode code 920 = .ok (.iload 6, 2) := by decide +kernel
theorem d_Law_law_922 : decode code 922 = .ok (.i2l, 1) := by decide +kernel
theorem d_Law_law_923 : decode code 923 = .ok (.lcmp, 1) := by decide +kernel
theorem d_Law_law_924 : decode code 924 = .ok (.ifCond .eq 5, 3) := by decide +kernel
theorem d_Law_law_927 : decode code 927 = .ok (.iconst 0, 1) := by decide +kernel
theorem d_Law_law_928 : decode code 928 = .ok (.ireturn, 1) := by decide +kernel
theorem d_Law_law_929 : decode code 929 = .ok (.goto 2300, 3) := by decide +kernel
theorem d_Law_law_932 : decode code 932 = .ok (.aload_n 1, 1) := by decide +kernel
theorem d_Law_law_933 : decode code 933 = .ok (.aload_n 0, 1) := by decide +kernel
theorem d_Law_law_934 : decode code 934 = .ok (.iload 4, 2) := by decide +kernel
theorem d_Law_law_936 : decode code 936 = .ok (.iconst 1, 1) := by decide +kernel
theorem d_Law_law_937 : decode code 937 = .ok (.iadd, 1) := by decide +kernel
theorem d_Law_law_938 : decode code 938 = .ok (.iaload, 1) := by decide +kernel
theorem d_Law_law_939 : decode code 939 = .ok (.aload_n 3, 1) := by decide +kernel
theorem d_Law_law_940 : decode code 940 = .ok (.invokestatic 192, 3) := by decide +kernel
theorem d_Law_law_943 : decode code 943 = .ok (.istore 5, 2) := by decide +kernel
theorem d_Law_law_945 : decode code 945 = .ok (.aload_n 2, 1) := by decide +kernel
theorem d_Law_law_946 : decode code 946 = .ok (.aload_n 0, 1) := by decide +kernel
theorem d_Law_law_947 : decode code 947 = .ok (.iload 4, 2) := by decide +kernel
theorem d_Law_law_949 : decode code 949 = .ok (.iconst 1, 1) := by decide +kernel
theorem d_Law_law_950 : decode code 950 = .ok (.iadd, 1) := by decide +kernel
theorem d_Law_law_951 : decode code 951 = .ok (.iaload, 1) := by decide +kernel
theorem d_Law_law_952 : decode code 952 = .ok (.invokevirtual 194, 3) := by decide +kernel
theorem d_Law_law_955 : decode code 955 = .ok (.istore 6, 2) := by decide +kernel
theorem d_Law_law_957 : decode code 957 = .ok (.aload_n 2, 1) := by decide +kernel
theorem d_Law_law_958 : decode code 958 = .ok (.invokevirtual 160, 3) := by decide +kernel
theorem d_Law_law_961 : decode code 961 = .ok (.iload 5, 2) := by decide +kernel
theorem d_Law_law_963 : decode code 963 = .ok (.if_icmp .eq 5, 3) := by decide +kernel
theorem d_Law_law_966 : decode code 966 = .ok (.iconst 0, 1) := by decide +kernel
theorem d_Law_law_967 : decode code 967 = .ok (.ireturn, 1) := by decide +kernel
theorem d_Law_law_968 : decode code 968 = .ok (.iload 5, 2) := by decide +kernel
theorem d_Law_law_970 : decode code 970 = .ok (.ifCond .ne 15, 3) := by decide +kernel
theorem d_Law_law_973 : decode code 973 = .ok (.aload_n 3, 1) := by decide +kernel
theorem d_Law_law_974 : decode code 974 = .ok (.iconst 0, 1) := by decide +kernel
theorem d_Law_law_975 : decode code 975 = .ok (.laload, 1) := by decide +kernel
theorem d_Law_law_976 : decode code 976 = .ok (.iload 6, 2) := by decide +kernel
theorem d_Law_law_978 : decode code 978 = .ok (.i2l, 1) := by decide +kernel
theorem d_Law_law_979 : decode code 979 = .ok (.lcmp, 1) := by decide +kernel
theorem d_Law_law_980 : decode code 980 = .ok (.ifCond .eq 5, 3) := by decide +kernel
theorem d_Law_law_983 : decode code 983 = .ok (.iconst 0, 1) := by decide +kernel
theorem d_Law_law_984 : decode code 984 = .ok (.ireturn, 1) := by decide +kernel
theorem d_Law_law_985 : decode code 985 = .ok (.goto 2244, 3) := by decide +kernel
theorem d_Law_law_988 : decode code 988 = .ok (.aload_n 1, 1) := by decide +kernel
theorem d_Law_law_989 : decode code 989 = .ok (.aload_n 0, 1) := by decide +kernel
theorem d_Law_law_990 : decode code 990 = .ok (.iload 4, 2) := by decide +kernel
theorem d_Law_law_992 : decode code 992 = .ok (.iconst 1, 1) := by decide +kernel
theorem d_Law_law_993 : decode code 993 = .ok (.iadd, 1) := by decide +kernel
theorem d_Law_law_994 : decode code 994 = .ok (.iaload, 1) := by decide +kernel
theorem d_Law_law_995 : decode code 995 = .ok (.aload_n 3, 1) := by decide +kernel
theorem d_Law_law_996 : decode code 996 = .ok (.invokestatic 195, 3) := by decide +kernel
theorem d_Law_law_999 : decode code 999 = .ok (.istore 5, 2) := by decide +kernel
theorem d_Law_law_1001 : decode code 1001 = .ok (.aload_n 2, 1) := by decide +kernel
theorem d_Law_law_1002 : decode code 1002 = .ok (.aload_n 0, 1) := by decide +kernel
theorem d_Law_law_1003 : decode code 1003 = .ok (.iload 4, 2) := by decide +kernel
theorem d_Law_law_1005 : decode code 1005 = .ok (.iconst 1, 1) := by decide +kernel
theorem d_Law_law_1006 : decode code 1006 = .ok (.iadd, 1) := by decide +kernel
theorem d_Law_law_1007 : decode code 1007 = .ok (.iaload, 1) := by decide +kernel
theorem d_Law_law_1008 : decode code 1008 = .ok (.invokevirtual 197, 3) := by decide +kernel
theorem d_Law_law_1011 : decode code 1011 = .ok (.istore 6, 2) := by decide +kernel
theorem d_Law_law_1013 : decode code 1013 = .ok (.aload_n 2, 1) := by decide +kernel
theorem d_Law_law_1014 : decode code 1014 = .ok (.invokevirtual 160, 3) := by decide +kernel
theorem d_Law_law_1017 : decode code 1017 = .ok (.iload 5, 2) := by decide +kernel
theorem d_Law_law_1019 : decode code 1019 = .ok (.if_icmp .eq 5, 3) := by decide +kernel
theorem d_Law_law_1022 : decode code 1022 = .ok (.iconst 0, 1) := by decide +kernel
theorem d_Law_law_1023 : decode code 1023 = .ok (.ireturn, 1) := by decide +kernel
theorem d_Law_law_1024 : decode code 1024 = .ok (.iload 5, 2) := by decide +kernel
theorem d_Law_law_1026 : decode code 1026 = .ok (.ifCond .ne 15, 3) := by decide +kernel
theorem d_Law_law_1029 : decode code 1029 = .ok (.aload_n 3, 1) := by decide +kernel
theorem d_Law_law_1030 : decode code 1030 = .ok (.iconst 0, 1) := by decide +kernel
theorem d_Law_law_1031 : decode code 1031 = .ok (.laload, 1) := by decide +kernel
theorem d_Law_law_1032 : decode code 1032 = .ok (.iload 6, 2) := by decide +kernel
theorem d_Law_law_1034 : decode code 1034 = .ok (.i2l, 1) := by decide +kernel
theorem d_Law_law_1035 : decode code 1035 = .ok (.lcmp, 1) := by decide +kernel
theorem d_Law_law_1036 : decode code 1036 = .ok (.ifCond .eq 5, 3) := by decide +kernel
theorem d_Law_law_1039 : decode code 1039 = .ok (.iconst 0, 1) := by decide +kernel
theorem d_Law_law_1040 : decode code 1040 = .ok (.ireturn, 1) := by decide +kernel
theorem d_Law_law_1041 : decode code 1041 = .ok (.goto 2188, 3) := by decide +kernel
theorem d_Law_law_1044 : decode code 1044 = .ok (.aload_n 1, 1) := by decide +kernel
theorem d_Law_law_1045 : decode code 1045 = .ok (.aload_n 0, 1) := by decide +kernel
theorem d_Law_law_1046 : decode code 1046 = .ok (.iload 4, 2) := by decide +kernel
theorem d_Law_law_1048 : decode code 1048 = .ok (.iconst 1, 1) := by decide +kernel
theorem d_Law_law_1049 : decode code 1049 = .ok (.iadd, 1) := by decide +kernel
theorem d_Law_law_1050 : decode code 1050 = .ok (.iaload, 1) := by decide +kernel
theorem d_Law_law_1051 : decode code 1051 = .ok (.aload_n 3, 1) := by decide +kernel
theorem d_Law_law_1052 : decode code 1052 = .ok (.invokestatic 198, 3) := by decide +kernel
theorem d_Law_law_1055 : decode code 1055 = .ok (.istore 5, 2) := by decide +kernel
theorem d_Law_law_1057 : decode code 1057 = .ok (.aload_n 2, 1) := by decide +kernel
theorem d_Law_law_1058 : decode code 1058 = .ok (.aload_n 0, 1) := by decide +kernel
theorem d_Law_law_1059 : decode code 1059 = .ok (.iload 4, 2) := by decide +kernel
theorem d_Law_law_1061 : decode code 1061 = .ok (.iconst 1, 1) := by decide +kernel
theorem d_Law_law_1062 : decode code 1062 = .ok (.iadd, 1) := by decide +kernel
theorem d_Law_law_1063 : decode code 1063 = .ok (.iaload, 1) := by decide +kernel
theorem d_Law_law_1064 : decode code 1064 = .ok (.invokevirtual 200, 3) := by decide +kernel
theorem d_Law_law_1067 : decode code 1067 = .ok (.istore 6, 2) := by decide +kernel
theorem d_Law_law_1069 : decode code 1069 = .ok (.aload_n 2, 1) := by decide +kernel
theorem d_Law_law_1070 : decode code 1070 = .ok (.invokevirtual 160, 3) := by decide +kernel
theorem d_Law_law_1073 : decode code 1073 = .ok (.iload 5, 2) := by decide +kernel
theorem d_Law_law_1075 : decode code 1075 = .ok (.if_icmp .eq 5, 3) := by decide +kernel
theorem d_Law_law_1078 : decode code 1078 = .ok (.iconst 0, 1) := by decide +kernel
theorem d_Law_law_1079 : decode code 1079 = .ok (.ireturn, 1) := by decide +kernel
theorem d_Law_law_1080 : decode code 1080 = .ok (.iload 5, 2) := by decide +kernel
theorem d_Law_law_1082 : decode code 1082 = .ok (.ifCond .ne 15, 3) := by decide +kernel
theorem d_Law_law_1085 : decode code 1085 = .ok (.aload_n 3, 1) := by decide +kernel
theorem d_Law_law_1086 : decode code 1086 = .ok (.iconst 0, 1) := by decide +kernel
theorem d_Law_law_1087 : decode code 1087 = .ok (.laload, 1) := by decide +kernel
theorem d_Law_law_1088 : decode code 1088 = .ok (.iload 6, 2) := by decide +kernel
theorem d_Law_law_1090 : decode code 1090 = .ok (.i2l, 1) := by decide +kernel
theorem d_Law_law_1091 : decode code 1091 = .ok (.lcmp, 1) := by decide +kernel
theorem d_Law_law_1092 : decode code 1092 = .ok (.ifCond .eq 5, 3) := by decide +kernel
theorem d_Law_law_1095 : decode code 1095 = .ok (.iconst 0, 1) := by decide +kernel
theorem d_Law_law_1096 : decode code 1096 = .ok (.ireturn, 1) := by decide +kernel
theorem d_Law_law_1097 : decode code 1097 = .ok (.goto 2132, 3) := by decide +kernel
theorem d_Law_law_1100 : decode code 1100 = .ok (.aload_n 1, 1) := by decide +kernel
theorem d_Law_law_1101 : decode code 1101 = .ok (.aload_n 0, 1) := by decide +kernel
theorem d_Law_law_1102 : decode code 1102 = .ok (.iload 4, 2) := by decide +kernel
theorem d_Law_law_1104 : decode code 1104 = .ok (.iconst 1, 1) := by decide +kernel
theorem d_Law_law_1105 : decode code 1105 = .ok (.iadd, 1) := by decide +kernel
theorem d_Law_law_1106 : decode code 1106 = .ok (.iaload, 1) := by decide +kernel
theorem d_Law_law_1107 : decode code 1107 = .ok (.aload_n 3, 1) := by decide +kernel
theorem d_Law_law_1108 : decode code 1108 = .ok (.invokestatic 201, 3) := by decide +kernel
theorem d_Law_law_1111 : decode code 1111 = .ok (.istore 5, 2) := by decide +kernel
theorem d_Law_law_1113 : decode code 1113 = .ok (.aload_n 2, 1) := by decide +kernel
theorem d_Law_law_1114 : decode code 1114 = .ok (.aload_n 0, 1) := by decide +kernel
theorem d_Law_law_1115 : decode code 1115 = .ok (.iload 4, 2) := by decide +kernel
theorem d_Law_law_1117 : decode code 1117 = .ok (.iconst 1, 1) := by decide +kernel
theorem d_Law_law_1118 : decode code 1118 = .ok (.iadd, 1) := by decide +kernel
theorem d_Law_law_1119 : decode code 1119 = .ok (.iaload, 1) := by decide +kernel
theorem d_Law_law_1120 : decode code 1120 = .ok (.invokevirtual 203, 3) := by decide +kernel
theorem d_Law_law_1123 : decode code 1123 = .ok (.istore 6, 2) := by decide +kernel
theorem d_Law_law_1125 : decode code 1125 = .ok (.aload_n 2, 1) := by decide +kernel
theorem d_Law_law_1126 : decode code 1126 = .ok (.invokevirtual 160, 3) := by decide +kernel
theorem d_Law_law_1129 : decode code 1129 = .ok (.iload 5, 2) := by decide +kernel
theorem d_Law_law_1131 : decode code 1131 = .ok (.if_icmp .eq 5, 3) := by decide +kernel
theorem d_Law_law_1134 : decode code 1134 = .ok (.iconst 0, 1) := by decide +kernel
theorem d_Law_law_1135 : decode code 1135 = .ok (.ireturn, 1) := by decide +kernel
theorem d_Law_law_1136 : decode code 1136 = .ok (.iload 5, 2) := by decide +kernel
theorem d_Law_law_1138 : decode code 1138 = .ok (.ifCond .ne 15, 3) := by decide +kernel
theorem d_Law_law_1141 : decode code 1141 = .ok (.aload_n 3, 1) := by decide +kernel
theorem d_Law_law_1142 : decode code 1142 = .ok (.iconst 0, 1) := by decide +kernel
theorem d_Law_law_1143 : decode code 1143 = .ok (.laload, 1) := by decide +kernel
theorem d_Law_law_1144 : decode code 1144 = .ok (.iload 6, 2) := by decide +kernel
theorem d_Law_law_1146 : decode code 1146 = .ok (.i2l, 1) := by decide +kernel
theorem d_Law_law_1147 : decode code 1147 = .ok (.lcmp, 1) := by decide +kernel
theorem d_Law_law_1148 : decode code 1148 = .ok (.ifCond .eq 5, 3) := by decide +kernel
theorem d_Law_law_1151 : decode code 1151 = .ok (.iconst 0, 1) := by decide +kernel
theorem d_Law_law_1152 : decode code 1152 = .ok (.ireturn, 1) := by decide +kernel
theorem d_Law_law_1153 : decode code 1153 = .ok (.goto 2076, 3) := by decide +kernel
theorem d_Law_law_1156 : decode code 1156 = .ok (.aload_n 1, 1) := by decide +kernel
theorem d_Law_law_1157 : decode code 1157 = .ok (.aload_n 0, 1) := by decide +kernel
theorem d_Law_law_1158 : decode code 1158 = .ok (.iload 4, 2) := by decide +kernel
theorem d_Law_law_1160 : decode code 1160 = .ok (.iconst 1, 1) := by decide +kernel
theorem d_Law_law_1161 : decode code 1161 = .ok (.iadd, 1) := by decide +kernel
theorem d_Law_law_1162 : decode code 1162 = .ok (.iaload, 1) := by decide +kernel
theorem d_Law_law_1163 : decode code 1163 = .ok (.aload_n 3, 1) := by decide +kernel
theorem d_Law_law_1164 : decode code 1164 = .ok (.invokestatic 204, 3) := by decide +kernel
theorem d_Law_law_1167 : decode code 1167 = .ok (.istore 5, 2) := by decide +kernel
theorem d_Law_law_1169 : decode code 1169 = .ok (.aload_n 2, 1) := by decide +kernel
theorem d_Law_law_1170 : decode code 1170 = .ok (.aload_n 0, 1) := by decide +kernel
theorem d_Law_law_1171 : decode code 1171 = .ok (.iload 4, 2) := by decide +kernel
theorem d_Law_law_1173 : decode code 1173 = .ok (.iconst 1, 1) := by decide +kernel
theorem d_Law_law_1174 : decode code 1174 = .ok (.iadd, 1) := by decide +kernel
theorem d_Law_law_1175 : decode code 1175 = .ok (.iaload, 1) := by decide +kernel
theorem d_Law_law_1176 : decode code 1176 = .ok (.invokevirtual 206, 3) := by decide +kernel
theorem d_Law_law_1179 : decode code 1179 = .ok (.istore 6, 2) := by decide +kernel
theorem d_Law_law_1181 : decode code 1181 = .ok (.aload_n 2, 1) := by decide +kernel
theorem d_Law_law_1182 : decode code 1182 = .ok (.invokevirtual 160, 3) := by decide +kernel
theorem d_Law_law_1185 : decode code 1185 = .ok (.iload 5, 2) := by decide +kernel
theorem d_Law_law_1187 : decode code 1187 = .ok (.if_icmp .eq 5, 3) := by decide +kernel
theorem d_Law_law_1190 : decode code 1190 = .ok (.iconst 0, 1) := by decide +kernel
theorem d_Law_law_1191 : decode code 1191 = .ok (.ireturn, 1) := by decide +kernel
theorem d_Law_law_1192 : decode code 1192 = .ok (.iload 5, 2) := by decide +kernel
theorem d_Law_law_1194 : decode code 1194 = .ok (.ifCond .ne 15, 3) := by decide +kernel
theorem d_Law_law_1197 : decode code 1197 = .ok (.aload_n 3, 1) := by decide +kernel
theorem d_Law_law_1198 : decode code 1198 = .ok (.iconst 0, 1) := by decide +kernel
theorem d_Law_law_1199 : decode code 1199 = .ok (.laload, 1) := by decide +kernel
theorem d_Law_law_1200 : decode code 1200 = .ok (.iload 6, 2) := by decide +kernel
theorem d_Law_law_1202 : decode code 1202 = .ok (.i2l, 1) := by decide +kernel
theorem d_Law_law_1203 : decode code 1203 = .ok (.lcmp, 1) := by decide +kernel
theorem d_Law_law_1204 : decode code 1204 = .ok (.ifCond .eq 5, 3) := by decide +kernel
theorem d_Law_law_1207 : decode code 1207 = .ok (.iconst 0, 1) := by decide +kernel
theorem d_Law_law_1208 : decode code 1208 = .ok (.ireturn, 1) := by decide +kernel
theorem d_Law_law_1209 : decode code 1209 = .ok (.goto 2020, 3) := by decide +kernel
theorem d_Law_law_1212 : decode code 1212 = .ok (.aload_n 1, 1) := by decide +kernel
theorem d_Law_law_1213 : decode code 1213 = .ok (.aload_n 0, 1) := by decide +kernel
theorem d_Law_law_1214 : decode code 1214 = .ok (.iload 4, 2) := by decide +kernel
theorem d_Law_law_1216 : decode code 1216 = .ok (.iconst 1, 1) := by decide +kernel
theorem d_Law_law_1217 : decode code 1217 = .ok (.iadd, 1) := by decide +kernel
theorem d_Law_law_1218 : decode code 1218 = .ok (.iaload, 1) := by decide +kernel
theorem d_Law_law_1219 : decode code 1219 = .ok (.aload_n 0, 1) := by decide +kernel
theorem d_Law_law_1220 : decode code 1220 = .ok (.iload 4, 2) := by decide +kernel
theorem d_Law_law_1222 : decode code 1222 = .ok (.iconst 2, 1) := by decide +kernel
theorem d_Law_law_1223 : decode code 1223 = .ok (.iadd, 1) := by decide +kernel
theorem d_Law_law_1224 : decode code 1224 = .ok (.iaload, 1) := by decide +kernel
theorem d_Law_law_1225 : decode code 1225 = .ok (.aload_n 0, 1) := by decide +kernel
theorem d_Law_law_1226 : decode code 1226 = .ok (.iload 4, 2) := by decide +kernel
theorem d_Law_law_1228 : decode code 1228 = .ok (.iconst 3, 1) := by decide +kernel
theorem d_Law_law_1229 : decode code 1229 = .ok (.iadd, 1) := by decide +kernel
theorem d_Law_law_1230 : decode code 1230 = .ok (.iaload, 1) := by decide +kernel
theorem d_Law_law_1231 : decode code 1231 = .ok (.aload_n 3, 1) := by decide +kernel
theorem d_Law_law_1232 : decode code 1232 = .ok (.invokestatic 207, 3) := by decide +kernel
theorem d_Law_law_1235 : decode code 1235 = .ok (.istore 5, 2) := by decide +kernel
theorem d_Law_law_1237 : decode code 1237 = .ok (.aload_n 2, 1) := by decide +kernel
theorem d_Law_law_1238 : decode code 1238 = .ok (.aload_n 0, 1) := by decide +kernel
theorem d_Law_law_1239 : decode code 1239 = .ok (.iload 4, 2) := by decide +kernel
theorem d_Law_law_1241 : decode code 1241 = .ok (.iconst 1, 1) := by decide +kernel
theorem d_Law_law_1242 : decode code 1242 = .ok (.iadd, 1) := by decide +kernel
theorem d_Law_law_1243 : decode code 1243 = .ok (.iaload, 1) := by decide +kernel
theorem d_Law_law_1244 : decode code 1244 = .ok (.aload_n 0, 1) := by decide +kernel
theorem d_Law_law_1245 : decode code 1245 = .ok (.iload 4, 2) := by decide +kernel
theorem d_Law_law_1247 : decode code 1247 = .ok (.iconst 2, 1) := by decide +kernel
theorem d_Law_law_1248 : decode code 1248 = .ok (.iadd, 1) := by decide +kernel
theorem d_Law_law_1249 : decode code 1249 = .ok (.iaload, 1) := by decide +kernel
theorem d_Law_law_1250 : decode code 1250 = .ok (.aload_n 0, 1) := by decide +kernel
theorem d_Law_law_1251 : decode code 1251 = .ok (.iload 4, 2) := by decide +kernel
theorem d_Law_law_1253 : decode code 1253 = .ok (.iconst 3, 1) := by decide +kernel
theorem d_Law_law_1254 : decode code 1254 = .ok (.iadd, 1) := by decide +kernel
theorem d_Law_law_1255 : decode code 1255 = .ok (.iaload, 1) := by decide +kernel
theorem d_Law_law_1256 : decode code 1256 = .ok (.invokevirtual 209, 3) := by decide +kernel
theorem d_Law_law_1259 : decode code 1259 = .ok (.istore 6, 2) := by decide +kernel
theorem d_Law_law_1261 : decode code 1261 = .ok (.aload_n 2, 1) := by decide +kernel
theorem d_Law_law_1262 : decode code 1262 = .ok (.invokevirtual 160, 3) := by decide +kernel
theorem d_Law_law_1265 : decode code 1265 = .ok (.iload 5, 2) := by decide +kernel
theorem d_Law_law_1267 : decode code 1267 = .ok (.if_icmp .eq 5, 3) := by decide +kernel
theorem d_Law_law_1270 : decode code 1270 = .ok (.iconst 0, 1) := by decide +kernel
theorem d_Law_law_1271 : decode code 1271 = .ok (.ireturn, 1) := by decide +kernel
theorem d_Law_law_1272 : decode code 1272 = .ok (.iload 5, 2) := by decide +kernel
theorem d_Law_law_1274 : decode code 1274 = .ok (.ifCond .ne 22, 3) := by decide +kernel
theorem d_Law_law_1277 : decode code 1277 = .ok (.aload_n 3, 1) := by decide +kernel
theorem d_Law_law_1278 : decode code 1278 = .ok (.iconst 0, 1) := by decide +kernel
theorem d_Law_law_1279 : decode code 1279 = .ok (.laload, 1) := by decide +kernel
theorem d_Law_law_1280 : decode code 1280 = .ok (.iload 6, 2) := by decide +kernel
theorem d_Law_law_1282 : decode code 1282 = .ok (.ifCond .eq 7, 3) := by decide +kernel
theorem d_Law_law_1285 : decode code 1285 = .ok (.lconst 1, 1) := by decide +kernel
theorem d_Law_law_1286 : decode code 1286 = .ok (.goto 4, 3) := by decide +kernel
theorem d_Law_law_1289 : decode code 1289 = .ok (.lconst 0, 1) := by decide +kernel
theorem d_Law_law_1290 : decode code 1290 = .ok (.lcmp, 1) := by decide +kernel
theorem d_Law_law_1291 : decode code 1291 = .ok (.ifCond .eq 5, 3) := by decide +kernel
theorem d_Law_law_1294 : decode code 1294 = .ok (.iconst 0, 1) := by decide +kernel
theorem d_Law_law_1295 : decode code 1295 = .ok (.ireturn, 1) := by decide +kernel
theorem d_Law_law_1296 : decode code 1296 = .ok (.goto 1933, 3) := by decide +kernel
theorem d_Law_law_1299 : decode code 1299 = .ok (.aload_n 1, 1) := by decide +kernel
theorem d_Law_law_1300 : decode code 1300 = .ok (.aload_n 0, 1) := by decide +kernel
theorem d_Law_law_1301 : decode code 1301 = .ok (.iload 4, 2) := by decide +kernel
theorem d_Law_law_1303 : decode code 1303 = .ok (.iconst 1, 1) := by decide +kernel
theorem d_Law_law_1304 : decode code 1304 = .ok (.iadd, 1) := by decide +kernel
theorem d_Law_law_1305 : decode code 1305 = .ok (.iaload, 1) := by decide +kernel
theorem d_Law_law_1306 : decode code 1306 = .ok (.aload_n 0, 1) := by decide +kernel
theorem d_Law_law_1307 : decode code 1307 = .ok (.iload 4, 2) := by decide +kernel
theorem d_Law_law_1309 : decode code 1309 = .ok (.iconst 2, 1) := by decide +kernel
theorem d_Law_law_1310 : decode code 1310 = .ok (.iadd, 1) := by decide +kernel
theorem d_Law_law_1311 : decode code 1311 = .ok (.iaload, 1) := by decide +kernel
theorem d_Law_law_1312 : decode code 1312 = .ok (.aload_n 0, 1) := by decide +kernel
theorem d_Law_law_1313 : decode code 1313 = .ok (.iload 4, 2) := by decide +kernel
theorem d_Law_law_1315 : decode code 1315 = .ok (.iconst 3, 1) := by decide +kernel
theorem d_Law_law_1316 : decode code 1316 = .ok (.iadd, 1) := by decide +kernel
theorem d_Law_law_1317 : decode code 1317 = .ok (.iaload, 1) := by decide +kernel
theorem d_Law_law_1318 : decode code 1318 = .ok (.aload_n 0, 1) := by decide +kernel
theorem d_Law_law_1319 : decode code 1319 = .ok (.iload 4, 2) := by decide +kernel
theorem d_Law_law_1321 : decode code 1321 = .ok (.iconst 4, 1) := by decide +kernel
theorem d_Law_law_1322 : decode code 1322 = .ok (.iadd, 1) := by decide +kernel
theorem d_Law_law_1323 : decode code 1323 = .ok (.iaload, 1) := by decide +kernel
theorem d_Law_law_1324 : decode code 1324 = .ok (.aload_n 3, 1) := by decide +kernel
theorem d_Law_law_1325 : decode code 1325 = .ok (.invokestatic 210, 3) := by decide +kernel
theorem d_Law_law_1328 : decode code 1328 = .ok (.istore 5, 2) := by decide +kernel
theorem d_Law_law_1330 : decode code 1330 = .ok (.aload_n 2, 1) := by decide +kernel
theorem d_Law_law_1331 : decode code 1331 = .ok (.aload_n 0, 1) := by decide +kernel
theorem d_Law_law_1332 : decode code 1332 = .ok (.iload 4, 2) := by decide +kernel
theorem d_Law_law_1334 : decode code 1334 = .ok (.iconst 1, 1) := by decide +kernel
theorem d_Law_law_1335 : decode code 1335 = .ok (.iadd, 1) := by decide +kernel
theorem d_Law_law_1336 : decode code 1336 = .ok (.iaload, 1) := by decide +kernel
theorem d_Law_law_1337 : decode code 1337 = .ok (.aload_n 0, 1) := by decide +kernel
theorem d_Law_law_1338 : decode code 1338 = .ok (.iload 4, 2) := by decide +kernel
theorem d_Law_law_1340 : decode code 1340 = .ok (.iconst 2, 1) := by decide +kernel
theorem d_Law_law_1341 : decode code 1341 = .ok (.iadd, 1) := by decide +kernel
theorem d_Law_law_1342 : decode code 1342 = .ok (.iaload, 1) := by decide +kernel
theorem d_Law_law_1343 : decode code 1343 = .ok (.aload_n 0, 1) := by decide +kernel
theorem d_Law_law_1344 : decode code 1344 = .ok (.iload 4, 2) := by decide +kernel
theorem d_Law_law_1346 : decode code 1346 = .ok (.iconst 3, 1) := by decide +kernel
theorem d_Law_law_1347 : decode code 1347 = .ok (.iadd, 1) := by decide +kernel
theorem d_Law_law_1348 : decode code 1348 = .ok (.iaload, 1) := by decide +kernel
theorem d_Law_law_1349 : decode code 1349 = .ok (.aload_n 0, 1) := by decide +kernel
theorem d_Law_law_1350 : decode code 1350 = .ok (.iload 4, 2) := by decide +kernel
theorem d_Law_law_1352 : decode code 1352 = .ok (.iconst 4, 1) := by decide +kernel
theorem d_Law_law_1353 : decode code 1353 = .ok (.iadd, 1) := by decide +kernel
theorem d_Law_law_1354 : decode code 1354 = .ok (.iaload, 1) := by decide +kernel
theorem d_Law_law_1355 : decode code 1355 = .ok (.invokevirtual 212, 3) := by decide +kernel
theorem d_Law_law_1358 : decode code 1358 = .ok (.istore 6, 2) := by decide +kernel
theorem d_Law_law_1360 : decode code 1360 = .ok (.aload_n 2, 1) := by decide +kernel
theorem d_Law_law_1361 : decode code 1361 = .ok (.invokevirtual 160, 3) := by decide +kernel
theorem d_Law_law_1364 : decode code 1364 = .ok (.iload 5, 2) := by decide +kernel
theorem d_Law_law_1366 : decode code 1366 = .ok (.if_icmp .eq 5, 3) := by decide +kernel
theorem d_Law_law_1369 : decode code 1369 = .ok (.iconst 0, 1) := by decide +kernel
theorem d_Law_law_1370 : decode code 1370 = .ok (.ireturn, 1) := by decide +kernel
theorem d_Law_law_1371 : decode code 1371 = .ok (.iload 5, 2) := by decide +kernel
theorem d_Law_law_1373 : decode code 1373 = .ok (.ifCond .ne 15, 3) := by decide +kernel
theorem d_Law_law_1376 : decode code 1376 = .ok (.aload_n 3, 1) := by decide +kernel
theorem d_Law_law_1377 : decode code 1377 = .ok (.iconst 0, 1) := by decide +kernel
theorem d_Law_law_1378 : decode code 1378 = .ok (.laload, 1) := by decide +kernel
theorem d_Law_law_1379 : decode code 1379 = .ok (.iload 6, 2) := by decide +kernel
theorem d_Law_law_1381 : decode code 1381 = .ok (.i2l, 1) := by decide +kernel
theorem d_Law_law_1382 : decode code 1382 = .ok (.lcmp, 1) := by decide +kernel
theorem d_Law_law_1383 : decode code 1383 = .ok (.ifCond .eq 5, 3) := by decide +kernel
theorem d_Law_law_1386 : decode code 1386 = .ok (.iconst 0, 1) := by decide +kernel
theorem d_Law_law_1387 : decode code 1387 = .ok (.ireturn, 1) := by decide +kernel
theorem d_Law_law_1388 : decode code 1388 = .ok (.goto 1841, 3) := by decide +kernel
theorem d_Law_law_1391 : decode code 1391 = .ok (.aload_n 1, 1) := by decide +kernel
theorem d_Law_law_1392 : decode code 1392 = .ok (.aload_n 0, 1) := by decide +kernel
theorem d_Law_law_1393 : decode code 1393 = .ok (.iload 4, 2) := by decide +kernel
theorem d_Law_law_1395 : decode code 1395 = .ok (.iconst 1, 1) := by decide +kernel
theorem d_Law_law_1396 : decode code 1396 = .ok (.iadd, 1) := by decide +kernel
theorem d_Law_law_1397 : decode code 1397 = .ok (.iaload, 1) := by decide +kernel
theorem d_Law_law_1398 : decode code 1398 = .ok (.aload_n 0, 1) := by decide +kernel
theorem d_Law_law_1399 : decode code 1399 = .ok (.iload 4, 2) := by decide +kernel
theorem d_Law_law_1401 : decode code 1401 = .ok (.iconst 2, 1) := by decide +kernel
theorem d_Law_law_1402 : decode code 1402 = .ok (.iadd, 1) := by decide +kernel
theorem d_Law_law_1403 : decode code 1403 = .ok (.iaload, 1) := by decide +kernel
theorem d_Law_law_1404 : decode code 1404 = .ok (.aload_n 0, 1) := by decide +kernel
theorem d_Law_law_1405 : decode code 1405 = .ok (.iload 4, 2) := by decide +kernel
theorem d_Law_law_1407 : decode code 1407 = .ok (.iconst 3, 1) := by decide +kernel
theorem d_Law_law_1408 : decode code 1408 = .ok (.iadd, 1) := by decide +kernel
theorem d_Law_law_1409 : decode code 1409 = .ok (.iaload, 1) := by decide +kernel
theorem d_Law_law_1410 : decode code 1410 = .ok (.aload_n 3, 1) := by decide +kernel
theorem d_Law_law_1411 : decode code 1411 = .ok (.invokestatic 213, 3) := by decide +kernel
theorem d_Law_law_1414 : decode code 1414 = .ok (.istore 5, 2) := by decide +kernel
theorem d_Law_law_1416 : decode code 1416 = .ok (.aload_n 2, 1) := by decide +kernel
theorem d_Law_law_1417 : decode code 1417 = .ok (.aload_n 0, 1) := by decide +kernel
theorem d_Law_law_1418 : decode code 1418 = .ok (.iload 4, 2) := by decide +kernel
theorem d_Law_law_1420 : decode code 1420 = .ok (.iconst 1, 1) := by decide +kernel
theorem d_Law_law_1421 : decode code 1421 = .ok (.iadd, 1) := by decide +kernel
theorem d_Law_law_1422 : decode code 1422 = .ok (.iaload, 1) := by decide +kernel
theorem d_Law_law_1423 : decode code 1423 = .ok (.aload_n 0, 1) := by decide +kernel
theorem d_Law_law_1424 : decode code 1424 = .ok (.iload 4, 2) := by decide +kernel
theorem d_Law_law_1426 : decode code 1426 = .ok (.iconst 2, 1) := by decide +kernel
theorem d_Law_law_1427 : decode code 1427 = .ok (.iadd, 1) := by decide +kernel
theorem d_Law_law_1428 : decode code 1428 = .ok (.iaload, 1) := by decide +kernel
theorem d_Law_law_1429 : decode code 1429 = .ok (.aload_n 0, 1) := by decide +kernel
theorem d_Law_law_1430 : decode code 1430 = .ok (.iload 4, 2) := by decide +kernel
theorem d_Law_law_1432 : decode code 1432 = .ok (.iconst 3, 1) := by decide +kernel
theorem d_Law_law_1433 : decode code 1433 = .ok (.iadd, 1) := by decide +kernel
theorem d_Law_law_1434 : decode code 1434 = .ok (.iaload, 1) := by decide +kernel
theorem d_Law_law_1435 : decode code 1435 = .ok (.invokevirtual 215, 3) := by decide +kernel
theorem d_Law_law_1438 : decode code 1438 = .ok (.istore 6, 2) := by decide +kernel
theorem d_Law_law_1440 : decode code 1440 = .ok (.aload_n 2, 1) := by decide +kernel
theorem d_Law_law_1441 : decode code 1441 = .ok (.invokevirtual 160, 3) := by decide +kernel
theorem d_Law_law_1444 : decode code 1444 = .ok (.iload 5, 2) := by decide +kernel
theorem d_Law_law_1446 : decode code 1446 = .ok (.if_icmp .eq 5, 3) := by decide +kernel
theorem d_Law_law_1449 : decode code 1449 = .ok (.iconst 0, 1) := by decide +kernel
theorem d_Law_law_1450 : decode code 1450 = .ok (.ireturn, 1) := by decide +kernel
theorem d_Law_law_1451 : decode code 1451 = .ok (.iload 5, 2) := by decide +kernel
theorem d_Law_law_1453 : decode code 1453 = .ok (.ifCond .ne 15, 3) := by decide +kernel
theorem d_Law_law_1456 : decode code 1456 = .ok (.aload_n 3, 1) := by decide +kernel
theorem d_Law_law_1457 : decode code 1457 = .ok (.iconst 0, 1) := by decide +kernel
theorem d_Law_law_1458 : decode code 1458 = .ok (.laload, 1) := by decide +kernel
theorem d_Law_law_1459 : decode code 1459 = .ok (.iload 6, 2) := by decide +kernel
theorem d_Law_law_1461 : decode code 1461 = .ok (.i2l, 1) := by decide +kernel
theorem d_Law_law_1462 : decode code 1462 = .ok (.lcmp, 1) := by decide +kernel
theorem d_Law_law_1463 : decode code 1463 = .ok (.ifCond .eq 5, 3) := by decide +kernel
theorem d_Law_law_1466 : decode code 1466 = .ok (.iconst 0, 1) := by decide +kernel
theorem d_Law_law_1467 : decode code 1467 = .ok (.ireturn, 1) := by decide +kernel
theorem d_Law_law_1468 : decode code 1468 = .ok (.goto 1761, 3) := by decide +kernel
theorem d_Law_law_1471 : decode code 1471 = .ok (.aload_n 1, 1) := by decide +kernel
theorem d_Law_law_1472 : decode code 1472 = .ok (.aload_n 0, 1) := by decide +kernel
theorem d_Law_law_1473 : decode code 1473 = .ok (.iload 4, 2) := by decide +kernel
theorem d_Law_law_1475 : decode code 1475 = .ok (.iconst 1, 1) := by decide +kernel
theorem d_Law_law_1476 : decode code 1476 = .ok (.iadd, 1) := by decide +kernel
theorem d_Law_law_1477 : decode code 1477 = .ok (.iaload, 1) := by decide +kernel
theorem d_Law_law_1478 : decode code 1478 = .ok (.aload_n 0, 1) := by decide +kernel
theorem d_Law_law_1479 : decode code 1479 = .ok (.iload 4, 2) := by decide +kernel
theorem d_Law_law_1481 : decode code 1481 = .ok (.iconst 2, 1) := by decide +kernel
theorem d_Law_law_1482 : decode code 1482 = .ok (.iadd, 1) := by decide +kernel
theorem d_Law_law_1483 : decode code 1483 = .ok (.iaload, 1) := by decide +kernel
theorem d_Law_law_1484 : decode code 1484 = .ok (.aload_n 0, 1) := by decide +kernel
theorem d_Law_law_1485 : decode code 1485 = .ok (.iload 4, 2) := by decide +kernel
theorem d_Law_law_1487 : decode code 1487 = .ok (.iconst 3, 1) := by decide +kernel
theorem d_Law_law_1488 : decode code 1488 = .ok (.iadd, 1) := by decide +kernel
theorem d_Law_law_1489 : decode code 1489 = .ok (.iaload, 1) := by decide +kernel
theorem d_Law_law_1490 : decode code 1490 = .ok (.aload_n 3, 1) := by decide +kernel
theorem d_Law_law_1491 : decode code 1491 = .ok (.invokestatic 216, 3) := by decide +kernel
theorem d_Law_law_1494 : decode code 1494 = .ok (.istore 5, 2) := by decide +kernel
theorem d_Law_law_1496 : decode code 1496 = .ok (.aload_n 2, 1) := by decide +kernel
theorem d_Law_law_1497 : decode code 1497 = .ok (.aload_n 0, 1) := by decide +kernel
theorem d_Law_law_1498 : decode code 1498 = .ok (.iload 4, 2) := by decide +kernel
theorem d_Law_law_1500 : decode code 1500 = .ok (.iconst 1, 1) := by decide +kernel
theorem d_Law_law_1501 : decode code 1501 = .ok (.iadd, 1) := by decide +kernel
theorem d_Law_law_1502 : decode code 1502 = .ok (.iaload, 1) := by decide +kernel
theorem d_Law_law_1503 : decode code 1503 = .ok (.aload_n 0, 1) := by decide +kernel
theorem d_Law_law_1504 : decode code 1504 = .ok (.iload 4, 2) := by decide +kernel
theorem d_Law_law_1506 : decode code 1506 = .ok (.iconst 2, 1) := by decide +kernel
theorem d_Law_law_1507 : decode code 1507 = .ok (.iadd, 1) := by decide +kernel
theorem d_Law_law_1508 : decode code 1508 = .ok (.iaload, 1) := by decide +kernel
theorem d_Law_law_1509 : decode code 1509 = .ok (.aload_n 0, 1) := by decide +kernel
theorem d_Law_law_1510 : decode code 1510 = .ok (.iload 4, 2) := by decide +kernel
theorem d_Law_law_1512 : decode code 1512 = .ok (.iconst 3, 1) := by decide +kernel
theorem d_Law_law_1513 : decode code 1513 = .ok (.iadd, 1) := by decide +kernel
theorem d_Law_law_1514 : decode code 1514 = .ok (.iaload, 1) := by decide +kernel
theorem d_Law_law_1515 : decode code 1515 = .ok (.invokevirtual 218, 3) := by decide +kernel
theorem d_Law_law_1518 : decode code 1518 = .ok (.istore 6, 2) := by decide +kernel
theorem d_Law_law_1520 : decode code 1520 = .ok (.aload_n 2, 1) := by decide +kernel
theorem d_Law_law_1521 : decode code 1521 = .ok (.invokevirtual 160, 3) := by decide +kernel
theorem d_Law_law_1524 : decode code 1524 = .ok (.iload 5, 2) := by decide +kernel
theorem d_Law_law_1526 : decode code 1526 = .ok (.if_icmp .eq 5, 3) := by decide +kernel
theorem d_Law_law_1529 : decode code 1529 = .ok (.iconst 0, 1) := by decide +kernel
theorem d_Law_law_1530 : decode code 1530 = .ok (.ireturn, 1) := by decide +kernel
theorem d_Law_law_1531 : decode code 1531 = .ok (.iload 5, 2) := by decide +kernel
theorem d_Law_law_1533 : decode code 1533 = .ok (.ifCond .ne 15, 3) := by decide +kernel
theorem d_Law_law_1536 : decode code 1536 = .ok (.aload_n 3, 1) := by decide +kernel
theorem d_Law_law_1537 : decode code 1537 = .ok (.iconst 0, 1) := by decide +kernel
theorem d_Law_law_1538 : decode code 1538 = .ok (.laload, 1) := by decide +kernel
theorem d_Law_law_1539 : decode code 1539 = .ok (.iload 6, 2) := by decide +kernel
theorem d_Law_law_1541 : decode code 1541 = .ok (.i2l, 1) := by decide +kernel
