theorem d_law_879 : decode code 879 = .ok (.iaload, 1) := by decide +kernel
theorem d_law_880 : decode code 880 = .ok (.invokevirtual 89, 3) := by decide +kernel
theorem d_law_883 : decode code 883 = .ok (.aload_n 2, 1) := by decide +kernel
theorem d_law_884 : decode code 884 = .ok (.aload_n 0, 1) := by decide +kernel
theorem d_law_885 : decode code 885 = .ok (.iload_n 3, 1) := by decide +kernel
theorem d_law_886 : decode code 886 = .ok (.iconst 1, 1) := by decide +kernel
theorem d_law_887 : decode code 887 = .ok (.iadd, 1) := by decide +kernel
theorem d_law_888 : decode code 888 = .ok (.iaload, 1) := by decide +kernel
theorem d_law_889 : decode code 889 = .ok (.aload_n 0, 1) := by decide +kernel
theorem d_law_890 : decode code 890 = .ok (.iload_n 3, 1) := by decide +kernel
theorem d_law_891 : decode code 891 = .ok (.iconst 2, 1) := by decide +kernel
theorem d_law_892 : decode code 892 = .ok (.iadd, 1) := by decide +kernel
theorem d_law_893 : decode code 893 = .ok (.iaload, 1) := by decide +kernel
theorem d_law_894 : decode code 894 = .ok (.aload_n 0, 1) := by decide +kernel
theorem d_law_895 : decode code 895 = .ok (.iload_n 3, 1) := by decide +kernel
theorem d_law_896 : decode code 896 = .ok (.iconst 3, 1) := by decide +kernel
theorem d_law_897 : decode code 897 = .ok (.iadd, 1) := by decide +kernel
theorem d_law_898 : decode code 898 = .ok (.iaload, 1) := by decide +kernel
theorem d_law_899 : decode code 899 = .ok (.invokevirtual 93, 3) := by decide +kernel
theorem d_law_902 : decode code 902 = .ok (.lcmp, 1) := by decide +kernel
theorem d_law_903 : decode code 903 = .ok (.ifCond .eq 731, 3) := by decide +kernel
theorem d_law_906 : decode code 906 = .ok (.iconst 0, 1) := by decide +kernel
theorem d_law_907 : decode code 907 = .ok (.ireturn, 1) := by decide +kernel
theorem d_law_908 : decode code 908 = .ok (.aload_n 1, 1) := by decide +kernel
theorem d_law_909 : decode code 909 = .ok (.aload_n 0, 1) := by decide +kernel
theorem d_law_910 : decode code 910 = .ok (.iload_n 3, 1) := by decide +kernel
theorem d_law_911 : decode code 911 = .ok (.iconst 1, 1) := by decide +kernel
theorem d_law_912 : decode code 912 = .ok (.iadd, 1) := by decide +kernel
theorem d_law_913 : decode code 913 = .ok (.iaload, 1) := by decide +kernel
theorem d_law_914 : decode code 914 = .ok (.aload_n 0, 1) := by decide +kernel
theorem d_law_915 : decode code 915 = .ok (.iload_n 3, 1) := by decide +kernel
theorem d_law_916 : decode code 916 = .ok (.iconst 2, 1) := by decide +kernel
theorem d_law_917 : decode code 917 = .ok (.iadd, 1) := by decide +kernel
theorem d_law_918 : decode code 918 = .ok (.iaload, 1) := by decide +kernel
theorem d_law_919 : decode code 919 = .ok (.invokevirtual 94, 3) := by decide +kernel
theorem d_law_922 : decode code 922 = .ok (.aload_n 2, 1) := by decide +kernel
theorem d_law_923 : decode code 923 = .ok (.aload_n 0, 1) := by decide +kernel
theorem d_law_924 : decode code 924 = .ok (.iload_n 3, 1) := by decide +kernel
theorem d_law_925 : decode code 925 = .ok (.iconst 1, 1) := by decide +kernel
theorem d_law_926 : decode code 926 = .ok (.iadd, 1) := by decide +kernel
theorem d_law_927 : decode code 927 = .ok (.iaload, 1) := by decide +kernel
theorem d_law_928 : decode code 928 = .ok (.aload_n 0, 1) := by decide +kernel
theorem d_law_929 : decode code 929 = .ok (.iload_n 3, 1) := by decide +kernel
theorem d_law_930 : decode code 930 = .ok (.iconst 2, 1) := by decide +kernel
theorem d_law_931 : decode code 931 = .ok (.iadd, 1) := by decide +kernel
theorem d_law_932 : decode code 932 = .ok (.iaload, 1) := by decide +kernel
theorem d_law_933 : decode code 933 = .ok (.invokevirtual 97, 3) := by decide +kernel
theorem d_law_936 : decode code 936 = .ok (.if_icmp .eq 698, 3) := by decide +kernel
theorem d_law_939 : decode code 939 = .ok (.iconst 0, 1) := by decide +kernel
theorem d_law_940 : decode code 940 = .ok (.ireturn, 1) := by decide +kernel
theorem d_law_941 : decode code 941 = .ok (.aload_n 1, 1) := by decide +kernel
theorem d_law_942 : decode code 942 = .ok (.aload_n 0, 1) := by decide +kernel
theorem d_law_943 : decode code 943 = .ok (.iload_n 3, 1) := by decide +kernel
theorem d_law_944 : decode code 944 = .ok (.iconst 1, 1) := by decide +kernel
theorem d_law_945 : decode code 945 = .ok (.iadd, 1) := by decide +kernel
theorem d_law_946 : decode code 946 = .ok (.iaload, 1) := by decide +kernel
theorem d_law_947 : decode code 947 = .ok (.aload_n 0, 1) := by decide +kernel
theorem d_law_948 : decode code 948 = .ok (.iload_n 3, 1) := by decide +kernel
theorem d_law_949 : decode code 949 = .ok (.iconst 2, 1) := by decide +kernel
theorem d_law_950 : decode code 950 = .ok (.iadd, 1) := by decide +kernel
theorem d_law_951 : decode code 951 = .ok (.iaload, 1) := by decide +kernel
theorem d_law_952 : decode code 952 = .ok (.aload_n 0, 1) := by decide +kernel
theorem d_law_953 : decode code 953 = .ok (.iload_n 3, 1) := by decide +kernel
theorem d_law_954 : decode code 954 = .ok (.iconst 3, 1) := by decide +kernel
theorem d_law_955 : decode code 955 = .ok (.iadd, 1) := by decide +kernel
theorem d_law_956 : decode code 956 = .ok (.iaload, 1) := by decide +kernel
theorem d_law_957 : decode code 957 = .ok (.aload_n 0, 1) := by decide +kernel
theorem d_law_958 : decode code 958 = .ok (.iload_n 3, 1) := by decide +kernel
theorem d_law_959 : decode code 959 = .ok (.iconst 4, 1) := by decide +kernel
theorem d_law_960 : decode code 960 = .ok (.iadd, 1) := by decide +kernel
theorem d_law_961 : decode code 961 = .ok (.iaload, 1) := by decide +kernel
theorem d_law_962 : decode code 962 = .ok (.ifCond .eq 7, 3) := by decide +kernel
theorem d_law_965 : decode code 965 = .ok (.iconst 1, 1) := by decide +kernel
theorem d_law_966 : decode code 966 = .ok (.goto 4, 3) := by decide +kernel
theorem d_law_969 : decode code 969 = .ok (.iconst 0, 1) := by decide +kernel
theorem d_law_970 : decode code 970 = .ok (.invokevirtual 98, 3) := by decide +kernel
theorem d_law_973 : decode code 973 = .ok (.aload_n 2, 1) := by decide +kernel
theorem d_law_974 : decode code 974 = .ok (.aload_n 0, 1) := by decide +kernel
theorem d_law_975 : decode code 975 = .ok (.iload_n 3, 1) := by decide +kernel
theorem d_law_976 : decode code 976 = .ok (.iconst 1, 1) := by decide +kernel
theorem d_law_977 : decode code 977 = .ok (.iadd, 1) := by decide +kernel
theorem d_law_978 : decode code 978 = .ok (.iaload, 1) := by decide +kernel
theorem d_law_979 : decode code 979 = .ok (.aload_n 0, 1) := by decide +kernel
theorem d_law_980 : decode code 980 = .ok (.iload_n 3, 1) := by decide +kernel
theorem d_law_981 : decode code 981 = .ok (.iconst 2, 1) := by decide +kernel
theorem d_law_982 : decode code 982 = .ok (.iadd, 1) := by decide +kernel
theorem d_law_983 : decode code 983 = .ok (.iaload, 1) := by decide +kernel
theorem d_law_984 : decode code 984 = .ok (.aload_n 0, 1) := by decide +kernel
theorem d_law_985 : decode code 985 = .ok (.iload_n 3, 1) := by decide +kernel
theorem d_law_986 : decode code 986 = .ok (.iconst 3, 1) := by decide +kernel
theorem d_law_987 : decode code 987 = .ok (.iadd, 1) := by decide +kernel
theorem d_law_988 : decode code 988 = .ok (.iaload, 1) := by decide +kernel
theorem d_law_989 : decode code 989 = .ok (.aload_n 0, 1) := by decide +kernel
theorem d_law_990 : decode code 990 = .ok (.iload_n 3, 1) := by decide +kernel
theorem d_law_991 : decode code 991 = .ok (.iconst 4, 1) := by decide +kernel
theorem d_law_992 : decode code 992 = .ok (.iadd, 1) := by decide +kernel
theorem d_law_993 : decode code 993 = .ok (.iaload, 1) := by decide +kernel
theorem d_law_994 : decode code 994 = .ok (.ifCond .eq 7, 3) := by decide +kernel
theorem d_law_997 : decode code 997 = .ok (.iconst 1, 1) := by decide +kernel
theorem d_law_998 : decode code 998 = .ok (.goto 4, 3) := by decide +kernel
theorem d_law_1001 : decode code 1001 = .ok (.iconst 0, 1) := by decide +kernel
theorem d_law_1002 : decode code 1002 = .ok (.invokevirtual 102, 3) := by decide +kernel
theorem d_law_1005 : decode code 1005 = .ok (.if_icmp .eq 629, 3) := by decide +kernel
theorem d_law_1008 : decode code 1008 = .ok (.iconst 0, 1) := by decide +kernel
theorem d_law_1009 : decode code 1009 = .ok (.ireturn, 1) := by decide +kernel
theorem d_law_1010 : decode code 1010 = .ok (.aload_n 1, 1) := by decide +kernel
theorem d_law_1011 : decode code 1011 = .ok (.aload_n 0, 1) := by decide +kernel
theorem d_law_1012 : decode code 1012 = .ok (.iload_n 3, 1) := by decide +kernel
theorem d_law_1013 : decode code 1013 = .ok (.iconst 1, 1) := by decide +kernel
theorem d_law_1014 : decode code 1014 = .ok (.iadd, 1) := by decide +kernel
theorem d_law_1015 : decode code 1015 = .ok (.iaload, 1) := by decide +kernel
theorem d_law_1016 : decode code 1016 = .ok (.aload_n 0, 1) := by decide +kernel
theorem d_law_1017 : decode code 1017 = .ok (.iload_n 3, 1) := by decide +kernel
theorem d_law_1018 : decode code 1018 = .ok (.iconst 2, 1) := by decide +kernel
theorem d_law_1019 : decode code 1019 = .ok (.iadd, 1) := by decide +kernel
theorem d_law_1020 : decode code 1020 = .ok (.iaload, 1) := by decide +kernel
theorem d_law_1021 : decode code 1021 = .ok (.aload_n 0, 1) := by decide +kernel
theorem d_law_1022 : decode code 1022 = .ok (.iload_n 3, 1) := by decide +kernel
theorem d_law_1023 : decode code 1023 = .ok (.iconst 3, 1) := by decide +kernel
theorem d_law_1024 : decode code 1024 = .ok (.iadd, 1) := by decide +kernel
theorem d_law_1025 : decode code 1025 = .ok (.iaload, 1) := by decide +kernel
theorem d_law_1026 : decode code 1026 = .ok (.ifCond .eq 7, 3) := by decide +kernel
theorem d_law_1029 : decode code 1029 = .ok (.iconst 1, 1) := by decide +kernel
theorem d_law_1030 : decode code 1030 = .ok (.goto 4, 3) := by decide +kernel
theorem d_law_1033 : decode code 1033 = .ok (.iconst 0, 1) := by decide +kernel
theorem d_law_1034 : decode code 1034 = .ok (.invokevirtual 103, 3) := by decide +kernel
theorem d_law_1037 : decode code 1037 = .ok (.aload_n 2, 1) := by decide +kernel
theorem d_law_1038 : decode code 1038 = .ok (.aload_n 0, 1) := by decide +kernel
theorem d_law_1039 : decode code 1039 = .ok (.iload_n 3, 1) := by decide +kernel
theorem d_law_1040 : decode code 1040 = .ok (.iconst 1, 1) := by decide +kernel
theorem d_law_1041 : decode code 1041 = .ok (.iadd, 1) := by decide +kernel
theorem d_law_1042 : decode code 1042 = .ok (.iaload, 1) := by decide +kernel
theorem d_law_1043 : decode code 1043 = .ok (.aload_n 0, 1) := by decide +kernel
theorem d_law_1044 : decode code 1044 = .ok (.iload_n 3, 1) := by decide +kernel
theorem d_law_1045 : decode code 1045 = .ok (.iconst 2, 1) := by decide +kernel
theorem d_law_1046 : decode code 1046 = .ok (.iadd, 1) := by decide +kernel
theorem d_law_1047 : decode code 1047 = .ok (.iaload, 1) := by decide +kernel
theorem d_law_1048 : decode code 1048 = .ok (.aload_n 0, 1) := by decide +kernel
theorem d_law_1049 : decode code 1049 = .ok (.iload_n 3, 1) := by decide +kernel
theorem d_law_1050 : decode code 1050 = .ok (.iconst 3, 1) := by decide +kernel
theorem d_law_1051 : decode code 1051 = .ok (.iadd, 1) := by decide +kernel
theorem d_law_1052 : decode code 1052 = .ok (.iaload, 1) := by decide +kernel
theorem d_law_1053 : decode code 1053 = .ok (.ifCond .eq 7, 3) := by decide +kernel
theorem d_law_1056 : decode code 1056 = .ok (.iconst 1, 1) := by decide +kernel
theorem d_law_1057 : decode code 1057 = .ok (.goto 4, 3) := by decide +kernel
theorem d_law_1060 : decode code 1060 = .ok (.iconst 0, 1) := by decide +kernel
theorem d_law_1061 : decode code 1061 = .ok (.invokevirtual 107, 3) := by decide +kernel
theorem d_law_1064 : decode code 1064 = .ok (.if_icmp .eq 570, 3) := by decide +kernel
theorem d_law_1067 : decode code 1067 = .ok (.iconst 0, 1) := by decide +kernel
theorem d_law_1068 : decode code 1068 = .ok (.ireturn, 1) := by decide +kernel
theorem d_law_1069 : decode code 1069 = .ok (.aload_n 1, 1) := by decide +kernel
theorem d_law_1070 : decode code 1070 = .ok (.aload_n 0, 1) := by decide +kernel
theorem d_law_1071 : decode code 1071 = .ok (.iload_n 3, 1) := by decide +kernel
theorem d_law_1072 : decode code 1072 = .ok (.iconst 1, 1) := by decide +kernel
theorem d_law_1073 : decode code 1073 = .ok (.iadd, 1) := by decide +kernel
theorem d_law_1074 : decode code 1074 = .ok (.iaload, 1) := by decide +kernel
theorem d_law_1075 : decode code 1075 = .ok (.aload_n 0, 1) := by decide +kernel
theorem d_law_1076 : decode code 1076 = .ok (.iload_n 3, 1) := by decide +kernel
theorem d_law_1077 : decode code 1077 = .ok (.iconst 2, 1) := by decide +kernel
theorem d_law_1078 : decode code 1078 = .ok (.iadd, 1) := by decide +kernel
theorem d_law_1079 : decode code 1079 = .ok (.iaload, 1) := by decide +kernel
theorem d_law_1080 : decode code 1080 = .ok (.ifCond .eq 7, 3) := by decide +kernel
theorem d_law_1083 : decode code 1083 = .ok (.iconst 1, 1) := by decide +kernel
theorem d_law_1084 : decode code 1084 = .ok (.goto 4, 3) := by decide +kernel
theorem d_law_1087 : decode code 1087 = .ok (.iconst 0, 1) := by decide +kernel
theorem d_law_1088 : decode code 1088 = .ok (.invokevirtual 108, 3) := by decide +kernel
theorem d_law_1091 : decode code 1091 = .ok (.aload_n 2, 1) := by decide +kernel
theorem d_law_1092 : decode code 1092 = .ok (.aload_n 0, 1) := by decide +kernel
theorem d_law_1093 : decode code 1093 = .ok (.iload_n 3, 1) := by decide +kernel
theorem d_law_1094 : decode code 1094 = .ok (.iconst 1, 1) := by decide +kernel
theorem d_law_1095 : decode code 1095 = .ok (.iadd, 1) := by decide +kernel
theorem d_law_1096 : decode code 1096 = .ok (.iaload, 1) := by decide +kernel
theorem d_law_1097 : decode code 1097 = .ok (.aload_n 0, 1) := by decide +kernel
theorem d_law_1098 : decode code 1098 = .ok (.iload_n 3, 1) := by decide +kernel
theorem d_law_1099 : decode code 1099 = .ok (.iconst 2, 1) := by decide +kernel
theorem d_law_1100 : decode code 1100 = .ok (.iadd, 1) := by decide +kernel
theorem d_law_1101 : decode code 1101 = .ok (.iaload, 1) := by decide +kernel
theorem d_law_1102 : decode code 1102 = .ok (.ifCond .eq 7, 3) := by decide +kernel
theorem d_law_1105 : decode code 1105 = .ok (.iconst 1, 1) := by decide +kernel
theorem d_law_1106 : decode code 1106 = .ok (.goto 4, 3) := by decide +kernel
theorem d_law_1109 : decode code 1109 = .ok (.iconst 0, 1) := by decide +kernel
theorem d_law_1110 : decode code 1110 = .ok (.invokevirtual 111, 3) := by decide +kernel
theorem d_law_1113 : decode code 1113 = .ok (.if_icmp .eq 521, 3) := by decide +kernel
theorem d_law_1116 : decode code 1116 = .ok (.iconst 0, 1) := by decide +kernel
theorem d_law_1117 : decode code 1117 = .ok (.ireturn, 1) := by decide +kernel
theorem d_law_1118 : decode code 1118 = .ok (.aload_n 1, 1) := by decide +kernel
theorem d_law_1119 : decode code 1119 = .ok (.aload_n 0, 1) := by decide +kernel
theorem d_law_1120 : decode code 1120 = .ok (.iload_n 3, 1) := by decide +kernel
theorem d_law_1121 : decode code 1121 = .ok (.iconst 1, 1) := by decide +kernel
theorem d_law_1122 : decode code 1122 = .ok (.iadd, 1) := by decide +kernel
theorem d_law_1123 : decode code 1123 = .ok (.iaload, 1) := by decide +kernel
theorem d_law_1124 : decode code 1124 = .ok (.aload_n 0, 1) := by decide +kernel
theorem d_law_1125 : decode code 1125 = .ok (.iload_n 3, 1) := by decide +kernel
theorem d_law_1126 : decode code 1126 = .ok (.iconst 2, 1) := by decide +kernel
theorem d_law_1127 : decode code 1127 = .ok (.iadd, 1) := by decide +kernel
theorem d_law_1128 : decode code 1128 = .ok (.iaload, 1) := by decide +kernel
theorem d_law_1129 : decode code 1129 = .ok (.aload_n 0, 1) := by decide +kernel
theorem d_law_1130 : decode code 1130 = .ok (.iload_n 3, 1) := by decide +kernel
theorem d_law_1131 : decode code 1131 = .ok (.iconst 3, 1) := by decide +kernel
theorem d_law_1132 : decode code 1132 = .ok (.iadd, 1) := by decide +kernel
theorem d_law_1133 : decode code 1133 = .ok (.iaload, 1) := by decide +kernel
theorem d_law_1134 : decode code 1134 = .ok (.ifCond .eq 7, 3) := by decide +kernel
theorem d_law_1137 : decode code 1137 = .ok (.iconst 1, 1) := by decide +kernel
theorem d_law_1138 : decode code 1138 = .ok (.goto 4, 3) := by decide +kernel
theorem d_law_1141 : decode code 1141 = .ok (.iconst 0, 1) := by decide +kernel
theorem d_law_1142 : decode code 1142 = .ok (.invokevirtual 112, 3) := by decide +kernel
theorem d_law_1145 : decode code 1145 = .ok (.aload_n 2, 1) := by decide +kernel
theorem d_law_1146 : decode code 1146 = .ok (.aload_n 0, 1) := by decide +kernel
theorem d_law_1147 : decode code 1147 = .ok (.iload_n 3, 1) := by decide +kernel
theorem d_law_1148 : decode code 1148 = .ok (.iconst 1, 1) := by decide +kernel
theorem d_law_1149 : decode code 1149 = .ok (.iadd, 1) := by decide +kernel
theorem d_law_1150 : decode code 1150 = .ok (.iaload, 1) := by decide +kernel
theorem d_law_1151 : decode code 1151 = .ok (.aload_n 0, 1) := by decide +kernel
theorem d_law_1152 : decode code 1152 = .ok (.iload_n 3, 1) := by decide +kernel
theorem d_law_1153 : decode code 1153 = .ok (.iconst 2, 1) := by decide +kernel
theorem d_law_1154 : decode code 1154 = .ok (.iadd, 1) := by decide +kernel
theorem d_law_1155 : decode code 1155 = .ok (.iaload, 1) := by decide +kernel
theorem d_law_1156 : decode code 1156 = .ok (.aload_n 0, 1) := by decide +kernel
theorem d_law_1157 : decode code 1157 = .ok (.iload_n 3, 1) := by decide +kernel
theorem d_law_1158 : decode code 1158 = .ok (.iconst 3, 1) := by decide +kernel
theorem d_law_1159 : decode code 1159 = .ok (.iadd, 1) := by decide +kernel
theorem d_law_1160 : decode code 1160 = .ok (.iaload, 1) := by decide +kernel
theorem d_law_1161 : decode code 1161 = .ok (.ifCond .eq 7, 3) := by decide +kernel
theorem d_law_1164 : decode code 1164 = .ok (.iconst 1, 1) := by decide +kernel
theorem d_law_1165 : decode code 1165 = .ok (.goto 4, 3) := by decide +kernel
theorem d_law_1168 : decode code 1168 = .ok (.iconst 0, 1) := by decide +kernel
theorem d_law_1169 : decode code 1169 = .ok (.invokevirtual 116, 3) := by decide +kernel
theorem d_law_1172 : decode code 1172 = .ok (.lcmp, 1) := by decide +kernel
theorem d_law_1173 : decode code 1173 = .ok (.ifCond .eq 461, 3) := by decide +kernel
theorem d_law_1176 : decode code 1176 = .ok (.iconst 0, 1) := by decide +kernel
theorem d_law_1177 : decode code 1177 = .ok (.ireturn, 1) := by decide +kernel
theorem d_law_1178 : decode code 1178 = .ok (.aload_n 1, 1) := by decide +kernel
theorem d_law_1179 : decode code 1179 = .ok (.aload_n 0, 1) := by decide +kernel
theorem d_law_1180 : decode code 1180 = .ok (.iload_n 3, 1) := by decide +kernel
theorem d_law_1181 : decode code 1181 = .ok (.iconst 1, 1) := by decide +kernel
theorem d_law_1182 : decode code 1182 = .ok (.iadd, 1) := by decide +kernel
theorem d_law_1183 : decode code 1183 = .ok (.iaload, 1) := by decide +kernel
theorem d_law_1184 : decode code 1184 = .ok (.invokevirtual 117, 3) := by decide +kernel
theorem d_law_1187 : decode code 1187 = .ok (.aload_n 2, 1) := by decide +kernel
theorem d_law_1188 : decode code 1188 = .ok (.aload_n 0, 1) := by decide +kernel
theorem d_law_1189 : decode code 1189 = .ok (.iload_n 3, 1) := by decide +kernel
theorem d_law_1190 : decode code 1190 = .ok (.iconst 1, 1) := by decide +kernel
theorem d_law_1191 : decode code 1191 = .ok (.iadd, 1) := by decide +kernel
theorem d_law_1192 : decode code 1192 = .ok (.iaload, 1) := by decide +kernel
theorem d_law_1193 : decode code 1193 = .ok (.invokevirtual 120, 3) := by decide +kernel
theorem d_law_1196 : decode code 1196 = .ok (.if_icmp .eq 438, 3) := by decide +kernel
theorem d_law_1199 : decode code 1199 = .ok (.iconst 0, 1) := by decide +kernel
theorem d_law_1200 : decode code 1200 = .ok (.ireturn, 1) := by decide +kernel
theorem d_law_1201 : decode code 1201 = .ok (.aload_n 1, 1) := by decide +kernel
theorem d_law_1202 : decode code 1202 = .ok (.aload_n 0, 1) := by decide +kernel
theorem d_law_1203 : decode code 1203 = .ok (.iload_n 3, 1) := by decide +kernel
theorem d_law_1204 : decode code 1204 = .ok (.iconst 1, 1) := by decide +kernel
theorem d_law_1205 : decode code 1205 = .ok (.iadd, 1) := by decide +kernel
theorem d_law_1206 : decode code 1206 = .ok (.iaload, 1) := by decide +kernel
theorem d_law_1207 : decode code 1207 = .ok (.aload_n 0, 1) := by decide +kernel
theorem d_law_1208 : decode code 1208 = .ok (.iload_n 3, 1) := by decide +kernel
theorem d_law_1209 : decode code 1209 = .ok (.iconst 2, 1) := by decide +kernel
theorem d_law_1210 : decode code 1210 = .ok (.iadd, 1) := by decide +kernel
theorem d_law_1211 : decode code 1211 = .ok (.iaload, 1) := by decide +kernel
theorem d_law_1212 : decode code 1212 = .ok (.invokevirtual 121, 3) := by decide +kernel
theorem d_law_1215 : decode code 1215 = .ok (.aload_n 2, 1) := by decide +kernel
theorem d_law_1216 : decode code 1216 = .ok (.aload_n 0, 1) := by decide +kernel
theorem d_law_1217 : decode code 1217 = .ok (.iload_n 3, 1) := by decide +kernel
theorem d_law_1218 : decode code 1218 = .ok (.iconst 1, 1) := by decide +kernel
theorem d_law_1219 : decode code 1219 = .ok (.iadd, 1) := by decide +kernel
theorem d_law_1220 : decode code 1220 = .ok (.iaload, 1) := by decide +kernel
theorem d_law_1221 : decode code 1221 = .ok (.aload_n 0, 1) := by decide +kernel
theorem d_law_1222 : decode code 1222 = .ok (.iload_n 3, 1) := by decide +kernel
theorem d_law_1223 : decode code 1223 = .ok (.iconst 2, 1) := by decide +kernel
theorem d_law_1224 : decode code 1224 = .ok (.iadd, 1) := by decide +kernel
theorem d_law_1225 : decode code 1225 = .ok (.iaload, 1) := by decide +kernel
theorem d_law_1226 : decode code 1226 = .ok (.invokevirtual 124, 3) := by decide +kernel
theorem d_law_1229 : decode code 1229 = .ok (.if_icmp .eq 405, 3) := by decide +kernel
theorem d_law_1232 : decode code 1232 = .ok (.iconst 0, 1) := by decide +kernel
theorem d_law_1233 : decode code 1233 = .ok (.ireturn, 1) := by decide +kernel
theorem d_law_1234 : decode code 1234 = .ok (.aload_n 1, 1) := by decide +kernel
theorem d_law_1235 : decode code 1235 = .ok (.aload_n 0, 1) := by decide +kernel
theorem d_law_1236 : decode code 1236 = .ok (.iload_n 3, 1) := by decide +kernel
theorem d_law_1237 : decode code 1237 = .ok (.iconst 1, 1) := by decide +kernel
theorem d_law_1238 : decode code 1238 = .ok (.iadd, 1) := by decide +kernel
theorem d_law_1239 : decode code 1239 = .ok (.iaload, 1) := by decide +kernel
theorem d_law_1240 : decode code 1240 = .ok (.aload_n 0, 1) := by decide +kernel
theorem d_law_1241 : decode code 1241 = .ok (.iload_n 3, 1) := by decide +kernel
theorem d_law_1242 : decode code 1242 = .ok (.iconst 2, 1) := by decide +kernel
theorem d_law_1243 : decode code 1243 = .ok (.iadd, 1) := by decide +kernel
theorem d_law_1244 : decode code 1244 = .ok (.iaload, 1) := by decide +kernel
theorem d_law_1245 : decode code 1245 = .ok (.aload_n 0, 1) := by decide +kernel
theorem d_law_1246 : decode code 1246 = .ok (.iload_n 3, 1) := by decide +kernel
theorem d_law_1247 : decode code 1247 = .ok (.iconst 3, 1) := by decide +kernel
theorem d_law_1248 : decode code 1248 = .ok (.iadd, 1) := by decide +kernel
theorem d_law_1249 : decode code 1249 = .ok (.iaload, 1) := by decide +kernel
theorem d_law_1250 : decode code 1250 = .ok (.invokevirtual 125, 3) := by decide +kernel
theorem d_law_1253 : decode code 1253 = .ok (.aload_n 2, 1) := by decide +kernel
theorem d_law_1254 : decode code 1254 = .ok (.aload_n 0, 1) := by decide +kernel
theorem d_law_1255 : decode code 1255 = .ok (.iload_n 3, 1) := by decide +kernel
theorem d_law_1256 : decode code 1256 = .ok (.iconst 1, 1) := by decide +kernel
theorem d_law_1257 : decode code 1257 = .ok (.iadd, 1) := by decide +kernel
theorem d_law_1258 : decode code 1258 = .ok (.iaload, 1) := by decide +kernel
theorem d_law_1259 : decode code 1259 = .ok (.aload_n 0, 1) := by decide +kernel
theorem d_law_1260 : decode code 1260 = .ok (.iload_n 3, 1) := by decide +kernel
theorem d_law_1261 : decode code 1261 = .ok (.iconst 2, 1) := by decide +kernel
theorem d_law_1262 : decode code 1262 = .ok (.iadd, 1) := by decide +kernel
theorem d_law_1263 : decode code 1263 = .ok (.iaload, 1) := by decide +kernel
theorem d_law_1264 : decode code 1264 = .ok (.aload_n 0, 1) := by decide +kernel
theorem d_law_1265 : decode code 1265 = .ok (.iload_n 3, 1) := by decide +kernel
theorem d_law_1266 : decode code 1266 = .ok (.iconst 3, 1) := by decide +kernel
theorem d_law_1267 : decode code 1267 = .ok (.iadd, 1) := by decide +kernel
theorem d_law_1268 : decode code 1268 = .ok (.iaload, 1) := by decide +kernel
theorem d_law_1269 : decode code 1269 = .ok (.invokevirtual 128, 3) := by decide +kernel
theorem d_law_1272 : decode code 1272 = .ok (.if_icmp .eq 362, 3) := by decide +kernel
theorem d_law_1275 : decode code 1275 = .ok (.iconst 0, 1) := by decide +kernel
theorem d_law_1276 : decode code 1276 = .ok (.ireturn, 1) := by decide +kernel
theorem d_law_1277 : decode code 1277 = .ok (.aload_n 1, 1) := by decide +kernel
theorem d_law_1278 : decode code 1278 = .ok (.aload_n 0, 1) := by decide +kernel
theorem d_law_1279 : decode code 1279 = .ok (.iload_n 3, 1) := by decide +kernel
theorem d_law_1280 : decode code 1280 = .ok (.iconst 1, 1) := by decide +kernel
theorem d_law_1281 : decode code 1281 = .ok (.iadd, 1) := by decide +kernel
theorem d_law_1282 : decode code 1282 = .ok (.iaload, 1) := by decide +kernel
theorem d_law_1283 : decode code 1283 = .ok (.aload_n 0, 1) := by decide +kernel
theorem d_law_1284 : decode code 1284 = .ok (.iload_n 3, 1) := by decide +kernel
theorem d_law_1285 : decode code 1285 = .ok (.iconst 2, 1) := by decide +kernel
theorem d_law_1286 : decode code 1286 = .ok (.iadd, 1) := by decide +kernel
theorem d_law_1287 : decode code 1287 = .ok (.iaload, 1) := by decide +kernel
theorem d_law_1288 : decode code 1288 = .ok (.aload_n 0, 1) := by decide +kernel
theorem d_law_1289 : decode code 1289 = .ok (.iload_n 3, 1) := by decide +kernel
theorem d_law_1290 : decode code 1290 = .ok (.iconst 3, 1) := by decide +kernel
theorem d_law_1291 : decode code 1291 = .ok (.iadd, 1) := by decide +kernel
theorem d_law_1292 : decode code 1292 = .ok (.iaload, 1) := by decide +kernel
theorem d_law_1293 : decode code 1293 = .ok (.invokevirtual 129, 3) := by decide +kernel
theorem d_law_1296 : decode code 1296 = .ok (.aload_n 2, 1) := by decide +kernel
theorem d_law_1297 : decode code 1297 = .ok (.aload_n 0, 1) := by decide +kernel
theorem d_law_1298 : decode code 1298 = .ok (.iload_n 3, 1) := by decide +kernel
theorem d_law_1299 : decode code 1299 = .ok (.iconst 1, 1) := by decide +kernel
theorem d_law_1300 : decode code 1300 = .ok (.iadd, 1) := by decide +kernel
theorem d_law_1301 : decode code 1301 = .ok (.iaload, 1) := by decide +kernel
theorem d_law_1302 : decode code 1302 = .ok (.aload_n 0, 1) := by decide +kernel
theorem d_law_1303 : decode code 1303 = .ok (.iload_n 3, 1) := by decide +kernel
theorem d_law_1304 : decode code 1304 = .ok (.iconst 2, 1) := by decide +kernel
theorem d_law_1305 : decode code 1305 = .ok (.iadd, 1) := by decide +kernel
theorem d_law_1306 : decode code 1306 = .ok (.iaload, 1) := by decide +kernel
theorem d_law_1307 : decode code 1307 = .ok (.aload_n 0, 1) := by decide +kernel
theorem d_law_1308 : decode code 1308 = .ok (.iload_n 3, 1) := by decide +kernel
theorem d_law_1309 : decode code 1309 = .ok (.iconst 3, 1) := by decide +kernel
theorem d_law_1310 : decode code 1310 = .ok (.iadd, 1) := by decide +kernel
theorem d_law_1311 : decode code 1311 = .ok (.iaload, 1) := by decide +kernel
theorem d_law_1312 : decode code 1312 = .ok (.invokevirtual 132, 3) := by decide +kernel
theorem d_law_1315 : decode code 1315 = .ok (.if_icmp .eq 319, 3) := by decide +kernel
theorem d_law_1318 : decode code 1318 = .ok (.iconst 0, 1) := by decide +kernel
theorem d_law_1319 : decode code 1319 = .ok (.ireturn, 1) := by decide +kernel
theorem d_law_1320 : decode code 1320 = .ok (.aload_n 1, 1) := by decide +kernel
theorem d_law_1321 : decode code 1321 = .ok (.aload_n 0, 1) := by decide +kernel
theorem d_law_1322 : decode code 1322 = .ok (.iload_n 3, 1) := by decide +kernel
theorem d_law_1323 : decode code 1323 = .ok (.iconst 1, 1) := by decide +kernel
theorem d_law_1324 : decode code 1324 = .ok (.iadd, 1) := by decide +kernel
theorem d_law_1325 : decode code 1325 = .ok (.iaload, 1) := by decide +kernel
theorem d_law_1326 : decode code 1326 = .ok (.aload_n 0, 1) := by decide +kernel
theorem d_law_1327 : decode code 1327 = .ok (.iload_n 3, 1) := by decide +kernel
theorem d_law_1328 : decode code 1328 = .ok (.iconst 2, 1) := by decide +kernel
theorem d_law_1329 : decode code 1329 = .ok (.iadd, 1) := by decide +kernel
theorem d_law_1330 : decode code 1330 = .ok (.iaload, 1) := by decide +kernel
theorem d_law_1331 : decode code 1331 = .ok (.ifCond .eq 7, 3) := by decide +kernel
theorem d_law_1334 : decode code 1334 = .ok (.iconst 1, 1) := by decide +kernel
theorem d_law_1335 : decode code 1335 = .ok (.goto 4, 3) := by decide +kernel
theorem d_law_1338 : decode code 1338 = .ok (.iconst 0, 1) := by decide +kernel
theorem d_law_1339 : decode code 1339 = .ok (.invokevirtual 133, 3) := by decide +kernel
theorem d_law_1342 : decode code 1342 = .ok (.aload_n 2, 1) := by decide +kernel
theorem d_law_1343 : decode code 1343 = .ok (.aload_n 0, 1) := by decide +kernel
theorem d_law_1344 : decode code 1344 = .ok (.iload_n 3, 1) := by decide +kernel
theorem d_law_1345 : decode code 1345 = .ok (.iconst 1, 1) := by decide +kernel
theorem d_law_1346 : decode code 1346 = .ok (.iadd, 1) := by decide +kernel
theorem d_law_1347 : decode code 1347 = .ok (.iaload, 1) := by decide +kernel
theorem d_law_1348 : decode code 1348 = .ok (.aload_n 0, 1) := by decide +kernel
theorem d_law_1349 : decode code 1349 = .ok (.iload_n 3, 1) := by decide +kernel
theorem d_law_1350 : decode code 1350 = .ok (.iconst 2, 1) := by decide +kernel
theorem d_law_1351 : decode code 1351 = .ok (.iadd, 1) := by decide +kernel
theorem d_law_1352 : decode code 1352 = .ok (.iaload, 1) := by decide +kernel
theorem d_law_1353 : decode code 1353 = .ok (.ifCond .eq 7, 3) := by decide +kernel
theorem d_law_1356 : decode code 1356 = .ok (.iconst 1, 1) := by decide +kernel
theorem d_law_1357 : decode code 1357 = .ok (.goto 4, 3) := by decide +kernel
theorem d_law_1360 : decode code 1360 = .ok (.iconst 0, 1) := by decide +kernel
theorem d_law_1361 : decode code 1361 = .ok (.invokevirtual 136, 3) := by decide +kernel
theorem d_law_1364 : decode code 1364 = .ok (.if_icmp .eq 270, 3) := by decide +kernel
theorem d_law_1367 : decode code 1367 = .ok (.iconst 0, 1) := by decide +kernel
theorem d_law_1368 : decode code 1368 = .ok (.ireturn, 1) := by decide +kernel
theorem d_law_1369 : decode code 1369 = .ok (.aload_n 1, 1) := by decide +kernel
theorem d_law_1370 : decode code 1370 = .ok (.aload_n 0, 1) := by decide +kernel
theorem d_law_1371 : decode code 1371 = .ok (.iload_n 3, 1) := by decide +kernel
theorem d_law_1372 : decode code 1372 = .ok (.iconst 1, 1) := by decide +kernel
theorem d_law_1373 : decode code 1373 = .ok (.iadd, 1) := by decide +kernel
theorem d_law_1374 : decode code 1374 = .ok (.iaload, 1) := by decide +kernel
theorem d_law_1375 : decode code 1375 = .ok (.invokevirtual 137, 3) := by decide +kernel
theorem d_law_1378 : decode code 1378 = .ok (.aload_n 2, 1) := by decide +kernel
theorem d_law_1379 : decode code 1379 = .ok (.aload_n 0, 1) := by decide +kernel
theorem d_law_1380 : decode code 1380 = .ok (.iload_n 3, 1) := by decide +kernel
theorem d_law_1381 : decode code 1381 = .ok (.iconst 1, 1) := by decide +kernel
theorem d_law_1382 : decode code 1382 = .ok (.iadd, 1) := by decide +kernel
theorem d_law_1383 : decode code 1383 = .ok (.iaload, 1) := by decide +kernel
theorem d_law_1384 : decode code 1384 = .ok (.invokevirtual 140, 3) := by decide +kernel
theorem d_law_1387 : decode code 1387 = .ok (.if_icmp .eq 247, 3) := by decide +kernel
theorem d_law_1390 : decode code 1390 = .ok (.iconst 0, 1) := by decide +kernel
theorem d_law_1391 : decode code 1391 = .ok (.ireturn, 1) := by decide +kernel
theorem d_law_1392 : decode code 1392 = .ok (.aload_n 1, 1) := by decide +kernel
theorem d_law_1393 : decode code 1393 = .ok (.aload_n 0, 1) := by decide +kernel
theorem d_law_1394 : decode code 1394 = .ok (.iload_n 3, 1) := by decide +kernel
theorem d_law_1395 : decode code 1395 = .ok (.iconst 1, 1) := by decide +kernel
theorem d_law_1396 : decode code 1396 = .ok (.iadd, 1) := by decide +kernel
theorem d_law_1397 : decode code 1397 = .ok (.iaload, 1) := by decide +kernel
theorem d_law_1398 : decode code 1398 = .ok (.aload_n 0, 1) := by decide +kernel
theorem d_law_1399 : decode code 1399 = .ok (.iload_n 3, 1) := by decide +kernel
theorem d_law_1400 : decode code 1400 = .ok (.iconst 2, 1) := by decide +kernel
theorem d_law_1401 : decode code 1401 = .ok (.iadd, 1) := by decide +kernel
theorem d_law_1402 : decode code 1402 = .ok (.iaload, 1) := by decide +kernel
theorem d_law_1403 : decode code 1403 = .ok (.invokevirtual 141, 3) := by decide +kernel
theorem d_law_1406 : decode code 1406 = .ok (.aload_n 2, 1) := by decide +kernel
theorem d_law_1407 : decode code 1407 = .ok (.aload_n 0, 1) := by decide +kernel
theorem d_law_1408 : decode code 1408 = .ok (.iload_n 3, 1) := by decide +kernel
theorem d_law_1409 : decode code 1409 = .ok (.iconst 1, 1) := by decide +kernel
theorem d_law_1410 : decode code 1410 = .ok (.iadd, 1) := by decide +kernel
theorem d_law_1411 : decode code 1411 = .ok (.iaload, 1) := by decide +kernel
theorem d_law_1412 : decode code 1412 = .ok (.aload_n 0, 1) := by decide +kernel
theorem d_law_1413 : decode code 1413 = .ok (.iload_n 3, 1) := by decide +kernel
theorem d_law_1414 : decode code 1414 = .ok (.iconst 2, 1) := by decide +kernel
theorem d_law_1415 : decode code 1415 = .ok (.iadd, 1) := by decide +kernel
theorem d_law_1416 : decode code 1416 = .ok (.iaload, 1) := by decide +kernel
theorem d_law_1417 : decode code 1417 = .ok (.invokevirtual 144, 3) := by decide +kernel
theorem d_law_1420 : decode code 1420 = .ok (.if_icmp .eq 214, 3) := by decide +kernel
theorem d_law_1423 : decode code 1423 = .ok (.iconst 0, 1) := by decide +kernel
theorem d_law_1424 : decode code 1424 = .ok (.ireturn, 1) := by decide +kernel
theorem d_law_1425 : decode code 1425 = .ok (.aload_n 1, 1) := by decide +kernel
theorem d_law_1426 : decode code 1426 = .ok (.aload_n 0, 1) := by decide +kernel
theorem d_law_1427 : decode code 1427 = .ok (.iload_n 3, 1) := by decide +kernel
theorem d_law_1428 : decode code 1428 = .ok (.iconst 1, 1) := by decide +kernel
theorem d_law_1429 : decode code 1429 = .ok (.iadd, 1) := by decide +kernel
theorem d_law_1430 : decode code 1430 = .ok (.iaload, 1) := by decide +kernel
theorem d_law_1431 : decode code 1431 = .ok (.aload_n 0, 1) := by decide +kernel
theorem d_law_1432 : decode code 1432 = .ok (.iload_n 3, 1) := by decide +kernel
theorem d_law_1433 : decode code 1433 = .ok (.iconst 2, 1) := by decide +kernel
theorem d_law_1434 : decode code 1434 = .ok (.iadd, 1) := by decide +kernel
theorem d_law_1435 : decode code 1435 = .ok (.iaload, 1) := by decide +kernel
theorem d_law_1436 : decode code 1436 = .ok (.invokevirtual 145, 3) := by decide +kernel
theorem d_law_1439 : decode code 1439 = .ok (.aload_n 2, 1) := by decide +kernel
theorem d_law_1440 : decode code 1440 = .ok (.aload_n 0, 1) := by decide +kernel
theorem d_law_1441 : decode code 1441 = .ok (.iload_n 3, 1) := by decide +kernel
theorem d_law_1442 : decode code 1442 = .ok (.iconst 1, 1) := by decide +kernel
theorem d_law_1443 : decode code 1443 = .ok (.iadd, 1) := by decide +kernel
theorem d_law_1444 : decode code 1444 = .ok (.iaload, 1) := by decide +kernel
theorem d_law_1445 : decode code 1445 = .ok (.aload_n 0, 1) := by decide +kernel
theorem d_law_1446 : decode code 1446 = .ok (.iload_n 3, 1) := by decide +kernel
theorem d_law_1447 : decode code 1447 = .ok (.iconst 2, 1) := by decide +kernel
theorem d_law_1448 : decode code 1448 = .ok (.iadd, 1) := by decide +kernel
theorem d_law_1449 : decode code 1449 = .ok (.iaload, 1) := by decide +kernel
theorem d_law_1450 : decode code 1450 = .ok (.invokevirtual 148, 3) := by decide +kernel
theorem d_law_1453 : decode code 1453 = .ok (.if_icmp .eq 181, 3) := by decide +kernel
theorem d_law_1456 : decode code 1456 = .ok (.iconst 0, 1) := by decide +kernel
theorem d_law_1457 : decode code 1457 = .ok (.ireturn, 1) := by decide +kernel
theorem d_law_1458 : decode code 1458 = .ok (.aload_n 1, 1) := by decide +kernel
theorem d_law_1459 : decode code 1459 = .ok (.aload_n 0, 1) := by decide +kernel
theorem d_law_1460 : decode code 1460 = .ok (.iload_n 3, 1) := by decide +kernel
theorem d_law_1461 : decode code 1461 = .ok (.iconst 1, 1) := by decide +kernel
theorem d_law_1462 : decode code 1462 = .ok (.iadd, 1) := by decide +kernel
theorem d_law_1463 : decode code 1463 = .ok (.iaload, 1) := by decide +kernel
theorem d_law_1464 : decode code 1464 = .ok (.aload_n 0, 1) := by decide +kernel
theorem d_law_1465 : decode code 1465 = .ok (.iload_n 3, 1) := by decide +kernel
theorem d_law_1466 : decode code 1466 = .ok (.iconst 2, 1) := by decide +kernel
theorem d_law_1467 : decode code 1467 = .ok (.iadd, 1) := by decide +kernel
theorem d_law_1468 : decode code 1468 = .ok (.iaload, 1) := by decide +kernel
theorem d_law_1469 : decode code 1469 = .ok (.aload_n 0, 1) := by decide +kernel
theorem d_law_1470 : decode code 1470 = .ok (.iload_n 3, 1) := by decide +kernel
theorem d_law_1471 : decode code 1471 = .ok (.iconst 3, 1) := by decide +kernel
theorem d_law_1472 : decode code 1472 = .ok (.iadd, 1) := by decide +kernel
theorem d_law_1473 : decode code 1473 = .ok (.iaload, 1) := by decide +kernel
theorem d_law_1474 : decode code 1474 = .ok (.ifCond .eq 7, 3) := by decide +kernel
theorem d_law_1477 : decode code 1477 = .ok (.iconst 1, 1) := by decide +kernel
theorem d_law_1478 : decode code 1478 = .ok (.goto 4, 3) := by decide +kernel
theorem d_law_1481 : decode code 1481 = .ok (.iconst 0, 1) := by decide +kernel
theorem d_law_1482 : decode code 1482 = .ok (.invokevirtual 149, 3) := by decide +kernel
theorem d_law_1485 : decode code 1485 = .ok (.aload_n 2, 1) := by decide +kernel
theorem d_law_1486 : decode code 1486 = .ok (.aload_n 0, 1) := by decide +kernel
theorem d_law_1487 : decode code 1487 = .ok (.iload_n 3, 1) := by decide +kernel
theorem d_law_1488 : decode code 1488 = .ok (.iconst 1, 1) := by decide +kernel
theorem d_law_1489 : decode code 1489 = .ok (.iadd, 1) := by decide +kernel
theorem d_law_1490 : decode code 1490 = .ok (.iaload, 1) := by decide +kernel
theorem d_law_1491 : decode code 1491 = .ok (.aload_n 0, 1) := by decide +kernel
theorem d_law_1492 : decode code 1492 = .ok (.iload_n 3, 1) := by decide +kernel
theorem d_law_1493 : decode code 1493 = .ok (.iconst 2, 1) := by decide +kernel
theorem d_law_1494 : decode code 1494 = .ok (.iadd, 1) := by decide +kernel
theorem d_law_1495 : decode code 1495 = .ok (.iaload, 1) := by decide +kernel
theorem d_law_1496 : decode code 1496 = .ok (.aload_n 0, 1) := by decide +kernel
theorem d_law_1497 : decode code 1497 = .ok (.iload_n 3, 1) := by decide +kernel
theorem d_law_1498 : decode code 1498 = .ok (.iconst 3, 1) := by decide +kernel
theorem d_law_1499 : decode code 1499 = .ok (.iadd, 1) := by decide +kernel
theorem d_law_1500 : decode code 1500 = .ok (.iaload, 1) := by decide +kernel
theorem d_law_1501 : decode code 1501 = .ok (.ifCond .eq 7, 3) := by decide +kernel
theorem d_law_1504 : decode code 1504 = .ok (.iconst 1, 1) := by decide +kernel
theorem d_law_1505 : decode code 1505 = .ok (.goto 4, 3) := by decide +kernel
theorem d_law_1508 : decode code 1508 = .ok (.iconst 0, 1) := by decide +kernel
theorem d_law_1509 : decode code 1509 = .ok (.invokevirtual 152, 3) := by decide +kernel
theorem d_law_1512 : decode code 1512 = .ok (.lcmp, 1) := by decide +kernel
theorem d_law_1513 : decode code 1513 = .ok (.ifCond .eq 121, 3) := by decide +kernel
theorem d_law_1516 : decode code 1516 = .ok (.iconst 0, 1) := by decide +kernel
theorem d_law_1517 : decode code 1517 = .ok (.ireturn, 1) := by decide +kernel
theorem d_law_1518 : decode code 1518 = .ok (.aload_n 1, 1) := by decide +kernel
theorem d_law_1519 : decode code 1519 = .ok (.aload_n 0, 1) := by decide +kernel
theorem d_law_1520 : decode code 1520 = .ok (.iload_n 3, 1) := by decide +kernel
theorem d_law_1521 : decode code 1521 = .ok (.iconst 1, 1) := by decide +kernel
theorem d_law_1522 : decode code 1522 = .ok (.iadd, 1) := by decide +kernel
theorem d_law_1523 : decode code 1523 = .ok (.iaload, 1) := by decide +kernel
theorem d_law_1524 : decode code 1524 = .ok (.aload_n 0, 1) := by decide +kernel
theorem d_law_1525 : decode code 1525 = .ok (.iload_n 3, 1) := by decide +kernel
theorem d_law_1526 : decode code 1526 = .ok (.iconst 2, 1) := by decide +kernel
theorem d_law_1527 : decode code 1527 = .ok (.iadd, 1) := by decide +kernel
theorem d_law_1528 : decode code 1528 = .ok (.iaload, 1) := by decide +kernel
theorem d_law_1529 : decode code 1529 = .ok (.aload_n 0, 1) := by decide +kernel
theorem d_law_1530 : decode code 1530 = .ok (.iload_n 3, 1) := by decide +kernel
theorem d_law_1531 : decode code 1531 = .ok (.iconst 3, 1) := by decide +kernel
theorem d_law_1532 : decode code 1532 = .ok (.iadd, 1) := by decide +kernel
theorem d_law_1533 : decode code 1533 = .ok (.iaload, 1) := by decide +kernel
theorem d_law_1534 : decode code 1534 = .ok (.aload_n 0, 1) := by decide +kernel
theorem d_law_1535 : decode code 1535 = .ok (.iload_n 3, 1) := by decide +kernel
theorem d_law_1536 : decode code 1536 = .ok (.iconst 4, 1) := by decide +kernel
theorem d_law_1537 : decode code 1537 = .ok (.iadd, 1) := by decide +kernel
theorem d_law_1538 : decode code 1538 = .ok (.iaload, 1) := by decide +kernel
theorem d_law_1539 : decode code 1539 = .ok (.ifCond .eq 7, 3) := by decide +kernel
theorem d_law_1542 : decode code 1542 = .ok (.iconst 1, 1) := by decide +kernel
theorem d_law_1543 : decode code 1543 = .ok (.goto 4, 3) := by decide +kernel
theorem d_law_1546 : decode code 1546 = .ok (.iconst 0, 1) := by decide +kernel
theorem d_law_1547 : decode code 1547 = .ok (.invokevirtual 153, 3) := by decide +kernel
theorem d_law_1550 : decode code 1550 = .ok (.aload_n 2, 1) := by decide +kernel
theorem d_law_1551 : decode code 1551 = .ok (.aload_n 0, 1) := by decide +kernel
theorem d_law_1552 : decode code 1552 = .ok (.iload_n 3, 1) := by decide +kernel
theorem d_law_1553 : decode code 1553 = .ok (.iconst 1, 1) := by decide +kernel
theorem d_law_1554 : decode code 1554 = .ok (.iadd, 1) := by decide +kernel
theorem d_law_1555 : decode code 1555 = .ok (.iaload, 1) := by decide +kernel
theorem d_law_1556 : decode code 1556 = .ok (.aload_n 0, 1) := by decide +kernel
theorem d_law_1557 : decode code 1557 = .ok (.iload_n 3, 1) := by decide +kernel
theorem d_law_1558 : decode code 1558 = .ok (.iconst 2, 1) := by decide +kernel
theorem d_law_1559 : decode code 1559 = .ok (.iadd, 1) := by decide +kernel
theorem d_law_1560 : decode code 1560 = .ok (.iaload, 1) := by decide +kernel
theorem d_law_1561 : decode code 1561 = .ok (.aload_n 0, 1) := by decide +kernel
theorem d_law_1562 : decode code 1562 = .ok (.iload_n 3, 1) := by decide +kernel
theorem d_law_1563 : decode code 1563 = .ok (.iconst 3, 1) := by decide +kernel
theorem d_law_1564 : decode code 1564 = .ok (.iadd, 1) := by decide +kernel
theorem d_law_1565 : decode code 1565 = .ok (.iaload, 1) := by decide +kernel
theorem d_law_1566 : decode code 1566 = .ok (.aload_n 0, 1) := by decide +kernel
theorem d_law_1567 : decode code 1567 = .ok (.iload_n 3, 1) := by decide +kernel
theorem d_law_1568 : decode code 1568 = .ok (.iconst 4, 1) := by decide +kernel
theorem d_law_1569 : decode code 1569 = .ok (.iadd, 1) := by decide +kernel
theorem d_law_1570 : decode code 1570 = .ok (.iaload, 1) := by decide +kernel
theorem d_law_1571 : decode code 1571 = .ok (.ifCond .eq 7, 3) := by decide +kernel
theorem d_law_1574 : decode code 1574 = .ok (.iconst 1, 1) := by decide +kernel
theorem d_law_1575 : decode code 1575 = .ok (.goto 4, 3) := by decide +kernel
theorem d_law_1578 : decode code 1578 = .ok (.iconst 0, 1) := by decide +kernel
theorem d_law_1579 : decode code 1579 = .ok (.invokevirtual 157, 3) := by decide +kernel
theorem d_law_1582 : decode code 1582 = .ok (.lcmp, 1) := by decide +kernel
theorem d_law_1583 : decode code 1583 = .ok (.ifCond .eq 51, 3) := by decide +kernel
theorem d_law_1586 : decode code 1586 = .ok (.iconst 0, 1) := by decide +kernel
theorem d_law_1587 : decode code 1587 = .ok (.ireturn, 1) := by decide +kernel
theorem d_law_1588 : decode code 1588 = .ok (.aload_n 1, 1) := by decide +kernel
theorem d_law_1589 : decode code 1589 = .ok (.aload_n 0, 1) := by decide +kernel
theorem d_law_1590 : decode code 1590 = .ok (.iload_n 3, 1) := by decide +kernel
theorem d_law_1591 : decode code 1591 = .ok (.iconst 1, 1) := by decide +kernel
theorem d_law_1592 : decode code 1592 = .ok (.iadd, 1) := by decide +kernel
theorem d_law_1593 : decode code 1593 = .ok (.iaload, 1) := by decide +kernel
theorem d_law_1594 : decode code 1594 = .ok (.invokevirtual 158, 3) := by decide +kernel
theorem d_law_1597 : decode code 1597 = .ok (.aload_n 2, 1) := by decide +kernel
theorem d_law_1598 : decode code 1598 = .ok (.aload_n 0, 1) := by decide +kernel
theorem d_law_1599 : decode code 1599 = .ok (.iload_n 3, 1) := by decide +kernel
theorem d_law_1600 : decode code 1600 = .ok (.iconst 1, 1) := by decide +kernel
theorem d_law_1601 : decode code 1601 = .ok (.iadd, 1) := by decide +kernel
theorem d_law_1602 : decode code 1602 = .ok (.iaload, 1) := by decide +kernel
theorem d_law_1603 : decode code 1603 = .ok (.invokevirtual 161, 3) := by decide +kernel
theorem d_law_1606 : decode code 1606 = .ok (.if_icmp .eq 28, 3) := by decide +kernel
theorem d_law_1609 : decode code 1609 = .ok (.iconst 0, 1) := by decide +kernel
theorem d_law_1610 : decode code 1610 = .ok (.ireturn, 1) := by decide +kernel
theorem d_law_1611 : decode code 1611 = .ok (.aload_n 1, 1) := by decide +kernel
theorem d_law_1612 : decode code 1612 = .ok (.aload_n 0, 1) := by decide +kernel
theorem d_law_1613 : decode code 1613 = .ok (.iload_n 3, 1) := by decide +kernel
theorem d_law_1614 : decode code 1614 = .ok (.iconst 1, 1) := by decide +kernel
theorem d_law_1615 : decode code 1615 = .ok (.iadd, 1) := by decide +kernel
theorem d_law_1616 : decode code 1616 = .ok (.iaload, 1) := by decide +kernel
theorem d_law_1617 : decode code 1617 = .ok (.invokevirtual 162, 3) := by decide +kernel
theorem d_law_1620 : decode code 1620 = .ok (.aload_n 2, 1) := by decide +kernel
theorem d_law_1621 : decode code 1621 = .ok (.aload_n 0, 1) := by decide +kernel
theorem d_law_1622 : decode code 1622 = .ok (.iload_n 3, 1) := by decide +kernel
theorem d_law_1623 : decode code 1623 = .ok (.iconst 1, 1) := by decide +kernel
theorem d_law_1624 : decode code 1624 = .ok (.iadd, 1) := by decide +kernel
theorem d_law_1625 : decode code 1625 = .ok (.iaload, 1) := by decide +kernel
theorem d_law_1626 : decode code 1626 = .ok (.invokevirtual 165, 3) := by decide +kernel
theorem d_law_1629 : decode code 1629 = .ok (.if_icmp .eq 5, 3) := by decide +kernel
theorem d_law_1632 : decode code 1632 = .ok (.iconst 0, 1) := by decide +kernel
theorem d_law_1633 : decode code 1633 = .ok (.ireturn, 1) := by decide +kernel
theorem d_law_1634 : decode code 1634 = .ok (.iinc 3 6, 3) := by decide +kernel
theorem d_law_1637 : decode code 1637 = .ok (.goto (-1619), 3) := by decide +kernel
theorem d_law_1640 : decode code 1640 = .ok (.iconst 1, 1) := by decide +kernel
theorem d_law_1641 : decode code 1641 = .ok (.ireturn, 1) := by decide +kernel
