/-! the law: cases -/
theorem r_316_910 : row 316 910 = some (.aload_n 1, 911, 0, 0, 0, 0) := rfl
theorem r_316_911 : row 316 911 = some (.aload_n 0, 912, 0, 0, 0, 0) := rfl
theorem r_316_912 : row 316 912 = some (.iload_n 3, 913, 0, 0, 0, 0) := rfl
theorem r_316_913 : row 316 913 = some (.iconst 1, 914, 1, 0, 0, 0) := rfl
theorem r_316_914 : row 316 914 = some (.iadd, 915, 0, 0, 0, 0) := rfl
theorem r_316_915 : row 316 915 = some (.iaload, 916, 0, 0, 0, 0) := rfl
theorem r_316_916 : row 316 916 = some (.aload_n 0, 917, 0, 0, 0, 0) := rfl
theorem r_316_917 : row 316 917 = some (.iload_n 3, 918, 0, 0, 0, 0) := rfl
theorem r_316_918 : row 316 918 = some (.iconst 2, 919, 2, 0, 0, 0) := rfl
theorem r_316_919 : row 316 919 = some (.iadd, 920, 0, 0, 0, 0) := rfl
theorem r_316_920 : row 316 920 = some (.iaload, 921, 0, 0, 0, 0) := rfl
theorem r_316_921 : row 316 921 = some (.invokevirtual 113, 924, 27, 2, 0, 4139) := rfl
theorem r_316_924 : row 316 924 = some (.pop, 925, 0, 0, 0, 0) := rfl
theorem r_316_925 : row 316 925 = some (.aload_n 2, 926, 0, 0, 0, 0) := rfl
theorem r_316_926 : row 316 926 = some (.aload_n 0, 927, 0, 0, 0, 0) := rfl
theorem r_316_927 : row 316 927 = some (.iload_n 3, 928, 0, 0, 0, 0) := rfl
theorem r_316_928 : row 316 928 = some (.iconst 1, 929, 1, 0, 0, 0) := rfl
theorem r_316_929 : row 316 929 = some (.iadd, 930, 0, 0, 0, 0) := rfl
theorem r_316_930 : row 316 930 = some (.iaload, 931, 0, 0, 0, 0) := rfl
theorem r_316_931 : row 316 931 = some (.aload_n 0, 932, 0, 0, 0, 0) := rfl
theorem r_316_932 : row 316 932 = some (.iload_n 3, 933, 0, 0, 0, 0) := rfl
theorem r_316_933 : row 316 933 = some (.iconst 2, 934, 2, 0, 0, 0) := rfl
theorem r_316_934 : row 316 934 = some (.iadd, 935, 0, 0, 0, 0) := rfl
theorem r_316_935 : row 316 935 = some (.iaload, 936, 0, 0, 0, 0) := rfl
theorem r_316_936 : row 316 936 = some (.invokevirtual 116, 939, 165, 2, 0, 7218) := rfl
theorem r_316_939 : row 316 939 = some (.pop, 940, 0, 0, 0, 0) := rfl
theorem r_316_940 : row 316 940 = some (.goto 1158, 943, 2098, 0, 0, 0) := rfl
theorem r_316_943 : row 316 943 = some (.aload_n 1, 944, 0, 0, 0, 0) := rfl
theorem r_316_944 : row 316 944 = some (.aload_n 0, 945, 0, 0, 0, 0) := rfl
theorem r_316_945 : row 316 945 = some (.iload_n 3, 946, 0, 0, 0, 0) := rfl
theorem r_316_946 : row 316 946 = some (.iconst 1, 947, 1, 0, 0, 0) := rfl
theorem r_316_947 : row 316 947 = some (.iadd, 948, 0, 0, 0, 0) := rfl
theorem r_316_948 : row 316 948 = some (.iaload, 949, 0, 0, 0, 0) := rfl
theorem r_316_949 : row 316 949 = some (.invokevirtual 117, 952, 28, 1, 0, 4146) := rfl
theorem r_316_952 : row 316 952 = some (.pop, 953, 0, 0, 0, 0) := rfl
theorem r_316_953 : row 316 953 = some (.aload_n 2, 954, 0, 0, 0, 0) := rfl
theorem r_316_954 : row 316 954 = some (.aload_n 0, 955, 0, 0, 0, 0) := rfl
theorem r_316_955 : row 316 955 = some (.iload_n 3, 956, 0, 0, 0, 0) := rfl
theorem r_316_956 : row 316 956 = some (.iconst 1, 957, 1, 0, 0, 0) := rfl
theorem r_316_957 : row 316 957 = some (.iadd, 958, 0, 0, 0, 0) := rfl
theorem r_316_958 : row 316 958 = some (.iaload, 959, 0, 0, 0, 0) := rfl
theorem r_316_959 : row 316 959 = some (.invokevirtual 120, 962, 169, 1, 0, 7236) := rfl
theorem r_316_962 : row 316 962 = some (.pop, 963, 0, 0, 0, 0) := rfl
theorem r_316_963 : row 316 963 = some (.goto 1135, 966, 2098, 0, 0, 0) := rfl
theorem r_316_966 : row 316 966 = some (.aload_n 1, 967, 0, 0, 0, 0) := rfl
theorem r_316_967 : row 316 967 = some (.aload_n 0, 968, 0, 0, 0, 0) := rfl
theorem r_316_968 : row 316 968 = some (.iload_n 3, 969, 0, 0, 0, 0) := rfl
theorem r_316_969 : row 316 969 = some (.iconst 1, 970, 1, 0, 0, 0) := rfl
theorem r_316_970 : row 316 970 = some (.iadd, 971, 0, 0, 0, 0) := rfl
theorem r_316_971 : row 316 971 = some (.iaload, 972, 0, 0, 0, 0) := rfl
theorem r_316_972 : row 316 972 = some (.invokevirtual 121, 975, 29, 1, 0, 4150) := rfl
theorem r_316_975 : row 316 975 = some (.pop, 976, 0, 0, 0, 0) := rfl
theorem r_316_976 : row 316 976 = some (.aload_n 2, 977, 0, 0, 0, 0) := rfl
theorem r_316_977 : row 316 977 = some (.aload_n 0, 978, 0, 0, 0, 0) := rfl
theorem r_316_978 : row 316 978 = some (.iload_n 3, 979, 0, 0, 0, 0) := rfl
theorem r_316_979 : row 316 979 = some (.iconst 1, 980, 1, 0, 0, 0) := rfl
theorem r_316_980 : row 316 980 = some (.iadd, 981, 0, 0, 0, 0) := rfl
theorem r_316_981 : row 316 981 = some (.iaload, 982, 0, 0, 0, 0) := rfl
theorem r_316_982 : row 316 982 = some (.invokevirtual 124, 985, 167, 1, 0, 7228) := rfl
theorem r_316_985 : row 316 985 = some (.pop, 986, 0, 0, 0, 0) := rfl
theorem r_316_986 : row 316 986 = some (.goto 1112, 989, 2098, 0, 0, 0) := rfl
theorem r_316_989 : row 316 989 = some (.aload_n 1, 990, 0, 0, 0, 0) := rfl
theorem r_316_990 : row 316 990 = some (.aload_n 0, 991, 0, 0, 0, 0) := rfl
theorem r_316_991 : row 316 991 = some (.iload_n 3, 992, 0, 0, 0, 0) := rfl
theorem r_316_992 : row 316 992 = some (.iconst 1, 993, 1, 0, 0, 0) := rfl
theorem r_316_993 : row 316 993 = some (.iadd, 994, 0, 0, 0, 0) := rfl
theorem r_316_994 : row 316 994 = some (.iaload, 995, 0, 0, 0, 0) := rfl
theorem r_316_995 : row 316 995 = some (.invokevirtual 125, 998, 30, 1, 0, 4154) := rfl
theorem r_316_998 : row 316 998 = some (.pop, 999, 0, 0, 0, 0) := rfl
theorem r_316_999 : row 316 999 = some (.aload_n 2, 1000, 0, 0, 0, 0) := rfl
theorem r_316_1000 : row 316 1000 = some (.aload_n 0, 1001, 0, 0, 0, 0) := rfl
theorem r_316_1001 : row 316 1001 = some (.iload_n 3, 1002, 0, 0, 0, 0) := rfl
theorem r_316_1002 : row 316 1002 = some (.iconst 1, 1003, 1, 0, 0, 0) := rfl
theorem r_316_1003 : row 316 1003 = some (.iadd, 1004, 0, 0, 0, 0) := rfl
theorem r_316_1004 : row 316 1004 = some (.iaload, 1005, 0, 0, 0, 0) := rfl
theorem r_316_1005 : row 316 1005 = some (.invokevirtual 128, 1008, 170, 1, 0, 8003) := rfl
theorem r_316_1008 : row 316 1008 = some (.pop, 1009, 0, 0, 0, 0) := rfl
theorem r_316_1009 : row 316 1009 = some (.goto 1089, 1012, 2098, 0, 0, 0) := rfl
theorem r_316_1012 : row 316 1012 = some (.aload_n 1, 1013, 0, 0, 0, 0) := rfl
theorem r_316_1013 : row 316 1013 = some (.aload_n 0, 1014, 0, 0, 0, 0) := rfl
theorem r_316_1014 : row 316 1014 = some (.iload_n 3, 1015, 0, 0, 0, 0) := rfl
theorem r_316_1015 : row 316 1015 = some (.iconst 1, 1016, 1, 0, 0, 0) := rfl
theorem r_316_1016 : row 316 1016 = some (.iadd, 1017, 0, 0, 0, 0) := rfl
theorem r_316_1017 : row 316 1017 = some (.iaload, 1018, 0, 0, 0, 0) := rfl
theorem r_316_1018 : row 316 1018 = some (.invokevirtual 129, 1021, 31, 1, 0, 4158) := rfl
theorem r_316_1021 : row 316 1021 = some (.pop, 1022, 0, 0, 0, 0) := rfl
theorem r_316_1022 : row 316 1022 = some (.aload_n 2, 1023, 0, 0, 0, 0) := rfl
theorem r_316_1023 : row 316 1023 = some (.aload_n 0, 1024, 0, 0, 0, 0) := rfl
theorem r_316_1024 : row 316 1024 = some (.iload_n 3, 1025, 0, 0, 0, 0) := rfl
theorem r_316_1025 : row 316 1025 = some (.iconst 1, 1026, 1, 0, 0, 0) := rfl
theorem r_316_1026 : row 316 1026 = some (.iadd, 1027, 0, 0, 0, 0) := rfl
theorem r_316_1027 : row 316 1027 = some (.iaload, 1028, 0, 0, 0, 0) := rfl
theorem r_316_1028 : row 316 1028 = some (.invokevirtual 132, 1031, 171, 1, 0, 8007) := rfl
theorem r_316_1031 : row 316 1031 = some (.pop, 1032, 0, 0, 0, 0) := rfl
theorem r_316_1032 : row 316 1032 = some (.goto 1066, 1035, 2098, 0, 0, 0) := rfl
theorem r_316_1035 : row 316 1035 = some (.aload_n 1, 1036, 0, 0, 0, 0) := rfl
theorem r_316_1036 : row 316 1036 = some (.invokevirtual 133, 1039, 32, 0, 0, 4163) := rfl
theorem r_316_1039 : row 316 1039 = some (.pop, 1040, 0, 0, 0, 0) := rfl
theorem r_316_1040 : row 316 1040 = some (.aload_n 2, 1041, 0, 0, 0, 0) := rfl
theorem r_316_1041 : row 316 1041 = some (.invokevirtual 136, 1044, 172, 0, 0, 8011) := rfl
theorem r_316_1044 : row 316 1044 = some (.pop, 1045, 0, 0, 0, 0) := rfl
theorem r_316_1045 : row 316 1045 = some (.goto 1053, 1048, 2098, 0, 0, 0) := rfl
theorem r_316_1048 : row 316 1048 = some (.aload_n 1, 1049, 0, 0, 0, 0) := rfl
theorem r_316_1049 : row 316 1049 = some (.aload_n 0, 1050, 0, 0, 0, 0) := rfl
theorem r_316_1050 : row 316 1050 = some (.iload_n 3, 1051, 0, 0, 0, 0) := rfl
theorem r_316_1051 : row 316 1051 = some (.iconst 1, 1052, 1, 0, 0, 0) := rfl
theorem r_316_1052 : row 316 1052 = some (.iadd, 1053, 0, 0, 0, 0) := rfl
theorem r_316_1053 : row 316 1053 = some (.iaload, 1054, 0, 0, 0, 0) := rfl
theorem r_316_1054 : row 316 1054 = some (.invokevirtual 137, 1057, 34, 1, 0, 4171) := rfl
theorem r_316_1057 : row 316 1057 = some (.pop, 1058, 0, 0, 0, 0) := rfl
theorem r_316_1058 : row 316 1058 = some (.aload_n 2, 1059, 0, 0, 0, 0) := rfl
theorem r_316_1059 : row 316 1059 = some (.aload_n 0, 1060, 0, 0, 0, 0) := rfl
theorem r_316_1060 : row 316 1060 = some (.iload_n 3, 1061, 0, 0, 0, 0) := rfl
theorem r_316_1061 : row 316 1061 = some (.iconst 1, 1062, 1, 0, 0, 0) := rfl
theorem r_316_1062 : row 316 1062 = some (.iadd, 1063, 0, 0, 0, 0) := rfl
theorem r_316_1063 : row 316 1063 = some (.iaload, 1064, 0, 0, 0, 0) := rfl
theorem r_316_1064 : row 316 1064 = some (.invokevirtual 140, 1067, 176, 1, 0, 8019) := rfl
theorem r_316_1067 : row 316 1067 = some (.pop, 1068, 0, 0, 0, 0) := rfl
theorem r_316_1068 : row 316 1068 = some (.goto 1030, 1071, 2098, 0, 0, 0) := rfl
theorem r_316_1071 : row 316 1071 = some (.aload_n 1, 1072, 0, 0, 0, 0) := rfl
theorem r_316_1072 : row 316 1072 = some (.invokevirtual 141, 1075, 35, 0, 0, 4179) := rfl
theorem r_316_1075 : row 316 1075 = some (.pop, 1076, 0, 0, 0, 0) := rfl
theorem r_316_1076 : row 316 1076 = some (.aload_n 2, 1077, 0, 0, 0, 0) := rfl
theorem r_316_1077 : row 316 1077 = some (.invokevirtual 144, 1080, 177, 0, 0, 8031) := rfl
theorem r_316_1080 : row 316 1080 = some (.pop, 1081, 0, 0, 0, 0) := rfl
theorem r_316_1081 : row 316 1081 = some (.goto 1017, 1084, 2098, 0, 0, 0) := rfl
theorem r_316_1084 : row 316 1084 = some (.aload_n 1, 1085, 0, 0, 0, 0) := rfl
theorem r_316_1085 : row 316 1085 = some (.aload_n 0, 1086, 0, 0, 0, 0) := rfl
theorem r_316_1086 : row 316 1086 = some (.iload_n 3, 1087, 0, 0, 0, 0) := rfl
theorem r_316_1087 : row 316 1087 = some (.iconst 1, 1088, 1, 0, 0, 0) := rfl
theorem r_316_1088 : row 316 1088 = some (.iadd, 1089, 0, 0, 0, 0) := rfl
theorem r_316_1089 : row 316 1089 = some (.iaload, 1090, 0, 0, 0, 0) := rfl
theorem r_316_1090 : row 316 1090 = some (.invokevirtual 145, 1093, 12, 1, 0, 4058) := rfl
theorem r_316_1093 : row 316 1093 = some (.pop, 1094, 0, 0, 0, 0) := rfl
theorem r_316_1094 : row 316 1094 = some (.aload_n 2, 1095, 0, 0, 0, 0) := rfl
theorem r_316_1095 : row 316 1095 = some (.aload_n 0, 1096, 0, 0, 0, 0) := rfl
theorem r_316_1096 : row 316 1096 = some (.iload_n 3, 1097, 0, 0, 0, 0) := rfl
theorem r_316_1097 : row 316 1097 = some (.iconst 1, 1098, 1, 0, 0, 0) := rfl
theorem r_316_1098 : row 316 1098 = some (.iadd, 1099, 0, 0, 0, 0) := rfl
theorem r_316_1099 : row 316 1099 = some (.iaload, 1100, 0, 0, 0, 0) := rfl
theorem r_316_1100 : row 316 1100 = some (.invokevirtual 148, 1103, 129, 1, 0, 7058) := rfl
theorem r_316_1103 : row 316 1103 = some (.pop, 1104, 0, 0, 0, 0) := rfl
theorem r_316_1104 : row 316 1104 = some (.goto 994, 1107, 2098, 0, 0, 0) := rfl
theorem r_316_1107 : row 316 1107 = some (.aload_n 1, 1108, 0, 0, 0, 0) := rfl
theorem r_316_1108 : row 316 1108 = some (.invokevirtual 149, 1111, 13, 0, 0, 4066) := rfl
theorem r_316_1111 : row 316 1111 = some (.pop, 1112, 0, 0, 0, 0) := rfl
theorem r_316_1112 : row 316 1112 = some (.aload_n 2, 1113, 0, 0, 0, 0) := rfl
theorem r_316_1113 : row 316 1113 = some (.invokevirtual 152, 1116, 130, 0, 0, 7062) := rfl
theorem r_316_1116 : row 316 1116 = some (.pop, 1117, 0, 0, 0, 0) := rfl
theorem r_316_1117 : row 316 1117 = some (.goto 981, 1120, 2098, 0, 0, 0) := rfl
theorem r_316_1120 : row 316 1120 = some (.aload_n 1, 1121, 0, 0, 0, 0) := rfl
theorem r_316_1121 : row 316 1121 = some (.aload_n 0, 1122, 0, 0, 0, 0) := rfl
theorem r_316_1122 : row 316 1122 = some (.iload_n 3, 1123, 0, 0, 0, 0) := rfl
theorem r_316_1123 : row 316 1123 = some (.iconst 1, 1124, 1, 0, 0, 0) := rfl
theorem r_316_1124 : row 316 1124 = some (.iadd, 1125, 0, 0, 0, 0) := rfl
theorem r_316_1125 : row 316 1125 = some (.iaload, 1126, 0, 0, 0, 0) := rfl
theorem r_316_1126 : row 316 1126 = some (.invokevirtual 153, 1129, 33, 1, 0, 4167) := rfl
theorem r_316_1129 : row 316 1129 = some (.pop, 1130, 0, 0, 0, 0) := rfl
theorem r_316_1130 : row 316 1130 = some (.aload_n 2, 1131, 0, 0, 0, 0) := rfl
theorem r_316_1131 : row 316 1131 = some (.aload_n 0, 1132, 0, 0, 0, 0) := rfl
theorem r_316_1132 : row 316 1132 = some (.iload_n 3, 1133, 0, 0, 0, 0) := rfl
theorem r_316_1133 : row 316 1133 = some (.iconst 1, 1134, 1, 0, 0, 0) := rfl
theorem r_316_1134 : row 316 1134 = some (.iadd, 1135, 0, 0, 0, 0) := rfl
theorem r_316_1135 : row 316 1135 = some (.iaload, 1136, 0, 0, 0, 0) := rfl
theorem r_316_1136 : row 316 1136 = some (.invokevirtual 156, 1139, 173, 1, 0, 8015) := rfl
theorem r_316_1139 : row 316 1139 = some (.pop, 1140, 0, 0, 0, 0) := rfl
theorem r_316_1140 : row 316 1140 = some (.goto 958, 1143, 2098, 0, 0, 0) := rfl
theorem r_316_1143 : row 316 1143 = some (.aload_n 1, 1144, 0, 0, 0, 0) := rfl
theorem r_316_1144 : row 316 1144 = some (.invokevirtual 157, 1147, 38, 0, 0, 4195) := rfl
theorem r_316_1147 : row 316 1147 = some (.pop, 1148, 0, 0, 0, 0) := rfl
theorem r_316_1148 : row 316 1148 = some (.aload_n 2, 1149, 0, 0, 0, 0) := rfl
theorem r_316_1149 : row 316 1149 = some (.invokevirtual 160, 1152, 183, 0, 0, 8035) := rfl
theorem r_316_1152 : row 316 1152 = some (.pop, 1153, 0, 0, 0, 0) := rfl
theorem r_316_1153 : row 316 1153 = some (.goto 945, 1156, 2098, 0, 0, 0) := rfl
theorem r_316_1156 : row 316 1156 = some (.aload_n 1, 1157, 0, 0, 0, 0) := rfl
theorem r_316_1157 : row 316 1157 = some (.invokevirtual 161, 1160, 39, 0, 0, 4236) := rfl
theorem r_316_1160 : row 316 1160 = some (.pop, 1161, 0, 0, 0, 0) := rfl
theorem r_316_1161 : row 316 1161 = some (.aload_n 2, 1162, 0, 0, 0, 0) := rfl
theorem r_316_1162 : row 316 1162 = some (.invokevirtual 164, 1165, 184, 0, 0, 8059) := rfl
theorem r_316_1165 : row 316 1165 = some (.pop, 1166, 0, 0, 0, 0) := rfl
theorem r_316_1166 : row 316 1166 = some (.goto 932, 1169, 2098, 0, 0, 0) := rfl
theorem r_316_1169 : row 316 1169 = some (.aload_n 1, 1170, 0, 0, 0, 0) := rfl
theorem r_316_1170 : row 316 1170 = some (.aload_n 0, 1171, 0, 0, 0, 0) := rfl
theorem r_316_1171 : row 316 1171 = some (.iload_n 3, 1172, 0, 0, 0, 0) := rfl
theorem r_316_1172 : row 316 1172 = some (.iconst 1, 1173, 1, 0, 0, 0) := rfl
theorem r_316_1173 : row 316 1173 = some (.iadd, 1174, 0, 0, 0, 0) := rfl
theorem r_316_1174 : row 316 1174 = some (.iaload, 1175, 0, 0, 0, 0) := rfl
theorem r_316_1175 : row 316 1175 = some (.invokevirtual 165, 1178, 40, 1, 0, 5000) := rfl
theorem r_316_1178 : row 316 1178 = some (.pop, 1179, 0, 0, 0, 0) := rfl
theorem r_316_1179 : row 316 1179 = some (.aload_n 2, 1180, 0, 0, 0, 0) := rfl
theorem r_316_1180 : row 316 1180 = some (.aload_n 0, 1181, 0, 0, 0, 0) := rfl
theorem r_316_1181 : row 316 1181 = some (.iload_n 3, 1182, 0, 0, 0, 0) := rfl
theorem r_316_1182 : row 316 1182 = some (.iconst 1, 1183, 1, 0, 0, 0) := rfl
theorem r_316_1183 : row 316 1183 = some (.iadd, 1184, 0, 0, 0, 0) := rfl
theorem r_316_1184 : row 316 1184 = some (.iaload, 1185, 0, 0, 0, 0) := rfl
theorem r_316_1185 : row 316 1185 = some (.invokevirtual 168, 1188, 185, 1, 0, 8063) := rfl
theorem r_316_1188 : row 316 1188 = some (.pop, 1189, 0, 0, 0, 0) := rfl
theorem r_316_1189 : row 316 1189 = some (.goto 909, 1192, 2098, 0, 0, 0) := rfl
theorem r_316_1192 : row 316 1192 = some (.aload_n 1, 1193, 0, 0, 0, 0) := rfl
theorem r_316_1193 : row 316 1193 = some (.invokevirtual 169, 1196, 41, 0, 0, 5004) := rfl
theorem r_316_1196 : row 316 1196 = some (.pop, 1197, 0, 0, 0, 0) := rfl
theorem r_316_1197 : row 316 1197 = some (.aload_n 2, 1198, 0, 0, 0, 0) := rfl
theorem r_316_1198 : row 316 1198 = some (.invokevirtual 172, 1201, 187, 0, 0, 8067) := rfl
theorem r_316_1201 : row 316 1201 = some (.pop, 1202, 0, 0, 0, 0) := rfl
theorem r_316_1202 : row 316 1202 = some (.goto 896, 1205, 2098, 0, 0, 0) := rfl
theorem r_316_1205 : row 316 1205 = some (.aload_n 1, 1206, 0, 0, 0, 0) := rfl
theorem r_316_1206 : row 316 1206 = some (.invokevirtual 173, 1209, 42, 0, 0, 5012) := rfl
theorem r_316_1209 : row 316 1209 = some (.pop, 1210, 0, 0, 0, 0) := rfl
theorem r_316_1210 : row 316 1210 = some (.aload_n 2, 1211, 0, 0, 0, 0) := rfl
theorem r_316_1211 : row 316 1211 = some (.invokevirtual 176, 1214, 188, 0, 0, 8075) := rfl
theorem r_316_1214 : row 316 1214 = some (.pop, 1215, 0, 0, 0, 0) := rfl
theorem r_316_1215 : row 316 1215 = some (.goto 883, 1218, 2098, 0, 0, 0) := rfl
theorem r_316_1218 : row 316 1218 = some (.aload_n 1, 1219, 0, 0, 0, 0) := rfl
theorem r_316_1219 : row 316 1219 = some (.aload_n 0, 1220, 0, 0, 0, 0) := rfl
theorem r_316_1220 : row 316 1220 = some (.iload_n 3, 1221, 0, 0, 0, 0) := rfl
theorem r_316_1221 : row 316 1221 = some (.iconst 1, 1222, 1, 0, 0, 0) := rfl
theorem r_316_1222 : row 316 1222 = some (.iadd, 1223, 0, 0, 0, 0) := rfl
theorem r_316_1223 : row 316 1223 = some (.iaload, 1224, 0, 0, 0, 0) := rfl
theorem r_316_1224 : row 316 1224 = some (.invokevirtual 177, 1227, 43, 1, 0, 5020) := rfl
theorem r_316_1227 : row 316 1227 = some (.pop, 1228, 0, 0, 0, 0) := rfl
theorem r_316_1228 : row 316 1228 = some (.aload_n 2, 1229, 0, 0, 0, 0) := rfl
theorem r_316_1229 : row 316 1229 = some (.aload_n 0, 1230, 0, 0, 0, 0) := rfl
theorem r_316_1230 : row 316 1230 = some (.iload_n 3, 1231, 0, 0, 0, 0) := rfl
theorem r_316_1231 : row 316 1231 = some (.iconst 1, 1232, 1, 0, 0, 0) := rfl
theorem r_316_1232 : row 316 1232 = some (.iadd, 1233, 0, 0, 0, 0) := rfl
theorem r_316_1233 : row 316 1233 = some (.iaload, 1234, 0, 0, 0, 0) := rfl
theorem r_316_1234 : row 316 1234 = some (.invokevirtual 180, 1237, 189, 1, 0, 8079) := rfl
theorem r_316_1237 : row 316 1237 = some (.pop, 1238, 0, 0, 0, 0) := rfl
theorem r_316_1238 : row 316 1238 = some (.goto 860, 1241, 2098, 0, 0, 0) := rfl
theorem r_316_1241 : row 316 1241 = some (.aload_n 1, 1242, 0, 0, 0, 0) := rfl
theorem r_316_1242 : row 316 1242 = some (.aload_n 0, 1243, 0, 0, 0, 0) := rfl
theorem r_316_1243 : row 316 1243 = some (.iload_n 3, 1244, 0, 0, 0, 0) := rfl
theorem r_316_1244 : row 316 1244 = some (.iconst 1, 1245, 1, 0, 0, 0) := rfl
theorem r_316_1245 : row 316 1245 = some (.iadd, 1246, 0, 0, 0, 0) := rfl
theorem r_316_1246 : row 316 1246 = some (.iaload, 1247, 0, 0, 0, 0) := rfl
theorem r_316_1247 : row 316 1247 = some (.invokevirtual 181, 1250, 44, 1, 0, 5024) := rfl
theorem r_316_1250 : row 316 1250 = some (.pop, 1251, 0, 0, 0, 0) := rfl
theorem r_316_1251 : row 316 1251 = some (.aload_n 2, 1252, 0, 0, 0, 0) := rfl
theorem r_316_1252 : row 316 1252 = some (.aload_n 0, 1253, 0, 0, 0, 0) := rfl
theorem r_316_1253 : row 316 1253 = some (.iload_n 3, 1254, 0, 0, 0, 0) := rfl
theorem r_316_1254 : row 316 1254 = some (.iconst 1, 1255, 1, 0, 0, 0) := rfl
theorem r_316_1255 : row 316 1255 = some (.iadd, 1256, 0, 0, 0, 0) := rfl
theorem r_316_1256 : row 316 1256 = some (.iaload, 1257, 0, 0, 0, 0) := rfl
theorem r_316_1257 : row 316 1257 = some (.invokevirtual 184, 1260, 190, 1, 0, 8083) := rfl
theorem r_316_1260 : row 316 1260 = some (.pop, 1261, 0, 0, 0, 0) := rfl
theorem r_316_1261 : row 316 1261 = some (.goto 837, 1264, 2098, 0, 0, 0) := rfl
theorem r_316_1264 : row 316 1264 = some (.aload_n 1, 1265, 0, 0, 0, 0) := rfl
theorem r_316_1265 : row 316 1265 = some (.invokevirtual 185, 1268, 45, 0, 0, 5032) := rfl
theorem r_316_1268 : row 316 1268 = some (.aload_n 2, 1269, 0, 0, 0, 0) := rfl
theorem r_316_1269 : row 316 1269 = some (.invokevirtual 188, 1272, 191, 0, 0, 8087) := rfl
theorem r_316_1272 : row 316 1272 = some (.if_icmp .eq 826, 1275, 2098, 0, 0, 0) := rfl
theorem r_316_1277 : row 316 1277 = some (.aload_n 1, 1278, 0, 0, 0, 0) := rfl
theorem r_316_1278 : row 316 1278 = some (.aload_n 0, 1279, 0, 0, 0, 0) := rfl
theorem r_316_1279 : row 316 1279 = some (.iload_n 3, 1280, 0, 0, 0, 0) := rfl
theorem r_316_1280 : row 316 1280 = some (.iconst 1, 1281, 1, 0, 0, 0) := rfl
theorem r_316_1281 : row 316 1281 = some (.iadd, 1282, 0, 0, 0, 0) := rfl
theorem r_316_1282 : row 316 1282 = some (.iaload, 1283, 0, 0, 0, 0) := rfl
theorem r_316_1283 : row 316 1283 = some (.invokevirtual 189, 1286, 36, 1, 0, 4186) := rfl
theorem r_316_1286 : row 316 1286 = some (.pop, 1287, 0, 0, 0, 0) := rfl
theorem r_316_1287 : row 316 1287 = some (.aload_n 2, 1288, 0, 0, 0, 0) := rfl
theorem r_316_1288 : row 316 1288 = some (.aload_n 0, 1289, 0, 0, 0, 0) := rfl
theorem r_316_1289 : row 316 1289 = some (.iload_n 3, 1290, 0, 0, 0, 0) := rfl
theorem r_316_1290 : row 316 1290 = some (.iconst 1, 1291, 1, 0, 0, 0) := rfl
theorem r_316_1291 : row 316 1291 = some (.iadd, 1292, 0, 0, 0, 0) := rfl
theorem r_316_1292 : row 316 1292 = some (.iaload, 1293, 0, 0, 0, 0) := rfl
theorem r_316_1293 : row 316 1293 = some (.invokevirtual 192, 1296, 192, 1, 0, 8091) := rfl
theorem r_316_1296 : row 316 1296 = some (.pop, 1297, 0, 0, 0, 0) := rfl
theorem r_316_1297 : row 316 1297 = some (.goto 801, 1300, 2098, 0, 0, 0) := rfl
theorem r_316_1300 : row 316 1300 = some (.aload_n 1, 1301, 0, 0, 0, 0) := rfl
theorem r_316_1301 : row 316 1301 = some (.invokevirtual 193, 1304, 37, 0, 0, 4191) := rfl
theorem r_316_1304 : row 316 1304 = some (.pop, 1305, 0, 0, 0, 0) := rfl
theorem r_316_1305 : row 316 1305 = some (.aload_n 2, 1306, 0, 0, 0, 0) := rfl
theorem r_316_1306 : row 316 1306 = some (.invokevirtual 196, 1309, 193, 0, 0, 8095) := rfl
theorem r_316_1309 : row 316 1309 = some (.pop, 1310, 0, 0, 0, 0) := rfl
theorem r_316_1310 : row 316 1310 = some (.goto 788, 1313, 2098, 0, 0, 0) := rfl
theorem r_316_1313 : row 316 1313 = some (.aload_n 1, 1314, 0, 0, 0, 0) := rfl
theorem r_316_1314 : row 316 1314 = some (.aload_n 0, 1315, 0, 0, 0, 0) := rfl
theorem r_316_1315 : row 316 1315 = some (.iload_n 3, 1316, 0, 0, 0, 0) := rfl
theorem r_316_1316 : row 316 1316 = some (.iconst 1, 1317, 1, 0, 0, 0) := rfl
theorem r_316_1317 : row 316 1317 = some (.iadd, 1318, 0, 0, 0, 0) := rfl
theorem r_316_1318 : row 316 1318 = some (.iaload, 1319, 0, 0, 0, 0) := rfl
theorem r_316_1319 : row 316 1319 = some (.invokevirtual 197, 1322, 46, 1, 0, 5036) := rfl
theorem r_316_1322 : row 316 1322 = some (.pop, 1323, 0, 0, 0, 0) := rfl
theorem r_316_1323 : row 316 1323 = some (.aload_n 2, 1324, 0, 0, 0, 0) := rfl
theorem r_316_1324 : row 316 1324 = some (.aload_n 0, 1325, 0, 0, 0, 0) := rfl
theorem r_316_1325 : row 316 1325 = some (.iload_n 3, 1326, 0, 0, 0, 0) := rfl
theorem r_316_1326 : row 316 1326 = some (.iconst 1, 1327, 1, 0, 0, 0) := rfl
theorem r_316_1327 : row 316 1327 = some (.iadd, 1328, 0, 0, 0, 0) := rfl
theorem r_316_1328 : row 316 1328 = some (.iaload, 1329, 0, 0, 0, 0) := rfl
theorem r_316_1329 : row 316 1329 = some (.invokevirtual 200, 1332, 196, 1, 0, 8099) := rfl
theorem r_316_1332 : row 316 1332 = some (.pop, 1333, 0, 0, 0, 0) := rfl
theorem r_316_1333 : row 316 1333 = some (.goto 765, 1336, 2098, 0, 0, 0) := rfl
theorem r_316_1336 : row 316 1336 = some (.aload_n 1, 1337, 0, 0, 0, 0) := rfl
theorem r_316_1337 : row 316 1337 = some (.aload_n 0, 1338, 0, 0, 0, 0) := rfl
theorem r_316_1338 : row 316 1338 = some (.iload_n 3, 1339, 0, 0, 0, 0) := rfl
theorem r_316_1339 : row 316 1339 = some (.iconst 1, 1340, 1, 0, 0, 0) := rfl
theorem r_316_1340 : row 316 1340 = some (.iadd, 1341, 0, 0, 0, 0) := rfl
theorem r_316_1341 : row 316 1341 = some (.iaload, 1342, 0, 0, 0, 0) := rfl
theorem r_316_1342 : row 316 1342 = some (.invokevirtual 201, 1345, 47, 1, 0, 5066) := rfl
theorem r_316_1345 : row 316 1345 = some (.pop, 1346, 0, 0, 0, 0) := rfl
theorem r_316_1346 : row 316 1346 = some (.aload_n 2, 1347, 0, 0, 0, 0) := rfl
theorem r_316_1347 : row 316 1347 = some (.aload_n 0, 1348, 0, 0, 0, 0) := rfl
theorem r_316_1348 : row 316 1348 = some (.iload_n 3, 1349, 0, 0, 0, 0) := rfl
theorem r_316_1349 : row 316 1349 = some (.iconst 1, 1350, 1, 0, 0, 0) := rfl
theorem r_316_1350 : row 316 1350 = some (.iadd, 1351, 0, 0, 0, 0) := rfl
theorem r_316_1351 : row 316 1351 = some (.iaload, 1352, 0, 0, 0, 0) := rfl
theorem r_316_1352 : row 316 1352 = some (.invokevirtual 204, 1355, 197, 1, 0, 8116) := rfl
theorem r_316_1355 : row 316 1355 = some (.pop, 1356, 0, 0, 0, 0) := rfl
theorem r_316_1356 : row 316 1356 = some (.goto 742, 1359, 2098, 0, 0, 0) := rfl
section LAW
variable {T : List Kd} {xs : Nat → Int32} {L i : Nat} {m : Mm}
theorem pk_27 (hT : TT T) : ConH T cn_27 := fun args m => ((all_con hT 324).1 (by decide)) cn_27 cx_27 args m
theorem pk_165 (hT : TT T) : ConX T cn_165 false false := by
  have z := ((all_con hT 853).2 (by decide)) cn_165 cx_165
  rw [show (Fl 853).2 = (false, false) by decide] at z
  exact z
theorem case_24 (hT : TT T) (h0 : T[0]? = some (100, L)) (hL : L ≤ 3072) (hi : i + 6 ≤ L) (hl : LI xs m) (hnext : ∀ m, LI xs m → GX T 1000 316 2098 [(2, 0), (2, 1), (2, 192), (0, (i : Int))] [] m (fun v _ => v = (0, 1))) : GX T 1000 316 910 [(2, 0), (2, 1), (2, 192), (0, (i : Int))] [] m (fun v _ => v = (0, 1)) := by
  obtain ⟨s1, e_s1⟩ : ∃ z, z = (xs (i + 1)).toInt := ⟨_, rfl⟩
  have b_s1 := i32_in (xs (i + 1))
  rw [← e_s1] at b_s1
  unfold in32 at b_s1
  obtain ⟨s2, e_s2⟩ : ∃ z, z = (xs (i + 2)).toInt := ⟨_, rfl⟩
  have b_s2 := i32_in (xs (i + 2))
  rw [← e_s2] at b_s2
  unfold in32 at b_s2
  obtain ⟨s3, e_s3⟩ : ∃ z, z = (xs (i + 3)).toInt := ⟨_, rfl⟩
  have b_s3 := i32_in (xs (i + 3))
  rw [← e_s3] at b_s3
  unfold in32 at b_s3
  obtain ⟨s4, e_s4⟩ : ∃ z, z = (xs (i + 4)).toInt := ⟨_, rfl⟩
  have b_s4 := i32_in (xs (i + 4))
  rw [← e_s4] at b_s4
  unfold in32 at b_s4
  obtain ⟨s5, e_s5⟩ : ∃ z, z = (xs (i + 5)).toInt := ⟨_, rfl⟩
  have b_s5 := i32_in (xs (i + 5))
  rw [← e_s5] at b_s5
  unfold in32 at b_s5
  refine gx_st (L' := [(2, 0), (2, 1), (2, 192), (0, (i : Int))]) (S' := [(2, 1)]) r_316_910 rfl rfl rfl ?_
  refine gx_st (L' := [(2, 0), (2, 1), (2, 192), (0, (i : Int))]) (S' := [(2, 0), (2, 1)]) r_316_911 rfl rfl rfl ?_
  refine gx_st (L' := [(2, 0), (2, 1), (2, 192), (0, (i : Int))]) (S' := [(0, (i : Int)), (2, 0), (2, 1)]) r_316_912 rfl rfl rfl ?_
  refine gx_st (L' := [(2, 0), (2, 1), (2, 192), (0, (i : Int))]) (S' := [(0, 1), (0, (i : Int)), (2, 0), (2, 1)]) r_316_913 rfl rfl rfl ?_
  refine gx_ar (L' := [(2, 0), (2, 1), (2, 192), (0, (i : Int))]) (S' := [(2, 0), (2, 1)]) (t := 0) (e := w32 ((i : Int) + 1)) (z := (i : Int) + 1) r_316_914 rfl rfl rfl (w32_eq (by omega) (by omega) (by omega)) ?_
  refine gx_ia (n := i + 1) (x := s1) r_316_915 rfl h0 (by omega) ⟨rfl, by show i + 1 < L; omega⟩ ((hl.2.2.1 (i + 1)).trans e_s1.symm) ?_
  show GX T 1000 316 916 [(2, 0), (2, 1), (2, 192), (0, (i : Int))] [(0, s1), (2, 1)] m (fun v _ => v = (0, 1))
  refine gx_st (L' := [(2, 0), (2, 1), (2, 192), (0, (i : Int))]) (S' := [(2, 0), (0, s1), (2, 1)]) r_316_916 rfl rfl rfl ?_
  refine gx_st (L' := [(2, 0), (2, 1), (2, 192), (0, (i : Int))]) (S' := [(0, (i : Int)), (2, 0), (0, s1), (2, 1)]) r_316_917 rfl rfl rfl ?_
  refine gx_st (L' := [(2, 0), (2, 1), (2, 192), (0, (i : Int))]) (S' := [(0, 2), (0, (i : Int)), (2, 0), (0, s1), (2, 1)]) r_316_918 rfl rfl rfl ?_
  refine gx_ar (L' := [(2, 0), (2, 1), (2, 192), (0, (i : Int))]) (S' := [(2, 0), (0, s1), (2, 1)]) (t := 0) (e := w32 ((i : Int) + 2)) (z := (i : Int) + 2) r_316_919 rfl rfl rfl (w32_eq (by omega) (by omega) (by omega)) ?_
  refine gx_ia (n := i + 2) (x := s2) r_316_920 rfl h0 (by omega) ⟨rfl, by show i + 2 < L; omega⟩ ((hl.2.2.1 (i + 2)).trans e_s2.symm) ?_
  show GX T 1000 316 921 [(2, 0), (2, 1), (2, 192), (0, (i : Int))] [(0, s2), (0, s1), (2, 1)] m (fun v _ => v = (0, 1))
  refine gx_ci (nx := 924) (S2 := []) (gx_hi (args := [(2, 1), (0, s1), (0, s2)]) (pk_27 hT) ⟨gq_o1, gq_any (by omega) (by omega), gq_any (by omega) (by omega), trivial⟩ hl.1 rfl) r_316_921 rfl rfl rfl rfl rfl (rcv_v rfl (tk_1 hT) (by decide) rfl (by decide)) rfl (by decide) rfl (fun x921 n921 q921 => ?_)
  show GX T 1000 316 924 [(2, 0), (2, 1), (2, 192), (0, (i : Int))] [(0, x921)] n921 (fun v _ => v = (0, 1))
  have ex_n921 : Ext n921 := Ext_fr q921.2.2.2 (by decide) hl.2.1
  have sc_n921 := sc_fr q921.2.2.2 (by decide) hl.2.2.1
  have rl_n921 : RelR n921 := Rel_fr q921.2.2.2 (by decide) (by decide) (by decide) (by decide) (by decide) (by decide) (by decide) (by decide) hl.2.2.2
  refine gx_st (L' := [(2, 0), (2, 1), (2, 192), (0, (i : Int))]) (S' := []) r_316_924 rfl rfl rfl ?_
  refine gx_st (L' := [(2, 0), (2, 1), (2, 192), (0, (i : Int))]) (S' := [(2, 192)]) r_316_925 rfl rfl rfl ?_
  refine gx_st (L' := [(2, 0), (2, 1), (2, 192), (0, (i : Int))]) (S' := [(2, 0), (2, 192)]) r_316_926 rfl rfl rfl ?_
  refine gx_st (L' := [(2, 0), (2, 1), (2, 192), (0, (i : Int))]) (S' := [(0, (i : Int)), (2, 0), (2, 192)]) r_316_927 rfl rfl rfl ?_
  refine gx_st (L' := [(2, 0), (2, 1), (2, 192), (0, (i : Int))]) (S' := [(0, 1), (0, (i : Int)), (2, 0), (2, 192)]) r_316_928 rfl rfl rfl ?_
  refine gx_ar (L' := [(2, 0), (2, 1), (2, 192), (0, (i : Int))]) (S' := [(2, 0), (2, 192)]) (t := 0) (e := w32 ((i : Int) + 1)) (z := (i : Int) + 1) r_316_929 rfl rfl rfl (w32_eq (by omega) (by omega) (by omega)) ?_
  refine gx_ia (n := i + 1) (x := s1) r_316_930 rfl h0 (by omega) ⟨rfl, by show i + 1 < L; omega⟩ ((sc_n921 (i + 1)).trans e_s1.symm) ?_
  show GX T 1000 316 931 [(2, 0), (2, 1), (2, 192), (0, (i : Int))] [(0, s1), (2, 192)] n921 (fun v _ => v = (0, 1))
  refine gx_st (L' := [(2, 0), (2, 1), (2, 192), (0, (i : Int))]) (S' := [(2, 0), (0, s1), (2, 192)]) r_316_931 rfl rfl rfl ?_
  refine gx_st (L' := [(2, 0), (2, 1), (2, 192), (0, (i : Int))]) (S' := [(0, (i : Int)), (2, 0), (0, s1), (2, 192)]) r_316_932 rfl rfl rfl ?_
  refine gx_st (L' := [(2, 0), (2, 1), (2, 192), (0, (i : Int))]) (S' := [(0, 2), (0, (i : Int)), (2, 0), (0, s1), (2, 192)]) r_316_933 rfl rfl rfl ?_
  refine gx_ar (L' := [(2, 0), (2, 1), (2, 192), (0, (i : Int))]) (S' := [(2, 0), (0, s1), (2, 192)]) (t := 0) (e := w32 ((i : Int) + 2)) (z := (i : Int) + 2) r_316_934 rfl rfl rfl (w32_eq (by omega) (by omega) (by omega)) ?_
  refine gx_ia (n := i + 2) (x := s2) r_316_935 rfl h0 (by omega) ⟨rfl, by show i + 2 < L; omega⟩ ((sc_n921 (i + 2)).trans e_s2.symm) ?_
  show GX T 1000 316 936 [(2, 0), (2, 1), (2, 192), (0, (i : Int))] [(0, s2), (0, s1), (2, 192)] n921 (fun v _ => v = (0, 1))
  refine gx_ci (nx := 939) (S2 := []) (gx_xi (args := [(2, 192), (0, s1), (0, s2)]) (pk_165 hT) ⟨gq_o192, gq_any (by omega) (by omega), gq_any (by omega) (by omega), trivial⟩ q921.2.2.1 ex_n921 (fun z => absurd z (by decide)) rfl) r_316_936 rfl rfl rfl rfl rfl (rcv_v rfl (tk_192 hT) (by decide) rfl (by decide)) rfl (by decide) rfl (fun x936 n936 q936 => ?_)
  show GX T 1000 316 939 [(2, 0), (2, 1), (2, 192), (0, (i : Int))] [(0, x936)] n936 (fun v _ => v = (0, 1))
  have sc_n936 := sc_fr q936.2.2.2.2.1 (by decide) sc_n921
  have rl_n936 : RelR n936 := Rel_fr q936.2.2.2.2.1 (by decide) (by decide) (by decide) (by decide) (by decide) (by decide) (by decide) (by decide) rl_n921
  refine gx_st (L' := [(2, 0), (2, 1), (2, 192), (0, (i : Int))]) (S' := []) r_316_939 rfl rfl rfl ?_
  refine gx_st (L' := [(2, 0), (2, 1), (2, 192), (0, (i : Int))]) (S' := []) r_316_940 rfl rfl rfl ?_
  exact hnext n936 ⟨q936.2.2.1, q936.2.2.2.1, sc_n936, rl_n936⟩
theorem pk_28 (hT : TT T) : ConH T cn_28 := fun args m => ((all_con hT 325).1 (by decide)) cn_28 cx_28 args m
theorem pk_169 (hT : TT T) : ConX T cn_169 false false := by
  have z := ((all_con hT 859).2 (by decide)) cn_169 cx_169
  rw [show (Fl 859).2 = (false, false) by decide] at z
  exact z
theorem case_25 (hT : TT T) (h0 : T[0]? = some (100, L)) (hL : L ≤ 3072) (hi : i + 6 ≤ L) (hl : LI xs m) (hnext : ∀ m, LI xs m → GX T 1000 316 2098 [(2, 0), (2, 1), (2, 192), (0, (i : Int))] [] m (fun v _ => v = (0, 1))) : GX T 1000 316 943 [(2, 0), (2, 1), (2, 192), (0, (i : Int))] [] m (fun v _ => v = (0, 1)) := by
  obtain ⟨s1, e_s1⟩ : ∃ z, z = (xs (i + 1)).toInt := ⟨_, rfl⟩
  have b_s1 := i32_in (xs (i + 1))
  rw [← e_s1] at b_s1
  unfold in32 at b_s1
  obtain ⟨s2, e_s2⟩ : ∃ z, z = (xs (i + 2)).toInt := ⟨_, rfl⟩
  have b_s2 := i32_in (xs (i + 2))
  rw [← e_s2] at b_s2
  unfold in32 at b_s2
  obtain ⟨s3, e_s3⟩ : ∃ z, z = (xs (i + 3)).toInt := ⟨_, rfl⟩
  have b_s3 := i32_in (xs (i + 3))
  rw [← e_s3] at b_s3
  unfold in32 at b_s3
  obtain ⟨s4, e_s4⟩ : ∃ z, z = (xs (i + 4)).toInt := ⟨_, rfl⟩
  have b_s4 := i32_in (xs (i + 4))
  rw [← e_s4] at b_s4
  unfold in32 at b_s4
  obtain ⟨s5, e_s5⟩ : ∃ z, z = (xs (i + 5)).toInt := ⟨_, rfl⟩
  have b_s5 := i32_in (xs (i + 5))
  rw [← e_s5] at b_s5
  unfold in32 at b_s5
  refine gx_st (L' := [(2, 0), (2, 1), (2, 192), (0, (i : Int))]) (S' := [(2, 1)]) r_316_943 rfl rfl rfl ?_
  refine gx_st (L' := [(2, 0), (2, 1), (2, 192), (0, (i : Int))]) (S' := [(2, 0), (2, 1)]) r_316_944 rfl rfl rfl ?_
  refine gx_st (L' := [(2, 0), (2, 1), (2, 192), (0, (i : Int))]) (S' := [(0, (i : Int)), (2, 0), (2, 1)]) r_316_945 rfl rfl rfl ?_
  refine gx_st (L' := [(2, 0), (2, 1), (2, 192), (0, (i : Int))]) (S' := [(0, 1), (0, (i : Int)), (2, 0), (2, 1)]) r_316_946 rfl rfl rfl ?_
  refine gx_ar (L' := [(2, 0), (2, 1), (2, 192), (0, (i : Int))]) (S' := [(2, 0), (2, 1)]) (t := 0) (e := w32 ((i : Int) + 1)) (z := (i : Int) + 1) r_316_947 rfl rfl rfl (w32_eq (by omega) (by omega) (by omega)) ?_
  refine gx_ia (n := i + 1) (x := s1) r_316_948 rfl h0 (by omega) ⟨rfl, by show i + 1 < L; omega⟩ ((hl.2.2.1 (i + 1)).trans e_s1.symm) ?_
  show GX T 1000 316 949 [(2, 0), (2, 1), (2, 192), (0, (i : Int))] [(0, s1), (2, 1)] m (fun v _ => v = (0, 1))
  refine gx_ci (nx := 952) (S2 := []) (gx_hi (args := [(2, 1), (0, s1)]) (pk_28 hT) ⟨gq_o1, gq_any (by omega) (by omega), trivial⟩ hl.1 rfl) r_316_949 rfl rfl rfl rfl rfl (rcv_v rfl (tk_1 hT) (by decide) rfl (by decide)) rfl (by decide) rfl (fun x949 n949 q949 => ?_)
  show GX T 1000 316 952 [(2, 0), (2, 1), (2, 192), (0, (i : Int))] [(0, x949)] n949 (fun v _ => v = (0, 1))
  have ex_n949 : Ext n949 := Ext_fr q949.2.2.2 (by decide) hl.2.1
  have sc_n949 := sc_fr q949.2.2.2 (by decide) hl.2.2.1
  have rl_n949 : RelR n949 := Rel_fr q949.2.2.2 (by decide) (by decide) (by decide) (by decide) (by decide) (by decide) (by decide) (by decide) hl.2.2.2
  refine gx_st (L' := [(2, 0), (2, 1), (2, 192), (0, (i : Int))]) (S' := []) r_316_952 rfl rfl rfl ?_
  refine gx_st (L' := [(2, 0), (2, 1), (2, 192), (0, (i : Int))]) (S' := [(2, 192)]) r_316_953 rfl rfl rfl ?_
  refine gx_st (L' := [(2, 0), (2, 1), (2, 192), (0, (i : Int))]) (S' := [(2, 0), (2, 192)]) r_316_954 rfl rfl rfl ?_
  refine gx_st (L' := [(2, 0), (2, 1), (2, 192), (0, (i : Int))]) (S' := [(0, (i : Int)), (2, 0), (2, 192)]) r_316_955 rfl rfl rfl ?_
  refine gx_st (L' := [(2, 0), (2, 1), (2, 192), (0, (i : Int))]) (S' := [(0, 1), (0, (i : Int)), (2, 0), (2, 192)]) r_316_956 rfl rfl rfl ?_
  refine gx_ar (L' := [(2, 0), (2, 1), (2, 192), (0, (i : Int))]) (S' := [(2, 0), (2, 192)]) (t := 0) (e := w32 ((i : Int) + 1)) (z := (i : Int) + 1) r_316_957 rfl rfl rfl (w32_eq (by omega) (by omega) (by omega)) ?_
  refine gx_ia (n := i + 1) (x := s1) r_316_958 rfl h0 (by omega) ⟨rfl, by show i + 1 < L; omega⟩ ((sc_n949 (i + 1)).trans e_s1.symm) ?_
  show GX T 1000 316 959 [(2, 0), (2, 1), (2, 192), (0, (i : Int))] [(0, s1), (2, 192)] n949 (fun v _ => v = (0, 1))
  refine gx_ci (nx := 962) (S2 := []) (gx_xi (args := [(2, 192), (0, s1)]) (pk_169 hT) ⟨gq_o192, gq_any (by omega) (by omega), trivial⟩ q949.2.2.1 ex_n949 (fun z => absurd z (by decide)) rfl) r_316_959 rfl rfl rfl rfl rfl (rcv_v rfl (tk_192 hT) (by decide) rfl (by decide)) rfl (by decide) rfl (fun x959 n959 q959 => ?_)
  show GX T 1000 316 962 [(2, 0), (2, 1), (2, 192), (0, (i : Int))] [(0, x959)] n959 (fun v _ => v = (0, 1))
  have sc_n959 := sc_fr q959.2.2.2.2.1 (by decide) sc_n949
  have rl_n959 : RelR n959 := Rel_fr q959.2.2.2.2.1 (by decide) (by decide) (by decide) (by decide) (by decide) (by decide) (by decide) (by decide) rl_n949
  refine gx_st (L' := [(2, 0), (2, 1), (2, 192), (0, (i : Int))]) (S' := []) r_316_962 rfl rfl rfl ?_
  refine gx_st (L' := [(2, 0), (2, 1), (2, 192), (0, (i : Int))]) (S' := []) r_316_963 rfl rfl rfl ?_
  exact hnext n959 ⟨q959.2.2.1, q959.2.2.2.1, sc_n959, rl_n959⟩
theorem pk_29 (hT : TT T) : ConH T cn_29 := fun args m => ((all_con hT 326).1 (by decide)) cn_29 cx_29 args m
theorem pk_167 (hT : TT T) : ConX T cn_167 false false := by
  have z := ((all_con hT 863).2 (by decide)) cn_167 cx_167
  rw [show (Fl 863).2 = (false, false) by decide] at z
  exact z
theorem case_26 (hT : TT T) (h0 : T[0]? = some (100, L)) (hL : L ≤ 3072) (hi : i + 6 ≤ L) (hl : LI xs m) (hnext : ∀ m, LI xs m → GX T 1000 316 2098 [(2, 0), (2, 1), (2, 192), (0, (i : Int))] [] m (fun v _ => v = (0, 1))) : GX T 1000 316 966 [(2, 0), (2, 1), (2, 192), (0, (i : Int))] [] m (fun v _ => v = (0, 1)) := by
  obtain ⟨s1, e_s1⟩ : ∃ z, z = (xs (i + 1)).toInt := ⟨_, rfl⟩
  have b_s1 := i32_in (xs (i + 1))
  rw [← e_s1] at b_s1
  unfold in32 at b_s1
  obtain ⟨s2, e_s2⟩ : ∃ z, z = (xs (i + 2)).toInt := ⟨_, rfl⟩
  have b_s2 := i32_in (xs (i + 2))
  rw [← e_s2] at b_s2
  unfold in32 at b_s2
  obtain ⟨s3, e_s3⟩ : ∃ z, z = (xs (i + 3)).toInt := ⟨_, rfl⟩
  have b_s3 := i32_in (xs (i + 3))
  rw [← e_s3] at b_s3
  unfold in32 at b_s3
  obtain ⟨s4, e_s4⟩ : ∃ z, z = (xs (i + 4)).toInt := ⟨_, rfl⟩
  have b_s4 := i32_in (xs (i + 4))
  rw [← e_s4] at b_s4
  unfold in32 at b_s4
  obtain ⟨s5, e_s5⟩ : ∃ z, z = (xs (i + 5)).toInt := ⟨_, rfl⟩
  have b_s5 := i32_in (xs (i + 5))
  rw [← e_s5] at b_s5
  unfold in32 at b_s5
  refine gx_st (L' := [(2, 0), (2, 1), (2, 192), (0, (i : Int))]) (S' := [(2, 1)]) r_316_966 rfl rfl rfl ?_
  refine gx_st (L' := [(2, 0), (2, 1), (2, 192), (0, (i : Int))]) (S' := [(2, 0), (2, 1)]) r_316_967 rfl rfl rfl ?_
  refine gx_st (L' := [(2, 0), (2, 1), (2, 192), (0, (i : Int))]) (S' := [(0, (i : Int)), (2, 0), (2, 1)]) r_316_968 rfl rfl rfl ?_
  refine gx_st (L' := [(2, 0), (2, 1), (2, 192), (0, (i : Int))]) (S' := [(0, 1), (0, (i : Int)), (2, 0), (2, 1)]) r_316_969 rfl rfl rfl ?_
  refine gx_ar (L' := [(2, 0), (2, 1), (2, 192), (0, (i : Int))]) (S' := [(2, 0), (2, 1)]) (t := 0) (e := w32 ((i : Int) + 1)) (z := (i : Int) + 1) r_316_970 rfl rfl rfl (w32_eq (by omega) (by omega) (by omega)) ?_
  refine gx_ia (n := i + 1) (x := s1) r_316_971 rfl h0 (by omega) ⟨rfl, by show i + 1 < L; omega⟩ ((hl.2.2.1 (i + 1)).trans e_s1.symm) ?_
  show GX T 1000 316 972 [(2, 0), (2, 1), (2, 192), (0, (i : Int))] [(0, s1), (2, 1)] m (fun v _ => v = (0, 1))
  refine gx_ci (nx := 975) (S2 := []) (gx_hi (args := [(2, 1), (0, s1)]) (pk_29 hT) ⟨gq_o1, gq_any (by omega) (by omega), trivial⟩ hl.1 rfl) r_316_972 rfl rfl rfl rfl rfl (rcv_v rfl (tk_1 hT) (by decide) rfl (by decide)) rfl (by decide) rfl (fun x972 n972 q972 => ?_)
  show GX T 1000 316 975 [(2, 0), (2, 1), (2, 192), (0, (i : Int))] [(0, x972)] n972 (fun v _ => v = (0, 1))
  have ex_n972 : Ext n972 := Ext_fr q972.2.2.2 (by decide) hl.2.1
  have sc_n972 := sc_fr q972.2.2.2 (by decide) hl.2.2.1
  have rl_n972 : RelR n972 := Rel_fr q972.2.2.2 (by decide) (by decide) (by decide) (by decide) (by decide) (by decide) (by decide) (by decide) hl.2.2.2
  refine gx_st (L' := [(2, 0), (2, 1), (2, 192), (0, (i : Int))]) (S' := []) r_316_975 rfl rfl rfl ?_
  refine gx_st (L' := [(2, 0), (2, 1), (2, 192), (0, (i : Int))]) (S' := [(2, 192)]) r_316_976 rfl rfl rfl ?_
  refine gx_st (L' := [(2, 0), (2, 1), (2, 192), (0, (i : Int))]) (S' := [(2, 0), (2, 192)]) r_316_977 rfl rfl rfl ?_
  refine gx_st (L' := [(2, 0), (2, 1), (2, 192), (0, (i : Int))]) (S' := [(0, (i : Int)), (2, 0), (2, 192)]) r_316_978 rfl rfl rfl ?_
  refine gx_st (L' := [(2, 0), (2, 1), (2, 192), (0, (i : Int))]) (S' := [(0, 1), (0, (i : Int)), (2, 0), (2, 192)]) r_316_979 rfl rfl rfl ?_
  refine gx_ar (L' := [(2, 0), (2, 1), (2, 192), (0, (i : Int))]) (S' := [(2, 0), (2, 192)]) (t := 0) (e := w32 ((i : Int) + 1)) (z := (i : Int) + 1) r_316_980 rfl rfl rfl (w32_eq (by omega) (by omega) (by omega)) ?_
  refine gx_ia (n := i + 1) (x := s1) r_316_981 rfl h0 (by omega) ⟨rfl, by show i + 1 < L; omega⟩ ((sc_n972 (i + 1)).trans e_s1.symm) ?_
  show GX T 1000 316 982 [(2, 0), (2, 1), (2, 192), (0, (i : Int))] [(0, s1), (2, 192)] n972 (fun v _ => v = (0, 1))
  refine gx_ci (nx := 985) (S2 := []) (gx_xi (args := [(2, 192), (0, s1)]) (pk_167 hT) ⟨gq_o192, gq_any (by omega) (by omega), trivial⟩ q972.2.2.1 ex_n972 (fun z => absurd z (by decide)) rfl) r_316_982 rfl rfl rfl rfl rfl (rcv_v rfl (tk_192 hT) (by decide) rfl (by decide)) rfl (by decide) rfl (fun x982 n982 q982 => ?_)
  show GX T 1000 316 985 [(2, 0), (2, 1), (2, 192), (0, (i : Int))] [(0, x982)] n982 (fun v _ => v = (0, 1))
  have sc_n982 := sc_fr q982.2.2.2.2.1 (by decide) sc_n972
  have rl_n982 : RelR n982 := Rel_fr q982.2.2.2.2.1 (by decide) (by decide) (by decide) (by decide) (by decide) (by decide) (by decide) (by decide) rl_n972
  refine gx_st (L' := [(2, 0), (2, 1), (2, 192), (0, (i : Int))]) (S' := []) r_316_985 rfl rfl rfl ?_
  refine gx_st (L' := [(2, 0), (2, 1), (2, 192), (0, (i : Int))]) (S' := []) r_316_986 rfl rfl rfl ?_
  exact hnext n982 ⟨q982.2.2.1, q982.2.2.2.1, sc_n982, rl_n982⟩
theorem pk_30 (hT : TT T) : ConH T cn_30 := fun args m => ((all_con hT 327).1 (by decide)) cn_30 cx_30 args m
theorem pk_170 (hT : TT T) : ConX T cn_170 false false := by
  have z := ((all_con hT 867).2 (by decide)) cn_170 cx_170
  rw [show (Fl 867).2 = (false, false) by decide] at z
  exact z
theorem case_27 (hT : TT T) (h0 : T[0]? = some (100, L)) (hL : L ≤ 3072) (hi : i + 6 ≤ L) (hl : LI xs m) (hnext : ∀ m, LI xs m → GX T 1000 316 2098 [(2, 0), (2, 1), (2, 192), (0, (i : Int))] [] m (fun v _ => v = (0, 1))) : GX T 1000 316 989 [(2, 0), (2, 1), (2, 192), (0, (i : Int))] [] m (fun v _ => v = (0, 1)) := by
  obtain ⟨s1, e_s1⟩ : ∃ z, z = (xs (i + 1)).toInt := ⟨_, rfl⟩
  have b_s1 := i32_in (xs (i + 1))
  rw [← e_s1] at b_s1
  unfold in32 at b_s1
  obtain ⟨s2, e_s2⟩ : ∃ z, z = (xs (i + 2)).toInt := ⟨_, rfl⟩
  have b_s2 := i32_in (xs (i + 2))
  rw [← e_s2] at b_s2
  unfold in32 at b_s2
  obtain ⟨s3, e_s3⟩ : ∃ z, z = (xs (i + 3)).toInt := ⟨_, rfl⟩
  have b_s3 := i32_in (xs (i + 3))
  rw [← e_s3] at b_s3
  unfold in32 at b_s3
  obtain ⟨s4, e_s4⟩ : ∃ z, z = (xs (i + 4)).toInt := ⟨_, rfl⟩
  have b_s4 := i32_in (xs (i + 4))
  rw [← e_s4] at b_s4
  unfold in32 at b_s4
  obtain ⟨s5, e_s5⟩ : ∃ z, z = (xs (i + 5)).toInt := ⟨_, rfl⟩
  have b_s5 := i32_in (xs (i + 5))
  rw [← e_s5] at b_s5
  unfold in32 at b_s5
  refine gx_st (L' := [(2, 0), (2, 1), (2, 192), (0, (i : Int))]) (S' := [(2, 1)]) r_316_989 rfl rfl rfl ?_
  refine gx_st (L' := [(2, 0), (2, 1), (2, 192), (0, (i : Int))]) (S' := [(2, 0), (2, 1)]) r_316_990 rfl rfl rfl ?_
  refine gx_st (L' := [(2, 0), (2, 1), (2, 192), (0, (i : Int))]) (S' := [(0, (i : Int)), (2, 0), (2, 1)]) r_316_991 rfl rfl rfl ?_
  refine gx_st (L' := [(2, 0), (2, 1), (2, 192), (0, (i : Int))]) (S' := [(0, 1), (0, (i : Int)), (2, 0), (2, 1)]) r_316_992 rfl rfl rfl ?_
  refine gx_ar (L' := [(2, 0), (2, 1), (2, 192), (0, (i : Int))]) (S' := [(2, 0), (2, 1)]) (t := 0) (e := w32 ((i : Int) + 1)) (z := (i : Int) + 1) r_316_993 rfl rfl rfl (w32_eq (by omega) (by omega) (by omega)) ?_
  refine gx_ia (n := i + 1) (x := s1) r_316_994 rfl h0 (by omega) ⟨rfl, by show i + 1 < L; omega⟩ ((hl.2.2.1 (i + 1)).trans e_s1.symm) ?_
  show GX T 1000 316 995 [(2, 0), (2, 1), (2, 192), (0, (i : Int))] [(0, s1), (2, 1)] m (fun v _ => v = (0, 1))
  refine gx_ci (nx := 998) (S2 := []) (gx_hi (args := [(2, 1), (0, s1)]) (pk_30 hT) ⟨gq_o1, gq_any (by omega) (by omega), trivial⟩ hl.1 rfl) r_316_995 rfl rfl rfl rfl rfl (rcv_v rfl (tk_1 hT) (by decide) rfl (by decide)) rfl (by decide) rfl (fun x995 n995 q995 => ?_)
  show GX T 1000 316 998 [(2, 0), (2, 1), (2, 192), (0, (i : Int))] [(0, x995)] n995 (fun v _ => v = (0, 1))
  have ex_n995 : Ext n995 := Ext_fr q995.2.2.2 (by decide) hl.2.1
  have sc_n995 := sc_fr q995.2.2.2 (by decide) hl.2.2.1
  have rl_n995 : RelR n995 := Rel_fr q995.2.2.2 (by decide) (by decide) (by decide) (by decide) (by decide) (by decide) (by decide) (by decide) hl.2.2.2
  refine gx_st (L' := [(2, 0), (2, 1), (2, 192), (0, (i : Int))]) (S' := []) r_316_998 rfl rfl rfl ?_
  refine gx_st (L' := [(2, 0), (2, 1), (2, 192), (0, (i : Int))]) (S' := [(2, 192)]) r_316_999 rfl rfl rfl ?_
  refine gx_st (L' := [(2, 0), (2, 1), (2, 192), (0, (i : Int))]) (S' := [(2, 0), (2, 192)]) r_316_1000 rfl rfl rfl ?_
  refine gx_st (L' := [(2, 0), (2, 1), (2, 192), (0, (i : Int))]) (S' := [(0, (i : Int)), (2, 0), (2, 192)]) r_316_1001 rfl rfl rfl ?_
  refine gx_st (L' := [(2, 0), (2, 1), (2, 192), (0, (i : Int))]) (S' := [(0, 1), (0, (i : Int)), (2, 0), (2, 192)]) r_316_1002 rfl rfl rfl ?_
  refine gx_ar (L' := [(2, 0), (2, 1), (2, 192), (0, (i : Int))]) (S' := [(2, 0), (2, 192)]) (t := 0) (e := w32 ((i : Int) + 1)) (z := (i : Int) + 1) r_316_1003 rfl rfl rfl (w32_eq (by omega) (by omega) (by omega)) ?_
  refine gx_ia (n := i + 1) (x := s1) r_316_1004 rfl h0 (by omega) ⟨rfl, by show i + 1 < L; omega⟩ ((sc_n995 (i + 1)).trans e_s1.symm) ?_
  show GX T 1000 316 1005 [(2, 0), (2, 1), (2, 192), (0, (i : Int))] [(0, s1), (2, 192)] n995 (fun v _ => v = (0, 1))
  refine gx_ci (nx := 1008) (S2 := []) (gx_xi (args := [(2, 192), (0, s1)]) (pk_170 hT) ⟨gq_o192, gq_any (by omega) (by omega), trivial⟩ q995.2.2.1 ex_n995 (fun z => absurd z (by decide)) rfl) r_316_1005 rfl rfl rfl rfl rfl (rcv_v rfl (tk_192 hT) (by decide) rfl (by decide)) rfl (by decide) rfl (fun x1005 n1005 q1005 => ?_)
  show GX T 1000 316 1008 [(2, 0), (2, 1), (2, 192), (0, (i : Int))] [(0, x1005)] n1005 (fun v _ => v = (0, 1))
  have sc_n1005 := sc_fr q1005.2.2.2.2.1 (by decide) sc_n995
  have rl_n1005 : RelR n1005 := Rel_fr q1005.2.2.2.2.1 (by decide) (by decide) (by decide) (by decide) (by decide) (by decide) (by decide) (by decide) rl_n995
  refine gx_st (L' := [(2, 0), (2, 1), (2, 192), (0, (i : Int))]) (S' := []) r_316_1008 rfl rfl rfl ?_
  refine gx_st (L' := [(2, 0), (2, 1), (2, 192), (0, (i : Int))]) (S' := []) r_316_1009 rfl rfl rfl ?_
  exact hnext n1005 ⟨q1005.2.2.1, q1005.2.2.2.1, sc_n1005, rl_n1005⟩
theorem pk_31 (hT : TT T) : ConH T cn_31 := fun args m => ((all_con hT 328).1 (by decide)) cn_31 cx_31 args m
theorem pk_171 (hT : TT T) : ConX T cn_171 false false := by
  have z := ((all_con hT 871).2 (by decide)) cn_171 cx_171
  rw [show (Fl 871).2 = (false, false) by decide] at z
  exact z
theorem case_28 (hT : TT T) (h0 : T[0]? = some (100, L)) (hL : L ≤ 3072) (hi : i + 6 ≤ L) (hl : LI xs m) (hnext : ∀ m, LI xs m → GX T 1000 316 2098 [(2, 0), (2, 1), (2, 192), (0, (i : Int))] [] m (fun v _ => v = (0, 1))) : GX T 1000 316 1012 [(2, 0), (2, 1), (2, 192), (0, (i : Int))] [] m (fun v _ => v = (0, 1)) := by
  obtain ⟨s1, e_s1⟩ : ∃ z, z = (xs (i + 1)).toInt := ⟨_, rfl⟩
  have b_s1 := i32_in (xs (i + 1))
  rw [← e_s1] at b_s1
  unfold in32 at b_s1
  obtain ⟨s2, e_s2⟩ : ∃ z, z = (xs (i + 2)).toInt := ⟨_, rfl⟩
  have b_s2 := i32_in (xs (i + 2))
  rw [← e_s2] at b_s2
  unfold in32 at b_s2
  obtain ⟨s3, e_s3⟩ : ∃ z, z = (xs (i + 3)).toInt := ⟨_, rfl⟩
  have b_s3 := i32_in (xs (i + 3))
  rw [← e_s3] at b_s3
  unfold in32 at b_s3
  obtain ⟨s4, e_s4⟩ : ∃ z, z = (xs (i + 4)).toInt := ⟨_, rfl⟩
  have b_s4 := i32_in (xs (i + 4))
  rw [← e_s4] at b_s4
  unfold in32 at b_s4
  obtain ⟨s5, e_s5⟩ : ∃ z, z = (xs (i + 5)).toInt := ⟨_, rfl⟩
  have b_s5 := i32_in (xs (i + 5))
  rw [← e_s5] at b_s5
  unfold in32 at b_s5
  refine gx_st (L' := [(2, 0), (2, 1), (2, 192), (0, (i : Int))]) (S' := [(2, 1)]) r_316_1012 rfl rfl rfl ?_
  refine gx_st (L' := [(2, 0), (2, 1), (2, 192), (0, (i : Int))]) (S' := [(2, 0), (2, 1)]) r_316_1013 rfl rfl rfl ?_
  refine gx_st (L' := [(2, 0), (2, 1), (2, 192), (0, (i : Int))]) (S' := [(0, (i : Int)), (2, 0), (2, 1)]) r_316_1014 rfl rfl rfl ?_
  refine gx_st (L' := [(2, 0), (2, 1), (2, 192), (0, (i : Int))]) (S' := [(0, 1), (0, (i : Int)), (2, 0), (2, 1)]) r_316_1015 rfl rfl rfl ?_
  refine gx_ar (L' := [(2, 0), (2, 1), (2, 192), (0, (i : Int))]) (S' := [(2, 0), (2, 1)]) (t := 0) (e := w32 ((i : Int) + 1)) (z := (i : Int) + 1) r_316_1016 rfl rfl rfl (w32_eq (by omega) (by omega) (by omega)) ?_
  refine gx_ia (n := i + 1) (x := s1) r_316_1017 rfl h0 (by omega) ⟨rfl, by show i + 1 < L; omega⟩ ((hl.2.2.1 (i + 1)).trans e_s1.symm) ?_
  show GX T 1000 316 1018 [(2, 0), (2, 1), (2, 192), (0, (i : Int))] [(0, s1), (2, 1)] m (fun v _ => v = (0, 1))
  refine gx_ci (nx := 1021) (S2 := []) (gx_hi (args := [(2, 1), (0, s1)]) (pk_31 hT) ⟨gq_o1, gq_any (by omega) (by omega), trivial⟩ hl.1 rfl) r_316_1018 rfl rfl rfl rfl rfl (rcv_v rfl (tk_1 hT) (by decide) rfl (by decide)) rfl (by decide) rfl (fun x1018 n1018 q1018 => ?_)
  show GX T 1000 316 1021 [(2, 0), (2, 1), (2, 192), (0, (i : Int))] [(0, x1018)] n1018 (fun v _ => v = (0, 1))
  have ex_n1018 : Ext n1018 := Ext_fr q1018.2.2.2 (by decide) hl.2.1
  have sc_n1018 := sc_fr q1018.2.2.2 (by decide) hl.2.2.1
  have rl_n1018 : RelR n1018 := Rel_fr q1018.2.2.2 (by decide) (by decide) (by decide) (by decide) (by decide) (by decide) (by decide) (by decide) hl.2.2.2
  refine gx_st (L' := [(2, 0), (2, 1), (2, 192), (0, (i : Int))]) (S' := []) r_316_1021 rfl rfl rfl ?_
  refine gx_st (L' := [(2, 0), (2, 1), (2, 192), (0, (i : Int))]) (S' := [(2, 192)]) r_316_1022 rfl rfl rfl ?_
  refine gx_st (L' := [(2, 0), (2, 1), (2, 192), (0, (i : Int))]) (S' := [(2, 0), (2, 192)]) r_316_1023 rfl rfl rfl ?_
  refine gx_st (L' := [(2, 0), (2, 1), (2, 192), (0, (i : Int))]) (S' := [(0, (i : Int)), (2, 0), (2, 192)]) r_316_1024 rfl rfl rfl ?_
  refine gx_st (L' := [(2, 0), (2, 1), (2, 192), (0, (i : Int))]) (S' := [(0, 1), (0, (i : Int)), (2, 0), (2, 192)]) r_316_1025 rfl rfl rfl ?_
  refine gx_ar (L' := [(2, 0), (2, 1), (2, 192), (0, (i : Int))]) (S' := [(2, 0), (2, 192)]) (t := 0) (e := w32 ((i : Int) + 1)) (z := (i : Int) + 1) r_316_1026 rfl rfl rfl (w32_eq (by omega) (by omega) (by omega)) ?_
  refine gx_ia (n := i + 1) (x := s1) r_316_1027 rfl h0 (by omega) ⟨rfl, by show i + 1 < L; omega⟩ ((sc_n1018 (i + 1)).trans e_s1.symm) ?_
  show GX T 1000 316 1028 [(2, 0), (2, 1), (2, 192), (0, (i : Int))] [(0, s1), (2, 192)] n1018 (fun v _ => v = (0, 1))
  refine gx_ci (nx := 1031) (S2 := []) (gx_xi (args := [(2, 192), (0, s1)]) (pk_171 hT) ⟨gq_o192, gq_any (by omega) (by omega), trivial⟩ q1018.2.2.1 ex_n1018 (fun z => absurd z (by decide)) rfl) r_316_1028 rfl rfl rfl rfl rfl (rcv_v rfl (tk_192 hT) (by decide) rfl (by decide)) rfl (by decide) rfl (fun x1028 n1028 q1028 => ?_)
  show GX T 1000 316 1031 [(2, 0), (2, 1), (2, 192), (0, (i : Int))] [(0, x1028)] n1028 (fun v _ => v = (0, 1))
  have sc_n1028 := sc_fr q1028.2.2.2.2.1 (by decide) sc_n1018
  have rl_n1028 : RelR n1028 := Rel_fr q1028.2.2.2.2.1 (by decide) (by decide) (by decide) (by decide) (by decide) (by decide) (by decide) (by decide) rl_n1018
  refine gx_st (L' := [(2, 0), (2, 1), (2, 192), (0, (i : Int))]) (S' := []) r_316_1031 rfl rfl rfl ?_
  refine gx_st (L' := [(2, 0), (2, 1), (2, 192), (0, (i : Int))]) (S' := []) r_316_1032 rfl rfl rfl ?_
  exact hnext n1028 ⟨q1028.2.2.1, q1028.2.2.2.1, sc_n1028, rl_n1028⟩
theorem pk_32 (hT : TT T) : ConH T cn_32 := fun args m => ((all_con hT 329).1 (by decide)) cn_32 cx_32 args m
theorem pk_172 (hT : TT T) : ConX T cn_172 false true := by
  have z := ((all_con hT 872).2 (by decide)) cn_172 cx_172
  rw [show (Fl 872).2 = (false, true) by decide] at z
  exact z
theorem case_29 (hT : TT T) (h0 : T[0]? = some (100, L)) (hL : L ≤ 3072) (hi : i + 6 ≤ L) (hl : LI xs m) (hnext : ∀ m, LI xs m → GX T 1000 316 2098 [(2, 0), (2, 1), (2, 192), (0, (i : Int))] [] m (fun v _ => v = (0, 1))) : GX T 1000 316 1035 [(2, 0), (2, 1), (2, 192), (0, (i : Int))] [] m (fun v _ => v = (0, 1)) := by
  obtain ⟨s1, e_s1⟩ : ∃ z, z = (xs (i + 1)).toInt := ⟨_, rfl⟩
  have b_s1 := i32_in (xs (i + 1))
  rw [← e_s1] at b_s1
  unfold in32 at b_s1
  obtain ⟨s2, e_s2⟩ : ∃ z, z = (xs (i + 2)).toInt := ⟨_, rfl⟩
  have b_s2 := i32_in (xs (i + 2))
  rw [← e_s2] at b_s2
  unfold in32 at b_s2
  obtain ⟨s3, e_s3⟩ : ∃ z, z = (xs (i + 3)).toInt := ⟨_, rfl⟩
  have b_s3 := i32_in (xs (i + 3))
  rw [← e_s3] at b_s3
  unfold in32 at b_s3
  obtain ⟨s4, e_s4⟩ : ∃ z, z = (xs (i + 4)).toInt := ⟨_, rfl⟩
  have b_s4 := i32_in (xs (i + 4))
  rw [← e_s4] at b_s4
  unfold in32 at b_s4
  obtain ⟨s5, e_s5⟩ : ∃ z, z = (xs (i + 5)).toInt := ⟨_, rfl⟩
  have b_s5 := i32_in (xs (i + 5))
  rw [← e_s5] at b_s5
  unfold in32 at b_s5
  refine gx_st (L' := [(2, 0), (2, 1), (2, 192), (0, (i : Int))]) (S' := [(2, 1)]) r_316_1035 rfl rfl rfl ?_
  refine gx_ci (nx := 1039) (S2 := []) (gx_hi (args := [(2, 1)]) (pk_32 hT) ⟨gq_o1, trivial⟩ hl.1 rfl) r_316_1036 rfl rfl rfl rfl rfl (rcv_v rfl (tk_1 hT) (by decide) rfl (by decide)) rfl (by decide) rfl (fun x1036 n1036 q1036 => ?_)
  show GX T 1000 316 1039 [(2, 0), (2, 1), (2, 192), (0, (i : Int))] [(0, x1036)] n1036 (fun v _ => v = (0, 1))
  have ex_n1036 : Ext n1036 := Ext_fr q1036.2.2.2 (by decide) hl.2.1
  have sc_n1036 := sc_fr q1036.2.2.2 (by decide) hl.2.2.1
  have rl_n1036 : RelR n1036 := Rel_fr q1036.2.2.2 (by decide) (by decide) (by decide) (by decide) (by decide) (by decide) (by decide) (by decide) hl.2.2.2
  refine gx_st (L' := [(2, 0), (2, 1), (2, 192), (0, (i : Int))]) (S' := []) r_316_1039 rfl rfl rfl ?_
  refine gx_st (L' := [(2, 0), (2, 1), (2, 192), (0, (i : Int))]) (S' := [(2, 192)]) r_316_1040 rfl rfl rfl ?_
  refine gx_ci (nx := 1044) (S2 := []) (gx_xi (args := [(2, 192)]) (pk_172 hT) ⟨gq_o192, trivial⟩ q1036.2.2.1 ex_n1036 (fun z => absurd z (by decide)) rfl) r_316_1041 rfl rfl rfl rfl rfl (rcv_v rfl (tk_192 hT) (by decide) rfl (by decide)) rfl (by decide) rfl (fun x1041 n1041 q1041 => ?_)
  show GX T 1000 316 1044 [(2, 0), (2, 1), (2, 192), (0, (i : Int))] [(0, x1041)] n1041 (fun v _ => v = (0, 1))
  have sc_n1041 := sc_fr q1041.2.2.2.2.1 (by decide) sc_n1036
  have rl_n1041 : RelR n1041 := Rel_fr q1041.2.2.2.2.1 (by decide) (by decide) (by decide) (by decide) (by decide) (by decide) (by decide) (by decide) rl_n1036
  refine gx_st (L' := [(2, 0), (2, 1), (2, 192), (0, (i : Int))]) (S' := []) r_316_1044 rfl rfl rfl ?_
  refine gx_st (L' := [(2, 0), (2, 1), (2, 192), (0, (i : Int))]) (S' := []) r_316_1045 rfl rfl rfl ?_
  exact hnext n1041 ⟨q1041.2.2.1, q1041.2.2.2.1, sc_n1041, rl_n1041⟩
theorem pk_34 (hT : TT T) : ConH T cn_34 := fun args m => ((all_con hT 362).1 (by decide)) cn_34 cx_34 args m
theorem pk_176 (hT : TT T) : ConX T cn_176 false false := by
  have z := ((all_con hT 882).2 (by decide)) cn_176 cx_176
  rw [show (Fl 882).2 = (false, false) by decide] at z
  exact z
theorem case_30 (hT : TT T) (h0 : T[0]? = some (100, L)) (hL : L ≤ 3072) (hi : i + 6 ≤ L) (hl : LI xs m) (hnext : ∀ m, LI xs m → GX T 1000 316 2098 [(2, 0), (2, 1), (2, 192), (0, (i : Int))] [] m (fun v _ => v = (0, 1))) : GX T 1000 316 1048 [(2, 0), (2, 1), (2, 192), (0, (i : Int))] [] m (fun v _ => v = (0, 1)) := by
  obtain ⟨s1, e_s1⟩ : ∃ z, z = (xs (i + 1)).toInt := ⟨_, rfl⟩
  have b_s1 := i32_in (xs (i + 1))
  rw [← e_s1] at b_s1
  unfold in32 at b_s1
  obtain ⟨s2, e_s2⟩ : ∃ z, z = (xs (i + 2)).toInt := ⟨_, rfl⟩
  have b_s2 := i32_in (xs (i + 2))
  rw [← e_s2] at b_s2
  unfold in32 at b_s2
  obtain ⟨s3, e_s3⟩ : ∃ z, z = (xs (i + 3)).toInt := ⟨_, rfl⟩
  have b_s3 := i32_in (xs (i + 3))
  rw [← e_s3] at b_s3
  unfold in32 at b_s3
  obtain ⟨s4, e_s4⟩ : ∃ z, z = (xs (i + 4)).toInt := ⟨_, rfl⟩
  have b_s4 := i32_in (xs (i + 4))
  rw [← e_s4] at b_s4
  unfold in32 at b_s4
  obtain ⟨s5, e_s5⟩ : ∃ z, z = (xs (i + 5)).toInt := ⟨_, rfl⟩
  have b_s5 := i32_in (xs (i + 5))
  rw [← e_s5] at b_s5
  unfold in32 at b_s5
  refine gx_st (L' := [(2, 0), (2, 1), (2, 192), (0, (i : Int))]) (S' := [(2, 1)]) r_316_1048 rfl rfl rfl ?_
  refine gx_st (L' := [(2, 0), (2, 1), (2, 192), (0, (i : Int))]) (S' := [(2, 0), (2, 1)]) r_316_1049 rfl rfl rfl ?_
  refine gx_st (L' := [(2, 0), (2, 1), (2, 192), (0, (i : Int))]) (S' := [(0, (i : Int)), (2, 0), (2, 1)]) r_316_1050 rfl rfl rfl ?_
  refine gx_st (L' := [(2, 0), (2, 1), (2, 192), (0, (i : Int))]) (S' := [(0, 1), (0, (i : Int)), (2, 0), (2, 1)]) r_316_1051 rfl rfl rfl ?_
  refine gx_ar (L' := [(2, 0), (2, 1), (2, 192), (0, (i : Int))]) (S' := [(2, 0), (2, 1)]) (t := 0) (e := w32 ((i : Int) + 1)) (z := (i : Int) + 1) r_316_1052 rfl rfl rfl (w32_eq (by omega) (by omega) (by omega)) ?_
  refine gx_ia (n := i + 1) (x := s1) r_316_1053 rfl h0 (by omega) ⟨rfl, by show i + 1 < L; omega⟩ ((hl.2.2.1 (i + 1)).trans e_s1.symm) ?_
  show GX T 1000 316 1054 [(2, 0), (2, 1), (2, 192), (0, (i : Int))] [(0, s1), (2, 1)] m (fun v _ => v = (0, 1))
  refine gx_ci (nx := 1057) (S2 := []) (gx_hi (args := [(2, 1), (0, s1)]) (pk_34 hT) ⟨gq_o1, gq_any (by omega) (by omega), trivial⟩ hl.1 rfl) r_316_1054 rfl rfl rfl rfl rfl (rcv_v rfl (tk_1 hT) (by decide) rfl (by decide)) rfl (by decide) rfl (fun x1054 n1054 q1054 => ?_)
  show GX T 1000 316 1057 [(2, 0), (2, 1), (2, 192), (0, (i : Int))] [(0, x1054)] n1054 (fun v _ => v = (0, 1))
  have ex_n1054 : Ext n1054 := Ext_fr q1054.2.2.2 (by decide) hl.2.1
  have sc_n1054 := sc_fr q1054.2.2.2 (by decide) hl.2.2.1
  have rl_n1054 : RelR n1054 := Rel_fr q1054.2.2.2 (by decide) (by decide) (by decide) (by decide) (by decide) (by decide) (by decide) (by decide) hl.2.2.2
  refine gx_st (L' := [(2, 0), (2, 1), (2, 192), (0, (i : Int))]) (S' := []) r_316_1057 rfl rfl rfl ?_
  refine gx_st (L' := [(2, 0), (2, 1), (2, 192), (0, (i : Int))]) (S' := [(2, 192)]) r_316_1058 rfl rfl rfl ?_
  refine gx_st (L' := [(2, 0), (2, 1), (2, 192), (0, (i : Int))]) (S' := [(2, 0), (2, 192)]) r_316_1059 rfl rfl rfl ?_
  refine gx_st (L' := [(2, 0), (2, 1), (2, 192), (0, (i : Int))]) (S' := [(0, (i : Int)), (2, 0), (2, 192)]) r_316_1060 rfl rfl rfl ?_
  refine gx_st (L' := [(2, 0), (2, 1), (2, 192), (0, (i : Int))]) (S' := [(0, 1), (0, (i : Int)), (2, 0), (2, 192)]) r_316_1061 rfl rfl rfl ?_
  refine gx_ar (L' := [(2, 0), (2, 1), (2, 192), (0, (i : Int))]) (S' := [(2, 0), (2, 192)]) (t := 0) (e := w32 ((i : Int) + 1)) (z := (i : Int) + 1) r_316_1062 rfl rfl rfl (w32_eq (by omega) (by omega) (by omega)) ?_
  refine gx_ia (n := i + 1) (x := s1) r_316_1063 rfl h0 (by omega) ⟨rfl, by show i + 1 < L; omega⟩ ((sc_n1054 (i + 1)).trans e_s1.symm) ?_
  show GX T 1000 316 1064 [(2, 0), (2, 1), (2, 192), (0, (i : Int))] [(0, s1), (2, 192)] n1054 (fun v _ => v = (0, 1))
  refine gx_ci (nx := 1067) (S2 := []) (gx_xi (args := [(2, 192), (0, s1)]) (pk_176 hT) ⟨gq_o192, gq_any (by omega) (by omega), trivial⟩ q1054.2.2.1 ex_n1054 (fun z => absurd z (by decide)) rfl) r_316_1064 rfl rfl rfl rfl rfl (rcv_v rfl (tk_192 hT) (by decide) rfl (by decide)) rfl (by decide) rfl (fun x1064 n1064 q1064 => ?_)
  show GX T 1000 316 1067 [(2, 0), (2, 1), (2, 192), (0, (i : Int))] [(0, x1064)] n1064 (fun v _ => v = (0, 1))
  have sc_n1064 := sc_fr q1064.2.2.2.2.1 (by decide) sc_n1054
  have rl_n1064 : RelR n1064 := Rel_fr q1064.2.2.2.2.1 (by decide) (by decide) (by decide) (by decide) (by decide) (by decide) (by decide) (by decide) rl_n1054
  refine gx_st (L' := [(2, 0), (2, 1), (2, 192), (0, (i : Int))]) (S' := []) r_316_1067 rfl rfl rfl ?_
  refine gx_st (L' := [(2, 0), (2, 1), (2, 192), (0, (i : Int))]) (S' := []) r_316_1068 rfl rfl rfl ?_
  exact hnext n1064 ⟨q1064.2.2.1, q1064.2.2.2.1, sc_n1064, rl_n1064⟩
theorem pk_35 (hT : TT T) : ConH T cn_35 := fun args m => ((all_con hT 364).1 (by decide)) cn_35 cx_35 args m
theorem pk_177 (hT : TT T) : ConX T cn_177 false false := by
  have z := ((all_con hT 883).2 (by decide)) cn_177 cx_177
  rw [show (Fl 883).2 = (false, false) by decide] at z
  exact z
theorem case_31 (hT : TT T) (h0 : T[0]? = some (100, L)) (hL : L ≤ 3072) (hi : i + 6 ≤ L) (hl : LI xs m) (hnext : ∀ m, LI xs m → GX T 1000 316 2098 [(2, 0), (2, 1), (2, 192), (0, (i : Int))] [] m (fun v _ => v = (0, 1))) : GX T 1000 316 1071 [(2, 0), (2, 1), (2, 192), (0, (i : Int))] [] m (fun v _ => v = (0, 1)) := by
  obtain ⟨s1, e_s1⟩ : ∃ z, z = (xs (i + 1)).toInt := ⟨_, rfl⟩
  have b_s1 := i32_in (xs (i + 1))
  rw [← e_s1] at b_s1
  unfold in32 at b_s1
  obtain ⟨s2, e_s2⟩ : ∃ z, z = (xs (i + 2)).toInt := ⟨_, rfl⟩
  have b_s2 := i32_in (xs (i + 2))
  rw [← e_s2] at b_s2
  unfold in32 at b_s2
  obtain ⟨s3, e_s3⟩ : ∃ z, z = (xs (i + 3)).toInt := ⟨_, rfl⟩
  have b_s3 := i32_in (xs (i + 3))
  rw [← e_s3] at b_s3
  unfold in32 at b_s3
  obtain ⟨s4, e_s4⟩ : ∃ z, z = (xs (i + 4)).toInt := ⟨_, rfl⟩
  have b_s4 := i32_in (xs (i + 4))
  rw [← e_s4] at b_s4
  unfold in32 at b_s4
  obtain ⟨s5, e_s5⟩ : ∃ z, z = (xs (i + 5)).toInt := ⟨_, rfl⟩
  have b_s5 := i32_in (xs (i + 5))
  rw [← e_s5] at b_s5
  unfold in32 at b_s5
  refine gx_st (L' := [(2, 0), (2, 1), (2, 192), (0, (i : Int))]) (S' := [(2, 1)]) r_316_1071 rfl rfl rfl ?_
  refine gx_ci (nx := 1075) (S2 := []) (gx_hi (args := [(2, 1)]) (pk_35 hT) ⟨gq_o1, trivial⟩ hl.1 rfl) r_316_1072 rfl rfl rfl rfl rfl (rcv_v rfl (tk_1 hT) (by decide) rfl (by decide)) rfl (by decide) rfl (fun x1072 n1072 q1072 => ?_)
  show GX T 1000 316 1075 [(2, 0), (2, 1), (2, 192), (0, (i : Int))] [(0, x1072)] n1072 (fun v _ => v = (0, 1))
  have ex_n1072 : Ext n1072 := Ext_fr q1072.2.2.2 (by decide) hl.2.1
  have sc_n1072 := sc_fr q1072.2.2.2 (by decide) hl.2.2.1
  have rl_n1072 : RelR n1072 := Rel_fr q1072.2.2.2 (by decide) (by decide) (by decide) (by decide) (by decide) (by decide) (by decide) (by decide) hl.2.2.2
  refine gx_st (L' := [(2, 0), (2, 1), (2, 192), (0, (i : Int))]) (S' := []) r_316_1075 rfl rfl rfl ?_
  refine gx_st (L' := [(2, 0), (2, 1), (2, 192), (0, (i : Int))]) (S' := [(2, 192)]) r_316_1076 rfl rfl rfl ?_
  refine gx_ci (nx := 1080) (S2 := []) (gx_xi (args := [(2, 192)]) (pk_177 hT) ⟨gq_o192, trivial⟩ q1072.2.2.1 ex_n1072 (fun z => absurd z (by decide)) rfl) r_316_1077 rfl rfl rfl rfl rfl (rcv_v rfl (tk_192 hT) (by decide) rfl (by decide)) rfl (by decide) rfl (fun x1077 n1077 q1077 => ?_)
  show GX T 1000 316 1080 [(2, 0), (2, 1), (2, 192), (0, (i : Int))] [(0, x1077)] n1077 (fun v _ => v = (0, 1))
  have sc_n1077 := sc_fr q1077.2.2.2.2.1 (by decide) sc_n1072
  have rl_n1077 : RelR n1077 := Rel_fr q1077.2.2.2.2.1 (by decide) (by decide) (by decide) (by decide) (by decide) (by decide) (by decide) (by decide) rl_n1072
  refine gx_st (L' := [(2, 0), (2, 1), (2, 192), (0, (i : Int))]) (S' := []) r_316_1080 rfl rfl rfl ?_
  refine gx_st (L' := [(2, 0), (2, 1), (2, 192), (0, (i : Int))]) (S' := []) r_316_1081 rfl rfl rfl ?_
  exact hnext n1077 ⟨q1077.2.2.1, q1077.2.2.2.1, sc_n1077, rl_n1077⟩
theorem pk_12 (hT : TT T) : ConH T cn_12 := fun args m => ((all_con hT 295).1 (by decide)) cn_12 cx_12 args m
theorem pk_129 (hT : TT T) : ConX T cn_129 false false := by
  have z := ((all_con hT 725).2 (by decide)) cn_129 cx_129
  rw [show (Fl 725).2 = (false, false) by decide] at z
  exact z
theorem case_32 (hT : TT T) (h0 : T[0]? = some (100, L)) (hL : L ≤ 3072) (hi : i + 6 ≤ L) (hl : LI xs m) (hnext : ∀ m, LI xs m → GX T 1000 316 2098 [(2, 0), (2, 1), (2, 192), (0, (i : Int))] [] m (fun v _ => v = (0, 1))) : GX T 1000 316 1084 [(2, 0), (2, 1), (2, 192), (0, (i : Int))] [] m (fun v _ => v = (0, 1)) := by
  obtain ⟨s1, e_s1⟩ : ∃ z, z = (xs (i + 1)).toInt := ⟨_, rfl⟩
  have b_s1 := i32_in (xs (i + 1))
  rw [← e_s1] at b_s1
  unfold in32 at b_s1
  obtain ⟨s2, e_s2⟩ : ∃ z, z = (xs (i + 2)).toInt := ⟨_, rfl⟩
  have b_s2 := i32_in (xs (i + 2))
  rw [← e_s2] at b_s2
  unfold in32 at b_s2
  obtain ⟨s3, e_s3⟩ : ∃ z, z = (xs (i + 3)).toInt := ⟨_, rfl⟩
  have b_s3 := i32_in (xs (i + 3))
  rw [← e_s3] at b_s3
  unfold in32 at b_s3
  obtain ⟨s4, e_s4⟩ : ∃ z, z = (xs (i + 4)).toInt := ⟨_, rfl⟩
  have b_s4 := i32_in (xs (i + 4))
  rw [← e_s4] at b_s4
  unfold in32 at b_s4
  obtain ⟨s5, e_s5⟩ : ∃ z, z = (xs (i + 5)).toInt := ⟨_, rfl⟩
  have b_s5 := i32_in (xs (i + 5))
  rw [← e_s5] at b_s5
  unfold in32 at b_s5
  refine gx_st (L' := [(2, 0), (2, 1), (2, 192), (0, (i : Int))]) (S' := [(2, 1)]) r_316_1084 rfl rfl rfl ?_
  refine gx_st (L' := [(2, 0), (2, 1), (2, 192), (0, (i : Int))]) (S' := [(2, 0), (2, 1)]) r_316_1085 rfl rfl rfl ?_
  refine gx_st (L' := [(2, 0), (2, 1), (2, 192), (0, (i : Int))]) (S' := [(0, (i : Int)), (2, 0), (2, 1)]) r_316_1086 rfl rfl rfl ?_
  refine gx_st (L' := [(2, 0), (2, 1), (2, 192), (0, (i : Int))]) (S' := [(0, 1), (0, (i : Int)), (2, 0), (2, 1)]) r_316_1087 rfl rfl rfl ?_
  refine gx_ar (L' := [(2, 0), (2, 1), (2, 192), (0, (i : Int))]) (S' := [(2, 0), (2, 1)]) (t := 0) (e := w32 ((i : Int) + 1)) (z := (i : Int) + 1) r_316_1088 rfl rfl rfl (w32_eq (by omega) (by omega) (by omega)) ?_
  refine gx_ia (n := i + 1) (x := s1) r_316_1089 rfl h0 (by omega) ⟨rfl, by show i + 1 < L; omega⟩ ((hl.2.2.1 (i + 1)).trans e_s1.symm) ?_
  show GX T 1000 316 1090 [(2, 0), (2, 1), (2, 192), (0, (i : Int))] [(0, s1), (2, 1)] m (fun v _ => v = (0, 1))
  refine gx_ci (nx := 1093) (S2 := []) (gx_hi (args := [(2, 1), (0, s1)]) (pk_12 hT) ⟨gq_o1, gq_any (by omega) (by omega), trivial⟩ hl.1 rfl) r_316_1090 rfl rfl rfl rfl rfl (rcv_v rfl (tk_1 hT) (by decide) rfl (by decide)) rfl (by decide) rfl (fun x1090 n1090 q1090 => ?_)
  show GX T 1000 316 1093 [(2, 0), (2, 1), (2, 192), (0, (i : Int))] [(0, x1090)] n1090 (fun v _ => v = (0, 1))
  have ex_n1090 : Ext n1090 := Ext_fr q1090.2.2.2 (by decide) hl.2.1
  have sc_n1090 := sc_fr q1090.2.2.2 (by decide) hl.2.2.1
  have rl_n1090 : RelR n1090 := Rel_fr q1090.2.2.2 (by decide) (by decide) (by decide) (by decide) (by decide) (by decide) (by decide) (by decide) hl.2.2.2
  refine gx_st (L' := [(2, 0), (2, 1), (2, 192), (0, (i : Int))]) (S' := []) r_316_1093 rfl rfl rfl ?_
  refine gx_st (L' := [(2, 0), (2, 1), (2, 192), (0, (i : Int))]) (S' := [(2, 192)]) r_316_1094 rfl rfl rfl ?_
  refine gx_st (L' := [(2, 0), (2, 1), (2, 192), (0, (i : Int))]) (S' := [(2, 0), (2, 192)]) r_316_1095 rfl rfl rfl ?_
  refine gx_st (L' := [(2, 0), (2, 1), (2, 192), (0, (i : Int))]) (S' := [(0, (i : Int)), (2, 0), (2, 192)]) r_316_1096 rfl rfl rfl ?_
  refine gx_st (L' := [(2, 0), (2, 1), (2, 192), (0, (i : Int))]) (S' := [(0, 1), (0, (i : Int)), (2, 0), (2, 192)]) r_316_1097 rfl rfl rfl ?_
  refine gx_ar (L' := [(2, 0), (2, 1), (2, 192), (0, (i : Int))]) (S' := [(2, 0), (2, 192)]) (t := 0) (e := w32 ((i : Int) + 1)) (z := (i : Int) + 1) r_316_1098 rfl rfl rfl (w32_eq (by omega) (by omega) (by omega)) ?_
  refine gx_ia (n := i + 1) (x := s1) r_316_1099 rfl h0 (by omega) ⟨rfl, by show i + 1 < L; omega⟩ ((sc_n1090 (i + 1)).trans e_s1.symm) ?_
  show GX T 1000 316 1100 [(2, 0), (2, 1), (2, 192), (0, (i : Int))] [(0, s1), (2, 192)] n1090 (fun v _ => v = (0, 1))
  refine gx_ci (nx := 1103) (S2 := []) (gx_xi (args := [(2, 192), (0, s1)]) (pk_129 hT) ⟨gq_o192, gq_any (by omega) (by omega), trivial⟩ q1090.2.2.1 ex_n1090 (fun z => absurd z (by decide)) rfl) r_316_1100 rfl rfl rfl rfl rfl (rcv_v rfl (tk_192 hT) (by decide) rfl (by decide)) rfl (by decide) rfl (fun x1100 n1100 q1100 => ?_)
  show GX T 1000 316 1103 [(2, 0), (2, 1), (2, 192), (0, (i : Int))] [(0, x1100)] n1100 (fun v _ => v = (0, 1))
  have sc_n1100 := sc_fr q1100.2.2.2.2.1 (by decide) sc_n1090
  have rl_n1100 : RelR n1100 := Rel_fr q1100.2.2.2.2.1 (by decide) (by decide) (by decide) (by decide) (by decide) (by decide) (by decide) (by decide) rl_n1090
  refine gx_st (L' := [(2, 0), (2, 1), (2, 192), (0, (i : Int))]) (S' := []) r_316_1103 rfl rfl rfl ?_
  refine gx_st (L' := [(2, 0), (2, 1), (2, 192), (0, (i : Int))]) (S' := []) r_316_1104 rfl rfl rfl ?_
  exact hnext n1100 ⟨q1100.2.2.1, q1100.2.2.2.1, sc_n1100, rl_n1100⟩
theorem pk_13 (hT : TT T) : ConH T cn_13 := fun args m => ((all_con hT 296).1 (by decide)) cn_13 cx_13 args m
theorem pk_130 (hT : TT T) : ConX T cn_130 false false := by
  have z := ((all_con hT 726).2 (by decide)) cn_130 cx_130
  rw [show (Fl 726).2 = (false, false) by decide] at z
  exact z
theorem case_33 (hT : TT T) (h0 : T[0]? = some (100, L)) (hL : L ≤ 3072) (hi : i + 6 ≤ L) (hl : LI xs m) (hnext : ∀ m, LI xs m → GX T 1000 316 2098 [(2, 0), (2, 1), (2, 192), (0, (i : Int))] [] m (fun v _ => v = (0, 1))) : GX T 1000 316 1107 [(2, 0), (2, 1), (2, 192), (0, (i : Int))] [] m (fun v _ => v = (0, 1)) := by
  obtain ⟨s1, e_s1⟩ : ∃ z, z = (xs (i + 1)).toInt := ⟨_, rfl⟩
  have b_s1 := i32_in (xs (i + 1))
  rw [← e_s1] at b_s1
  unfold in32 at b_s1
  obtain ⟨s2, e_s2⟩ : ∃ z, z = (xs (i + 2)).toInt := ⟨_, rfl⟩
  have b_s2 := i32_in (xs (i + 2))
  rw [← e_s2] at b_s2
  unfold in32 at b_s2
  obtain ⟨s3, e_s3⟩ : ∃ z, z = (xs (i + 3)).toInt := ⟨_, rfl⟩
  have b_s3 := i32_in (xs (i + 3))
  rw [← e_s3] at b_s3
  unfold in32 at b_s3
  obtain ⟨s4, e_s4⟩ : ∃ z, z = (xs (i + 4)).toInt := ⟨_, rfl⟩
  have b_s4 := i32_in (xs (i + 4))
  rw [← e_s4] at b_s4
  unfold in32 at b_s4
  obtain ⟨s5, e_s5⟩ : ∃ z, z = (xs (i + 5)).toInt := ⟨_, rfl⟩
  have b_s5 := i32_in (xs (i + 5))
  rw [← e_s5] at b_s5
  unfold in32 at b_s5
  refine gx_st (L' := [(2, 0), (2, 1), (2, 192), (0, (i : Int))]) (S' := [(2, 1)]) r_316_1107 rfl rfl rfl ?_
  refine gx_ci (nx := 1111) (S2 := []) (gx_hi (args := [(2, 1)]) (pk_13 hT) ⟨gq_o1, trivial⟩ hl.1 rfl) r_316_1108 rfl rfl rfl rfl rfl (rcv_v rfl (tk_1 hT) (by decide) rfl (by decide)) rfl (by decide) rfl (fun x1108 n1108 q1108 => ?_)
  show GX T 1000 316 1111 [(2, 0), (2, 1), (2, 192), (0, (i : Int))] [(0, x1108)] n1108 (fun v _ => v = (0, 1))
  have ex_n1108 : Ext n1108 := Ext_fr q1108.2.2.2 (by decide) hl.2.1
  have sc_n1108 := sc_fr q1108.2.2.2 (by decide) hl.2.2.1
  have rl_n1108 : RelR n1108 := Rel_fr q1108.2.2.2 (by decide) (by decide) (by decide) (by decide) (by decide) (by decide) (by decide) (by decide) hl.2.2.2
  refine gx_st (L' := [(2, 0), (2, 1), (2, 192), (0, (i : Int))]) (S' := []) r_316_1111 rfl rfl rfl ?_
  refine gx_st (L' := [(2, 0), (2, 1), (2, 192), (0, (i : Int))]) (S' := [(2, 192)]) r_316_1112 rfl rfl rfl ?_
  refine gx_ci (nx := 1116) (S2 := []) (gx_xi (args := [(2, 192)]) (pk_130 hT) ⟨gq_o192, trivial⟩ q1108.2.2.1 ex_n1108 (fun z => absurd z (by decide)) rfl) r_316_1113 rfl rfl rfl rfl rfl (rcv_v rfl (tk_192 hT) (by decide) rfl (by decide)) rfl (by decide) rfl (fun x1113 n1113 q1113 => ?_)
  show GX T 1000 316 1116 [(2, 0), (2, 1), (2, 192), (0, (i : Int))] [(0, x1113)] n1113 (fun v _ => v = (0, 1))
  have sc_n1113 := sc_fr q1113.2.2.2.2.1 (by decide) sc_n1108
  have rl_n1113 : RelR n1113 := Rel_fr q1113.2.2.2.2.1 (by decide) (by decide) (by decide) (by decide) (by decide) (by decide) (by decide) (by decide) rl_n1108
  refine gx_st (L' := [(2, 0), (2, 1), (2, 192), (0, (i : Int))]) (S' := []) r_316_1116 rfl rfl rfl ?_
  refine gx_st (L' := [(2, 0), (2, 1), (2, 192), (0, (i : Int))]) (S' := []) r_316_1117 rfl rfl rfl ?_
  exact hnext n1113 ⟨q1113.2.2.1, q1113.2.2.2.1, sc_n1113, rl_n1113⟩
theorem pk_33 (hT : TT T) : ConH T cn_33 := fun args m => ((all_con hT 330).1 (by decide)) cn_33 cx_33 args m
theorem pk_173 (hT : TT T) : ConX T cn_173 false false := by
  have z := ((all_con hT 876).2 (by decide)) cn_173 cx_173
  rw [show (Fl 876).2 = (false, false) by decide] at z
  exact z
theorem case_34 (hT : TT T) (h0 : T[0]? = some (100, L)) (hL : L ≤ 3072) (hi : i + 6 ≤ L) (hl : LI xs m) (hnext : ∀ m, LI xs m → GX T 1000 316 2098 [(2, 0), (2, 1), (2, 192), (0, (i : Int))] [] m (fun v _ => v = (0, 1))) : GX T 1000 316 1120 [(2, 0), (2, 1), (2, 192), (0, (i : Int))] [] m (fun v _ => v = (0, 1)) := by
  obtain ⟨s1, e_s1⟩ : ∃ z, z = (xs (i + 1)).toInt := ⟨_, rfl⟩
  have b_s1 := i32_in (xs (i + 1))
  rw [← e_s1] at b_s1
  unfold in32 at b_s1
  obtain ⟨s2, e_s2⟩ : ∃ z, z = (xs (i + 2)).toInt := ⟨_, rfl⟩
  have b_s2 := i32_in (xs (i + 2))
  rw [← e_s2] at b_s2
  unfold in32 at b_s2
  obtain ⟨s3, e_s3⟩ : ∃ z, z = (xs (i + 3)).toInt := ⟨_, rfl⟩
  have b_s3 := i32_in (xs (i + 3))
  rw [← e_s3] at b_s3
  unfold in32 at b_s3
  obtain ⟨s4, e_s4⟩ : ∃ z, z = (xs (i + 4)).toInt := ⟨_, rfl⟩
  have b_s4 := i32_in (xs (i + 4))
  rw [← e_s4] at b_s4
  unfold in32 at b_s4
  obtain ⟨s5, e_s5⟩ : ∃ z, z = (xs (i + 5)).toInt := ⟨_, rfl⟩
  have b_s5 := i32_in (xs (i + 5))
  rw [← e_s5] at b_s5
  unfold in32 at b_s5
  refine gx_st (L' := [(2, 0), (2, 1), (2, 192), (0, (i : Int))]) (S' := [(2, 1)]) r_316_1120 rfl rfl rfl ?_
  refine gx_st (L' := [(2, 0), (2, 1), (2, 192), (0, (i : Int))]) (S' := [(2, 0), (2, 1)]) r_316_1121 rfl rfl rfl ?_
  refine gx_st (L' := [(2, 0), (2, 1), (2, 192), (0, (i : Int))]) (S' := [(0, (i : Int)), (2, 0), (2, 1)]) r_316_1122 rfl rfl rfl ?_
  refine gx_st (L' := [(2, 0), (2, 1), (2, 192), (0, (i : Int))]) (S' := [(0, 1), (0, (i : Int)), (2, 0), (2, 1)]) r_316_1123 rfl rfl rfl ?_
  refine gx_ar (L' := [(2, 0), (2, 1), (2, 192), (0, (i : Int))]) (S' := [(2, 0), (2, 1)]) (t := 0) (e := w32 ((i : Int) + 1)) (z := (i : Int) + 1) r_316_1124 rfl rfl rfl (w32_eq (by omega) (by omega) (by omega)) ?_
  refine gx_ia (n := i + 1) (x := s1) r_316_1125 rfl h0 (by omega) ⟨rfl, by show i + 1 < L; omega⟩ ((hl.2.2.1 (i + 1)).trans e_s1.symm) ?_
  show GX T 1000 316 1126 [(2, 0), (2, 1), (2, 192), (0, (i : Int))] [(0, s1), (2, 1)] m (fun v _ => v = (0, 1))
  refine gx_ci (nx := 1129) (S2 := []) (gx_hi (args := [(2, 1), (0, s1)]) (pk_33 hT) ⟨gq_o1, gq_any (by omega) (by omega), trivial⟩ hl.1 rfl) r_316_1126 rfl rfl rfl rfl rfl (rcv_v rfl (tk_1 hT) (by decide) rfl (by decide)) rfl (by decide) rfl (fun x1126 n1126 q1126 => ?_)
  show GX T 1000 316 1129 [(2, 0), (2, 1), (2, 192), (0, (i : Int))] [(0, x1126)] n1126 (fun v _ => v = (0, 1))
  have ex_n1126 : Ext n1126 := Ext_fr q1126.2.2.2 (by decide) hl.2.1
  have sc_n1126 := sc_fr q1126.2.2.2 (by decide) hl.2.2.1
  have rl_n1126 : RelR n1126 := Rel_fr q1126.2.2.2 (by decide) (by decide) (by decide) (by decide) (by decide) (by decide) (by decide) (by decide) hl.2.2.2
  refine gx_st (L' := [(2, 0), (2, 1), (2, 192), (0, (i : Int))]) (S' := []) r_316_1129 rfl rfl rfl ?_
  refine gx_st (L' := [(2, 0), (2, 1), (2, 192), (0, (i : Int))]) (S' := [(2, 192)]) r_316_1130 rfl rfl rfl ?_
  refine gx_st (L' := [(2, 0), (2, 1), (2, 192), (0, (i : Int))]) (S' := [(2, 0), (2, 192)]) r_316_1131 rfl rfl rfl ?_
  refine gx_st (L' := [(2, 0), (2, 1), (2, 192), (0, (i : Int))]) (S' := [(0, (i : Int)), (2, 0), (2, 192)]) r_316_1132 rfl rfl rfl ?_
  refine gx_st (L' := [(2, 0), (2, 1), (2, 192), (0, (i : Int))]) (S' := [(0, 1), (0, (i : Int)), (2, 0), (2, 192)]) r_316_1133 rfl rfl rfl ?_
  refine gx_ar (L' := [(2, 0), (2, 1), (2, 192), (0, (i : Int))]) (S' := [(2, 0), (2, 192)]) (t := 0) (e := w32 ((i : Int) + 1)) (z := (i : Int) + 1) r_316_1134 rfl rfl rfl (w32_eq (by omega) (by omega) (by omega)) ?_
  refine gx_ia (n := i + 1) (x := s1) r_316_1135 rfl h0 (by omega) ⟨rfl, by show i + 1 < L; omega⟩ ((sc_n1126 (i + 1)).trans e_s1.symm) ?_
  show GX T 1000 316 1136 [(2, 0), (2, 1), (2, 192), (0, (i : Int))] [(0, s1), (2, 192)] n1126 (fun v _ => v = (0, 1))
  refine gx_ci (nx := 1139) (S2 := []) (gx_xi (args := [(2, 192), (0, s1)]) (pk_173 hT) ⟨gq_o192, gq_any (by omega) (by omega), trivial⟩ q1126.2.2.1 ex_n1126 (fun z => absurd z (by decide)) rfl) r_316_1136 rfl rfl rfl rfl rfl (rcv_v rfl (tk_192 hT) (by decide) rfl (by decide)) rfl (by decide) rfl (fun x1136 n1136 q1136 => ?_)
  show GX T 1000 316 1139 [(2, 0), (2, 1), (2, 192), (0, (i : Int))] [(0, x1136)] n1136 (fun v _ => v = (0, 1))
  have sc_n1136 := sc_fr q1136.2.2.2.2.1 (by decide) sc_n1126
  have rl_n1136 : RelR n1136 := Rel_fr q1136.2.2.2.2.1 (by decide) (by decide) (by decide) (by decide) (by decide) (by decide) (by decide) (by decide) rl_n1126
  refine gx_st (L' := [(2, 0), (2, 1), (2, 192), (0, (i : Int))]) (S' := []) r_316_1139 rfl rfl rfl ?_
  refine gx_st (L' := [(2, 0), (2, 1), (2, 192), (0, (i : Int))]) (S' := []) r_316_1140 rfl rfl rfl ?_
  exact hnext n1136 ⟨q1136.2.2.1, q1136.2.2.2.1, sc_n1136, rl_n1136⟩
theorem pk_38 (hT : TT T) : ConH T cn_38 := fun args m => ((all_con hT 436).1 (by decide)) cn_38 cx_38 args m
theorem pk_183 (hT : TT T) : ConX T cn_183 false true := by
  have z := ((all_con hT 889).2 (by decide)) cn_183 cx_183
  rw [show (Fl 889).2 = (false, true) by decide] at z
  exact z
theorem case_35 (hT : TT T) (h0 : T[0]? = some (100, L)) (hL : L ≤ 3072) (hi : i + 6 ≤ L) (hl : LI xs m) (hnext : ∀ m, LI xs m → GX T 1000 316 2098 [(2, 0), (2, 1), (2, 192), (0, (i : Int))] [] m (fun v _ => v = (0, 1))) : GX T 1000 316 1143 [(2, 0), (2, 1), (2, 192), (0, (i : Int))] [] m (fun v _ => v = (0, 1)) := by
  obtain ⟨s1, e_s1⟩ : ∃ z, z = (xs (i + 1)).toInt := ⟨_, rfl⟩
  have b_s1 := i32_in (xs (i + 1))
  rw [← e_s1] at b_s1
  unfold in32 at b_s1
  obtain ⟨s2, e_s2⟩ : ∃ z, z = (xs (i + 2)).toInt := ⟨_, rfl⟩
  have b_s2 := i32_in (xs (i + 2))
  rw [← e_s2] at b_s2
  unfold in32 at b_s2
  obtain ⟨s3, e_s3⟩ : ∃ z, z = (xs (i + 3)).toInt := ⟨_, rfl⟩
  have b_s3 := i32_in (xs (i + 3))
  rw [← e_s3] at b_s3
  unfold in32 at b_s3
  obtain ⟨s4, e_s4⟩ : ∃ z, z = (xs (i + 4)).toInt := ⟨_, rfl⟩
  have b_s4 := i32_in (xs (i + 4))
  rw [← e_s4] at b_s4
  unfold in32 at b_s4
  obtain ⟨s5, e_s5⟩ : ∃ z, z = (xs (i + 5)).toInt := ⟨_, rfl⟩
  have b_s5 := i32_in (xs (i + 5))
  rw [← e_s5] at b_s5
  unfold in32 at b_s5
  refine gx_st (L' := [(2, 0), (2, 1), (2, 192), (0, (i : Int))]) (S' := [(2, 1)]) r_316_1143 rfl rfl rfl ?_
  obtain ⟨nw, hnw, hnw12⟩ := wa_n hl.1
  refine gx_ci (nx := 1147) (S2 := []) (gx_ai (z_38 hT hl.2.2.2.1 hl.1 hl.2.2.2.2.2.1 hl.2.2.2.2.2.2.1 hnw) (gx_hi (args := [(2, 1)]) (pk_38 hT) ⟨gq_o1, trivial⟩ hl.1 rfl)) r_316_1144 rfl rfl rfl rfl rfl (rcv_v rfl (tk_1 hT) (by decide) rfl (by decide)) rfl (by decide) rfl (fun x1144 n1144 q1144 => ?_)
  show GX T 1000 316 1147 [(2, 0), (2, 1), (2, 192), (0, (i : Int))] [(0, x1144)] n1144 (fun v _ => v = (0, 1))
  have ex_n1144 : Ext n1144 := Ext_fr q1144.2.2.2.2 (by decide) hl.2.1
  have sc_n1144 := sc_fr q1144.2.2.2.2 (by decide) hl.2.2.1
  have pn_n1144 : PinR n1144 := PinR_fr q1144.2.2.2.2 (by decide) hl.2.2.2.1
  refine gx_st (L' := [(2, 0), (2, 1), (2, 192), (0, (i : Int))]) (S' := []) r_316_1147 rfl rfl rfl ?_
  refine gx_st (L' := [(2, 0), (2, 1), (2, 192), (0, (i : Int))]) (S' := [(2, 192)]) r_316_1148 rfl rfl rfl ?_
  refine gx_ci (nx := 1152) (S2 := []) (gx_ai (gx_xi (args := [(2, 192)]) (pk_183 hT) ⟨gq_o192, trivial⟩ q1144.2.2.2.1 ex_n1144 (fun z => absurd z (by decide)) rfl) (gx_xi (args := [(2, 192)]) (pk_183 hT) ⟨gq_o192, trivial⟩ q1144.2.2.2.1 ex_n1144 (fun z => absurd z (by decide)) rfl)) r_316_1149 rfl rfl rfl rfl rfl (rcv_v rfl (tk_192 hT) (by decide) rfl (by decide)) rfl (by decide) rfl (fun x1149 n1149 q1149 => ?_)
  show GX T 1000 316 1152 [(2, 0), (2, 1), (2, 192), (0, (i : Int))] [(0, x1149)] n1149 (fun v _ => v = (0, 1))
  have sc_n1149 := sc_fr q1149.2.2.2.2.2.1 (by decide) sc_n1144
  have rl_n1149 : RelR n1149 := ⟨PinR_fr q1149.2.2.2.2.2.1 (by decide) (PinR_fr q1144.2.2.2.2 (by decide) hl.2.2.2.1), TBr_fr q1149.2.2.2.2.2.1 rfl rfl rfl rfl (TBr_fr q1144.2.2.2.2 rfl rfl rfl rfl hl.2.2.2.2.1), WX_fr q1149.2.2.2.2.2.1 (by decide) (WX_fr q1144.2.2.2.2 (by decide) hl.2.2.2.2.2.1), planx_fr q1149.2.2.2.2.2.1 (by decide) q1144.1.2.2, ZX_fr q1149.2.2.2.2.2.1 (by decide) (ZX_fr q1144.2.2.2.2 (by decide) hl.2.2.2.2.2.2.2)⟩
  refine gx_st (L' := [(2, 0), (2, 1), (2, 192), (0, (i : Int))]) (S' := []) r_316_1152 rfl rfl rfl ?_
  refine gx_st (L' := [(2, 0), (2, 1), (2, 192), (0, (i : Int))]) (S' := []) r_316_1153 rfl rfl rfl ?_
  exact hnext n1149 ⟨q1149.2.2.2.1, q1149.2.2.2.2.1, sc_n1149, rl_n1149⟩
theorem pk_39 (hT : TT T) : ConH T cn_39 := fun args m => ((all_con hT 437).1 (by decide)) cn_39 cx_39 args m
theorem pk_184 (hT : TT T) : ConX T cn_184 false true := by
  have z := ((all_con hT 890).2 (by decide)) cn_184 cx_184
  rw [show (Fl 890).2 = (false, true) by decide] at z
  exact z
theorem case_36 (hT : TT T) (h0 : T[0]? = some (100, L)) (hL : L ≤ 3072) (hi : i + 6 ≤ L) (hl : LI xs m) (hnext : ∀ m, LI xs m → GX T 1000 316 2098 [(2, 0), (2, 1), (2, 192), (0, (i : Int))] [] m (fun v _ => v = (0, 1))) : GX T 1000 316 1156 [(2, 0), (2, 1), (2, 192), (0, (i : Int))] [] m (fun v _ => v = (0, 1)) := by
  obtain ⟨s1, e_s1⟩ : ∃ z, z = (xs (i + 1)).toInt := ⟨_, rfl⟩
  have b_s1 := i32_in (xs (i + 1))
  rw [← e_s1] at b_s1
  unfold in32 at b_s1
  obtain ⟨s2, e_s2⟩ : ∃ z, z = (xs (i + 2)).toInt := ⟨_, rfl⟩
  have b_s2 := i32_in (xs (i + 2))
  rw [← e_s2] at b_s2
  unfold in32 at b_s2
  obtain ⟨s3, e_s3⟩ : ∃ z, z = (xs (i + 3)).toInt := ⟨_, rfl⟩
  have b_s3 := i32_in (xs (i + 3))
  rw [← e_s3] at b_s3
  unfold in32 at b_s3
  obtain ⟨s4, e_s4⟩ : ∃ z, z = (xs (i + 4)).toInt := ⟨_, rfl⟩
  have b_s4 := i32_in (xs (i + 4))
  rw [← e_s4] at b_s4
  unfold in32 at b_s4
  obtain ⟨s5, e_s5⟩ : ∃ z, z = (xs (i + 5)).toInt := ⟨_, rfl⟩
  have b_s5 := i32_in (xs (i + 5))
  rw [← e_s5] at b_s5
  unfold in32 at b_s5
  refine gx_st (L' := [(2, 0), (2, 1), (2, 192), (0, (i : Int))]) (S' := [(2, 1)]) r_316_1156 rfl rfl rfl ?_
  obtain ⟨nw, hnw, hnw12⟩ := wa_n hl.1
  refine gx_ci (nx := 1160) (S2 := []) (gx_ai (z_39 hT hl.2.2.2.1 hl.1 hl.2.2.2.2.2.1 hl.2.2.2.2.2.2.1 hnw) (gx_hi (args := [(2, 1)]) (pk_39 hT) ⟨gq_o1, trivial⟩ hl.1 rfl)) r_316_1157 rfl rfl rfl rfl rfl (rcv_v rfl (tk_1 hT) (by decide) rfl (by decide)) rfl (by decide) rfl (fun x1157 n1157 q1157 => ?_)
  show GX T 1000 316 1160 [(2, 0), (2, 1), (2, 192), (0, (i : Int))] [(0, x1157)] n1157 (fun v _ => v = (0, 1))
  have ex_n1157 : Ext n1157 := Ext_fr q1157.2.2.2.2 (by decide) hl.2.1
  have sc_n1157 := sc_fr q1157.2.2.2.2 (by decide) hl.2.2.1
  have pn_n1157 : PinR n1157 := PinR_fr q1157.2.2.2.2 (by decide) hl.2.2.2.1
  refine gx_st (L' := [(2, 0), (2, 1), (2, 192), (0, (i : Int))]) (S' := []) r_316_1160 rfl rfl rfl ?_
  refine gx_st (L' := [(2, 0), (2, 1), (2, 192), (0, (i : Int))]) (S' := [(2, 192)]) r_316_1161 rfl rfl rfl ?_
  refine gx_ci (nx := 1165) (S2 := []) (gx_ai (gx_xi (args := [(2, 192)]) (pk_184 hT) ⟨gq_o192, trivial⟩ q1157.2.2.2.1 ex_n1157 (fun z => absurd z (by decide)) rfl) (gx_xi (args := [(2, 192)]) (pk_184 hT) ⟨gq_o192, trivial⟩ q1157.2.2.2.1 ex_n1157 (fun z => absurd z (by decide)) rfl)) r_316_1162 rfl rfl rfl rfl rfl (rcv_v rfl (tk_192 hT) (by decide) rfl (by decide)) rfl (by decide) rfl (fun x1162 n1162 q1162 => ?_)
  show GX T 1000 316 1165 [(2, 0), (2, 1), (2, 192), (0, (i : Int))] [(0, x1162)] n1162 (fun v _ => v = (0, 1))
  have sc_n1162 := sc_fr q1162.2.2.2.2.2.1 (by decide) sc_n1157
  have rl_n1162 : RelR n1162 := ⟨PinR_fr q1162.2.2.2.2.2.1 (by decide) (PinR_fr q1157.2.2.2.2 (by decide) hl.2.2.2.1), TBr_fr q1162.2.2.2.2.2.1 rfl rfl rfl rfl (TBr_fr q1157.2.2.2.2 rfl rfl rfl rfl hl.2.2.2.2.1), WX_fr q1162.2.2.2.2.2.1 (by decide) (WX_fr q1157.2.2.2.2 (by decide) hl.2.2.2.2.2.1), planx_fr q1162.2.2.2.2.2.1 (by decide) q1157.1.2.2, ZX_fr q1162.2.2.2.2.2.1 (by decide) (ZX_fr q1157.2.2.2.2 (by decide) hl.2.2.2.2.2.2.2)⟩
  refine gx_st (L' := [(2, 0), (2, 1), (2, 192), (0, (i : Int))]) (S' := []) r_316_1165 rfl rfl rfl ?_
  refine gx_st (L' := [(2, 0), (2, 1), (2, 192), (0, (i : Int))]) (S' := []) r_316_1166 rfl rfl rfl ?_
  exact hnext n1162 ⟨q1162.2.2.2.1, q1162.2.2.2.2.1, sc_n1162, rl_n1162⟩
theorem pk_40 (hT : TT T) : ConH T cn_40 := fun args m => ((all_con hT 439).1 (by decide)) cn_40 cx_40 args m
theorem pk_185 (hT : TT T) : ConX T cn_185 false false := by
  have z := ((all_con hT 894).2 (by decide)) cn_185 cx_185
  rw [show (Fl 894).2 = (false, false) by decide] at z
  exact z
theorem case_37 (hT : TT T) (h0 : T[0]? = some (100, L)) (hL : L ≤ 3072) (hi : i + 6 ≤ L) (hl : LI xs m) (hnext : ∀ m, LI xs m → GX T 1000 316 2098 [(2, 0), (2, 1), (2, 192), (0, (i : Int))] [] m (fun v _ => v = (0, 1))) : GX T 1000 316 1169 [(2, 0), (2, 1), (2, 192), (0, (i : Int))] [] m (fun v _ => v = (0, 1)) := by
  obtain ⟨s1, e_s1⟩ : ∃ z, z = (xs (i + 1)).toInt := ⟨_, rfl⟩
  have b_s1 := i32_in (xs (i + 1))
  rw [← e_s1] at b_s1
  unfold in32 at b_s1
  obtain ⟨s2, e_s2⟩ : ∃ z, z = (xs (i + 2)).toInt := ⟨_, rfl⟩
  have b_s2 := i32_in (xs (i + 2))
  rw [← e_s2] at b_s2
  unfold in32 at b_s2
  obtain ⟨s3, e_s3⟩ : ∃ z, z = (xs (i + 3)).toInt := ⟨_, rfl⟩
  have b_s3 := i32_in (xs (i + 3))
  rw [← e_s3] at b_s3
  unfold in32 at b_s3
  obtain ⟨s4, e_s4⟩ : ∃ z, z = (xs (i + 4)).toInt := ⟨_, rfl⟩
  have b_s4 := i32_in (xs (i + 4))
  rw [← e_s4] at b_s4
  unfold in32 at b_s4
  obtain ⟨s5, e_s5⟩ : ∃ z, z = (xs (i + 5)).toInt := ⟨_, rfl⟩
  have b_s5 := i32_in (xs (i + 5))
  rw [← e_s5] at b_s5
  unfold in32 at b_s5
  refine gx_st (L' := [(2, 0), (2, 1), (2, 192), (0, (i : Int))]) (S' := [(2, 1)]) r_316_1169 rfl rfl rfl ?_
  refine gx_st (L' := [(2, 0), (2, 1), (2, 192), (0, (i : Int))]) (S' := [(2, 0), (2, 1)]) r_316_1170 rfl rfl rfl ?_
  refine gx_st (L' := [(2, 0), (2, 1), (2, 192), (0, (i : Int))]) (S' := [(0, (i : Int)), (2, 0), (2, 1)]) r_316_1171 rfl rfl rfl ?_
  refine gx_st (L' := [(2, 0), (2, 1), (2, 192), (0, (i : Int))]) (S' := [(0, 1), (0, (i : Int)), (2, 0), (2, 1)]) r_316_1172 rfl rfl rfl ?_
  refine gx_ar (L' := [(2, 0), (2, 1), (2, 192), (0, (i : Int))]) (S' := [(2, 0), (2, 1)]) (t := 0) (e := w32 ((i : Int) + 1)) (z := (i : Int) + 1) r_316_1173 rfl rfl rfl (w32_eq (by omega) (by omega) (by omega)) ?_
  refine gx_ia (n := i + 1) (x := s1) r_316_1174 rfl h0 (by omega) ⟨rfl, by show i + 1 < L; omega⟩ ((hl.2.2.1 (i + 1)).trans e_s1.symm) ?_
  show GX T 1000 316 1175 [(2, 0), (2, 1), (2, 192), (0, (i : Int))] [(0, s1), (2, 1)] m (fun v _ => v = (0, 1))
  obtain ⟨nw, hnw, hnw12⟩ := wa_n hl.1
  refine gx_ci (nx := 1178) (S2 := []) (gx_ai (z_40 hT hl.2.2.2.1 hl.1 hl.2.2.2.2.2.1 hl.2.2.2.2.2.2.1 hnw s1) (gx_hi (args := [(2, 1), (0, s1)]) (pk_40 hT) ⟨gq_o1, gq_any (by omega) (by omega), trivial⟩ hl.1 rfl)) r_316_1175 rfl rfl rfl rfl rfl (rcv_v rfl (tk_1 hT) (by decide) rfl (by decide)) rfl (by decide) rfl (fun x1175 n1175 q1175 => ?_)
  show GX T 1000 316 1178 [(2, 0), (2, 1), (2, 192), (0, (i : Int))] [(0, x1175)] n1175 (fun v _ => v = (0, 1))
  have ex_n1175 : Ext n1175 := Ext_fr q1175.2.2.2.2 (by decide) hl.2.1
  have sc_n1175 := sc_fr q1175.2.2.2.2 (by decide) hl.2.2.1
  have pn_n1175 : PinR n1175 := PinR_fr q1175.2.2.2.2 (by decide) hl.2.2.2.1
  refine gx_st (L' := [(2, 0), (2, 1), (2, 192), (0, (i : Int))]) (S' := []) r_316_1178 rfl rfl rfl ?_
  refine gx_st (L' := [(2, 0), (2, 1), (2, 192), (0, (i : Int))]) (S' := [(2, 192)]) r_316_1179 rfl rfl rfl ?_
  refine gx_st (L' := [(2, 0), (2, 1), (2, 192), (0, (i : Int))]) (S' := [(2, 0), (2, 192)]) r_316_1180 rfl rfl rfl ?_
  refine gx_st (L' := [(2, 0), (2, 1), (2, 192), (0, (i : Int))]) (S' := [(0, (i : Int)), (2, 0), (2, 192)]) r_316_1181 rfl rfl rfl ?_
  refine gx_st (L' := [(2, 0), (2, 1), (2, 192), (0, (i : Int))]) (S' := [(0, 1), (0, (i : Int)), (2, 0), (2, 192)]) r_316_1182 rfl rfl rfl ?_
  refine gx_ar (L' := [(2, 0), (2, 1), (2, 192), (0, (i : Int))]) (S' := [(2, 0), (2, 192)]) (t := 0) (e := w32 ((i : Int) + 1)) (z := (i : Int) + 1) r_316_1183 rfl rfl rfl (w32_eq (by omega) (by omega) (by omega)) ?_
  refine gx_ia (n := i + 1) (x := s1) r_316_1184 rfl h0 (by omega) ⟨rfl, by show i + 1 < L; omega⟩ ((sc_n1175 (i + 1)).trans e_s1.symm) ?_
  show GX T 1000 316 1185 [(2, 0), (2, 1), (2, 192), (0, (i : Int))] [(0, s1), (2, 192)] n1175 (fun v _ => v = (0, 1))
  refine gx_ci (nx := 1188) (S2 := []) (gx_ai (gx_xi (args := [(2, 192), (0, s1)]) (pk_185 hT) ⟨gq_o192, gq_any (by omega) (by omega), trivial⟩ q1175.2.2.2.1 ex_n1175 (fun z => absurd z (by decide)) rfl) (gx_xi (args := [(2, 192), (0, s1)]) (pk_185 hT) ⟨gq_o192, gq_any (by omega) (by omega), trivial⟩ q1175.2.2.2.1 ex_n1175 (fun z => absurd z (by decide)) rfl)) r_316_1185 rfl rfl rfl rfl rfl (rcv_v rfl (tk_192 hT) (by decide) rfl (by decide)) rfl (by decide) rfl (fun x1185 n1185 q1185 => ?_)
  show GX T 1000 316 1188 [(2, 0), (2, 1), (2, 192), (0, (i : Int))] [(0, x1185)] n1185 (fun v _ => v = (0, 1))
  have sc_n1185 := sc_fr q1185.2.2.2.2.2.1 (by decide) sc_n1175
  have rl_n1185 : RelR n1185 := ⟨PinR_fr q1185.2.2.2.2.2.1 (by decide) (PinR_fr q1175.2.2.2.2 (by decide) hl.2.2.2.1), TBr_fr q1185.2.2.2.2.2.1 rfl rfl rfl rfl (TBr_fr q1175.2.2.2.2 rfl rfl rfl rfl hl.2.2.2.2.1), WX_fr q1185.2.2.2.2.2.1 (by decide) (WX_fr q1175.2.2.2.2 (by decide) hl.2.2.2.2.2.1), planx_fr q1185.2.2.2.2.2.1 (by decide) q1175.1.2.2, ZX_fr q1185.2.2.2.2.2.1 (by decide) (ZX_fr q1175.2.2.2.2 (by decide) hl.2.2.2.2.2.2.2)⟩
  refine gx_st (L' := [(2, 0), (2, 1), (2, 192), (0, (i : Int))]) (S' := []) r_316_1188 rfl rfl rfl ?_
  refine gx_st (L' := [(2, 0), (2, 1), (2, 192), (0, (i : Int))]) (S' := []) r_316_1189 rfl rfl rfl ?_
  exact hnext n1185 ⟨q1185.2.2.2.1, q1185.2.2.2.2.1, sc_n1185, rl_n1185⟩
theorem pk_41 (hT : TT T) : ConH T cn_41 := fun args m => ((all_con hT 481).1 (by decide)) cn_41 cx_41 args m
theorem pk_187 (hT : TT T) : ConX T cn_187 false true := by
  have z := ((all_con hT 896).2 (by decide)) cn_187 cx_187
  rw [show (Fl 896).2 = (false, true) by decide] at z
  exact z
theorem case_38 (hT : TT T) (h0 : T[0]? = some (100, L)) (hL : L ≤ 3072) (hi : i + 6 ≤ L) (hl : LI xs m) (hnext : ∀ m, LI xs m → GX T 1000 316 2098 [(2, 0), (2, 1), (2, 192), (0, (i : Int))] [] m (fun v _ => v = (0, 1))) : GX T 1000 316 1192 [(2, 0), (2, 1), (2, 192), (0, (i : Int))] [] m (fun v _ => v = (0, 1)) := by
  obtain ⟨s1, e_s1⟩ : ∃ z, z = (xs (i + 1)).toInt := ⟨_, rfl⟩
  have b_s1 := i32_in (xs (i + 1))
  rw [← e_s1] at b_s1
  unfold in32 at b_s1
  obtain ⟨s2, e_s2⟩ : ∃ z, z = (xs (i + 2)).toInt := ⟨_, rfl⟩
  have b_s2 := i32_in (xs (i + 2))
  rw [← e_s2] at b_s2
  unfold in32 at b_s2
  obtain ⟨s3, e_s3⟩ : ∃ z, z = (xs (i + 3)).toInt := ⟨_, rfl⟩
  have b_s3 := i32_in (xs (i + 3))
  rw [← e_s3] at b_s3
  unfold in32 at b_s3
  obtain ⟨s4, e_s4⟩ : ∃ z, z = (xs (i + 4)).toInt := ⟨_, rfl⟩
  have b_s4 := i32_in (xs (i + 4))
  rw [← e_s4] at b_s4
  unfold in32 at b_s4
  obtain ⟨s5, e_s5⟩ : ∃ z, z = (xs (i + 5)).toInt := ⟨_, rfl⟩
  have b_s5 := i32_in (xs (i + 5))
  rw [← e_s5] at b_s5
  unfold in32 at b_s5
  refine gx_st (L' := [(2, 0), (2, 1), (2, 192), (0, (i : Int))]) (S' := [(2, 1)]) r_316_1192 rfl rfl rfl ?_
  obtain ⟨nw, hnw, hnw12⟩ := wa_n hl.1
  refine gx_ci (nx := 1196) (S2 := []) (gx_ai (z_41 hT hl.2.2.2.1 hl.1 hl.2.2.2.2.2.1 hl.2.2.2.2.2.2.1 hnw hl.2.1) (gx_hi (args := [(2, 1)]) (pk_41 hT) ⟨gq_o1, trivial⟩ hl.1 rfl)) r_316_1193 rfl rfl rfl rfl rfl (rcv_v rfl (tk_1 hT) (by decide) rfl (by decide)) rfl (by decide) rfl (fun x1193 n1193 q1193 => ?_)
  show GX T 1000 316 1196 [(2, 0), (2, 1), (2, 192), (0, (i : Int))] [(0, x1193)] n1193 (fun v _ => v = (0, 1))
  have ex_n1193 : Ext n1193 := Ext_fr q1193.2.2.2.2 (by decide) hl.2.1
  have sc_n1193 := sc_fr q1193.2.2.2.2 (by decide) hl.2.2.1
  have pn_n1193 : PinR n1193 := PinR_fr q1193.2.2.2.2 (by decide) hl.2.2.2.1
  refine gx_st (L' := [(2, 0), (2, 1), (2, 192), (0, (i : Int))]) (S' := []) r_316_1196 rfl rfl rfl ?_
  refine gx_st (L' := [(2, 0), (2, 1), (2, 192), (0, (i : Int))]) (S' := [(2, 192)]) r_316_1197 rfl rfl rfl ?_
  refine gx_ci (nx := 1201) (S2 := []) (gx_ai (gx_xi (args := [(2, 192)]) (pk_187 hT) ⟨gq_o192, trivial⟩ q1193.2.2.2.1 ex_n1193 (fun z => absurd z (by decide)) rfl) (gx_xi (args := [(2, 192)]) (pk_187 hT) ⟨gq_o192, trivial⟩ q1193.2.2.2.1 ex_n1193 (fun z => absurd z (by decide)) rfl)) r_316_1198 rfl rfl rfl rfl rfl (rcv_v rfl (tk_192 hT) (by decide) rfl (by decide)) rfl (by decide) rfl (fun x1198 n1198 q1198 => ?_)
  show GX T 1000 316 1201 [(2, 0), (2, 1), (2, 192), (0, (i : Int))] [(0, x1198)] n1198 (fun v _ => v = (0, 1))
  have sc_n1198 := sc_fr q1198.2.2.2.2.2.1 (by decide) sc_n1193
  have rl_n1198 : RelR n1198 := ⟨PinR_fr q1198.2.2.2.2.2.1 (by decide) (PinR_fr q1193.2.2.2.2 (by decide) hl.2.2.2.1), TBr_fr q1198.2.2.2.2.2.1 rfl rfl rfl rfl (TBr_fr q1193.2.2.2.2 rfl rfl rfl rfl hl.2.2.2.2.1), WX_fr q1198.2.2.2.2.2.1 (by decide) (WX_fr q1193.2.2.2.2 (by decide) hl.2.2.2.2.2.1), planx_fr q1198.2.2.2.2.2.1 (by decide) q1193.1.2.2, ZX_fr q1198.2.2.2.2.2.1 (by decide) (ZX_fr q1193.2.2.2.2 (by decide) hl.2.2.2.2.2.2.2)⟩
  refine gx_st (L' := [(2, 0), (2, 1), (2, 192), (0, (i : Int))]) (S' := []) r_316_1201 rfl rfl rfl ?_
  refine gx_st (L' := [(2, 0), (2, 1), (2, 192), (0, (i : Int))]) (S' := []) r_316_1202 rfl rfl rfl ?_
  exact hnext n1198 ⟨q1198.2.2.2.1, q1198.2.2.2.2.1, sc_n1198, rl_n1198⟩
theorem pk_42 (hT : TT T) : ConH T cn_42 := fun args m => ((all_con hT 483).1 (by decide)) cn_42 cx_42 args m
theorem pk_188 (hT : TT T) : ConX T cn_188 false true := by
  have z := ((all_con hT 897).2 (by decide)) cn_188 cx_188
  rw [show (Fl 897).2 = (false, true) by decide] at z
  exact z
theorem case_39 (hT : TT T) (h0 : T[0]? = some (100, L)) (hL : L ≤ 3072) (hi : i + 6 ≤ L) (hl : LI xs m) (hnext : ∀ m, LI xs m → GX T 1000 316 2098 [(2, 0), (2, 1), (2, 192), (0, (i : Int))] [] m (fun v _ => v = (0, 1))) : GX T 1000 316 1205 [(2, 0), (2, 1), (2, 192), (0, (i : Int))] [] m (fun v _ => v = (0, 1)) := by
  obtain ⟨s1, e_s1⟩ : ∃ z, z = (xs (i + 1)).toInt := ⟨_, rfl⟩
  have b_s1 := i32_in (xs (i + 1))
  rw [← e_s1] at b_s1
  unfold in32 at b_s1
  obtain ⟨s2, e_s2⟩ : ∃ z, z = (xs (i + 2)).toInt := ⟨_, rfl⟩
  have b_s2 := i32_in (xs (i + 2))
  rw [← e_s2] at b_s2
  unfold in32 at b_s2
  obtain ⟨s3, e_s3⟩ : ∃ z, z = (xs (i + 3)).toInt := ⟨_, rfl⟩
  have b_s3 := i32_in (xs (i + 3))
  rw [← e_s3] at b_s3
  unfold in32 at b_s3
  obtain ⟨s4, e_s4⟩ : ∃ z, z = (xs (i + 4)).toInt := ⟨_, rfl⟩
  have b_s4 := i32_in (xs (i + 4))
  rw [← e_s4] at b_s4
  unfold in32 at b_s4
  obtain ⟨s5, e_s5⟩ : ∃ z, z = (xs (i + 5)).toInt := ⟨_, rfl⟩
  have b_s5 := i32_in (xs (i + 5))
  rw [← e_s5] at b_s5
  unfold in32 at b_s5
  refine gx_st (L' := [(2, 0), (2, 1), (2, 192), (0, (i : Int))]) (S' := [(2, 1)]) r_316_1205 rfl rfl rfl ?_
  obtain ⟨nw, hnw, hnw12⟩ := wa_n hl.1
  refine gx_ci (nx := 1209) (S2 := []) (gx_ai (z_42 hT hl.2.2.2.1 hl.1 hl.2.2.2.2.2.1 hl.2.2.2.2.2.2.1 hnw hl.2.1) (gx_hi (args := [(2, 1)]) (pk_42 hT) ⟨gq_o1, trivial⟩ hl.1 rfl)) r_316_1206 rfl rfl rfl rfl rfl (rcv_v rfl (tk_1 hT) (by decide) rfl (by decide)) rfl (by decide) rfl (fun x1206 n1206 q1206 => ?_)
  show GX T 1000 316 1209 [(2, 0), (2, 1), (2, 192), (0, (i : Int))] [(0, x1206)] n1206 (fun v _ => v = (0, 1))
  have ex_n1206 : Ext n1206 := Ext_fr q1206.2.2.2.2 (by decide) hl.2.1
  have sc_n1206 := sc_fr q1206.2.2.2.2 (by decide) hl.2.2.1
  have pn_n1206 : PinR n1206 := PinR_fr q1206.2.2.2.2 (by decide) hl.2.2.2.1
  refine gx_st (L' := [(2, 0), (2, 1), (2, 192), (0, (i : Int))]) (S' := []) r_316_1209 rfl rfl rfl ?_
  refine gx_st (L' := [(2, 0), (2, 1), (2, 192), (0, (i : Int))]) (S' := [(2, 192)]) r_316_1210 rfl rfl rfl ?_
  refine gx_ci (nx := 1214) (S2 := []) (gx_ai (gx_xi (args := [(2, 192)]) (pk_188 hT) ⟨gq_o192, trivial⟩ q1206.2.2.2.1 ex_n1206 (fun z => absurd z (by decide)) rfl) (gx_xi (args := [(2, 192)]) (pk_188 hT) ⟨gq_o192, trivial⟩ q1206.2.2.2.1 ex_n1206 (fun z => absurd z (by decide)) rfl)) r_316_1211 rfl rfl rfl rfl rfl (rcv_v rfl (tk_192 hT) (by decide) rfl (by decide)) rfl (by decide) rfl (fun x1211 n1211 q1211 => ?_)
  show GX T 1000 316 1214 [(2, 0), (2, 1), (2, 192), (0, (i : Int))] [(0, x1211)] n1211 (fun v _ => v = (0, 1))
  have sc_n1211 := sc_fr q1211.2.2.2.2.2.1 (by decide) sc_n1206
  have rl_n1211 : RelR n1211 := ⟨PinR_fr q1211.2.2.2.2.2.1 (by decide) (PinR_fr q1206.2.2.2.2 (by decide) hl.2.2.2.1), TBr_fr q1211.2.2.2.2.2.1 rfl rfl rfl rfl (TBr_fr q1206.2.2.2.2 rfl rfl rfl rfl hl.2.2.2.2.1), WX_fr q1211.2.2.2.2.2.1 (by decide) (WX_fr q1206.2.2.2.2 (by decide) hl.2.2.2.2.2.1), planx_fr q1211.2.2.2.2.2.1 (by decide) q1206.1.2.2, ZX_fr q1211.2.2.2.2.2.1 (by decide) (ZX_fr q1206.2.2.2.2 (by decide) hl.2.2.2.2.2.2.2)⟩
  refine gx_st (L' := [(2, 0), (2, 1), (2, 192), (0, (i : Int))]) (S' := []) r_316_1214 rfl rfl rfl ?_
  refine gx_st (L' := [(2, 0), (2, 1), (2, 192), (0, (i : Int))]) (S' := []) r_316_1215 rfl rfl rfl ?_
  exact hnext n1211 ⟨q1211.2.2.2.1, q1211.2.2.2.2.1, sc_n1211, rl_n1211⟩
theorem pk_43 (hT : TT T) : ConH T cn_43 := fun args m => ((all_con hT 484).1 (by decide)) cn_43 cx_43 args m
theorem pk_189 (hT : TT T) : ConX T cn_189 false false := by
  have z := ((all_con hT 901).2 (by decide)) cn_189 cx_189
  rw [show (Fl 901).2 = (false, false) by decide] at z
  exact z
theorem case_40 (hT : TT T) (h0 : T[0]? = some (100, L)) (hL : L ≤ 3072) (hi : i + 6 ≤ L) (hl : LI xs m) (hnext : ∀ m, LI xs m → GX T 1000 316 2098 [(2, 0), (2, 1), (2, 192), (0, (i : Int))] [] m (fun v _ => v = (0, 1))) : GX T 1000 316 1218 [(2, 0), (2, 1), (2, 192), (0, (i : Int))] [] m (fun v _ => v = (0, 1)) := by
  obtain ⟨s1, e_s1⟩ : ∃ z, z = (xs (i + 1)).toInt := ⟨_, rfl⟩
  have b_s1 := i32_in (xs (i + 1))
  rw [← e_s1] at b_s1
  unfold in32 at b_s1
  obtain ⟨s2, e_s2⟩ : ∃ z, z = (xs (i + 2)).toInt := ⟨_, rfl⟩
  have b_s2 := i32_in (xs (i + 2))
  rw [← e_s2] at b_s2
  unfold in32 at b_s2
  obtain ⟨s3, e_s3⟩ : ∃ z, z = (xs (i + 3)).toInt := ⟨_, rfl⟩
  have b_s3 := i32_in (xs (i + 3))
  rw [← e_s3] at b_s3
  unfold in32 at b_s3
  obtain ⟨s4, e_s4⟩ : ∃ z, z = (xs (i + 4)).toInt := ⟨_, rfl⟩
  have b_s4 := i32_in (xs (i + 4))
  rw [← e_s4] at b_s4
  unfold in32 at b_s4
  obtain ⟨s5, e_s5⟩ : ∃ z, z = (xs (i + 5)).toInt := ⟨_, rfl⟩
  have b_s5 := i32_in (xs (i + 5))
  rw [← e_s5] at b_s5
  unfold in32 at b_s5
  refine gx_st (L' := [(2, 0), (2, 1), (2, 192), (0, (i : Int))]) (S' := [(2, 1)]) r_316_1218 rfl rfl rfl ?_
  refine gx_st (L' := [(2, 0), (2, 1), (2, 192), (0, (i : Int))]) (S' := [(2, 0), (2, 1)]) r_316_1219 rfl rfl rfl ?_
  refine gx_st (L' := [(2, 0), (2, 1), (2, 192), (0, (i : Int))]) (S' := [(0, (i : Int)), (2, 0), (2, 1)]) r_316_1220 rfl rfl rfl ?_
  refine gx_st (L' := [(2, 0), (2, 1), (2, 192), (0, (i : Int))]) (S' := [(0, 1), (0, (i : Int)), (2, 0), (2, 1)]) r_316_1221 rfl rfl rfl ?_
  refine gx_ar (L' := [(2, 0), (2, 1), (2, 192), (0, (i : Int))]) (S' := [(2, 0), (2, 1)]) (t := 0) (e := w32 ((i : Int) + 1)) (z := (i : Int) + 1) r_316_1222 rfl rfl rfl (w32_eq (by omega) (by omega) (by omega)) ?_
  refine gx_ia (n := i + 1) (x := s1) r_316_1223 rfl h0 (by omega) ⟨rfl, by show i + 1 < L; omega⟩ ((hl.2.2.1 (i + 1)).trans e_s1.symm) ?_
  show GX T 1000 316 1224 [(2, 0), (2, 1), (2, 192), (0, (i : Int))] [(0, s1), (2, 1)] m (fun v _ => v = (0, 1))
  refine gx_ci (nx := 1227) (S2 := []) (gx_hi (args := [(2, 1), (0, s1)]) (pk_43 hT) ⟨gq_o1, gq_any (by omega) (by omega), trivial⟩ hl.1 rfl) r_316_1224 rfl rfl rfl rfl rfl (rcv_v rfl (tk_1 hT) (by decide) rfl (by decide)) rfl (by decide) rfl (fun x1224 n1224 q1224 => ?_)
  show GX T 1000 316 1227 [(2, 0), (2, 1), (2, 192), (0, (i : Int))] [(0, x1224)] n1224 (fun v _ => v = (0, 1))
  have ex_n1224 : Ext n1224 := Ext_fr q1224.2.2.2 (by decide) hl.2.1
  have sc_n1224 := sc_fr q1224.2.2.2 (by decide) hl.2.2.1
  have rl_n1224 : RelR n1224 := Rel_fr q1224.2.2.2 (by decide) (by decide) (by decide) (by decide) (by decide) (by decide) (by decide) (by decide) hl.2.2.2
  refine gx_st (L' := [(2, 0), (2, 1), (2, 192), (0, (i : Int))]) (S' := []) r_316_1227 rfl rfl rfl ?_
  refine gx_st (L' := [(2, 0), (2, 1), (2, 192), (0, (i : Int))]) (S' := [(2, 192)]) r_316_1228 rfl rfl rfl ?_
  refine gx_st (L' := [(2, 0), (2, 1), (2, 192), (0, (i : Int))]) (S' := [(2, 0), (2, 192)]) r_316_1229 rfl rfl rfl ?_
  refine gx_st (L' := [(2, 0), (2, 1), (2, 192), (0, (i : Int))]) (S' := [(0, (i : Int)), (2, 0), (2, 192)]) r_316_1230 rfl rfl rfl ?_
  refine gx_st (L' := [(2, 0), (2, 1), (2, 192), (0, (i : Int))]) (S' := [(0, 1), (0, (i : Int)), (2, 0), (2, 192)]) r_316_1231 rfl rfl rfl ?_
  refine gx_ar (L' := [(2, 0), (2, 1), (2, 192), (0, (i : Int))]) (S' := [(2, 0), (2, 192)]) (t := 0) (e := w32 ((i : Int) + 1)) (z := (i : Int) + 1) r_316_1232 rfl rfl rfl (w32_eq (by omega) (by omega) (by omega)) ?_
  refine gx_ia (n := i + 1) (x := s1) r_316_1233 rfl h0 (by omega) ⟨rfl, by show i + 1 < L; omega⟩ ((sc_n1224 (i + 1)).trans e_s1.symm) ?_
  show GX T 1000 316 1234 [(2, 0), (2, 1), (2, 192), (0, (i : Int))] [(0, s1), (2, 192)] n1224 (fun v _ => v = (0, 1))
  refine gx_ci (nx := 1237) (S2 := []) (gx_xi (args := [(2, 192), (0, s1)]) (pk_189 hT) ⟨gq_o192, gq_any (by omega) (by omega), trivial⟩ q1224.2.2.1 ex_n1224 (fun z => absurd z (by decide)) rfl) r_316_1234 rfl rfl rfl rfl rfl (rcv_v rfl (tk_192 hT) (by decide) rfl (by decide)) rfl (by decide) rfl (fun x1234 n1234 q1234 => ?_)
  show GX T 1000 316 1237 [(2, 0), (2, 1), (2, 192), (0, (i : Int))] [(0, x1234)] n1234 (fun v _ => v = (0, 1))
  have sc_n1234 := sc_fr q1234.2.2.2.2.1 (by decide) sc_n1224
  have rl_n1234 : RelR n1234 := Rel_fr q1234.2.2.2.2.1 (by decide) (by decide) (by decide) (by decide) (by decide) (by decide) (by decide) (by decide) rl_n1224
  refine gx_st (L' := [(2, 0), (2, 1), (2, 192), (0, (i : Int))]) (S' := []) r_316_1237 rfl rfl rfl ?_
  refine gx_st (L' := [(2, 0), (2, 1), (2, 192), (0, (i : Int))]) (S' := []) r_316_1238 rfl rfl rfl ?_
  exact hnext n1234 ⟨q1234.2.2.1, q1234.2.2.2.1, sc_n1234, rl_n1234⟩
theorem pk_44 (hT : TT T) : ConH T cn_44 := fun args m => ((all_con hT 486).1 (by decide)) cn_44 cx_44 args m
theorem pk_190 (hT : TT T) : ConX T cn_190 false false := by
  have z := ((all_con hT 905).2 (by decide)) cn_190 cx_190
  rw [show (Fl 905).2 = (false, false) by decide] at z
  exact z
theorem case_41 (hT : TT T) (h0 : T[0]? = some (100, L)) (hL : L ≤ 3072) (hi : i + 6 ≤ L) (hl : LI xs m) (hnext : ∀ m, LI xs m → GX T 1000 316 2098 [(2, 0), (2, 1), (2, 192), (0, (i : Int))] [] m (fun v _ => v = (0, 1))) : GX T 1000 316 1241 [(2, 0), (2, 1), (2, 192), (0, (i : Int))] [] m (fun v _ => v = (0, 1)) := by
  obtain ⟨s1, e_s1⟩ : ∃ z, z = (xs (i + 1)).toInt := ⟨_, rfl⟩
  have b_s1 := i32_in (xs (i + 1))
  rw [← e_s1] at b_s1
  unfold in32 at b_s1
  obtain ⟨s2, e_s2⟩ : ∃ z, z = (xs (i + 2)).toInt := ⟨_, rfl⟩
  have b_s2 := i32_in (xs (i + 2))
  rw [← e_s2] at b_s2
  unfold in32 at b_s2
  obtain ⟨s3, e_s3⟩ : ∃ z, z = (xs (i + 3)).toInt := ⟨_, rfl⟩
  have b_s3 := i32_in (xs (i + 3))
  rw [← e_s3] at b_s3
  unfold in32 at b_s3
  obtain ⟨s4, e_s4⟩ : ∃ z, z = (xs (i + 4)).toInt := ⟨_, rfl⟩
  have b_s4 := i32_in (xs (i + 4))
  rw [← e_s4] at b_s4
  unfold in32 at b_s4
  obtain ⟨s5, e_s5⟩ : ∃ z, z = (xs (i + 5)).toInt := ⟨_, rfl⟩
  have b_s5 := i32_in (xs (i + 5))
  rw [← e_s5] at b_s5
  unfold in32 at b_s5
  refine gx_st (L' := [(2, 0), (2, 1), (2, 192), (0, (i : Int))]) (S' := [(2, 1)]) r_316_1241 rfl rfl rfl ?_
  refine gx_st (L' := [(2, 0), (2, 1), (2, 192), (0, (i : Int))]) (S' := [(2, 0), (2, 1)]) r_316_1242 rfl rfl rfl ?_
  refine gx_st (L' := [(2, 0), (2, 1), (2, 192), (0, (i : Int))]) (S' := [(0, (i : Int)), (2, 0), (2, 1)]) r_316_1243 rfl rfl rfl ?_
  refine gx_st (L' := [(2, 0), (2, 1), (2, 192), (0, (i : Int))]) (S' := [(0, 1), (0, (i : Int)), (2, 0), (2, 1)]) r_316_1244 rfl rfl rfl ?_
  refine gx_ar (L' := [(2, 0), (2, 1), (2, 192), (0, (i : Int))]) (S' := [(2, 0), (2, 1)]) (t := 0) (e := w32 ((i : Int) + 1)) (z := (i : Int) + 1) r_316_1245 rfl rfl rfl (w32_eq (by omega) (by omega) (by omega)) ?_
  refine gx_ia (n := i + 1) (x := s1) r_316_1246 rfl h0 (by omega) ⟨rfl, by show i + 1 < L; omega⟩ ((hl.2.2.1 (i + 1)).trans e_s1.symm) ?_
  show GX T 1000 316 1247 [(2, 0), (2, 1), (2, 192), (0, (i : Int))] [(0, s1), (2, 1)] m (fun v _ => v = (0, 1))
  refine gx_ci (nx := 1250) (S2 := []) (gx_hi (args := [(2, 1), (0, s1)]) (pk_44 hT) ⟨gq_o1, gq_any (by omega) (by omega), trivial⟩ hl.1 rfl) r_316_1247 rfl rfl rfl rfl rfl (rcv_v rfl (tk_1 hT) (by decide) rfl (by decide)) rfl (by decide) rfl (fun x1247 n1247 q1247 => ?_)
  show GX T 1000 316 1250 [(2, 0), (2, 1), (2, 192), (0, (i : Int))] [(0, x1247)] n1247 (fun v _ => v = (0, 1))
  have ex_n1247 : Ext n1247 := Ext_fr q1247.2.2.2 (by decide) hl.2.1
  have sc_n1247 := sc_fr q1247.2.2.2 (by decide) hl.2.2.1
  have rl_n1247 : RelR n1247 := Rel_fr q1247.2.2.2 (by decide) (by decide) (by decide) (by decide) (by decide) (by decide) (by decide) (by decide) hl.2.2.2
  refine gx_st (L' := [(2, 0), (2, 1), (2, 192), (0, (i : Int))]) (S' := []) r_316_1250 rfl rfl rfl ?_
  refine gx_st (L' := [(2, 0), (2, 1), (2, 192), (0, (i : Int))]) (S' := [(2, 192)]) r_316_1251 rfl rfl rfl ?_
  refine gx_st (L' := [(2, 0), (2, 1), (2, 192), (0, (i : Int))]) (S' := [(2, 0), (2, 192)]) r_316_1252 rfl rfl rfl ?_
  refine gx_st (L' := [(2, 0), (2, 1), (2, 192), (0, (i : Int))]) (S' := [(0, (i : Int)), (2, 0), (2, 192)]) r_316_1253 rfl rfl rfl ?_
  refine gx_st (L' := [(2, 0), (2, 1), (2, 192), (0, (i : Int))]) (S' := [(0, 1), (0, (i : Int)), (2, 0), (2, 192)]) r_316_1254 rfl rfl rfl ?_
  refine gx_ar (L' := [(2, 0), (2, 1), (2, 192), (0, (i : Int))]) (S' := [(2, 0), (2, 192)]) (t := 0) (e := w32 ((i : Int) + 1)) (z := (i : Int) + 1) r_316_1255 rfl rfl rfl (w32_eq (by omega) (by omega) (by omega)) ?_
  refine gx_ia (n := i + 1) (x := s1) r_316_1256 rfl h0 (by omega) ⟨rfl, by show i + 1 < L; omega⟩ ((sc_n1247 (i + 1)).trans e_s1.symm) ?_
  show GX T 1000 316 1257 [(2, 0), (2, 1), (2, 192), (0, (i : Int))] [(0, s1), (2, 192)] n1247 (fun v _ => v = (0, 1))
  refine gx_ci (nx := 1260) (S2 := []) (gx_xi (args := [(2, 192), (0, s1)]) (pk_190 hT) ⟨gq_o192, gq_any (by omega) (by omega), trivial⟩ q1247.2.2.1 ex_n1247 (fun z => absurd z (by decide)) rfl) r_316_1257 rfl rfl rfl rfl rfl (rcv_v rfl (tk_192 hT) (by decide) rfl (by decide)) rfl (by decide) rfl (fun x1257 n1257 q1257 => ?_)
  show GX T 1000 316 1260 [(2, 0), (2, 1), (2, 192), (0, (i : Int))] [(0, x1257)] n1257 (fun v _ => v = (0, 1))
  have sc_n1257 := sc_fr q1257.2.2.2.2.1 (by decide) sc_n1247
  have rl_n1257 : RelR n1257 := Rel_fr q1257.2.2.2.2.1 (by decide) (by decide) (by decide) (by decide) (by decide) (by decide) (by decide) (by decide) rl_n1247
  refine gx_st (L' := [(2, 0), (2, 1), (2, 192), (0, (i : Int))]) (S' := []) r_316_1260 rfl rfl rfl ?_
  refine gx_st (L' := [(2, 0), (2, 1), (2, 192), (0, (i : Int))]) (S' := []) r_316_1261 rfl rfl rfl ?_
  exact hnext n1257 ⟨q1257.2.2.1, q1257.2.2.2.1, sc_n1257, rl_n1257⟩
theorem pk_45 (hT : TT T) : ConH T cn_45 := fun args m => ((all_con hT 487).1 (by decide)) cn_45 cx_45 args m
theorem pk_191 (hT : TT T) : ConX T cn_191 false true := by
  have z := ((all_con hT 906).2 (by decide)) cn_191 cx_191
  rw [show (Fl 906).2 = (false, true) by decide] at z
  exact z
theorem case_42 (hT : TT T) (h0 : T[0]? = some (100, L)) (hL : L ≤ 3072) (hi : i + 6 ≤ L) (hl : LI xs m) (hnext : ∀ m, LI xs m → GX T 1000 316 2098 [(2, 0), (2, 1), (2, 192), (0, (i : Int))] [] m (fun v _ => v = (0, 1))) : GX T 1000 316 1264 [(2, 0), (2, 1), (2, 192), (0, (i : Int))] [] m (fun v _ => v = (0, 1)) := by
  obtain ⟨s1, e_s1⟩ : ∃ z, z = (xs (i + 1)).toInt := ⟨_, rfl⟩
  have b_s1 := i32_in (xs (i + 1))
  rw [← e_s1] at b_s1
  unfold in32 at b_s1
  obtain ⟨s2, e_s2⟩ : ∃ z, z = (xs (i + 2)).toInt := ⟨_, rfl⟩
  have b_s2 := i32_in (xs (i + 2))
  rw [← e_s2] at b_s2
  unfold in32 at b_s2
  obtain ⟨s3, e_s3⟩ : ∃ z, z = (xs (i + 3)).toInt := ⟨_, rfl⟩
  have b_s3 := i32_in (xs (i + 3))
  rw [← e_s3] at b_s3
  unfold in32 at b_s3
  obtain ⟨s4, e_s4⟩ : ∃ z, z = (xs (i + 4)).toInt := ⟨_, rfl⟩
  have b_s4 := i32_in (xs (i + 4))
  rw [← e_s4] at b_s4
  unfold in32 at b_s4
  obtain ⟨s5, e_s5⟩ : ∃ z, z = (xs (i + 5)).toInt := ⟨_, rfl⟩
  have b_s5 := i32_in (xs (i + 5))
  rw [← e_s5] at b_s5
  unfold in32 at b_s5
  refine gx_st (L' := [(2, 0), (2, 1), (2, 192), (0, (i : Int))]) (S' := [(2, 1)]) r_316_1264 rfl rfl rfl ?_
  obtain ⟨nw, hnw, hnw12⟩ := wa_n hl.1
  refine gx_ci (nx := 1268) (S2 := []) (gx_ai (z_45 hT hl.2.2.2.1 hl.1 hl.2.2.2.2.2.1 hl.2.2.2.2.2.2.1 hnw hl.2.1) (gx_hi (args := [(2, 1)]) (pk_45 hT) ⟨gq_o1, trivial⟩ hl.1 rfl)) r_316_1265 rfl rfl rfl rfl rfl (rcv_v rfl (tk_1 hT) (by decide) rfl (by decide)) rfl (by decide) rfl (fun x1265 n1265 q1265 => ?_)
  show GX T 1000 316 1268 [(2, 0), (2, 1), (2, 192), (0, (i : Int))] [(0, x1265)] n1265 (fun v _ => v = (0, 1))
  have ex_n1265 : Ext n1265 := Ext_fr q1265.2.2.2.2 (by decide) hl.2.1
  have sc_n1265 := sc_fr q1265.2.2.2.2 (by decide) hl.2.2.1
  have pn_n1265 : PinR n1265 := PinR_fr q1265.2.2.2.2 (by decide) hl.2.2.2.1
  refine gx_st (L' := [(2, 0), (2, 1), (2, 192), (0, (i : Int))]) (S' := [(2, 192), (0, x1265)]) r_316_1268 rfl rfl rfl ?_
  refine gx_ci (nx := 1272) (S2 := [(0, x1265)]) (gx_ai (y_191 hT pn_n1265 q1265.2.2.2.1 ex_n1265 (wbp_x hl.2.2.2.2.2.1 (fun i => q1265.2.2.2.2 193 i rfl)).1 (wbp_x hl.2.2.2.2.2.1 (fun i => q1265.2.2.2.2 193 i rfl)).2 (n := nw) ((q1265.2.2.2.2 193 1 rfl).trans hnw)) (gx_xi (args := [(2, 192)]) (pk_191 hT) ⟨gq_o192, trivial⟩ q1265.2.2.2.1 ex_n1265 (fun z => absurd z (by decide)) rfl)) r_316_1269 rfl rfl rfl rfl rfl (rcv_v rfl (tk_192 hT) (by decide) rfl (by decide)) rfl (by decide) rfl (fun x1269 n1269 q1269 => ?_)
  show GX T 1000 316 1272 [(2, 0), (2, 1), (2, 192), (0, (i : Int))] [(0, x1269), (0, x1265)] n1269 (fun v _ => v = (0, 1))
  have sc_n1269 := sc_fr q1269.2.2.2.2.2.1 (by decide) sc_n1265
  obtain ⟨eqv, rl_n1269⟩ : x1265 = x1269 ∧ RelR n1269 := ⟨q_45 hl.2.2.2.2.2.1 q1265.1 (funext fun i => q1265.2.2.2.2 193 i rfl) q1269.1, ⟨PinR_fr q1269.2.2.2.2.2.1 (by decide) (PinR_fr q1265.2.2.2.2 (by decide) hl.2.2.2.1), TBr_fr q1269.2.2.2.2.2.1 rfl rfl rfl rfl (TBr_fr q1265.2.2.2.2 rfl rfl rfl rfl hl.2.2.2.2.1), WX_fr q1269.2.2.2.2.2.1 (by decide) (WX_fr q1265.2.2.2.2 (by decide) hl.2.2.2.2.2.1), planx_fr q1269.2.2.2.2.2.1 (by decide) q1265.1.2.2, ZX_fr q1269.2.2.2.2.2.1 (by decide) (ZX_fr q1265.2.2.2.2 (by decide) hl.2.2.2.2.2.2.2)⟩⟩
  refine gx_ic (P := x1265 = x1269) r_316_1272 (rfl) (fun h1272 => ?_) (fun h1272 => ?_)
  · exact hnext n1269 ⟨q1269.2.2.2.1, q1269.2.2.2.2.1, sc_n1269, rl_n1269⟩
  · exact absurd eqv h1272
theorem pk_36 (hT : TT T) : ConH T cn_36 := fun args m => ((all_con hT 392).1 (by decide)) cn_36 cx_36 args m
theorem pk_192 (hT : TT T) : ConX T cn_192 false false := by
  have z := ((all_con hT 884).2 (by decide)) cn_192 cx_192
  rw [show (Fl 884).2 = (false, false) by decide] at z
  exact z
theorem case_43 (hT : TT T) (h0 : T[0]? = some (100, L)) (hL : L ≤ 3072) (hi : i + 6 ≤ L) (hl : LI xs m) (hnext : ∀ m, LI xs m → GX T 1000 316 2098 [(2, 0), (2, 1), (2, 192), (0, (i : Int))] [] m (fun v _ => v = (0, 1))) : GX T 1000 316 1277 [(2, 0), (2, 1), (2, 192), (0, (i : Int))] [] m (fun v _ => v = (0, 1)) := by
  obtain ⟨s1, e_s1⟩ : ∃ z, z = (xs (i + 1)).toInt := ⟨_, rfl⟩
  have b_s1 := i32_in (xs (i + 1))
  rw [← e_s1] at b_s1
  unfold in32 at b_s1
  obtain ⟨s2, e_s2⟩ : ∃ z, z = (xs (i + 2)).toInt := ⟨_, rfl⟩
  have b_s2 := i32_in (xs (i + 2))
  rw [← e_s2] at b_s2
  unfold in32 at b_s2
  obtain ⟨s3, e_s3⟩ : ∃ z, z = (xs (i + 3)).toInt := ⟨_, rfl⟩
  have b_s3 := i32_in (xs (i + 3))
  rw [← e_s3] at b_s3
  unfold in32 at b_s3
  obtain ⟨s4, e_s4⟩ : ∃ z, z = (xs (i + 4)).toInt := ⟨_, rfl⟩
  have b_s4 := i32_in (xs (i + 4))
  rw [← e_s4] at b_s4
  unfold in32 at b_s4
  obtain ⟨s5, e_s5⟩ : ∃ z, z = (xs (i + 5)).toInt := ⟨_, rfl⟩
  have b_s5 := i32_in (xs (i + 5))
  rw [← e_s5] at b_s5
  unfold in32 at b_s5
  refine gx_st (L' := [(2, 0), (2, 1), (2, 192), (0, (i : Int))]) (S' := [(2, 1)]) r_316_1277 rfl rfl rfl ?_
  refine gx_st (L' := [(2, 0), (2, 1), (2, 192), (0, (i : Int))]) (S' := [(2, 0), (2, 1)]) r_316_1278 rfl rfl rfl ?_
  refine gx_st (L' := [(2, 0), (2, 1), (2, 192), (0, (i : Int))]) (S' := [(0, (i : Int)), (2, 0), (2, 1)]) r_316_1279 rfl rfl rfl ?_
  refine gx_st (L' := [(2, 0), (2, 1), (2, 192), (0, (i : Int))]) (S' := [(0, 1), (0, (i : Int)), (2, 0), (2, 1)]) r_316_1280 rfl rfl rfl ?_
  refine gx_ar (L' := [(2, 0), (2, 1), (2, 192), (0, (i : Int))]) (S' := [(2, 0), (2, 1)]) (t := 0) (e := w32 ((i : Int) + 1)) (z := (i : Int) + 1) r_316_1281 rfl rfl rfl (w32_eq (by omega) (by omega) (by omega)) ?_
  refine gx_ia (n := i + 1) (x := s1) r_316_1282 rfl h0 (by omega) ⟨rfl, by show i + 1 < L; omega⟩ ((hl.2.2.1 (i + 1)).trans e_s1.symm) ?_
  show GX T 1000 316 1283 [(2, 0), (2, 1), (2, 192), (0, (i : Int))] [(0, s1), (2, 1)] m (fun v _ => v = (0, 1))
  refine gx_ci (nx := 1286) (S2 := []) (gx_hi (args := [(2, 1), (0, s1)]) (pk_36 hT) ⟨gq_o1, gq_any (by omega) (by omega), trivial⟩ hl.1 rfl) r_316_1283 rfl rfl rfl rfl rfl (rcv_v rfl (tk_1 hT) (by decide) rfl (by decide)) rfl (by decide) rfl (fun x1283 n1283 q1283 => ?_)
  show GX T 1000 316 1286 [(2, 0), (2, 1), (2, 192), (0, (i : Int))] [(0, x1283)] n1283 (fun v _ => v = (0, 1))
  have ex_n1283 : Ext n1283 := Ext_fr q1283.2.2.2 (by decide) hl.2.1
  have sc_n1283 := sc_fr q1283.2.2.2 (by decide) hl.2.2.1
  have rl_n1283 : RelR n1283 := Rel_fr q1283.2.2.2 (by decide) (by decide) (by decide) (by decide) (by decide) (by decide) (by decide) (by decide) hl.2.2.2
  refine gx_st (L' := [(2, 0), (2, 1), (2, 192), (0, (i : Int))]) (S' := []) r_316_1286 rfl rfl rfl ?_
  refine gx_st (L' := [(2, 0), (2, 1), (2, 192), (0, (i : Int))]) (S' := [(2, 192)]) r_316_1287 rfl rfl rfl ?_
  refine gx_st (L' := [(2, 0), (2, 1), (2, 192), (0, (i : Int))]) (S' := [(2, 0), (2, 192)]) r_316_1288 rfl rfl rfl ?_
  refine gx_st (L' := [(2, 0), (2, 1), (2, 192), (0, (i : Int))]) (S' := [(0, (i : Int)), (2, 0), (2, 192)]) r_316_1289 rfl rfl rfl ?_
  refine gx_st (L' := [(2, 0), (2, 1), (2, 192), (0, (i : Int))]) (S' := [(0, 1), (0, (i : Int)), (2, 0), (2, 192)]) r_316_1290 rfl rfl rfl ?_
  refine gx_ar (L' := [(2, 0), (2, 1), (2, 192), (0, (i : Int))]) (S' := [(2, 0), (2, 192)]) (t := 0) (e := w32 ((i : Int) + 1)) (z := (i : Int) + 1) r_316_1291 rfl rfl rfl (w32_eq (by omega) (by omega) (by omega)) ?_
  refine gx_ia (n := i + 1) (x := s1) r_316_1292 rfl h0 (by omega) ⟨rfl, by show i + 1 < L; omega⟩ ((sc_n1283 (i + 1)).trans e_s1.symm) ?_
  show GX T 1000 316 1293 [(2, 0), (2, 1), (2, 192), (0, (i : Int))] [(0, s1), (2, 192)] n1283 (fun v _ => v = (0, 1))
  refine gx_ci (nx := 1296) (S2 := []) (gx_xi (args := [(2, 192), (0, s1)]) (pk_192 hT) ⟨gq_o192, gq_any (by omega) (by omega), trivial⟩ q1283.2.2.1 ex_n1283 (fun z => absurd z (by decide)) rfl) r_316_1293 rfl rfl rfl rfl rfl (rcv_v rfl (tk_192 hT) (by decide) rfl (by decide)) rfl (by decide) rfl (fun x1293 n1293 q1293 => ?_)
  show GX T 1000 316 1296 [(2, 0), (2, 1), (2, 192), (0, (i : Int))] [(0, x1293)] n1293 (fun v _ => v = (0, 1))
  have sc_n1293 := sc_fr q1293.2.2.2.2.1 (by decide) sc_n1283
  have rl_n1293 : RelR n1293 := Rel_fr q1293.2.2.2.2.1 (by decide) (by decide) (by decide) (by decide) (by decide) (by decide) (by decide) (by decide) rl_n1283
  refine gx_st (L' := [(2, 0), (2, 1), (2, 192), (0, (i : Int))]) (S' := []) r_316_1296 rfl rfl rfl ?_
  refine gx_st (L' := [(2, 0), (2, 1), (2, 192), (0, (i : Int))]) (S' := []) r_316_1297 rfl rfl rfl ?_
  exact hnext n1293 ⟨q1293.2.2.1, q1293.2.2.2.1, sc_n1293, rl_n1293⟩
theorem pk_37 (hT : TT T) : ConH T cn_37 := fun args m => ((all_con hT 394).1 (by decide)) cn_37 cx_37 args m
theorem pk_193 (hT : TT T) : ConX T cn_193 false false := by
  have z := ((all_con hT 885).2 (by decide)) cn_193 cx_193
  rw [show (Fl 885).2 = (false, false) by decide] at z
  exact z
theorem case_44 (hT : TT T) (h0 : T[0]? = some (100, L)) (hL : L ≤ 3072) (hi : i + 6 ≤ L) (hl : LI xs m) (hnext : ∀ m, LI xs m → GX T 1000 316 2098 [(2, 0), (2, 1), (2, 192), (0, (i : Int))] [] m (fun v _ => v = (0, 1))) : GX T 1000 316 1300 [(2, 0), (2, 1), (2, 192), (0, (i : Int))] [] m (fun v _ => v = (0, 1)) := by
  obtain ⟨s1, e_s1⟩ : ∃ z, z = (xs (i + 1)).toInt := ⟨_, rfl⟩
  have b_s1 := i32_in (xs (i + 1))
  rw [← e_s1] at b_s1
  unfold in32 at b_s1
  obtain ⟨s2, e_s2⟩ : ∃ z, z = (xs (i + 2)).toInt := ⟨_, rfl⟩
  have b_s2 := i32_in (xs (i + 2))
  rw [← e_s2] at b_s2
  unfold in32 at b_s2
  obtain ⟨s3, e_s3⟩ : ∃ z, z = (xs (i + 3)).toInt := ⟨_, rfl⟩
  have b_s3 := i32_in (xs (i + 3))
  rw [← e_s3] at b_s3
  unfold in32 at b_s3
  obtain ⟨s4, e_s4⟩ : ∃ z, z = (xs (i + 4)).toInt := ⟨_, rfl⟩
  have b_s4 := i32_in (xs (i + 4))
  rw [← e_s4] at b_s4
  unfold in32 at b_s4
  obtain ⟨s5, e_s5⟩ : ∃ z, z = (xs (i + 5)).toInt := ⟨_, rfl⟩
  have b_s5 := i32_in (xs (i + 5))
  rw [← e_s5] at b_s5
  unfold in32 at b_s5
  refine gx_st (L' := [(2, 0), (2, 1), (2, 192), (0, (i : Int))]) (S' := [(2, 1)]) r_316_1300 rfl rfl rfl ?_
  refine gx_ci (nx := 1304) (S2 := []) (gx_hi (args := [(2, 1)]) (pk_37 hT) ⟨gq_o1, trivial⟩ hl.1 rfl) r_316_1301 rfl rfl rfl rfl rfl (rcv_v rfl (tk_1 hT) (by decide) rfl (by decide)) rfl (by decide) rfl (fun x1301 n1301 q1301 => ?_)
  show GX T 1000 316 1304 [(2, 0), (2, 1), (2, 192), (0, (i : Int))] [(0, x1301)] n1301 (fun v _ => v = (0, 1))
  have ex_n1301 : Ext n1301 := Ext_fr q1301.2.2.2 (by decide) hl.2.1
  have sc_n1301 := sc_fr q1301.2.2.2 (by decide) hl.2.2.1
  have rl_n1301 : RelR n1301 := Rel_fr q1301.2.2.2 (by decide) (by decide) (by decide) (by decide) (by decide) (by decide) (by decide) (by decide) hl.2.2.2
  refine gx_st (L' := [(2, 0), (2, 1), (2, 192), (0, (i : Int))]) (S' := []) r_316_1304 rfl rfl rfl ?_
  refine gx_st (L' := [(2, 0), (2, 1), (2, 192), (0, (i : Int))]) (S' := [(2, 192)]) r_316_1305 rfl rfl rfl ?_
  refine gx_ci (nx := 1309) (S2 := []) (gx_xi (args := [(2, 192)]) (pk_193 hT) ⟨gq_o192, trivial⟩ q1301.2.2.1 ex_n1301 (fun z => absurd z (by decide)) rfl) r_316_1306 rfl rfl rfl rfl rfl (rcv_v rfl (tk_192 hT) (by decide) rfl (by decide)) rfl (by decide) rfl (fun x1306 n1306 q1306 => ?_)
  show GX T 1000 316 1309 [(2, 0), (2, 1), (2, 192), (0, (i : Int))] [(0, x1306)] n1306 (fun v _ => v = (0, 1))
  have sc_n1306 := sc_fr q1306.2.2.2.2.1 (by decide) sc_n1301
  have rl_n1306 : RelR n1306 := Rel_fr q1306.2.2.2.2.1 (by decide) (by decide) (by decide) (by decide) (by decide) (by decide) (by decide) (by decide) rl_n1301
  refine gx_st (L' := [(2, 0), (2, 1), (2, 192), (0, (i : Int))]) (S' := []) r_316_1309 rfl rfl rfl ?_
  refine gx_st (L' := [(2, 0), (2, 1), (2, 192), (0, (i : Int))]) (S' := []) r_316_1310 rfl rfl rfl ?_
  exact hnext n1306 ⟨q1306.2.2.1, q1306.2.2.2.1, sc_n1306, rl_n1306⟩
theorem pk_46 (hT : TT T) : ConH T cn_46 := fun args m => ((all_con hT 506).1 (by decide)) cn_46 cx_46 args m
theorem pk_196 (hT : TT T) : ConX T cn_196 false false := by
  have z := ((all_con hT 911).2 (by decide)) cn_196 cx_196
  rw [show (Fl 911).2 = (false, false) by decide] at z
  exact z
theorem case_45 (hT : TT T) (h0 : T[0]? = some (100, L)) (hL : L ≤ 3072) (hi : i + 6 ≤ L) (hl : LI xs m) (hnext : ∀ m, LI xs m → GX T 1000 316 2098 [(2, 0), (2, 1), (2, 192), (0, (i : Int))] [] m (fun v _ => v = (0, 1))) : GX T 1000 316 1313 [(2, 0), (2, 1), (2, 192), (0, (i : Int))] [] m (fun v _ => v = (0, 1)) := by
  obtain ⟨s1, e_s1⟩ : ∃ z, z = (xs (i + 1)).toInt := ⟨_, rfl⟩
  have b_s1 := i32_in (xs (i + 1))
  rw [← e_s1] at b_s1
  unfold in32 at b_s1
  obtain ⟨s2, e_s2⟩ : ∃ z, z = (xs (i + 2)).toInt := ⟨_, rfl⟩
  have b_s2 := i32_in (xs (i + 2))
  rw [← e_s2] at b_s2
  unfold in32 at b_s2
  obtain ⟨s3, e_s3⟩ : ∃ z, z = (xs (i + 3)).toInt := ⟨_, rfl⟩
  have b_s3 := i32_in (xs (i + 3))
  rw [← e_s3] at b_s3
  unfold in32 at b_s3
  obtain ⟨s4, e_s4⟩ : ∃ z, z = (xs (i + 4)).toInt := ⟨_, rfl⟩
  have b_s4 := i32_in (xs (i + 4))
  rw [← e_s4] at b_s4
  unfold in32 at b_s4
  obtain ⟨s5, e_s5⟩ : ∃ z, z = (xs (i + 5)).toInt := ⟨_, rfl⟩
  have b_s5 := i32_in (xs (i + 5))
  rw [← e_s5] at b_s5
  unfold in32 at b_s5
  refine gx_st (L' := [(2, 0), (2, 1), (2, 192), (0, (i : Int))]) (S' := [(2, 1)]) r_316_1313 rfl rfl rfl ?_
  refine gx_st (L' := [(2, 0), (2, 1), (2, 192), (0, (i : Int))]) (S' := [(2, 0), (2, 1)]) r_316_1314 rfl rfl rfl ?_
  refine gx_st (L' := [(2, 0), (2, 1), (2, 192), (0, (i : Int))]) (S' := [(0, (i : Int)), (2, 0), (2, 1)]) r_316_1315 rfl rfl rfl ?_
  refine gx_st (L' := [(2, 0), (2, 1), (2, 192), (0, (i : Int))]) (S' := [(0, 1), (0, (i : Int)), (2, 0), (2, 1)]) r_316_1316 rfl rfl rfl ?_
  refine gx_ar (L' := [(2, 0), (2, 1), (2, 192), (0, (i : Int))]) (S' := [(2, 0), (2, 1)]) (t := 0) (e := w32 ((i : Int) + 1)) (z := (i : Int) + 1) r_316_1317 rfl rfl rfl (w32_eq (by omega) (by omega) (by omega)) ?_
  refine gx_ia (n := i + 1) (x := s1) r_316_1318 rfl h0 (by omega) ⟨rfl, by show i + 1 < L; omega⟩ ((hl.2.2.1 (i + 1)).trans e_s1.symm) ?_
  show GX T 1000 316 1319 [(2, 0), (2, 1), (2, 192), (0, (i : Int))] [(0, s1), (2, 1)] m (fun v _ => v = (0, 1))
  refine gx_ci (nx := 1322) (S2 := []) (gx_hi (args := [(2, 1), (0, s1)]) (pk_46 hT) ⟨gq_o1, gq_any (by omega) (by omega), trivial⟩ hl.1 rfl) r_316_1319 rfl rfl rfl rfl rfl (rcv_v rfl (tk_1 hT) (by decide) rfl (by decide)) rfl (by decide) rfl (fun x1319 n1319 q1319 => ?_)
  show GX T 1000 316 1322 [(2, 0), (2, 1), (2, 192), (0, (i : Int))] [(0, x1319)] n1319 (fun v _ => v = (0, 1))
  have ex_n1319 : Ext n1319 := Ext_fr q1319.2.2.2 (by decide) hl.2.1
  have sc_n1319 := sc_fr q1319.2.2.2 (by decide) hl.2.2.1
  have rl_n1319 : RelR n1319 := Rel_fr q1319.2.2.2 (by decide) (by decide) (by decide) (by decide) (by decide) (by decide) (by decide) (by decide) hl.2.2.2
  refine gx_st (L' := [(2, 0), (2, 1), (2, 192), (0, (i : Int))]) (S' := []) r_316_1322 rfl rfl rfl ?_
  refine gx_st (L' := [(2, 0), (2, 1), (2, 192), (0, (i : Int))]) (S' := [(2, 192)]) r_316_1323 rfl rfl rfl ?_
  refine gx_st (L' := [(2, 0), (2, 1), (2, 192), (0, (i : Int))]) (S' := [(2, 0), (2, 192)]) r_316_1324 rfl rfl rfl ?_
  refine gx_st (L' := [(2, 0), (2, 1), (2, 192), (0, (i : Int))]) (S' := [(0, (i : Int)), (2, 0), (2, 192)]) r_316_1325 rfl rfl rfl ?_
  refine gx_st (L' := [(2, 0), (2, 1), (2, 192), (0, (i : Int))]) (S' := [(0, 1), (0, (i : Int)), (2, 0), (2, 192)]) r_316_1326 rfl rfl rfl ?_
  refine gx_ar (L' := [(2, 0), (2, 1), (2, 192), (0, (i : Int))]) (S' := [(2, 0), (2, 192)]) (t := 0) (e := w32 ((i : Int) + 1)) (z := (i : Int) + 1) r_316_1327 rfl rfl rfl (w32_eq (by omega) (by omega) (by omega)) ?_
  refine gx_ia (n := i + 1) (x := s1) r_316_1328 rfl h0 (by omega) ⟨rfl, by show i + 1 < L; omega⟩ ((sc_n1319 (i + 1)).trans e_s1.symm) ?_
  show GX T 1000 316 1329 [(2, 0), (2, 1), (2, 192), (0, (i : Int))] [(0, s1), (2, 192)] n1319 (fun v _ => v = (0, 1))
  refine gx_ci (nx := 1332) (S2 := []) (gx_xi (args := [(2, 192), (0, s1)]) (pk_196 hT) ⟨gq_o192, gq_any (by omega) (by omega), trivial⟩ q1319.2.2.1 ex_n1319 (fun z => absurd z (by decide)) rfl) r_316_1329 rfl rfl rfl rfl rfl (rcv_v rfl (tk_192 hT) (by decide) rfl (by decide)) rfl (by decide) rfl (fun x1329 n1329 q1329 => ?_)
  show GX T 1000 316 1332 [(2, 0), (2, 1), (2, 192), (0, (i : Int))] [(0, x1329)] n1329 (fun v _ => v = (0, 1))
  have sc_n1329 := sc_fr q1329.2.2.2.2.1 (by decide) sc_n1319
  have rl_n1329 : RelR n1329 := Rel_fr q1329.2.2.2.2.1 (by decide) (by decide) (by decide) (by decide) (by decide) (by decide) (by decide) (by decide) rl_n1319
  refine gx_st (L' := [(2, 0), (2, 1), (2, 192), (0, (i : Int))]) (S' := []) r_316_1332 rfl rfl rfl ?_
  refine gx_st (L' := [(2, 0), (2, 1), (2, 192), (0, (i : Int))]) (S' := []) r_316_1333 rfl rfl rfl ?_
  exact hnext n1329 ⟨q1329.2.2.1, q1329.2.2.2.1, sc_n1329, rl_n1329⟩
theorem pk_47 (hT : TT T) : ConH T cn_47 := fun args m => ((all_con hT 510).1 (by decide)) cn_47 cx_47 args m
theorem pk_197 (hT : TT T) : ConX T cn_197 false false := by
  have z := ((all_con hT 912).2 (by decide)) cn_197 cx_197
  rw [show (Fl 912).2 = (false, false) by decide] at z
  exact z
theorem case_46 (hT : TT T) (h0 : T[0]? = some (100, L)) (hL : L ≤ 3072) (hi : i + 6 ≤ L) (hl : LI xs m) (hnext : ∀ m, LI xs m → GX T 1000 316 2098 [(2, 0), (2, 1), (2, 192), (0, (i : Int))] [] m (fun v _ => v = (0, 1))) : GX T 1000 316 1336 [(2, 0), (2, 1), (2, 192), (0, (i : Int))] [] m (fun v _ => v = (0, 1)) := by
  obtain ⟨s1, e_s1⟩ : ∃ z, z = (xs (i + 1)).toInt := ⟨_, rfl⟩
  have b_s1 := i32_in (xs (i + 1))
  rw [← e_s1] at b_s1
  unfold in32 at b_s1
  obtain ⟨s2, e_s2⟩ : ∃ z, z = (xs (i + 2)).toInt := ⟨_, rfl⟩
  have b_s2 := i32_in (xs (i + 2))
  rw [← e_s2] at b_s2
  unfold in32 at b_s2
  obtain ⟨s3, e_s3⟩ : ∃ z, z = (xs (i + 3)).toInt := ⟨_, rfl⟩
  have b_s3 := i32_in (xs (i + 3))
  rw [← e_s3] at b_s3
  unfold in32 at b_s3
  obtain ⟨s4, e_s4⟩ : ∃ z, z = (xs (i + 4)).toInt := ⟨_, rfl⟩
  have b_s4 := i32_in (xs (i + 4))
  rw [← e_s4] at b_s4
  unfold in32 at b_s4
  obtain ⟨s5, e_s5⟩ : ∃ z, z = (xs (i + 5)).toInt := ⟨_, rfl⟩
  have b_s5 := i32_in (xs (i + 5))
  rw [← e_s5] at b_s5
  unfold in32 at b_s5
  refine gx_st (L' := [(2, 0), (2, 1), (2, 192), (0, (i : Int))]) (S' := [(2, 1)]) r_316_1336 rfl rfl rfl ?_
  refine gx_st (L' := [(2, 0), (2, 1), (2, 192), (0, (i : Int))]) (S' := [(2, 0), (2, 1)]) r_316_1337 rfl rfl rfl ?_
  refine gx_st (L' := [(2, 0), (2, 1), (2, 192), (0, (i : Int))]) (S' := [(0, (i : Int)), (2, 0), (2, 1)]) r_316_1338 rfl rfl rfl ?_
  refine gx_st (L' := [(2, 0), (2, 1), (2, 192), (0, (i : Int))]) (S' := [(0, 1), (0, (i : Int)), (2, 0), (2, 1)]) r_316_1339 rfl rfl rfl ?_
  refine gx_ar (L' := [(2, 0), (2, 1), (2, 192), (0, (i : Int))]) (S' := [(2, 0), (2, 1)]) (t := 0) (e := w32 ((i : Int) + 1)) (z := (i : Int) + 1) r_316_1340 rfl rfl rfl (w32_eq (by omega) (by omega) (by omega)) ?_
  refine gx_ia (n := i + 1) (x := s1) r_316_1341 rfl h0 (by omega) ⟨rfl, by show i + 1 < L; omega⟩ ((hl.2.2.1 (i + 1)).trans e_s1.symm) ?_
  show GX T 1000 316 1342 [(2, 0), (2, 1), (2, 192), (0, (i : Int))] [(0, s1), (2, 1)] m (fun v _ => v = (0, 1))
  refine gx_ci (nx := 1345) (S2 := []) (gx_hi (args := [(2, 1), (0, s1)]) (pk_47 hT) ⟨gq_o1, gq_any (by omega) (by omega), trivial⟩ hl.1 rfl) r_316_1342 rfl rfl rfl rfl rfl (rcv_v rfl (tk_1 hT) (by decide) rfl (by decide)) rfl (by decide) rfl (fun x1342 n1342 q1342 => ?_)
  show GX T 1000 316 1345 [(2, 0), (2, 1), (2, 192), (0, (i : Int))] [(0, x1342)] n1342 (fun v _ => v = (0, 1))
  have ex_n1342 : Ext n1342 := Ext_fr q1342.2.2.2 (by decide) hl.2.1
  have sc_n1342 := sc_fr q1342.2.2.2 (by decide) hl.2.2.1
  have rl_n1342 : RelR n1342 := Rel_fr q1342.2.2.2 (by decide) (by decide) (by decide) (by decide) (by decide) (by decide) (by decide) (by decide) hl.2.2.2
  refine gx_st (L' := [(2, 0), (2, 1), (2, 192), (0, (i : Int))]) (S' := []) r_316_1345 rfl rfl rfl ?_
  refine gx_st (L' := [(2, 0), (2, 1), (2, 192), (0, (i : Int))]) (S' := [(2, 192)]) r_316_1346 rfl rfl rfl ?_
  refine gx_st (L' := [(2, 0), (2, 1), (2, 192), (0, (i : Int))]) (S' := [(2, 0), (2, 192)]) r_316_1347 rfl rfl rfl ?_
  refine gx_st (L' := [(2, 0), (2, 1), (2, 192), (0, (i : Int))]) (S' := [(0, (i : Int)), (2, 0), (2, 192)]) r_316_1348 rfl rfl rfl ?_
  refine gx_st (L' := [(2, 0), (2, 1), (2, 192), (0, (i : Int))]) (S' := [(0, 1), (0, (i : Int)), (2, 0), (2, 192)]) r_316_1349 rfl rfl rfl ?_
  refine gx_ar (L' := [(2, 0), (2, 1), (2, 192), (0, (i : Int))]) (S' := [(2, 0), (2, 192)]) (t := 0) (e := w32 ((i : Int) + 1)) (z := (i : Int) + 1) r_316_1350 rfl rfl rfl (w32_eq (by omega) (by omega) (by omega)) ?_
  refine gx_ia (n := i + 1) (x := s1) r_316_1351 rfl h0 (by omega) ⟨rfl, by show i + 1 < L; omega⟩ ((sc_n1342 (i + 1)).trans e_s1.symm) ?_
  show GX T 1000 316 1352 [(2, 0), (2, 1), (2, 192), (0, (i : Int))] [(0, s1), (2, 192)] n1342 (fun v _ => v = (0, 1))
  refine gx_ci (nx := 1355) (S2 := []) (gx_xi (args := [(2, 192), (0, s1)]) (pk_197 hT) ⟨gq_o192, gq_any (by omega) (by omega), trivial⟩ q1342.2.2.1 ex_n1342 (fun z => absurd z (by decide)) rfl) r_316_1352 rfl rfl rfl rfl rfl (rcv_v rfl (tk_192 hT) (by decide) rfl (by decide)) rfl (by decide) rfl (fun x1352 n1352 q1352 => ?_)
  show GX T 1000 316 1355 [(2, 0), (2, 1), (2, 192), (0, (i : Int))] [(0, x1352)] n1352 (fun v _ => v = (0, 1))
  have sc_n1352 := sc_fr q1352.2.2.2.2.1 (by decide) sc_n1342
  have rl_n1352 : RelR n1352 := Rel_fr q1352.2.2.2.2.1 (by decide) (by decide) (by decide) (by decide) (by decide) (by decide) (by decide) (by decide) rl_n1342
  refine gx_st (L' := [(2, 0), (2, 1), (2, 192), (0, (i : Int))]) (S' := []) r_316_1355 rfl rfl rfl ?_
  refine gx_st (L' := [(2, 0), (2, 1), (2, 192), (0, (i : Int))]) (S' := []) r_316_1356 rfl rfl rfl ?_
  exact hnext n1352 ⟨q1352.2.2.1, q1352.2.2.2.1, sc_n1352, rl_n1352⟩
end LAW
