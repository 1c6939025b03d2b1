theorem d_L_law_908 : decode code 908 = .ok (.iadd, 1) := by decide +kernel
theorem d_L_law_909 : decode code 909 = .ok (.iaload, 1) := by decide +kernel
theorem d_L_law_910 : decode code 910 = .ok (.invokevirtual 106, 3) := by decide +kernel
theorem d_L_law_913 : decode code 913 = .ok (.lcmp, 1) := by decide +kernel
theorem d_L_law_914 : decode code 914 = .ok (.ifCond .eq 614, 3) := by decide +kernel
theorem d_L_law_917 : decode code 917 = .ok (.iconst 0, 1) := by decide +kernel
theorem d_L_law_918 : decode code 918 = .ok (.ireturn, 1) := by decide +kernel
theorem d_L_law_919 : decode code 919 = .ok (.aload_n 1, 1) := by decide +kernel
theorem d_L_law_920 : decode code 920 = .ok (.aload_n 0, 1) := by decide +kernel
theorem d_L_law_921 : decode code 921 = .ok (.iload_n 3, 1) := by decide +kernel
theorem d_L_law_922 : decode code 922 = .ok (.iconst 1, 1) := by decide +kernel
theorem d_L_law_923 : decode code 923 = .ok (.iadd, 1) := by decide +kernel
theorem d_L_law_924 : decode code 924 = .ok (.iaload, 1) := by decide +kernel
theorem d_L_law_925 : decode code 925 = .ok (.aload_n 0, 1) := by decide +kernel
theorem d_L_law_926 : decode code 926 = .ok (.iload_n 3, 1) := by decide +kernel
theorem d_L_law_927 : decode code 927 = .ok (.iconst 2, 1) := by decide +kernel
theorem d_L_law_928 : decode code 928 = .ok (.iadd, 1) := by decide +kernel
theorem d_L_law_929 : decode code 929 = .ok (.iaload, 1) := by decide +kernel
theorem d_L_law_930 : decode code 930 = .ok (.invokevirtual 107, 3) := by decide +kernel
theorem d_L_law_933 : decode code 933 = .ok (.aload_n 2, 1) := by decide +kernel
theorem d_L_law_934 : decode code 934 = .ok (.aload_n 0, 1) := by decide +kernel
theorem d_L_law_935 : decode code 935 = .ok (.iload_n 3, 1) := by decide +kernel
theorem d_L_law_936 : decode code 936 = .ok (.iconst 1, 1) := by decide +kernel
theorem d_L_law_937 : decode code 937 = .ok (.iadd, 1) := by decide +kernel
theorem d_L_law_938 : decode code 938 = .ok (.iaload, 1) := by decide +kernel
theorem d_L_law_939 : decode code 939 = .ok (.aload_n 0, 1) := by decide +kernel
theorem d_L_law_940 : decode code 940 = .ok (.iload_n 3, 1) := by decide +kernel
theorem d_L_law_941 : decode code 941 = .ok (.iconst 2, 1) := by decide +kernel
theorem d_L_law_942 : decode code 942 = .ok (.iadd, 1) := by decide +kernel
theorem d_L_law_943 : decode code 943 = .ok (.iaload, 1) := by decide +kernel
theorem d_L_law_944 : decode code 944 = .ok (.invokevirtual 110, 3) := by decide +kernel
theorem d_L_law_947 : decode code 947 = .ok (.if_icmp .eq 581, 3) := by decide +kernel
theorem d_L_law_950 : decode code 950 = .ok (.iconst 0, 1) := by decide +kernel
theorem d_L_law_951 : decode code 951 = .ok (.ireturn, 1) := by decide +kernel
theorem d_L_law_952 : decode code 952 = .ok (.aload_n 1, 1) := by decide +kernel
theorem d_L_law_953 : decode code 953 = .ok (.aload_n 0, 1) := by decide +kernel
theorem d_L_law_954 : decode code 954 = .ok (.iload_n 3, 1) := by decide +kernel
theorem d_L_law_955 : decode code 955 = .ok (.iconst 1, 1) := by decide +kernel
theorem d_L_law_956 : decode code 956 = .ok (.iadd, 1) := by decide +kernel
theorem d_L_law_957 : decode code 957 = .ok (.iaload, 1) := by decide +kernel
theorem d_L_law_958 : decode code 958 = .ok (.aload_n 0, 1) := by decide +kernel
theorem d_L_law_959 : decode code 959 = .ok (.iload_n 3, 1) := by decide +kernel
theorem d_L_law_960 : decode code 960 = .ok (.iconst 2, 1) := by decide +kernel
theorem d_L_law_961 : decode code 961 = .ok (.iadd, 1) := by decide +kernel
theorem d_L_law_962 : decode code 962 = .ok (.iaload, 1) := by decide +kernel
theorem d_L_law_963 : decode code 963 = .ok (.aload_n 0, 1) := by decide +kernel
theorem d_L_law_964 : decode code 964 = .ok (.iload_n 3, 1) := by decide +kernel
theorem d_L_law_965 : decode code 965 = .ok (.iconst 3, 1) := by decide +kernel
theorem d_L_law_966 : decode code 966 = .ok (.iadd, 1) := by decide +kernel
theorem d_L_law_967 : decode code 967 = .ok (.iaload, 1) := by decide +kernel
theorem d_L_law_968 : decode code 968 = .ok (.invokevirtual 111, 3) := by decide +kernel
theorem d_L_law_971 : decode code 971 = .ok (.aload_n 2, 1) := by decide +kernel
theorem d_L_law_972 : decode code 972 = .ok (.aload_n 0, 1) := by decide +kernel
theorem d_L_law_973 : decode code 973 = .ok (.iload_n 3, 1) := by decide +kernel
theorem d_L_law_974 : decode code 974 = .ok (.iconst 1, 1) := by decide +kernel
theorem d_L_law_975 : decode code 975 = .ok (.iadd, 1) := by decide +kernel
theorem d_L_law_976 : decode code 976 = .ok (.iaload, 1) := by decide +kernel
theorem d_L_law_977 : decode code 977 = .ok (.aload_n 0, 1) := by decide +kernel
theorem d_L_law_978 : decode code 978 = .ok (.iload_n 3, 1) := by decide +kernel
theorem d_L_law_979 : decode code 979 = .ok (.iconst 2, 1) := by decide +kernel
theorem d_L_law_980 : decode code 980 = .ok (.iadd, 1) := by decide +kernel
theorem d_L_law_981 : decode code 981 = .ok (.iaload, 1) := by decide +kernel
theorem d_L_law_982 : decode code 982 = .ok (.aload_n 0, 1) := by decide +kernel
theorem d_L_law_983 : decode code 983 = .ok (.iload_n 3, 1) := by decide +kernel
theorem d_L_law_984 : decode code 984 = .ok (.iconst 3, 1) := by decide +kernel
theorem d_L_law_985 : decode code 985 = .ok (.iadd, 1) := by decide +kernel
theorem d_L_law_986 : decode code 986 = .ok (.iaload, 1) := by decide +kernel
theorem d_L_law_987 : decode code 987 = .ok (.invokevirtual 114, 3) := by decide +kernel
theorem d_L_law_990 : decode code 990 = .ok (.if_icmp .eq 538, 3) := by decide +kernel
theorem d_L_law_993 : decode code 993 = .ok (.iconst 0, 1) := by decide +kernel
theorem d_L_law_994 : decode code 994 = .ok (.ireturn, 1) := by decide +kernel
theorem d_L_law_995 : decode code 995 = .ok (.aload_n 1, 1) := by decide +kernel
theorem d_L_law_996 : decode code 996 = .ok (.aload_n 0, 1) := by decide +kernel
theorem d_L_law_997 : decode code 997 = .ok (.iload_n 3, 1) := by decide +kernel
theorem d_L_law_998 : decode code 998 = .ok (.iconst 1, 1) := by decide +kernel
theorem d_L_law_999 : decode code 999 = .ok (.iadd, 1) := by decide +kernel
theorem d_L_law_1000 : decode code 1000 = .ok (.iaload, 1) := by decide +kernel
theorem d_L_law_1001 : decode code 1001 = .ok (.aload_n 0, 1) := by decide +kernel
theorem d_L_law_1002 : decode code 1002 = .ok (.iload_n 3, 1) := by decide +kernel
theorem d_L_law_1003 : decode code 1003 = .ok (.iconst 2, 1) := by decide +kernel
theorem d_L_law_1004 : decode code 1004 = .ok (.iadd, 1) := by decide +kernel
theorem d_L_law_1005 : decode code 1005 = .ok (.iaload, 1) := by decide +kernel
theorem d_L_law_1006 : decode code 1006 = .ok (.aload_n 0, 1) := by decide +kernel
theorem d_L_law_1007 : decode code 1007 = .ok (.iload_n 3, 1) := by decide +kernel
theorem d_L_law_1008 : decode code 1008 = .ok (.iconst 3, 1) := by decide +kernel
theorem d_L_law_1009 : decode code 1009 = .ok (.iadd, 1) := by decide +kernel
theorem d_L_law_1010 : decode code 1010 = .ok (.iaload, 1) := by decide +kernel
theorem d_L_law_1011 : decode code 1011 = .ok (.aload_n 0, 1) := by decide +kernel
theorem d_L_law_1012 : decode code 1012 = .ok (.iload_n 3, 1) := by decide +kernel
theorem d_L_law_1013 : decode code 1013 = .ok (.iconst 4, 1) := by decide +kernel
theorem d_L_law_1014 : decode code 1014 = .ok (.iadd, 1) := by decide +kernel
theorem d_L_law_1015 : decode code 1015 = .ok (.iaload, 1) := by decide +kernel
theorem d_L_law_1016 : decode code 1016 = .ok (.invokevirtual 115, 3) := by decide +kernel
theorem d_L_law_1019 : decode code 1019 = .ok (.aload_n 2, 1) := by decide +kernel
theorem d_L_law_1020 : decode code 1020 = .ok (.aload_n 0, 1) := by decide +kernel
theorem d_L_law_1021 : decode code 1021 = .ok (.iload_n 3, 1) := by decide +kernel
theorem d_L_law_1022 : decode code 1022 = .ok (.iconst 1, 1) := by decide +kernel
theorem d_L_law_1023 : decode code 1023 = .ok (.iadd, 1) := by decide +kernel
theorem d_L_law_1024 : decode code 1024 = .ok (.iaload, 1) := by decide +kernel
theorem d_L_law_1025 : decode code 1025 = .ok (.aload_n 0, 1) := by decide +kernel
theorem d_L_law_1026 : decode code 1026 = .ok (.iload_n 3, 1) := by decide +kernel
theorem d_L_law_1027 : decode code 1027 = .ok (.iconst 2, 1) := by decide +kernel
theorem d_L_law_1028 : decode code 1028 = .ok (.iadd, 1) := by decide +kernel
theorem d_L_law_1029 : decode code 1029 = .ok (.iaload, 1) := by decide +kernel
theorem d_L_law_1030 : decode code 1030 = .ok (.aload_n 0, 1) := by decide +kernel
theorem d_L_law_1031 : decode code 1031 = .ok (.iload_n 3, 1) := by decide +kernel
theorem d_L_law_1032 : decode code 1032 = .ok (.iconst 3, 1) := by decide +kernel
theorem d_L_law_1033 : decode code 1033 = .ok (.iadd, 1) := by decide +kernel
theorem d_L_law_1034 : decode code 1034 = .ok (.iaload, 1) := by decide +kernel
theorem d_L_law_1035 : decode code 1035 = .ok (.aload_n 0, 1) := by decide +kernel
theorem d_L_law_1036 : decode code 1036 = .ok (.iload_n 3, 1) := by decide +kernel
theorem d_L_law_1037 : decode code 1037 = .ok (.iconst 4, 1) := by decide +kernel
theorem d_L_law_1038 : decode code 1038 = .ok (.iadd, 1) := by decide +kernel
theorem d_L_law_1039 : decode code 1039 = .ok (.iaload, 1) := by decide +kernel
theorem d_L_law_1040 : decode code 1040 = .ok (.invokevirtual 119, 3) := by decide +kernel
theorem d_L_law_1043 : decode code 1043 = .ok (.if_icmp .eq 485, 3) := by decide +kernel
theorem d_L_law_1046 : decode code 1046 = .ok (.iconst 0, 1) := by decide +kernel
theorem d_L_law_1047 : decode code 1047 = .ok (.ireturn, 1) := by decide +kernel
theorem d_L_law_1048 : decode code 1048 = .ok (.aload_n 1, 1) := by decide +kernel
theorem d_L_law_1049 : decode code 1049 = .ok (.aload_n 0, 1) := by decide +kernel
theorem d_L_law_1050 : decode code 1050 = .ok (.iload_n 3, 1) := by decide +kernel
theorem d_L_law_1051 : decode code 1051 = .ok (.iconst 1, 1) := by decide +kernel
theorem d_L_law_1052 : decode code 1052 = .ok (.iadd, 1) := by decide +kernel
theorem d_L_law_1053 : decode code 1053 = .ok (.iaload, 1) := by decide +kernel
theorem d_L_law_1054 : decode code 1054 = .ok (.aload_n 0, 1) := by decide +kernel
theorem d_L_law_1055 : decode code 1055 = .ok (.iload_n 3, 1) := by decide +kernel
theorem d_L_law_1056 : decode code 1056 = .ok (.iconst 2, 1) := by decide +kernel
theorem d_L_law_1057 : decode code 1057 = .ok (.iadd, 1) := by decide +kernel
theorem d_L_law_1058 : decode code 1058 = .ok (.iaload, 1) := by decide +kernel
theorem d_L_law_1059 : decode code 1059 = .ok (.invokevirtual 120, 3) := by decide +kernel
theorem d_L_law_1062 : decode code 1062 = .ok (.aload_n 2, 1) := by decide +kernel
theorem d_L_law_1063 : decode code 1063 = .ok (.aload_n 0, 1) := by decide +kernel
theorem d_L_law_1064 : decode code 1064 = .ok (.iload_n 3, 1) := by decide +kernel
theorem d_L_law_1065 : decode code 1065 = .ok (.iconst 1, 1) := by decide +kernel
theorem d_L_law_1066 : decode code 1066 = .ok (.iadd, 1) := by decide +kernel
theorem d_L_law_1067 : decode code 1067 = .ok (.iaload, 1) := by decide +kernel
theorem d_L_law_1068 : decode code 1068 = .ok (.aload_n 0, 1) := by decide +kernel
theorem d_L_law_1069 : decode code 1069 = .ok (.iload_n 3, 1) := by decide +kernel
theorem d_L_law_1070 : decode code 1070 = .ok (.iconst 2, 1) := by decide +kernel
theorem d_L_law_1071 : decode code 1071 = .ok (.iadd, 1) := by decide +kernel
theorem d_L_law_1072 : decode code 1072 = .ok (.iaload, 1) := by decide +kernel
theorem d_L_law_1073 : decode code 1073 = .ok (.invokevirtual 123, 3) := by decide +kernel
theorem d_L_law_1076 : decode code 1076 = .ok (.if_icmp .eq 452, 3) := by decide +kernel
theorem d_L_law_1079 : decode code 1079 = .ok (.iconst 0, 1) := by decide +kernel
theorem d_L_law_1080 : decode code 1080 = .ok (.ireturn, 1) := by decide +kernel
theorem d_L_law_1081 : decode code 1081 = .ok (.aload_n 1, 1) := by decide +kernel
theorem d_L_law_1082 : decode code 1082 = .ok (.aload_n 0, 1) := by decide +kernel
theorem d_L_law_1083 : decode code 1083 = .ok (.iload_n 3, 1) := by decide +kernel
theorem d_L_law_1084 : decode code 1084 = .ok (.iconst 1, 1) := by decide +kernel
theorem d_L_law_1085 : decode code 1085 = .ok (.iadd, 1) := by decide +kernel
theorem d_L_law_1086 : decode code 1086 = .ok (.iaload, 1) := by decide +kernel
theorem d_L_law_1087 : decode code 1087 = .ok (.invokevirtual 124, 3) := by decide +kernel
theorem d_L_law_1090 : decode code 1090 = .ok (.aload_n 2, 1) := by decide +kernel
theorem d_L_law_1091 : decode code 1091 = .ok (.aload_n 0, 1) := by decide +kernel
theorem d_L_law_1092 : decode code 1092 = .ok (.iload_n 3, 1) := by decide +kernel
theorem d_L_law_1093 : decode code 1093 = .ok (.iconst 1, 1) := by decide +kernel
theorem d_L_law_1094 : decode code 1094 = .ok (.iadd, 1) := by decide +kernel
theorem d_L_law_1095 : decode code 1095 = .ok (.iaload, 1) := by decide +kernel
theorem d_L_law_1096 : decode code 1096 = .ok (.invokevirtual 127, 3) := by decide +kernel
theorem d_L_law_1099 : decode code 1099 = .ok (.if_icmp .eq 429, 3) := by decide +kernel
theorem d_L_law_1102 : decode code 1102 = .ok (.iconst 0, 1) := by decide +kernel
theorem d_L_law_1103 : decode code 1103 = .ok (.ireturn, 1) := by decide +kernel
theorem d_L_law_1104 : decode code 1104 = .ok (.aload_n 1, 1) := by decide +kernel
theorem d_L_law_1105 : decode code 1105 = .ok (.aload_n 0, 1) := by decide +kernel
theorem d_L_law_1106 : decode code 1106 = .ok (.iload_n 3, 1) := by decide +kernel
theorem d_L_law_1107 : decode code 1107 = .ok (.iconst 1, 1) := by decide +kernel
theorem d_L_law_1108 : decode code 1108 = .ok (.iadd, 1) := by decide +kernel
theorem d_L_law_1109 : decode code 1109 = .ok (.iaload, 1) := by decide +kernel
theorem d_L_law_1110 : decode code 1110 = .ok (.aload_n 0, 1) := by decide +kernel
theorem d_L_law_1111 : decode code 1111 = .ok (.iload_n 3, 1) := by decide +kernel
theorem d_L_law_1112 : decode code 1112 = .ok (.iconst 2, 1) := by decide +kernel
theorem d_L_law_1113 : decode code 1113 = .ok (.iadd, 1) := by decide +kernel
theorem d_L_law_1114 : decode code 1114 = .ok (.iaload, 1) := by decide +kernel
theorem d_L_law_1115 : decode code 1115 = .ok (.invokevirtual 128, 3) := by decide +kernel
theorem d_L_law_1118 : decode code 1118 = .ok (.aload_n 2, 1) := by decide +kernel
theorem d_L_law_1119 : decode code 1119 = .ok (.aload_n 0, 1) := by decide +kernel
theorem d_L_law_1120 : decode code 1120 = .ok (.iload_n 3, 1) := by decide +kernel
theorem d_L_law_1121 : decode code 1121 = .ok (.iconst 1, 1) := by decide +kernel
theorem d_L_law_1122 : decode code 1122 = .ok (.iadd, 1) := by decide +kernel
theorem d_L_law_1123 : decode code 1123 = .ok (.iaload, 1) := by decide +kernel
theorem d_L_law_1124 : decode code 1124 = .ok (.aload_n 0, 1) := by decide +kernel
theorem d_L_law_1125 : decode code 1125 = .ok (.iload_n 3, 1) := by decide +kernel
theorem d_L_law_1126 : decode code 1126 = .ok (.iconst 2, 1) := by decide +kernel
theorem d_L_law_1127 : decode code 1127 = .ok (.iadd, 1) := by decide +kernel
theorem d_L_law_1128 : decode code 1128 = .ok (.iaload, 1) := by decide +kernel
theorem d_L_law_1129 : decode code 1129 = .ok (.invokevirtual 131, 3) := by decide +kernel
theorem d_L_law_1132 : decode code 1132 = .ok (.if_icmp .eq 396, 3) := by decide +kernel
theorem d_L_law_1135 : decode code 1135 = .ok (.iconst 0, 1) := by decide +kernel
theorem d_L_law_1136 : decode code 1136 = .ok (.ireturn, 1) := by decide +kernel
theorem d_L_law_1137 : decode code 1137 = .ok (.aload_n 1, 1) := by decide +kernel
theorem d_L_law_1138 : decode code 1138 = .ok (.aload_n 0, 1) := by decide +kernel
theorem d_L_law_1139 : decode code 1139 = .ok (.iload_n 3, 1) := by decide +kernel
theorem d_L_law_1140 : decode code 1140 = .ok (.iconst 1, 1) := by decide +kernel
theorem d_L_law_1141 : decode code 1141 = .ok (.iadd, 1) := by decide +kernel
theorem d_L_law_1142 : decode code 1142 = .ok (.iaload, 1) := by decide +kernel
theorem d_L_law_1143 : decode code 1143 = .ok (.aload_n 0, 1) := by decide +kernel
theorem d_L_law_1144 : decode code 1144 = .ok (.iload_n 3, 1) := by decide +kernel
theorem d_L_law_1145 : decode code 1145 = .ok (.iconst 2, 1) := by decide +kernel
theorem d_L_law_1146 : decode code 1146 = .ok (.iadd, 1) := by decide +kernel
theorem d_L_law_1147 : decode code 1147 = .ok (.iaload, 1) := by decide +kernel
