theorem d_X6_init_872 : decode prog_8_method_1_code 872 = .ok (.iastore, 1) := by decide +kernel
theorem d_X6_init_873 : decode prog_8_method_1_code 873 = .ok (.dup, 1) := by decide +kernel
theorem d_X6_init_874 : decode prog_8_method_1_code 874 = .ok (.bipush 66, 2) := by decide +kernel
theorem d_X6_init_876 : decode prog_8_method_1_code 876 = .ok (.bipush 114, 2) := by decide +kernel
theorem d_X6_init_878 : decode prog_8_method_1_code 878 = .ok (.iastore, 1) := by decide +kernel
theorem d_X6_init_879 : decode prog_8_method_1_code 879 = .ok (.dup, 1) := by decide +kernel
theorem d_X6_init_880 : decode prog_8_method_1_code 880 = .ok (.bipush 67, 2) := by decide +kernel
theorem d_X6_init_882 : decode prog_8_method_1_code 882 = .ok (.bipush 101, 2) := by decide +kernel
theorem d_X6_init_884 : decode prog_8_method_1_code 884 = .ok (.iastore, 1) := by decide +kernel
theorem d_X6_init_885 : decode prog_8_method_1_code 885 = .ok (.dup, 1) := by decide +kernel
theorem d_X6_init_886 : decode prog_8_method_1_code 886 = .ok (.bipush 68, 2) := by decide +kernel
theorem d_X6_init_888 : decode prog_8_method_1_code 888 = .ok (.bipush 32, 2) := by decide +kernel
theorem d_X6_init_890 : decode prog_8_method_1_code 890 = .ok (.iastore, 1) := by decide +kernel
theorem d_X6_init_891 : decode prog_8_method_1_code 891 = .ok (.dup, 1) := by decide +kernel
theorem d_X6_init_892 : decode prog_8_method_1_code 892 = .ok (.bipush 69, 2) := by decide +kernel
theorem d_X6_init_894 : decode prog_8_method_1_code 894 = .ok (.bipush 32, 2) := by decide +kernel
theorem d_X6_init_896 : decode prog_8_method_1_code 896 = .ok (.iastore, 1) := by decide +kernel
theorem d_X6_init_897 : decode prog_8_method_1_code 897 = .ok (.dup, 1) := by decide +kernel
theorem d_X6_init_898 : decode prog_8_method_1_code 898 = .ok (.bipush 70, 2) := by decide +kernel
theorem d_X6_init_900 : decode prog_8_method_1_code 900 = .ok (.bipush 32, 2) := by decide +kernel
theorem d_X6_init_902 : decode prog_8_method_1_code 902 = .ok (.iastore, 1) := by decide +kernel
theorem d_X6_init_903 : decode prog_8_method_1_code 903 = .ok (.dup, 1) := by decide +kernel
theorem d_X6_init_904 : decode prog_8_method_1_code 904 = .ok (.bipush 71, 2) := by decide +kernel
theorem d_X6_init_906 : decode prog_8_method_1_code 906 = .ok (.bipush 32, 2) := by decide +kernel
theorem d_X6_init_908 : decode prog_8_method_1_code 908 = .ok (.iastore, 1) := by decide +kernel
theorem d_X6_init_909 : decode prog_8_method_1_code 909 = .ok (.dup, 1) := by decide +kernel
theorem d_X6_init_910 : decode prog_8_method_1_code 910 = .ok (.bipush 72, 2) := by decide +kernel
theorem d_X6_init_912 : decode prog_8_method_1_code 912 = .ok (.bipush 111, 2) := by decide +kernel
theorem d_X6_init_914 : decode prog_8_method_1_code 914 = .ok (.iastore, 1) := by decide +kernel
theorem d_X6_init_915 : decode prog_8_method_1_code 915 = .ok (.dup, 1) := by decide +kernel
theorem d_X6_init_916 : decode prog_8_method_1_code 916 = .ok (.bipush 73, 2) := by decide +kernel
theorem d_X6_init_918 : decode prog_8_method_1_code 918 = .ok (.bipush 114, 2) := by decide +kernel
theorem d_X6_init_920 : decode prog_8_method_1_code 920 = .ok (.iastore, 1) := by decide +kernel
theorem d_X6_init_921 : decode prog_8_method_1_code 921 = .ok (.dup, 1) := by decide +kernel
theorem d_X6_init_922 : decode prog_8_method_1_code 922 = .ok (.bipush 74, 2) := by decide +kernel
theorem d_X6_init_924 : decode prog_8_method_1_code 924 = .ok (.bipush 32, 2) := by decide +kernel
theorem d_X6_init_926 : decode prog_8_method_1_code 926 = .ok (.iastore, 1) := by decide +kernel
theorem d_X6_init_927 : decode prog_8_method_1_code 927 = .ok (.dup, 1) := by decide +kernel
theorem d_X6_init_928 : decode prog_8_method_1_code 928 = .ok (.bipush 75, 2) := by decide +kernel
theorem d_X6_init_930 : decode prog_8_method_1_code 930 = .ok (.bipush 32, 2) := by decide +kernel
theorem d_X6_init_932 : decode prog_8_method_1_code 932 = .ok (.iastore, 1) := by decide +kernel
theorem d_X6_init_933 : decode prog_8_method_1_code 933 = .ok (.dup, 1) := by decide +kernel
theorem d_X6_init_934 : decode prog_8_method_1_code 934 = .ok (.bipush 76, 2) := by decide +kernel
theorem d_X6_init_936 : decode prog_8_method_1_code 936 = .ok (.bipush 32, 2) := by decide +kernel
theorem d_X6_init_938 : decode prog_8_method_1_code 938 = .ok (.iastore, 1) := by decide +kernel
theorem d_X6_init_939 : decode prog_8_method_1_code 939 = .ok (.dup, 1) := by decide +kernel
theorem d_X6_init_940 : decode prog_8_method_1_code 940 = .ok (.bipush 77, 2) := by decide +kernel
theorem d_X6_init_942 : decode prog_8_method_1_code 942 = .ok (.bipush 32, 2) := by decide +kernel
theorem d_X6_init_944 : decode prog_8_method_1_code 944 = .ok (.iastore, 1) := by decide +kernel
theorem d_X6_init_945 : decode prog_8_method_1_code 945 = .ok (.dup, 1) := by decide +kernel
theorem d_X6_init_946 : decode prog_8_method_1_code 946 = .ok (.bipush 78, 2) := by decide +kernel
theorem d_X6_init_948 : decode prog_8_method_1_code 948 = .ok (.bipush 32, 2) := by decide +kernel
theorem d_X6_init_950 : decode prog_8_method_1_code 950 = .ok (.iastore, 1) := by decide +kernel
theorem d_X6_init_951 : decode prog_8_method_1_code 951 = .ok (.dup, 1) := by decide +kernel
theorem d_X6_init_952 : decode prog_8_method_1_code 952 = .ok (.bipush 79, 2) := by decide +kernel
theorem d_X6_init_954 : decode prog_8_method_1_code 954 = .ok (.bipush 32, 2) := by decide +kernel
theorem d_X6_init_956 : decode prog_8_method_1_code 956 = .ok (.iastore, 1) := by decide +kernel
theorem d_X6_init_957 : decode prog_8_method_1_code 957 = .ok (.dup, 1) := by decide +kernel
theorem d_X6_init_958 : decode prog_8_method_1_code 958 = .ok (.bipush 80, 2) := by decide +kernel
theorem d_X6_init_960 : decode prog_8_method_1_code 960 = .ok (.bipush 97, 2) := by decide +kernel
theorem d_X6_init_962 : decode prog_8_method_1_code 962 = .ok (.iastore, 1) := by decide +kernel
theorem d_X6_init_963 : decode prog_8_method_1_code 963 = .ok (.dup, 1) := by decide +kernel
theorem d_X6_init_964 : decode prog_8_method_1_code 964 = .ok (.bipush 81, 2) := by decide +kernel
theorem d_X6_init_966 : decode prog_8_method_1_code 966 = .ok (.bipush 110, 2) := by decide +kernel
theorem d_X6_init_968 : decode prog_8_method_1_code 968 = .ok (.iastore, 1) := by decide +kernel
theorem d_X6_init_969 : decode prog_8_method_1_code 969 = .ok (.dup, 1) := by decide +kernel
theorem d_X6_init_970 : decode prog_8_method_1_code 970 = .ok (.bipush 82, 2) := by decide +kernel
theorem d_X6_init_972 : decode prog_8_method_1_code 972 = .ok (.bipush 100, 2) := by decide +kernel
theorem d_X6_init_974 : decode prog_8_method_1_code 974 = .ok (.iastore, 1) := by decide +kernel
theorem d_X6_init_975 : decode prog_8_method_1_code 975 = .ok (.dup, 1) := by decide +kernel
theorem d_X6_init_976 : decode prog_8_method_1_code 976 = .ok (.bipush 83, 2) := by decide +kernel
theorem d_X6_init_978 : decode prog_8_method_1_code 978 = .ok (.bipush 32, 2) := by decide +kernel
theorem d_X6_init_980 : decode prog_8_method_1_code 980 = .ok (.iastore, 1) := by decide +kernel
theorem d_X6_init_981 : decode prog_8_method_1_code 981 = .ok (.dup, 1) := by decide +kernel
theorem d_X6_init_982 : decode prog_8_method_1_code 982 = .ok (.bipush 84, 2) := by decide +kernel
theorem d_X6_init_984 : decode prog_8_method_1_code 984 = .ok (.bipush 32, 2) := by decide +kernel
theorem d_X6_init_986 : decode prog_8_method_1_code 986 = .ok (.iastore, 1) := by decide +kernel
theorem d_X6_init_987 : decode prog_8_method_1_code 987 = .ok (.dup, 1) := by decide +kernel
theorem d_X6_init_988 : decode prog_8_method_1_code 988 = .ok (.bipush 85, 2) := by decide +kernel
theorem d_X6_init_990 : decode prog_8_method_1_code 990 = .ok (.bipush 32, 2) := by decide +kernel
theorem d_X6_init_992 : decode prog_8_method_1_code 992 = .ok (.iastore, 1) := by decide +kernel
theorem d_X6_init_993 : decode prog_8_method_1_code 993 = .ok (.dup, 1) := by decide +kernel
theorem d_X6_init_994 : decode prog_8_method_1_code 994 = .ok (.bipush 86, 2) := by decide +kernel
theorem d_X6_init_996 : decode prog_8_method_1_code 996 = .ok (.bipush 32, 2) := by decide +kernel
theorem d_X6_init_998 : decode prog_8_method_1_code 998 = .ok (.iastore, 1) := by decide +kernel
theorem d_X6_init_999 : decode prog_8_method_1_code 999 = .ok (.dup, 1) := by decide +kernel
theorem d_X6_init_1000 : decode prog_8_method_1_code 1000 = .ok (.bipush 87, 2) := by decide +kernel
theorem d_X6_init_1002 : decode prog_8_method_1_code 1002 = .ok (.bipush 32, 2) := by decide +kernel
theorem d_X6_init_1004 : decode prog_8_method_1_code 1004 = .ok (.iastore, 1) := by decide +kernel
theorem d_X6_init_1005 : decode prog_8_method_1_code 1005 = .ok (.dup, 1) := by decide +kernel
theorem d_X6_init_1006 : decode prog_8_method_1_code 1006 = .ok (.bipush 88, 2) := by decide +kernel
theorem d_X6_init_1008 : decode prog_8_method_1_code 1008 = .ok (.bipush 110, 2) := by decide +kernel
theorem d_X6_init_1010 : decode prog_8_method_1_code 1010 = .ok (.iastore, 1) := by decide +kernel
theorem d_X6_init_1011 : decode prog_8_method_1_code 1011 = .ok (.dup, 1) := by decide +kernel
theorem d_X6_init_1012 : decode prog_8_method_1_code 1012 = .ok (.bipush 89, 2) := by decide +kernel
theorem d_X6_init_1014 : decode prog_8_method_1_code 1014 = .ok (.bipush 111, 2) := by decide +kernel
theorem d_X6_init_1016 : decode prog_8_method_1_code 1016 = .ok (.iastore, 1) := by decide +kernel
theorem d_X6_init_1017 : decode prog_8_method_1_code 1017 = .ok (.dup, 1) := by decide +kernel
theorem d_X6_init_1018 : decode prog_8_method_1_code 1018 = .ok (.bipush 90, 2) := by decide +kernel
theorem d_X6_init_1020 : decode prog_8_method_1_code 1020 = .ok (.bipush 116, 2) := by decide +kernel
theorem d_X6_init_1022 : decode prog_8_method_1_code 1022 = .ok (.iastore, 1) := by decide +kernel
theorem d_X6_init_1023 : decode prog_8_method_1_code 1023 = .ok (.dup, 1) := by decide +kernel
theorem d_X6_init_1024 : decode prog_8_method_1_code 1024 = .ok (.bipush 91, 2) := by decide +kernel
theorem d_X6_init_1026 : decode prog_8_method_1_code 1026 = .ok (.bipush 32, 2) := by decide +kernel
theorem d_X6_init_1028 : decode prog_8_method_1_code 1028 = .ok (.iastore, 1) := by decide +kernel
theorem d_X6_init_1029 : decode prog_8_method_1_code 1029 = .ok (.dup, 1) := by decide +kernel
theorem d_X6_init_1030 : decode prog_8_method_1_code 1030 = .ok (.bipush 92, 2) := by decide +kernel
theorem d_X6_init_1032 : decode prog_8_method_1_code 1032 = .ok (.bipush 32, 2) := by decide +kernel
theorem d_X6_init_1034 : decode prog_8_method_1_code 1034 = .ok (.iastore, 1) := by decide +kernel
theorem d_X6_init_1035 : decode prog_8_method_1_code 1035 = .ok (.dup, 1) := by decide +kernel
theorem d_X6_init_1036 : decode prog_8_method_1_code 1036 = .ok (.bipush 93, 2) := by decide +kernel
theorem d_X6_init_1038 : decode prog_8_method_1_code 1038 = .ok (.bipush 32, 2) := by decide +kernel
theorem d_X6_init_1040 : decode prog_8_method_1_code 1040 = .ok (.iastore, 1) := by decide +kernel
theorem d_X6_init_1041 : decode prog_8_method_1_code 1041 = .ok (.dup, 1) := by decide +kernel
theorem d_X6_init_1042 : decode prog_8_method_1_code 1042 = .ok (.bipush 94, 2) := by decide +kernel
theorem d_X6_init_1044 : decode prog_8_method_1_code 1044 = .ok (.bipush 32, 2) := by decide +kernel
theorem d_X6_init_1046 : decode prog_8_method_1_code 1046 = .ok (.iastore, 1) := by decide +kernel
theorem d_X6_init_1047 : decode prog_8_method_1_code 1047 = .ok (.dup, 1) := by decide +kernel
theorem d_X6_init_1048 : decode prog_8_method_1_code 1048 = .ok (.bipush 95, 2) := by decide +kernel
theorem d_X6_init_1050 : decode prog_8_method_1_code 1050 = .ok (.bipush 32, 2) := by decide +kernel
theorem d_X6_init_1052 : decode prog_8_method_1_code 1052 = .ok (.iastore, 1) := by decide +kernel
theorem d_X6_init_1053 : decode prog_8_method_1_code 1053 = .ok (.putfield 49, 3) := by decide +kernel
theorem d_X6_init_1056 : decode prog_8_method_1_code 1056 = .ok (.aload_n 0, 1) := by decide +kernel
theorem d_X6_init_1057 : decode prog_8_method_1_code 1057 = .ok (.sipush 200, 3) := by decide +kernel
theorem d_X6_init_1060 : decode prog_8_method_1_code 1060 = .ok (.newarray .int, 2) := by decide +kernel
theorem d_X6_init_1062 : decode prog_8_method_1_code 1062 = .ok (.putfield 52, 3) := by decide +kernel
theorem d_X6_init_1065 : decode prog_8_method_1_code 1065 = .ok (.aload_n 0, 1) := by decide +kernel
theorem d_X6_init_1066 : decode prog_8_method_1_code 1066 = .ok (.sipush 200, 3) := by decide +kernel
theorem d_X6_init_1069 : decode prog_8_method_1_code 1069 = .ok (.newarray .int, 2) := by decide +kernel
theorem d_X6_init_1071 : decode prog_8_method_1_code 1071 = .ok (.putfield 55, 3) := by decide +kernel
theorem d_X6_init_1074 : decode prog_8_method_1_code 1074 = .ok (.aload_n 0, 1) := by decide +kernel
theorem d_X6_init_1075 : decode prog_8_method_1_code 1075 = .ok (.bipush 6, 2) := by decide +kernel
theorem d_X6_init_1077 : decode prog_8_method_1_code 1077 = .ok (.newarray .int, 2) := by decide +kernel
theorem d_X6_init_1079 : decode prog_8_method_1_code 1079 = .ok (.putfield 58, 3) := by decide +kernel
theorem d_X6_init_1082 : decode prog_8_method_1_code 1082 = .ok (.aload_n 0, 1) := by decide +kernel
theorem d_X6_init_1083 : decode prog_8_method_1_code 1083 = .ok (.bipush 43, 2) := by decide +kernel
theorem d_X6_init_1085 : decode prog_8_method_1_code 1085 = .ok (.newarray .int, 2) := by decide +kernel
theorem d_X6_init_1087 : decode prog_8_method_1_code 1087 = .ok (.putfield 61, 3) := by decide +kernel
theorem d_X6_init_1090 : decode prog_8_method_1_code 1090 = .ok (.aload_n 0, 1) := by decide +kernel
theorem d_X6_init_1091 : decode prog_8_method_1_code 1091 = .ok (.bipush 10, 2) := by decide +kernel
theorem d_X6_init_1093 : decode prog_8_method_1_code 1093 = .ok (.newarray .int, 2) := by decide +kernel
theorem d_X6_init_1095 : decode prog_8_method_1_code 1095 = .ok (.putfield 64, 3) := by decide +kernel
theorem d_X6_init_1098 : decode prog_8_method_1_code 1098 = .ok (.iconst 0, 1) := by decide +kernel
theorem d_X6_init_1099 : decode prog_8_method_1_code 1099 = .ok (.istore_n 1, 1) := by decide +kernel
theorem d_X6_init_1100 : decode prog_8_method_1_code 1100 = .ok (.iload_n 1, 1) := by decide +kernel
theorem d_X6_init_1101 : decode prog_8_method_1_code 1101 = .ok (.bipush 36, 2) := by decide +kernel
theorem d_X6_init_1103 : decode prog_8_method_1_code 1103 = .ok (.if_icmp .ge 21, 3) := by decide +kernel
theorem d_X6_init_1106 : decode prog_8_method_1_code 1106 = .ok (.aload_n 0, 1) := by decide +kernel
theorem d_X6_init_1107 : decode prog_8_method_1_code 1107 = .ok (.getfield 22, 3) := by decide +kernel
theorem d_X6_init_1110 : decode prog_8_method_1_code 1110 = .ok (.iload_n 1, 1) := by decide +kernel
theorem d_X6_init_1111 : decode prog_8_method_1_code 1111 = .ok (.aload_n 0, 1) := by decide +kernel
theorem d_X6_init_1112 : decode prog_8_method_1_code 1112 = .ok (.getfield 46, 3) := by decide +kernel
theorem d_X6_init_1115 : decode prog_8_method_1_code 1115 = .ok (.iload_n 1, 1) := by decide +kernel
theorem d_X6_init_1116 : decode prog_8_method_1_code 1116 = .ok (.iaload, 1) := by decide +kernel
theorem d_X6_init_1117 : decode prog_8_method_1_code 1117 = .ok (.iastore, 1) := by decide +kernel
theorem d_X6_init_1118 : decode prog_8_method_1_code 1118 = .ok (.iinc 1 1, 3) := by decide +kernel
theorem d_X6_init_1121 : decode prog_8_method_1_code 1121 = .ok (.goto (-21), 3) := by decide +kernel
theorem d_X6_init_1124 : decode prog_8_method_1_code 1124 = .ok (.aload_n 0, 1) := by decide +kernel
theorem d_X6_init_1125 : decode prog_8_method_1_code 1125 = .ok (.bipush 36, 2) := by decide +kernel
theorem d_X6_init_1127 : decode prog_8_method_1_code 1127 = .ok (.putfield 67, 3) := by decide +kernel
theorem d_X6_init_1130 : decode prog_8_method_1_code 1130 = .ok (.aload_n 0, 1) := by decide +kernel
theorem d_X6_init_1131 : decode prog_8_method_1_code 1131 = .ok (.invokevirtual 71, 3) := by decide +kernel
theorem d_X6_init_1134 : decode prog_8_method_1_code 1134 = .ok (.pop, 1) := by decide +kernel
theorem d_X6_init_1135 : decode prog_8_method_1_code 1135 = .ok (.return_, 1) := by decide +kernel
