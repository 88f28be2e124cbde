theorem dL_law_874 : decode cL_law 874 = .ok (.aload_n 1, 1) := by decide +kernel
theorem dL_law_875 : decode cL_law 875 = .ok (.invokevirtual 112, 3) := by decide +kernel
theorem dL_law_878 : decode cL_law 878 = .ok (.istore 20, 2) := by decide +kernel
theorem dL_law_880 : decode cL_law 880 = .ok (.aload_n 1, 1) := by decide +kernel
theorem dL_law_881 : decode cL_law 881 = .ok (.iload 17, 2) := by decide +kernel
theorem dL_law_883 : decode cL_law 883 = .ok (.iload 18, 2) := by decide +kernel
theorem dL_law_885 : decode cL_law 885 = .ok (.ineg, 1) := by decide +kernel
theorem dL_law_886 : decode cL_law 886 = .ok (.invokevirtual 31, 3) := by decide +kernel
theorem dL_law_889 : decode cL_law 889 = .ok (.istore 21, 2) := by decide +kernel
theorem dL_law_891 : decode cL_law 891 = .ok (.aload_n 1, 1) := by decide +kernel
theorem dL_law_892 : decode cL_law 892 = .ok (.iload 17, 2) := by decide +kernel
theorem dL_law_894 : decode cL_law 894 = .ok (.iload 19, 2) := by decide +kernel
theorem dL_law_896 : decode cL_law 896 = .ok (.invokevirtual 31, 3) := by decide +kernel
theorem dL_law_899 : decode cL_law 899 = .ok (.pop, 1) := by decide +kernel
theorem dL_law_900 : decode cL_law 900 = .ok (.aload_n 1, 1) := by decide +kernel
theorem dL_law_901 : decode cL_law 901 = .ok (.invokevirtual 112, 3) := by decide +kernel
theorem dL_law_904 : decode cL_law 904 = .ok (.istore 22, 2) := by decide +kernel
theorem dL_law_906 : decode cL_law 906 = .ok (.iload 21, 2) := by decide +kernel
theorem dL_law_908 : decode cL_law 908 = .ok (.aload 12, 2) := by decide +kernel
theorem dL_law_910 : decode cL_law 910 = .ok (.iload 17, 2) := by decide +kernel
theorem dL_law_912 : decode cL_law 912 = .ok (.iaload, 1) := by decide +kernel
theorem dL_law_913 : decode cL_law 913 = .ok (.if_icmp .ne 72, 3) := by decide +kernel
theorem dL_law_916 : decode cL_law 916 = .ok (.iload 22, 2) := by decide +kernel
theorem dL_law_918 : decode cL_law 918 = .ok (.iload 20, 2) := by decide +kernel
theorem dL_law_920 : decode cL_law 920 = .ok (.if_icmp .gt 65, 3) := by decide +kernel
theorem dL_law_923 : decode cL_law 923 = .ok (.iload 22, 2) := by decide +kernel
theorem dL_law_925 : decode cL_law 925 = .ok (.iload 20, 2) := by decide +kernel
theorem dL_law_927 : decode cL_law 927 = .ok (.if_icmp .ne 31, 3) := by decide +kernel
theorem dL_law_930 : decode cL_law 930 = .ok (.iload 19, 2) := by decide +kernel
theorem dL_law_932 : decode cL_law 932 = .ok (.invokestatic 95, 3) := by decide +kernel
theorem dL_law_935 : decode cL_law 935 = .ok (.iload 18, 2) := by decide +kernel
theorem dL_law_937 : decode cL_law 937 = .ok (.invokestatic 95, 3) := by decide +kernel
theorem dL_law_940 : decode cL_law 940 = .ok (.if_icmp .lt 45, 3) := by decide +kernel
theorem dL_law_943 : decode cL_law 943 = .ok (.iload 19, 2) := by decide +kernel
theorem dL_law_945 : decode cL_law 945 = .ok (.iload 18, 2) := by decide +kernel
theorem dL_law_947 : decode cL_law 947 = .ok (.ineg, 1) := by decide +kernel
theorem dL_law_948 : decode cL_law 948 = .ok (.if_icmp .ne 10, 3) := by decide +kernel
theorem dL_law_951 : decode cL_law 951 = .ok (.iload 19, 2) := by decide +kernel
theorem dL_law_953 : decode cL_law 953 = .ok (.iload 18, 2) := by decide +kernel
theorem dL_law_955 : decode cL_law 955 = .ok (.if_icmp .gt 30, 3) := by decide +kernel
theorem dL_law_958 : decode cL_law 958 = .ok (.aload_n 1, 1) := by decide +kernel
theorem dL_law_959 : decode cL_law 959 = .ok (.iload 17, 2) := by decide +kernel
theorem dL_law_961 : decode cL_law 961 = .ok (.iload 19, 2) := by decide +kernel
theorem dL_law_963 : decode cL_law 963 = .ok (.ineg, 1) := by decide +kernel
theorem dL_law_964 : decode cL_law 964 = .ok (.invokevirtual 31, 3) := by decide +kernel
theorem dL_law_967 : decode cL_law 967 = .ok (.aload 12, 2) := by decide +kernel
theorem dL_law_969 : decode cL_law 969 = .ok (.iload 17, 2) := by decide +kernel
theorem dL_law_971 : decode cL_law 971 = .ok (.iaload, 1) := by decide +kernel
theorem dL_law_972 : decode cL_law 972 = .ok (.if_icmp .ne 13, 3) := by decide +kernel
theorem dL_law_975 : decode cL_law 975 = .ok (.aload_n 1, 1) := by decide +kernel
theorem dL_law_976 : decode cL_law 976 = .ok (.invokevirtual 66, 3) := by decide +kernel
theorem dL_law_979 : decode cL_law 979 = .ok (.lload 5, 2) := by decide +kernel
theorem dL_law_981 : decode cL_law 981 = .ok (.lcmp, 1) := by decide +kernel
theorem dL_law_982 : decode cL_law 982 = .ok (.ifCond .eq 5, 3) := by decide +kernel
theorem dL_law_985 : decode cL_law 985 = .ok (.iconst 0, 1) := by decide +kernel
theorem dL_law_986 : decode cL_law 986 = .ok (.ireturn, 1) := by decide +kernel
theorem dL_law_987 : decode cL_law 987 = .ok (.aload_n 1, 1) := by decide +kernel
theorem dL_law_988 : decode cL_law 988 = .ok (.invokevirtual 131, 3) := by decide +kernel
theorem dL_law_991 : decode cL_law 991 = .ok (.istore 20, 2) := by decide +kernel
theorem dL_law_993 : decode cL_law 993 = .ok (.aload_n 1, 1) := by decide +kernel
theorem dL_law_994 : decode cL_law 994 = .ok (.invokevirtual 134, 3) := by decide +kernel
theorem dL_law_997 : decode cL_law 997 = .ok (.istore 21, 2) := by decide +kernel
theorem dL_law_999 : decode cL_law 999 = .ok (.aload_n 1, 1) := by decide +kernel
theorem dL_law_1000 : decode cL_law 1000 = .ok (.iconst 3, 1) := by decide +kernel
theorem dL_law_1001 : decode cL_law 1001 = .ok (.invokevirtual 137, 3) := by decide +kernel
theorem dL_law_1004 : decode cL_law 1004 = .ok (.istore 22, 2) := by decide +kernel
theorem dL_law_1006 : decode cL_law 1006 = .ok (.iload 20, 2) := by decide +kernel
theorem dL_law_1008 : decode cL_law 1008 = .ok (.ifCond .lt 58, 3) := by decide +kernel
theorem dL_law_1011 : decode cL_law 1011 = .ok (.iload 20, 2) := by decide +kernel
theorem dL_law_1013 : decode cL_law 1013 = .ok (.bipush 20, 2) := by decide +kernel
theorem dL_law_1015 : decode cL_law 1015 = .ok (.if_icmp .gt 51, 3) := by decide +kernel
theorem dL_law_1018 : decode cL_law 1018 = .ok (.iload 20, 2) := by decide +kernel
theorem dL_law_1020 : decode cL_law 1020 = .ok (.ifCond .ne 7, 3) := by decide +kernel
theorem dL_law_1023 : decode cL_law 1023 = .ok (.iconst 1, 1) := by decide +kernel
theorem dL_law_1024 : decode cL_law 1024 = .ok (.goto 4, 3) := by decide +kernel
theorem dL_law_1027 : decode cL_law 1027 = .ok (.iconst 0, 1) := by decide +kernel
theorem dL_law_1028 : decode cL_law 1028 = .ok (.iload 8, 2) := by decide +kernel
theorem dL_law_1030 : decode cL_law 1030 = .ok (.ifCond .ne 7, 3) := by decide +kernel
theorem dL_law_1033 : decode cL_law 1033 = .ok (.iconst 1, 1) := by decide +kernel
theorem dL_law_1034 : decode cL_law 1034 = .ok (.goto 4, 3) := by decide +kernel
theorem dL_law_1037 : decode cL_law 1037 = .ok (.iconst 0, 1) := by decide +kernel
theorem dL_law_1038 : decode cL_law 1038 = .ok (.if_icmp .ne 28, 3) := by decide +kernel
theorem dL_law_1041 : decode cL_law 1041 = .ok (.iload 21, 2) := by decide +kernel
theorem dL_law_1043 : decode cL_law 1043 = .ok (.ifCond .eq 23, 3) := by decide +kernel
theorem dL_law_1046 : decode cL_law 1046 = .ok (.iload 21, 2) := by decide +kernel
theorem dL_law_1048 : decode cL_law 1048 = .ok (.bipush 60, 2) := by decide +kernel
theorem dL_law_1050 : decode cL_law 1050 = .ok (.if_icmp .gt 16, 3) := by decide +kernel
theorem dL_law_1053 : decode cL_law 1053 = .ok (.iload 21, 2) := by decide +kernel
theorem dL_law_1055 : decode cL_law 1055 = .ok (.iconst 1, 1) := by decide +kernel
theorem dL_law_1056 : decode cL_law 1056 = .ok (.if_icmp .ne 12, 3) := by decide +kernel
theorem dL_law_1059 : decode cL_law 1059 = .ok (.aload_n 1, 1) := by decide +kernel
theorem dL_law_1060 : decode cL_law 1060 = .ok (.invokevirtual 115, 3) := by decide +kernel
theorem dL_law_1063 : decode cL_law 1063 = .ok (.ifCond .ne 5, 3) := by decide +kernel
theorem dL_law_1066 : decode cL_law 1066 = .ok (.iconst 0, 1) := by decide +kernel
theorem dL_law_1067 : decode cL_law 1067 = .ok (.ireturn, 1) := by decide +kernel
theorem dL_law_1068 : decode cL_law 1068 = .ok (.iconst 1, 1) := by decide +kernel
theorem dL_law_1069 : decode cL_law 1069 = .ok (.istore 23, 2) := by decide +kernel
theorem dL_law_1071 : decode cL_law 1071 = .ok (.iload 23, 2) := by decide +kernel
theorem dL_law_1073 : decode cL_law 1073 = .ok (.iconst 4, 1) := by decide +kernel
theorem dL_law_1074 : decode cL_law 1074 = .ok (.if_icmp .ge 140, 3) := by decide +kernel
theorem dL_law_1077 : decode cL_law 1077 = .ok (.aload_n 1, 1) := by decide +kernel
theorem dL_law_1078 : decode cL_law 1078 = .ok (.iconst 1, 1) := by decide +kernel
theorem dL_law_1079 : decode cL_law 1079 = .ok (.invokevirtual 48, 3) := by decide +kernel
theorem dL_law_1082 : decode cL_law 1082 = .ok (.iload 23, 2) := by decide +kernel
theorem dL_law_1084 : decode cL_law 1084 = .ok (.iload 21, 2) := by decide +kernel
theorem dL_law_1086 : decode cL_law 1086 = .ok (.if_icmp .ne 7, 3) := by decide +kernel
theorem dL_law_1089 : decode cL_law 1089 = .ok (.iconst 1, 1) := by decide +kernel
theorem dL_law_1090 : decode cL_law 1090 = .ok (.goto 4, 3) := by decide +kernel
theorem dL_law_1093 : decode cL_law 1093 = .ok (.iconst 0, 1) := by decide +kernel
theorem dL_law_1094 : decode cL_law 1094 = .ok (.if_icmp .eq 17, 3) := by decide +kernel
theorem dL_law_1097 : decode cL_law 1097 = .ok (.iload 21, 2) := by decide +kernel
theorem dL_law_1099 : decode cL_law 1099 = .ok (.ifCond .lt 10, 3) := by decide +kernel
theorem dL_law_1102 : decode cL_law 1102 = .ok (.iload 23, 2) := by decide +kernel
theorem dL_law_1104 : decode cL_law 1104 = .ok (.iload 21, 2) := by decide +kernel
theorem dL_law_1106 : decode cL_law 1106 = .ok (.if_icmp .gt 5, 3) := by decide +kernel
theorem dL_law_1109 : decode cL_law 1109 = .ok (.iconst 0, 1) := by decide +kernel
theorem dL_law_1110 : decode cL_law 1110 = .ok (.ireturn, 1) := by decide +kernel
theorem dL_law_1111 : decode cL_law 1111 = .ok (.aload_n 2, 1) := by decide +kernel
theorem dL_law_1112 : decode cL_law 1112 = .ok (.invokevirtual 140, 3) := by decide +kernel
theorem dL_law_1115 : decode cL_law 1115 = .ok (.pop, 1) := by decide +kernel
theorem dL_law_1116 : decode cL_law 1116 = .ok (.aload_n 1, 1) := by decide +kernel
theorem dL_law_1117 : decode cL_law 1117 = .ok (.invokevirtual 106, 3) := by decide +kernel
theorem dL_law_1120 : decode cL_law 1120 = .ok (.ifCond .ne 7, 3) := by decide +kernel
theorem dL_law_1123 : decode cL_law 1123 = .ok (.iconst 1, 1) := by decide +kernel
theorem dL_law_1124 : decode cL_law 1124 = .ok (.goto 4, 3) := by decide +kernel
theorem dL_law_1127 : decode cL_law 1127 = .ok (.iconst 0, 1) := by decide +kernel
theorem dL_law_1128 : decode cL_law 1128 = .ok (.iload 23, 2) := by decide +kernel
theorem dL_law_1130 : decode cL_law 1130 = .ok (.iload 20, 2) := by decide +kernel
theorem dL_law_1132 : decode cL_law 1132 = .ok (.if_icmp .lt 7, 3) := by decide +kernel
theorem dL_law_1135 : decode cL_law 1135 = .ok (.iconst 1, 1) := by decide +kernel
theorem dL_law_1136 : decode cL_law 1136 = .ok (.goto 4, 3) := by decide +kernel
theorem dL_law_1139 : decode cL_law 1139 = .ok (.iconst 0, 1) := by decide +kernel
theorem dL_law_1140 : decode cL_law 1140 = .ok (.if_icmp .eq 5, 3) := by decide +kernel
theorem dL_law_1143 : decode cL_law 1143 = .ok (.iconst 0, 1) := by decide +kernel
theorem dL_law_1144 : decode cL_law 1144 = .ok (.ireturn, 1) := by decide +kernel
theorem dL_law_1145 : decode cL_law 1145 = .ok (.iconst 0, 1) := by decide +kernel
theorem dL_law_1146 : decode cL_law 1146 = .ok (.istore 24, 2) := by decide +kernel
theorem dL_law_1148 : decode cL_law 1148 = .ok (.iload 23, 2) := by decide +kernel
theorem dL_law_1150 : decode cL_law 1150 = .ok (.iconst 1, 1) := by decide +kernel
theorem dL_law_1151 : decode cL_law 1151 = .ok (.if_icmp .ne 57, 3) := by decide +kernel
theorem dL_law_1154 : decode cL_law 1154 = .ok (.iload 24, 2) := by decide +kernel
theorem dL_law_1156 : decode cL_law 1156 = .ok (.iload 7, 2) := by decide +kernel
theorem dL_law_1158 : decode cL_law 1158 = .ok (.if_icmp .ge 50, 3) := by decide +kernel
theorem dL_law_1161 : decode cL_law 1161 = .ok (.aload 13, 2) := by decide +kernel
theorem dL_law_1163 : decode cL_law 1163 = .ok (.iload 24, 2) := by decide +kernel
theorem dL_law_1165 : decode cL_law 1165 = .ok (.baload, 1) := by decide +kernel
theorem dL_law_1166 : decode cL_law 1166 = .ok (.ifCond .eq 20, 3) := by decide +kernel
theorem dL_law_1169 : decode cL_law 1169 = .ok (.aload_n 1, 1) := by decide +kernel
theorem dL_law_1170 : decode cL_law 1170 = .ok (.iload 24, 2) := by decide +kernel
theorem dL_law_1172 : decode cL_law 1172 = .ok (.invokevirtual 73, 3) := by decide +kernel
