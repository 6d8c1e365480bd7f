theorem dL_law__835 : decode cL_law_ 835 = .ok (.laload, 1) := by decide +kernel
theorem dL_law__836 : decode cL_law_ 836 = .ok (.iload 6, 2) := by decide +kernel
theorem dL_law__838 : decode cL_law_ 838 = .ok (.i2l, 1) := by decide +kernel
theorem dL_law__839 : decode cL_law_ 839 = .ok (.lcmp, 1) := by decide +kernel
theorem dL_law__840 : decode cL_law_ 840 = .ok (.ifCond .eq 5, 3) := by decide +kernel
theorem dL_law__843 : decode cL_law_ 843 = .ok (.iconst 0, 1) := by decide +kernel
theorem dL_law__844 : decode cL_law_ 844 = .ok (.ireturn, 1) := by decide +kernel
theorem dL_law__845 : decode cL_law_ 845 = .ok (.goto 2419, 3) := by decide +kernel
theorem dL_law__848 : decode cL_law_ 848 = .ok (.aload_n 1, 1) := by decide +kernel
theorem dL_law__849 : decode cL_law_ 849 = .ok (.aload_n 0, 1) := by decide +kernel
theorem dL_law__850 : decode cL_law_ 850 = .ok (.iload 4, 2) := by decide +kernel
theorem dL_law__852 : decode cL_law_ 852 = .ok (.iconst 1, 1) := by decide +kernel
theorem dL_law__853 : decode cL_law_ 853 = .ok (.iadd, 1) := by decide +kernel
theorem dL_law__854 : decode cL_law_ 854 = .ok (.iaload, 1) := by decide +kernel
theorem dL_law__855 : decode cL_law_ 855 = .ok (.aload_n 0, 1) := by decide +kernel
theorem dL_law__856 : decode cL_law_ 856 = .ok (.iload 4, 2) := by decide +kernel
theorem dL_law__858 : decode cL_law_ 858 = .ok (.iconst 2, 1) := by decide +kernel
theorem dL_law__859 : decode cL_law_ 859 = .ok (.iadd, 1) := by decide +kernel
theorem dL_law__860 : decode cL_law_ 860 = .ok (.iaload, 1) := by decide +kernel
theorem dL_law__861 : decode cL_law_ 861 = .ok (.aload_n 0, 1) := by decide +kernel
theorem dL_law__862 : decode cL_law_ 862 = .ok (.iload 4, 2) := by decide +kernel
theorem dL_law__864 : decode cL_law_ 864 = .ok (.iconst 3, 1) := by decide +kernel
theorem dL_law__865 : decode cL_law_ 865 = .ok (.iadd, 1) := by decide +kernel
theorem dL_law__866 : decode cL_law_ 866 = .ok (.iaload, 1) := by decide +kernel
theorem dL_law__867 : decode cL_law_ 867 = .ok (.aload_n 3, 1) := by decide +kernel
theorem dL_law__868 : decode cL_law_ 868 = .ok (.invokestatic 197, 3) := by decide +kernel
theorem dL_law__871 : decode cL_law_ 871 = .ok (.istore 5, 2) := by decide +kernel
theorem dL_law__873 : decode cL_law_ 873 = .ok (.aload_n 2, 1) := by decide +kernel
theorem dL_law__874 : decode cL_law_ 874 = .ok (.aload_n 0, 1) := by decide +kernel
theorem dL_law__875 : decode cL_law_ 875 = .ok (.iload 4, 2) := by decide +kernel
theorem dL_law__877 : decode cL_law_ 877 = .ok (.iconst 1, 1) := by decide +kernel
theorem dL_law__878 : decode cL_law_ 878 = .ok (.iadd, 1) := by decide +kernel
theorem dL_law__879 : decode cL_law_ 879 = .ok (.iaload, 1) := by decide +kernel
theorem dL_law__880 : decode cL_law_ 880 = .ok (.aload_n 0, 1) := by decide +kernel
theorem dL_law__881 : decode cL_law_ 881 = .ok (.iload 4, 2) := by decide +kernel
theorem dL_law__883 : decode cL_law_ 883 = .ok (.iconst 2, 1) := by decide +kernel
theorem dL_law__884 : decode cL_law_ 884 = .ok (.iadd, 1) := by decide +kernel
theorem dL_law__885 : decode cL_law_ 885 = .ok (.iaload, 1) := by decide +kernel
theorem dL_law__886 : decode cL_law_ 886 = .ok (.aload_n 0, 1) := by decide +kernel
theorem dL_law__887 : decode cL_law_ 887 = .ok (.iload 4, 2) := by decide +kernel
theorem dL_law__889 : decode cL_law_ 889 = .ok (.iconst 3, 1) := by decide +kernel
theorem dL_law__890 : decode cL_law_ 890 = .ok (.iadd, 1) := by decide +kernel
theorem dL_law__891 : decode cL_law_ 891 = .ok (.iaload, 1) := by decide +kernel
theorem dL_law__892 : decode cL_law_ 892 = .ok (.invokevirtual 200, 3) := by decide +kernel
theorem dL_law__895 : decode cL_law_ 895 = .ok (.istore 6, 2) := by decide +kernel
theorem dL_law__897 : decode cL_law_ 897 = .ok (.aload_n 2, 1) := by decide +kernel
theorem dL_law__898 : decode cL_law_ 898 = .ok (.invokevirtual 167, 3) := by decide +kernel
theorem dL_law__901 : decode cL_law_ 901 = .ok (.iload 5, 2) := by decide +kernel
theorem dL_law__903 : decode cL_law_ 903 = .ok (.if_icmp .eq 5, 3) := by decide +kernel
theorem dL_law__906 : decode cL_law_ 906 = .ok (.iconst 0, 1) := by decide +kernel
theorem dL_law__907 : decode cL_law_ 907 = .ok (.ireturn, 1) := by decide +kernel
theorem dL_law__908 : decode cL_law_ 908 = .ok (.iload 5, 2) := by decide +kernel
theorem dL_law__910 : decode cL_law_ 910 = .ok (.ifCond .ne 15, 3) := by decide +kernel
theorem dL_law__913 : decode cL_law_ 913 = .ok (.aload_n 3, 1) := by decide +kernel
theorem dL_law__914 : decode cL_law_ 914 = .ok (.iconst 0, 1) := by decide +kernel
theorem dL_law__915 : decode cL_law_ 915 = .ok (.laload, 1) := by decide +kernel
theorem dL_law__916 : decode cL_law_ 916 = .ok (.iload 6, 2) := by decide +kernel
theorem dL_law__918 : decode cL_law_ 918 = .ok (.i2l, 1) := by decide +kernel
theorem dL_law__919 : decode cL_law_ 919 = .ok (.lcmp, 1) := by decide +kernel
theorem dL_law__920 : decode cL_law_ 920 = .ok (.ifCond .eq 5, 3) := by decide +kernel
theorem dL_law__923 : decode cL_law_ 923 = .ok (.iconst 0, 1) := by decide +kernel
theorem dL_law__924 : decode cL_law_ 924 = .ok (.ireturn, 1) := by decide +kernel
theorem dL_law__925 : decode cL_law_ 925 = .ok (.goto 2339, 3) := by decide +kernel
theorem dL_law__928 : decode cL_law_ 928 = .ok (.aload_n 1, 1) := by decide +kernel
theorem dL_law__929 : decode cL_law_ 929 = .ok (.aload_n 0, 1) := by decide +kernel
theorem dL_law__930 : decode cL_law_ 930 = .ok (.iload 4, 2) := by decide +kernel
theorem dL_law__932 : decode cL_law_ 932 = .ok (.iconst 1, 1) := by decide +kernel
theorem dL_law__933 : decode cL_law_ 933 = .ok (.iadd, 1) := by decide +kernel
theorem dL_law__934 : decode cL_law_ 934 = .ok (.iaload, 1) := by decide +kernel
theorem dL_law__935 : decode cL_law_ 935 = .ok (.aload_n 0, 1) := by decide +kernel
theorem dL_law__936 : decode cL_law_ 936 = .ok (.iload 4, 2) := by decide +kernel
theorem dL_law__938 : decode cL_law_ 938 = .ok (.iconst 2, 1) := by decide +kernel
theorem dL_law__939 : decode cL_law_ 939 = .ok (.iadd, 1) := by decide +kernel
theorem dL_law__940 : decode cL_law_ 940 = .ok (.iaload, 1) := by decide +kernel
theorem dL_law__941 : decode cL_law_ 941 = .ok (.aload_n 3, 1) := by decide +kernel
theorem dL_law__942 : decode cL_law_ 942 = .ok (.invokestatic 201, 3) := by decide +kernel
theorem dL_law__945 : decode cL_law_ 945 = .ok (.istore 5, 2) := by decide +kernel
theorem dL_law__947 : decode cL_law_ 947 = .ok (.aload_n 2, 1) := by decide +kernel
theorem dL_law__948 : decode cL_law_ 948 = .ok (.aload_n 0, 1) := by decide +kernel
theorem dL_law__949 : decode cL_law_ 949 = .ok (.iload 4, 2) := by decide +kernel
theorem dL_law__951 : decode cL_law_ 951 = .ok (.iconst 1, 1) := by decide +kernel
theorem dL_law__952 : decode cL_law_ 952 = .ok (.iadd, 1) := by decide +kernel
theorem dL_law__953 : decode cL_law_ 953 = .ok (.iaload, 1) := by decide +kernel
theorem dL_law__954 : decode cL_law_ 954 = .ok (.aload_n 0, 1) := by decide +kernel
theorem dL_law__955 : decode cL_law_ 955 = .ok (.iload 4, 2) := by decide +kernel
theorem dL_law__957 : decode cL_law_ 957 = .ok (.iconst 2, 1) := by decide +kernel
theorem dL_law__958 : decode cL_law_ 958 = .ok (.iadd, 1) := by decide +kernel
theorem dL_law__959 : decode cL_law_ 959 = .ok (.iaload, 1) := by decide +kernel
theorem dL_law__960 : decode cL_law_ 960 = .ok (.invokevirtual 203, 3) := by decide +kernel
theorem dL_law__963 : decode cL_law_ 963 = .ok (.istore 6, 2) := by decide +kernel
theorem dL_law__965 : decode cL_law_ 965 = .ok (.aload_n 2, 1) := by decide +kernel
theorem dL_law__966 : decode cL_law_ 966 = .ok (.invokevirtual 167, 3) := by decide +kernel
theorem dL_law__969 : decode cL_law_ 969 = .ok (.iload 5, 2) := by decide +kernel
theorem dL_law__971 : decode cL_law_ 971 = .ok (.if_icmp .eq 5, 3) := by decide +kernel
theorem dL_law__974 : decode cL_law_ 974 = .ok (.iconst 0, 1) := by decide +kernel
theorem dL_law__975 : decode cL_law_ 975 = .ok (.ireturn, 1) := by decide +kernel
theorem dL_law__976 : decode cL_law_ 976 = .ok (.iload 5, 2) := by decide +kernel
theorem dL_law__978 : decode cL_law_ 978 = .ok (.ifCond .ne 15, 3) := by decide +kernel
theorem dL_law__981 : decode cL_law_ 981 = .ok (.aload_n 3, 1) := by decide +kernel
theorem dL_law__982 : decode cL_law_ 982 = .ok (.iconst 0, 1) := by decide +kernel
theorem dL_law__983 : decode cL_law_ 983 = .ok (.laload, 1) := by decide +kernel
theorem dL_law__984 : decode cL_law_ 984 = .ok (.iload 6, 2) := by decide +kernel
theorem dL_law__986 : decode cL_law_ 986 = .ok (.i2l, 1) := by decide +kernel
theorem dL_law__987 : decode cL_law_ 987 = .ok (.lcmp, 1) := by decide +kernel
theorem dL_law__988 : decode cL_law_ 988 = .ok (.ifCond .eq 5, 3) := by decide +kernel
theorem dL_law__991 : decode cL_law_ 991 = .ok (.iconst 0, 1) := by decide +kernel
theorem dL_law__992 : decode cL_law_ 992 = .ok (.ireturn, 1) := by decide +kernel
theorem dL_law__993 : decode cL_law_ 993 = .ok (.goto 2271, 3) := by decide +kernel
theorem dL_law__996 : decode cL_law_ 996 = .ok (.aload_n 1, 1) := by decide +kernel
theorem dL_law__997 : decode cL_law_ 997 = .ok (.aload_n 0, 1) := by decide +kernel
theorem dL_law__998 : decode cL_law_ 998 = .ok (.iload 4, 2) := by decide +kernel
theorem dL_law__1000 : decode cL_law_ 1000 = .ok (.iconst 1, 1) := by decide +kernel
theorem dL_law__1001 : decode cL_law_ 1001 = .ok (.iadd, 1) := by decide +kernel
theorem dL_law__1002 : decode cL_law_ 1002 = .ok (.iaload, 1) := by decide +kernel
theorem dL_law__1003 : decode cL_law_ 1003 = .ok (.aload_n 0, 1) := by decide +kernel
theorem dL_law__1004 : decode cL_law_ 1004 = .ok (.iload 4, 2) := by decide +kernel
theorem dL_law__1006 : decode cL_law_ 1006 = .ok (.iconst 2, 1) := by decide +kernel
theorem dL_law__1007 : decode cL_law_ 1007 = .ok (.iadd, 1) := by decide +kernel
theorem dL_law__1008 : decode cL_law_ 1008 = .ok (.iaload, 1) := by decide +kernel
theorem dL_law__1009 : decode cL_law_ 1009 = .ok (.aload_n 3, 1) := by decide +kernel
theorem dL_law__1010 : decode cL_law_ 1010 = .ok (.invokestatic 204, 3) := by decide +kernel
theorem dL_law__1013 : decode cL_law_ 1013 = .ok (.istore 5, 2) := by decide +kernel
theorem dL_law__1015 : decode cL_law_ 1015 = .ok (.aload_n 2, 1) := by decide +kernel
theorem dL_law__1016 : decode cL_law_ 1016 = .ok (.aload_n 0, 1) := by decide +kernel
theorem dL_law__1017 : decode cL_law_ 1017 = .ok (.iload 4, 2) := by decide +kernel
theorem dL_law__1019 : decode cL_law_ 1019 = .ok (.iconst 1, 1) := by decide +kernel
theorem dL_law__1020 : decode cL_law_ 1020 = .ok (.iadd, 1) := by decide +kernel
theorem dL_law__1021 : decode cL_law_ 1021 = .ok (.iaload, 1) := by decide +kernel
theorem dL_law__1022 : decode cL_law_ 1022 = .ok (.aload_n 0, 1) := by decide +kernel
theorem dL_law__1023 : decode cL_law_ 1023 = .ok (.iload 4, 2) := by decide +kernel
theorem dL_law__1025 : decode cL_law_ 1025 = .ok (.iconst 2, 1) := by decide +kernel
theorem dL_law__1026 : decode cL_law_ 1026 = .ok (.iadd, 1) := by decide +kernel
theorem dL_law__1027 : decode cL_law_ 1027 = .ok (.iaload, 1) := by decide +kernel
theorem dL_law__1028 : decode cL_law_ 1028 = .ok (.invokevirtual 206, 3) := by decide +kernel
theorem dL_law__1031 : decode cL_law_ 1031 = .ok (.istore 6, 2) := by decide +kernel
theorem dL_law__1033 : decode cL_law_ 1033 = .ok (.aload_n 2, 1) := by decide +kernel
theorem dL_law__1034 : decode cL_law_ 1034 = .ok (.invokevirtual 167, 3) := by decide +kernel
theorem dL_law__1037 : decode cL_law_ 1037 = .ok (.iload 5, 2) := by decide +kernel
theorem dL_law__1039 : decode cL_law_ 1039 = .ok (.if_icmp .eq 5, 3) := by decide +kernel
theorem dL_law__1042 : decode cL_law_ 1042 = .ok (.iconst 0, 1) := by decide +kernel
theorem dL_law__1043 : decode cL_law_ 1043 = .ok (.ireturn, 1) := by decide +kernel
theorem dL_law__1044 : decode cL_law_ 1044 = .ok (.iload 5, 2) := by decide +kernel
theorem dL_law__1046 : decode cL_law_ 1046 = .ok (.ifCond .ne 15, 3) := by decide +kernel
theorem dL_law__1049 : decode cL_law_ 1049 = .ok (.aload_n 3, 1) := by decide +kernel
theorem dL_law__1050 : decode cL_law_ 1050 = .ok (.iconst 0, 1) := by decide +kernel
theorem dL_law__1051 : decode cL_law_ 1051 = .ok (.laload, 1) := by decide +kernel
theorem dL_law__1052 : decode cL_law_ 1052 = .ok (.iload 6, 2) := by decide +kernel
theorem dL_law__1054 : decode cL_law_ 1054 = .ok (.i2l, 1) := by decide +kernel
theorem dL_law__1055 : decode cL_law_ 1055 = .ok (.lcmp, 1) := by decide +kernel
theorem dL_law__1056 : decode cL_law_ 1056 = .ok (.ifCond .eq 5, 3) := by decide +kernel
theorem dL_law__1059 : decode cL_law_ 1059 = .ok (.iconst 0, 1) := by decide +kernel
theorem dL_law__1060 : decode cL_law_ 1060 = .ok (.ireturn, 1) := by decide +kernel
theorem dL_law__1061 : decode cL_law_ 1061 = .ok (.goto 2203, 3) := by decide +kernel
theorem dL_law__1064 : decode cL_law_ 1064 = .ok (.aload_n 1, 1) := by decide +kernel
theorem dL_law__1065 : decode cL_law_ 1065 = .ok (.aload_n 0, 1) := by decide +kernel
theorem dL_law__1066 : decode cL_law_ 1066 = .ok (.iload 4, 2) := by decide +kernel
theorem dL_law__1068 : decode cL_law_ 1068 = .ok (.iconst 1, 1) := by decide +kernel
theorem dL_law__1069 : decode cL_law_ 1069 = .ok (.iadd, 1) := by decide +kernel
theorem dL_law__1070 : decode cL_law_ 1070 = .ok (.iaload, 1) := by decide +kernel
theorem dL_law__1071 : decode cL_law_ 1071 = .ok (.aload_n 0, 1) := by decide +kernel
theorem dL_law__1072 : decode cL_law_ 1072 = .ok (.iload 4, 2) := by decide +kernel
theorem dL_law__1074 : decode cL_law_ 1074 = .ok (.iconst 2, 1) := by decide +kernel
theorem dL_law__1075 : decode cL_law_ 1075 = .ok (.iadd, 1) := by decide +kernel
theorem dL_law__1076 : decode cL_law_ 1076 = .ok (.iaload, 1) := by decide +kernel
theorem dL_law__1077 : decode cL_law_ 1077 = .ok (.aload_n 3, 1) := by decide +kernel
theorem dL_law__1078 : decode cL_law_ 1078 = .ok (.invokestatic 207, 3) := by decide +kernel
theorem dL_law__1081 : decode cL_law_ 1081 = .ok (.istore 5, 2) := by decide +kernel
theorem dL_law__1083 : decode cL_law_ 1083 = .ok (.aload_n 2, 1) := by decide +kernel
theorem dL_law__1084 : decode cL_law_ 1084 = .ok (.aload_n 0, 1) := by decide +kernel
theorem dL_law__1085 : decode cL_law_ 1085 = .ok (.iload 4, 2) := by decide +kernel
theorem dL_law__1087 : decode cL_law_ 1087 = .ok (.iconst 1, 1) := by decide +kernel
theorem dL_law__1088 : decode cL_law_ 1088 = .ok (.iadd, 1) := by decide +kernel
theorem dL_law__1089 : decode cL_law_ 1089 = .ok (.iaload, 1) := by decide +kernel
theorem dL_law__1090 : decode cL_law_ 1090 = .ok (.aload_n 0, 1) := by decide +kernel
theorem dL_law__1091 : decode cL_law_ 1091 = .ok (.iload 4, 2) := by decide +kernel
theorem dL_law__1093 : decode cL_law_ 1093 = .ok (.iconst 2, 1) := by decide +kernel
theorem dL_law__1094 : decode cL_law_ 1094 = .ok (.iadd, 1) := by decide +kernel
theorem dL_law__1095 : decode cL_law_ 1095 = .ok (.iaload, 1) := by decide +kernel
theorem dL_law__1096 : decode cL_law_ 1096 = .ok (.invokevirtual 209, 3) := by decide +kernel
theorem dL_law__1099 : decode cL_law_ 1099 = .ok (.istore 6, 2) := by decide +kernel
theorem dL_law__1101 : decode cL_law_ 1101 = .ok (.aload_n 2, 1) := by decide +kernel
theorem dL_law__1102 : decode cL_law_ 1102 = .ok (.invokevirtual 167, 3) := by decide +kernel
theorem dL_law__1105 : decode cL_law_ 1105 = .ok (.iload 5, 2) := by decide +kernel
theorem dL_law__1107 : decode cL_law_ 1107 = .ok (.if_icmp .eq 5, 3) := by decide +kernel
theorem dL_law__1110 : decode cL_law_ 1110 = .ok (.iconst 0, 1) := by decide +kernel
theorem dL_law__1111 : decode cL_law_ 1111 = .ok (.ireturn, 1) := by decide +kernel
theorem dL_law__1112 : decode cL_law_ 1112 = .ok (.iload 5, 2) := by decide +kernel
theorem dL_law__1114 : decode cL_law_ 1114 = .ok (.ifCond .ne 22, 3) := by decide +kernel
theorem dL_law__1117 : decode cL_law_ 1117 = .ok (.aload_n 3, 1) := by decide +kernel
theorem dL_law__1118 : decode cL_law_ 1118 = .ok (.iconst 0, 1) := by decide +kernel
theorem dL_law__1119 : decode cL_law_ 1119 = .ok (.laload, 1) := by decide +kernel
theorem dL_law__1120 : decode cL_law_ 1120 = .ok (.iload 6, 2) := by decide +kernel
theorem dL_law__1122 : decode cL_law_ 1122 = .ok (.ifCond .eq 7, 3) := by decide +kernel
theorem dL_law__1125 : decode cL_law_ 1125 = .ok (.lconst 1, 1) := by decide +kernel
theorem dL_law__1126 : decode cL_law_ 1126 = .ok (.goto 4, 3) := by decide +kernel
theorem dL_law__1129 : decode cL_law_ 1129 = .ok (.lconst 0, 1) := by decide +kernel
theorem dL_law__1130 : decode cL_law_ 1130 = .ok (.lcmp, 1) := by decide +kernel
theorem dL_law__1131 : decode cL_law_ 1131 = .ok (.ifCond .eq 5, 3) := by decide +kernel
theorem dL_law__1134 : decode cL_law_ 1134 = .ok (.iconst 0, 1) := by decide +kernel
theorem dL_law__1135 : decode cL_law_ 1135 = .ok (.ireturn, 1) := by decide +kernel
theorem dL_law__1136 : decode cL_law_ 1136 = .ok (.goto 2128, 3) := by decide +kernel
theorem dL_law__1139 : decode cL_law_ 1139 = .ok (.aload_n 1, 1) := by decide +kernel
theorem dL_law__1140 : decode cL_law_ 1140 = .ok (.aload_n 0, 1) := by decide +kernel
theorem dL_law__1141 : decode cL_law_ 1141 = .ok (.iload 4, 2) := by decide +kernel
theorem dL_law__1143 : decode cL_law_ 1143 = .ok (.iconst 1, 1) := by decide +kernel
theorem dL_law__1144 : decode cL_law_ 1144 = .ok (.iadd, 1) := by decide +kernel
theorem dL_law__1145 : decode cL_law_ 1145 = .ok (.iaload, 1) := by decide +kernel
theorem dL_law__1146 : decode cL_law_ 1146 = .ok (.aload_n 0, 1) := by decide +kernel
theorem dL_law__1147 : decode cL_law_ 1147 = .ok (.iload 4, 2) := by decide +kernel
theorem dL_law__1149 : decode cL_law_ 1149 = .ok (.iconst 2, 1) := by decide +kernel
theorem dL_law__1150 : decode cL_law_ 1150 = .ok (.iadd, 1) := by decide +kernel
theorem dL_law__1151 : decode cL_law_ 1151 = .ok (.iaload, 1) := by decide +kernel
theorem dL_law__1152 : decode cL_law_ 1152 = .ok (.aload_n 3, 1) := by decide +kernel
theorem dL_law__1153 : decode cL_law_ 1153 = .ok (.invokestatic 210, 3) := by decide +kernel
theorem dL_law__1156 : decode cL_law_ 1156 = .ok (.istore 5, 2) := by decide +kernel
theorem dL_law__1158 : decode cL_law_ 1158 = .ok (.aload_n 2, 1) := by decide +kernel
theorem dL_law__1159 : decode cL_law_ 1159 = .ok (.aload_n 0, 1) := by decide +kernel
theorem dL_law__1160 : decode cL_law_ 1160 = .ok (.iload 4, 2) := by decide +kernel
theorem dL_law__1162 : decode cL_law_ 1162 = .ok (.iconst 1, 1) := by decide +kernel
theorem dL_law__1163 : decode cL_law_ 1163 = .ok (.iadd, 1) := by decide +kernel
theorem dL_law__1164 : decode cL_law_ 1164 = .ok (.iaload, 1) := by decide +kernel
theorem dL_law__1165 : decode cL_law_ 1165 = .ok (.aload_n 0, 1) := by decide +kernel
theorem dL_law__1166 : decode cL_law_ 1166 = .ok (.iload 4, 2) := by decide +kernel
theorem dL_law__1168 : decode cL_law_ 1168 = .ok (.iconst 2, 1) := by decide +kernel
theorem dL_law__1169 : decode cL_law_ 1169 = .ok (.iadd, 1) := by decide +kernel
theorem dL_law__1170 : decode cL_law_ 1170 = .ok (.iaload, 1) := by decide +kernel
theorem dL_law__1171 : decode cL_law_ 1171 = .ok (.invokevirtual 212, 3) := by decide +kernel
theorem dL_law__1174 : decode cL_law_ 1174 = .ok (.istore 6, 2) := by decide +kernel
theorem dL_law__1176 : decode cL_law_ 1176 = .ok (.aload_n 2, 1) := by decide +kernel
theorem dL_law__1177 : decode cL_law_ 1177 = .ok (.invokevirtual 167, 3) := by decide +kernel
theorem dL_law__1180 : decode cL_law_ 1180 = .ok (.iload 5, 2) := by decide +kernel
theorem dL_law__1182 : decode cL_law_ 1182 = .ok (.if_icmp .eq 5, 3) := by decide +kernel
theorem dL_law__1185 : decode cL_law_ 1185 = .ok (.iconst 0, 1) := by decide +kernel
theorem dL_law__1186 : decode cL_law_ 1186 = .ok (.ireturn, 1) := by decide +kernel
theorem dL_law__1187 : decode cL_law_ 1187 = .ok (.iload 5, 2) := by decide +kernel
theorem dL_law__1189 : decode cL_law_ 1189 = .ok (.ifCond .ne 15, 3) := by decide +kernel
theorem dL_law__1192 : decode cL_law_ 1192 = .ok (.aload_n 3, 1) := by decide +kernel
theorem dL_law__1193 : decode cL_law_ 1193 = .ok (.iconst 0, 1) := by decide +kernel
theorem dL_law__1194 : decode cL_law_ 1194 = .ok (.laload, 1) := by decide +kernel
theorem dL_law__1195 : decode cL_law_ 1195 = .ok (.iload 6, 2) := by decide +kernel
theorem dL_law__1197 : decode cL_law_ 1197 = .ok (.i2l, 1) := by decide +kernel
theorem dL_law__1198 : decode cL_law_ 1198 = .ok (.lcmp, 1) := by decide +kernel
theorem dL_law__1199 : decode cL_law_ 1199 = .ok (.ifCond .eq 5, 3) := by decide +kernel
theorem dL_law__1202 : decode cL_law_ 1202 = .ok (.iconst 0, 1) := by decide +kernel
theorem dL_law__1203 : decode cL_law_ 1203 = .ok (.ireturn, 1) := by decide +kernel
theorem dL_law__1204 : decode cL_law_ 1204 = .ok (.goto 2060, 3) := by decide +kernel
theorem dL_law__1207 : decode cL_law_ 1207 = .ok (.aload_n 1, 1) := by decide +kernel
theorem dL_law__1208 : decode cL_law_ 1208 = .ok (.aload_n 0, 1) := by decide +kernel
theorem dL_law__1209 : decode cL_law_ 1209 = .ok (.iload 4, 2) := by decide +kernel
theorem dL_law__1211 : decode cL_law_ 1211 = .ok (.iconst 1, 1) := by decide +kernel
theorem dL_law__1212 : decode cL_law_ 1212 = .ok (.iadd, 1) := by decide +kernel
theorem dL_law__1213 : decode cL_law_ 1213 = .ok (.iaload, 1) := by decide +kernel
theorem dL_law__1214 : decode cL_law_ 1214 = .ok (.aload_n 3, 1) := by decide +kernel
theorem dL_law__1215 : decode cL_law_ 1215 = .ok (.invokestatic 213, 3) := by decide +kernel
theorem dL_law__1218 : decode cL_law_ 1218 = .ok (.istore 5, 2) := by decide +kernel
theorem dL_law__1220 : decode cL_law_ 1220 = .ok (.aload_n 2, 1) := by decide +kernel
theorem dL_law__1221 : decode cL_law_ 1221 = .ok (.aload_n 0, 1) := by decide +kernel
theorem dL_law__1222 : decode cL_law_ 1222 = .ok (.iload 4, 2) := by decide +kernel
theorem dL_law__1224 : decode cL_law_ 1224 = .ok (.iconst 1, 1) := by decide +kernel
theorem dL_law__1225 : decode cL_law_ 1225 = .ok (.iadd, 1) := by decide +kernel
theorem dL_law__1226 : decode cL_law_ 1226 = .ok (.iaload, 1) := by decide +kernel
theorem dL_law__1227 : decode cL_law_ 1227 = .ok (.invokevirtual 216, 3) := by decide +kernel
theorem dL_law__1230 : decode cL_law_ 1230 = .ok (.istore 6, 2) := by decide +kernel
theorem dL_law__1232 : decode cL_law_ 1232 = .ok (.aload_n 2, 1) := by decide +kernel
theorem dL_law__1233 : decode cL_law_ 1233 = .ok (.invokevirtual 167, 3) := by decide +kernel
theorem dL_law__1236 : decode cL_law_ 1236 = .ok (.iload 5, 2) := by decide +kernel
theorem dL_law__1238 : decode cL_law_ 1238 = .ok (.if_icmp .eq 5, 3) := by decide +kernel
theorem dL_law__1241 : decode cL_law_ 1241 = .ok (.iconst 0, 1) := by decide +kernel
theorem dL_law__1242 : decode cL_law_ 1242 = .ok (.ireturn, 1) := by decide +kernel
theorem dL_law__1243 : decode cL_law_ 1243 = .ok (.iload 5, 2) := by decide +kernel
theorem dL_law__1245 : decode cL_law_ 1245 = .ok (.ifCond .ne 15, 3) := by decide +kernel
theorem dL_law__1248 : decode cL_law_ 1248 = .ok (.aload_n 3, 1) := by decide +kernel
theorem dL_law__1249 : decode cL_law_ 1249 = .ok (.iconst 0, 1) := by decide +kernel
theorem dL_law__1250 : decode cL_law_ 1250 = .ok (.laload, 1) := by decide +kernel
theorem dL_law__1251 : decode cL_law_ 1251 = .ok (.iload 6, 2) := by decide +kernel
theorem dL_law__1253 : decode cL_law_ 1253 = .ok (.i2l, 1) := by decide +kernel
theorem dL_law__1254 : decode cL_law_ 1254 = .ok (.lcmp, 1) := by decide +kernel
theorem dL_law__1255 : decode cL_law_ 1255 = .ok (.ifCond .eq 5, 3) := by decide +kernel
theorem dL_law__1258 : decode cL_law_ 1258 = .ok (.iconst 0, 1) := by decide +kernel
theorem dL_law__1259 : decode cL_law_ 1259 = .ok (.ireturn, 1) := by decide +kernel
theorem dL_law__1260 : decode cL_law_ 1260 = .ok (.goto 2004, 3) := by decide +kernel
theorem dL_law__1263 : decode cL_law_ 1263 = .ok (.aload_n 1, 1) := by decide +kernel
theorem dL_law__1264 : decode cL_law_ 1264 = .ok (.aload_n 0, 1) := by decide +kernel
theorem dL_law__1265 : decode cL_law_ 1265 = .ok (.iload 4, 2) := by decide +kernel
theorem dL_law__1267 : decode cL_law_ 1267 = .ok (.iconst 1, 1) := by decide +kernel
theorem dL_law__1268 : decode cL_law_ 1268 = .ok (.iadd, 1) := by decide +kernel
theorem dL_law__1269 : decode cL_law_ 1269 = .ok (.iaload, 1) := by decide +kernel
theorem dL_law__1270 : decode cL_law_ 1270 = .ok (.aload_n 3, 1) := by decide +kernel
theorem dL_law__1271 : decode cL_law_ 1271 = .ok (.invokestatic 217, 3) := by decide +kernel
theorem dL_law__1274 : decode cL_law_ 1274 = .ok (.istore 5, 2) := by decide +kernel
theorem dL_law__1276 : decode cL_law_ 1276 = .ok (.aload_n 2, 1) := by decide +kernel
theorem dL_law__1277 : decode cL_law_ 1277 = .ok (.aload_n 0, 1) := by decide +kernel
theorem dL_law__1278 : decode cL_law_ 1278 = .ok (.iload 4, 2) := by decide +kernel
theorem dL_law__1280 : decode cL_law_ 1280 = .ok (.iconst 1, 1) := by decide +kernel
theorem dL_law__1281 : decode cL_law_ 1281 = .ok (.iadd, 1) := by decide +kernel
theorem dL_law__1282 : decode cL_law_ 1282 = .ok (.iaload, 1) := by decide +kernel
theorem dL_law__1283 : decode cL_law_ 1283 = .ok (.invokevirtual 219, 3) := by decide +kernel
theorem dL_law__1286 : decode cL_law_ 1286 = .ok (.istore 6, 2) := by decide +kernel
theorem dL_law__1288 : decode cL_law_ 1288 = .ok (.aload_n 2, 1) := by decide +kernel
theorem dL_law__1289 : decode cL_law_ 1289 = .ok (.invokevirtual 167, 3) := by decide +kernel
theorem dL_law__1292 : decode cL_law_ 1292 = .ok (.iload 5, 2) := by decide +kernel
theorem dL_law__1294 : decode cL_law_ 1294 = .ok (.if_icmp .eq 5, 3) := by decide +kernel
theorem dL_law__1297 : decode cL_law_ 1297 = .ok (.iconst 0, 1) := by decide +kernel
theorem dL_law__1298 : decode cL_law_ 1298 = .ok (.ireturn, 1) := by decide +kernel
theorem dL_law__1299 : decode cL_law_ 1299 = .ok (.iload 5, 2) := by decide +kernel
theorem dL_law__1301 : decode cL_law_ 1301 = .ok (.ifCond .ne 15, 3) := by decide +kernel
theorem dL_law__1304 : decode cL_law_ 1304 = .ok (.aload_n 3, 1) := by decide +kernel
theorem dL_law__1305 : decode cL_law_ 1305 = .ok (.iconst 0, 1) := by decide +kernel
theorem dL_law__1306 : decode cL_law_ 1306 = .ok (.laload, 1) := by decide +kernel
theorem dL_law__1307 : decode cL_law_ 1307 = .ok (.iload 6, 2) := by decide +kernel
theorem dL_law__1309 : decode cL_law_ 1309 = .ok (.i2l, 1) := by decide +kernel
theorem dL_law__1310 : decode cL_law_ 1310 = .ok (.lcmp, 1) := by decide +kernel
theorem dL_law__1311 : decode cL_law_ 1311 = .ok (.ifCond .eq 5, 3) := by decide +kernel
theorem dL_law__1314 : decode cL_law_ 1314 = .ok (.iconst 0, 1) := by decide +kernel
theorem dL_law__1315 : decode cL_law_ 1315 = .ok (.ireturn, 1) := by decide +kernel
theorem dL_law__1316 : decode cL_law_ 1316 = .ok (.goto 1948, 3) := by decide +kernel
theorem dL_law__1319 : decode cL_law_ 1319 = .ok (.aload_n 1, 1) := by decide +kernel
theorem dL_law__1320 : decode cL_law_ 1320 = .ok (.aload_n 0, 1) := by decide +kernel
theorem dL_law__1321 : decode cL_law_ 1321 = .ok (.iload 4, 2) := by decide +kernel
theorem dL_law__1323 : decode cL_law_ 1323 = .ok (.iconst 1, 1) := by decide +kernel
theorem dL_law__1324 : decode cL_law_ 1324 = .ok (.iadd, 1) := by decide +kernel
theorem dL_law__1325 : decode cL_law_ 1325 = .ok (.iaload, 1) := by decide +kernel
theorem dL_law__1326 : decode cL_law_ 1326 = .ok (.aload_n 0, 1) := by decide +kernel
theorem dL_law__1327 : decode cL_law_ 1327 = .ok (.iload 4, 2) := by decide +kernel
theorem dL_law__1329 : decode cL_law_ 1329 = .ok (.iconst 2, 1) := by decide +kernel
theorem dL_law__1330 : decode cL_law_ 1330 = .ok (.iadd, 1) := by decide +kernel
theorem dL_law__1331 : decode cL_law_ 1331 = .ok (.iaload, 1) := by decide +kernel
theorem dL_law__1332 : decode cL_law_ 1332 = .ok (.aload_n 0, 1) := by decide +kernel
theorem dL_law__1333 : decode cL_law_ 1333 = .ok (.iload 4, 2) := by decide +kernel
theorem dL_law__1335 : decode cL_law_ 1335 = .ok (.iconst 3, 1) := by decide +kernel
theorem dL_law__1336 : decode cL_law_ 1336 = .ok (.iadd, 1) := by decide +kernel
theorem dL_law__1337 : decode cL_law_ 1337 = .ok (.iaload, 1) := by decide +kernel
theorem dL_law__1338 : decode cL_law_ 1338 = .ok (.ifCond .eq 7, 3) := by decide +kernel
theorem dL_law__1341 : decode cL_law_ 1341 = .ok (.iconst 1, 1) := by decide +kernel
theorem dL_law__1342 : decode cL_law_ 1342 = .ok (.goto 4, 3) := by decide +kernel
theorem dL_law__1345 : decode cL_law_ 1345 = .ok (.iconst 0, 1) := by decide +kernel
theorem dL_law__1346 : decode cL_law_ 1346 = .ok (.aload_n 3, 1) := by decide +kernel
theorem dL_law__1347 : decode cL_law_ 1347 = .ok (.invokestatic 220, 3) := by decide +kernel
theorem dL_law__1350 : decode cL_law_ 1350 = .ok (.istore 5, 2) := by decide +kernel
theorem dL_law__1352 : decode cL_law_ 1352 = .ok (.aload_n 2, 1) := by decide +kernel
theorem dL_law__1353 : decode cL_law_ 1353 = .ok (.aload_n 0, 1) := by decide +kernel
theorem dL_law__1354 : decode cL_law_ 1354 = .ok (.iload 4, 2) := by decide +kernel
theorem dL_law__1356 : decode cL_law_ 1356 = .ok (.iconst 1, 1) := by decide +kernel
theorem dL_law__1357 : decode cL_law_ 1357 = .ok (.iadd, 1) := by decide +kernel
theorem dL_law__1358 : decode cL_law_ 1358 = .ok (.iaload, 1) := by decide +kernel
theorem dL_law__1359 : decode cL_law_ 1359 = .ok (.aload_n 0, 1) := by decide +kernel
theorem dL_law__1360 : decode cL_law_ 1360 = .ok (.iload 4, 2) := by decide +kernel
theorem dL_law__1362 : decode cL_law_ 1362 = .ok (.iconst 2, 1) := by decide +kernel
theorem dL_law__1363 : decode cL_law_ 1363 = .ok (.iadd, 1) := by decide +kernel
theorem dL_law__1364 : decode cL_law_ 1364 = .ok (.iaload, 1) := by decide +kernel
theorem dL_law__1365 : decode cL_law_ 1365 = .ok (.aload_n 0, 1) := by decide +kernel
theorem dL_law__1366 : decode cL_law_ 1366 = .ok (.iload 4, 2) := by decide +kernel
theorem dL_law__1368 : decode cL_law_ 1368 = .ok (.iconst 3, 1) := by decide +kernel
theorem dL_law__1369 : decode cL_law_ 1369 = .ok (.iadd, 1) := by decide +kernel
theorem dL_law__1370 : decode cL_law_ 1370 = .ok (.iaload, 1) := by decide +kernel
theorem dL_law__1371 : decode cL_law_ 1371 = .ok (.ifCond .eq 7, 3) := by decide +kernel
theorem dL_law__1374 : decode cL_law_ 1374 = .ok (.iconst 1, 1) := by decide +kernel
theorem dL_law__1375 : decode cL_law_ 1375 = .ok (.goto 4, 3) := by decide +kernel
theorem dL_law__1378 : decode cL_law_ 1378 = .ok (.iconst 0, 1) := by decide +kernel
theorem dL_law__1379 : decode cL_law_ 1379 = .ok (.invokevirtual 223, 3) := by decide +kernel
theorem dL_law__1382 : decode cL_law_ 1382 = .ok (.istore 6, 2) := by decide +kernel
theorem dL_law__1384 : decode cL_law_ 1384 = .ok (.aload_n 2, 1) := by decide +kernel
theorem dL_law__1385 : decode cL_law_ 1385 = .ok (.invokevirtual 167, 3) := by decide +kernel
theorem dL_law__1388 : decode cL_law_ 1388 = .ok (.iload 5, 2) := by decide +kernel
theorem dL_law__1390 : decode cL_law_ 1390 = .ok (.if_icmp .eq 5, 3) := by decide +kernel
theorem dL_law__1393 : decode cL_law_ 1393 = .ok (.iconst 0, 1) := by decide +kernel
theorem dL_law__1394 : decode cL_law_ 1394 = .ok (.ireturn, 1) := by decide +kernel
theorem dL_law__1395 : decode cL_law_ 1395 = .ok (.iload 5, 2) := by decide +kernel
theorem dL_law__1397 : decode cL_law_ 1397 = .ok (.ifCond .ne 22, 3) := by decide +kernel
theorem dL_law__1400 : decode cL_law_ 1400 = .ok (.aload_n 3, 1) := by decide +kernel
theorem dL_law__1401 : decode cL_law_ 1401 = .ok (.iconst 0, 1) := by decide +kernel
theorem dL_law__1402 : decode cL_law_ 1402 = .ok (.laload, 1) := by decide +kernel
theorem dL_law__1403 : decode cL_law_ 1403 = .ok (.iload 6, 2) := by decide +kernel
theorem dL_law__1405 : decode cL_law_ 1405 = .ok (.ifCond .eq 7, 3) := by decide +kernel
theorem dL_law__1408 : decode cL_law_ 1408 = .ok (.lconst 1, 1) := by decide +kernel
theorem dL_law__1409 : decode cL_law_ 1409 = .ok (.goto 4, 3) := by decide +kernel
theorem dL_law__1412 : decode cL_law_ 1412 = .ok (.lconst 0, 1) := by decide +kernel
theorem dL_law__1413 : decode cL_law_ 1413 = .ok (.lcmp, 1) := by decide +kernel
theorem dL_law__1414 : decode cL_law_ 1414 = .ok (.ifCond .eq 5, 3) := by decide +kernel
theorem dL_law__1417 : decode cL_law_ 1417 = .ok (.iconst 0, 1) := by decide +kernel
theorem dL_law__1418 : decode cL_law_ 1418 = .ok (.ireturn, 1) := by decide +kernel
theorem dL_law__1419 : decode cL_law_ 1419 = .ok (.goto 1845, 3) := by decide +kernel
theorem dL_law__1422 : decode cL_law_ 1422 = .ok (.aload_n 1, 1) := by decide +kernel
theorem dL_law__1423 : decode cL_law_ 1423 = .ok (.aload_n 0, 1) := by decide +kernel
theorem dL_law__1424 : decode cL_law_ 1424 = .ok (.iload 4, 2) := by decide +kernel
theorem dL_law__1426 : decode cL_law_ 1426 = .ok (.iconst 1, 1) := by decide +kernel
theorem dL_law__1427 : decode cL_law_ 1427 = .ok (.iadd, 1) := by decide +kernel
theorem dL_law__1428 : decode cL_law_ 1428 = .ok (.iaload, 1) := by decide +kernel
theorem dL_law__1429 : decode cL_law_ 1429 = .ok (.aload_n 3, 1) := by decide +kernel
theorem dL_law__1430 : decode cL_law_ 1430 = .ok (.invokestatic 224, 3) := by decide +kernel
