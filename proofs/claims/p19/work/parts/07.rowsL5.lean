theorem dL_law_770 : decode cL_law 770 = .ok (.iload 18, 2) := by decide +kernel
theorem dL_law_772 : decode cL_law 772 = .ok (.imul, 1) := by decide +kernel
theorem dL_law_773 : decode cL_law 773 = .ok (.iload 19, 2) := by decide +kernel
theorem dL_law_775 : decode cL_law 775 = .ok (.iadd, 1) := by decide +kernel
theorem dL_law_776 : decode cL_law 776 = .ok (.goto 4, 3) := by decide +kernel
theorem dL_law_779 : decode cL_law 779 = .ok (.iconst 0, 1) := by decide +kernel
theorem dL_law_780 : decode cL_law 780 = .ok (.iload 25, 2) := by decide +kernel
theorem dL_law_782 : decode cL_law 782 = .ok (.ifCond .eq 8, 3) := by decide +kernel
theorem dL_law_785 : decode cL_law 785 = .ok (.iload 23, 2) := by decide +kernel
theorem dL_law_787 : decode cL_law 787 = .ok (.goto 7, 3) := by decide +kernel
theorem dL_law_790 : decode cL_law 790 = .ok (.aload 5, 2) := by decide +kernel
theorem dL_law_792 : decode cL_law 792 = .ok (.iconst 0, 1) := by decide +kernel
theorem dL_law_793 : decode cL_law 793 = .ok (.iaload, 1) := by decide +kernel
theorem dL_law_794 : decode cL_law 794 = .ok (.iastore, 1) := by decide +kernel
theorem dL_law_795 : decode cL_law 795 = .ok (.aload_n 1, 1) := by decide +kernel
theorem dL_law_796 : decode cL_law 796 = .ok (.iconst 3, 1) := by decide +kernel
theorem dL_law_797 : decode cL_law 797 = .ok (.iload 18, 2) := by decide +kernel
theorem dL_law_799 : decode cL_law 799 = .ok (.iload 19, 2) := by decide +kernel
theorem dL_law_801 : decode cL_law 801 = .ok (.iload 23, 2) := by decide +kernel
theorem dL_law_803 : decode cL_law 803 = .ok (.invokestatic 122, 3) := by decide +kernel
theorem dL_law_806 : decode cL_law 806 = .ok (.iload 21, 2) := by decide +kernel
theorem dL_law_808 : decode cL_law 808 = .ok (.ifCond .ne 9, 3) := by decide +kernel
theorem dL_law_811 : decode cL_law 811 = .ok (.ldc2_w 59, 3) := by decide +kernel
theorem dL_law_814 : decode cL_law 814 = .ok (.goto 30, 3) := by decide +kernel
theorem dL_law_817 : decode cL_law 817 = .ok (.iload 23, 2) := by decide +kernel
theorem dL_law_819 : decode cL_law 819 = .ok (.bipush 100, 2) := by decide +kernel
theorem dL_law_821 : decode cL_law 821 = .ok (.if_icmp .le 9, 3) := by decide +kernel
theorem dL_law_824 : decode cL_law 824 = .ok (.ldc2_w 63, 3) := by decide +kernel
theorem dL_law_827 : decode cL_law 827 = .ok (.goto 17, 3) := by decide +kernel
theorem dL_law_830 : decode cL_law 830 = .ok (.iload 25, 2) := by decide +kernel
theorem dL_law_832 : decode cL_law 832 = .ok (.ifCond .eq 9, 3) := by decide +kernel
theorem dL_law_835 : decode cL_law 835 = .ok (.iload 24, 2) := by decide +kernel
theorem dL_law_837 : decode cL_law 837 = .ok (.i2l, 1) := by decide +kernel
theorem dL_law_838 : decode cL_law 838 = .ok (.goto 6, 3) := by decide +kernel
theorem dL_law_841 : decode cL_law 841 = .ok (.ldc2_w 67, 3) := by decide +kernel
theorem dL_law_844 : decode cL_law 844 = .ok (.lcmp, 1) := by decide +kernel
theorem dL_law_845 : decode cL_law 845 = .ok (.ifCond .ne 7, 3) := by decide +kernel
theorem dL_law_848 : decode cL_law 848 = .ok (.iconst 1, 1) := by decide +kernel
theorem dL_law_849 : decode cL_law 849 = .ok (.goto 4, 3) := by decide +kernel
theorem dL_law_852 : decode cL_law 852 = .ok (.iconst 0, 1) := by decide +kernel
theorem dL_law_853 : decode cL_law 853 = .ok (.istore 13, 2) := by decide +kernel
theorem dL_law_855 : decode cL_law 855 = .ok (.goto 1291, 3) := by decide +kernel
theorem dL_law_858 : decode cL_law 858 = .ok (.iload 15, 2) := by decide +kernel
theorem dL_law_860 : decode cL_law 860 = .ok (.bipush 14, 2) := by decide +kernel
theorem dL_law_862 : decode cL_law 862 = .ok (.if_icmp .ge 205, 3) := by decide +kernel
theorem dL_law_865 : decode cL_law 865 = .ok (.aload 12, 2) := by decide +kernel
theorem dL_law_867 : decode cL_law 867 = .ok (.iconst 2, 1) := by decide +kernel
theorem dL_law_868 : decode cL_law 868 = .ok (.iaload, 1) := by decide +kernel
theorem dL_law_869 : decode cL_law 869 = .ok (.bipush 18, 2) := by decide +kernel
theorem dL_law_871 : decode cL_law 871 = .ok (.if_icmp .ge 196, 3) := by decide +kernel
theorem dL_law_874 : decode cL_law 874 = .ok (.iload 17, 2) := by decide +kernel
theorem dL_law_876 : decode cL_law 876 = .ok (.bipush 7, 2) := by decide +kernel
theorem dL_law_878 : decode cL_law 878 = .ok (.idiv, 1) := by decide +kernel
theorem dL_law_879 : decode cL_law 879 = .ok (.iconst 3, 1) := by decide +kernel
theorem dL_law_880 : decode cL_law 880 = .ok (.irem, 1) := by decide +kernel
theorem dL_law_881 : decode cL_law 881 = .ok (.ifCond .ne 13, 3) := by decide +kernel
theorem dL_law_884 : decode cL_law 884 = .ok (.iconst 1, 1) := by decide +kernel
theorem dL_law_885 : decode cL_law 885 = .ok (.iload 17, 2) := by decide +kernel
theorem dL_law_887 : decode cL_law 887 = .ok (.bipush 100, 2) := by decide +kernel
theorem dL_law_889 : decode cL_law 889 = .ok (.imul, 1) := by decide +kernel
theorem dL_law_890 : decode cL_law 890 = .ok (.iadd, 1) := by decide +kernel
theorem dL_law_891 : decode cL_law 891 = .ok (.goto 29, 3) := by decide +kernel
theorem dL_law_894 : decode cL_law 894 = .ok (.iload 17, 2) := by decide +kernel
theorem dL_law_896 : decode cL_law 896 = .ok (.bipush 7, 2) := by decide +kernel
theorem dL_law_898 : decode cL_law 898 = .ok (.idiv, 1) := by decide +kernel
theorem dL_law_899 : decode cL_law 899 = .ok (.iconst 3, 1) := by decide +kernel
theorem dL_law_900 : decode cL_law 900 = .ok (.irem, 1) := by decide +kernel
theorem dL_law_901 : decode cL_law 901 = .ok (.iconst 1, 1) := by decide +kernel
theorem dL_law_902 : decode cL_law 902 = .ok (.if_icmp .ne 10, 3) := by decide +kernel
theorem dL_law_905 : decode cL_law 905 = .ok (.iconst 1, 1) := by decide +kernel
theorem dL_law_906 : decode cL_law 906 = .ok (.iload 17, 2) := by decide +kernel
theorem dL_law_908 : decode cL_law 908 = .ok (.iadd, 1) := by decide +kernel
theorem dL_law_909 : decode cL_law 909 = .ok (.goto 11, 3) := by decide +kernel
theorem dL_law_912 : decode cL_law 912 = .ok (.iconst 1, 1) := by decide +kernel
theorem dL_law_913 : decode cL_law 913 = .ok (.iload 17, 2) := by decide +kernel
theorem dL_law_915 : decode cL_law 915 = .ok (.sipush 12000, 3) := by decide +kernel
theorem dL_law_918 : decode cL_law 918 = .ok (.irem, 1) := by decide +kernel
theorem dL_law_919 : decode cL_law 919 = .ok (.iadd, 1) := by decide +kernel
theorem dL_law_920 : decode cL_law 920 = .ok (.istore 23, 2) := by decide +kernel
theorem dL_law_922 : decode cL_law 922 = .ok (.iload 21, 2) := by decide +kernel
theorem dL_law_924 : decode cL_law 924 = .ok (.ifCond .eq 46, 3) := by decide +kernel
theorem dL_law_927 : decode cL_law 927 = .ok (.iload 23, 2) := by decide +kernel
theorem dL_law_929 : decode cL_law 929 = .ok (.i2l, 1) := by decide +kernel
theorem dL_law_930 : decode cL_law 930 = .ok (.ldc2_w 81, 3) := by decide +kernel
theorem dL_law_933 : decode cL_law 933 = .ok (.lmul, 1) := by decide +kernel
theorem dL_law_934 : decode cL_law 934 = .ok (.aload_n 2, 1) := by decide +kernel
theorem dL_law_935 : decode cL_law 935 = .ok (.iload 22, 2) := by decide +kernel
theorem dL_law_937 : decode cL_law 937 = .ok (.iaload, 1) := by decide +kernel
theorem dL_law_938 : decode cL_law 938 = .ok (.i2l, 1) := by decide +kernel
theorem dL_law_939 : decode cL_law 939 = .ok (.ldiv, 1) := by decide +kernel
theorem dL_law_940 : decode cL_law 940 = .ok (.lconst 0, 1) := by decide +kernel
theorem dL_law_941 : decode cL_law 941 = .ok (.lcmp, 1) := by decide +kernel
theorem dL_law_942 : decode cL_law 942 = .ok (.ifCond .le 28, 3) := by decide +kernel
theorem dL_law_945 : decode cL_law 945 = .ok (.iload 23, 2) := by decide +kernel
theorem dL_law_947 : decode cL_law 947 = .ok (.i2l, 1) := by decide +kernel
theorem dL_law_948 : decode cL_law 948 = .ok (.iload 23, 2) := by decide +kernel
theorem dL_law_950 : decode cL_law 950 = .ok (.i2l, 1) := by decide +kernel
theorem dL_law_951 : decode cL_law 951 = .ok (.invokestatic 83, 3) := by decide +kernel
theorem dL_law_954 : decode cL_law 954 = .ok (.ladd, 1) := by decide +kernel
theorem dL_law_955 : decode cL_law 955 = .ok (.aload_n 3, 1) := by decide +kernel
theorem dL_law_956 : decode cL_law 956 = .ok (.bipush 12, 2) := by decide +kernel
theorem dL_law_958 : decode cL_law 958 = .ok (.iload 18, 2) := by decide +kernel
theorem dL_law_960 : decode cL_law 960 = .ok (.iadd, 1) := by decide +kernel
theorem dL_law_961 : decode cL_law 961 = .ok (.laload, 1) := by decide +kernel
theorem dL_law_962 : decode cL_law 962 = .ok (.lcmp, 1) := by decide +kernel
theorem dL_law_963 : decode cL_law 963 = .ok (.ifCond .gt 7, 3) := by decide +kernel
theorem dL_law_966 : decode cL_law 966 = .ok (.iconst 1, 1) := by decide +kernel
theorem dL_law_967 : decode cL_law 967 = .ok (.goto 4, 3) := by decide +kernel
theorem dL_law_970 : decode cL_law 970 = .ok (.iconst 0, 1) := by decide +kernel
theorem dL_law_971 : decode cL_law 971 = .ok (.istore 24, 2) := by decide +kernel
theorem dL_law_973 : decode cL_law 973 = .ok (.iload 24, 2) := by decide +kernel
theorem dL_law_975 : decode cL_law 975 = .ok (.ifCond .eq 38, 3) := by decide +kernel
theorem dL_law_978 : decode cL_law 978 = .ok (.aload_n 2, 1) := by decide +kernel
theorem dL_law_979 : decode cL_law 979 = .ok (.aload_n 3, 1) := by decide +kernel
theorem dL_law_980 : decode cL_law 980 = .ok (.aload 4, 2) := by decide +kernel
theorem dL_law_982 : decode cL_law 982 = .ok (.aload 6, 2) := by decide +kernel
theorem dL_law_984 : decode cL_law 984 = .ok (.aload 7, 2) := by decide +kernel
theorem dL_law_986 : decode cL_law 986 = .ok (.aload 8, 2) := by decide +kernel
theorem dL_law_988 : decode cL_law 988 = .ok (.aload 12, 2) := by decide +kernel
theorem dL_law_990 : decode cL_law 990 = .ok (.iload 18, 2) := by decide +kernel
theorem dL_law_992 : decode cL_law 992 = .ok (.iload 19, 2) := by decide +kernel
theorem dL_law_994 : decode cL_law 994 = .ok (.iload 23, 2) := by decide +kernel
theorem dL_law_996 : decode cL_law 996 = .ok (.i2l, 1) := by decide +kernel
theorem dL_law_997 : decode cL_law 997 = .ok (.ldc2_w 81, 3) := by decide +kernel
theorem dL_law_1000 : decode cL_law 1000 = .ok (.lmul, 1) := by decide +kernel
theorem dL_law_1001 : decode cL_law 1001 = .ok (.aload_n 2, 1) := by decide +kernel
theorem dL_law_1002 : decode cL_law 1002 = .ok (.iload 22, 2) := by decide +kernel
theorem dL_law_1004 : decode cL_law 1004 = .ok (.iaload, 1) := by decide +kernel
theorem dL_law_1005 : decode cL_law 1005 = .ok (.i2l, 1) := by decide +kernel
theorem dL_law_1006 : decode cL_law 1006 = .ok (.ldiv, 1) := by decide +kernel
theorem dL_law_1007 : decode cL_law 1007 = .ok (.iload 23, 2) := by decide +kernel
theorem dL_law_1009 : decode cL_law 1009 = .ok (.i2l, 1) := by decide +kernel
theorem dL_law_1010 : decode cL_law 1010 = .ok (.invokestatic 102, 3) := by decide +kernel
theorem dL_law_1013 : decode cL_law 1013 = .ok (.aload_n 1, 1) := by decide +kernel
theorem dL_law_1014 : decode cL_law 1014 = .ok (.iconst 4, 1) := by decide +kernel
theorem dL_law_1015 : decode cL_law 1015 = .ok (.iload 18, 2) := by decide +kernel
theorem dL_law_1017 : decode cL_law 1017 = .ok (.iload 19, 2) := by decide +kernel
theorem dL_law_1019 : decode cL_law 1019 = .ok (.iload 23, 2) := by decide +kernel
theorem dL_law_1021 : decode cL_law 1021 = .ok (.invokestatic 122, 3) := by decide +kernel
theorem dL_law_1024 : decode cL_law 1024 = .ok (.iload 21, 2) := by decide +kernel
theorem dL_law_1026 : decode cL_law 1026 = .ok (.ifCond .ne 9, 3) := by decide +kernel
theorem dL_law_1029 : decode cL_law 1029 = .ok (.ldc2_w 59, 3) := by decide +kernel
theorem dL_law_1032 : decode cL_law 1032 = .ok (.goto 21, 3) := by decide +kernel
theorem dL_law_1035 : decode cL_law 1035 = .ok (.iload 24, 2) := by decide +kernel
theorem dL_law_1037 : decode cL_law 1037 = .ok (.ifCond .eq 13, 3) := by decide +kernel
theorem dL_law_1040 : decode cL_law 1040 = .ok (.aload 12, 2) := by decide +kernel
theorem dL_law_1042 : decode cL_law 1042 = .ok (.iconst 2, 1) := by decide +kernel
theorem dL_law_1043 : decode cL_law 1043 = .ok (.iaload, 1) := by decide +kernel
theorem dL_law_1044 : decode cL_law 1044 = .ok (.iconst 1, 1) := by decide +kernel
theorem dL_law_1045 : decode cL_law 1045 = .ok (.isub, 1) := by decide +kernel
theorem dL_law_1046 : decode cL_law 1046 = .ok (.i2l, 1) := by decide +kernel
theorem dL_law_1047 : decode cL_law 1047 = .ok (.goto 6, 3) := by decide +kernel
theorem dL_law_1050 : decode cL_law 1050 = .ok (.ldc2_w 67, 3) := by decide +kernel
theorem dL_law_1053 : decode cL_law 1053 = .ok (.lcmp, 1) := by decide +kernel
theorem dL_law_1054 : decode cL_law 1054 = .ok (.ifCond .ne 7, 3) := by decide +kernel
theorem dL_law_1057 : decode cL_law 1057 = .ok (.iconst 1, 1) := by decide +kernel
theorem dL_law_1058 : decode cL_law 1058 = .ok (.goto 4, 3) := by decide +kernel
theorem dL_law_1061 : decode cL_law 1061 = .ok (.iconst 0, 1) := by decide +kernel
theorem dL_law_1062 : decode cL_law 1062 = .ok (.istore 13, 2) := by decide +kernel
theorem dL_law_1064 : decode cL_law 1064 = .ok (.goto 1082, 3) := by decide +kernel
theorem dL_law_1067 : decode cL_law 1067 = .ok (.iload 15, 2) := by decide +kernel
theorem dL_law_1069 : decode cL_law 1069 = .ok (.bipush 20, 2) := by decide +kernel
theorem dL_law_1071 : decode cL_law 1071 = .ok (.if_icmp .ge 227, 3) := by decide +kernel
theorem dL_law_1074 : decode cL_law 1074 = .ok (.aload 12, 2) := by decide +kernel
theorem dL_law_1076 : decode cL_law 1076 = .ok (.iconst 2, 1) := by decide +kernel
theorem dL_law_1077 : decode cL_law 1077 = .ok (.iaload, 1) := by decide +kernel
theorem dL_law_1078 : decode cL_law 1078 = .ok (.bipush 18, 2) := by decide +kernel
theorem dL_law_1080 : decode cL_law 1080 = .ok (.if_icmp .ge 218, 3) := by decide +kernel
theorem dL_law_1083 : decode cL_law 1083 = .ok (.iload 21, 2) := by decide +kernel
theorem dL_law_1085 : decode cL_law 1085 = .ok (.ifCond .eq 17, 3) := by decide +kernel
theorem dL_law_1088 : decode cL_law 1088 = .ok (.aload 4, 2) := by decide +kernel
theorem dL_law_1090 : decode cL_law 1090 = .ok (.bipush 6, 2) := by decide +kernel
theorem dL_law_1092 : decode cL_law 1092 = .ok (.iload 18, 2) := by decide +kernel
theorem dL_law_1094 : decode cL_law 1094 = .ok (.imul, 1) := by decide +kernel
theorem dL_law_1095 : decode cL_law 1095 = .ok (.iload 19, 2) := by decide +kernel
theorem dL_law_1097 : decode cL_law 1097 = .ok (.iadd, 1) := by decide +kernel
theorem dL_law_1098 : decode cL_law 1098 = .ok (.laload, 1) := by decide +kernel
theorem dL_law_1099 : decode cL_law 1099 = .ok (.goto 4, 3) := by decide +kernel
theorem dL_law_1102 : decode cL_law 1102 = .ok (.lconst 0, 1) := by decide +kernel
theorem dL_law_1103 : decode cL_law 1103 = .ok (.lstore 23, 2) := by decide +kernel
theorem dL_law_1105 : decode cL_law 1105 = .ok (.iload 17, 2) := by decide +kernel
theorem dL_law_1107 : decode cL_law 1107 = .ok (.bipush 7, 2) := by decide +kernel
theorem dL_law_1109 : decode cL_law 1109 = .ok (.idiv, 1) := by decide +kernel
theorem dL_law_1110 : decode cL_law 1110 = .ok (.iconst 3, 1) := by decide +kernel
theorem dL_law_1111 : decode cL_law 1111 = .ok (.irem, 1) := by decide +kernel
theorem dL_law_1112 : decode cL_law 1112 = .ok (.ifCond .ne 10, 3) := by decide +kernel
theorem dL_law_1115 : decode cL_law 1115 = .ok (.iconst 1, 1) := by decide +kernel
theorem dL_law_1116 : decode cL_law 1116 = .ok (.iload 17, 2) := by decide +kernel
theorem dL_law_1118 : decode cL_law 1118 = .ok (.iadd, 1) := by decide +kernel
theorem dL_law_1119 : decode cL_law 1119 = .ok (.goto 41, 3) := by decide +kernel
theorem dL_law_1122 : decode cL_law 1122 = .ok (.lload 23, 2) := by decide +kernel
theorem dL_law_1124 : decode cL_law 1124 = .ok (.lconst 0, 1) := by decide +kernel
theorem dL_law_1125 : decode cL_law 1125 = .ok (.lcmp, 1) := by decide +kernel
theorem dL_law_1126 : decode cL_law 1126 = .ok (.ifCond .le 32, 3) := by decide +kernel
theorem dL_law_1129 : decode cL_law 1129 = .ok (.lload 23, 2) := by decide +kernel
theorem dL_law_1131 : decode cL_law 1131 = .ok (.ldc2_w 133, 3) := by decide +kernel
theorem dL_law_1134 : decode cL_law 1134 = .ok (.lcmp, 1) := by decide +kernel
theorem dL_law_1135 : decode cL_law 1135 = .ok (.ifCond .ge 23, 3) := by decide +kernel
theorem dL_law_1138 : decode cL_law 1138 = .ok (.iconst 1, 1) := by decide +kernel
theorem dL_law_1139 : decode cL_law 1139 = .ok (.iload 17, 2) := by decide +kernel
theorem dL_law_1141 : decode cL_law 1141 = .ok (.i2l, 1) := by decide +kernel
theorem dL_law_1142 : decode cL_law 1142 = .ok (.ldc2_w 135, 3) := by decide +kernel
theorem dL_law_1145 : decode cL_law 1145 = .ok (.lmul, 1) := by decide +kernel
theorem dL_law_1146 : decode cL_law 1146 = .ok (.iload 16, 2) := by decide +kernel
theorem dL_law_1148 : decode cL_law 1148 = .ok (.i2l, 1) := by decide +kernel
theorem dL_law_1149 : decode cL_law 1149 = .ok (.ladd, 1) := by decide +kernel
theorem dL_law_1150 : decode cL_law 1150 = .ok (.lload 23, 2) := by decide +kernel
theorem dL_law_1152 : decode cL_law 1152 = .ok (.lrem, 1) := by decide +kernel
theorem dL_law_1153 : decode cL_law 1153 = .ok (.l2i, 1) := by decide +kernel
theorem dL_law_1154 : decode cL_law 1154 = .ok (.iadd, 1) := by decide +kernel
theorem dL_law_1155 : decode cL_law 1155 = .ok (.goto 5, 3) := by decide +kernel
theorem dL_law_1158 : decode cL_law 1158 = .ok (.ldc 137, 2) := by decide +kernel
theorem dL_law_1160 : decode cL_law 1160 = .ok (.istore 25, 2) := by decide +kernel
theorem dL_law_1162 : decode cL_law 1162 = .ok (.iload 25, 2) := by decide +kernel
theorem dL_law_1164 : decode cL_law 1164 = .ok (.i2l, 1) := by decide +kernel
theorem dL_law_1165 : decode cL_law 1165 = .ok (.aload_n 2, 1) := by decide +kernel
theorem dL_law_1166 : decode cL_law 1166 = .ok (.iload 22, 2) := by decide +kernel
theorem dL_law_1168 : decode cL_law 1168 = .ok (.iaload, 1) := by decide +kernel
theorem dL_law_1169 : decode cL_law 1169 = .ok (.i2l, 1) := by decide +kernel
theorem dL_law_1170 : decode cL_law 1170 = .ok (.lmul, 1) := by decide +kernel
theorem dL_law_1171 : decode cL_law 1171 = .ok (.ldc2_w 81, 3) := by decide +kernel
theorem dL_law_1174 : decode cL_law 1174 = .ok (.ldiv, 1) := by decide +kernel
theorem dL_law_1175 : decode cL_law 1175 = .ok (.lstore 26, 2) := by decide +kernel
theorem dL_law_1177 : decode cL_law 1177 = .ok (.iload 21, 2) := by decide +kernel
theorem dL_law_1179 : decode cL_law 1179 = .ok (.ifCond .eq 32, 3) := by decide +kernel
theorem dL_law_1182 : decode cL_law 1182 = .ok (.lload 23, 2) := by decide +kernel
theorem dL_law_1184 : decode cL_law 1184 = .ok (.iload 25, 2) := by decide +kernel
theorem dL_law_1186 : decode cL_law 1186 = .ok (.i2l, 1) := by decide +kernel
theorem dL_law_1187 : decode cL_law 1187 = .ok (.lcmp, 1) := by decide +kernel
theorem dL_law_1188 : decode cL_law 1188 = .ok (.ifCond .lt 23, 3) := by decide +kernel
theorem dL_law_1191 : decode cL_law 1191 = .ok (.lload 26, 2) := by decide +kernel
theorem dL_law_1193 : decode cL_law 1193 = .ok (.lconst 0, 1) := by decide +kernel
theorem dL_law_1194 : decode cL_law 1194 = .ok (.lcmp, 1) := by decide +kernel
theorem dL_law_1195 : decode cL_law 1195 = .ok (.ifCond .le 16, 3) := by decide +kernel
theorem dL_law_1198 : decode cL_law 1198 = .ok (.lload 26, 2) := by decide +kernel
theorem dL_law_1200 : decode cL_law 1200 = .ok (.ldc2_w 133, 3) := by decide +kernel
theorem dL_law_1203 : decode cL_law 1203 = .ok (.lcmp, 1) := by decide +kernel
theorem dL_law_1204 : decode cL_law 1204 = .ok (.ifCond .gt 7, 3) := by decide +kernel
theorem dL_law_1207 : decode cL_law 1207 = .ok (.iconst 1, 1) := by decide +kernel
theorem dL_law_1208 : decode cL_law 1208 = .ok (.goto 4, 3) := by decide +kernel
theorem dL_law_1211 : decode cL_law 1211 = .ok (.iconst 0, 1) := by decide +kernel
theorem dL_law_1212 : decode cL_law 1212 = .ok (.istore 28, 2) := by decide +kernel
theorem dL_law_1214 : decode cL_law 1214 = .ok (.iload 28, 2) := by decide +kernel
theorem dL_law_1216 : decode cL_law 1216 = .ok (.ifCond .eq 28, 3) := by decide +kernel
theorem dL_law_1219 : decode cL_law 1219 = .ok (.aload_n 2, 1) := by decide +kernel
theorem dL_law_1220 : decode cL_law 1220 = .ok (.aload_n 3, 1) := by decide +kernel
theorem dL_law_1221 : decode cL_law 1221 = .ok (.aload 4, 2) := by decide +kernel
theorem dL_law_1223 : decode cL_law 1223 = .ok (.aload 6, 2) := by decide +kernel
theorem dL_law_1225 : decode cL_law 1225 = .ok (.aload 7, 2) := by decide +kernel
theorem dL_law_1227 : decode cL_law 1227 = .ok (.aload 8, 2) := by decide +kernel
theorem dL_law_1229 : decode cL_law 1229 = .ok (.aload 12, 2) := by decide +kernel
theorem dL_law_1231 : decode cL_law 1231 = .ok (.iload 18, 2) := by decide +kernel
theorem dL_law_1233 : decode cL_law 1233 = .ok (.iload 19, 2) := by decide +kernel
theorem dL_law_1235 : decode cL_law 1235 = .ok (.iload 25, 2) := by decide +kernel
theorem dL_law_1237 : decode cL_law 1237 = .ok (.ineg, 1) := by decide +kernel
theorem dL_law_1238 : decode cL_law 1238 = .ok (.i2l, 1) := by decide +kernel
theorem dL_law_1239 : decode cL_law 1239 = .ok (.lload 26, 2) := by decide +kernel
theorem dL_law_1241 : decode cL_law 1241 = .ok (.invokestatic 102, 3) := by decide +kernel
theorem dL_law_1244 : decode cL_law 1244 = .ok (.aload_n 1, 1) := by decide +kernel
theorem dL_law_1245 : decode cL_law 1245 = .ok (.iconst 5, 1) := by decide +kernel
theorem dL_law_1246 : decode cL_law 1246 = .ok (.iload 18, 2) := by decide +kernel
theorem dL_law_1248 : decode cL_law 1248 = .ok (.iload 19, 2) := by decide +kernel
theorem dL_law_1250 : decode cL_law 1250 = .ok (.iload 25, 2) := by decide +kernel
theorem dL_law_1252 : decode cL_law 1252 = .ok (.invokestatic 122, 3) := by decide +kernel
theorem dL_law_1255 : decode cL_law 1255 = .ok (.iload 21, 2) := by decide +kernel
theorem dL_law_1257 : decode cL_law 1257 = .ok (.ifCond .ne 9, 3) := by decide +kernel
theorem dL_law_1260 : decode cL_law 1260 = .ok (.ldc2_w 59, 3) := by decide +kernel
theorem dL_law_1263 : decode cL_law 1263 = .ok (.goto 21, 3) := by decide +kernel
theorem dL_law_1266 : decode cL_law 1266 = .ok (.iload 28, 2) := by decide +kernel
theorem dL_law_1268 : decode cL_law 1268 = .ok (.ifCond .eq 13, 3) := by decide +kernel
theorem dL_law_1271 : decode cL_law 1271 = .ok (.aload 12, 2) := by decide +kernel
theorem dL_law_1273 : decode cL_law 1273 = .ok (.iconst 2, 1) := by decide +kernel
theorem dL_law_1274 : decode cL_law 1274 = .ok (.iaload, 1) := by decide +kernel
theorem dL_law_1275 : decode cL_law 1275 = .ok (.iconst 1, 1) := by decide +kernel
theorem dL_law_1276 : decode cL_law 1276 = .ok (.isub, 1) := by decide +kernel
theorem dL_law_1277 : decode cL_law 1277 = .ok (.i2l, 1) := by decide +kernel
theorem dL_law_1278 : decode cL_law 1278 = .ok (.goto 6, 3) := by decide +kernel
theorem dL_law_1281 : decode cL_law 1281 = .ok (.ldc2_w 67, 3) := by decide +kernel
theorem dL_law_1284 : decode cL_law 1284 = .ok (.lcmp, 1) := by decide +kernel
theorem dL_law_1285 : decode cL_law 1285 = .ok (.ifCond .ne 7, 3) := by decide +kernel
theorem dL_law_1288 : decode cL_law 1288 = .ok (.iconst 1, 1) := by decide +kernel
theorem dL_law_1289 : decode cL_law 1289 = .ok (.goto 4, 3) := by decide +kernel
theorem dL_law_1292 : decode cL_law 1292 = .ok (.iconst 0, 1) := by decide +kernel
theorem dL_law_1293 : decode cL_law 1293 = .ok (.istore 13, 2) := by decide +kernel
theorem dL_law_1295 : decode cL_law 1295 = .ok (.goto 851, 3) := by decide +kernel
theorem dL_law_1298 : decode cL_law 1298 = .ok (.iload 15, 2) := by decide +kernel
theorem dL_law_1300 : decode cL_law 1300 = .ok (.bipush 23, 2) := by decide +kernel
theorem dL_law_1302 : decode cL_law 1302 = .ok (.if_icmp .ge 130, 3) := by decide +kernel
theorem dL_law_1305 : decode cL_law 1305 = .ok (.aload 12, 2) := by decide +kernel
theorem dL_law_1307 : decode cL_law 1307 = .ok (.iconst 2, 1) := by decide +kernel
theorem dL_law_1308 : decode cL_law 1308 = .ok (.iaload, 1) := by decide +kernel
theorem dL_law_1309 : decode cL_law 1309 = .ok (.bipush 18, 2) := by decide +kernel
theorem dL_law_1311 : decode cL_law 1311 = .ok (.if_icmp .ge 121, 3) := by decide +kernel
theorem dL_law_1314 : decode cL_law 1314 = .ok (.iload 20, 2) := by decide +kernel
theorem dL_law_1316 : decode cL_law 1316 = .ok (.ifCond .eq 15, 3) := by decide +kernel
theorem dL_law_1319 : decode cL_law 1319 = .ok (.aload_n 2, 1) := by decide +kernel
theorem dL_law_1320 : decode cL_law 1320 = .ok (.aload_n 3, 1) := by decide +kernel
theorem dL_law_1321 : decode cL_law 1321 = .ok (.aload 4, 2) := by decide +kernel
theorem dL_law_1323 : decode cL_law 1323 = .ok (.iload 18, 2) := by decide +kernel
theorem dL_law_1325 : decode cL_law 1325 = .ok (.invokestatic 98, 3) := by decide +kernel
theorem dL_law_1328 : decode cL_law 1328 = .ok (.goto 4, 3) := by decide +kernel
theorem dL_law_1331 : decode cL_law 1331 = .ok (.lconst 0, 1) := by decide +kernel
theorem dL_law_1332 : decode cL_law 1332 = .ok (.lstore 23, 2) := by decide +kernel
theorem dL_law_1334 : decode cL_law 1334 = .ok (.iload 20, 2) := by decide +kernel
theorem dL_law_1336 : decode cL_law 1336 = .ok (.ifCond .eq 23, 3) := by decide +kernel
theorem dL_law_1339 : decode cL_law 1339 = .ok (.lload 23, 2) := by decide +kernel
theorem dL_law_1341 : decode cL_law 1341 = .ok (.lconst 0, 1) := by decide +kernel
theorem dL_law_1342 : decode cL_law 1342 = .ok (.lcmp, 1) := by decide +kernel
theorem dL_law_1343 : decode cL_law 1343 = .ok (.ifCond .lt 16, 3) := by decide +kernel
theorem dL_law_1346 : decode cL_law 1346 = .ok (.lload 23, 2) := by decide +kernel
theorem dL_law_1348 : decode cL_law 1348 = .ok (.ldc2_w 138, 3) := by decide +kernel
theorem dL_law_1351 : decode cL_law 1351 = .ok (.lcmp, 1) := by decide +kernel
theorem dL_law_1352 : decode cL_law 1352 = .ok (.ifCond .gt 7, 3) := by decide +kernel
theorem dL_law_1355 : decode cL_law 1355 = .ok (.iconst 1, 1) := by decide +kernel
theorem dL_law_1356 : decode cL_law 1356 = .ok (.goto 4, 3) := by decide +kernel
theorem dL_law_1359 : decode cL_law 1359 = .ok (.iconst 0, 1) := by decide +kernel
theorem dL_law_1360 : decode cL_law 1360 = .ok (.istore 25, 2) := by decide +kernel
theorem dL_law_1362 : decode cL_law 1362 = .ok (.aload_n 1, 1) := by decide +kernel
theorem dL_law_1363 : decode cL_law 1363 = .ok (.bipush 6, 2) := by decide +kernel
theorem dL_law_1365 : decode cL_law 1365 = .ok (.iload 18, 2) := by decide +kernel
theorem dL_law_1367 : decode cL_law 1367 = .ok (.iconst 0, 1) := by decide +kernel
theorem dL_law_1368 : decode cL_law 1368 = .ok (.iconst 0, 1) := by decide +kernel
theorem dL_law_1369 : decode cL_law 1369 = .ok (.invokestatic 122, 3) := by decide +kernel
theorem dL_law_1372 : decode cL_law 1372 = .ok (.lstore 26, 2) := by decide +kernel
theorem dL_law_1374 : decode cL_law 1374 = .ok (.lload 26, 2) := by decide +kernel
theorem dL_law_1376 : decode cL_law 1376 = .ok (.iload 20, 2) := by decide +kernel
theorem dL_law_1378 : decode cL_law 1378 = .ok (.ifCond .ne 9, 3) := by decide +kernel
theorem dL_law_1381 : decode cL_law 1381 = .ok (.ldc2_w 59, 3) := by decide +kernel
theorem dL_law_1384 : decode cL_law 1384 = .ok (.goto 34, 3) := by decide +kernel
theorem dL_law_1387 : decode cL_law 1387 = .ok (.iload 25, 2) := by decide +kernel
theorem dL_law_1389 : decode cL_law 1389 = .ok (.ifCond .eq 26, 3) := by decide +kernel
theorem dL_law_1392 : decode cL_law 1392 = .ok (.aload_n 2, 1) := by decide +kernel
theorem dL_law_1393 : decode cL_law 1393 = .ok (.aload_n 3, 1) := by decide +kernel
theorem dL_law_1394 : decode cL_law 1394 = .ok (.aload 4, 2) := by decide +kernel
theorem dL_law_1396 : decode cL_law 1396 = .ok (.aload 5, 2) := by decide +kernel
theorem dL_law_1398 : decode cL_law 1398 = .ok (.aload 6, 2) := by decide +kernel
theorem dL_law_1400 : decode cL_law 1400 = .ok (.aload 7, 2) := by decide +kernel
theorem dL_law_1402 : decode cL_law 1402 = .ok (.aload 8, 2) := by decide +kernel
theorem dL_law_1404 : decode cL_law 1404 = .ok (.aload 12, 2) := by decide +kernel
theorem dL_law_1406 : decode cL_law 1406 = .ok (.iload 18, 2) := by decide +kernel
theorem dL_law_1408 : decode cL_law 1408 = .ok (.invokestatic 140, 3) := by decide +kernel
theorem dL_law_1411 : decode cL_law 1411 = .ok (.i2l, 1) := by decide +kernel
theorem dL_law_1412 : decode cL_law 1412 = .ok (.goto 6, 3) := by decide +kernel
theorem dL_law_1415 : decode cL_law 1415 = .ok (.ldc2_w 67, 3) := by decide +kernel
theorem dL_law_1418 : decode cL_law 1418 = .ok (.lcmp, 1) := by decide +kernel
theorem dL_law_1419 : decode cL_law 1419 = .ok (.ifCond .ne 7, 3) := by decide +kernel
theorem dL_law_1422 : decode cL_law 1422 = .ok (.iconst 1, 1) := by decide +kernel
theorem dL_law_1423 : decode cL_law 1423 = .ok (.goto 4, 3) := by decide +kernel
theorem dL_law_1426 : decode cL_law 1426 = .ok (.iconst 0, 1) := by decide +kernel
theorem dL_law_1427 : decode cL_law 1427 = .ok (.istore 13, 2) := by decide +kernel
theorem dL_law_1429 : decode cL_law 1429 = .ok (.goto 717, 3) := by decide +kernel
theorem dL_law_1432 : decode cL_law 1432 = .ok (.iload 15, 2) := by decide +kernel
theorem dL_law_1434 : decode cL_law 1434 = .ok (.bipush 26, 2) := by decide +kernel
theorem dL_law_1436 : decode cL_law 1436 = .ok (.if_icmp .ge 387, 3) := by decide +kernel
theorem dL_law_1439 : decode cL_law 1439 = .ok (.iload 16, 2) := by decide +kernel
theorem dL_law_1441 : decode cL_law 1441 = .ok (.aload 12, 2) := by decide +kernel
theorem dL_law_1443 : decode cL_law 1443 = .ok (.iconst 2, 1) := by decide +kernel
theorem dL_law_1444 : decode cL_law 1444 = .ok (.iaload, 1) := by decide +kernel
theorem dL_law_1445 : decode cL_law 1445 = .ok (.iconst 1, 1) := by decide +kernel
theorem dL_law_1446 : decode cL_law 1446 = .ok (.iadd, 1) := by decide +kernel
theorem dL_law_1447 : decode cL_law 1447 = .ok (.irem, 1) := by decide +kernel
theorem dL_law_1448 : decode cL_law 1448 = .ok (.istore 23, 2) := by decide +kernel
theorem dL_law_1450 : decode cL_law 1450 = .ok (.iload 23, 2) := by decide +kernel
theorem dL_law_1452 : decode cL_law 1452 = .ok (.aload 12, 2) := by decide +kernel
theorem dL_law_1454 : decode cL_law 1454 = .ok (.iconst 2, 1) := by decide +kernel
theorem dL_law_1455 : decode cL_law 1455 = .ok (.iaload, 1) := by decide +kernel
theorem dL_law_1456 : decode cL_law 1456 = .ok (.if_icmp .ge 30, 3) := by decide +kernel
theorem dL_law_1459 : decode cL_law 1459 = .ok (.aload 6, 2) := by decide +kernel
theorem dL_law_1461 : decode cL_law 1461 = .ok (.iload 23, 2) := by decide +kernel
theorem dL_law_1463 : decode cL_law 1463 = .ok (.aload 12, 2) := by decide +kernel
theorem dL_law_1465 : decode cL_law 1465 = .ok (.iconst 2, 1) := by decide +kernel
theorem dL_law_1466 : decode cL_law 1466 = .ok (.iaload, 1) := by decide +kernel
theorem dL_law_1467 : decode cL_law 1467 = .ok (.if_icmp .ge 8, 3) := by decide +kernel
theorem dL_law_1470 : decode cL_law 1470 = .ok (.iload 23, 2) := by decide +kernel
theorem dL_law_1472 : decode cL_law 1472 = .ok (.goto 4, 3) := by decide +kernel
theorem dL_law_1475 : decode cL_law 1475 = .ok (.iconst 0, 1) := by decide +kernel
theorem dL_law_1476 : decode cL_law 1476 = .ok (.iaload, 1) := by decide +kernel
theorem dL_law_1477 : decode cL_law 1477 = .ok (.ldc 93, 2) := by decide +kernel
theorem dL_law_1479 : decode cL_law 1479 = .ok (.if_icmp .ge 7, 3) := by decide +kernel
theorem dL_law_1482 : decode cL_law 1482 = .ok (.iconst 1, 1) := by decide +kernel
theorem dL_law_1483 : decode cL_law 1483 = .ok (.goto 4, 3) := by decide +kernel
theorem dL_law_1486 : decode cL_law 1486 = .ok (.iconst 0, 1) := by decide +kernel
theorem dL_law_1487 : decode cL_law 1487 = .ok (.istore 24, 2) := by decide +kernel
theorem dL_law_1489 : decode cL_law 1489 = .ok (.iload 24, 2) := by decide +kernel
theorem dL_law_1491 : decode cL_law 1491 = .ok (.ifCond .eq 13, 3) := by decide +kernel
theorem dL_law_1494 : decode cL_law 1494 = .ok (.aload 6, 2) := by decide +kernel
theorem dL_law_1496 : decode cL_law 1496 = .ok (.iload 23, 2) := by decide +kernel
theorem dL_law_1498 : decode cL_law 1498 = .ok (.iaload, 1) := by decide +kernel
theorem dL_law_1499 : decode cL_law 1499 = .ok (.iconst 4, 1) := by decide +kernel
theorem dL_law_1500 : decode cL_law 1500 = .ok (.irem, 1) := by decide +kernel
theorem dL_law_1501 : decode cL_law 1501 = .ok (.goto 4, 3) := by decide +kernel
theorem dL_law_1504 : decode cL_law 1504 = .ok (.iconst 0, 1) := by decide +kernel
theorem dL_law_1505 : decode cL_law 1505 = .ok (.istore 25, 2) := by decide +kernel
theorem dL_law_1507 : decode cL_law 1507 = .ok (.lconst 0, 1) := by decide +kernel
theorem dL_law_1508 : decode cL_law 1508 = .ok (.lstore 26, 2) := by decide +kernel
theorem dL_law_1510 : decode cL_law 1510 = .ok (.iload 24, 2) := by decide +kernel
theorem dL_law_1512 : decode cL_law 1512 = .ok (.istore 28, 2) := by decide +kernel
theorem dL_law_1514 : decode cL_law 1514 = .ok (.iload 24, 2) := by decide +kernel
theorem dL_law_1516 : decode cL_law 1516 = .ok (.ifCond .eq 255, 3) := by decide +kernel
theorem dL_law_1519 : decode cL_law 1519 = .ok (.aload 6, 2) := by decide +kernel
theorem dL_law_1521 : decode cL_law 1521 = .ok (.iload 23, 2) := by decide +kernel
theorem dL_law_1523 : decode cL_law 1523 = .ok (.iaload, 1) := by decide +kernel
theorem dL_law_1524 : decode cL_law 1524 = .ok (.iconst 4, 1) := by decide +kernel
theorem dL_law_1525 : decode cL_law 1525 = .ok (.idiv, 1) := by decide +kernel
theorem dL_law_1526 : decode cL_law 1526 = .ok (.bipush 8, 2) := by decide +kernel
theorem dL_law_1528 : decode cL_law 1528 = .ok (.irem, 1) := by decide +kernel
theorem dL_law_1529 : decode cL_law 1529 = .ok (.istore 29, 2) := by decide +kernel
theorem dL_law_1531 : decode cL_law 1531 = .ok (.aload 6, 2) := by decide +kernel
theorem dL_law_1533 : decode cL_law 1533 = .ok (.iload 23, 2) := by decide +kernel
theorem dL_law_1535 : decode cL_law 1535 = .ok (.dup2, 1) := by decide +kernel
