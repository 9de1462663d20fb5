theorem dX5_init_0 : decode cX5_init 0 = .ok (.aload_n 0, 1) := by decide +kernel
theorem dX5_init_1 : decode cX5_init 1 = .ok (.invokespecial 1, 3) := by decide +kernel
theorem dX5_init_4 : decode cX5_init 4 = .ok (.aload_n 0, 1) := by decide +kernel
theorem dX5_init_5 : decode cX5_init 5 = .ok (.bipush 6, 2) := by decide +kernel
theorem dX5_init_7 : decode cX5_init 7 = .ok (.newarray .int, 2) := by decide +kernel
theorem dX5_init_9 : decode cX5_init 9 = .ok (.putfield 7, 3) := by decide +kernel
theorem dX5_init_12 : decode cX5_init 12 = .ok (.aload_n 0, 1) := by decide +kernel
theorem dX5_init_13 : decode cX5_init 13 = .ok (.bipush 6, 2) := by decide +kernel
theorem dX5_init_15 : decode cX5_init 15 = .ok (.newarray .long, 2) := by decide +kernel
theorem dX5_init_17 : decode cX5_init 17 = .ok (.putfield 13, 3) := by decide +kernel
theorem dX5_init_20 : decode cX5_init 20 = .ok (.aload_n 0, 1) := by decide +kernel
theorem dX5_init_21 : decode cX5_init 21 = .ok (.bipush 6, 2) := by decide +kernel
theorem dX5_init_23 : decode cX5_init 23 = .ok (.newarray .long, 2) := by decide +kernel
theorem dX5_init_25 : decode cX5_init 25 = .ok (.putfield 17, 3) := by decide +kernel
theorem dX5_init_28 : decode cX5_init 28 = .ok (.aload_n 0, 1) := by decide +kernel
theorem dX5_init_29 : decode cX5_init 29 = .ok (.bipush 12, 2) := by decide +kernel
theorem dX5_init_31 : decode cX5_init 31 = .ok (.newarray .long, 2) := by decide +kernel
theorem dX5_init_33 : decode cX5_init 33 = .ok (.putfield 20, 3) := by decide +kernel
theorem dX5_init_36 : decode cX5_init 36 = .ok (.aload_n 0, 1) := by decide +kernel
theorem dX5_init_37 : decode cX5_init 37 = .ok (.bipush 72, 2) := by decide +kernel
theorem dX5_init_39 : decode cX5_init 39 = .ok (.newarray .int, 2) := by decide +kernel
theorem dX5_init_41 : decode cX5_init 41 = .ok (.putfield 23, 3) := by decide +kernel
theorem dX5_init_44 : decode cX5_init 44 = .ok (.aload_n 0, 1) := by decide +kernel
theorem dX5_init_45 : decode cX5_init 45 = .ok (.bipush 72, 2) := by decide +kernel
theorem dX5_init_47 : decode cX5_init 47 = .ok (.newarray .long, 2) := by decide +kernel
theorem dX5_init_49 : decode cX5_init 49 = .ok (.putfield 26, 3) := by decide +kernel
theorem dX5_init_52 : decode cX5_init 52 = .ok (.aload_n 0, 1) := by decide +kernel
theorem dX5_init_53 : decode cX5_init 53 = .ok (.sipush 252, 3) := by decide +kernel
theorem dX5_init_56 : decode cX5_init 56 = .ok (.newarray .long, 2) := by decide +kernel
theorem dX5_init_58 : decode cX5_init 58 = .ok (.putfield 29, 3) := by decide +kernel
theorem dX5_init_61 : decode cX5_init 61 = .ok (.aload_n 0, 1) := by decide +kernel
theorem dX5_init_62 : decode cX5_init 62 = .ok (.bipush 120, 2) := by decide +kernel
theorem dX5_init_64 : decode cX5_init 64 = .ok (.newarray .int, 2) := by decide +kernel
theorem dX5_init_66 : decode cX5_init 66 = .ok (.putfield 32, 3) := by decide +kernel
theorem dX5_init_69 : decode cX5_init 69 = .ok (.aload_n 0, 1) := by decide +kernel
theorem dX5_init_70 : decode cX5_init 70 = .ok (.bipush 120, 2) := by decide +kernel
theorem dX5_init_72 : decode cX5_init 72 = .ok (.newarray .int, 2) := by decide +kernel
theorem dX5_init_74 : decode cX5_init 74 = .ok (.putfield 35, 3) := by decide +kernel
theorem dX5_init_77 : decode cX5_init 77 = .ok (.aload_n 0, 1) := by decide +kernel
theorem dX5_init_78 : decode cX5_init 78 = .ok (.bipush 120, 2) := by decide +kernel
theorem dX5_init_80 : decode cX5_init 80 = .ok (.newarray .long, 2) := by decide +kernel
theorem dX5_init_82 : decode cX5_init 82 = .ok (.putfield 38, 3) := by decide +kernel
theorem dX5_init_85 : decode cX5_init 85 = .ok (.aload_n 0, 1) := by decide +kernel
theorem dX5_init_86 : decode cX5_init 86 = .ok (.bipush 120, 2) := by decide +kernel
theorem dX5_init_88 : decode cX5_init 88 = .ok (.newarray .long, 2) := by decide +kernel
theorem dX5_init_90 : decode cX5_init 90 = .ok (.putfield 41, 3) := by decide +kernel
theorem dX5_init_93 : decode cX5_init 93 = .ok (.aload_n 0, 1) := by decide +kernel
theorem dX5_init_94 : decode cX5_init 94 = .ok (.bipush 120, 2) := by decide +kernel
theorem dX5_init_96 : decode cX5_init 96 = .ok (.newarray .long, 2) := by decide +kernel
theorem dX5_init_98 : decode cX5_init 98 = .ok (.putfield 44, 3) := by decide +kernel
theorem dX5_init_101 : decode cX5_init 101 = .ok (.aload_n 0, 1) := by decide +kernel
theorem dX5_init_102 : decode cX5_init 102 = .ok (.bipush 120, 2) := by decide +kernel
theorem dX5_init_104 : decode cX5_init 104 = .ok (.newarray .int, 2) := by decide +kernel
theorem dX5_init_106 : decode cX5_init 106 = .ok (.putfield 47, 3) := by decide +kernel
theorem dX5_init_109 : decode cX5_init 109 = .ok (.aload_n 0, 1) := by decide +kernel
theorem dX5_init_110 : decode cX5_init 110 = .ok (.bipush 120, 2) := by decide +kernel
theorem dX5_init_112 : decode cX5_init 112 = .ok (.newarray .boolean, 2) := by decide +kernel
theorem dX5_init_114 : decode cX5_init 114 = .ok (.putfield 50, 3) := by decide +kernel
theorem dX5_init_117 : decode cX5_init 117 = .ok (.aload_n 0, 1) := by decide +kernel
theorem dX5_init_118 : decode cX5_init 118 = .ok (.bipush 120, 2) := by decide +kernel
theorem dX5_init_120 : decode cX5_init 120 = .ok (.newarray .int, 2) := by decide +kernel
theorem dX5_init_122 : decode cX5_init 122 = .ok (.putfield 54, 3) := by decide +kernel
theorem dX5_init_125 : decode cX5_init 125 = .ok (.aload_n 0, 1) := by decide +kernel
theorem dX5_init_126 : decode cX5_init 126 = .ok (.bipush 120, 2) := by decide +kernel
theorem dX5_init_128 : decode cX5_init 128 = .ok (.newarray .long, 2) := by decide +kernel
theorem dX5_init_130 : decode cX5_init 130 = .ok (.putfield 57, 3) := by decide +kernel
theorem dX5_init_133 : decode cX5_init 133 = .ok (.aload_n 0, 1) := by decide +kernel
theorem dX5_init_134 : decode cX5_init 134 = .ok (.bipush 120, 2) := by decide +kernel
theorem dX5_init_136 : decode cX5_init 136 = .ok (.newarray .long, 2) := by decide +kernel
theorem dX5_init_138 : decode cX5_init 138 = .ok (.putfield 60, 3) := by decide +kernel
theorem dX5_init_141 : decode cX5_init 141 = .ok (.aload_n 0, 1) := by decide +kernel
theorem dX5_init_142 : decode cX5_init 142 = .ok (.bipush 21, 2) := by decide +kernel
theorem dX5_init_144 : decode cX5_init 144 = .ok (.newarray .long, 2) := by decide +kernel
theorem dX5_init_146 : decode cX5_init 146 = .ok (.putfield 63, 3) := by decide +kernel
theorem dX5_init_149 : decode cX5_init 149 = .ok (.aload_n 0, 1) := by decide +kernel
theorem dX5_init_150 : decode cX5_init 150 = .ok (.bipush 21, 2) := by decide +kernel
theorem dX5_init_152 : decode cX5_init 152 = .ok (.newarray .long, 2) := by decide +kernel
theorem dX5_init_154 : decode cX5_init 154 = .ok (.putfield 66, 3) := by decide +kernel
theorem dX5_init_157 : decode cX5_init 157 = .ok (.iconst 0, 1) := by decide +kernel
theorem dX5_init_158 : decode cX5_init 158 = .ok (.istore_n 1, 1) := by decide +kernel
theorem dX5_init_159 : decode cX5_init 159 = .ok (.iload_n 1, 1) := by decide +kernel
theorem dX5_init_160 : decode cX5_init 160 = .ok (.bipush 6, 2) := by decide +kernel
theorem dX5_init_162 : decode cX5_init 162 = .ok (.if_icmp .ge 18, 3) := by decide +kernel
theorem dX5_init_165 : decode cX5_init 165 = .ok (.aload_n 0, 1) := by decide +kernel
theorem dX5_init_166 : decode cX5_init 166 = .ok (.getfield 7, 3) := by decide +kernel
theorem dX5_init_169 : decode cX5_init 169 = .ok (.iload_n 1, 1) := by decide +kernel
theorem dX5_init_170 : decode cX5_init 170 = .ok (.sipush 10000, 3) := by decide +kernel
theorem dX5_init_173 : decode cX5_init 173 = .ok (.iastore, 1) := by decide +kernel
theorem dX5_init_174 : decode cX5_init 174 = .ok (.iinc 1 1, 3) := by decide +kernel
theorem dX5_init_177 : decode cX5_init 177 = .ok (.goto (-18), 3) := by decide +kernel
theorem dX5_init_180 : decode cX5_init 180 = .ok (.return_, 1) := by decide +kernel
theorem dX5_thrown_0 : decode cX5_thrown 0 = .ok (.aload_n 0, 1) := by decide +kernel
theorem dX5_thrown_1 : decode cX5_thrown 1 = .ok (.getfield 69, 3) := by decide +kernel
theorem dX5_thrown_4 : decode cX5_thrown 4 = .ok (.ireturn, 1) := by decide +kernel
theorem dX5_fails_0 : decode cX5_fails 0 = .ok (.aload_n 0, 1) := by decide +kernel
theorem dX5_fails_1 : decode cX5_fails 1 = .ok (.iload_n 1, 1) := by decide +kernel
theorem dX5_fails_2 : decode cX5_fails 2 = .ok (.putfield 69, 3) := by decide +kernel
theorem dX5_fails_5 : decode cX5_fails 5 = .ok (.iload_n 1, 1) := by decide +kernel
theorem dX5_fails_6 : decode cX5_fails 6 = .ok (.ifCond .le 7, 3) := by decide +kernel
theorem dX5_fails_9 : decode cX5_fails 9 = .ok (.iconst 1, 1) := by decide +kernel
theorem dX5_fails_10 : decode cX5_fails 10 = .ok (.goto 4, 3) := by decide +kernel
theorem dX5_fails_13 : decode cX5_fails 13 = .ok (.iconst 0, 1) := by decide +kernel
theorem dX5_fails_14 : decode cX5_fails 14 = .ok (.ireturn, 1) := by decide +kernel
theorem dX5_isIn_0 : decode cX5_isIn 0 = .ok (.iload_n 0, 1) := by decide +kernel
theorem dX5_isIn_1 : decode cX5_isIn 1 = .ok (.iload_n 1, 1) := by decide +kernel
theorem dX5_isIn_2 : decode cX5_isIn 2 = .ok (.if_icmp .lt 12, 3) := by decide +kernel
theorem dX5_isIn_5 : decode cX5_isIn 5 = .ok (.iload_n 0, 1) := by decide +kernel
theorem dX5_isIn_6 : decode cX5_isIn 6 = .ok (.iload_n 2, 1) := by decide +kernel
theorem dX5_isIn_7 : decode cX5_isIn 7 = .ok (.if_icmp .gt 7, 3) := by decide +kernel
theorem dX5_isIn_10 : decode cX5_isIn 10 = .ok (.iconst 1, 1) := by decide +kernel
theorem dX5_isIn_11 : decode cX5_isIn 11 = .ok (.goto 4, 3) := by decide +kernel
theorem dX5_isIn_14 : decode cX5_isIn 14 = .ok (.iconst 0, 1) := by decide +kernel
theorem dX5_isIn_15 : decode cX5_isIn 15 = .ok (.ireturn, 1) := by decide +kernel
set_option maxRecDepth 20000 in
theorem ggX5_isFund_X5_isIn : GoodIn wsX5_isFund wsX5_isIn := goodIn_r _ [4] (by decide +kernel) (by decide +kernel)
set_option maxRecDepth 20000 in
theorem gX5_isFund_X5_isIn : GoodIn wsX5_isFund (va_wsS RX5 73 yX5_isIn wsX5_isIn) := goodIn_app (goodIn_of _ (by decide +kernel)) ggX5_isFund_X5_isIn
theorem dX5_isFund_0 : decode cX5_isFund 0 = .ok (.iload_n 0, 1) := by decide +kernel
theorem dX5_isFund_1 : decode cX5_isFund 1 = .ok (.iconst 0, 1) := by decide +kernel
theorem dX5_isFund_2 : decode cX5_isFund 2 = .ok (.iconst 5, 1) := by decide +kernel
theorem dX5_isFund_3 : decode cX5_isFund 3 = .ok (.invokestatic 73, 3) := by decide +kernel
theorem dX5_isFund_6 : decode cX5_isFund 6 = .ok (.ireturn, 1) := by decide +kernel
set_option maxRecDepth 20000 in
theorem ggX5_isClient_X5_isIn : GoodIn wsX5_isClient wsX5_isIn := goodIn_r _ [5] (by decide +kernel) (by decide +kernel)
set_option maxRecDepth 20000 in
theorem gX5_isClient_X5_isIn : GoodIn wsX5_isClient (va_wsS RX5 73 yX5_isIn wsX5_isIn) := goodIn_app (goodIn_of _ (by decide +kernel)) ggX5_isClient_X5_isIn
theorem dX5_isClient_0 : decode cX5_isClient 0 = .ok (.iload_n 1, 1) := by decide +kernel
theorem dX5_isClient_1 : decode cX5_isClient 1 = .ok (.iconst 0, 1) := by decide +kernel
theorem dX5_isClient_2 : decode cX5_isClient 2 = .ok (.aload_n 0, 1) := by decide +kernel
theorem dX5_isClient_3 : decode cX5_isClient 3 = .ok (.getfield 77, 3) := by decide +kernel
theorem dX5_isClient_6 : decode cX5_isClient 6 = .ok (.iconst 1, 1) := by decide +kernel
theorem dX5_isClient_7 : decode cX5_isClient 7 = .ok (.isub, 1) := by decide +kernel
theorem dX5_isClient_8 : decode cX5_isClient 8 = .ok (.invokestatic 73, 3) := by decide +kernel
theorem dX5_isClient_11 : decode cX5_isClient 11 = .ok (.ireturn, 1) := by decide +kernel
set_option maxRecDepth 20000 in
theorem ggX5_price_X5_isFund : GoodIn wsX5_price wsX5_isFund := goodIn_r _ [6, 7, 8, 5, 9] (by decide +kernel) (by decide +kernel)
set_option maxRecDepth 20000 in
theorem gX5_price_X5_isFund : GoodIn wsX5_price (va_wsS RX5 80 yX5_isFund wsX5_isFund) := goodIn_app (goodIn_of _ (by decide +kernel)) ggX5_price_X5_isFund
set_option maxRecDepth 20000 in
theorem ggX5_price_X5_isIn : GoodIn wsX5_price wsX5_isIn := goodIn_r _ [9] (by decide +kernel) (by decide +kernel)
set_option maxRecDepth 20000 in
theorem gX5_price_X5_isIn : GoodIn wsX5_price (va_wsS RX5 73 yX5_isIn wsX5_isIn) := goodIn_app (goodIn_of _ (by decide +kernel)) ggX5_price_X5_isIn
set_option maxRecDepth 20000 in
theorem ggX5_price_X5_fails : GoodIn wsX5_price wsX5_fails := goodIn_r _ [13, 14, 15, 16, 17, 18, 19, 20, 21, 22, 23, 24, 25, 26, 27, 28, 29, 30, 31, 32, 33, 34, 35, 36, 37, 38, 39] (by decide +kernel) (by decide +kernel)
set_option maxRecDepth 20000 in
theorem gX5_price_X5_fails : GoodIn wsX5_price (wsV RX5 85 RX5 yX5_fails wsX5_fails) := goodIn_app (goodIn_of _ (by decide +kernel)) ggX5_price_X5_fails
theorem dX5_price_0 : decode cX5_price 0 = .ok (.aload_n 0, 1) := by decide +kernel
theorem dX5_price_1 : decode cX5_price 1 = .ok (.iload_n 1, 1) := by decide +kernel
theorem dX5_price_2 : decode cX5_price 2 = .ok (.invokestatic 80, 3) := by decide +kernel
theorem dX5_price_5 : decode cX5_price 5 = .ok (.ifCond .ne 7, 3) := by decide +kernel
theorem dX5_price_8 : decode cX5_price 8 = .ok (.iconst 1, 1) := by decide +kernel
theorem dX5_price_9 : decode cX5_price 9 = .ok (.goto 19, 3) := by decide +kernel
theorem dX5_price_12 : decode cX5_price 12 = .ok (.iload_n 2, 1) := by decide +kernel
theorem dX5_price_13 : decode cX5_price 13 = .ok (.bipush 10, 2) := by decide +kernel
theorem dX5_price_15 : decode cX5_price 15 = .ok (.ldc 84, 2) := by decide +kernel
theorem dX5_price_17 : decode cX5_price 17 = .ok (.invokestatic 73, 3) := by decide +kernel
theorem dX5_price_20 : decode cX5_price 20 = .ok (.ifCond .eq 7, 3) := by decide +kernel
theorem dX5_price_23 : decode cX5_price 23 = .ok (.iconst 0, 1) := by decide +kernel
theorem dX5_price_24 : decode cX5_price 24 = .ok (.goto 4, 3) := by decide +kernel
theorem dX5_price_27 : decode cX5_price 27 = .ok (.iconst 2, 1) := by decide +kernel
theorem dX5_price_28 : decode cX5_price 28 = .ok (.invokevirtual 85, 3) := by decide +kernel
theorem dX5_price_31 : decode cX5_price 31 = .ok (.ifCond .eq 5, 3) := by decide +kernel
theorem dX5_price_34 : decode cX5_price 34 = .ok (.iconst 0, 1) := by decide +kernel
theorem dX5_price_35 : decode cX5_price 35 = .ok (.ireturn, 1) := by decide +kernel
theorem dX5_price_36 : decode cX5_price 36 = .ok (.aload_n 0, 1) := by decide +kernel
theorem dX5_price_37 : decode cX5_price 37 = .ok (.getfield 7, 3) := by decide +kernel
theorem dX5_price_40 : decode cX5_price 40 = .ok (.iload_n 1, 1) := by decide +kernel
theorem dX5_price_41 : decode cX5_price 41 = .ok (.iaload, 1) := by decide +kernel
theorem dX5_price_42 : decode cX5_price 42 = .ok (.istore_n 3, 1) := by decide +kernel
theorem dX5_price_43 : decode cX5_price 43 = .ok (.aload_n 0, 1) := by decide +kernel
theorem dX5_price_44 : decode cX5_price 44 = .ok (.getfield 7, 3) := by decide +kernel
theorem dX5_price_47 : decode cX5_price 47 = .ok (.iload_n 1, 1) := by decide +kernel
theorem dX5_price_48 : decode cX5_price 48 = .ok (.iload_n 2, 1) := by decide +kernel
theorem dX5_price_49 : decode cX5_price 49 = .ok (.iastore, 1) := by decide +kernel
theorem dX5_price_50 : decode cX5_price 50 = .ok (.iload_n 3, 1) := by decide +kernel
theorem dX5_price_51 : decode cX5_price 51 = .ok (.ireturn, 1) := by decide +kernel
set_option maxRecDepth 20000 in
theorem ggX5_client_X5_fails : GoodIn wsX5_client wsX5_fails := goodIn_r _ [6, 7, 8, 9, 10, 11, 12, 13, 14, 15, 16, 17, 18, 19, 20, 21, 22, 23, 24, 25, 26, 27, 28, 29, 30, 31, 32] (by decide +kernel) (by decide +kernel)
set_option maxRecDepth 20000 in
theorem gX5_client_X5_fails : GoodIn wsX5_client (wsV RX5 85 RX5 yX5_fails wsX5_fails) := goodIn_app (goodIn_of _ (by decide +kernel)) ggX5_client_X5_fails
theorem dX5_client_0 : decode cX5_client 0 = .ok (.aload_n 0, 1) := by decide +kernel
theorem dX5_client_1 : decode cX5_client 1 = .ok (.aload_n 0, 1) := by decide +kernel
theorem dX5_client_2 : decode cX5_client 2 = .ok (.getfield 77, 3) := by decide +kernel
theorem dX5_client_5 : decode cX5_client 5 = .ok (.bipush 12, 2) := by decide +kernel
theorem dX5_client_7 : decode cX5_client 7 = .ok (.if_icmp .ne 7, 3) := by decide +kernel
theorem dX5_client_10 : decode cX5_client 10 = .ok (.iconst 1, 1) := by decide +kernel
theorem dX5_client_11 : decode cX5_client 11 = .ok (.goto 4, 3) := by decide +kernel
theorem dX5_client_14 : decode cX5_client 14 = .ok (.iconst 0, 1) := by decide +kernel
theorem dX5_client_15 : decode cX5_client 15 = .ok (.invokevirtual 85, 3) := by decide +kernel
theorem dX5_client_18 : decode cX5_client 18 = .ok (.ifCond .eq 5, 3) := by decide +kernel
theorem dX5_client_21 : decode cX5_client 21 = .ok (.iconst 0, 1) := by decide +kernel
theorem dX5_client_22 : decode cX5_client 22 = .ok (.ireturn, 1) := by decide +kernel
theorem dX5_client_23 : decode cX5_client 23 = .ok (.aload_n 0, 1) := by decide +kernel
theorem dX5_client_24 : decode cX5_client 24 = .ok (.dup, 1) := by decide +kernel
theorem dX5_client_25 : decode cX5_client 25 = .ok (.getfield 77, 3) := by decide +kernel
theorem dX5_client_28 : decode cX5_client 28 = .ok (.iconst 1, 1) := by decide +kernel
theorem dX5_client_29 : decode cX5_client 29 = .ok (.iadd, 1) := by decide +kernel
theorem dX5_client_30 : decode cX5_client 30 = .ok (.putfield 77, 3) := by decide +kernel
theorem dX5_client_33 : decode cX5_client 33 = .ok (.aload_n 0, 1) := by decide +kernel
theorem dX5_client_34 : decode cX5_client 34 = .ok (.getfield 77, 3) := by decide +kernel
theorem dX5_client_37 : decode cX5_client 37 = .ok (.iconst 1, 1) := by decide +kernel
theorem dX5_client_38 : decode cX5_client 38 = .ok (.isub, 1) := by decide +kernel
theorem dX5_client_39 : decode cX5_client 39 = .ok (.ireturn, 1) := by decide +kernel
set_option maxRecDepth 20000 in
theorem ggX5_pay_X5_isIn : GoodIn wsX5_pay wsX5_isIn := goodIn_r _ [7] (by decide +kernel) (by decide +kernel)
set_option maxRecDepth 20000 in
theorem gX5_pay_X5_isIn : GoodIn wsX5_pay (va_wsS RX5 73 yX5_isIn wsX5_isIn) := goodIn_app (goodIn_of _ (by decide +kernel)) ggX5_pay_X5_isIn
set_option maxRecDepth 20000 in
theorem ggX5_pay_X5_isClient : GoodIn wsX5_pay wsX5_isClient := goodIn_r _ [11, 12, 4, 5, 6, 7, 18, 19, 20, 21, 22, 23, 24, 25, 26, 27, 28, 29, 30, 31, 32, 33, 34, 35, 36, 37, 38, 39, 40, 41, 42] (by decide +kernel) (by decide +kernel)
set_option maxRecDepth 20000 in
theorem gX5_pay_X5_isClient : GoodIn wsX5_pay (wsV RX5 90 RX5 yX5_isClient wsX5_isClient) := goodIn_app (goodIn_of _ (by decide +kernel)) ggX5_pay_X5_isClient
set_option maxRecDepth 20000 in
theorem ggX5_pay_X5_fails : GoodIn wsX5_pay wsX5_fails := goodIn_r _ [16, 17, 18, 19, 20, 21, 22, 23, 24, 25, 26, 27, 28, 29, 30, 31, 32, 33, 34, 35, 36, 37, 38, 39, 40, 41, 42] (by decide +kernel) (by decide +kernel)
set_option maxRecDepth 20000 in
theorem gX5_pay_X5_fails : GoodIn wsX5_pay (wsV RX5 85 RX5 yX5_fails wsX5_fails) := goodIn_app (goodIn_of _ (by decide +kernel)) ggX5_pay_X5_fails
theorem dX5_pay_0 : decode cX5_pay 0 = .ok (.iload_n 2, 1) := by decide +kernel
theorem dX5_pay_1 : decode cX5_pay 1 = .ok (.ldc 88, 2) := by decide +kernel
theorem dX5_pay_3 : decode cX5_pay 3 = .ok (.ldc 89, 2) := by decide +kernel
theorem dX5_pay_5 : decode cX5_pay 5 = .ok (.invokestatic 73, 3) := by decide +kernel
theorem dX5_pay_8 : decode cX5_pay 8 = .ok (.istore_n 3, 1) := by decide +kernel
theorem dX5_pay_9 : decode cX5_pay 9 = .ok (.aload_n 0, 1) := by decide +kernel
theorem dX5_pay_10 : decode cX5_pay 10 = .ok (.aload_n 0, 1) := by decide +kernel
theorem dX5_pay_11 : decode cX5_pay 11 = .ok (.iload_n 1, 1) := by decide +kernel
theorem dX5_pay_12 : decode cX5_pay 12 = .ok (.invokevirtual 90, 3) := by decide +kernel
theorem dX5_pay_15 : decode cX5_pay 15 = .ok (.ifCond .ne 7, 3) := by decide +kernel
theorem dX5_pay_18 : decode cX5_pay 18 = .ok (.iconst 1, 1) := by decide +kernel
theorem dX5_pay_19 : decode cX5_pay 19 = .ok (.goto 34, 3) := by decide +kernel
theorem dX5_pay_22 : decode cX5_pay 22 = .ok (.iload_n 3, 1) := by decide +kernel
theorem dX5_pay_23 : decode cX5_pay 23 = .ok (.ifCond .ne 7, 3) := by decide +kernel
theorem dX5_pay_26 : decode cX5_pay 26 = .ok (.iconst 2, 1) := by decide +kernel
theorem dX5_pay_27 : decode cX5_pay 27 = .ok (.goto 26, 3) := by decide +kernel
theorem dX5_pay_30 : decode cX5_pay 30 = .ok (.iload_n 2, 1) := by decide +kernel
theorem dX5_pay_31 : decode cX5_pay 31 = .ok (.ifCond .ge 21, 3) := by decide +kernel
theorem dX5_pay_34 : decode cX5_pay 34 = .ok (.aload_n 0, 1) := by decide +kernel
theorem dX5_pay_35 : decode cX5_pay 35 = .ok (.getfield 20, 3) := by decide +kernel
theorem dX5_pay_38 : decode cX5_pay 38 = .ok (.iload_n 1, 1) := by decide +kernel
theorem dX5_pay_39 : decode cX5_pay 39 = .ok (.laload, 1) := by decide +kernel
theorem dX5_pay_40 : decode cX5_pay 40 = .ok (.iload_n 2, 1) := by decide +kernel
theorem dX5_pay_41 : decode cX5_pay 41 = .ok (.i2l, 1) := by decide +kernel
theorem dX5_pay_42 : decode cX5_pay 42 = .ok (.ladd, 1) := by decide +kernel
theorem dX5_pay_43 : decode cX5_pay 43 = .ok (.lconst 0, 1) := by decide +kernel
theorem dX5_pay_44 : decode cX5_pay 44 = .ok (.lcmp, 1) := by decide +kernel
theorem dX5_pay_45 : decode cX5_pay 45 = .ok (.ifCond .ge 7, 3) := by decide +kernel
theorem dX5_pay_48 : decode cX5_pay 48 = .ok (.iconst 3, 1) := by decide +kernel
theorem dX5_pay_49 : decode cX5_pay 49 = .ok (.goto 4, 3) := by decide +kernel
theorem dX5_pay_52 : decode cX5_pay 52 = .ok (.iconst 0, 1) := by decide +kernel
theorem dX5_pay_53 : decode cX5_pay 53 = .ok (.invokevirtual 85, 3) := by decide +kernel
theorem dX5_pay_56 : decode cX5_pay 56 = .ok (.ifCond .eq 5, 3) := by decide +kernel
theorem dX5_pay_59 : decode cX5_pay 59 = .ok (.lconst 0, 1) := by decide +kernel
theorem dX5_pay_60 : decode cX5_pay 60 = .ok (.lreturn, 1) := by decide +kernel
theorem dX5_pay_61 : decode cX5_pay 61 = .ok (.aload_n 0, 1) := by decide +kernel
theorem dX5_pay_62 : decode cX5_pay 62 = .ok (.getfield 20, 3) := by decide +kernel
theorem dX5_pay_65 : decode cX5_pay 65 = .ok (.iload_n 1, 1) := by decide +kernel
theorem dX5_pay_66 : decode cX5_pay 66 = .ok (.dup2, 1) := by decide +kernel
theorem dX5_pay_67 : decode cX5_pay 67 = .ok (.laload, 1) := by decide +kernel
theorem dX5_pay_68 : decode cX5_pay 68 = .ok (.iload_n 2, 1) := by decide +kernel
theorem dX5_pay_69 : decode cX5_pay 69 = .ok (.i2l, 1) := by decide +kernel
theorem dX5_pay_70 : decode cX5_pay 70 = .ok (.ladd, 1) := by decide +kernel
theorem dX5_pay_71 : decode cX5_pay 71 = .ok (.lastore, 1) := by decide +kernel
theorem dX5_pay_72 : decode cX5_pay 72 = .ok (.aload_n 0, 1) := by decide +kernel
theorem dX5_pay_73 : decode cX5_pay 73 = .ok (.getfield 20, 3) := by decide +kernel
theorem dX5_pay_76 : decode cX5_pay 76 = .ok (.iload_n 1, 1) := by decide +kernel
theorem dX5_pay_77 : decode cX5_pay 77 = .ok (.laload, 1) := by decide +kernel
theorem dX5_pay_78 : decode cX5_pay 78 = .ok (.lreturn, 1) := by decide +kernel
set_option maxRecDepth 20000 in
theorem ggX5_goal_X5_isClient : GoodIn wsX5_goal wsX5_isClient := goodIn_r _ [6, 7, 8, 9, 5, 10, 19, 20, 21, 22, 23, 24, 25, 26, 27, 28, 29, 30, 31, 32, 33, 34, 35, 36, 37, 38, 39, 40, 41, 42, 43] (by decide +kernel) (by decide +kernel)
set_option maxRecDepth 20000 in
theorem gX5_goal_X5_isClient : GoodIn wsX5_goal (wsV RX5 90 RX5 yX5_isClient wsX5_isClient) := goodIn_app (goodIn_of _ (by decide +kernel)) ggX5_goal_X5_isClient
set_option maxRecDepth 20000 in
theorem ggX5_goal_X5_isFund : GoodIn wsX5_goal wsX5_isFund := goodIn_r _ [13, 8, 9, 5, 10] (by decide +kernel) (by decide +kernel)
set_option maxRecDepth 20000 in
theorem gX5_goal_X5_isFund : GoodIn wsX5_goal (va_wsS RX5 80 yX5_isFund wsX5_isFund) := goodIn_app (goodIn_of _ (by decide +kernel)) ggX5_goal_X5_isFund
set_option maxRecDepth 20000 in
theorem ggX5_goal_X5_isIn : GoodIn wsX5_goal wsX5_isIn := goodIn_r _ [10] (by decide +kernel) (by decide +kernel)
set_option maxRecDepth 20000 in
theorem gX5_goal_X5_isIn : GoodIn wsX5_goal (va_wsS RX5 73 yX5_isIn wsX5_isIn) := goodIn_app (goodIn_of _ (by decide +kernel)) ggX5_goal_X5_isIn
set_option maxRecDepth 20000 in
theorem ggX5_goal_X5_fails : GoodIn wsX5_goal wsX5_fails := goodIn_r _ [17, 18, 19, 20, 21, 22, 23, 24, 25, 26, 27, 28, 29, 30, 31, 32, 33, 34, 35, 36, 37, 38, 39, 40, 41, 42, 43] (by decide +kernel) (by decide +kernel)
set_option maxRecDepth 20000 in
theorem gX5_goal_X5_fails : GoodIn wsX5_goal (wsV RX5 85 RX5 yX5_fails wsX5_fails) := goodIn_app (goodIn_of _ (by decide +kernel)) ggX5_goal_X5_fails
theorem dX5_goal_0 : decode cX5_goal 0 = .ok (.aload_n 0, 1) := by decide +kernel
theorem dX5_goal_1 : decode cX5_goal 1 = .ok (.iload_n 1, 1) := by decide +kernel
theorem dX5_goal_2 : decode cX5_goal 2 = .ok (.invokevirtual 90, 3) := by decide +kernel
theorem dX5_goal_5 : decode cX5_goal 5 = .ok (.ifCond .eq 14, 3) := by decide +kernel
theorem dX5_goal_8 : decode cX5_goal 8 = .ok (.iload_n 2, 1) := by decide +kernel
theorem dX5_goal_9 : decode cX5_goal 9 = .ok (.invokestatic 80, 3) := by decide +kernel
theorem dX5_goal_12 : decode cX5_goal 12 = .ok (.ifCond .eq 7, 3) := by decide +kernel
theorem dX5_goal_15 : decode cX5_goal 15 = .ok (.iconst 1, 1) := by decide +kernel
theorem dX5_goal_16 : decode cX5_goal 16 = .ok (.goto 4, 3) := by decide +kernel
theorem dX5_goal_19 : decode cX5_goal 19 = .ok (.iconst 0, 1) := by decide +kernel
theorem dX5_goal_20 : decode cX5_goal 20 = .ok (.istore 4, 2) := by decide +kernel
theorem dX5_goal_22 : decode cX5_goal 22 = .ok (.iload_n 3, 1) := by decide +kernel
theorem dX5_goal_23 : decode cX5_goal 23 = .ok (.istore 5, 2) := by decide +kernel
theorem dX5_goal_25 : decode cX5_goal 25 = .ok (.iconst 0, 1) := by decide +kernel
theorem dX5_goal_26 : decode cX5_goal 26 = .ok (.istore 6, 2) := by decide +kernel
theorem dX5_goal_28 : decode cX5_goal 28 = .ok (.iload 6, 2) := by decide +kernel
theorem dX5_goal_30 : decode cX5_goal 30 = .ok (.bipush 6, 2) := by decide +kernel
theorem dX5_goal_32 : decode cX5_goal 32 = .ok (.if_icmp .ge 41, 3) := by decide +kernel
theorem dX5_goal_35 : decode cX5_goal 35 = .ok (.iload 4, 2) := by decide +kernel
theorem dX5_goal_37 : decode cX5_goal 37 = .ok (.ifCond .eq 36, 3) := by decide +kernel
theorem dX5_goal_40 : decode cX5_goal 40 = .ok (.iload 5, 2) := by decide +kernel
theorem dX5_goal_42 : decode cX5_goal 42 = .ok (.iload 6, 2) := by decide +kernel
theorem dX5_goal_44 : decode cX5_goal 44 = .ok (.iload_n 2, 1) := by decide +kernel
theorem dX5_goal_45 : decode cX5_goal 45 = .ok (.if_icmp .ne 7, 3) := by decide +kernel
theorem dX5_goal_48 : decode cX5_goal 48 = .ok (.iconst 0, 1) := by decide +kernel
theorem dX5_goal_49 : decode cX5_goal 49 = .ok (.goto 15, 3) := by decide +kernel
theorem dX5_goal_52 : decode cX5_goal 52 = .ok (.aload_n 0, 1) := by decide +kernel
theorem dX5_goal_53 : decode cX5_goal 53 = .ok (.getfield 23, 3) := by decide +kernel
theorem dX5_goal_56 : decode cX5_goal 56 = .ok (.bipush 6, 2) := by decide +kernel
theorem dX5_goal_58 : decode cX5_goal 58 = .ok (.iload_n 1, 1) := by decide +kernel
theorem dX5_goal_59 : decode cX5_goal 59 = .ok (.imul, 1) := by decide +kernel
theorem dX5_goal_60 : decode cX5_goal 60 = .ok (.iload 6, 2) := by decide +kernel
theorem dX5_goal_62 : decode cX5_goal 62 = .ok (.iadd, 1) := by decide +kernel
theorem dX5_goal_63 : decode cX5_goal 63 = .ok (.iaload, 1) := by decide +kernel
theorem dX5_goal_64 : decode cX5_goal 64 = .ok (.iadd, 1) := by decide +kernel
theorem dX5_goal_65 : decode cX5_goal 65 = .ok (.istore 5, 2) := by decide +kernel
theorem dX5_goal_67 : decode cX5_goal 67 = .ok (.iinc 6 1, 3) := by decide +kernel
theorem dX5_goal_70 : decode cX5_goal 70 = .ok (.goto (-42), 3) := by decide +kernel
theorem dX5_goal_73 : decode cX5_goal 73 = .ok (.aload_n 0, 1) := by decide +kernel
theorem dX5_goal_74 : decode cX5_goal 74 = .ok (.iload 4, 2) := by decide +kernel
theorem dX5_goal_76 : decode cX5_goal 76 = .ok (.ifCond .ne 7, 3) := by decide +kernel
theorem dX5_goal_79 : decode cX5_goal 79 = .ok (.iconst 1, 1) := by decide +kernel
theorem dX5_goal_80 : decode cX5_goal 80 = .ok (.goto 29, 3) := by decide +kernel
theorem dX5_goal_83 : decode cX5_goal 83 = .ok (.iload_n 3, 1) := by decide +kernel
theorem dX5_goal_84 : decode cX5_goal 84 = .ok (.iconst 0, 1) := by decide +kernel
theorem dX5_goal_85 : decode cX5_goal 85 = .ok (.bipush 100, 2) := by decide +kernel
theorem dX5_goal_87 : decode cX5_goal 87 = .ok (.invokestatic 73, 3) := by decide +kernel
theorem dX5_goal_90 : decode cX5_goal 90 = .ok (.ifCond .ne 7, 3) := by decide +kernel
theorem dX5_goal_93 : decode cX5_goal 93 = .ok (.iconst 2, 1) := by decide +kernel
theorem dX5_goal_94 : decode cX5_goal 94 = .ok (.goto 15, 3) := by decide +kernel
theorem dX5_goal_97 : decode cX5_goal 97 = .ok (.iload 5, 2) := by decide +kernel
theorem dX5_goal_99 : decode cX5_goal 99 = .ok (.bipush 100, 2) := by decide +kernel
theorem dX5_goal_101 : decode cX5_goal 101 = .ok (.if_icmp .le 7, 3) := by decide +kernel
theorem dX5_goal_104 : decode cX5_goal 104 = .ok (.iconst 3, 1) := by decide +kernel
theorem dX5_goal_105 : decode cX5_goal 105 = .ok (.goto 4, 3) := by decide +kernel
theorem dX5_goal_108 : decode cX5_goal 108 = .ok (.iconst 0, 1) := by decide +kernel
theorem dX5_goal_109 : decode cX5_goal 109 = .ok (.invokevirtual 85, 3) := by decide +kernel
theorem dX5_goal_112 : decode cX5_goal 112 = .ok (.ifCond .eq 5, 3) := by decide +kernel
theorem dX5_goal_115 : decode cX5_goal 115 = .ok (.iconst 0, 1) := by decide +kernel
theorem dX5_goal_116 : decode cX5_goal 116 = .ok (.ireturn, 1) := by decide +kernel
theorem dX5_goal_117 : decode cX5_goal 117 = .ok (.aload_n 0, 1) := by decide +kernel
theorem dX5_goal_118 : decode cX5_goal 118 = .ok (.getfield 23, 3) := by decide +kernel
theorem dX5_goal_121 : decode cX5_goal 121 = .ok (.bipush 6, 2) := by decide +kernel
theorem dX5_goal_123 : decode cX5_goal 123 = .ok (.iload_n 1, 1) := by decide +kernel
theorem dX5_goal_124 : decode cX5_goal 124 = .ok (.imul, 1) := by decide +kernel
theorem dX5_goal_125 : decode cX5_goal 125 = .ok (.iload_n 2, 1) := by decide +kernel
theorem dX5_goal_126 : decode cX5_goal 126 = .ok (.iadd, 1) := by decide +kernel
theorem dX5_goal_127 : decode cX5_goal 127 = .ok (.iload_n 3, 1) := by decide +kernel
theorem dX5_goal_128 : decode cX5_goal 128 = .ok (.iastore, 1) := by decide +kernel
theorem dX5_goal_129 : decode cX5_goal 129 = .ok (.iload 5, 2) := by decide +kernel
theorem dX5_goal_131 : decode cX5_goal 131 = .ok (.ireturn, 1) := by decide +kernel
theorem dX5_costOf_0 : decode cX5_costOf 0 = .ok (.lload_n 0, 1) := by decide +kernel
theorem dX5_costOf_1 : decode cX5_costOf 1 = .ok (.lload_n 0, 1) := by decide +kernel
theorem dX5_costOf_2 : decode cX5_costOf 2 = .ok (.ldc2_w 93, 3) := by decide +kernel
theorem dX5_costOf_5 : decode cX5_costOf 5 = .ok (.lcmp, 1) := by decide +kernel
theorem dX5_costOf_6 : decode cX5_costOf 6 = .ok (.ifCond .ge 9, 3) := by decide +kernel
theorem dX5_costOf_9 : decode cX5_costOf 9 = .ok (.ldc2_w 95, 3) := by decide +kernel
theorem dX5_costOf_12 : decode cX5_costOf 12 = .ok (.goto 20, 3) := by decide +kernel
theorem dX5_costOf_15 : decode cX5_costOf 15 = .ok (.lload_n 0, 1) := by decide +kernel
theorem dX5_costOf_16 : decode cX5_costOf 16 = .ok (.ldc2_w 97, 3) := by decide +kernel
theorem dX5_costOf_19 : decode cX5_costOf 19 = .ok (.lcmp, 1) := by decide +kernel
theorem dX5_costOf_20 : decode cX5_costOf 20 = .ok (.ifCond .ge 9, 3) := by decide +kernel
theorem dX5_costOf_23 : decode cX5_costOf 23 = .ok (.ldc2_w 99, 3) := by decide +kernel
theorem dX5_costOf_26 : decode cX5_costOf 26 = .ok (.goto 6, 3) := by decide +kernel
theorem dX5_costOf_29 : decode cX5_costOf 29 = .ok (.ldc2_w 101, 3) := by decide +kernel
theorem dX5_costOf_32 : decode cX5_costOf 32 = .ok (.lmul, 1) := by decide +kernel
theorem dX5_costOf_33 : decode cX5_costOf 33 = .ok (.ldc2_w 93, 3) := by decide +kernel
theorem dX5_costOf_36 : decode cX5_costOf 36 = .ok (.ldiv, 1) := by decide +kernel
theorem dX5_costOf_37 : decode cX5_costOf 37 = .ok (.lreturn, 1) := by decide +kernel
theorem dX5_moves_0 : decode cX5_moves 0 = .ok (.lload_n 3, 1) := by decide +kernel
theorem dX5_moves_1 : decode cX5_moves 1 = .ok (.aload_n 0, 1) := by decide +kernel
theorem dX5_moves_2 : decode cX5_moves 2 = .ok (.getfield 17, 3) := by decide +kernel
theorem dX5_moves_5 : decode cX5_moves 5 = .ok (.iload_n 2, 1) := by decide +kernel
theorem dX5_moves_6 : decode cX5_moves 6 = .ok (.laload, 1) := by decide +kernel
theorem dX5_moves_7 : decode cX5_moves 7 = .ok (.lcmp, 1) := by decide +kernel
theorem dX5_moves_8 : decode cX5_moves 8 = .ok (.ifCond .le 68, 3) := by decide +kernel
theorem dX5_moves_11 : decode cX5_moves 11 = .ok (.lload_n 3, 1) := by decide +kernel
theorem dX5_moves_12 : decode cX5_moves 12 = .ok (.aload_n 0, 1) := by decide +kernel
theorem dX5_moves_13 : decode cX5_moves 13 = .ok (.getfield 17, 3) := by decide +kernel
theorem dX5_moves_16 : decode cX5_moves 16 = .ok (.iload_n 2, 1) := by decide +kernel
theorem dX5_moves_17 : decode cX5_moves 17 = .ok (.laload, 1) := by decide +kernel
theorem dX5_moves_18 : decode cX5_moves 18 = .ok (.lsub, 1) := by decide +kernel
theorem dX5_moves_19 : decode cX5_moves 19 = .ok (.ldc2_w 103, 3) := by decide +kernel
theorem dX5_moves_22 : decode cX5_moves 22 = .ok (.ladd, 1) := by decide +kernel
theorem dX5_moves_23 : decode cX5_moves 23 = .ok (.lconst 1, 1) := by decide +kernel
theorem dX5_moves_24 : decode cX5_moves 24 = .ok (.lsub, 1) := by decide +kernel
theorem dX5_moves_25 : decode cX5_moves 25 = .ok (.ldc2_w 103, 3) := by decide +kernel
theorem dX5_moves_28 : decode cX5_moves 28 = .ok (.ldiv, 1) := by decide +kernel
theorem dX5_moves_29 : decode cX5_moves 29 = .ok (.lstore 5, 2) := by decide +kernel
theorem dX5_moves_31 : decode cX5_moves 31 = .ok (.aload_n 0, 1) := by decide +kernel
theorem dX5_moves_32 : decode cX5_moves 32 = .ok (.getfield 13, 3) := by decide +kernel
theorem dX5_moves_35 : decode cX5_moves 35 = .ok (.iload_n 2, 1) := by decide +kernel
theorem dX5_moves_36 : decode cX5_moves 36 = .ok (.dup2, 1) := by decide +kernel
theorem dX5_moves_37 : decode cX5_moves 37 = .ok (.laload, 1) := by decide +kernel
theorem dX5_moves_38 : decode cX5_moves 38 = .ok (.lload 5, 2) := by decide +kernel
theorem dX5_moves_40 : decode cX5_moves 40 = .ok (.ladd, 1) := by decide +kernel
theorem dX5_moves_41 : decode cX5_moves 41 = .ok (.lastore, 1) := by decide +kernel
theorem dX5_moves_42 : decode cX5_moves 42 = .ok (.aload_n 0, 1) := by decide +kernel
theorem dX5_moves_43 : decode cX5_moves 43 = .ok (.getfield 17, 3) := by decide +kernel
theorem dX5_moves_46 : decode cX5_moves 46 = .ok (.iload_n 2, 1) := by decide +kernel
theorem dX5_moves_47 : decode cX5_moves 47 = .ok (.dup2, 1) := by decide +kernel
theorem dX5_moves_48 : decode cX5_moves 48 = .ok (.laload, 1) := by decide +kernel
theorem dX5_moves_49 : decode cX5_moves 49 = .ok (.lload 5, 2) := by decide +kernel
theorem dX5_moves_51 : decode cX5_moves 51 = .ok (.ldc2_w 103, 3) := by decide +kernel
theorem dX5_moves_54 : decode cX5_moves 54 = .ok (.lmul, 1) := by decide +kernel
theorem dX5_moves_55 : decode cX5_moves 55 = .ok (.ladd, 1) := by decide +kernel
theorem dX5_moves_56 : decode cX5_moves 56 = .ok (.lastore, 1) := by decide +kernel
theorem dX5_moves_57 : decode cX5_moves 57 = .ok (.aload_n 0, 1) := by decide +kernel
theorem dX5_moves_58 : decode cX5_moves 58 = .ok (.dup, 1) := by decide +kernel
theorem dX5_moves_59 : decode cX5_moves 59 = .ok (.getfield 105, 3) := by decide +kernel
theorem dX5_moves_62 : decode cX5_moves 62 = .ok (.lload 5, 2) := by decide +kernel
theorem dX5_moves_64 : decode cX5_moves 64 = .ok (.aload_n 0, 1) := by decide +kernel
theorem dX5_moves_65 : decode cX5_moves 65 = .ok (.getfield 7, 3) := by decide +kernel
theorem dX5_moves_68 : decode cX5_moves 68 = .ok (.iload_n 2, 1) := by decide +kernel
theorem dX5_moves_69 : decode cX5_moves 69 = .ok (.iaload, 1) := by decide +kernel
theorem dX5_moves_70 : decode cX5_moves 70 = .ok (.i2l, 1) := by decide +kernel
theorem dX5_moves_71 : decode cX5_moves 71 = .ok (.lmul, 1) := by decide +kernel
theorem dX5_moves_72 : decode cX5_moves 72 = .ok (.lsub, 1) := by decide +kernel
theorem dX5_moves_73 : decode cX5_moves 73 = .ok (.putfield 105, 3) := by decide +kernel
theorem dX5_moves_76 : decode cX5_moves 76 = .ok (.aload_n 0, 1) := by decide +kernel
theorem dX5_moves_77 : decode cX5_moves 77 = .ok (.getfield 17, 3) := by decide +kernel
theorem dX5_moves_80 : decode cX5_moves 80 = .ok (.iload_n 2, 1) := by decide +kernel
theorem dX5_moves_81 : decode cX5_moves 81 = .ok (.dup2, 1) := by decide +kernel
theorem dX5_moves_82 : decode cX5_moves 82 = .ok (.laload, 1) := by decide +kernel
theorem dX5_moves_83 : decode cX5_moves 83 = .ok (.lload_n 3, 1) := by decide +kernel
theorem dX5_moves_84 : decode cX5_moves 84 = .ok (.lsub, 1) := by decide +kernel
theorem dX5_moves_85 : decode cX5_moves 85 = .ok (.lastore, 1) := by decide +kernel
theorem dX5_moves_86 : decode cX5_moves 86 = .ok (.aload_n 0, 1) := by decide +kernel
theorem dX5_moves_87 : decode cX5_moves 87 = .ok (.getfield 26, 3) := by decide +kernel
theorem dX5_moves_90 : decode cX5_moves 90 = .ok (.bipush 6, 2) := by decide +kernel
theorem dX5_moves_92 : decode cX5_moves 92 = .ok (.iload_n 1, 1) := by decide +kernel
theorem dX5_moves_93 : decode cX5_moves 93 = .ok (.imul, 1) := by decide +kernel
theorem dX5_moves_94 : decode cX5_moves 94 = .ok (.iload_n 2, 1) := by decide +kernel
theorem dX5_moves_95 : decode cX5_moves 95 = .ok (.iadd, 1) := by decide +kernel
theorem dX5_moves_96 : decode cX5_moves 96 = .ok (.dup2, 1) := by decide +kernel
theorem dX5_moves_97 : decode cX5_moves 97 = .ok (.laload, 1) := by decide +kernel
theorem dX5_moves_98 : decode cX5_moves 98 = .ok (.lload_n 3, 1) := by decide +kernel
theorem dX5_moves_99 : decode cX5_moves 99 = .ok (.ladd, 1) := by decide +kernel
theorem dX5_moves_100 : decode cX5_moves 100 = .ok (.lastore, 1) := by decide +kernel
theorem dX5_moves_101 : decode cX5_moves 101 = .ok (.return_, 1) := by decide +kernel
theorem dX5_pays_0 : decode cX5_pays 0 = .ok (.aload_n 0, 1) := by decide +kernel
theorem dX5_pays_1 : decode cX5_pays 1 = .ok (.getfield 20, 3) := by decide +kernel
theorem dX5_pays_4 : decode cX5_pays 4 = .ok (.iload_n 1, 1) := by decide +kernel
theorem dX5_pays_5 : decode cX5_pays 5 = .ok (.dup2, 1) := by decide +kernel
theorem dX5_pays_6 : decode cX5_pays 6 = .ok (.laload, 1) := by decide +kernel
theorem dX5_pays_7 : decode cX5_pays 7 = .ok (.lload_n 2, 1) := by decide +kernel
theorem dX5_pays_8 : decode cX5_pays 8 = .ok (.lsub, 1) := by decide +kernel
theorem dX5_pays_9 : decode cX5_pays 9 = .ok (.lastore, 1) := by decide +kernel
theorem dX5_pays_10 : decode cX5_pays 10 = .ok (.aload_n 0, 1) := by decide +kernel
theorem dX5_pays_11 : decode cX5_pays 11 = .ok (.dup, 1) := by decide +kernel
theorem dX5_pays_12 : decode cX5_pays 12 = .ok (.getfield 105, 3) := by decide +kernel
theorem dX5_pays_15 : decode cX5_pays 15 = .ok (.lload_n 2, 1) := by decide +kernel
theorem dX5_pays_16 : decode cX5_pays 16 = .ok (.ladd, 1) := by decide +kernel
theorem dX5_pays_17 : decode cX5_pays 17 = .ok (.putfield 105, 3) := by decide +kernel
theorem dX5_pays_20 : decode cX5_pays 20 = .ok (.return_, 1) := by decide +kernel
set_option maxRecDepth 20000 in
theorem ggX5_notes_X5_costOf : GoodIn wsX5_notes wsX5_costOf := goodIn_r _ [13, 14, 15, 16, 17, 18] (by decide +kernel) (by decide +kernel)
set_option maxRecDepth 20000 in
theorem gX5_notes_X5_costOf : GoodIn wsX5_notes (va_wsS RX5 112 yX5_costOf wsX5_costOf) := goodIn_app (goodIn_of _ (by decide +kernel)) ggX5_notes_X5_costOf
set_option maxRecDepth 20000 in
theorem ggX5_notes_X5_pays : GoodIn wsX5_notes wsX5_pays := goodIn_r _ [22, 23, 24, 34, 35, 36, 37, 38, 39, 40, 41, 42, 43, 44, 45, 46, 47, 48, 49, 50, 51, 52, 53, 54, 55, 56, 57, 58] (by decide +kernel) (by decide +kernel)
set_option maxRecDepth 20000 in
theorem gX5_notes_X5_pays : GoodIn wsX5_notes (wsV RX5 119 RX5 yX5_pays wsX5_pays) := goodIn_app (goodIn_of _ (by decide +kernel)) ggX5_notes_X5_pays
set_option maxRecDepth 20000 in
theorem ggX5_notes_X5_moves : GoodIn wsX5_notes wsX5_moves := goodIn_r _ [28, 29, 30, 31, 24, 32, 33, 34, 35, 36, 37, 38, 39, 40, 41, 42, 43, 44, 45, 46, 47, 48, 49, 50, 51, 52, 53, 54, 55, 56, 57, 58] (by decide +kernel) (by decide +kernel)
set_option maxRecDepth 20000 in
theorem gX5_notes_X5_moves : GoodIn wsX5_notes (wsV RX5 123 RX5 yX5_moves wsX5_moves) := goodIn_app (goodIn_of _ (by decide +kernel)) ggX5_notes_X5_moves
theorem dX5_notes_0 : decode cX5_notes 0 = .ok (.aload_n 0, 1) := by decide +kernel
theorem dX5_notes_1 : decode cX5_notes 1 = .ok (.getfield 32, 3) := by decide +kernel
theorem dX5_notes_4 : decode cX5_notes 4 = .ok (.aload_n 0, 1) := by decide +kernel
theorem dX5_notes_5 : decode cX5_notes 5 = .ok (.getfield 109, 3) := by decide +kernel
theorem dX5_notes_8 : decode cX5_notes 8 = .ok (.iload_n 1, 1) := by decide +kernel
theorem dX5_notes_9 : decode cX5_notes 9 = .ok (.iastore, 1) := by decide +kernel
theorem dX5_notes_10 : decode cX5_notes 10 = .ok (.aload_n 0, 1) := by decide +kernel
theorem dX5_notes_11 : decode cX5_notes 11 = .ok (.getfield 35, 3) := by decide +kernel
theorem dX5_notes_14 : decode cX5_notes 14 = .ok (.aload_n 0, 1) := by decide +kernel
theorem dX5_notes_15 : decode cX5_notes 15 = .ok (.getfield 109, 3) := by decide +kernel
theorem dX5_notes_18 : decode cX5_notes 18 = .ok (.iload_n 2, 1) := by decide +kernel
theorem dX5_notes_19 : decode cX5_notes 19 = .ok (.iastore, 1) := by decide +kernel
theorem dX5_notes_20 : decode cX5_notes 20 = .ok (.aload_n 0, 1) := by decide +kernel
theorem dX5_notes_21 : decode cX5_notes 21 = .ok (.getfield 38, 3) := by decide +kernel
theorem dX5_notes_24 : decode cX5_notes 24 = .ok (.aload_n 0, 1) := by decide +kernel
theorem dX5_notes_25 : decode cX5_notes 25 = .ok (.getfield 109, 3) := by decide +kernel
theorem dX5_notes_28 : decode cX5_notes 28 = .ok (.lload_n 3, 1) := by decide +kernel
theorem dX5_notes_29 : decode cX5_notes 29 = .ok (.lastore, 1) := by decide +kernel
theorem dX5_notes_30 : decode cX5_notes 30 = .ok (.aload_n 0, 1) := by decide +kernel
theorem dX5_notes_31 : decode cX5_notes 31 = .ok (.getfield 41, 3) := by decide +kernel
theorem dX5_notes_34 : decode cX5_notes 34 = .ok (.aload_n 0, 1) := by decide +kernel
theorem dX5_notes_35 : decode cX5_notes 35 = .ok (.getfield 109, 3) := by decide +kernel
theorem dX5_notes_38 : decode cX5_notes 38 = .ok (.lload 5, 2) := by decide +kernel
theorem dX5_notes_40 : decode cX5_notes 40 = .ok (.lastore, 1) := by decide +kernel
theorem dX5_notes_41 : decode cX5_notes 41 = .ok (.aload_n 0, 1) := by decide +kernel
theorem dX5_notes_42 : decode cX5_notes 42 = .ok (.getfield 44, 3) := by decide +kernel
theorem dX5_notes_45 : decode cX5_notes 45 = .ok (.aload_n 0, 1) := by decide +kernel
theorem dX5_notes_46 : decode cX5_notes 46 = .ok (.getfield 109, 3) := by decide +kernel
theorem dX5_notes_49 : decode cX5_notes 49 = .ok (.lload 5, 2) := by decide +kernel
theorem dX5_notes_51 : decode cX5_notes 51 = .ok (.invokestatic 112, 3) := by decide +kernel
theorem dX5_notes_54 : decode cX5_notes 54 = .ok (.lastore, 1) := by decide +kernel
theorem dX5_notes_55 : decode cX5_notes 55 = .ok (.aload_n 0, 1) := by decide +kernel
theorem dX5_notes_56 : decode cX5_notes 56 = .ok (.getfield 47, 3) := by decide +kernel
theorem dX5_notes_59 : decode cX5_notes 59 = .ok (.aload_n 0, 1) := by decide +kernel
theorem dX5_notes_60 : decode cX5_notes 60 = .ok (.getfield 109, 3) := by decide +kernel
theorem dX5_notes_63 : decode cX5_notes 63 = .ok (.aload_n 0, 1) := by decide +kernel
theorem dX5_notes_64 : decode cX5_notes 64 = .ok (.getfield 116, 3) := by decide +kernel
theorem dX5_notes_67 : decode cX5_notes 67 = .ok (.iastore, 1) := by decide +kernel
theorem dX5_notes_68 : decode cX5_notes 68 = .ok (.aload_n 0, 1) := by decide +kernel
theorem dX5_notes_69 : decode cX5_notes 69 = .ok (.getfield 50, 3) := by decide +kernel
theorem dX5_notes_72 : decode cX5_notes 72 = .ok (.aload_n 0, 1) := by decide +kernel
theorem dX5_notes_73 : decode cX5_notes 73 = .ok (.getfield 109, 3) := by decide +kernel
theorem dX5_notes_76 : decode cX5_notes 76 = .ok (.iconst 1, 1) := by decide +kernel
theorem dX5_notes_77 : decode cX5_notes 77 = .ok (.bastore, 1) := by decide +kernel
theorem dX5_notes_78 : decode cX5_notes 78 = .ok (.aload_n 0, 1) := by decide +kernel
theorem dX5_notes_79 : decode cX5_notes 79 = .ok (.iload_n 1, 1) := by decide +kernel
theorem dX5_notes_80 : decode cX5_notes 80 = .ok (.lload_n 3, 1) := by decide +kernel
theorem dX5_notes_81 : decode cX5_notes 81 = .ok (.lconst 0, 1) := by decide +kernel
theorem dX5_notes_82 : decode cX5_notes 82 = .ok (.lcmp, 1) := by decide +kernel
theorem dX5_notes_83 : decode cX5_notes 83 = .ok (.ifCond .le 18, 3) := by decide +kernel
theorem dX5_notes_86 : decode cX5_notes 86 = .ok (.lload 5, 2) := by decide +kernel
theorem dX5_notes_88 : decode cX5_notes 88 = .ok (.aload_n 0, 1) := by decide +kernel
theorem dX5_notes_89 : decode cX5_notes 89 = .ok (.getfield 44, 3) := by decide +kernel
theorem dX5_notes_92 : decode cX5_notes 92 = .ok (.aload_n 0, 1) := by decide +kernel
theorem dX5_notes_93 : decode cX5_notes 93 = .ok (.getfield 109, 3) := by decide +kernel
theorem dX5_notes_96 : decode cX5_notes 96 = .ok (.laload, 1) := by decide +kernel
theorem dX5_notes_97 : decode cX5_notes 97 = .ok (.ladd, 1) := by decide +kernel
theorem dX5_notes_98 : decode cX5_notes 98 = .ok (.goto 15, 3) := by decide +kernel
theorem dX5_notes_101 : decode cX5_notes 101 = .ok (.aload_n 0, 1) := by decide +kernel
theorem dX5_notes_102 : decode cX5_notes 102 = .ok (.getfield 44, 3) := by decide +kernel
theorem dX5_notes_105 : decode cX5_notes 105 = .ok (.aload_n 0, 1) := by decide +kernel
theorem dX5_notes_106 : decode cX5_notes 106 = .ok (.getfield 109, 3) := by decide +kernel
theorem dX5_notes_109 : decode cX5_notes 109 = .ok (.laload, 1) := by decide +kernel
theorem dX5_notes_110 : decode cX5_notes 110 = .ok (.lload 5, 2) := by decide +kernel
theorem dX5_notes_112 : decode cX5_notes 112 = .ok (.lsub, 1) := by decide +kernel
theorem dX5_notes_113 : decode cX5_notes 113 = .ok (.invokevirtual 119, 3) := by decide +kernel
theorem dX5_notes_116 : decode cX5_notes 116 = .ok (.aload_n 0, 1) := by decide +kernel
theorem dX5_notes_117 : decode cX5_notes 117 = .ok (.iload_n 1, 1) := by decide +kernel
theorem dX5_notes_118 : decode cX5_notes 118 = .ok (.iload_n 2, 1) := by decide +kernel
theorem dX5_notes_119 : decode cX5_notes 119 = .ok (.lload_n 3, 1) := by decide +kernel
theorem dX5_notes_120 : decode cX5_notes 120 = .ok (.invokevirtual 123, 3) := by decide +kernel
theorem dX5_notes_123 : decode cX5_notes 123 = .ok (.aload_n 0, 1) := by decide +kernel
theorem dX5_notes_124 : decode cX5_notes 124 = .ok (.dup, 1) := by decide +kernel
theorem dX5_notes_125 : decode cX5_notes 125 = .ok (.getfield 109, 3) := by decide +kernel
theorem dX5_notes_128 : decode cX5_notes 128 = .ok (.iconst 1, 1) := by decide +kernel
theorem dX5_notes_129 : decode cX5_notes 129 = .ok (.iadd, 1) := by decide +kernel
theorem dX5_notes_130 : decode cX5_notes 130 = .ok (.putfield 109, 3) := by decide +kernel
theorem dX5_notes_133 : decode cX5_notes 133 = .ok (.aload_n 0, 1) := by decide +kernel
theorem dX5_notes_134 : decode cX5_notes 134 = .ok (.getfield 109, 3) := by decide +kernel
theorem dX5_notes_137 : decode cX5_notes 137 = .ok (.iconst 1, 1) := by decide +kernel
theorem dX5_notes_138 : decode cX5_notes 138 = .ok (.isub, 1) := by decide +kernel
theorem dX5_notes_139 : decode cX5_notes 139 = .ok (.ireturn, 1) := by decide +kernel
theorem dX5_partsFor_0 : decode cX5_partsFor 0 = .ok (.lload_n 2, 1) := by decide +kernel
theorem dX5_partsFor_1 : decode cX5_partsFor 1 = .ok (.ldc2_w 103, 3) := by decide +kernel
theorem dX5_partsFor_4 : decode cX5_partsFor 4 = .ok (.lmul, 1) := by decide +kernel
theorem dX5_partsFor_5 : decode cX5_partsFor 5 = .ok (.aload_n 0, 1) := by decide +kernel
theorem dX5_partsFor_6 : decode cX5_partsFor 6 = .ok (.getfield 7, 3) := by decide +kernel
theorem dX5_partsFor_9 : decode cX5_partsFor 9 = .ok (.iload_n 1, 1) := by decide +kernel
theorem dX5_partsFor_10 : decode cX5_partsFor 10 = .ok (.iaload, 1) := by decide +kernel
theorem dX5_partsFor_11 : decode cX5_partsFor 11 = .ok (.i2l, 1) := by decide +kernel
theorem dX5_partsFor_12 : decode cX5_partsFor 12 = .ok (.ldiv, 1) := by decide +kernel
theorem dX5_partsFor_13 : decode cX5_partsFor 13 = .ok (.lreturn, 1) := by decide +kernel
theorem dX5_amountOf_0 : decode cX5_amountOf 0 = .ok (.lload_n 2, 1) := by decide +kernel
theorem dX5_amountOf_1 : decode cX5_amountOf 1 = .ok (.aload_n 0, 1) := by decide +kernel
theorem dX5_amountOf_2 : decode cX5_amountOf 2 = .ok (.getfield 7, 3) := by decide +kernel
theorem dX5_amountOf_5 : decode cX5_amountOf 5 = .ok (.iload_n 1, 1) := by decide +kernel
theorem dX5_amountOf_6 : decode cX5_amountOf 6 = .ok (.iaload, 1) := by decide +kernel
theorem dX5_amountOf_7 : decode cX5_amountOf 7 = .ok (.i2l, 1) := by decide +kernel
theorem dX5_amountOf_8 : decode cX5_amountOf 8 = .ok (.lmul, 1) := by decide +kernel
theorem dX5_amountOf_9 : decode cX5_amountOf 9 = .ok (.ldc2_w 103, 3) := by decide +kernel
theorem dX5_amountOf_12 : decode cX5_amountOf 12 = .ok (.ldiv, 1) := by decide +kernel
theorem dX5_amountOf_13 : decode cX5_amountOf 13 = .ok (.lreturn, 1) := by decide +kernel
set_option maxRecDepth 20000 in
theorem ggX5_buy_X5_isClient : GoodIn wsX5_buy wsX5_isClient := goodIn_r _ [8, 9, 10, 11, 7, 12, 59, 60, 61, 62, 63, 64, 65, 66, 67, 68, 69, 70, 71, 72, 73, 74, 75, 76, 77, 78, 79, 80, 81, 82, 83] (by decide +kernel) (by decide +kernel)
set_option maxRecDepth 20000 in
theorem gX5_buy_X5_isClient : GoodIn wsX5_buy (wsV RX5 90 RX5 yX5_isClient wsX5_isClient) := goodIn_app (goodIn_of _ (by decide +kernel)) ggX5_buy_X5_isClient
set_option maxRecDepth 20000 in
theorem ggX5_buy_X5_isFund : GoodIn wsX5_buy wsX5_isFund := goodIn_r _ [15, 10, 11, 7, 12] (by decide +kernel) (by decide +kernel)
set_option maxRecDepth 20000 in
theorem gX5_buy_X5_isFund : GoodIn wsX5_buy (va_wsS RX5 80 yX5_isFund wsX5_isFund) := goodIn_app (goodIn_of _ (by decide +kernel)) ggX5_buy_X5_isFund
set_option maxRecDepth 20000 in
theorem ggX5_buy_X5_isIn : GoodIn wsX5_buy wsX5_isIn := goodIn_r _ [12] (by decide +kernel) (by decide +kernel)
set_option maxRecDepth 20000 in
theorem gX5_buy_X5_isIn : GoodIn wsX5_buy (va_wsS RX5 73 yX5_isIn wsX5_isIn) := goodIn_app (goodIn_of _ (by decide +kernel)) ggX5_buy_X5_isIn
set_option maxRecDepth 20000 in
theorem ggX5_buy_X5_partsFor : GoodIn wsX5_buy wsX5_partsFor := goodIn_r _ [19, 20, 21, 59, 60, 61, 62, 63, 64, 65, 66, 67, 68, 69, 70, 71, 72, 73, 74, 75, 76, 77, 78, 79, 80, 81, 82, 83] (by decide +kernel) (by decide +kernel)
set_option maxRecDepth 20000 in
theorem gX5_buy_X5_partsFor : GoodIn wsX5_buy (wsV RX5 127 RX5 yX5_partsFor wsX5_partsFor) := goodIn_app (goodIn_of _ (by decide +kernel)) ggX5_buy_X5_partsFor
set_option maxRecDepth 20000 in
theorem ggX5_buy_X5_costOf : GoodIn wsX5_buy wsX5_costOf := goodIn_r _ [24, 25, 26, 27, 28, 29] (by decide +kernel) (by decide +kernel)
set_option maxRecDepth 20000 in
theorem gX5_buy_X5_costOf : GoodIn wsX5_buy (va_wsS RX5 112 yX5_costOf wsX5_costOf) := goodIn_app (goodIn_of _ (by decide +kernel)) ggX5_buy_X5_costOf
set_option maxRecDepth 20000 in
theorem ggX5_buy_X5_fails : GoodIn wsX5_buy wsX5_fails := goodIn_r _ [33, 34, 59, 60, 61, 62, 63, 64, 65, 66, 67, 68, 69, 70, 71, 72, 73, 74, 75, 76, 77, 78, 79, 80, 81, 82, 83] (by decide +kernel) (by decide +kernel)
set_option maxRecDepth 20000 in
theorem gX5_buy_X5_fails : GoodIn wsX5_buy (wsV RX5 85 RX5 yX5_fails wsX5_fails) := goodIn_app (goodIn_of _ (by decide +kernel)) ggX5_buy_X5_fails
set_option maxRecDepth 20000 in
theorem ggX5_buy_X5_notes : GoodIn wsX5_buy wsX5_notes := goodIn_r _ [38, 39, 2, 40, 41, 42, 43, 44, 45, 46, 22, 23, 7, 24, 25, 26, 27, 28, 29, 47, 48, 49, 50, 3, 51, 52, 53, 54, 55, 56, 20, 57, 21, 58, 59, 60, 61, 62, 63, 64, 65, 66, 67, 68, 69, 70, 71, 72, 73, 74, 75, 76, 77, 78, 79, 80, 81, 82, 83] (by decide +kernel) (by decide +kernel)
set_option maxRecDepth 20000 in
theorem gX5_buy_X5_notes : GoodIn wsX5_buy (wsV RX5 131 RX5 yX5_notes wsX5_notes) := goodIn_app (goodIn_of _ (by decide +kernel)) ggX5_buy_X5_notes
theorem dX5_buy_0 : decode cX5_buy 0 = .ok (.aload_n 0, 1) := by decide +kernel
theorem dX5_buy_1 : decode cX5_buy 1 = .ok (.iload_n 1, 1) := by decide +kernel
theorem dX5_buy_2 : decode cX5_buy 2 = .ok (.invokevirtual 90, 3) := by decide +kernel
theorem dX5_buy_5 : decode cX5_buy 5 = .ok (.ifCond .eq 14, 3) := by decide +kernel
theorem dX5_buy_8 : decode cX5_buy 8 = .ok (.iload_n 2, 1) := by decide +kernel
theorem dX5_buy_9 : decode cX5_buy 9 = .ok (.invokestatic 80, 3) := by decide +kernel
theorem dX5_buy_12 : decode cX5_buy 12 = .ok (.ifCond .eq 7, 3) := by decide +kernel
theorem dX5_buy_15 : decode cX5_buy 15 = .ok (.iconst 1, 1) := by decide +kernel
theorem dX5_buy_16 : decode cX5_buy 16 = .ok (.goto 4, 3) := by decide +kernel
theorem dX5_buy_19 : decode cX5_buy 19 = .ok (.iconst 0, 1) := by decide +kernel
theorem dX5_buy_20 : decode cX5_buy 20 = .ok (.istore 4, 2) := by decide +kernel
theorem dX5_buy_22 : decode cX5_buy 22 = .ok (.iload_n 3, 1) := by decide +kernel
theorem dX5_buy_23 : decode cX5_buy 23 = .ok (.iconst 1, 1) := by decide +kernel
theorem dX5_buy_24 : decode cX5_buy 24 = .ok (.ldc 89, 2) := by decide +kernel
theorem dX5_buy_26 : decode cX5_buy 26 = .ok (.invokestatic 73, 3) := by decide +kernel
theorem dX5_buy_29 : decode cX5_buy 29 = .ok (.istore 5, 2) := by decide +kernel
theorem dX5_buy_31 : decode cX5_buy 31 = .ok (.iload 4, 2) := by decide +kernel
theorem dX5_buy_33 : decode cX5_buy 33 = .ok (.ifCond .eq 51, 3) := by decide +kernel
theorem dX5_buy_36 : decode cX5_buy 36 = .ok (.iload 5, 2) := by decide +kernel
theorem dX5_buy_38 : decode cX5_buy 38 = .ok (.ifCond .eq 46, 3) := by decide +kernel
theorem dX5_buy_41 : decode cX5_buy 41 = .ok (.aload_n 0, 1) := by decide +kernel
theorem dX5_buy_42 : decode cX5_buy 42 = .ok (.getfield 109, 3) := by decide +kernel
theorem dX5_buy_45 : decode cX5_buy 45 = .ok (.bipush 120, 2) := by decide +kernel
theorem dX5_buy_47 : decode cX5_buy 47 = .ok (.if_icmp .ge 37, 3) := by decide +kernel
theorem dX5_buy_50 : decode cX5_buy 50 = .ok (.aload_n 0, 1) := by decide +kernel
theorem dX5_buy_51 : decode cX5_buy 51 = .ok (.iload_n 2, 1) := by decide +kernel
theorem dX5_buy_52 : decode cX5_buy 52 = .ok (.iload_n 3, 1) := by decide +kernel
theorem dX5_buy_53 : decode cX5_buy 53 = .ok (.i2l, 1) := by decide +kernel
theorem dX5_buy_54 : decode cX5_buy 54 = .ok (.invokevirtual 127, 3) := by decide +kernel
theorem dX5_buy_57 : decode cX5_buy 57 = .ok (.lconst 0, 1) := by decide +kernel
theorem dX5_buy_58 : decode cX5_buy 58 = .ok (.lcmp, 1) := by decide +kernel
theorem dX5_buy_59 : decode cX5_buy 59 = .ok (.ifCond .le 25, 3) := by decide +kernel
theorem dX5_buy_62 : decode cX5_buy 62 = .ok (.iload_n 3, 1) := by decide +kernel
theorem dX5_buy_63 : decode cX5_buy 63 = .ok (.i2l, 1) := by decide +kernel
theorem dX5_buy_64 : decode cX5_buy 64 = .ok (.iload_n 3, 1) := by decide +kernel
theorem dX5_buy_65 : decode cX5_buy 65 = .ok (.i2l, 1) := by decide +kernel
theorem dX5_buy_66 : decode cX5_buy 66 = .ok (.invokestatic 112, 3) := by decide +kernel
theorem dX5_buy_69 : decode cX5_buy 69 = .ok (.ladd, 1) := by decide +kernel
theorem dX5_buy_70 : decode cX5_buy 70 = .ok (.aload_n 0, 1) := by decide +kernel
theorem dX5_buy_71 : decode cX5_buy 71 = .ok (.getfield 20, 3) := by decide +kernel
theorem dX5_buy_74 : decode cX5_buy 74 = .ok (.iload_n 1, 1) := by decide +kernel
theorem dX5_buy_75 : decode cX5_buy 75 = .ok (.laload, 1) := by decide +kernel
theorem dX5_buy_76 : decode cX5_buy 76 = .ok (.lcmp, 1) := by decide +kernel
theorem dX5_buy_77 : decode cX5_buy 77 = .ok (.ifCond .gt 7, 3) := by decide +kernel
theorem dX5_buy_80 : decode cX5_buy 80 = .ok (.iconst 1, 1) := by decide +kernel
theorem dX5_buy_81 : decode cX5_buy 81 = .ok (.goto 4, 3) := by decide +kernel
theorem dX5_buy_84 : decode cX5_buy 84 = .ok (.iconst 0, 1) := by decide +kernel
theorem dX5_buy_85 : decode cX5_buy 85 = .ok (.istore 6, 2) := by decide +kernel
theorem dX5_buy_87 : decode cX5_buy 87 = .ok (.aload_n 0, 1) := by decide +kernel
theorem dX5_buy_88 : decode cX5_buy 88 = .ok (.iload 4, 2) := by decide +kernel
theorem dX5_buy_90 : decode cX5_buy 90 = .ok (.ifCond .ne 7, 3) := by decide +kernel
theorem dX5_buy_93 : decode cX5_buy 93 = .ok (.iconst 1, 1) := by decide +kernel
theorem dX5_buy_94 : decode cX5_buy 94 = .ok (.goto 22, 3) := by decide +kernel
theorem dX5_buy_97 : decode cX5_buy 97 = .ok (.iload 5, 2) := by decide +kernel
theorem dX5_buy_99 : decode cX5_buy 99 = .ok (.ifCond .ne 7, 3) := by decide +kernel
theorem dX5_buy_102 : decode cX5_buy 102 = .ok (.iconst 2, 1) := by decide +kernel
theorem dX5_buy_103 : decode cX5_buy 103 = .ok (.goto 13, 3) := by decide +kernel
theorem dX5_buy_106 : decode cX5_buy 106 = .ok (.iload 6, 2) := by decide +kernel
theorem dX5_buy_108 : decode cX5_buy 108 = .ok (.ifCond .eq 7, 3) := by decide +kernel
theorem dX5_buy_111 : decode cX5_buy 111 = .ok (.iconst 0, 1) := by decide +kernel
theorem dX5_buy_112 : decode cX5_buy 112 = .ok (.goto 4, 3) := by decide +kernel
theorem dX5_buy_115 : decode cX5_buy 115 = .ok (.iconst 3, 1) := by decide +kernel
theorem dX5_buy_116 : decode cX5_buy 116 = .ok (.invokevirtual 85, 3) := by decide +kernel
theorem dX5_buy_119 : decode cX5_buy 119 = .ok (.ifCond .eq 5, 3) := by decide +kernel
theorem dX5_buy_122 : decode cX5_buy 122 = .ok (.iconst 0, 1) := by decide +kernel
theorem dX5_buy_123 : decode cX5_buy 123 = .ok (.ireturn, 1) := by decide +kernel
theorem dX5_buy_124 : decode cX5_buy 124 = .ok (.aload_n 0, 1) := by decide +kernel
theorem dX5_buy_125 : decode cX5_buy 125 = .ok (.iload_n 1, 1) := by decide +kernel
theorem dX5_buy_126 : decode cX5_buy 126 = .ok (.iload_n 2, 1) := by decide +kernel
theorem dX5_buy_127 : decode cX5_buy 127 = .ok (.aload_n 0, 1) := by decide +kernel
theorem dX5_buy_128 : decode cX5_buy 128 = .ok (.iload_n 2, 1) := by decide +kernel
theorem dX5_buy_129 : decode cX5_buy 129 = .ok (.iload_n 3, 1) := by decide +kernel
theorem dX5_buy_130 : decode cX5_buy 130 = .ok (.i2l, 1) := by decide +kernel
theorem dX5_buy_131 : decode cX5_buy 131 = .ok (.invokevirtual 127, 3) := by decide +kernel
theorem dX5_buy_134 : decode cX5_buy 134 = .ok (.iload_n 3, 1) := by decide +kernel
theorem dX5_buy_135 : decode cX5_buy 135 = .ok (.i2l, 1) := by decide +kernel
theorem dX5_buy_136 : decode cX5_buy 136 = .ok (.invokevirtual 131, 3) := by decide +kernel
theorem dX5_buy_139 : decode cX5_buy 139 = .ok (.ireturn, 1) := by decide +kernel
set_option maxRecDepth 20000 in
theorem ggX5_sell_X5_isClient : GoodIn wsX5_sell wsX5_isClient := goodIn_r _ [9, 10, 11, 12, 8, 13, 60, 61, 62, 63, 64, 65, 66, 67, 68, 69, 70, 71, 72, 73, 74, 75, 76, 77, 78, 79, 80, 81, 82, 83, 84] (by decide +kernel) (by decide +kernel)
set_option maxRecDepth 20000 in
theorem gX5_sell_X5_isClient : GoodIn wsX5_sell (wsV RX5 90 RX5 yX5_isClient wsX5_isClient) := goodIn_app (goodIn_of _ (by decide +kernel)) ggX5_sell_X5_isClient
set_option maxRecDepth 20000 in
theorem ggX5_sell_X5_isFund : GoodIn wsX5_sell wsX5_isFund := goodIn_r _ [16, 11, 12, 8, 13] (by decide +kernel) (by decide +kernel)
set_option maxRecDepth 20000 in
theorem gX5_sell_X5_isFund : GoodIn wsX5_sell (va_wsS RX5 80 yX5_isFund wsX5_isFund) := goodIn_app (goodIn_of _ (by decide +kernel)) ggX5_sell_X5_isFund
set_option maxRecDepth 20000 in
theorem ggX5_sell_X5_isIn : GoodIn wsX5_sell wsX5_isIn := goodIn_r _ [13] (by decide +kernel) (by decide +kernel)
set_option maxRecDepth 20000 in
theorem gX5_sell_X5_isIn : GoodIn wsX5_sell (va_wsS RX5 73 yX5_isIn wsX5_isIn) := goodIn_app (goodIn_of _ (by decide +kernel)) ggX5_sell_X5_isIn
set_option maxRecDepth 20000 in
theorem ggX5_sell_X5_amountOf : GoodIn wsX5_sell wsX5_amountOf := goodIn_r _ [20, 21, 22, 60, 61, 62, 63, 64, 65, 66, 67, 68, 69, 70, 71, 72, 73, 74, 75, 76, 77, 78, 79, 80, 81, 82, 83, 84] (by decide +kernel) (by decide +kernel)
set_option maxRecDepth 20000 in
theorem gX5_sell_X5_amountOf : GoodIn wsX5_sell (wsV RX5 136 RX5 yX5_amountOf wsX5_amountOf) := goodIn_app (goodIn_of _ (by decide +kernel)) ggX5_sell_X5_amountOf
set_option maxRecDepth 20000 in
theorem ggX5_sell_X5_fails : GoodIn wsX5_sell wsX5_fails := goodIn_r _ [26, 27, 60, 61, 62, 63, 64, 65, 66, 67, 68, 69, 70, 71, 72, 73, 74, 75, 76, 77, 78, 79, 80, 81, 82, 83, 84] (by decide +kernel) (by decide +kernel)
set_option maxRecDepth 20000 in
theorem gX5_sell_X5_fails : GoodIn wsX5_sell (wsV RX5 85 RX5 yX5_fails wsX5_fails) := goodIn_app (goodIn_of _ (by decide +kernel)) ggX5_sell_X5_fails
set_option maxRecDepth 20000 in
theorem ggX5_sell_X5_notes : GoodIn wsX5_sell wsX5_notes := goodIn_r _ [31, 32, 2, 33, 34, 35, 36, 37, 38, 39, 40, 41, 8, 42, 43, 44, 45, 46, 47, 48, 49, 50, 51, 52, 53, 54, 55, 56, 57, 58, 22, 59, 21, 3, 60, 61, 62, 63, 64, 65, 66, 67, 68, 69, 70, 71, 72, 73, 74, 75, 76, 77, 78, 79, 80, 81, 82, 83, 84] (by decide +kernel) (by decide +kernel)
set_option maxRecDepth 20000 in
theorem gX5_sell_X5_notes : GoodIn wsX5_sell (wsV RX5 131 RX5 yX5_notes wsX5_notes) := goodIn_app (goodIn_of _ (by decide +kernel)) ggX5_sell_X5_notes
theorem dX5_sell_0 : decode cX5_sell 0 = .ok (.aload_n 0, 1) := by decide +kernel
theorem dX5_sell_1 : decode cX5_sell 1 = .ok (.iload_n 1, 1) := by decide +kernel
theorem dX5_sell_2 : decode cX5_sell 2 = .ok (.invokevirtual 90, 3) := by decide +kernel
theorem dX5_sell_5 : decode cX5_sell 5 = .ok (.ifCond .eq 14, 3) := by decide +kernel
theorem dX5_sell_8 : decode cX5_sell 8 = .ok (.iload_n 2, 1) := by decide +kernel
theorem dX5_sell_9 : decode cX5_sell 9 = .ok (.invokestatic 80, 3) := by decide +kernel
theorem dX5_sell_12 : decode cX5_sell 12 = .ok (.ifCond .eq 7, 3) := by decide +kernel
theorem dX5_sell_15 : decode cX5_sell 15 = .ok (.iconst 1, 1) := by decide +kernel
theorem dX5_sell_16 : decode cX5_sell 16 = .ok (.goto 4, 3) := by decide +kernel
theorem dX5_sell_19 : decode cX5_sell 19 = .ok (.iconst 0, 1) := by decide +kernel
theorem dX5_sell_20 : decode cX5_sell 20 = .ok (.istore 4, 2) := by decide +kernel
theorem dX5_sell_22 : decode cX5_sell 22 = .ok (.iload_n 3, 1) := by decide +kernel
theorem dX5_sell_23 : decode cX5_sell 23 = .ok (.iconst 1, 1) := by decide +kernel
theorem dX5_sell_24 : decode cX5_sell 24 = .ok (.ldc 135, 2) := by decide +kernel
theorem dX5_sell_26 : decode cX5_sell 26 = .ok (.invokestatic 73, 3) := by decide +kernel
theorem dX5_sell_29 : decode cX5_sell 29 = .ok (.istore 5, 2) := by decide +kernel
theorem dX5_sell_31 : decode cX5_sell 31 = .ok (.iload 4, 2) := by decide +kernel
theorem dX5_sell_33 : decode cX5_sell 33 = .ok (.ifCond .eq 13, 3) := by decide +kernel
theorem dX5_sell_36 : decode cX5_sell 36 = .ok (.aload_n 0, 1) := by decide +kernel
theorem dX5_sell_37 : decode cX5_sell 37 = .ok (.iload_n 2, 1) := by decide +kernel
theorem dX5_sell_38 : decode cX5_sell 38 = .ok (.iload_n 3, 1) := by decide +kernel
theorem dX5_sell_39 : decode cX5_sell 39 = .ok (.i2l, 1) := by decide +kernel
theorem dX5_sell_40 : decode cX5_sell 40 = .ok (.invokevirtual 136, 3) := by decide +kernel
theorem dX5_sell_43 : decode cX5_sell 43 = .ok (.goto 4, 3) := by decide +kernel
theorem dX5_sell_46 : decode cX5_sell 46 = .ok (.lconst 0, 1) := by decide +kernel
theorem dX5_sell_47 : decode cX5_sell 47 = .ok (.lstore 6, 2) := by decide +kernel
theorem dX5_sell_49 : decode cX5_sell 49 = .ok (.iload 4, 2) := by decide +kernel
theorem dX5_sell_51 : decode cX5_sell 51 = .ok (.ifCond .eq 49, 3) := by decide +kernel
theorem dX5_sell_54 : decode cX5_sell 54 = .ok (.aload_n 0, 1) := by decide +kernel
theorem dX5_sell_55 : decode cX5_sell 55 = .ok (.getfield 109, 3) := by decide +kernel
theorem dX5_sell_58 : decode cX5_sell 58 = .ok (.bipush 120, 2) := by decide +kernel
theorem dX5_sell_60 : decode cX5_sell 60 = .ok (.if_icmp .ge 40, 3) := by decide +kernel
theorem dX5_sell_63 : decode cX5_sell 63 = .ok (.aload_n 0, 1) := by decide +kernel
theorem dX5_sell_64 : decode cX5_sell 64 = .ok (.getfield 26, 3) := by decide +kernel
theorem dX5_sell_67 : decode cX5_sell 67 = .ok (.bipush 6, 2) := by decide +kernel
theorem dX5_sell_69 : decode cX5_sell 69 = .ok (.iload_n 1, 1) := by decide +kernel
theorem dX5_sell_70 : decode cX5_sell 70 = .ok (.imul, 1) := by decide +kernel
theorem dX5_sell_71 : decode cX5_sell 71 = .ok (.iload_n 2, 1) := by decide +kernel
theorem dX5_sell_72 : decode cX5_sell 72 = .ok (.iadd, 1) := by decide +kernel
theorem dX5_sell_73 : decode cX5_sell 73 = .ok (.laload, 1) := by decide +kernel
theorem dX5_sell_74 : decode cX5_sell 74 = .ok (.iload_n 3, 1) := by decide +kernel
theorem dX5_sell_75 : decode cX5_sell 75 = .ok (.i2l, 1) := by decide +kernel
theorem dX5_sell_76 : decode cX5_sell 76 = .ok (.lcmp, 1) := by decide +kernel
theorem dX5_sell_77 : decode cX5_sell 77 = .ok (.ifCond .lt 23, 3) := by decide +kernel
theorem dX5_sell_80 : decode cX5_sell 80 = .ok (.lload 6, 2) := by decide +kernel
theorem dX5_sell_82 : decode cX5_sell 82 = .ok (.lconst 0, 1) := by decide +kernel
theorem dX5_sell_83 : decode cX5_sell 83 = .ok (.lcmp, 1) := by decide +kernel
theorem dX5_sell_84 : decode cX5_sell 84 = .ok (.ifCond .le 16, 3) := by decide +kernel
theorem dX5_sell_87 : decode cX5_sell 87 = .ok (.lload 6, 2) := by decide +kernel
theorem dX5_sell_89 : decode cX5_sell 89 = .ok (.ldc2_w 139, 3) := by decide +kernel
theorem dX5_sell_92 : decode cX5_sell 92 = .ok (.lcmp, 1) := by decide +kernel
theorem dX5_sell_93 : decode cX5_sell 93 = .ok (.ifCond .gt 7, 3) := by decide +kernel
theorem dX5_sell_96 : decode cX5_sell 96 = .ok (.iconst 1, 1) := by decide +kernel
theorem dX5_sell_97 : decode cX5_sell 97 = .ok (.goto 4, 3) := by decide +kernel
theorem dX5_sell_100 : decode cX5_sell 100 = .ok (.iconst 0, 1) := by decide +kernel
theorem dX5_sell_101 : decode cX5_sell 101 = .ok (.istore 8, 2) := by decide +kernel
theorem dX5_sell_103 : decode cX5_sell 103 = .ok (.aload_n 0, 1) := by decide +kernel
theorem dX5_sell_104 : decode cX5_sell 104 = .ok (.iload 4, 2) := by decide +kernel
theorem dX5_sell_106 : decode cX5_sell 106 = .ok (.ifCond .ne 7, 3) := by decide +kernel
theorem dX5_sell_109 : decode cX5_sell 109 = .ok (.iconst 1, 1) := by decide +kernel
theorem dX5_sell_110 : decode cX5_sell 110 = .ok (.goto 22, 3) := by decide +kernel
theorem dX5_sell_113 : decode cX5_sell 113 = .ok (.iload 5, 2) := by decide +kernel
theorem dX5_sell_115 : decode cX5_sell 115 = .ok (.ifCond .ne 7, 3) := by decide +kernel
theorem dX5_sell_118 : decode cX5_sell 118 = .ok (.iconst 2, 1) := by decide +kernel
theorem dX5_sell_119 : decode cX5_sell 119 = .ok (.goto 13, 3) := by decide +kernel
theorem dX5_sell_122 : decode cX5_sell 122 = .ok (.iload 8, 2) := by decide +kernel
theorem dX5_sell_124 : decode cX5_sell 124 = .ok (.ifCond .eq 7, 3) := by decide +kernel
theorem dX5_sell_127 : decode cX5_sell 127 = .ok (.iconst 0, 1) := by decide +kernel
theorem dX5_sell_128 : decode cX5_sell 128 = .ok (.goto 4, 3) := by decide +kernel
theorem dX5_sell_131 : decode cX5_sell 131 = .ok (.iconst 3, 1) := by decide +kernel
theorem dX5_sell_132 : decode cX5_sell 132 = .ok (.invokevirtual 85, 3) := by decide +kernel
theorem dX5_sell_135 : decode cX5_sell 135 = .ok (.ifCond .eq 5, 3) := by decide +kernel
theorem dX5_sell_138 : decode cX5_sell 138 = .ok (.iconst 0, 1) := by decide +kernel
theorem dX5_sell_139 : decode cX5_sell 139 = .ok (.ireturn, 1) := by decide +kernel
theorem dX5_sell_140 : decode cX5_sell 140 = .ok (.aload_n 0, 1) := by decide +kernel
theorem dX5_sell_141 : decode cX5_sell 141 = .ok (.iload_n 1, 1) := by decide +kernel
theorem dX5_sell_142 : decode cX5_sell 142 = .ok (.iload_n 2, 1) := by decide +kernel
theorem dX5_sell_143 : decode cX5_sell 143 = .ok (.iload_n 3, 1) := by decide +kernel
theorem dX5_sell_144 : decode cX5_sell 144 = .ok (.ineg, 1) := by decide +kernel
theorem dX5_sell_145 : decode cX5_sell 145 = .ok (.i2l, 1) := by decide +kernel
theorem dX5_sell_146 : decode cX5_sell 146 = .ok (.lload 6, 2) := by decide +kernel
theorem dX5_sell_148 : decode cX5_sell 148 = .ok (.invokevirtual 131, 3) := by decide +kernel
theorem dX5_sell_151 : decode cX5_sell 151 = .ok (.ireturn, 1) := by decide +kernel
set_option maxRecDepth 20000 in
theorem ggX5_valueOf_X5_amountOf : GoodIn wsX5_valueOf wsX5_amountOf := goodIn_r _ [6, 7, 8, 9, 10, 11, 12, 13, 14, 15, 16, 17, 18, 19, 20, 21, 22, 23, 24, 25, 26, 27, 28, 29, 30, 31, 32, 33] (by decide +kernel) (by decide +kernel)
set_option maxRecDepth 20000 in
theorem gX5_valueOf_X5_amountOf : GoodIn wsX5_valueOf (wsV RX5 136 RX5 yX5_amountOf wsX5_amountOf) := goodIn_app (goodIn_of _ (by decide +kernel)) ggX5_valueOf_X5_amountOf
theorem dX5_valueOf_0 : decode cX5_valueOf 0 = .ok (.aload_n 0, 1) := by decide +kernel
theorem dX5_valueOf_1 : decode cX5_valueOf 1 = .ok (.iload_n 2, 1) := by decide +kernel
theorem dX5_valueOf_2 : decode cX5_valueOf 2 = .ok (.aload_n 0, 1) := by decide +kernel
theorem dX5_valueOf_3 : decode cX5_valueOf 3 = .ok (.getfield 26, 3) := by decide +kernel
theorem dX5_valueOf_6 : decode cX5_valueOf 6 = .ok (.bipush 6, 2) := by decide +kernel
theorem dX5_valueOf_8 : decode cX5_valueOf 8 = .ok (.iload_n 1, 1) := by decide +kernel
theorem dX5_valueOf_9 : decode cX5_valueOf 9 = .ok (.imul, 1) := by decide +kernel
theorem dX5_valueOf_10 : decode cX5_valueOf 10 = .ok (.iload_n 2, 1) := by decide +kernel
theorem dX5_valueOf_11 : decode cX5_valueOf 11 = .ok (.iadd, 1) := by decide +kernel
theorem dX5_valueOf_12 : decode cX5_valueOf 12 = .ok (.laload, 1) := by decide +kernel
theorem dX5_valueOf_13 : decode cX5_valueOf 13 = .ok (.invokevirtual 136, 3) := by decide +kernel
theorem dX5_valueOf_16 : decode cX5_valueOf 16 = .ok (.lreturn, 1) := by decide +kernel
set_option maxRecDepth 20000 in
theorem ggX5_wealthOf_X5_valueOf : GoodIn wsX5_wealthOf wsX5_valueOf := goodIn_r _ [6, 7, 8, 9, 10, 5, 11, 12, 13, 14, 15, 16, 17, 18, 19, 20, 21, 22, 23, 24, 25, 26, 27, 28, 29, 30, 31, 32, 33, 34, 35, 36, 37, 38] (by decide +kernel) (by decide +kernel)
set_option maxRecDepth 20000 in
theorem gX5_wealthOf_X5_valueOf : GoodIn wsX5_wealthOf (wsV RX5 141 RX5 yX5_valueOf wsX5_valueOf) := goodIn_app (goodIn_of _ (by decide +kernel)) ggX5_wealthOf_X5_valueOf
theorem dX5_wealthOf_0 : decode cX5_wealthOf 0 = .ok (.aload_n 0, 1) := by decide +kernel
theorem dX5_wealthOf_1 : decode cX5_wealthOf 1 = .ok (.getfield 20, 3) := by decide +kernel
theorem dX5_wealthOf_4 : decode cX5_wealthOf 4 = .ok (.iload_n 1, 1) := by decide +kernel
theorem dX5_wealthOf_5 : decode cX5_wealthOf 5 = .ok (.laload, 1) := by decide +kernel
theorem dX5_wealthOf_6 : decode cX5_wealthOf 6 = .ok (.lstore_n 2, 1) := by decide +kernel
theorem dX5_wealthOf_7 : decode cX5_wealthOf 7 = .ok (.iconst 0, 1) := by decide +kernel
theorem dX5_wealthOf_8 : decode cX5_wealthOf 8 = .ok (.istore 4, 2) := by decide +kernel
theorem dX5_wealthOf_10 : decode cX5_wealthOf 10 = .ok (.iload 4, 2) := by decide +kernel
theorem dX5_wealthOf_12 : decode cX5_wealthOf 12 = .ok (.bipush 6, 2) := by decide +kernel
theorem dX5_wealthOf_14 : decode cX5_wealthOf 14 = .ok (.if_icmp .ge 19, 3) := by decide +kernel
theorem dX5_wealthOf_17 : decode cX5_wealthOf 17 = .ok (.lload_n 2, 1) := by decide +kernel
theorem dX5_wealthOf_18 : decode cX5_wealthOf 18 = .ok (.aload_n 0, 1) := by decide +kernel
theorem dX5_wealthOf_19 : decode cX5_wealthOf 19 = .ok (.iload_n 1, 1) := by decide +kernel
theorem dX5_wealthOf_20 : decode cX5_wealthOf 20 = .ok (.iload 4, 2) := by decide +kernel
theorem dX5_wealthOf_22 : decode cX5_wealthOf 22 = .ok (.invokevirtual 141, 3) := by decide +kernel
theorem dX5_wealthOf_25 : decode cX5_wealthOf 25 = .ok (.ladd, 1) := by decide +kernel
theorem dX5_wealthOf_26 : decode cX5_wealthOf 26 = .ok (.lstore_n 2, 1) := by decide +kernel
theorem dX5_wealthOf_27 : decode cX5_wealthOf 27 = .ok (.iinc 4 1, 3) := by decide +kernel
theorem dX5_wealthOf_30 : decode cX5_wealthOf 30 = .ok (.goto (-20), 3) := by decide +kernel
theorem dX5_wealthOf_33 : decode cX5_wealthOf 33 = .ok (.lload_n 2, 1) := by decide +kernel
theorem dX5_wealthOf_34 : decode cX5_wealthOf 34 = .ok (.lreturn, 1) := by decide +kernel
set_option maxRecDepth 20000 in
theorem ggX5_sells_X5_valueOf : GoodIn wsX5_sells wsX5_valueOf := goodIn_r _ [5, 6, 7, 8, 9, 4, 10, 11, 12, 50, 51, 52, 53, 54, 55, 56, 57, 58, 59, 60, 61, 62, 63, 64, 65, 66, 67, 68, 69, 70, 71, 72, 73, 74] (by decide +kernel) (by decide +kernel)
set_option maxRecDepth 20000 in
theorem gX5_sells_X5_valueOf : GoodIn wsX5_sells (wsV RX5 141 RX5 yX5_valueOf wsX5_valueOf) := goodIn_app (goodIn_of _ (by decide +kernel)) ggX5_sells_X5_valueOf
set_option maxRecDepth 20000 in
theorem ggX5_sells_X5_partsFor : GoodIn wsX5_sells wsX5_partsFor := goodIn_r _ [16, 12, 11, 50, 51, 52, 53, 54, 55, 56, 57, 58, 59, 60, 61, 62, 63, 64, 65, 66, 67, 68, 69, 70, 71, 72, 73, 74] (by decide +kernel) (by decide +kernel)
set_option maxRecDepth 20000 in
theorem gX5_sells_X5_partsFor : GoodIn wsX5_sells (wsV RX5 127 RX5 yX5_partsFor wsX5_partsFor) := goodIn_app (goodIn_of _ (by decide +kernel)) ggX5_sells_X5_partsFor
set_option maxRecDepth 20000 in
theorem ggX5_sells_X5_amountOf : GoodIn wsX5_sells wsX5_amountOf := goodIn_r _ [10, 11, 12, 50, 51, 52, 53, 54, 55, 56, 57, 58, 59, 60, 61, 62, 63, 64, 65, 66, 67, 68, 69, 70, 71, 72, 73, 74] (by decide +kernel) (by decide +kernel)
set_option maxRecDepth 20000 in
theorem gX5_sells_X5_amountOf : GoodIn wsX5_sells (wsV RX5 136 RX5 yX5_amountOf wsX5_amountOf) := goodIn_app (goodIn_of _ (by decide +kernel)) ggX5_sells_X5_amountOf
set_option maxRecDepth 20000 in
theorem ggX5_sells_X5_notes : GoodIn wsX5_sells wsX5_notes := goodIn_r _ [20, 21, 22, 23, 24, 25, 26, 27, 28, 29, 30, 31, 4, 32, 33, 34, 35, 36, 37, 38, 39, 40, 41, 42, 43, 44, 45, 46, 47, 48, 12, 49, 11, 6, 50, 51, 52, 53, 54, 55, 56, 57, 58, 59, 60, 61, 62, 63, 64, 65, 66, 67, 68, 69, 70, 71, 72, 73, 74] (by decide +kernel) (by decide +kernel)
set_option maxRecDepth 20000 in
theorem gX5_sells_X5_notes : GoodIn wsX5_sells (wsV RX5 131 RX5 yX5_notes wsX5_notes) := goodIn_app (goodIn_of _ (by decide +kernel)) ggX5_sells_X5_notes
theorem dX5_sells_0 : decode cX5_sells 0 = .ok (.aload_n 0, 1) := by decide +kernel
theorem dX5_sells_1 : decode cX5_sells 1 = .ok (.iload_n 1, 1) := by decide +kernel
theorem dX5_sells_2 : decode cX5_sells 2 = .ok (.iload_n 2, 1) := by decide +kernel
theorem dX5_sells_3 : decode cX5_sells 3 = .ok (.invokevirtual 141, 3) := by decide +kernel
theorem dX5_sells_6 : decode cX5_sells 6 = .ok (.lload_n 3, 1) := by decide +kernel
theorem dX5_sells_7 : decode cX5_sells 7 = .ok (.lsub, 1) := by decide +kernel
theorem dX5_sells_8 : decode cX5_sells 8 = .ok (.lstore 5, 2) := by decide +kernel
theorem dX5_sells_10 : decode cX5_sells 10 = .ok (.lload 5, 2) := by decide +kernel
theorem dX5_sells_12 : decode cX5_sells 12 = .ok (.lconst 0, 1) := by decide +kernel
theorem dX5_sells_13 : decode cX5_sells 13 = .ok (.lcmp, 1) := by decide +kernel
theorem dX5_sells_14 : decode cX5_sells 14 = .ok (.ifCond .le 13, 3) := by decide +kernel
theorem dX5_sells_17 : decode cX5_sells 17 = .ok (.aload_n 0, 1) := by decide +kernel
theorem dX5_sells_18 : decode cX5_sells 18 = .ok (.iload_n 2, 1) := by decide +kernel
theorem dX5_sells_19 : decode cX5_sells 19 = .ok (.lload 5, 2) := by decide +kernel
theorem dX5_sells_21 : decode cX5_sells 21 = .ok (.invokevirtual 127, 3) := by decide +kernel
theorem dX5_sells_24 : decode cX5_sells 24 = .ok (.goto 4, 3) := by decide +kernel
theorem dX5_sells_27 : decode cX5_sells 27 = .ok (.lconst 0, 1) := by decide +kernel
theorem dX5_sells_28 : decode cX5_sells 28 = .ok (.lstore 7, 2) := by decide +kernel
theorem dX5_sells_30 : decode cX5_sells 30 = .ok (.lload 7, 2) := by decide +kernel
theorem dX5_sells_32 : decode cX5_sells 32 = .ok (.lconst 0, 1) := by decide +kernel
theorem dX5_sells_33 : decode cX5_sells 33 = .ok (.lcmp, 1) := by decide +kernel
theorem dX5_sells_34 : decode cX5_sells 34 = .ok (.ifCond .eq 15, 3) := by decide +kernel
theorem dX5_sells_37 : decode cX5_sells 37 = .ok (.aload_n 0, 1) := by decide +kernel
theorem dX5_sells_38 : decode cX5_sells 38 = .ok (.iload_n 2, 1) := by decide +kernel
theorem dX5_sells_39 : decode cX5_sells 39 = .ok (.lload 7, 2) := by decide +kernel
theorem dX5_sells_41 : decode cX5_sells 41 = .ok (.invokevirtual 136, 3) := by decide +kernel
theorem dX5_sells_44 : decode cX5_sells 44 = .ok (.lconst 0, 1) := by decide +kernel
theorem dX5_sells_45 : decode cX5_sells 45 = .ok (.lcmp, 1) := by decide +kernel
theorem dX5_sells_46 : decode cX5_sells 46 = .ok (.ifCond .ne 5, 3) := by decide +kernel
theorem dX5_sells_49 : decode cX5_sells 49 = .ok (.iconst 0, 1) := by decide +kernel
theorem dX5_sells_50 : decode cX5_sells 50 = .ok (.ireturn, 1) := by decide +kernel
theorem dX5_sells_51 : decode cX5_sells 51 = .ok (.aload_n 0, 1) := by decide +kernel
theorem dX5_sells_52 : decode cX5_sells 52 = .ok (.iload_n 1, 1) := by decide +kernel
theorem dX5_sells_53 : decode cX5_sells 53 = .ok (.iload_n 2, 1) := by decide +kernel
theorem dX5_sells_54 : decode cX5_sells 54 = .ok (.lload 7, 2) := by decide +kernel
theorem dX5_sells_56 : decode cX5_sells 56 = .ok (.lneg, 1) := by decide +kernel
theorem dX5_sells_57 : decode cX5_sells 57 = .ok (.aload_n 0, 1) := by decide +kernel
theorem dX5_sells_58 : decode cX5_sells 58 = .ok (.iload_n 2, 1) := by decide +kernel
theorem dX5_sells_59 : decode cX5_sells 59 = .ok (.lload 7, 2) := by decide +kernel
theorem dX5_sells_61 : decode cX5_sells 61 = .ok (.invokevirtual 136, 3) := by decide +kernel
theorem dX5_sells_64 : decode cX5_sells 64 = .ok (.invokevirtual 131, 3) := by decide +kernel
theorem dX5_sells_67 : decode cX5_sells 67 = .ok (.pop, 1) := by decide +kernel
theorem dX5_sells_68 : decode cX5_sells 68 = .ok (.iconst 1, 1) := by decide +kernel
theorem dX5_sells_69 : decode cX5_sells 69 = .ok (.ireturn, 1) := by decide +kernel
set_option maxRecDepth 20000 in
theorem ggX5_buys_X5_valueOf : GoodIn wsX5_buys wsX5_valueOf := goodIn_r _ [7, 8, 9, 10, 11, 6, 12, 13, 14, 50, 51, 52, 53, 54, 55, 56, 57, 58, 59, 60, 61, 62, 63, 64, 65, 66, 67, 68, 69, 70, 71, 72, 73, 74] (by decide +kernel) (by decide +kernel)
set_option maxRecDepth 20000 in
theorem gX5_buys_X5_valueOf : GoodIn wsX5_buys (wsV RX5 141 RX5 yX5_valueOf wsX5_valueOf) := goodIn_app (goodIn_of _ (by decide +kernel)) ggX5_buys_X5_valueOf
set_option maxRecDepth 20000 in
theorem ggX5_buys_X5_partsFor : GoodIn wsX5_buys wsX5_partsFor := goodIn_r _ [18, 14, 13, 50, 51, 52, 53, 54, 55, 56, 57, 58, 59, 60, 61, 62, 63, 64, 65, 66, 67, 68, 69, 70, 71, 72, 73, 74] (by decide +kernel) (by decide +kernel)
set_option maxRecDepth 20000 in
theorem gX5_buys_X5_partsFor : GoodIn wsX5_buys (wsV RX5 127 RX5 yX5_partsFor wsX5_partsFor) := goodIn_app (goodIn_of _ (by decide +kernel)) ggX5_buys_X5_partsFor
set_option maxRecDepth 20000 in
theorem ggX5_buys_X5_notes : GoodIn wsX5_buys wsX5_notes := goodIn_r _ [22, 23, 24, 25, 26, 27, 28, 29, 30, 31, 32, 33, 6, 34, 35, 2, 36, 37, 38, 39, 40, 41, 42, 1, 43, 44, 45, 46, 47, 48, 14, 49, 13, 8, 50, 51, 52, 53, 54, 55, 56, 57, 58, 59, 60, 61, 62, 63, 64, 65, 66, 67, 68, 69, 70, 71, 72, 73, 74] (by decide +kernel) (by decide +kernel)
set_option maxRecDepth 20000 in
theorem gX5_buys_X5_notes : GoodIn wsX5_buys (wsV RX5 131 RX5 yX5_notes wsX5_notes) := goodIn_app (goodIn_of _ (by decide +kernel)) ggX5_buys_X5_notes
theorem dX5_buys_0 : decode cX5_buys 0 = .ok (.lload_n 3, 1) := by decide +kernel
theorem dX5_buys_1 : decode cX5_buys 1 = .ok (.aload_n 0, 1) := by decide +kernel
theorem dX5_buys_2 : decode cX5_buys 2 = .ok (.iload_n 1, 1) := by decide +kernel
theorem dX5_buys_3 : decode cX5_buys 3 = .ok (.iload_n 2, 1) := by decide +kernel
theorem dX5_buys_4 : decode cX5_buys 4 = .ok (.invokevirtual 141, 3) := by decide +kernel
theorem dX5_buys_7 : decode cX5_buys 7 = .ok (.lsub, 1) := by decide +kernel
theorem dX5_buys_8 : decode cX5_buys 8 = .ok (.lstore 5, 2) := by decide +kernel
theorem dX5_buys_10 : decode cX5_buys 10 = .ok (.aload_n 0, 1) := by decide +kernel
theorem dX5_buys_11 : decode cX5_buys 11 = .ok (.getfield 20, 3) := by decide +kernel
theorem dX5_buys_14 : decode cX5_buys 14 = .ok (.iload_n 1, 1) := by decide +kernel
theorem dX5_buys_15 : decode cX5_buys 15 = .ok (.laload, 1) := by decide +kernel
theorem dX5_buys_16 : decode cX5_buys 16 = .ok (.aload_n 0, 1) := by decide +kernel
theorem dX5_buys_17 : decode cX5_buys 17 = .ok (.getfield 20, 3) := by decide +kernel
theorem dX5_buys_20 : decode cX5_buys 20 = .ok (.iload_n 1, 1) := by decide +kernel
theorem dX5_buys_21 : decode cX5_buys 21 = .ok (.laload, 1) := by decide +kernel
theorem dX5_buys_22 : decode cX5_buys 22 = .ok (.ldc2_w 95, 3) := by decide +kernel
theorem dX5_buys_25 : decode cX5_buys 25 = .ok (.ldiv, 1) := by decide +kernel
theorem dX5_buys_26 : decode cX5_buys 26 = .ok (.lsub, 1) := by decide +kernel
theorem dX5_buys_27 : decode cX5_buys 27 = .ok (.lstore 7, 2) := by decide +kernel
theorem dX5_buys_29 : decode cX5_buys 29 = .ok (.lload 5, 2) := by decide +kernel
theorem dX5_buys_31 : decode cX5_buys 31 = .ok (.lload 7, 2) := by decide +kernel
theorem dX5_buys_33 : decode cX5_buys 33 = .ok (.lcmp, 1) := by decide +kernel
theorem dX5_buys_34 : decode cX5_buys 34 = .ok (.ifCond .ge 8, 3) := by decide +kernel
theorem dX5_buys_37 : decode cX5_buys 37 = .ok (.lload 5, 2) := by decide +kernel
theorem dX5_buys_39 : decode cX5_buys 39 = .ok (.goto 5, 3) := by decide +kernel
theorem dX5_buys_42 : decode cX5_buys 42 = .ok (.lload 7, 2) := by decide +kernel
theorem dX5_buys_44 : decode cX5_buys 44 = .ok (.lstore 9, 2) := by decide +kernel
theorem dX5_buys_46 : decode cX5_buys 46 = .ok (.lload 9, 2) := by decide +kernel
theorem dX5_buys_48 : decode cX5_buys 48 = .ok (.lconst 0, 1) := by decide +kernel
theorem dX5_buys_49 : decode cX5_buys 49 = .ok (.lcmp, 1) := by decide +kernel
theorem dX5_buys_50 : decode cX5_buys 50 = .ok (.ifCond .le 15, 3) := by decide +kernel
theorem dX5_buys_53 : decode cX5_buys 53 = .ok (.aload_n 0, 1) := by decide +kernel
theorem dX5_buys_54 : decode cX5_buys 54 = .ok (.iload_n 2, 1) := by decide +kernel
theorem dX5_buys_55 : decode cX5_buys 55 = .ok (.lload 9, 2) := by decide +kernel
theorem dX5_buys_57 : decode cX5_buys 57 = .ok (.invokevirtual 127, 3) := by decide +kernel
theorem dX5_buys_60 : decode cX5_buys 60 = .ok (.lconst 0, 1) := by decide +kernel
theorem dX5_buys_61 : decode cX5_buys 61 = .ok (.lcmp, 1) := by decide +kernel
theorem dX5_buys_62 : decode cX5_buys 62 = .ok (.ifCond .ne 5, 3) := by decide +kernel
theorem dX5_buys_65 : decode cX5_buys 65 = .ok (.iconst 0, 1) := by decide +kernel
theorem dX5_buys_66 : decode cX5_buys 66 = .ok (.ireturn, 1) := by decide +kernel
theorem dX5_buys_67 : decode cX5_buys 67 = .ok (.aload_n 0, 1) := by decide +kernel
theorem dX5_buys_68 : decode cX5_buys 68 = .ok (.iload_n 1, 1) := by decide +kernel
theorem dX5_buys_69 : decode cX5_buys 69 = .ok (.iload_n 2, 1) := by decide +kernel
theorem dX5_buys_70 : decode cX5_buys 70 = .ok (.aload_n 0, 1) := by decide +kernel
theorem dX5_buys_71 : decode cX5_buys 71 = .ok (.iload_n 2, 1) := by decide +kernel
theorem dX5_buys_72 : decode cX5_buys 72 = .ok (.lload 9, 2) := by decide +kernel
theorem dX5_buys_74 : decode cX5_buys 74 = .ok (.invokevirtual 127, 3) := by decide +kernel
theorem dX5_buys_77 : decode cX5_buys 77 = .ok (.lload 9, 2) := by decide +kernel
theorem dX5_buys_79 : decode cX5_buys 79 = .ok (.invokevirtual 131, 3) := by decide +kernel
theorem dX5_buys_82 : decode cX5_buys 82 = .ok (.pop, 1) := by decide +kernel
theorem dX5_buys_83 : decode cX5_buys 83 = .ok (.iconst 1, 1) := by decide +kernel
theorem dX5_buys_84 : decode cX5_buys 84 = .ok (.ireturn, 1) := by decide +kernel
set_option maxRecDepth 20000 in
theorem ggX5_balance_X5_isClient : GoodIn wsX5_balance wsX5_isClient := goodIn_r _ [9, 10, 11, 12, 8, 13, 77, 78, 79, 80, 81, 82, 83, 84, 85, 86, 87, 88, 89, 90, 91, 92, 93, 94, 95, 96, 97, 98, 99, 100, 101] (by decide +kernel) (by decide +kernel)
set_option maxRecDepth 20000 in
theorem gX5_balance_X5_isClient : GoodIn wsX5_balance (wsV RX5 90 RX5 yX5_isClient wsX5_isClient) := goodIn_app (goodIn_of _ (by decide +kernel)) ggX5_balance_X5_isClient
set_option maxRecDepth 20000 in
theorem ggX5_balance_X5_wealthOf : GoodIn wsX5_balance wsX5_wealthOf := goodIn_r _ [17, 18, 19, 20, 21, 8, 22, 23, 24, 25, 26, 27, 28, 29, 77, 78, 79, 80, 81, 82, 83, 84, 85, 86, 87, 88, 89, 90, 91, 92, 93, 94, 95, 96, 97, 98, 99, 100, 101] (by decide +kernel) (by decide +kernel)
set_option maxRecDepth 20000 in
theorem gX5_balance_X5_wealthOf : GoodIn wsX5_balance (wsV RX5 145 RX5 yX5_wealthOf wsX5_wealthOf) := goodIn_app (goodIn_of _ (by decide +kernel)) ggX5_balance_X5_wealthOf
set_option maxRecDepth 20000 in
theorem ggX5_balance_X5_fails : GoodIn wsX5_balance wsX5_fails := goodIn_r _ [33, 34, 77, 78, 79, 80, 81, 82, 83, 84, 85, 86, 87, 88, 89, 90, 91, 92, 93, 94, 95, 96, 97, 98, 99, 100, 101] (by decide +kernel) (by decide +kernel)
set_option maxRecDepth 20000 in
theorem gX5_balance_X5_fails : GoodIn wsX5_balance (wsV RX5 85 RX5 yX5_fails wsX5_fails) := goodIn_app (goodIn_of _ (by decide +kernel)) ggX5_balance_X5_fails
set_option maxRecDepth 20000 in
theorem ggX5_balance_X5_sells : GoodIn wsX5_balance wsX5_sells := goodIn_r _ [38, 19, 20, 21, 8, 22, 23, 24, 25, 26, 27, 28, 29, 39, 40, 41, 42, 43, 44, 45, 46, 47, 1, 48, 49, 50, 51, 52, 53, 54, 55, 56, 57, 58, 4, 59, 60, 61, 62, 63, 64, 65, 18, 66, 67, 68, 69, 70, 71, 72, 77, 78, 79, 80, 81, 82, 83, 84, 85, 86, 87, 88, 89, 90, 91, 92, 93, 94, 95, 96, 97, 98, 99, 100, 101] (by decide +kernel) (by decide +kernel)
set_option maxRecDepth 20000 in
theorem gX5_balance_X5_sells : GoodIn wsX5_balance (wsV RX5 151 RX5 yX5_sells wsX5_sells) := goodIn_app (goodIn_of _ (by decide +kernel)) ggX5_balance_X5_sells
set_option maxRecDepth 20000 in
theorem ggX5_balance_X5_buys : GoodIn wsX5_balance wsX5_buys := goodIn_r _ [76, 18, 4, 19, 20, 21, 8, 22, 23, 24, 25, 26, 27, 28, 29, 39, 40, 41, 42, 43, 44, 45, 46, 47, 1, 48, 49, 50, 51, 52, 53, 54, 55, 56, 57, 58, 59, 60, 61, 62, 63, 64, 65, 66, 67, 68, 69, 70, 71, 72, 77, 78, 79, 80, 81, 82, 83, 84, 85, 86, 87, 88, 89, 90, 91, 92, 93, 94, 95, 96, 97, 98, 99, 100, 101] (by decide +kernel) (by decide +kernel)
set_option maxRecDepth 20000 in
theorem gX5_balance_X5_buys : GoodIn wsX5_balance (wsV RX5 155 RX5 yX5_buys wsX5_buys) := goodIn_app (goodIn_of _ (by decide +kernel)) ggX5_balance_X5_buys
theorem dX5_balance_0 : decode cX5_balance 0 = .ok (.aload_n 0, 1) := by decide +kernel
theorem dX5_balance_1 : decode cX5_balance 1 = .ok (.iload_n 1, 1) := by decide +kernel
theorem dX5_balance_2 : decode cX5_balance 2 = .ok (.invokevirtual 90, 3) := by decide +kernel
theorem dX5_balance_5 : decode cX5_balance 5 = .ok (.ifCond .eq 11, 3) := by decide +kernel
theorem dX5_balance_8 : decode cX5_balance 8 = .ok (.aload_n 0, 1) := by decide +kernel
theorem dX5_balance_9 : decode cX5_balance 9 = .ok (.iload_n 1, 1) := by decide +kernel
theorem dX5_balance_10 : decode cX5_balance 10 = .ok (.invokevirtual 145, 3) := by decide +kernel
theorem dX5_balance_13 : decode cX5_balance 13 = .ok (.goto 4, 3) := by decide +kernel
theorem dX5_balance_16 : decode cX5_balance 16 = .ok (.lconst 0, 1) := by decide +kernel
theorem dX5_balance_17 : decode cX5_balance 17 = .ok (.lstore_n 2, 1) := by decide +kernel
theorem dX5_balance_18 : decode cX5_balance 18 = .ok (.aload_n 0, 1) := by decide +kernel
theorem dX5_balance_19 : decode cX5_balance 19 = .ok (.aload_n 0, 1) := by decide +kernel
theorem dX5_balance_20 : decode cX5_balance 20 = .ok (.iload_n 1, 1) := by decide +kernel
theorem dX5_balance_21 : decode cX5_balance 21 = .ok (.invokevirtual 90, 3) := by decide +kernel
theorem dX5_balance_24 : decode cX5_balance 24 = .ok (.ifCond .ne 7, 3) := by decide +kernel
theorem dX5_balance_27 : decode cX5_balance 27 = .ok (.iconst 1, 1) := by decide +kernel
theorem dX5_balance_28 : decode cX5_balance 28 = .ok (.goto 31, 3) := by decide +kernel
theorem dX5_balance_31 : decode cX5_balance 31 = .ok (.aload_n 0, 1) := by decide +kernel
theorem dX5_balance_32 : decode cX5_balance 32 = .ok (.getfield 109, 3) := by decide +kernel
theorem dX5_balance_35 : decode cX5_balance 35 = .ok (.bipush 108, 2) := by decide +kernel
theorem dX5_balance_37 : decode cX5_balance 37 = .ok (.if_icmp .gt 17, 3) := by decide +kernel
theorem dX5_balance_40 : decode cX5_balance 40 = .ok (.lload_n 2, 1) := by decide +kernel
theorem dX5_balance_41 : decode cX5_balance 41 = .ok (.lconst 0, 1) := by decide +kernel
theorem dX5_balance_42 : decode cX5_balance 42 = .ok (.lcmp, 1) := by decide +kernel
theorem dX5_balance_43 : decode cX5_balance 43 = .ok (.ifCond .lt 11, 3) := by decide +kernel
theorem dX5_balance_46 : decode cX5_balance 46 = .ok (.lload_n 2, 1) := by decide +kernel
theorem dX5_balance_47 : decode cX5_balance 47 = .ok (.ldc2_w 149, 3) := by decide +kernel
theorem dX5_balance_50 : decode cX5_balance 50 = .ok (.lcmp, 1) := by decide +kernel
theorem dX5_balance_51 : decode cX5_balance 51 = .ok (.ifCond .le 7, 3) := by decide +kernel
theorem dX5_balance_54 : decode cX5_balance 54 = .ok (.iconst 2, 1) := by decide +kernel
theorem dX5_balance_55 : decode cX5_balance 55 = .ok (.goto 4, 3) := by decide +kernel
theorem dX5_balance_58 : decode cX5_balance 58 = .ok (.iconst 0, 1) := by decide +kernel
theorem dX5_balance_59 : decode cX5_balance 59 = .ok (.invokevirtual 85, 3) := by decide +kernel
theorem dX5_balance_62 : decode cX5_balance 62 = .ok (.ifCond .eq 5, 3) := by decide +kernel
theorem dX5_balance_65 : decode cX5_balance 65 = .ok (.iconst 0, 1) := by decide +kernel
theorem dX5_balance_66 : decode cX5_balance 66 = .ok (.ireturn, 1) := by decide +kernel
theorem dX5_balance_67 : decode cX5_balance 67 = .ok (.iconst 0, 1) := by decide +kernel
theorem dX5_balance_68 : decode cX5_balance 68 = .ok (.istore 4, 2) := by decide +kernel
theorem dX5_balance_70 : decode cX5_balance 70 = .ok (.iconst 0, 1) := by decide +kernel
theorem dX5_balance_71 : decode cX5_balance 71 = .ok (.istore 5, 2) := by decide +kernel
theorem dX5_balance_73 : decode cX5_balance 73 = .ok (.iload 5, 2) := by decide +kernel
theorem dX5_balance_75 : decode cX5_balance 75 = .ok (.bipush 6, 2) := by decide +kernel
theorem dX5_balance_77 : decode cX5_balance 77 = .ok (.if_icmp .ge 40, 3) := by decide +kernel
theorem dX5_balance_80 : decode cX5_balance 80 = .ok (.iload 4, 2) := by decide +kernel
theorem dX5_balance_82 : decode cX5_balance 82 = .ok (.aload_n 0, 1) := by decide +kernel
theorem dX5_balance_83 : decode cX5_balance 83 = .ok (.iload_n 1, 1) := by decide +kernel
theorem dX5_balance_84 : decode cX5_balance 84 = .ok (.iload 5, 2) := by decide +kernel
theorem dX5_balance_86 : decode cX5_balance 86 = .ok (.lload_n 2, 1) := by decide +kernel
theorem dX5_balance_87 : decode cX5_balance 87 = .ok (.aload_n 0, 1) := by decide +kernel
theorem dX5_balance_88 : decode cX5_balance 88 = .ok (.getfield 23, 3) := by decide +kernel
theorem dX5_balance_91 : decode cX5_balance 91 = .ok (.bipush 6, 2) := by decide +kernel
theorem dX5_balance_93 : decode cX5_balance 93 = .ok (.iload_n 1, 1) := by decide +kernel
theorem dX5_balance_94 : decode cX5_balance 94 = .ok (.imul, 1) := by decide +kernel
theorem dX5_balance_95 : decode cX5_balance 95 = .ok (.iload 5, 2) := by decide +kernel
theorem dX5_balance_97 : decode cX5_balance 97 = .ok (.iadd, 1) := by decide +kernel
theorem dX5_balance_98 : decode cX5_balance 98 = .ok (.iaload, 1) := by decide +kernel
theorem dX5_balance_99 : decode cX5_balance 99 = .ok (.i2l, 1) := by decide +kernel
theorem dX5_balance_100 : decode cX5_balance 100 = .ok (.lmul, 1) := by decide +kernel
theorem dX5_balance_101 : decode cX5_balance 101 = .ok (.ldc2_w 95, 3) := by decide +kernel
theorem dX5_balance_104 : decode cX5_balance 104 = .ok (.ldiv, 1) := by decide +kernel
theorem dX5_balance_105 : decode cX5_balance 105 = .ok (.invokevirtual 151, 3) := by decide +kernel
theorem dX5_balance_108 : decode cX5_balance 108 = .ok (.iadd, 1) := by decide +kernel
theorem dX5_balance_109 : decode cX5_balance 109 = .ok (.istore 4, 2) := by decide +kernel
theorem dX5_balance_111 : decode cX5_balance 111 = .ok (.iinc 5 1, 3) := by decide +kernel
theorem dX5_balance_114 : decode cX5_balance 114 = .ok (.goto (-41), 3) := by decide +kernel
theorem dX5_balance_117 : decode cX5_balance 117 = .ok (.iconst 0, 1) := by decide +kernel
theorem dX5_balance_118 : decode cX5_balance 118 = .ok (.istore 5, 2) := by decide +kernel
theorem dX5_balance_120 : decode cX5_balance 120 = .ok (.iload 5, 2) := by decide +kernel
theorem dX5_balance_122 : decode cX5_balance 122 = .ok (.bipush 6, 2) := by decide +kernel
theorem dX5_balance_124 : decode cX5_balance 124 = .ok (.if_icmp .ge 40, 3) := by decide +kernel
theorem dX5_balance_127 : decode cX5_balance 127 = .ok (.iload 4, 2) := by decide +kernel
theorem dX5_balance_129 : decode cX5_balance 129 = .ok (.aload_n 0, 1) := by decide +kernel
theorem dX5_balance_130 : decode cX5_balance 130 = .ok (.iload_n 1, 1) := by decide +kernel
theorem dX5_balance_131 : decode cX5_balance 131 = .ok (.iload 5, 2) := by decide +kernel
theorem dX5_balance_133 : decode cX5_balance 133 = .ok (.lload_n 2, 1) := by decide +kernel
theorem dX5_balance_134 : decode cX5_balance 134 = .ok (.aload_n 0, 1) := by decide +kernel
theorem dX5_balance_135 : decode cX5_balance 135 = .ok (.getfield 23, 3) := by decide +kernel
theorem dX5_balance_138 : decode cX5_balance 138 = .ok (.bipush 6, 2) := by decide +kernel
theorem dX5_balance_140 : decode cX5_balance 140 = .ok (.iload_n 1, 1) := by decide +kernel
theorem dX5_balance_141 : decode cX5_balance 141 = .ok (.imul, 1) := by decide +kernel
theorem dX5_balance_142 : decode cX5_balance 142 = .ok (.iload 5, 2) := by decide +kernel
theorem dX5_balance_144 : decode cX5_balance 144 = .ok (.iadd, 1) := by decide +kernel
theorem dX5_balance_145 : decode cX5_balance 145 = .ok (.iaload, 1) := by decide +kernel
theorem dX5_balance_146 : decode cX5_balance 146 = .ok (.i2l, 1) := by decide +kernel
theorem dX5_balance_147 : decode cX5_balance 147 = .ok (.lmul, 1) := by decide +kernel
theorem dX5_balance_148 : decode cX5_balance 148 = .ok (.ldc2_w 95, 3) := by decide +kernel
theorem dX5_balance_151 : decode cX5_balance 151 = .ok (.ldiv, 1) := by decide +kernel
theorem dX5_balance_152 : decode cX5_balance 152 = .ok (.invokevirtual 155, 3) := by decide +kernel
theorem dX5_balance_155 : decode cX5_balance 155 = .ok (.iadd, 1) := by decide +kernel
theorem dX5_balance_156 : decode cX5_balance 156 = .ok (.istore 4, 2) := by decide +kernel
theorem dX5_balance_158 : decode cX5_balance 158 = .ok (.iinc 5 1, 3) := by decide +kernel
theorem dX5_balance_161 : decode cX5_balance 161 = .ok (.goto (-41), 3) := by decide +kernel
theorem dX5_balance_164 : decode cX5_balance 164 = .ok (.iload 4, 2) := by decide +kernel
theorem dX5_balance_166 : decode cX5_balance 166 = .ok (.ireturn, 1) := by decide +kernel
theorem dX5_share_0 : decode cX5_share 0 = .ok (.lconst 0, 1) := by decide +kernel
theorem dX5_share_1 : decode cX5_share 1 = .ok (.lstore 6, 2) := by decide +kernel
theorem dX5_share_3 : decode cX5_share 3 = .ok (.lconst 0, 1) := by decide +kernel
theorem dX5_share_4 : decode cX5_share 4 = .ok (.lstore 8, 2) := by decide +kernel
theorem dX5_share_6 : decode cX5_share 6 = .ok (.bipush 50, 2) := by decide +kernel
theorem dX5_share_8 : decode cX5_share 8 = .ok (.istore 10, 2) := by decide +kernel
theorem dX5_share_10 : decode cX5_share 10 = .ok (.iload 10, 2) := by decide +kernel
theorem dX5_share_12 : decode cX5_share 12 = .ok (.ifCond .lt 47, 3) := by decide +kernel
theorem dX5_share_15 : decode cX5_share 15 = .ok (.ldc2_w 158, 3) := by decide +kernel
theorem dX5_share_18 : decode cX5_share 18 = .ok (.lload 8, 2) := by decide +kernel
theorem dX5_share_20 : decode cX5_share 20 = .ok (.lmul, 1) := by decide +kernel
theorem dX5_share_21 : decode cX5_share 21 = .ok (.lload_n 0, 1) := by decide +kernel
theorem dX5_share_22 : decode cX5_share 22 = .ok (.iload 10, 2) := by decide +kernel
theorem dX5_share_24 : decode cX5_share 24 = .ok (.lshr, 1) := by decide +kernel
theorem dX5_share_25 : decode cX5_share 25 = .ok (.lconst 1, 1) := by decide +kernel
theorem dX5_share_26 : decode cX5_share 26 = .ok (.land, 1) := by decide +kernel
theorem dX5_share_27 : decode cX5_share 27 = .ok (.lload_n 2, 1) := by decide +kernel
theorem dX5_share_28 : decode cX5_share 28 = .ok (.lmul, 1) := by decide +kernel
theorem dX5_share_29 : decode cX5_share 29 = .ok (.ladd, 1) := by decide +kernel
theorem dX5_share_30 : decode cX5_share 30 = .ok (.lstore 8, 2) := by decide +kernel
theorem dX5_share_32 : decode cX5_share 32 = .ok (.ldc2_w 158, 3) := by decide +kernel
theorem dX5_share_35 : decode cX5_share 35 = .ok (.lload 6, 2) := by decide +kernel
theorem dX5_share_37 : decode cX5_share 37 = .ok (.lmul, 1) := by decide +kernel
theorem dX5_share_38 : decode cX5_share 38 = .ok (.lload 8, 2) := by decide +kernel
theorem dX5_share_40 : decode cX5_share 40 = .ok (.lload 4, 2) := by decide +kernel
theorem dX5_share_42 : decode cX5_share 42 = .ok (.ldiv, 1) := by decide +kernel
theorem dX5_share_43 : decode cX5_share 43 = .ok (.ladd, 1) := by decide +kernel
theorem dX5_share_44 : decode cX5_share 44 = .ok (.lstore 6, 2) := by decide +kernel
theorem dX5_share_46 : decode cX5_share 46 = .ok (.lload 8, 2) := by decide +kernel
theorem dX5_share_48 : decode cX5_share 48 = .ok (.lload 4, 2) := by decide +kernel
theorem dX5_share_50 : decode cX5_share 50 = .ok (.lrem, 1) := by decide +kernel
theorem dX5_share_51 : decode cX5_share 51 = .ok (.lstore 8, 2) := by decide +kernel
theorem dX5_share_53 : decode cX5_share 53 = .ok (.iinc 10 (-1), 3) := by decide +kernel
theorem dX5_share_56 : decode cX5_share 56 = .ok (.goto (-46), 3) := by decide +kernel
theorem dX5_share_59 : decode cX5_share 59 = .ok (.lload 6, 2) := by decide +kernel
theorem dX5_share_61 : decode cX5_share 61 = .ok (.lreturn, 1) := by decide +kernel
set_option maxRecDepth 20000 in
theorem ggX5_takes_X5_share : GoodIn wsX5_takes wsX5_share := goodIn_r _ [7, 8] (by decide +kernel) (by decide +kernel)
set_option maxRecDepth 20000 in
theorem gX5_takes_X5_share : GoodIn wsX5_takes (va_wsS RX5 163 yX5_share wsX5_share) := goodIn_app (goodIn_of _ (by decide +kernel)) ggX5_takes_X5_share
theorem dX5_takes_0 : decode cX5_takes 0 = .ok (.lconst 0, 1) := by decide +kernel
theorem dX5_takes_1 : decode cX5_takes 1 = .ok (.lstore_n 3, 1) := by decide +kernel
theorem dX5_takes_2 : decode cX5_takes 2 = .ok (.lload_n 1, 1) := by decide +kernel
theorem dX5_takes_3 : decode cX5_takes 3 = .ok (.lstore 5, 2) := by decide +kernel
theorem dX5_takes_5 : decode cX5_takes 5 = .ok (.iconst 0, 1) := by decide +kernel
theorem dX5_takes_6 : decode cX5_takes 6 = .ok (.istore 7, 2) := by decide +kernel
theorem dX5_takes_8 : decode cX5_takes 8 = .ok (.iload 7, 2) := by decide +kernel
theorem dX5_takes_10 : decode cX5_takes 10 = .ok (.aload_n 0, 1) := by decide +kernel
theorem dX5_takes_11 : decode cX5_takes 11 = .ok (.getfield 160, 3) := by decide +kernel
theorem dX5_takes_14 : decode cX5_takes 14 = .ok (.if_icmp .ge 123, 3) := by decide +kernel
theorem dX5_takes_17 : decode cX5_takes 17 = .ok (.lload 5, 2) := by decide +kernel
theorem dX5_takes_19 : decode cX5_takes 19 = .ok (.aload_n 0, 1) := by decide +kernel
theorem dX5_takes_20 : decode cX5_takes 20 = .ok (.getfield 57, 3) := by decide +kernel
theorem dX5_takes_23 : decode cX5_takes 23 = .ok (.iload 7, 2) := by decide +kernel
theorem dX5_takes_25 : decode cX5_takes 25 = .ok (.laload, 1) := by decide +kernel
theorem dX5_takes_26 : decode cX5_takes 26 = .ok (.lcmp, 1) := by decide +kernel
theorem dX5_takes_27 : decode cX5_takes 27 = .ok (.ifCond .ge 8, 3) := by decide +kernel
theorem dX5_takes_30 : decode cX5_takes 30 = .ok (.lload 5, 2) := by decide +kernel
theorem dX5_takes_32 : decode cX5_takes 32 = .ok (.goto 10, 3) := by decide +kernel
theorem dX5_takes_35 : decode cX5_takes 35 = .ok (.aload_n 0, 1) := by decide +kernel
theorem dX5_takes_36 : decode cX5_takes 36 = .ok (.getfield 57, 3) := by decide +kernel
theorem dX5_takes_39 : decode cX5_takes 39 = .ok (.iload 7, 2) := by decide +kernel
theorem dX5_takes_41 : decode cX5_takes 41 = .ok (.laload, 1) := by decide +kernel
theorem dX5_takes_42 : decode cX5_takes 42 = .ok (.lstore 8, 2) := by decide +kernel
theorem dX5_takes_44 : decode cX5_takes 44 = .ok (.lload 8, 2) := by decide +kernel
theorem dX5_takes_46 : decode cX5_takes 46 = .ok (.lconst 0, 1) := by decide +kernel
theorem dX5_takes_47 : decode cX5_takes 47 = .ok (.lcmp, 1) := by decide +kernel
theorem dX5_takes_48 : decode cX5_takes 48 = .ok (.ifCond .le 83, 3) := by decide +kernel
theorem dX5_takes_51 : decode cX5_takes 51 = .ok (.lload 8, 2) := by decide +kernel
theorem dX5_takes_53 : decode cX5_takes 53 = .ok (.aload_n 0, 1) := by decide +kernel
theorem dX5_takes_54 : decode cX5_takes 54 = .ok (.getfield 57, 3) := by decide +kernel
theorem dX5_takes_57 : decode cX5_takes 57 = .ok (.iload 7, 2) := by decide +kernel
theorem dX5_takes_59 : decode cX5_takes 59 = .ok (.laload, 1) := by decide +kernel
theorem dX5_takes_60 : decode cX5_takes 60 = .ok (.lcmp, 1) := by decide +kernel
theorem dX5_takes_61 : decode cX5_takes 61 = .ok (.ifCond .ne 13, 3) := by decide +kernel
theorem dX5_takes_64 : decode cX5_takes 64 = .ok (.aload_n 0, 1) := by decide +kernel
theorem dX5_takes_65 : decode cX5_takes 65 = .ok (.getfield 60, 3) := by decide +kernel
theorem dX5_takes_68 : decode cX5_takes 68 = .ok (.iload 7, 2) := by decide +kernel
theorem dX5_takes_70 : decode cX5_takes 70 = .ok (.laload, 1) := by decide +kernel
theorem dX5_takes_71 : decode cX5_takes 71 = .ok (.goto 22, 3) := by decide +kernel
theorem dX5_takes_74 : decode cX5_takes 74 = .ok (.aload_n 0, 1) := by decide +kernel
theorem dX5_takes_75 : decode cX5_takes 75 = .ok (.getfield 60, 3) := by decide +kernel
theorem dX5_takes_78 : decode cX5_takes 78 = .ok (.iload 7, 2) := by decide +kernel
theorem dX5_takes_80 : decode cX5_takes 80 = .ok (.laload, 1) := by decide +kernel
theorem dX5_takes_81 : decode cX5_takes 81 = .ok (.lload 8, 2) := by decide +kernel
theorem dX5_takes_83 : decode cX5_takes 83 = .ok (.aload_n 0, 1) := by decide +kernel
theorem dX5_takes_84 : decode cX5_takes 84 = .ok (.getfield 57, 3) := by decide +kernel
theorem dX5_takes_87 : decode cX5_takes 87 = .ok (.iload 7, 2) := by decide +kernel
theorem dX5_takes_89 : decode cX5_takes 89 = .ok (.laload, 1) := by decide +kernel
theorem dX5_takes_90 : decode cX5_takes 90 = .ok (.invokestatic 163, 3) := by decide +kernel
theorem dX5_takes_93 : decode cX5_takes 93 = .ok (.lstore 10, 2) := by decide +kernel
theorem dX5_takes_95 : decode cX5_takes 95 = .ok (.lload_n 3, 1) := by decide +kernel
theorem dX5_takes_96 : decode cX5_takes 96 = .ok (.lload 10, 2) := by decide +kernel
theorem dX5_takes_98 : decode cX5_takes 98 = .ok (.ladd, 1) := by decide +kernel
theorem dX5_takes_99 : decode cX5_takes 99 = .ok (.lstore_n 3, 1) := by decide +kernel
theorem dX5_takes_100 : decode cX5_takes 100 = .ok (.aload_n 0, 1) := by decide +kernel
theorem dX5_takes_101 : decode cX5_takes 101 = .ok (.getfield 60, 3) := by decide +kernel
theorem dX5_takes_104 : decode cX5_takes 104 = .ok (.iload 7, 2) := by decide +kernel
theorem dX5_takes_106 : decode cX5_takes 106 = .ok (.dup2, 1) := by decide +kernel
theorem dX5_takes_107 : decode cX5_takes 107 = .ok (.laload, 1) := by decide +kernel
theorem dX5_takes_108 : decode cX5_takes 108 = .ok (.lload 10, 2) := by decide +kernel
theorem dX5_takes_110 : decode cX5_takes 110 = .ok (.lsub, 1) := by decide +kernel
theorem dX5_takes_111 : decode cX5_takes 111 = .ok (.lastore, 1) := by decide +kernel
theorem dX5_takes_112 : decode cX5_takes 112 = .ok (.aload_n 0, 1) := by decide +kernel
theorem dX5_takes_113 : decode cX5_takes 113 = .ok (.getfield 57, 3) := by decide +kernel
theorem dX5_takes_116 : decode cX5_takes 116 = .ok (.iload 7, 2) := by decide +kernel
theorem dX5_takes_118 : decode cX5_takes 118 = .ok (.dup2, 1) := by decide +kernel
theorem dX5_takes_119 : decode cX5_takes 119 = .ok (.laload, 1) := by decide +kernel
theorem dX5_takes_120 : decode cX5_takes 120 = .ok (.lload 8, 2) := by decide +kernel
theorem dX5_takes_122 : decode cX5_takes 122 = .ok (.lsub, 1) := by decide +kernel
theorem dX5_takes_123 : decode cX5_takes 123 = .ok (.lastore, 1) := by decide +kernel
theorem dX5_takes_124 : decode cX5_takes 124 = .ok (.lload 5, 2) := by decide +kernel
theorem dX5_takes_126 : decode cX5_takes 126 = .ok (.lload 8, 2) := by decide +kernel
theorem dX5_takes_128 : decode cX5_takes 128 = .ok (.lsub, 1) := by decide +kernel
theorem dX5_takes_129 : decode cX5_takes 129 = .ok (.lstore 5, 2) := by decide +kernel
theorem dX5_takes_131 : decode cX5_takes 131 = .ok (.iinc 7 1, 3) := by decide +kernel
theorem dX5_takes_134 : decode cX5_takes 134 = .ok (.goto (-126), 3) := by decide +kernel
theorem dX5_takes_137 : decode cX5_takes 137 = .ok (.lload_n 3, 1) := by decide +kernel
theorem dX5_takes_138 : decode cX5_takes 138 = .ok (.lreturn, 1) := by decide +kernel
set_option maxRecDepth 20000 in
theorem ggX5_finds_X5_takes : GoodIn wsX5_finds wsX5_takes := goodIn_r _ [18, 1, 8, 9, 19, 20, 17, 21, 22, 23, 24, 25, 26, 27, 28, 29, 30, 31, 32, 33, 34, 35, 36, 37, 38, 39, 40, 41, 42, 43, 44, 45, 46, 47] (by decide +kernel) (by decide +kernel)
set_option maxRecDepth 20000 in
theorem gX5_finds_X5_takes : GoodIn wsX5_finds (wsV RX5 167 RX5 yX5_takes wsX5_takes) := goodIn_app (goodIn_of _ (by decide +kernel)) ggX5_finds_X5_takes
theorem dX5_finds_0 : decode cX5_finds 0 = .ok (.aload_n 0, 1) := by decide +kernel
theorem dX5_finds_1 : decode cX5_finds 1 = .ok (.iconst 0, 1) := by decide +kernel
theorem dX5_finds_2 : decode cX5_finds 2 = .ok (.putfield 160, 3) := by decide +kernel
theorem dX5_finds_5 : decode cX5_finds 5 = .ok (.iconst 0, 1) := by decide +kernel
theorem dX5_finds_6 : decode cX5_finds 6 = .ok (.istore_n 3, 1) := by decide +kernel
theorem dX5_finds_7 : decode cX5_finds 7 = .ok (.iload_n 3, 1) := by decide +kernel
theorem dX5_finds_8 : decode cX5_finds 8 = .ok (.aload_n 0, 1) := by decide +kernel
theorem dX5_finds_9 : decode cX5_finds 9 = .ok (.getfield 109, 3) := by decide +kernel
theorem dX5_finds_12 : decode cX5_finds 12 = .ok (.if_icmp .ge 152, 3) := by decide +kernel
theorem dX5_finds_15 : decode cX5_finds 15 = .ok (.aload_n 0, 1) := by decide +kernel
theorem dX5_finds_16 : decode cX5_finds 16 = .ok (.getfield 50, 3) := by decide +kernel
theorem dX5_finds_19 : decode cX5_finds 19 = .ok (.iload_n 3, 1) := by decide +kernel
theorem dX5_finds_20 : decode cX5_finds 20 = .ok (.baload, 1) := by decide +kernel
theorem dX5_finds_21 : decode cX5_finds 21 = .ok (.ifCond .eq 137, 3) := by decide +kernel
theorem dX5_finds_24 : decode cX5_finds 24 = .ok (.aload_n 0, 1) := by decide +kernel
theorem dX5_finds_25 : decode cX5_finds 25 = .ok (.getfield 32, 3) := by decide +kernel
theorem dX5_finds_28 : decode cX5_finds 28 = .ok (.iload_n 3, 1) := by decide +kernel
theorem dX5_finds_29 : decode cX5_finds 29 = .ok (.iaload, 1) := by decide +kernel
theorem dX5_finds_30 : decode cX5_finds 30 = .ok (.iload_n 1, 1) := by decide +kernel
theorem dX5_finds_31 : decode cX5_finds 31 = .ok (.if_icmp .ne 127, 3) := by decide +kernel
theorem dX5_finds_34 : decode cX5_finds 34 = .ok (.aload_n 0, 1) := by decide +kernel
theorem dX5_finds_35 : decode cX5_finds 35 = .ok (.getfield 35, 3) := by decide +kernel
theorem dX5_finds_38 : decode cX5_finds 38 = .ok (.iload_n 3, 1) := by decide +kernel
theorem dX5_finds_39 : decode cX5_finds 39 = .ok (.iaload, 1) := by decide +kernel
theorem dX5_finds_40 : decode cX5_finds 40 = .ok (.iload_n 2, 1) := by decide +kernel
theorem dX5_finds_41 : decode cX5_finds 41 = .ok (.if_icmp .ne 117, 3) := by decide +kernel
theorem dX5_finds_44 : decode cX5_finds 44 = .ok (.aload_n 0, 1) := by decide +kernel
theorem dX5_finds_45 : decode cX5_finds 45 = .ok (.getfield 38, 3) := by decide +kernel
theorem dX5_finds_48 : decode cX5_finds 48 = .ok (.iload_n 3, 1) := by decide +kernel
theorem dX5_finds_49 : decode cX5_finds 49 = .ok (.laload, 1) := by decide +kernel
theorem dX5_finds_50 : decode cX5_finds 50 = .ok (.lconst 0, 1) := by decide +kernel
theorem dX5_finds_51 : decode cX5_finds 51 = .ok (.lcmp, 1) := by decide +kernel
theorem dX5_finds_52 : decode cX5_finds 52 = .ok (.ifCond .le 63, 3) := by decide +kernel
theorem dX5_finds_55 : decode cX5_finds 55 = .ok (.aload_n 0, 1) := by decide +kernel
theorem dX5_finds_56 : decode cX5_finds 56 = .ok (.getfield 54, 3) := by decide +kernel
theorem dX5_finds_59 : decode cX5_finds 59 = .ok (.aload_n 0, 1) := by decide +kernel
theorem dX5_finds_60 : decode cX5_finds 60 = .ok (.getfield 160, 3) := by decide +kernel
theorem dX5_finds_63 : decode cX5_finds 63 = .ok (.iload_n 3, 1) := by decide +kernel
theorem dX5_finds_64 : decode cX5_finds 64 = .ok (.iastore, 1) := by decide +kernel
theorem dX5_finds_65 : decode cX5_finds 65 = .ok (.aload_n 0, 1) := by decide +kernel
theorem dX5_finds_66 : decode cX5_finds 66 = .ok (.getfield 57, 3) := by decide +kernel
theorem dX5_finds_69 : decode cX5_finds 69 = .ok (.aload_n 0, 1) := by decide +kernel
theorem dX5_finds_70 : decode cX5_finds 70 = .ok (.getfield 160, 3) := by decide +kernel
theorem dX5_finds_73 : decode cX5_finds 73 = .ok (.aload_n 0, 1) := by decide +kernel
theorem dX5_finds_74 : decode cX5_finds 74 = .ok (.getfield 38, 3) := by decide +kernel
theorem dX5_finds_77 : decode cX5_finds 77 = .ok (.iload_n 3, 1) := by decide +kernel
theorem dX5_finds_78 : decode cX5_finds 78 = .ok (.laload, 1) := by decide +kernel
theorem dX5_finds_79 : decode cX5_finds 79 = .ok (.lastore, 1) := by decide +kernel
theorem dX5_finds_80 : decode cX5_finds 80 = .ok (.aload_n 0, 1) := by decide +kernel
theorem dX5_finds_81 : decode cX5_finds 81 = .ok (.getfield 60, 3) := by decide +kernel
theorem dX5_finds_84 : decode cX5_finds 84 = .ok (.aload_n 0, 1) := by decide +kernel
theorem dX5_finds_85 : decode cX5_finds 85 = .ok (.getfield 160, 3) := by decide +kernel
theorem dX5_finds_88 : decode cX5_finds 88 = .ok (.aload_n 0, 1) := by decide +kernel
theorem dX5_finds_89 : decode cX5_finds 89 = .ok (.getfield 41, 3) := by decide +kernel
theorem dX5_finds_92 : decode cX5_finds 92 = .ok (.iload_n 3, 1) := by decide +kernel
theorem dX5_finds_93 : decode cX5_finds 93 = .ok (.laload, 1) := by decide +kernel
theorem dX5_finds_94 : decode cX5_finds 94 = .ok (.aload_n 0, 1) := by decide +kernel
theorem dX5_finds_95 : decode cX5_finds 95 = .ok (.getfield 44, 3) := by decide +kernel
theorem dX5_finds_98 : decode cX5_finds 98 = .ok (.iload_n 3, 1) := by decide +kernel
theorem dX5_finds_99 : decode cX5_finds 99 = .ok (.laload, 1) := by decide +kernel
theorem dX5_finds_100 : decode cX5_finds 100 = .ok (.ladd, 1) := by decide +kernel
theorem dX5_finds_101 : decode cX5_finds 101 = .ok (.lastore, 1) := by decide +kernel
theorem dX5_finds_102 : decode cX5_finds 102 = .ok (.aload_n 0, 1) := by decide +kernel
theorem dX5_finds_103 : decode cX5_finds 103 = .ok (.dup, 1) := by decide +kernel
theorem dX5_finds_104 : decode cX5_finds 104 = .ok (.getfield 160, 3) := by decide +kernel
theorem dX5_finds_107 : decode cX5_finds 107 = .ok (.iconst 1, 1) := by decide +kernel
theorem dX5_finds_108 : decode cX5_finds 108 = .ok (.iadd, 1) := by decide +kernel
theorem dX5_finds_109 : decode cX5_finds 109 = .ok (.putfield 160, 3) := by decide +kernel
theorem dX5_finds_112 : decode cX5_finds 112 = .ok (.goto 46, 3) := by decide +kernel
theorem dX5_finds_115 : decode cX5_finds 115 = .ok (.aload_n 0, 1) := by decide +kernel
theorem dX5_finds_116 : decode cX5_finds 116 = .ok (.getfield 63, 3) := by decide +kernel
theorem dX5_finds_119 : decode cX5_finds 119 = .ok (.aload_n 0, 1) := by decide +kernel
theorem dX5_finds_120 : decode cX5_finds 120 = .ok (.getfield 47, 3) := by decide +kernel
theorem dX5_finds_123 : decode cX5_finds 123 = .ok (.iload_n 3, 1) := by decide +kernel
theorem dX5_finds_124 : decode cX5_finds 124 = .ok (.iaload, 1) := by decide +kernel
theorem dX5_finds_125 : decode cX5_finds 125 = .ok (.sipush 360, 3) := by decide +kernel
theorem dX5_finds_128 : decode cX5_finds 128 = .ok (.idiv, 1) := by decide +kernel
theorem dX5_finds_129 : decode cX5_finds 129 = .ok (.dup2, 1) := by decide +kernel
theorem dX5_finds_130 : decode cX5_finds 130 = .ok (.laload, 1) := by decide +kernel
theorem dX5_finds_131 : decode cX5_finds 131 = .ok (.aload_n 0, 1) := by decide +kernel
theorem dX5_finds_132 : decode cX5_finds 132 = .ok (.getfield 41, 3) := by decide +kernel
theorem dX5_finds_135 : decode cX5_finds 135 = .ok (.iload_n 3, 1) := by decide +kernel
theorem dX5_finds_136 : decode cX5_finds 136 = .ok (.laload, 1) := by decide +kernel
theorem dX5_finds_137 : decode cX5_finds 137 = .ok (.aload_n 0, 1) := by decide +kernel
theorem dX5_finds_138 : decode cX5_finds 138 = .ok (.getfield 44, 3) := by decide +kernel
theorem dX5_finds_141 : decode cX5_finds 141 = .ok (.iload_n 3, 1) := by decide +kernel
theorem dX5_finds_142 : decode cX5_finds 142 = .ok (.laload, 1) := by decide +kernel
theorem dX5_finds_143 : decode cX5_finds 143 = .ok (.lsub, 1) := by decide +kernel
theorem dX5_finds_144 : decode cX5_finds 144 = .ok (.aload_n 0, 1) := by decide +kernel
theorem dX5_finds_145 : decode cX5_finds 145 = .ok (.aload_n 0, 1) := by decide +kernel
theorem dX5_finds_146 : decode cX5_finds 146 = .ok (.getfield 38, 3) := by decide +kernel
theorem dX5_finds_149 : decode cX5_finds 149 = .ok (.iload_n 3, 1) := by decide +kernel
theorem dX5_finds_150 : decode cX5_finds 150 = .ok (.laload, 1) := by decide +kernel
theorem dX5_finds_151 : decode cX5_finds 151 = .ok (.lneg, 1) := by decide +kernel
theorem dX5_finds_152 : decode cX5_finds 152 = .ok (.invokevirtual 167, 3) := by decide +kernel
theorem dX5_finds_155 : decode cX5_finds 155 = .ok (.lsub, 1) := by decide +kernel
theorem dX5_finds_156 : decode cX5_finds 156 = .ok (.ladd, 1) := by decide +kernel
theorem dX5_finds_157 : decode cX5_finds 157 = .ok (.lastore, 1) := by decide +kernel
theorem dX5_finds_158 : decode cX5_finds 158 = .ok (.iinc 3 1, 3) := by decide +kernel
theorem dX5_finds_161 : decode cX5_finds 161 = .ok (.goto (-154), 3) := by decide +kernel
theorem dX5_finds_164 : decode cX5_finds 164 = .ok (.return_, 1) := by decide +kernel
set_option maxRecDepth 20000 in
theorem ggX5_years_X5_finds : GoodIn wsX5_years wsX5_finds := goodIn_r _ [7, 8, 9, 10, 11, 12, 13, 14, 15, 16, 17, 18, 1, 19, 20, 21, 22, 6, 23, 24, 25, 26, 27, 28, 29, 30, 31, 32, 33, 34, 35, 36, 37, 38, 39, 40, 41, 42, 43, 44, 45, 46, 47, 48, 49, 50, 51, 52] (by decide +kernel) (by decide +kernel)
set_option maxRecDepth 20000 in
theorem gX5_years_X5_finds : GoodIn wsX5_years (wsV RX5 170 RX5 yX5_finds wsX5_finds) := goodIn_app (goodIn_of _ (by decide +kernel)) ggX5_years_X5_finds
theorem dX5_years_0 : decode cX5_years 0 = .ok (.iconst 0, 1) := by decide +kernel
theorem dX5_years_1 : decode cX5_years 1 = .ok (.istore_n 2, 1) := by decide +kernel
theorem dX5_years_2 : decode cX5_years 2 = .ok (.iload_n 2, 1) := by decide +kernel
theorem dX5_years_3 : decode cX5_years 3 = .ok (.bipush 21, 2) := by decide +kernel
theorem dX5_years_5 : decode cX5_years 5 = .ok (.if_icmp .ge 16, 3) := by decide +kernel
theorem dX5_years_8 : decode cX5_years 8 = .ok (.aload_n 0, 1) := by decide +kernel
theorem dX5_years_9 : decode cX5_years 9 = .ok (.getfield 63, 3) := by decide +kernel
theorem dX5_years_12 : decode cX5_years 12 = .ok (.iload_n 2, 1) := by decide +kernel
theorem dX5_years_13 : decode cX5_years 13 = .ok (.lconst 0, 1) := by decide +kernel
theorem dX5_years_14 : decode cX5_years 14 = .ok (.lastore, 1) := by decide +kernel
theorem dX5_years_15 : decode cX5_years 15 = .ok (.iinc 2 1, 3) := by decide +kernel
theorem dX5_years_18 : decode cX5_years 18 = .ok (.goto (-16), 3) := by decide +kernel
theorem dX5_years_21 : decode cX5_years 21 = .ok (.iconst 0, 1) := by decide +kernel
theorem dX5_years_22 : decode cX5_years 22 = .ok (.istore_n 2, 1) := by decide +kernel
theorem dX5_years_23 : decode cX5_years 23 = .ok (.iload_n 2, 1) := by decide +kernel
theorem dX5_years_24 : decode cX5_years 24 = .ok (.bipush 6, 2) := by decide +kernel
theorem dX5_years_26 : decode cX5_years 26 = .ok (.if_icmp .ge 15, 3) := by decide +kernel
theorem dX5_years_29 : decode cX5_years 29 = .ok (.aload_n 0, 1) := by decide +kernel
theorem dX5_years_30 : decode cX5_years 30 = .ok (.iload_n 1, 1) := by decide +kernel
theorem dX5_years_31 : decode cX5_years 31 = .ok (.iload_n 2, 1) := by decide +kernel
theorem dX5_years_32 : decode cX5_years 32 = .ok (.invokevirtual 170, 3) := by decide +kernel
theorem dX5_years_35 : decode cX5_years 35 = .ok (.iinc 2 1, 3) := by decide +kernel
theorem dX5_years_38 : decode cX5_years 38 = .ok (.goto (-15), 3) := by decide +kernel
theorem dX5_years_41 : decode cX5_years 41 = .ok (.lconst 0, 1) := by decide +kernel
theorem dX5_years_42 : decode cX5_years 42 = .ok (.lstore_n 2, 1) := by decide +kernel
theorem dX5_years_43 : decode cX5_years 43 = .ok (.iconst 0, 1) := by decide +kernel
theorem dX5_years_44 : decode cX5_years 44 = .ok (.istore 4, 2) := by decide +kernel
theorem dX5_years_46 : decode cX5_years 46 = .ok (.iload 4, 2) := by decide +kernel
theorem dX5_years_48 : decode cX5_years 48 = .ok (.bipush 21, 2) := by decide +kernel
theorem dX5_years_50 : decode cX5_years 50 = .ok (.if_icmp .ge 54, 3) := by decide +kernel
theorem dX5_years_53 : decode cX5_years 53 = .ok (.aload_n 0, 1) := by decide +kernel
theorem dX5_years_54 : decode cX5_years 54 = .ok (.getfield 63, 3) := by decide +kernel
theorem dX5_years_57 : decode cX5_years 57 = .ok (.iload 4, 2) := by decide +kernel
theorem dX5_years_59 : decode cX5_years 59 = .ok (.laload, 1) := by decide +kernel
theorem dX5_years_60 : decode cX5_years 60 = .ok (.lload_n 2, 1) := by decide +kernel
theorem dX5_years_61 : decode cX5_years 61 = .ok (.ladd, 1) := by decide +kernel
theorem dX5_years_62 : decode cX5_years 62 = .ok (.lstore 5, 2) := by decide +kernel
theorem dX5_years_64 : decode cX5_years 64 = .ok (.aload_n 0, 1) := by decide +kernel
theorem dX5_years_65 : decode cX5_years 65 = .ok (.getfield 66, 3) := by decide +kernel
theorem dX5_years_68 : decode cX5_years 68 = .ok (.iload 4, 2) := by decide +kernel
theorem dX5_years_70 : decode cX5_years 70 = .ok (.lload 5, 2) := by decide +kernel
theorem dX5_years_72 : decode cX5_years 72 = .ok (.lconst 0, 1) := by decide +kernel
theorem dX5_years_73 : decode cX5_years 73 = .ok (.lcmp, 1) := by decide +kernel
theorem dX5_years_74 : decode cX5_years 74 = .ok (.ifCond .ge 7, 3) := by decide +kernel
theorem dX5_years_77 : decode cX5_years 77 = .ok (.lconst 0, 1) := by decide +kernel
theorem dX5_years_78 : decode cX5_years 78 = .ok (.goto 5, 3) := by decide +kernel
theorem dX5_years_81 : decode cX5_years 81 = .ok (.lload 5, 2) := by decide +kernel
theorem dX5_years_83 : decode cX5_years 83 = .ok (.lastore, 1) := by decide +kernel
theorem dX5_years_84 : decode cX5_years 84 = .ok (.lload 5, 2) := by decide +kernel
theorem dX5_years_86 : decode cX5_years 86 = .ok (.lconst 0, 1) := by decide +kernel
theorem dX5_years_87 : decode cX5_years 87 = .ok (.lcmp, 1) := by decide +kernel
theorem dX5_years_88 : decode cX5_years 88 = .ok (.ifCond .ge 8, 3) := by decide +kernel
theorem dX5_years_91 : decode cX5_years 91 = .ok (.lload 5, 2) := by decide +kernel
theorem dX5_years_93 : decode cX5_years 93 = .ok (.goto 4, 3) := by decide +kernel
theorem dX5_years_96 : decode cX5_years 96 = .ok (.lconst 0, 1) := by decide +kernel
theorem dX5_years_97 : decode cX5_years 97 = .ok (.lstore_n 2, 1) := by decide +kernel
theorem dX5_years_98 : decode cX5_years 98 = .ok (.iinc 4 1, 3) := by decide +kernel
theorem dX5_years_101 : decode cX5_years 101 = .ok (.goto (-55), 3) := by decide +kernel
theorem dX5_years_104 : decode cX5_years 104 = .ok (.return_, 1) := by decide +kernel
theorem dX5_isEnough_0 : decode cX5_isEnough 0 = .ok (.iconst 1, 1) := by decide +kernel
theorem dX5_isEnough_1 : decode cX5_isEnough 1 = .ok (.istore_n 3, 1) := by decide +kernel
theorem dX5_isEnough_2 : decode cX5_isEnough 2 = .ok (.lconst 0, 1) := by decide +kernel
theorem dX5_isEnough_3 : decode cX5_isEnough 3 = .ok (.lstore 4, 2) := by decide +kernel
theorem dX5_isEnough_5 : decode cX5_isEnough 5 = .ok (.iconst 0, 1) := by decide +kernel
theorem dX5_isEnough_6 : decode cX5_isEnough 6 = .ok (.istore 6, 2) := by decide +kernel
theorem dX5_isEnough_8 : decode cX5_isEnough 8 = .ok (.iload 6, 2) := by decide +kernel
theorem dX5_isEnough_10 : decode cX5_isEnough 10 = .ok (.aload_n 0, 1) := by decide +kernel
theorem dX5_isEnough_11 : decode cX5_isEnough 11 = .ok (.getfield 109, 3) := by decide +kernel
theorem dX5_isEnough_14 : decode cX5_isEnough 14 = .ok (.if_icmp .ge 74, 3) := by decide +kernel
theorem dX5_isEnough_17 : decode cX5_isEnough 17 = .ok (.lload 4, 2) := by decide +kernel
theorem dX5_isEnough_19 : decode cX5_isEnough 19 = .ok (.aload_n 0, 1) := by decide +kernel
theorem dX5_isEnough_20 : decode cX5_isEnough 20 = .ok (.getfield 50, 3) := by decide +kernel
theorem dX5_isEnough_23 : decode cX5_isEnough 23 = .ok (.iload 6, 2) := by decide +kernel
theorem dX5_isEnough_25 : decode cX5_isEnough 25 = .ok (.baload, 1) := by decide +kernel
theorem dX5_isEnough_26 : decode cX5_isEnough 26 = .ok (.ifCond .eq 35, 3) := by decide +kernel
theorem dX5_isEnough_29 : decode cX5_isEnough 29 = .ok (.aload_n 0, 1) := by decide +kernel
theorem dX5_isEnough_30 : decode cX5_isEnough 30 = .ok (.getfield 32, 3) := by decide +kernel
theorem dX5_isEnough_33 : decode cX5_isEnough 33 = .ok (.iload 6, 2) := by decide +kernel
theorem dX5_isEnough_35 : decode cX5_isEnough 35 = .ok (.iaload, 1) := by decide +kernel
theorem dX5_isEnough_36 : decode cX5_isEnough 36 = .ok (.iload_n 1, 1) := by decide +kernel
theorem dX5_isEnough_37 : decode cX5_isEnough 37 = .ok (.if_icmp .ne 24, 3) := by decide +kernel
theorem dX5_isEnough_40 : decode cX5_isEnough 40 = .ok (.aload_n 0, 1) := by decide +kernel
theorem dX5_isEnough_41 : decode cX5_isEnough 41 = .ok (.getfield 35, 3) := by decide +kernel
theorem dX5_isEnough_44 : decode cX5_isEnough 44 = .ok (.iload 6, 2) := by decide +kernel
theorem dX5_isEnough_46 : decode cX5_isEnough 46 = .ok (.iaload, 1) := by decide +kernel
theorem dX5_isEnough_47 : decode cX5_isEnough 47 = .ok (.iload_n 2, 1) := by decide +kernel
theorem dX5_isEnough_48 : decode cX5_isEnough 48 = .ok (.if_icmp .ne 13, 3) := by decide +kernel
theorem dX5_isEnough_51 : decode cX5_isEnough 51 = .ok (.aload_n 0, 1) := by decide +kernel
theorem dX5_isEnough_52 : decode cX5_isEnough 52 = .ok (.getfield 38, 3) := by decide +kernel
theorem dX5_isEnough_55 : decode cX5_isEnough 55 = .ok (.iload 6, 2) := by decide +kernel
theorem dX5_isEnough_57 : decode cX5_isEnough 57 = .ok (.laload, 1) := by decide +kernel
theorem dX5_isEnough_58 : decode cX5_isEnough 58 = .ok (.goto 4, 3) := by decide +kernel
theorem dX5_isEnough_61 : decode cX5_isEnough 61 = .ok (.lconst 0, 1) := by decide +kernel
theorem dX5_isEnough_62 : decode cX5_isEnough 62 = .ok (.ladd, 1) := by decide +kernel
theorem dX5_isEnough_63 : decode cX5_isEnough 63 = .ok (.lstore 4, 2) := by decide +kernel
theorem dX5_isEnough_65 : decode cX5_isEnough 65 = .ok (.iload_n 3, 1) := by decide +kernel
theorem dX5_isEnough_66 : decode cX5_isEnough 66 = .ok (.ifCond .eq 14, 3) := by decide +kernel
theorem dX5_isEnough_69 : decode cX5_isEnough 69 = .ok (.lload 4, 2) := by decide +kernel
theorem dX5_isEnough_71 : decode cX5_isEnough 71 = .ok (.lconst 0, 1) := by decide +kernel
theorem dX5_isEnough_72 : decode cX5_isEnough 72 = .ok (.lcmp, 1) := by decide +kernel
theorem dX5_isEnough_73 : decode cX5_isEnough 73 = .ok (.ifCond .lt 7, 3) := by decide +kernel
theorem dX5_isEnough_76 : decode cX5_isEnough 76 = .ok (.iconst 1, 1) := by decide +kernel
theorem dX5_isEnough_77 : decode cX5_isEnough 77 = .ok (.goto 4, 3) := by decide +kernel
theorem dX5_isEnough_80 : decode cX5_isEnough 80 = .ok (.iconst 0, 1) := by decide +kernel
theorem dX5_isEnough_81 : decode cX5_isEnough 81 = .ok (.istore_n 3, 1) := by decide +kernel
theorem dX5_isEnough_82 : decode cX5_isEnough 82 = .ok (.iinc 6 1, 3) := by decide +kernel
theorem dX5_isEnough_85 : decode cX5_isEnough 85 = .ok (.goto (-77), 3) := by decide +kernel
theorem dX5_isEnough_88 : decode cX5_isEnough 88 = .ok (.iload_n 3, 1) := by decide +kernel
theorem dX5_isEnough_89 : decode cX5_isEnough 89 = .ok (.ireturn, 1) := by decide +kernel
set_option maxRecDepth 20000 in
theorem ggX5_isTrade_X5_isIn : GoodIn wsX5_isTrade wsX5_isIn := goodIn_r _ [5] (by decide +kernel) (by decide +kernel)
set_option maxRecDepth 20000 in
theorem gX5_isTrade_X5_isIn : GoodIn wsX5_isTrade (va_wsS RX5 73 yX5_isIn wsX5_isIn) := goodIn_app (goodIn_of _ (by decide +kernel)) ggX5_isTrade_X5_isIn
theorem dX5_isTrade_0 : decode cX5_isTrade 0 = .ok (.iload_n 1, 1) := by decide +kernel
theorem dX5_isTrade_1 : decode cX5_isTrade 1 = .ok (.iconst 0, 1) := by decide +kernel
theorem dX5_isTrade_2 : decode cX5_isTrade 2 = .ok (.aload_n 0, 1) := by decide +kernel
theorem dX5_isTrade_3 : decode cX5_isTrade 3 = .ok (.getfield 109, 3) := by decide +kernel
theorem dX5_isTrade_6 : decode cX5_isTrade 6 = .ok (.iconst 1, 1) := by decide +kernel
theorem dX5_isTrade_7 : decode cX5_isTrade 7 = .ok (.isub, 1) := by decide +kernel
theorem dX5_isTrade_8 : decode cX5_isTrade 8 = .ok (.invokestatic 73, 3) := by decide +kernel
theorem dX5_isTrade_11 : decode cX5_isTrade 11 = .ok (.ireturn, 1) := by decide +kernel
set_option maxRecDepth 20000 in
theorem ggX5_canUnwind_X5_isEnough : GoodIn wsX5_canUnwind wsX5_isEnough := goodIn_r _ [8, 9, 1, 2, 3, 10, 11, 12, 13, 14, 15, 16, 17, 18, 19, 20, 21, 22, 23, 24, 25, 26, 27, 28, 29, 30, 31, 32, 33, 34, 35] (by decide +kernel) (by decide +kernel)
set_option maxRecDepth 20000 in
theorem gX5_canUnwind_X5_isEnough : GoodIn wsX5_canUnwind (wsV RX5 174 RX5 yX5_isEnough wsX5_isEnough) := goodIn_app (goodIn_of _ (by decide +kernel)) ggX5_canUnwind_X5_isEnough
theorem dX5_canUnwind_0 : decode cX5_canUnwind 0 = .ok (.aload_n 0, 1) := by decide +kernel
theorem dX5_canUnwind_1 : decode cX5_canUnwind 1 = .ok (.getfield 50, 3) := by decide +kernel
theorem dX5_canUnwind_4 : decode cX5_canUnwind 4 = .ok (.iload_n 1, 1) := by decide +kernel
theorem dX5_canUnwind_5 : decode cX5_canUnwind 5 = .ok (.baload, 1) := by decide +kernel
theorem dX5_canUnwind_6 : decode cX5_canUnwind 6 = .ok (.ifCond .ne 5, 3) := by decide +kernel
theorem dX5_canUnwind_9 : decode cX5_canUnwind 9 = .ok (.iconst 0, 1) := by decide +kernel
theorem dX5_canUnwind_10 : decode cX5_canUnwind 10 = .ok (.ireturn, 1) := by decide +kernel
theorem dX5_canUnwind_11 : decode cX5_canUnwind 11 = .ok (.aload_n 0, 1) := by decide +kernel
theorem dX5_canUnwind_12 : decode cX5_canUnwind 12 = .ok (.getfield 50, 3) := by decide +kernel
theorem dX5_canUnwind_15 : decode cX5_canUnwind 15 = .ok (.iload_n 1, 1) := by decide +kernel
theorem dX5_canUnwind_16 : decode cX5_canUnwind 16 = .ok (.iconst 0, 1) := by decide +kernel
theorem dX5_canUnwind_17 : decode cX5_canUnwind 17 = .ok (.bastore, 1) := by decide +kernel
theorem dX5_canUnwind_18 : decode cX5_canUnwind 18 = .ok (.aload_n 0, 1) := by decide +kernel
theorem dX5_canUnwind_19 : decode cX5_canUnwind 19 = .ok (.aload_n 0, 1) := by decide +kernel
theorem dX5_canUnwind_20 : decode cX5_canUnwind 20 = .ok (.getfield 32, 3) := by decide +kernel
theorem dX5_canUnwind_23 : decode cX5_canUnwind 23 = .ok (.iload_n 1, 1) := by decide +kernel
theorem dX5_canUnwind_24 : decode cX5_canUnwind 24 = .ok (.iaload, 1) := by decide +kernel
theorem dX5_canUnwind_25 : decode cX5_canUnwind 25 = .ok (.aload_n 0, 1) := by decide +kernel
theorem dX5_canUnwind_26 : decode cX5_canUnwind 26 = .ok (.getfield 35, 3) := by decide +kernel
theorem dX5_canUnwind_29 : decode cX5_canUnwind 29 = .ok (.iload_n 1, 1) := by decide +kernel
theorem dX5_canUnwind_30 : decode cX5_canUnwind 30 = .ok (.iaload, 1) := by decide +kernel
theorem dX5_canUnwind_31 : decode cX5_canUnwind 31 = .ok (.invokevirtual 174, 3) := by decide +kernel
theorem dX5_canUnwind_34 : decode cX5_canUnwind 34 = .ok (.istore_n 2, 1) := by decide +kernel
theorem dX5_canUnwind_35 : decode cX5_canUnwind 35 = .ok (.aload_n 0, 1) := by decide +kernel
theorem dX5_canUnwind_36 : decode cX5_canUnwind 36 = .ok (.getfield 50, 3) := by decide +kernel
theorem dX5_canUnwind_39 : decode cX5_canUnwind 39 = .ok (.iload_n 1, 1) := by decide +kernel
theorem dX5_canUnwind_40 : decode cX5_canUnwind 40 = .ok (.iconst 1, 1) := by decide +kernel
theorem dX5_canUnwind_41 : decode cX5_canUnwind 41 = .ok (.bastore, 1) := by decide +kernel
theorem dX5_canUnwind_42 : decode cX5_canUnwind 42 = .ok (.iload_n 2, 1) := by decide +kernel
theorem dX5_canUnwind_43 : decode cX5_canUnwind 43 = .ok (.ireturn, 1) := by decide +kernel
set_option maxRecDepth 20000 in
theorem ggX5_complain_X5_isTrade : GoodIn wsX5_complain wsX5_isTrade := goodIn_r _ [16, 17, 18, 19, 15, 20, 70, 71, 72, 73, 74, 75, 76, 77, 78, 79, 80, 81, 82, 83, 84, 85, 86, 87, 88, 89, 90, 91, 92, 93, 94] (by decide +kernel) (by decide +kernel)
set_option maxRecDepth 20000 in
theorem gX5_complain_X5_isTrade : GoodIn wsX5_complain (wsV RX5 178 RX5 yX5_isTrade wsX5_isTrade) := goodIn_app (goodIn_of _ (by decide +kernel)) ggX5_complain_X5_isTrade
set_option maxRecDepth 20000 in
theorem ggX5_complain_X5_canUnwind : GoodIn wsX5_complain wsX5_canUnwind := goodIn_r _ [24, 2, 1, 6, 25, 26, 27, 15, 28, 17, 3, 70, 71, 72, 73, 74, 75, 76, 77, 78, 79, 80, 81, 82, 83, 84, 85, 86, 87, 88, 89, 90, 91, 92, 93, 94] (by decide +kernel) (by decide +kernel)
set_option maxRecDepth 20000 in
theorem gX5_complain_X5_canUnwind : GoodIn wsX5_complain (wsV RX5 181 RX5 yX5_canUnwind wsX5_canUnwind) := goodIn_app (goodIn_of _ (by decide +kernel)) ggX5_complain_X5_canUnwind
set_option maxRecDepth 20000 in
theorem ggX5_complain_X5_fails : GoodIn wsX5_complain wsX5_fails := goodIn_r _ [32, 33, 70, 71, 72, 73, 74, 75, 76, 77, 78, 79, 80, 81, 82, 83, 84, 85, 86, 87, 88, 89, 90, 91, 92, 93, 94] (by decide +kernel) (by decide +kernel)
set_option maxRecDepth 20000 in
theorem gX5_complain_X5_fails : GoodIn wsX5_complain (wsV RX5 85 RX5 yX5_fails wsX5_fails) := goodIn_app (goodIn_of _ (by decide +kernel)) ggX5_complain_X5_fails
set_option maxRecDepth 20000 in
theorem ggX5_complain_X5_pays : GoodIn wsX5_complain wsX5_pays := goodIn_r _ [37, 11, 38, 70, 71, 72, 73, 74, 75, 76, 77, 78, 79, 80, 81, 82, 83, 84, 85, 86, 87, 88, 89, 90, 91, 92, 93, 94] (by decide +kernel) (by decide +kernel)
set_option maxRecDepth 20000 in
theorem gX5_complain_X5_pays : GoodIn wsX5_complain (wsV RX5 119 RX5 yX5_pays wsX5_pays) := goodIn_app (goodIn_of _ (by decide +kernel)) ggX5_complain_X5_pays
set_option maxRecDepth 20000 in
theorem ggX5_complain_X5_moves : GoodIn wsX5_complain wsX5_moves := goodIn_r _ [42, 43, 44, 45, 38, 46, 47, 70, 71, 72, 73, 74, 75, 76, 77, 78, 79, 80, 81, 82, 83, 84, 85, 86, 87, 88, 89, 90, 91, 92, 93, 94] (by decide +kernel) (by decide +kernel)
set_option maxRecDepth 20000 in
theorem gX5_complain_X5_moves : GoodIn wsX5_complain (wsV RX5 123 RX5 yX5_moves wsX5_moves) := goodIn_app (goodIn_of _ (by decide +kernel)) ggX5_complain_X5_moves
set_option maxRecDepth 20000 in
theorem ggX5_complain_X5_years : GoodIn wsX5_complain wsX5_years := goodIn_r _ [51, 52, 9, 53, 54, 55, 15, 56, 57, 17, 2, 1, 6, 3, 58, 59, 60, 4, 5, 61, 62, 63, 64, 65, 66, 67, 68, 69, 70, 71, 72, 73, 74, 75, 76, 77, 78, 79, 80, 81, 82, 83, 84, 85, 86, 87, 88, 89, 90, 91, 92, 93, 94] (by decide +kernel) (by decide +kernel)
set_option maxRecDepth 20000 in
theorem gX5_complain_X5_years : GoodIn wsX5_complain (wsV RX5 184 RX5 yX5_years wsX5_years) := goodIn_app (goodIn_of _ (by decide +kernel)) ggX5_complain_X5_years
theorem dX5_complain_0 : decode cX5_complain 0 = .ok (.aload_n 0, 1) := by decide +kernel
theorem dX5_complain_1 : decode cX5_complain 1 = .ok (.aload_n 0, 1) := by decide +kernel
theorem dX5_complain_2 : decode cX5_complain 2 = .ok (.iload_n 1, 1) := by decide +kernel
theorem dX5_complain_3 : decode cX5_complain 3 = .ok (.invokevirtual 178, 3) := by decide +kernel
theorem dX5_complain_6 : decode cX5_complain 6 = .ok (.ifCond .ne 7, 3) := by decide +kernel
theorem dX5_complain_9 : decode cX5_complain 9 = .ok (.iconst 1, 1) := by decide +kernel
theorem dX5_complain_10 : decode cX5_complain 10 = .ok (.goto 16, 3) := by decide +kernel
theorem dX5_complain_13 : decode cX5_complain 13 = .ok (.aload_n 0, 1) := by decide +kernel
theorem dX5_complain_14 : decode cX5_complain 14 = .ok (.iload_n 1, 1) := by decide +kernel
theorem dX5_complain_15 : decode cX5_complain 15 = .ok (.invokevirtual 181, 3) := by decide +kernel
theorem dX5_complain_18 : decode cX5_complain 18 = .ok (.ifCond .eq 7, 3) := by decide +kernel
theorem dX5_complain_21 : decode cX5_complain 21 = .ok (.iconst 0, 1) := by decide +kernel
theorem dX5_complain_22 : decode cX5_complain 22 = .ok (.goto 4, 3) := by decide +kernel
theorem dX5_complain_25 : decode cX5_complain 25 = .ok (.iconst 2, 1) := by decide +kernel
theorem dX5_complain_26 : decode cX5_complain 26 = .ok (.invokevirtual 85, 3) := by decide +kernel
theorem dX5_complain_29 : decode cX5_complain 29 = .ok (.ifCond .eq 5, 3) := by decide +kernel
theorem dX5_complain_32 : decode cX5_complain 32 = .ok (.lconst 0, 1) := by decide +kernel
theorem dX5_complain_33 : decode cX5_complain 33 = .ok (.lreturn, 1) := by decide +kernel
theorem dX5_complain_34 : decode cX5_complain 34 = .ok (.aload_n 0, 1) := by decide +kernel
theorem dX5_complain_35 : decode cX5_complain 35 = .ok (.getfield 32, 3) := by decide +kernel
theorem dX5_complain_38 : decode cX5_complain 38 = .ok (.iload_n 1, 1) := by decide +kernel
theorem dX5_complain_39 : decode cX5_complain 39 = .ok (.iaload, 1) := by decide +kernel
theorem dX5_complain_40 : decode cX5_complain 40 = .ok (.istore_n 2, 1) := by decide +kernel
theorem dX5_complain_41 : decode cX5_complain 41 = .ok (.aload_n 0, 1) := by decide +kernel
theorem dX5_complain_42 : decode cX5_complain 42 = .ok (.getfield 50, 3) := by decide +kernel
theorem dX5_complain_45 : decode cX5_complain 45 = .ok (.iload_n 1, 1) := by decide +kernel
theorem dX5_complain_46 : decode cX5_complain 46 = .ok (.iconst 0, 1) := by decide +kernel
theorem dX5_complain_47 : decode cX5_complain 47 = .ok (.bastore, 1) := by decide +kernel
theorem dX5_complain_48 : decode cX5_complain 48 = .ok (.aload_n 0, 1) := by decide +kernel
theorem dX5_complain_49 : decode cX5_complain 49 = .ok (.iload_n 2, 1) := by decide +kernel
theorem dX5_complain_50 : decode cX5_complain 50 = .ok (.aload_n 0, 1) := by decide +kernel
theorem dX5_complain_51 : decode cX5_complain 51 = .ok (.getfield 38, 3) := by decide +kernel
theorem dX5_complain_54 : decode cX5_complain 54 = .ok (.iload_n 1, 1) := by decide +kernel
theorem dX5_complain_55 : decode cX5_complain 55 = .ok (.laload, 1) := by decide +kernel
theorem dX5_complain_56 : decode cX5_complain 56 = .ok (.lconst 0, 1) := by decide +kernel
theorem dX5_complain_57 : decode cX5_complain 57 = .ok (.lcmp, 1) := by decide +kernel
theorem dX5_complain_58 : decode cX5_complain 58 = .ok (.ifCond .le 20, 3) := by decide +kernel
theorem dX5_complain_61 : decode cX5_complain 61 = .ok (.aload_n 0, 1) := by decide +kernel
theorem dX5_complain_62 : decode cX5_complain 62 = .ok (.getfield 41, 3) := by decide +kernel
theorem dX5_complain_65 : decode cX5_complain 65 = .ok (.iload_n 1, 1) := by decide +kernel
theorem dX5_complain_66 : decode cX5_complain 66 = .ok (.laload, 1) := by decide +kernel
theorem dX5_complain_67 : decode cX5_complain 67 = .ok (.lneg, 1) := by decide +kernel
theorem dX5_complain_68 : decode cX5_complain 68 = .ok (.aload_n 0, 1) := by decide +kernel
theorem dX5_complain_69 : decode cX5_complain 69 = .ok (.getfield 44, 3) := by decide +kernel
theorem dX5_complain_72 : decode cX5_complain 72 = .ok (.iload_n 1, 1) := by decide +kernel
theorem dX5_complain_73 : decode cX5_complain 73 = .ok (.laload, 1) := by decide +kernel
theorem dX5_complain_74 : decode cX5_complain 74 = .ok (.lsub, 1) := by decide +kernel
theorem dX5_complain_75 : decode cX5_complain 75 = .ok (.goto 16, 3) := by decide +kernel
theorem dX5_complain_78 : decode cX5_complain 78 = .ok (.aload_n 0, 1) := by decide +kernel
theorem dX5_complain_79 : decode cX5_complain 79 = .ok (.getfield 41, 3) := by decide +kernel
theorem dX5_complain_82 : decode cX5_complain 82 = .ok (.iload_n 1, 1) := by decide +kernel
theorem dX5_complain_83 : decode cX5_complain 83 = .ok (.laload, 1) := by decide +kernel
theorem dX5_complain_84 : decode cX5_complain 84 = .ok (.aload_n 0, 1) := by decide +kernel
theorem dX5_complain_85 : decode cX5_complain 85 = .ok (.getfield 44, 3) := by decide +kernel
theorem dX5_complain_88 : decode cX5_complain 88 = .ok (.iload_n 1, 1) := by decide +kernel
theorem dX5_complain_89 : decode cX5_complain 89 = .ok (.laload, 1) := by decide +kernel
theorem dX5_complain_90 : decode cX5_complain 90 = .ok (.lsub, 1) := by decide +kernel
theorem dX5_complain_91 : decode cX5_complain 91 = .ok (.invokevirtual 119, 3) := by decide +kernel
theorem dX5_complain_94 : decode cX5_complain 94 = .ok (.aload_n 0, 1) := by decide +kernel
theorem dX5_complain_95 : decode cX5_complain 95 = .ok (.iload_n 2, 1) := by decide +kernel
theorem dX5_complain_96 : decode cX5_complain 96 = .ok (.aload_n 0, 1) := by decide +kernel
theorem dX5_complain_97 : decode cX5_complain 97 = .ok (.getfield 35, 3) := by decide +kernel
theorem dX5_complain_100 : decode cX5_complain 100 = .ok (.iload_n 1, 1) := by decide +kernel
theorem dX5_complain_101 : decode cX5_complain 101 = .ok (.iaload, 1) := by decide +kernel
theorem dX5_complain_102 : decode cX5_complain 102 = .ok (.aload_n 0, 1) := by decide +kernel
theorem dX5_complain_103 : decode cX5_complain 103 = .ok (.getfield 38, 3) := by decide +kernel
theorem dX5_complain_106 : decode cX5_complain 106 = .ok (.iload_n 1, 1) := by decide +kernel
theorem dX5_complain_107 : decode cX5_complain 107 = .ok (.laload, 1) := by decide +kernel
theorem dX5_complain_108 : decode cX5_complain 108 = .ok (.lneg, 1) := by decide +kernel
theorem dX5_complain_109 : decode cX5_complain 109 = .ok (.invokevirtual 123, 3) := by decide +kernel
theorem dX5_complain_112 : decode cX5_complain 112 = .ok (.aload_n 0, 1) := by decide +kernel
theorem dX5_complain_113 : decode cX5_complain 113 = .ok (.iload_n 2, 1) := by decide +kernel
theorem dX5_complain_114 : decode cX5_complain 114 = .ok (.invokevirtual 184, 3) := by decide +kernel
theorem dX5_complain_117 : decode cX5_complain 117 = .ok (.lconst 0, 1) := by decide +kernel
theorem dX5_complain_118 : decode cX5_complain 118 = .ok (.lstore_n 3, 1) := by decide +kernel
theorem dX5_complain_119 : decode cX5_complain 119 = .ok (.iconst 0, 1) := by decide +kernel
theorem dX5_complain_120 : decode cX5_complain 120 = .ok (.istore 5, 2) := by decide +kernel
theorem dX5_complain_122 : decode cX5_complain 122 = .ok (.iload 5, 2) := by decide +kernel
theorem dX5_complain_124 : decode cX5_complain 124 = .ok (.aload_n 0, 1) := by decide +kernel
theorem dX5_complain_125 : decode cX5_complain 125 = .ok (.getfield 116, 3) := by decide +kernel
theorem dX5_complain_128 : decode cX5_complain 128 = .ok (.sipush 360, 3) := by decide +kernel
theorem dX5_complain_131 : decode cX5_complain 131 = .ok (.idiv, 1) := by decide +kernel
theorem dX5_complain_132 : decode cX5_complain 132 = .ok (.if_icmp .ge 59, 3) := by decide +kernel
theorem dX5_complain_135 : decode cX5_complain 135 = .ok (.lload_n 3, 1) := by decide +kernel
theorem dX5_complain_136 : decode cX5_complain 136 = .ok (.aload_n 0, 1) := by decide +kernel
theorem dX5_complain_137 : decode cX5_complain 137 = .ok (.getfield 29, 3) := by decide +kernel
theorem dX5_complain_140 : decode cX5_complain 140 = .ok (.bipush 21, 2) := by decide +kernel
theorem dX5_complain_142 : decode cX5_complain 142 = .ok (.iload_n 2, 1) := by decide +kernel
theorem dX5_complain_143 : decode cX5_complain 143 = .ok (.imul, 1) := by decide +kernel
theorem dX5_complain_144 : decode cX5_complain 144 = .ok (.iload 5, 2) := by decide +kernel
theorem dX5_complain_146 : decode cX5_complain 146 = .ok (.iadd, 1) := by decide +kernel
theorem dX5_complain_147 : decode cX5_complain 147 = .ok (.laload, 1) := by decide +kernel
theorem dX5_complain_148 : decode cX5_complain 148 = .ok (.aload_n 0, 1) := by decide +kernel
theorem dX5_complain_149 : decode cX5_complain 149 = .ok (.getfield 66, 3) := by decide +kernel
theorem dX5_complain_152 : decode cX5_complain 152 = .ok (.iload 5, 2) := by decide +kernel
theorem dX5_complain_154 : decode cX5_complain 154 = .ok (.laload, 1) := by decide +kernel
theorem dX5_complain_155 : decode cX5_complain 155 = .ok (.ldc2_w 188, 3) := by decide +kernel
theorem dX5_complain_158 : decode cX5_complain 158 = .ok (.ldiv, 1) := by decide +kernel
theorem dX5_complain_159 : decode cX5_complain 159 = .ok (.lsub, 1) := by decide +kernel
theorem dX5_complain_160 : decode cX5_complain 160 = .ok (.ladd, 1) := by decide +kernel
theorem dX5_complain_161 : decode cX5_complain 161 = .ok (.lstore_n 3, 1) := by decide +kernel
theorem dX5_complain_162 : decode cX5_complain 162 = .ok (.aload_n 0, 1) := by decide +kernel
theorem dX5_complain_163 : decode cX5_complain 163 = .ok (.getfield 29, 3) := by decide +kernel
theorem dX5_complain_166 : decode cX5_complain 166 = .ok (.bipush 21, 2) := by decide +kernel
theorem dX5_complain_168 : decode cX5_complain 168 = .ok (.iload_n 2, 1) := by decide +kernel
theorem dX5_complain_169 : decode cX5_complain 169 = .ok (.imul, 1) := by decide +kernel
theorem dX5_complain_170 : decode cX5_complain 170 = .ok (.iload 5, 2) := by decide +kernel
theorem dX5_complain_172 : decode cX5_complain 172 = .ok (.iadd, 1) := by decide +kernel
theorem dX5_complain_173 : decode cX5_complain 173 = .ok (.aload_n 0, 1) := by decide +kernel
theorem dX5_complain_174 : decode cX5_complain 174 = .ok (.getfield 66, 3) := by decide +kernel
theorem dX5_complain_177 : decode cX5_complain 177 = .ok (.iload 5, 2) := by decide +kernel
theorem dX5_complain_179 : decode cX5_complain 179 = .ok (.laload, 1) := by decide +kernel
theorem dX5_complain_180 : decode cX5_complain 180 = .ok (.ldc2_w 188, 3) := by decide +kernel
theorem dX5_complain_183 : decode cX5_complain 183 = .ok (.ldiv, 1) := by decide +kernel
theorem dX5_complain_184 : decode cX5_complain 184 = .ok (.lastore, 1) := by decide +kernel
theorem dX5_complain_185 : decode cX5_complain 185 = .ok (.iinc 5 1, 3) := by decide +kernel
theorem dX5_complain_188 : decode cX5_complain 188 = .ok (.goto (-66), 3) := by decide +kernel
theorem dX5_complain_191 : decode cX5_complain 191 = .ok (.aload_n 0, 1) := by decide +kernel
theorem dX5_complain_192 : decode cX5_complain 192 = .ok (.getfield 20, 3) := by decide +kernel
theorem dX5_complain_195 : decode cX5_complain 195 = .ok (.iload_n 2, 1) := by decide +kernel
theorem dX5_complain_196 : decode cX5_complain 196 = .ok (.dup2, 1) := by decide +kernel
theorem dX5_complain_197 : decode cX5_complain 197 = .ok (.laload, 1) := by decide +kernel
theorem dX5_complain_198 : decode cX5_complain 198 = .ok (.lload_n 3, 1) := by decide +kernel
theorem dX5_complain_199 : decode cX5_complain 199 = .ok (.ladd, 1) := by decide +kernel
theorem dX5_complain_200 : decode cX5_complain 200 = .ok (.lastore, 1) := by decide +kernel
theorem dX5_complain_201 : decode cX5_complain 201 = .ok (.lload_n 3, 1) := by decide +kernel
theorem dX5_complain_202 : decode cX5_complain 202 = .ok (.lreturn, 1) := by decide +kernel
set_option maxRecDepth 20000 in
theorem ggX5_passes_X5_years : GoodIn wsX5_passes wsX5_years := goodIn_r _ [16, 17, 9, 18, 19, 20, 15, 21, 22, 23, 24, 25, 26, 27, 28, 29, 30, 31, 32, 33, 34, 35, 36, 37, 38, 39, 40, 41, 42, 43, 44, 45, 46, 47, 48, 49, 50, 51, 52, 53, 54, 55, 56, 57, 58, 59, 60, 61, 62, 63, 64, 65, 66] (by decide +kernel) (by decide +kernel)
set_option maxRecDepth 20000 in
theorem gX5_passes_X5_years : GoodIn wsX5_passes (wsV RX5 184 RX5 yX5_years wsX5_years) := goodIn_app (goodIn_of _ (by decide +kernel)) ggX5_passes_X5_years
theorem dX5_passes_0 : decode cX5_passes 0 = .ok (.iconst 0, 1) := by decide +kernel
theorem dX5_passes_1 : decode cX5_passes 1 = .ok (.istore_n 1, 1) := by decide +kernel
theorem dX5_passes_2 : decode cX5_passes 2 = .ok (.iload_n 1, 1) := by decide +kernel
theorem dX5_passes_3 : decode cX5_passes 3 = .ok (.bipush 6, 2) := by decide +kernel
theorem dX5_passes_5 : decode cX5_passes 5 = .ok (.if_icmp .ge 62, 3) := by decide +kernel
theorem dX5_passes_8 : decode cX5_passes 8 = .ok (.aload_n 0, 1) := by decide +kernel
theorem dX5_passes_9 : decode cX5_passes 9 = .ok (.getfield 17, 3) := by decide +kernel
theorem dX5_passes_12 : decode cX5_passes 12 = .ok (.iload_n 1, 1) := by decide +kernel
theorem dX5_passes_13 : decode cX5_passes 13 = .ok (.laload, 1) := by decide +kernel
theorem dX5_passes_14 : decode cX5_passes 14 = .ok (.ldc2_w 103, 3) := by decide +kernel
theorem dX5_passes_17 : decode cX5_passes 17 = .ok (.ldiv, 1) := by decide +kernel
theorem dX5_passes_18 : decode cX5_passes 18 = .ok (.lstore_n 2, 1) := by decide +kernel
theorem dX5_passes_19 : decode cX5_passes 19 = .ok (.aload_n 0, 1) := by decide +kernel
theorem dX5_passes_20 : decode cX5_passes 20 = .ok (.getfield 13, 3) := by decide +kernel
theorem dX5_passes_23 : decode cX5_passes 23 = .ok (.iload_n 1, 1) := by decide +kernel
theorem dX5_passes_24 : decode cX5_passes 24 = .ok (.dup2, 1) := by decide +kernel
theorem dX5_passes_25 : decode cX5_passes 25 = .ok (.laload, 1) := by decide +kernel
theorem dX5_passes_26 : decode cX5_passes 26 = .ok (.lload_n 2, 1) := by decide +kernel
theorem dX5_passes_27 : decode cX5_passes 27 = .ok (.lsub, 1) := by decide +kernel
theorem dX5_passes_28 : decode cX5_passes 28 = .ok (.lastore, 1) := by decide +kernel
theorem dX5_passes_29 : decode cX5_passes 29 = .ok (.aload_n 0, 1) := by decide +kernel
theorem dX5_passes_30 : decode cX5_passes 30 = .ok (.getfield 17, 3) := by decide +kernel
theorem dX5_passes_33 : decode cX5_passes 33 = .ok (.iload_n 1, 1) := by decide +kernel
theorem dX5_passes_34 : decode cX5_passes 34 = .ok (.dup2, 1) := by decide +kernel
theorem dX5_passes_35 : decode cX5_passes 35 = .ok (.laload, 1) := by decide +kernel
theorem dX5_passes_36 : decode cX5_passes 36 = .ok (.lload_n 2, 1) := by decide +kernel
theorem dX5_passes_37 : decode cX5_passes 37 = .ok (.ldc2_w 103, 3) := by decide +kernel
theorem dX5_passes_40 : decode cX5_passes 40 = .ok (.lmul, 1) := by decide +kernel
theorem dX5_passes_41 : decode cX5_passes 41 = .ok (.lsub, 1) := by decide +kernel
theorem dX5_passes_42 : decode cX5_passes 42 = .ok (.lastore, 1) := by decide +kernel
theorem dX5_passes_43 : decode cX5_passes 43 = .ok (.aload_n 0, 1) := by decide +kernel
theorem dX5_passes_44 : decode cX5_passes 44 = .ok (.dup, 1) := by decide +kernel
theorem dX5_passes_45 : decode cX5_passes 45 = .ok (.getfield 105, 3) := by decide +kernel
theorem dX5_passes_48 : decode cX5_passes 48 = .ok (.lload_n 2, 1) := by decide +kernel
theorem dX5_passes_49 : decode cX5_passes 49 = .ok (.aload_n 0, 1) := by decide +kernel
theorem dX5_passes_50 : decode cX5_passes 50 = .ok (.getfield 7, 3) := by decide +kernel
theorem dX5_passes_53 : decode cX5_passes 53 = .ok (.iload_n 1, 1) := by decide +kernel
theorem dX5_passes_54 : decode cX5_passes 54 = .ok (.iaload, 1) := by decide +kernel
theorem dX5_passes_55 : decode cX5_passes 55 = .ok (.i2l, 1) := by decide +kernel
theorem dX5_passes_56 : decode cX5_passes 56 = .ok (.lmul, 1) := by decide +kernel
theorem dX5_passes_57 : decode cX5_passes 57 = .ok (.ladd, 1) := by decide +kernel
theorem dX5_passes_58 : decode cX5_passes 58 = .ok (.putfield 105, 3) := by decide +kernel
theorem dX5_passes_61 : decode cX5_passes 61 = .ok (.iinc 1 1, 3) := by decide +kernel
theorem dX5_passes_64 : decode cX5_passes 64 = .ok (.goto (-62), 3) := by decide +kernel
theorem dX5_passes_67 : decode cX5_passes 67 = .ok (.aload_n 0, 1) := by decide +kernel
theorem dX5_passes_68 : decode cX5_passes 68 = .ok (.dup, 1) := by decide +kernel
theorem dX5_passes_69 : decode cX5_passes 69 = .ok (.getfield 116, 3) := by decide +kernel
theorem dX5_passes_72 : decode cX5_passes 72 = .ok (.iconst 1, 1) := by decide +kernel
theorem dX5_passes_73 : decode cX5_passes 73 = .ok (.iadd, 1) := by decide +kernel
theorem dX5_passes_74 : decode cX5_passes 74 = .ok (.putfield 116, 3) := by decide +kernel
theorem dX5_passes_77 : decode cX5_passes 77 = .ok (.iconst 0, 1) := by decide +kernel
theorem dX5_passes_78 : decode cX5_passes 78 = .ok (.istore_n 1, 1) := by decide +kernel
theorem dX5_passes_79 : decode cX5_passes 79 = .ok (.iload_n 1, 1) := by decide +kernel
theorem dX5_passes_80 : decode cX5_passes 80 = .ok (.aload_n 0, 1) := by decide +kernel
theorem dX5_passes_81 : decode cX5_passes 81 = .ok (.getfield 77, 3) := by decide +kernel
theorem dX5_passes_84 : decode cX5_passes 84 = .ok (.if_icmp .ge 76, 3) := by decide +kernel
theorem dX5_passes_87 : decode cX5_passes 87 = .ok (.aload_n 0, 1) := by decide +kernel
theorem dX5_passes_88 : decode cX5_passes 88 = .ok (.getfield 116, 3) := by decide +kernel
theorem dX5_passes_91 : decode cX5_passes 91 = .ok (.sipush 360, 3) := by decide +kernel
theorem dX5_passes_94 : decode cX5_passes 94 = .ok (.irem, 1) := by decide +kernel
theorem dX5_passes_95 : decode cX5_passes 95 = .ok (.ifCond .ne 65, 3) := by decide +kernel
theorem dX5_passes_98 : decode cX5_passes 98 = .ok (.aload_n 0, 1) := by decide +kernel
theorem dX5_passes_99 : decode cX5_passes 99 = .ok (.getfield 116, 3) := by decide +kernel
theorem dX5_passes_102 : decode cX5_passes 102 = .ok (.sipush 360, 3) := by decide +kernel
theorem dX5_passes_105 : decode cX5_passes 105 = .ok (.idiv, 1) := by decide +kernel
theorem dX5_passes_106 : decode cX5_passes 106 = .ok (.iconst 1, 1) := by decide +kernel
theorem dX5_passes_107 : decode cX5_passes 107 = .ok (.isub, 1) := by decide +kernel
theorem dX5_passes_108 : decode cX5_passes 108 = .ok (.istore_n 2, 1) := by decide +kernel
theorem dX5_passes_109 : decode cX5_passes 109 = .ok (.aload_n 0, 1) := by decide +kernel
theorem dX5_passes_110 : decode cX5_passes 110 = .ok (.iload_n 1, 1) := by decide +kernel
theorem dX5_passes_111 : decode cX5_passes 111 = .ok (.invokevirtual 184, 3) := by decide +kernel
theorem dX5_passes_114 : decode cX5_passes 114 = .ok (.aload_n 0, 1) := by decide +kernel
theorem dX5_passes_115 : decode cX5_passes 115 = .ok (.getfield 29, 3) := by decide +kernel
theorem dX5_passes_118 : decode cX5_passes 118 = .ok (.bipush 21, 2) := by decide +kernel
theorem dX5_passes_120 : decode cX5_passes 120 = .ok (.iload_n 1, 1) := by decide +kernel
theorem dX5_passes_121 : decode cX5_passes 121 = .ok (.imul, 1) := by decide +kernel
theorem dX5_passes_122 : decode cX5_passes 122 = .ok (.iload_n 2, 1) := by decide +kernel
theorem dX5_passes_123 : decode cX5_passes 123 = .ok (.iadd, 1) := by decide +kernel
theorem dX5_passes_124 : decode cX5_passes 124 = .ok (.aload_n 0, 1) := by decide +kernel
theorem dX5_passes_125 : decode cX5_passes 125 = .ok (.getfield 66, 3) := by decide +kernel
theorem dX5_passes_128 : decode cX5_passes 128 = .ok (.iload_n 2, 1) := by decide +kernel
theorem dX5_passes_129 : decode cX5_passes 129 = .ok (.laload, 1) := by decide +kernel
theorem dX5_passes_130 : decode cX5_passes 130 = .ok (.ldc2_w 188, 3) := by decide +kernel
theorem dX5_passes_133 : decode cX5_passes 133 = .ok (.ldiv, 1) := by decide +kernel
theorem dX5_passes_134 : decode cX5_passes 134 = .ok (.lastore, 1) := by decide +kernel
theorem dX5_passes_135 : decode cX5_passes 135 = .ok (.aload_n 0, 1) := by decide +kernel
theorem dX5_passes_136 : decode cX5_passes 136 = .ok (.getfield 20, 3) := by decide +kernel
theorem dX5_passes_139 : decode cX5_passes 139 = .ok (.iload_n 1, 1) := by decide +kernel
theorem dX5_passes_140 : decode cX5_passes 140 = .ok (.dup2, 1) := by decide +kernel
theorem dX5_passes_141 : decode cX5_passes 141 = .ok (.laload, 1) := by decide +kernel
theorem dX5_passes_142 : decode cX5_passes 142 = .ok (.aload_n 0, 1) := by decide +kernel
theorem dX5_passes_143 : decode cX5_passes 143 = .ok (.getfield 66, 3) := by decide +kernel
theorem dX5_passes_146 : decode cX5_passes 146 = .ok (.iload_n 2, 1) := by decide +kernel
theorem dX5_passes_147 : decode cX5_passes 147 = .ok (.laload, 1) := by decide +kernel
theorem dX5_passes_148 : decode cX5_passes 148 = .ok (.ldc2_w 188, 3) := by decide +kernel
theorem dX5_passes_151 : decode cX5_passes 151 = .ok (.ldiv, 1) := by decide +kernel
theorem dX5_passes_152 : decode cX5_passes 152 = .ok (.lsub, 1) := by decide +kernel
theorem dX5_passes_153 : decode cX5_passes 153 = .ok (.lastore, 1) := by decide +kernel
theorem dX5_passes_154 : decode cX5_passes 154 = .ok (.iinc 1 1, 3) := by decide +kernel
theorem dX5_passes_157 : decode cX5_passes 157 = .ok (.goto (-78), 3) := by decide +kernel
theorem dX5_passes_160 : decode cX5_passes 160 = .ok (.return_, 1) := by decide +kernel
set_option maxRecDepth 20000 in
theorem ggX5_pass_X5_isIn : GoodIn wsX5_pass wsX5_isIn := goodIn_r _ [5] (by decide +kernel) (by decide +kernel)
set_option maxRecDepth 20000 in
theorem gX5_pass_X5_isIn : GoodIn wsX5_pass (va_wsS RX5 73 yX5_isIn wsX5_isIn) := goodIn_app (goodIn_of _ (by decide +kernel)) ggX5_pass_X5_isIn
set_option maxRecDepth 20000 in
theorem ggX5_pass_X5_fails : GoodIn wsX5_pass wsX5_fails := goodIn_r _ [9, 10, 54, 55, 56, 57, 58, 59, 60, 61, 62, 63, 64, 65, 66, 67, 68, 69, 70, 71, 72, 73, 74, 75, 76, 77, 78] (by decide +kernel) (by decide +kernel)
set_option maxRecDepth 20000 in
theorem gX5_pass_X5_fails : GoodIn wsX5_pass (wsV RX5 85 RX5 yX5_fails wsX5_fails) := goodIn_app (goodIn_of _ (by decide +kernel)) ggX5_pass_X5_fails
set_option maxRecDepth 20000 in
theorem ggX5_pass_X5_passes : GoodIn wsX5_pass wsX5_passes := goodIn_r _ [14, 15, 16, 17, 18, 19, 1, 20, 21, 22, 23, 24, 25, 26, 27, 4, 28, 29, 30, 31, 32, 33, 34, 35, 36, 37, 38, 39, 40, 41, 42, 43, 44, 45, 46, 47, 48, 49, 50, 51, 52, 53, 54, 55, 56, 57, 58, 59, 60, 61, 62, 63, 64, 65, 66, 67, 68, 69, 70, 71, 72, 73, 74, 75, 76, 77, 78] (by decide +kernel) (by decide +kernel)
set_option maxRecDepth 20000 in
theorem gX5_pass_X5_passes : GoodIn wsX5_pass (wsV RX5 190 RX5 yX5_passes wsX5_passes) := goodIn_app (goodIn_of _ (by decide +kernel)) ggX5_pass_X5_passes
theorem dX5_pass_0 : decode cX5_pass 0 = .ok (.aload_n 0, 1) := by decide +kernel
theorem dX5_pass_1 : decode cX5_pass 1 = .ok (.iload_n 1, 1) := by decide +kernel
theorem dX5_pass_2 : decode cX5_pass 2 = .ok (.iconst 1, 1) := by decide +kernel
theorem dX5_pass_3 : decode cX5_pass 3 = .ok (.sipush 400, 3) := by decide +kernel
theorem dX5_pass_6 : decode cX5_pass 6 = .ok (.invokestatic 73, 3) := by decide +kernel
theorem dX5_pass_9 : decode cX5_pass 9 = .ok (.ifCond .ne 7, 3) := by decide +kernel
theorem dX5_pass_12 : decode cX5_pass 12 = .ok (.iconst 1, 1) := by decide +kernel
theorem dX5_pass_13 : decode cX5_pass 13 = .ok (.goto 20, 3) := by decide +kernel
theorem dX5_pass_16 : decode cX5_pass 16 = .ok (.aload_n 0, 1) := by decide +kernel
theorem dX5_pass_17 : decode cX5_pass 17 = .ok (.getfield 116, 3) := by decide +kernel
theorem dX5_pass_20 : decode cX5_pass 20 = .ok (.iload_n 1, 1) := by decide +kernel
theorem dX5_pass_21 : decode cX5_pass 21 = .ok (.iadd, 1) := by decide +kernel
theorem dX5_pass_22 : decode cX5_pass 22 = .ok (.sipush 7200, 3) := by decide +kernel
theorem dX5_pass_25 : decode cX5_pass 25 = .ok (.if_icmp .le 7, 3) := by decide +kernel
theorem dX5_pass_28 : decode cX5_pass 28 = .ok (.iconst 2, 1) := by decide +kernel
theorem dX5_pass_29 : decode cX5_pass 29 = .ok (.goto 4, 3) := by decide +kernel
theorem dX5_pass_32 : decode cX5_pass 32 = .ok (.iconst 0, 1) := by decide +kernel
theorem dX5_pass_33 : decode cX5_pass 33 = .ok (.invokevirtual 85, 3) := by decide +kernel
theorem dX5_pass_36 : decode cX5_pass 36 = .ok (.ifCond .eq 5, 3) := by decide +kernel
theorem dX5_pass_39 : decode cX5_pass 39 = .ok (.iconst 0, 1) := by decide +kernel
theorem dX5_pass_40 : decode cX5_pass 40 = .ok (.ireturn, 1) := by decide +kernel
theorem dX5_pass_41 : decode cX5_pass 41 = .ok (.iconst 0, 1) := by decide +kernel
theorem dX5_pass_42 : decode cX5_pass 42 = .ok (.istore_n 2, 1) := by decide +kernel
theorem dX5_pass_43 : decode cX5_pass 43 = .ok (.iload_n 2, 1) := by decide +kernel
theorem dX5_pass_44 : decode cX5_pass 44 = .ok (.iload_n 1, 1) := by decide +kernel
theorem dX5_pass_45 : decode cX5_pass 45 = .ok (.if_icmp .ge 13, 3) := by decide +kernel
theorem dX5_pass_48 : decode cX5_pass 48 = .ok (.aload_n 0, 1) := by decide +kernel
theorem dX5_pass_49 : decode cX5_pass 49 = .ok (.invokevirtual 190, 3) := by decide +kernel
theorem dX5_pass_52 : decode cX5_pass 52 = .ok (.iinc 2 1, 3) := by decide +kernel
theorem dX5_pass_55 : decode cX5_pass 55 = .ok (.goto (-12), 3) := by decide +kernel
theorem dX5_pass_58 : decode cX5_pass 58 = .ok (.aload_n 0, 1) := by decide +kernel
theorem dX5_pass_59 : decode cX5_pass 59 = .ok (.getfield 116, 3) := by decide +kernel
theorem dX5_pass_62 : decode cX5_pass 62 = .ok (.ireturn, 1) := by decide +kernel
set_option maxRecDepth 20000 in
theorem ggX5_cash_X5_isClient : GoodIn wsX5_cash wsX5_isClient := goodIn_r _ [7, 8, 9, 10, 6, 11, 17, 18, 19, 20, 21, 22, 23, 24, 25, 26, 27, 28, 29, 30, 31, 32, 33, 34, 35, 36, 37, 38, 39, 40, 41] (by decide +kernel) (by decide +kernel)
set_option maxRecDepth 20000 in
theorem gX5_cash_X5_isClient : GoodIn wsX5_cash (wsV RX5 90 RX5 yX5_isClient wsX5_isClient) := goodIn_app (goodIn_of _ (by decide +kernel)) ggX5_cash_X5_isClient
set_option maxRecDepth 20000 in
theorem ggX5_cash_X5_fails : GoodIn wsX5_cash wsX5_fails := goodIn_r _ [15, 16, 17, 18, 19, 20, 21, 22, 23, 24, 25, 26, 27, 28, 29, 30, 31, 32, 33, 34, 35, 36, 37, 38, 39, 40, 41] (by decide +kernel) (by decide +kernel)
set_option maxRecDepth 20000 in
theorem gX5_cash_X5_fails : GoodIn wsX5_cash (wsV RX5 85 RX5 yX5_fails wsX5_fails) := goodIn_app (goodIn_of _ (by decide +kernel)) ggX5_cash_X5_fails
theorem dX5_cash_0 : decode cX5_cash 0 = .ok (.aload_n 0, 1) := by decide +kernel
theorem dX5_cash_1 : decode cX5_cash 1 = .ok (.iload_n 1, 1) := by decide +kernel
theorem dX5_cash_2 : decode cX5_cash 2 = .ok (.iconst (-1), 1) := by decide +kernel
theorem dX5_cash_3 : decode cX5_cash 3 = .ok (.if_icmp .eq 11, 3) := by decide +kernel
theorem dX5_cash_6 : decode cX5_cash 6 = .ok (.aload_n 0, 1) := by decide +kernel
theorem dX5_cash_7 : decode cX5_cash 7 = .ok (.iload_n 1, 1) := by decide +kernel
theorem dX5_cash_8 : decode cX5_cash 8 = .ok (.invokevirtual 90, 3) := by decide +kernel
theorem dX5_cash_11 : decode cX5_cash 11 = .ok (.ifCond .eq 7, 3) := by decide +kernel
theorem dX5_cash_14 : decode cX5_cash 14 = .ok (.iconst 0, 1) := by decide +kernel
theorem dX5_cash_15 : decode cX5_cash 15 = .ok (.goto 4, 3) := by decide +kernel
theorem dX5_cash_18 : decode cX5_cash 18 = .ok (.iconst 1, 1) := by decide +kernel
theorem dX5_cash_19 : decode cX5_cash 19 = .ok (.invokevirtual 85, 3) := by decide +kernel
theorem dX5_cash_22 : decode cX5_cash 22 = .ok (.ifCond .eq 7, 3) := by decide +kernel
theorem dX5_cash_25 : decode cX5_cash 25 = .ok (.lconst 0, 1) := by decide +kernel
theorem dX5_cash_26 : decode cX5_cash 26 = .ok (.goto 21, 3) := by decide +kernel
theorem dX5_cash_29 : decode cX5_cash 29 = .ok (.iload_n 1, 1) := by decide +kernel
theorem dX5_cash_30 : decode cX5_cash 30 = .ok (.iconst (-1), 1) := by decide +kernel
theorem dX5_cash_31 : decode cX5_cash 31 = .ok (.if_icmp .ne 10, 3) := by decide +kernel
theorem dX5_cash_34 : decode cX5_cash 34 = .ok (.aload_n 0, 1) := by decide +kernel
theorem dX5_cash_35 : decode cX5_cash 35 = .ok (.getfield 105, 3) := by decide +kernel
theorem dX5_cash_38 : decode cX5_cash 38 = .ok (.goto 9, 3) := by decide +kernel
theorem dX5_cash_41 : decode cX5_cash 41 = .ok (.aload_n 0, 1) := by decide +kernel
theorem dX5_cash_42 : decode cX5_cash 42 = .ok (.getfield 20, 3) := by decide +kernel
theorem dX5_cash_45 : decode cX5_cash 45 = .ok (.iload_n 1, 1) := by decide +kernel
theorem dX5_cash_46 : decode cX5_cash 46 = .ok (.laload, 1) := by decide +kernel
theorem dX5_cash_47 : decode cX5_cash 47 = .ok (.lreturn, 1) := by decide +kernel
set_option maxRecDepth 20000 in
theorem ggX5_parts_X5_isClient : GoodIn wsX5_parts wsX5_isClient := goodIn_r _ [7, 8, 9, 10, 6, 11, 20, 21, 22, 23, 24, 25, 26, 27, 28, 29, 30, 31, 32, 33, 34, 35, 36, 37, 38, 39, 40, 41, 42, 43, 44] (by decide +kernel) (by decide +kernel)
set_option maxRecDepth 20000 in
theorem gX5_parts_X5_isClient : GoodIn wsX5_parts (wsV RX5 90 RX5 yX5_isClient wsX5_isClient) := goodIn_app (goodIn_of _ (by decide +kernel)) ggX5_parts_X5_isClient
set_option maxRecDepth 20000 in
theorem ggX5_parts_X5_isFund : GoodIn wsX5_parts wsX5_isFund := goodIn_r _ [14, 9, 10, 6, 11] (by decide +kernel) (by decide +kernel)
set_option maxRecDepth 20000 in
theorem gX5_parts_X5_isFund : GoodIn wsX5_parts (va_wsS RX5 80 yX5_isFund wsX5_isFund) := goodIn_app (goodIn_of _ (by decide +kernel)) ggX5_parts_X5_isFund
set_option maxRecDepth 20000 in
theorem ggX5_parts_X5_fails : GoodIn wsX5_parts wsX5_fails := goodIn_r _ [18, 19, 20, 21, 22, 23, 24, 25, 26, 27, 28, 29, 30, 31, 32, 33, 34, 35, 36, 37, 38, 39, 40, 41, 42, 43, 44] (by decide +kernel) (by decide +kernel)
set_option maxRecDepth 20000 in
theorem gX5_parts_X5_fails : GoodIn wsX5_parts (wsV RX5 85 RX5 yX5_fails wsX5_fails) := goodIn_app (goodIn_of _ (by decide +kernel)) ggX5_parts_X5_fails
theorem dX5_parts_0 : decode cX5_parts 0 = .ok (.iload_n 1, 1) := by decide +kernel
theorem dX5_parts_1 : decode cX5_parts 1 = .ok (.iconst (-1), 1) := by decide +kernel
theorem dX5_parts_2 : decode cX5_parts 2 = .ok (.if_icmp .eq 11, 3) := by decide +kernel
theorem dX5_parts_5 : decode cX5_parts 5 = .ok (.aload_n 0, 1) := by decide +kernel
theorem dX5_parts_6 : decode cX5_parts 6 = .ok (.iload_n 1, 1) := by decide +kernel
theorem dX5_parts_7 : decode cX5_parts 7 = .ok (.invokevirtual 90, 3) := by decide +kernel
theorem dX5_parts_10 : decode cX5_parts 10 = .ok (.ifCond .eq 14, 3) := by decide +kernel
theorem dX5_parts_13 : decode cX5_parts 13 = .ok (.iload_n 2, 1) := by decide +kernel
theorem dX5_parts_14 : decode cX5_parts 14 = .ok (.invokestatic 80, 3) := by decide +kernel
theorem dX5_parts_17 : decode cX5_parts 17 = .ok (.ifCond .eq 7, 3) := by decide +kernel
theorem dX5_parts_20 : decode cX5_parts 20 = .ok (.iconst 1, 1) := by decide +kernel
theorem dX5_parts_21 : decode cX5_parts 21 = .ok (.goto 4, 3) := by decide +kernel
theorem dX5_parts_24 : decode cX5_parts 24 = .ok (.iconst 0, 1) := by decide +kernel
theorem dX5_parts_25 : decode cX5_parts 25 = .ok (.istore_n 3, 1) := by decide +kernel
theorem dX5_parts_26 : decode cX5_parts 26 = .ok (.aload_n 0, 1) := by decide +kernel
theorem dX5_parts_27 : decode cX5_parts 27 = .ok (.iload_n 3, 1) := by decide +kernel
theorem dX5_parts_28 : decode cX5_parts 28 = .ok (.ifCond .eq 7, 3) := by decide +kernel
theorem dX5_parts_31 : decode cX5_parts 31 = .ok (.iconst 0, 1) := by decide +kernel
theorem dX5_parts_32 : decode cX5_parts 32 = .ok (.goto 4, 3) := by decide +kernel
theorem dX5_parts_35 : decode cX5_parts 35 = .ok (.iconst 1, 1) := by decide +kernel
theorem dX5_parts_36 : decode cX5_parts 36 = .ok (.invokevirtual 85, 3) := by decide +kernel
theorem dX5_parts_39 : decode cX5_parts 39 = .ok (.ifCond .eq 7, 3) := by decide +kernel
theorem dX5_parts_42 : decode cX5_parts 42 = .ok (.lconst 0, 1) := by decide +kernel
theorem dX5_parts_43 : decode cX5_parts 43 = .ok (.goto 28, 3) := by decide +kernel
theorem dX5_parts_46 : decode cX5_parts 46 = .ok (.iload_n 1, 1) := by decide +kernel
theorem dX5_parts_47 : decode cX5_parts 47 = .ok (.iconst (-1), 1) := by decide +kernel
theorem dX5_parts_48 : decode cX5_parts 48 = .ok (.if_icmp .ne 12, 3) := by decide +kernel
theorem dX5_parts_51 : decode cX5_parts 51 = .ok (.aload_n 0, 1) := by decide +kernel
theorem dX5_parts_52 : decode cX5_parts 52 = .ok (.getfield 17, 3) := by decide +kernel
theorem dX5_parts_55 : decode cX5_parts 55 = .ok (.iload_n 2, 1) := by decide +kernel
theorem dX5_parts_56 : decode cX5_parts 56 = .ok (.laload, 1) := by decide +kernel
theorem dX5_parts_57 : decode cX5_parts 57 = .ok (.goto 14, 3) := by decide +kernel
theorem dX5_parts_60 : decode cX5_parts 60 = .ok (.aload_n 0, 1) := by decide +kernel
theorem dX5_parts_61 : decode cX5_parts 61 = .ok (.getfield 26, 3) := by decide +kernel
theorem dX5_parts_64 : decode cX5_parts 64 = .ok (.bipush 6, 2) := by decide +kernel
theorem dX5_parts_66 : decode cX5_parts 66 = .ok (.iload_n 1, 1) := by decide +kernel
theorem dX5_parts_67 : decode cX5_parts 67 = .ok (.imul, 1) := by decide +kernel
theorem dX5_parts_68 : decode cX5_parts 68 = .ok (.iload_n 2, 1) := by decide +kernel
theorem dX5_parts_69 : decode cX5_parts 69 = .ok (.iadd, 1) := by decide +kernel
theorem dX5_parts_70 : decode cX5_parts 70 = .ok (.laload, 1) := by decide +kernel
theorem dX5_parts_71 : decode cX5_parts 71 = .ok (.lreturn, 1) := by decide +kernel
set_option maxRecDepth 20000 in
theorem ggX5_units_X5_isFund : GoodIn wsX5_units wsX5_isFund := goodIn_r _ [5, 6, 7, 4, 8] (by decide +kernel) (by decide +kernel)
set_option maxRecDepth 20000 in
theorem gX5_units_X5_isFund : GoodIn wsX5_units (va_wsS RX5 80 yX5_isFund wsX5_isFund) := goodIn_app (goodIn_of _ (by decide +kernel)) ggX5_units_X5_isFund
set_option maxRecDepth 20000 in
theorem ggX5_units_X5_fails : GoodIn wsX5_units wsX5_fails := goodIn_r _ [12, 13, 14, 15, 16, 17, 18, 19, 20, 21, 22, 23, 24, 25, 26, 27, 28, 29, 30, 31, 32, 33, 34, 35, 36, 37, 38] (by decide +kernel) (by decide +kernel)
set_option maxRecDepth 20000 in
theorem gX5_units_X5_fails : GoodIn wsX5_units (wsV RX5 85 RX5 yX5_fails wsX5_fails) := goodIn_app (goodIn_of _ (by decide +kernel)) ggX5_units_X5_fails
theorem dX5_units_0 : decode cX5_units 0 = .ok (.aload_n 0, 1) := by decide +kernel
theorem dX5_units_1 : decode cX5_units 1 = .ok (.iload_n 1, 1) := by decide +kernel
theorem dX5_units_2 : decode cX5_units 2 = .ok (.invokestatic 80, 3) := by decide +kernel
theorem dX5_units_5 : decode cX5_units 5 = .ok (.ifCond .eq 7, 3) := by decide +kernel
theorem dX5_units_8 : decode cX5_units 8 = .ok (.iconst 0, 1) := by decide +kernel
theorem dX5_units_9 : decode cX5_units 9 = .ok (.goto 4, 3) := by decide +kernel
theorem dX5_units_12 : decode cX5_units 12 = .ok (.iconst 1, 1) := by decide +kernel
theorem dX5_units_13 : decode cX5_units 13 = .ok (.invokevirtual 85, 3) := by decide +kernel
theorem dX5_units_16 : decode cX5_units 16 = .ok (.ifCond .eq 7, 3) := by decide +kernel
theorem dX5_units_19 : decode cX5_units 19 = .ok (.lconst 0, 1) := by decide +kernel
theorem dX5_units_20 : decode cX5_units 20 = .ok (.goto 9, 3) := by decide +kernel
theorem dX5_units_23 : decode cX5_units 23 = .ok (.aload_n 0, 1) := by decide +kernel
theorem dX5_units_24 : decode cX5_units 24 = .ok (.getfield 13, 3) := by decide +kernel
theorem dX5_units_27 : decode cX5_units 27 = .ok (.iload_n 1, 1) := by decide +kernel
theorem dX5_units_28 : decode cX5_units 28 = .ok (.laload, 1) := by decide +kernel
theorem dX5_units_29 : decode cX5_units 29 = .ok (.lreturn, 1) := by decide +kernel
set_option maxRecDepth 20000 in
theorem ggX5_tradeOf_X5_isTrade : GoodIn wsX5_tradeOf wsX5_isTrade := goodIn_r _ [12, 13, 14, 15, 11, 16, 22, 23, 24, 25, 26, 27, 28, 29, 30, 31, 32, 33, 34, 35, 36, 37, 38, 39, 40, 41, 42, 43, 44, 45, 46] (by decide +kernel) (by decide +kernel)
set_option maxRecDepth 20000 in
theorem gX5_tradeOf_X5_isTrade : GoodIn wsX5_tradeOf (wsV RX5 178 RX5 yX5_isTrade wsX5_isTrade) := goodIn_app (goodIn_of _ (by decide +kernel)) ggX5_tradeOf_X5_isTrade
set_option maxRecDepth 20000 in
theorem ggX5_tradeOf_X5_isIn : GoodIn wsX5_tradeOf wsX5_isIn := goodIn_r _ [16] (by decide +kernel) (by decide +kernel)
set_option maxRecDepth 20000 in
theorem gX5_tradeOf_X5_isIn : GoodIn wsX5_tradeOf (va_wsS RX5 73 yX5_isIn wsX5_isIn) := goodIn_app (goodIn_of _ (by decide +kernel)) ggX5_tradeOf_X5_isIn
set_option maxRecDepth 20000 in
theorem ggX5_tradeOf_X5_fails : GoodIn wsX5_tradeOf wsX5_fails := goodIn_r _ [20, 21, 22, 23, 24, 25, 26, 27, 28, 29, 30, 31, 32, 33, 34, 35, 36, 37, 38, 39, 40, 41, 42, 43, 44, 45, 46] (by decide +kernel) (by decide +kernel)
set_option maxRecDepth 20000 in
theorem gX5_tradeOf_X5_fails : GoodIn wsX5_tradeOf (wsV RX5 85 RX5 yX5_fails wsX5_fails) := goodIn_app (goodIn_of _ (by decide +kernel)) ggX5_tradeOf_X5_fails
theorem dX5_tradeOf_0 : decode cX5_tradeOf 0 = .ok (.aload_n 0, 1) := by decide +kernel
theorem dX5_tradeOf_1 : decode cX5_tradeOf 1 = .ok (.aload_n 0, 1) := by decide +kernel
theorem dX5_tradeOf_2 : decode cX5_tradeOf 2 = .ok (.iload_n 1, 1) := by decide +kernel
theorem dX5_tradeOf_3 : decode cX5_tradeOf 3 = .ok (.invokevirtual 178, 3) := by decide +kernel
theorem dX5_tradeOf_6 : decode cX5_tradeOf 6 = .ok (.ifCond .ne 7, 3) := by decide +kernel
theorem dX5_tradeOf_9 : decode cX5_tradeOf 9 = .ok (.iconst 1, 1) := by decide +kernel
theorem dX5_tradeOf_10 : decode cX5_tradeOf 10 = .ok (.goto 18, 3) := by decide +kernel
theorem dX5_tradeOf_13 : decode cX5_tradeOf 13 = .ok (.iload_n 2, 1) := by decide +kernel
theorem dX5_tradeOf_14 : decode cX5_tradeOf 14 = .ok (.iconst 0, 1) := by decide +kernel
theorem dX5_tradeOf_15 : decode cX5_tradeOf 15 = .ok (.bipush 6, 2) := by decide +kernel
theorem dX5_tradeOf_17 : decode cX5_tradeOf 17 = .ok (.invokestatic 73, 3) := by decide +kernel
theorem dX5_tradeOf_20 : decode cX5_tradeOf 20 = .ok (.ifCond .eq 7, 3) := by decide +kernel
theorem dX5_tradeOf_23 : decode cX5_tradeOf 23 = .ok (.iconst 0, 1) := by decide +kernel
theorem dX5_tradeOf_24 : decode cX5_tradeOf 24 = .ok (.goto 4, 3) := by decide +kernel
theorem dX5_tradeOf_27 : decode cX5_tradeOf 27 = .ok (.iconst 2, 1) := by decide +kernel
theorem dX5_tradeOf_28 : decode cX5_tradeOf 28 = .ok (.invokevirtual 85, 3) := by decide +kernel
theorem dX5_tradeOf_31 : decode cX5_tradeOf 31 = .ok (.ifCond .eq 5, 3) := by decide +kernel
theorem dX5_tradeOf_34 : decode cX5_tradeOf 34 = .ok (.lconst 0, 1) := by decide +kernel
theorem dX5_tradeOf_35 : decode cX5_tradeOf 35 = .ok (.lreturn, 1) := by decide +kernel
theorem dX5_tradeOf_36 : decode cX5_tradeOf 36 = .ok (.iload_n 2, 1) := by decide +kernel
theorem dX5_tradeOf_37 : decode cX5_tradeOf 37 = .ok (.tableswitch 84 0 5 #[39, 47, 55, 62, 69, 76], 39) := by decide +kernel
theorem dX5_tradeOf_76 : decode cX5_tradeOf 76 = .ok (.aload_n 0, 1) := by decide +kernel
theorem dX5_tradeOf_77 : decode cX5_tradeOf 77 = .ok (.getfield 32, 3) := by decide +kernel
theorem dX5_tradeOf_80 : decode cX5_tradeOf 80 = .ok (.iload_n 1, 1) := by decide +kernel
theorem dX5_tradeOf_81 : decode cX5_tradeOf 81 = .ok (.iaload, 1) := by decide +kernel
theorem dX5_tradeOf_82 : decode cX5_tradeOf 82 = .ok (.i2l, 1) := by decide +kernel
theorem dX5_tradeOf_83 : decode cX5_tradeOf 83 = .ok (.lreturn, 1) := by decide +kernel
theorem dX5_tradeOf_84 : decode cX5_tradeOf 84 = .ok (.aload_n 0, 1) := by decide +kernel
theorem dX5_tradeOf_85 : decode cX5_tradeOf 85 = .ok (.getfield 35, 3) := by decide +kernel
theorem dX5_tradeOf_88 : decode cX5_tradeOf 88 = .ok (.iload_n 1, 1) := by decide +kernel
theorem dX5_tradeOf_89 : decode cX5_tradeOf 89 = .ok (.iaload, 1) := by decide +kernel
theorem dX5_tradeOf_90 : decode cX5_tradeOf 90 = .ok (.i2l, 1) := by decide +kernel
theorem dX5_tradeOf_91 : decode cX5_tradeOf 91 = .ok (.lreturn, 1) := by decide +kernel
theorem dX5_tradeOf_92 : decode cX5_tradeOf 92 = .ok (.aload_n 0, 1) := by decide +kernel
theorem dX5_tradeOf_93 : decode cX5_tradeOf 93 = .ok (.getfield 38, 3) := by decide +kernel
theorem dX5_tradeOf_96 : decode cX5_tradeOf 96 = .ok (.iload_n 1, 1) := by decide +kernel
theorem dX5_tradeOf_97 : decode cX5_tradeOf 97 = .ok (.laload, 1) := by decide +kernel
theorem dX5_tradeOf_98 : decode cX5_tradeOf 98 = .ok (.lreturn, 1) := by decide +kernel
theorem dX5_tradeOf_99 : decode cX5_tradeOf 99 = .ok (.aload_n 0, 1) := by decide +kernel
theorem dX5_tradeOf_100 : decode cX5_tradeOf 100 = .ok (.getfield 41, 3) := by decide +kernel
theorem dX5_tradeOf_103 : decode cX5_tradeOf 103 = .ok (.iload_n 1, 1) := by decide +kernel
theorem dX5_tradeOf_104 : decode cX5_tradeOf 104 = .ok (.laload, 1) := by decide +kernel
theorem dX5_tradeOf_105 : decode cX5_tradeOf 105 = .ok (.lreturn, 1) := by decide +kernel
theorem dX5_tradeOf_106 : decode cX5_tradeOf 106 = .ok (.aload_n 0, 1) := by decide +kernel
theorem dX5_tradeOf_107 : decode cX5_tradeOf 107 = .ok (.getfield 44, 3) := by decide +kernel
theorem dX5_tradeOf_110 : decode cX5_tradeOf 110 = .ok (.iload_n 1, 1) := by decide +kernel
theorem dX5_tradeOf_111 : decode cX5_tradeOf 111 = .ok (.laload, 1) := by decide +kernel
theorem dX5_tradeOf_112 : decode cX5_tradeOf 112 = .ok (.lreturn, 1) := by decide +kernel
theorem dX5_tradeOf_113 : decode cX5_tradeOf 113 = .ok (.aload_n 0, 1) := by decide +kernel
theorem dX5_tradeOf_114 : decode cX5_tradeOf 114 = .ok (.getfield 47, 3) := by decide +kernel
theorem dX5_tradeOf_117 : decode cX5_tradeOf 117 = .ok (.iload_n 1, 1) := by decide +kernel
theorem dX5_tradeOf_118 : decode cX5_tradeOf 118 = .ok (.iaload, 1) := by decide +kernel
theorem dX5_tradeOf_119 : decode cX5_tradeOf 119 = .ok (.i2l, 1) := by decide +kernel
theorem dX5_tradeOf_120 : decode cX5_tradeOf 120 = .ok (.lreturn, 1) := by decide +kernel
theorem dX5_tradeOf_121 : decode cX5_tradeOf 121 = .ok (.aload_n 0, 1) := by decide +kernel
theorem dX5_tradeOf_122 : decode cX5_tradeOf 122 = .ok (.getfield 50, 3) := by decide +kernel
theorem dX5_tradeOf_125 : decode cX5_tradeOf 125 = .ok (.iload_n 1, 1) := by decide +kernel
theorem dX5_tradeOf_126 : decode cX5_tradeOf 126 = .ok (.baload, 1) := by decide +kernel
theorem dX5_tradeOf_127 : decode cX5_tradeOf 127 = .ok (.ifCond .eq 7, 3) := by decide +kernel
theorem dX5_tradeOf_130 : decode cX5_tradeOf 130 = .ok (.lconst 1, 1) := by decide +kernel
theorem dX5_tradeOf_131 : decode cX5_tradeOf 131 = .ok (.goto 4, 3) := by decide +kernel
theorem dX5_tradeOf_134 : decode cX5_tradeOf 134 = .ok (.lconst 0, 1) := by decide +kernel
theorem dX5_tradeOf_135 : decode cX5_tradeOf 135 = .ok (.lreturn, 1) := by decide +kernel
set_option maxRecDepth 20000 in
theorem ggX5_lot_X5_isClient : GoodIn wsX5_lot wsX5_isClient := goodIn_r _ [10, 11, 12, 13, 9, 14, 44, 45, 46, 47, 48, 49, 50, 51, 52, 53, 54, 55, 56, 57, 58, 59, 60, 61, 62, 63, 64, 65, 66, 67, 68] (by decide +kernel) (by decide +kernel)
set_option maxRecDepth 20000 in
theorem gX5_lot_X5_isClient : GoodIn wsX5_lot (wsV RX5 90 RX5 yX5_isClient wsX5_isClient) := goodIn_app (goodIn_of _ (by decide +kernel)) ggX5_lot_X5_isClient
set_option maxRecDepth 20000 in
theorem ggX5_lot_X5_isFund : GoodIn wsX5_lot wsX5_isFund := goodIn_r _ [17, 12, 13, 9, 14] (by decide +kernel) (by decide +kernel)
set_option maxRecDepth 20000 in
theorem gX5_lot_X5_isFund : GoodIn wsX5_lot (va_wsS RX5 80 yX5_isFund wsX5_isFund) := goodIn_app (goodIn_of _ (by decide +kernel)) ggX5_lot_X5_isFund
set_option maxRecDepth 20000 in
theorem ggX5_lot_X5_isIn : GoodIn wsX5_lot wsX5_isIn := goodIn_r _ [14] (by decide +kernel) (by decide +kernel)
set_option maxRecDepth 20000 in
theorem gX5_lot_X5_isIn : GoodIn wsX5_lot (va_wsS RX5 73 yX5_isIn wsX5_isIn) := goodIn_app (goodIn_of _ (by decide +kernel)) ggX5_lot_X5_isIn
set_option maxRecDepth 20000 in
theorem ggX5_lot_X5_fails : GoodIn wsX5_lot wsX5_fails := goodIn_r _ [21, 22, 44, 45, 46, 47, 48, 49, 50, 51, 52, 53, 54, 55, 56, 57, 58, 59, 60, 61, 62, 63, 64, 65, 66, 67, 68] (by decide +kernel) (by decide +kernel)
set_option maxRecDepth 20000 in
theorem gX5_lot_X5_fails : GoodIn wsX5_lot (wsV RX5 85 RX5 yX5_fails wsX5_fails) := goodIn_app (goodIn_of _ (by decide +kernel)) ggX5_lot_X5_fails
set_option maxRecDepth 20000 in
theorem ggX5_lot_X5_finds : GoodIn wsX5_lot wsX5_finds := goodIn_r _ [26, 2, 27, 28, 29, 30, 31, 4, 3, 5, 32, 33, 34, 35, 36, 37, 38, 9, 39, 40, 41, 42, 43, 44, 45, 46, 47, 48, 49, 50, 51, 52, 53, 54, 55, 56, 57, 58, 59, 60, 61, 62, 63, 64, 65, 66, 67, 68] (by decide +kernel) (by decide +kernel)
set_option maxRecDepth 20000 in
theorem gX5_lot_X5_finds : GoodIn wsX5_lot (wsV RX5 170 RX5 yX5_finds wsX5_finds) := goodIn_app (goodIn_of _ (by decide +kernel)) ggX5_lot_X5_finds
theorem dX5_lot_0 : decode cX5_lot 0 = .ok (.aload_n 0, 1) := by decide +kernel
theorem dX5_lot_1 : decode cX5_lot 1 = .ok (.iload_n 1, 1) := by decide +kernel
theorem dX5_lot_2 : decode cX5_lot 2 = .ok (.invokevirtual 90, 3) := by decide +kernel
theorem dX5_lot_5 : decode cX5_lot 5 = .ok (.ifCond .eq 18, 3) := by decide +kernel
theorem dX5_lot_8 : decode cX5_lot 8 = .ok (.iload_n 2, 1) := by decide +kernel
theorem dX5_lot_9 : decode cX5_lot 9 = .ok (.invokestatic 80, 3) := by decide +kernel
theorem dX5_lot_12 : decode cX5_lot 12 = .ok (.ifCond .eq 11, 3) := by decide +kernel
theorem dX5_lot_15 : decode cX5_lot 15 = .ok (.iload_n 3, 1) := by decide +kernel
theorem dX5_lot_16 : decode cX5_lot 16 = .ok (.ifCond .lt 7, 3) := by decide +kernel
theorem dX5_lot_19 : decode cX5_lot 19 = .ok (.iconst 1, 1) := by decide +kernel
theorem dX5_lot_20 : decode cX5_lot 20 = .ok (.goto 4, 3) := by decide +kernel
theorem dX5_lot_23 : decode cX5_lot 23 = .ok (.iconst 0, 1) := by decide +kernel
theorem dX5_lot_24 : decode cX5_lot 24 = .ok (.istore 5, 2) := by decide +kernel
theorem dX5_lot_26 : decode cX5_lot 26 = .ok (.aload_n 0, 1) := by decide +kernel
theorem dX5_lot_27 : decode cX5_lot 27 = .ok (.iload 5, 2) := by decide +kernel
theorem dX5_lot_29 : decode cX5_lot 29 = .ok (.ifCond .ne 7, 3) := by decide +kernel
theorem dX5_lot_32 : decode cX5_lot 32 = .ok (.iconst 1, 1) := by decide +kernel
theorem dX5_lot_33 : decode cX5_lot 33 = .ok (.goto 18, 3) := by decide +kernel
theorem dX5_lot_36 : decode cX5_lot 36 = .ok (.iload 4, 2) := by decide +kernel
theorem dX5_lot_38 : decode cX5_lot 38 = .ok (.iconst 0, 1) := by decide +kernel
theorem dX5_lot_39 : decode cX5_lot 39 = .ok (.iconst 2, 1) := by decide +kernel
theorem dX5_lot_40 : decode cX5_lot 40 = .ok (.invokestatic 73, 3) := by decide +kernel
theorem dX5_lot_43 : decode cX5_lot 43 = .ok (.ifCond .eq 7, 3) := by decide +kernel
theorem dX5_lot_46 : decode cX5_lot 46 = .ok (.iconst 0, 1) := by decide +kernel
theorem dX5_lot_47 : decode cX5_lot 47 = .ok (.goto 4, 3) := by decide +kernel
theorem dX5_lot_50 : decode cX5_lot 50 = .ok (.iconst 2, 1) := by decide +kernel
theorem dX5_lot_51 : decode cX5_lot 51 = .ok (.invokevirtual 85, 3) := by decide +kernel
theorem dX5_lot_54 : decode cX5_lot 54 = .ok (.ifCond .eq 5, 3) := by decide +kernel
theorem dX5_lot_57 : decode cX5_lot 57 = .ok (.lconst 0, 1) := by decide +kernel
theorem dX5_lot_58 : decode cX5_lot 58 = .ok (.lreturn, 1) := by decide +kernel
theorem dX5_lot_59 : decode cX5_lot 59 = .ok (.aload_n 0, 1) := by decide +kernel
theorem dX5_lot_60 : decode cX5_lot 60 = .ok (.iload_n 1, 1) := by decide +kernel
theorem dX5_lot_61 : decode cX5_lot 61 = .ok (.iload_n 2, 1) := by decide +kernel
theorem dX5_lot_62 : decode cX5_lot 62 = .ok (.invokevirtual 170, 3) := by decide +kernel
theorem dX5_lot_65 : decode cX5_lot 65 = .ok (.iconst 0, 1) := by decide +kernel
theorem dX5_lot_66 : decode cX5_lot 66 = .ok (.istore 6, 2) := by decide +kernel
theorem dX5_lot_68 : decode cX5_lot 68 = .ok (.ldc2_w 193, 3) := by decide +kernel
theorem dX5_lot_71 : decode cX5_lot 71 = .ok (.lstore 7, 2) := by decide +kernel
theorem dX5_lot_73 : decode cX5_lot 73 = .ok (.iconst 0, 1) := by decide +kernel
theorem dX5_lot_74 : decode cX5_lot 74 = .ok (.istore 9, 2) := by decide +kernel
theorem dX5_lot_76 : decode cX5_lot 76 = .ok (.iload 9, 2) := by decide +kernel
theorem dX5_lot_78 : decode cX5_lot 78 = .ok (.aload_n 0, 1) := by decide +kernel
theorem dX5_lot_79 : decode cX5_lot 79 = .ok (.getfield 160, 3) := by decide +kernel
theorem dX5_lot_82 : decode cX5_lot 82 = .ok (.if_icmp .ge 76, 3) := by decide +kernel
theorem dX5_lot_85 : decode cX5_lot 85 = .ok (.aload_n 0, 1) := by decide +kernel
theorem dX5_lot_86 : decode cX5_lot 86 = .ok (.getfield 57, 3) := by decide +kernel
theorem dX5_lot_89 : decode cX5_lot 89 = .ok (.iload 9, 2) := by decide +kernel
theorem dX5_lot_91 : decode cX5_lot 91 = .ok (.laload, 1) := by decide +kernel
theorem dX5_lot_92 : decode cX5_lot 92 = .ok (.lconst 0, 1) := by decide +kernel
theorem dX5_lot_93 : decode cX5_lot 93 = .ok (.lcmp, 1) := by decide +kernel
theorem dX5_lot_94 : decode cX5_lot 94 = .ok (.ifCond .le 58, 3) := by decide +kernel
theorem dX5_lot_97 : decode cX5_lot 97 = .ok (.iload 6, 2) := by decide +kernel
theorem dX5_lot_99 : decode cX5_lot 99 = .ok (.iload_n 3, 1) := by decide +kernel
theorem dX5_lot_100 : decode cX5_lot 100 = .ok (.if_icmp .ne 45, 3) := by decide +kernel
theorem dX5_lot_103 : decode cX5_lot 103 = .ok (.iload 4, 2) := by decide +kernel
theorem dX5_lot_105 : decode cX5_lot 105 = .ok (.ifCond .ne 14, 3) := by decide +kernel
theorem dX5_lot_108 : decode cX5_lot 108 = .ok (.aload_n 0, 1) := by decide +kernel
theorem dX5_lot_109 : decode cX5_lot 109 = .ok (.getfield 54, 3) := by decide +kernel
theorem dX5_lot_112 : decode cX5_lot 112 = .ok (.iload 9, 2) := by decide +kernel
theorem dX5_lot_114 : decode cX5_lot 114 = .ok (.iaload, 1) := by decide +kernel
theorem dX5_lot_115 : decode cX5_lot 115 = .ok (.i2l, 1) := by decide +kernel
theorem dX5_lot_116 : decode cX5_lot 116 = .ok (.goto 31, 3) := by decide +kernel
theorem dX5_lot_119 : decode cX5_lot 119 = .ok (.iload 4, 2) := by decide +kernel
theorem dX5_lot_121 : decode cX5_lot 121 = .ok (.iconst 1, 1) := by decide +kernel
theorem dX5_lot_122 : decode cX5_lot 122 = .ok (.if_icmp .ne 13, 3) := by decide +kernel
theorem dX5_lot_125 : decode cX5_lot 125 = .ok (.aload_n 0, 1) := by decide +kernel
theorem dX5_lot_126 : decode cX5_lot 126 = .ok (.getfield 57, 3) := by decide +kernel
theorem dX5_lot_129 : decode cX5_lot 129 = .ok (.iload 9, 2) := by decide +kernel
theorem dX5_lot_131 : decode cX5_lot 131 = .ok (.laload, 1) := by decide +kernel
theorem dX5_lot_132 : decode cX5_lot 132 = .ok (.goto 15, 3) := by decide +kernel
theorem dX5_lot_135 : decode cX5_lot 135 = .ok (.aload_n 0, 1) := by decide +kernel
theorem dX5_lot_136 : decode cX5_lot 136 = .ok (.getfield 60, 3) := by decide +kernel
theorem dX5_lot_139 : decode cX5_lot 139 = .ok (.iload 9, 2) := by decide +kernel
theorem dX5_lot_141 : decode cX5_lot 141 = .ok (.laload, 1) := by decide +kernel
theorem dX5_lot_142 : decode cX5_lot 142 = .ok (.goto 5, 3) := by decide +kernel
theorem dX5_lot_145 : decode cX5_lot 145 = .ok (.lload 7, 2) := by decide +kernel
theorem dX5_lot_147 : decode cX5_lot 147 = .ok (.lstore 7, 2) := by decide +kernel
theorem dX5_lot_149 : decode cX5_lot 149 = .ok (.iinc 6 1, 3) := by decide +kernel
theorem dX5_lot_152 : decode cX5_lot 152 = .ok (.iinc 9 1, 3) := by decide +kernel
theorem dX5_lot_155 : decode cX5_lot 155 = .ok (.goto (-79), 3) := by decide +kernel
theorem dX5_lot_158 : decode cX5_lot 158 = .ok (.lload 7, 2) := by decide +kernel
theorem dX5_lot_160 : decode cX5_lot 160 = .ok (.lreturn, 1) := by decide +kernel
set_option maxRecDepth 20000 in
theorem ggX5_year_X5_isClient : GoodIn wsX5_year wsX5_isClient := goodIn_r _ [9, 10, 11, 12, 8, 13, 47, 48, 49, 50, 51, 52, 53, 54, 55, 56, 57, 58, 59, 60, 61, 62, 63, 64, 65, 66, 67, 68, 69, 70, 71] (by decide +kernel) (by decide +kernel)
set_option maxRecDepth 20000 in
theorem gX5_year_X5_isClient : GoodIn wsX5_year (wsV RX5 90 RX5 yX5_isClient wsX5_isClient) := goodIn_app (goodIn_of _ (by decide +kernel)) ggX5_year_X5_isClient
set_option maxRecDepth 20000 in
theorem ggX5_year_X5_isIn : GoodIn wsX5_year wsX5_isIn := goodIn_r _ [13] (by decide +kernel) (by decide +kernel)
set_option maxRecDepth 20000 in
theorem gX5_year_X5_isIn : GoodIn wsX5_year (va_wsS RX5 73 yX5_isIn wsX5_isIn) := goodIn_app (goodIn_of _ (by decide +kernel)) ggX5_year_X5_isIn
set_option maxRecDepth 20000 in
theorem ggX5_year_X5_fails : GoodIn wsX5_year wsX5_fails := goodIn_r _ [17, 18, 47, 48, 49, 50, 51, 52, 53, 54, 55, 56, 57, 58, 59, 60, 61, 62, 63, 64, 65, 66, 67, 68, 69, 70, 71] (by decide +kernel) (by decide +kernel)
set_option maxRecDepth 20000 in
theorem gX5_year_X5_fails : GoodIn wsX5_year (wsV RX5 85 RX5 yX5_fails wsX5_fails) := goodIn_app (goodIn_of _ (by decide +kernel)) ggX5_year_X5_fails
set_option maxRecDepth 20000 in
theorem ggX5_year_X5_years : GoodIn wsX5_year wsX5_years := goodIn_r _ [22, 1, 2, 23, 24, 25, 8, 26, 27, 28, 29, 30, 31, 32, 33, 34, 35, 36, 37, 38, 39, 40, 41, 42, 43, 44, 45, 46, 47, 48, 49, 50, 51, 52, 53, 54, 55, 56, 57, 58, 59, 60, 61, 62, 63, 64, 65, 66, 67, 68, 69, 70, 71] (by decide +kernel) (by decide +kernel)
set_option maxRecDepth 20000 in
theorem gX5_year_X5_years : GoodIn wsX5_year (wsV RX5 184 RX5 yX5_years wsX5_years) := goodIn_app (goodIn_of _ (by decide +kernel)) ggX5_year_X5_years
theorem dX5_year_0 : decode cX5_year 0 = .ok (.aload_n 0, 1) := by decide +kernel
theorem dX5_year_1 : decode cX5_year 1 = .ok (.iload_n 1, 1) := by decide +kernel
theorem dX5_year_2 : decode cX5_year 2 = .ok (.invokevirtual 90, 3) := by decide +kernel
theorem dX5_year_5 : decode cX5_year 5 = .ok (.ifCond .eq 17, 3) := by decide +kernel
theorem dX5_year_8 : decode cX5_year 8 = .ok (.iload_n 2, 1) := by decide +kernel
theorem dX5_year_9 : decode cX5_year 9 = .ok (.iconst 0, 1) := by decide +kernel
theorem dX5_year_10 : decode cX5_year 10 = .ok (.bipush 20, 2) := by decide +kernel
theorem dX5_year_12 : decode cX5_year 12 = .ok (.invokestatic 73, 3) := by decide +kernel
theorem dX5_year_15 : decode cX5_year 15 = .ok (.ifCond .eq 7, 3) := by decide +kernel
theorem dX5_year_18 : decode cX5_year 18 = .ok (.iconst 1, 1) := by decide +kernel
theorem dX5_year_19 : decode cX5_year 19 = .ok (.goto 4, 3) := by decide +kernel
theorem dX5_year_22 : decode cX5_year 22 = .ok (.iconst 0, 1) := by decide +kernel
theorem dX5_year_23 : decode cX5_year 23 = .ok (.istore 4, 2) := by decide +kernel
theorem dX5_year_25 : decode cX5_year 25 = .ok (.aload_n 0, 1) := by decide +kernel
theorem dX5_year_26 : decode cX5_year 26 = .ok (.iload 4, 2) := by decide +kernel
theorem dX5_year_28 : decode cX5_year 28 = .ok (.ifCond .ne 7, 3) := by decide +kernel
theorem dX5_year_31 : decode cX5_year 31 = .ok (.iconst 1, 1) := by decide +kernel
theorem dX5_year_32 : decode cX5_year 32 = .ok (.goto 17, 3) := by decide +kernel
theorem dX5_year_35 : decode cX5_year 35 = .ok (.iload_n 3, 1) := by decide +kernel
theorem dX5_year_36 : decode cX5_year 36 = .ok (.iconst 0, 1) := by decide +kernel
theorem dX5_year_37 : decode cX5_year 37 = .ok (.iconst 3, 1) := by decide +kernel
theorem dX5_year_38 : decode cX5_year 38 = .ok (.invokestatic 73, 3) := by decide +kernel
theorem dX5_year_41 : decode cX5_year 41 = .ok (.ifCond .eq 7, 3) := by decide +kernel
theorem dX5_year_44 : decode cX5_year 44 = .ok (.iconst 0, 1) := by decide +kernel
theorem dX5_year_45 : decode cX5_year 45 = .ok (.goto 4, 3) := by decide +kernel
theorem dX5_year_48 : decode cX5_year 48 = .ok (.iconst 2, 1) := by decide +kernel
theorem dX5_year_49 : decode cX5_year 49 = .ok (.invokevirtual 85, 3) := by decide +kernel
theorem dX5_year_52 : decode cX5_year 52 = .ok (.ifCond .eq 5, 3) := by decide +kernel
theorem dX5_year_55 : decode cX5_year 55 = .ok (.lconst 0, 1) := by decide +kernel
theorem dX5_year_56 : decode cX5_year 56 = .ok (.lreturn, 1) := by decide +kernel
theorem dX5_year_57 : decode cX5_year 57 = .ok (.aload_n 0, 1) := by decide +kernel
theorem dX5_year_58 : decode cX5_year 58 = .ok (.iload_n 1, 1) := by decide +kernel
theorem dX5_year_59 : decode cX5_year 59 = .ok (.invokevirtual 184, 3) := by decide +kernel
theorem dX5_year_62 : decode cX5_year 62 = .ok (.iload_n 3, 1) := by decide +kernel
theorem dX5_year_63 : decode cX5_year 63 = .ok (.ifCond .ne 12, 3) := by decide +kernel
theorem dX5_year_66 : decode cX5_year 66 = .ok (.aload_n 0, 1) := by decide +kernel
theorem dX5_year_67 : decode cX5_year 67 = .ok (.getfield 63, 3) := by decide +kernel
theorem dX5_year_70 : decode cX5_year 70 = .ok (.iload_n 2, 1) := by decide +kernel
theorem dX5_year_71 : decode cX5_year 71 = .ok (.laload, 1) := by decide +kernel
theorem dX5_year_72 : decode cX5_year 72 = .ok (.goto 46, 3) := by decide +kernel
theorem dX5_year_75 : decode cX5_year 75 = .ok (.iload_n 3, 1) := by decide +kernel
theorem dX5_year_76 : decode cX5_year 76 = .ok (.iconst 1, 1) := by decide +kernel
theorem dX5_year_77 : decode cX5_year 77 = .ok (.if_icmp .ne 12, 3) := by decide +kernel
theorem dX5_year_80 : decode cX5_year 80 = .ok (.aload_n 0, 1) := by decide +kernel
theorem dX5_year_81 : decode cX5_year 81 = .ok (.getfield 66, 3) := by decide +kernel
theorem dX5_year_84 : decode cX5_year 84 = .ok (.iload_n 2, 1) := by decide +kernel
theorem dX5_year_85 : decode cX5_year 85 = .ok (.laload, 1) := by decide +kernel
theorem dX5_year_86 : decode cX5_year 86 = .ok (.goto 32, 3) := by decide +kernel
theorem dX5_year_89 : decode cX5_year 89 = .ok (.iload_n 3, 1) := by decide +kernel
theorem dX5_year_90 : decode cX5_year 90 = .ok (.iconst 2, 1) := by decide +kernel
theorem dX5_year_91 : decode cX5_year 91 = .ok (.if_icmp .ne 16, 3) := by decide +kernel
theorem dX5_year_94 : decode cX5_year 94 = .ok (.aload_n 0, 1) := by decide +kernel
theorem dX5_year_95 : decode cX5_year 95 = .ok (.getfield 66, 3) := by decide +kernel
theorem dX5_year_98 : decode cX5_year 98 = .ok (.iload_n 2, 1) := by decide +kernel
theorem dX5_year_99 : decode cX5_year 99 = .ok (.laload, 1) := by decide +kernel
theorem dX5_year_100 : decode cX5_year 100 = .ok (.ldc2_w 188, 3) := by decide +kernel
theorem dX5_year_103 : decode cX5_year 103 = .ok (.ldiv, 1) := by decide +kernel
theorem dX5_year_104 : decode cX5_year 104 = .ok (.goto 14, 3) := by decide +kernel
theorem dX5_year_107 : decode cX5_year 107 = .ok (.aload_n 0, 1) := by decide +kernel
theorem dX5_year_108 : decode cX5_year 108 = .ok (.getfield 29, 3) := by decide +kernel
theorem dX5_year_111 : decode cX5_year 111 = .ok (.bipush 21, 2) := by decide +kernel
theorem dX5_year_113 : decode cX5_year 113 = .ok (.iload_n 1, 1) := by decide +kernel
theorem dX5_year_114 : decode cX5_year 114 = .ok (.imul, 1) := by decide +kernel
theorem dX5_year_115 : decode cX5_year 115 = .ok (.iload_n 2, 1) := by decide +kernel
theorem dX5_year_116 : decode cX5_year 116 = .ok (.iadd, 1) := by decide +kernel
theorem dX5_year_117 : decode cX5_year 117 = .ok (.laload, 1) := by decide +kernel
theorem dX5_year_118 : decode cX5_year 118 = .ok (.lreturn, 1) := by decide +kernel
set_option maxRecDepth 20000 in
theorem ggX5_wealth_X5_isClient : GoodIn wsX5_wealth wsX5_isClient := goodIn_r _ [5, 6, 7, 8, 4, 9, 31, 32, 33, 34, 35, 36, 37, 38, 39, 40, 41, 42, 43, 44, 45, 46, 47, 48, 49, 50, 51, 52, 53, 54, 55] (by decide +kernel) (by decide +kernel)
set_option maxRecDepth 20000 in
theorem gX5_wealth_X5_isClient : GoodIn wsX5_wealth (wsV RX5 90 RX5 yX5_isClient wsX5_isClient) := goodIn_app (goodIn_of _ (by decide +kernel)) ggX5_wealth_X5_isClient
set_option maxRecDepth 20000 in
theorem ggX5_wealth_X5_fails : GoodIn wsX5_wealth wsX5_fails := goodIn_r _ [13, 14, 31, 32, 33, 34, 35, 36, 37, 38, 39, 40, 41, 42, 43, 44, 45, 46, 47, 48, 49, 50, 51, 52, 53, 54, 55] (by decide +kernel) (by decide +kernel)
set_option maxRecDepth 20000 in
theorem gX5_wealth_X5_fails : GoodIn wsX5_wealth (wsV RX5 85 RX5 yX5_fails wsX5_fails) := goodIn_app (goodIn_of _ (by decide +kernel)) ggX5_wealth_X5_fails
set_option maxRecDepth 20000 in
theorem ggX5_wealth_X5_wealthOf : GoodIn wsX5_wealth wsX5_wealthOf := goodIn_r _ [18, 19, 20, 21, 22, 4, 23, 24, 25, 26, 27, 28, 29, 30, 31, 32, 33, 34, 35, 36, 37, 38, 39, 40, 41, 42, 43, 44, 45, 46, 47, 48, 49, 50, 51, 52, 53, 54, 55] (by decide +kernel) (by decide +kernel)
set_option maxRecDepth 20000 in
theorem gX5_wealth_X5_wealthOf : GoodIn wsX5_wealth (wsV RX5 145 RX5 yX5_wealthOf wsX5_wealthOf) := goodIn_app (goodIn_of _ (by decide +kernel)) ggX5_wealth_X5_wealthOf
theorem dX5_wealth_0 : decode cX5_wealth 0 = .ok (.aload_n 0, 1) := by decide +kernel
theorem dX5_wealth_1 : decode cX5_wealth 1 = .ok (.aload_n 0, 1) := by decide +kernel
theorem dX5_wealth_2 : decode cX5_wealth 2 = .ok (.iload_n 1, 1) := by decide +kernel
theorem dX5_wealth_3 : decode cX5_wealth 3 = .ok (.invokevirtual 90, 3) := by decide +kernel
theorem dX5_wealth_6 : decode cX5_wealth 6 = .ok (.ifCond .eq 7, 3) := by decide +kernel
theorem dX5_wealth_9 : decode cX5_wealth 9 = .ok (.iconst 0, 1) := by decide +kernel
theorem dX5_wealth_10 : decode cX5_wealth 10 = .ok (.goto 4, 3) := by decide +kernel
theorem dX5_wealth_13 : decode cX5_wealth 13 = .ok (.iconst 1, 1) := by decide +kernel
theorem dX5_wealth_14 : decode cX5_wealth 14 = .ok (.invokevirtual 85, 3) := by decide +kernel
theorem dX5_wealth_17 : decode cX5_wealth 17 = .ok (.ifCond .eq 7, 3) := by decide +kernel
theorem dX5_wealth_20 : decode cX5_wealth 20 = .ok (.lconst 0, 1) := by decide +kernel
theorem dX5_wealth_21 : decode cX5_wealth 21 = .ok (.goto 8, 3) := by decide +kernel
theorem dX5_wealth_24 : decode cX5_wealth 24 = .ok (.aload_n 0, 1) := by decide +kernel
theorem dX5_wealth_25 : decode cX5_wealth 25 = .ok (.iload_n 1, 1) := by decide +kernel
theorem dX5_wealth_26 : decode cX5_wealth 26 = .ok (.invokevirtual 145, 3) := by decide +kernel
theorem dX5_wealth_29 : decode cX5_wealth 29 = .ok (.lreturn, 1) := by decide +kernel
