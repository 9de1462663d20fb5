set_option maxRecDepth 20000 in
theorem ggX0_init_Jx4a65c_init_da8c8 : GoodIn wsX0_init wsJx4a65c_init_da8c8 := goodIn_r _ [14, 15, 16, 17, 18, 19, 20, 21, 22, 23, 24, 25, 26, 2, 3, 32, 33, 34] (by decide +kernel) (by decide +kernel)
set_option maxRecDepth 20000 in
theorem gX0_init_Jx4a65c_init_da8c8 : GoodIn wsX0_init (wsJx4a65c_init_da8c8) := ggX0_init_Jx4a65c_init_da8c8
theorem dX0_init_0 : decode cX0_init 0 = .ok (.aload_n 0, 1) := by decide +kernel
theorem dX0_init_1 : decode cX0_init 1 = .ok (.invokespecial 3, 3) := by decide +kernel
theorem dX0_init_4 : decode cX0_init 4 = .ok (.aload_n 0, 1) := by decide +kernel
theorem dX0_init_5 : decode cX0_init 5 = .ok (.iload_n 1, 1) := by decide +kernel
theorem dX0_init_6 : decode cX0_init 6 = .ok (.putfield 9, 3) := by decide +kernel
theorem dX0_init_9 : decode cX0_init 9 = .ok (.aload_n 0, 1) := by decide +kernel
theorem dX0_init_10 : decode cX0_init 10 = .ok (.new 15, 3) := by decide +kernel
theorem dX0_init_13 : decode cX0_init 13 = .ok (.dup, 1) := by decide +kernel
theorem dX0_init_14 : decode cX0_init 14 = .ok (.invokespecial 17, 3) := by decide +kernel
theorem dX0_init_17 : decode cX0_init 17 = .ok (.putfield 18, 3) := by decide +kernel
theorem dX0_init_20 : decode cX0_init 20 = .ok (.aload_n 0, 1) := by decide +kernel
theorem dX0_init_21 : decode cX0_init 21 = .ok (.bipush 21, 2) := by decide +kernel
theorem dX0_init_23 : decode cX0_init 23 = .ok (.newarray .long, 2) := by decide +kernel
theorem dX0_init_25 : decode cX0_init 25 = .ok (.putfield 22, 3) := by decide +kernel
theorem dX0_init_28 : decode cX0_init 28 = .ok (.aload_n 0, 1) := by decide +kernel
theorem dX0_init_29 : decode cX0_init 29 = .ok (.bipush 21, 2) := by decide +kernel
theorem dX0_init_31 : decode cX0_init 31 = .ok (.newarray .long, 2) := by decide +kernel
theorem dX0_init_33 : decode cX0_init 33 = .ok (.putfield 26, 3) := by decide +kernel
theorem dX0_init_36 : decode cX0_init 36 = .ok (.return_, 1) := by decide +kernel
theorem dX1_init_0 : decode cX1_init 0 = .ok (.aload_n 0, 1) := by decide +kernel
theorem dX1_init_1 : decode cX1_init 1 = .ok (.invokespecial 3, 3) := by decide +kernel
theorem dX1_init_4 : decode cX1_init 4 = .ok (.aload_n 0, 1) := by decide +kernel
theorem dX1_init_5 : decode cX1_init 5 = .ok (.iload_n 1, 1) := by decide +kernel
theorem dX1_init_6 : decode cX1_init 6 = .ok (.putfield 9, 3) := by decide +kernel
theorem dX1_init_9 : decode cX1_init 9 = .ok (.aload_n 0, 1) := by decide +kernel
theorem dX1_init_10 : decode cX1_init 10 = .ok (.sipush 10000, 3) := by decide +kernel
theorem dX1_init_13 : decode cX1_init 13 = .ok (.putfield 15, 3) := by decide +kernel
theorem dX1_init_16 : decode cX1_init 16 = .ok (.return_, 1) := by decide +kernel
theorem dX2_init_0 : decode cX2_init 0 = .ok (.aload_n 0, 1) := by decide +kernel
theorem dX2_init_1 : decode cX2_init 1 = .ok (.invokespecial 1, 3) := by decide +kernel
theorem dX2_init_4 : decode cX2_init 4 = .ok (.aload_n 0, 1) := by decide +kernel
theorem dX2_init_5 : decode cX2_init 5 = .ok (.aload_n 1, 1) := by decide +kernel
theorem dX2_init_6 : decode cX2_init 6 = .ok (.putfield 7, 3) := by decide +kernel
theorem dX2_init_9 : decode cX2_init 9 = .ok (.aload_n 0, 1) := by decide +kernel
theorem dX2_init_10 : decode cX2_init 10 = .ok (.aload_n 2, 1) := by decide +kernel
theorem dX2_init_11 : decode cX2_init 11 = .ok (.putfield 13, 3) := by decide +kernel
theorem dX2_init_14 : decode cX2_init 14 = .ok (.return_, 1) := by decide +kernel
theorem dX3_init_0 : decode cX3_init 0 = .ok (.aload_n 0, 1) := by decide +kernel
theorem dX3_init_1 : decode cX3_init 1 = .ok (.invokespecial 1, 3) := by decide +kernel
theorem dX3_init_4 : decode cX3_init 4 = .ok (.aload_n 0, 1) := by decide +kernel
theorem dX3_init_5 : decode cX3_init 5 = .ok (.iload_n 1, 1) := by decide +kernel
theorem dX3_init_6 : decode cX3_init 6 = .ok (.putfield 7, 3) := by decide +kernel
theorem dX3_init_9 : decode cX3_init 9 = .ok (.aload_n 0, 1) := by decide +kernel
theorem dX3_init_10 : decode cX3_init 10 = .ok (.aload_n 2, 1) := by decide +kernel
theorem dX3_init_11 : decode cX3_init 11 = .ok (.putfield 13, 3) := by decide +kernel
theorem dX3_init_14 : decode cX3_init 14 = .ok (.aload_n 0, 1) := by decide +kernel
theorem dX3_init_15 : decode cX3_init 15 = .ok (.iload_n 3, 1) := by decide +kernel
theorem dX3_init_16 : decode cX3_init 16 = .ok (.putfield 17, 3) := by decide +kernel
theorem dX3_init_19 : decode cX3_init 19 = .ok (.aload_n 0, 1) := by decide +kernel
theorem dX3_init_20 : decode cX3_init 20 = .ok (.lload 4, 2) := by decide +kernel
theorem dX3_init_22 : decode cX3_init 22 = .ok (.putfield 20, 3) := by decide +kernel
theorem dX3_init_25 : decode cX3_init 25 = .ok (.aload_n 0, 1) := by decide +kernel
theorem dX3_init_26 : decode cX3_init 26 = .ok (.lload 6, 2) := by decide +kernel
theorem dX3_init_28 : decode cX3_init 28 = .ok (.putfield 24, 3) := by decide +kernel
theorem dX3_init_31 : decode cX3_init 31 = .ok (.aload_n 0, 1) := by decide +kernel
theorem dX3_init_32 : decode cX3_init 32 = .ok (.lload 8, 2) := by decide +kernel
theorem dX3_init_34 : decode cX3_init 34 = .ok (.putfield 27, 3) := by decide +kernel
theorem dX3_init_37 : decode cX3_init 37 = .ok (.aload_n 0, 1) := by decide +kernel
theorem dX3_init_38 : decode cX3_init 38 = .ok (.iconst 1, 1) := by decide +kernel
theorem dX3_init_39 : decode cX3_init 39 = .ok (.putfield 30, 3) := by decide +kernel
theorem dX3_init_42 : decode cX3_init 42 = .ok (.return_, 1) := by decide +kernel
theorem dX3_isSale_0 : decode cX3_isSale 0 = .ok (.aload_n 0, 1) := by decide +kernel
theorem dX3_isSale_1 : decode cX3_isSale 1 = .ok (.getfield 20, 3) := by decide +kernel
theorem dX3_isSale_4 : decode cX3_isSale 4 = .ok (.lconst 0, 1) := by decide +kernel
theorem dX3_isSale_5 : decode cX3_isSale 5 = .ok (.lcmp, 1) := by decide +kernel
theorem dX3_isSale_6 : decode cX3_isSale 6 = .ok (.ifCond .ge 7, 3) := by decide +kernel
theorem dX3_isSale_9 : decode cX3_isSale 9 = .ok (.iconst 1, 1) := by decide +kernel
theorem dX3_isSale_10 : decode cX3_isSale 10 = .ok (.goto 4, 3) := by decide +kernel
theorem dX3_isSale_13 : decode cX3_isSale 13 = .ok (.iconst 0, 1) := by decide +kernel
theorem dX3_isSale_14 : decode cX3_isSale 14 = .ok (.ireturn, 1) := by decide +kernel
set_option maxRecDepth 20000 in
theorem ggX3_paid_X3_isSale : GoodIn wsX3_paid wsX3_isSale := goodIn_r _ [7, 8, 9, 10, 11, 12, 13, 14, 15, 16, 17] (by decide +kernel) (by decide +kernel)
set_option maxRecDepth 20000 in
theorem gX3_paid_X3_isSale : GoodIn wsX3_paid (wsV RX3 34 RX3 yX3_isSale wsX3_isSale) := goodIn_app (goodIn_of _ (by decide +kernel)) ggX3_paid_X3_isSale
theorem dX3_paid_0 : decode cX3_paid 0 = .ok (.aload_n 0, 1) := by decide +kernel
theorem dX3_paid_1 : decode cX3_paid 1 = .ok (.invokevirtual 34, 3) := by decide +kernel
theorem dX3_paid_4 : decode cX3_paid 4 = .ok (.ifCond .eq 15, 3) := by decide +kernel
theorem dX3_paid_7 : decode cX3_paid 7 = .ok (.aload_n 0, 1) := by decide +kernel
theorem dX3_paid_8 : decode cX3_paid 8 = .ok (.getfield 27, 3) := by decide +kernel
theorem dX3_paid_11 : decode cX3_paid 11 = .ok (.aload_n 0, 1) := by decide +kernel
theorem dX3_paid_12 : decode cX3_paid 12 = .ok (.getfield 24, 3) := by decide +kernel
theorem dX3_paid_15 : decode cX3_paid 15 = .ok (.lsub, 1) := by decide +kernel
theorem dX3_paid_16 : decode cX3_paid 16 = .ok (.goto 12, 3) := by decide +kernel
theorem dX3_paid_19 : decode cX3_paid 19 = .ok (.aload_n 0, 1) := by decide +kernel
theorem dX3_paid_20 : decode cX3_paid 20 = .ok (.getfield 27, 3) := by decide +kernel
theorem dX3_paid_23 : decode cX3_paid 23 = .ok (.aload_n 0, 1) := by decide +kernel
theorem dX3_paid_24 : decode cX3_paid 24 = .ok (.getfield 24, 3) := by decide +kernel
theorem dX3_paid_27 : decode cX3_paid 27 = .ok (.ladd, 1) := by decide +kernel
theorem dX3_paid_28 : decode cX3_paid 28 = .ok (.lreturn, 1) := by decide +kernel
set_option maxRecDepth 20000 in
theorem ggX4_init_Jx4a65c_init_da8c8 : GoodIn wsX4_init wsJx4a65c_init_da8c8 := goodIn_r _ [15, 16, 17, 18, 19, 20, 21, 22, 23, 24, 25, 26, 27, 2, 3, 87, 88, 89] (by decide +kernel) (by decide +kernel)
set_option maxRecDepth 20000 in
theorem gX4_init_Jx4a65c_init_da8c8 : GoodIn wsX4_init (wsJx4a65c_init_da8c8) := ggX4_init_Jx4a65c_init_da8c8
set_option maxRecDepth 20000 in
theorem ggX4_init_X1_init : GoodIn wsX4_init wsX1_init := goodIn_r _ [30, 31, 2, 3, 32, 33, 95, 96, 97, 98] (by decide +kernel) (by decide +kernel)
set_option maxRecDepth 20000 in
theorem gX4_init_X1_init : GoodIn wsX4_init (wsX1_init) := ggX4_init_X1_init
set_option maxRecDepth 20000 in
theorem ggX4_init_Jx4a65c_add_9ea2d : GoodIn wsX4_init wsJx4a65c_add_9ea2d := goodIn_r _ [37, 38, 39, 17, 40, 41, 42, 43, 6, 44, 45, 46, 47, 48, 49, 50, 51, 52, 16, 53, 54, 55, 56, 57, 58, 59, 60, 61, 62, 63, 64, 65, 66, 67, 68, 69, 70, 71, 72, 73, 74, 75, 76, 77, 78, 79, 80, 81, 82, 83, 84, 85, 86, 87, 88, 89] (by decide +kernel) (by decide +kernel)
set_option maxRecDepth 20000 in
theorem gX4_init_Jx4a65c_add_9ea2d : GoodIn wsX4_init (wsV RX4 27 RJx4a65c yJx4a65c_add_9ea2d wsJx4a65c_add_9ea2d) := goodIn_app (goodIn_of _ (by decide +kernel)) ggX4_init_Jx4a65c_add_9ea2d
theorem dX4_init_0 : decode cX4_init 0 = .ok (.aload_n 0, 1) := by decide +kernel
theorem dX4_init_1 : decode cX4_init 1 = .ok (.invokespecial 1, 3) := by decide +kernel
theorem dX4_init_4 : decode cX4_init 4 = .ok (.aload_n 0, 1) := by decide +kernel
theorem dX4_init_5 : decode cX4_init 5 = .ok (.new 7, 3) := by decide +kernel
theorem dX4_init_8 : decode cX4_init 8 = .ok (.dup, 1) := by decide +kernel
theorem dX4_init_9 : decode cX4_init 9 = .ok (.invokespecial 9, 3) := by decide +kernel
theorem dX4_init_12 : decode cX4_init 12 = .ok (.putfield 10, 3) := by decide +kernel
theorem dX4_init_15 : decode cX4_init 15 = .ok (.aload_n 0, 1) := by decide +kernel
theorem dX4_init_16 : decode cX4_init 16 = .ok (.new 7, 3) := by decide +kernel
theorem dX4_init_19 : decode cX4_init 19 = .ok (.dup, 1) := by decide +kernel
theorem dX4_init_20 : decode cX4_init 20 = .ok (.invokespecial 9, 3) := by decide +kernel
theorem dX4_init_23 : decode cX4_init 23 = .ok (.putfield 16, 3) := by decide +kernel
theorem dX4_init_26 : decode cX4_init 26 = .ok (.aload_n 0, 1) := by decide +kernel
theorem dX4_init_27 : decode cX4_init 27 = .ok (.new 7, 3) := by decide +kernel
theorem dX4_init_30 : decode cX4_init 30 = .ok (.dup, 1) := by decide +kernel
theorem dX4_init_31 : decode cX4_init 31 = .ok (.invokespecial 9, 3) := by decide +kernel
theorem dX4_init_34 : decode cX4_init 34 = .ok (.putfield 19, 3) := by decide +kernel
theorem dX4_init_37 : decode cX4_init 37 = .ok (.iconst 0, 1) := by decide +kernel
theorem dX4_init_38 : decode cX4_init 38 = .ok (.istore_n 1, 1) := by decide +kernel
theorem dX4_init_39 : decode cX4_init 39 = .ok (.iload_n 1, 1) := by decide +kernel
theorem dX4_init_40 : decode cX4_init 40 = .ok (.bipush 6, 2) := by decide +kernel
theorem dX4_init_42 : decode cX4_init 42 = .ok (.if_icmp .ge 25, 3) := by decide +kernel
theorem dX4_init_45 : decode cX4_init 45 = .ok (.aload_n 0, 1) := by decide +kernel
theorem dX4_init_46 : decode cX4_init 46 = .ok (.getfield 10, 3) := by decide +kernel
theorem dX4_init_49 : decode cX4_init 49 = .ok (.new 22, 3) := by decide +kernel
theorem dX4_init_52 : decode cX4_init 52 = .ok (.dup, 1) := by decide +kernel
theorem dX4_init_53 : decode cX4_init 53 = .ok (.iload_n 1, 1) := by decide +kernel
theorem dX4_init_54 : decode cX4_init 54 = .ok (.invokespecial 24, 3) := by decide +kernel
theorem dX4_init_57 : decode cX4_init 57 = .ok (.invokevirtual 27, 3) := by decide +kernel
theorem dX4_init_60 : decode cX4_init 60 = .ok (.pop, 1) := by decide +kernel
theorem dX4_init_61 : decode cX4_init 61 = .ok (.iinc 1 1, 3) := by decide +kernel
theorem dX4_init_64 : decode cX4_init 64 = .ok (.goto (-25), 3) := by decide +kernel
theorem dX4_init_67 : decode cX4_init 67 = .ok (.return_, 1) := by decide +kernel
set_option maxRecDepth 20000 in
theorem ggX4_price_X4_fundAt : GoodIn wsX4_price wsX4_fundAt := goodIn_ca (goodIn_r _ [7, 8, 9, 10, 11, 12, 13, 14, 15, 16, 17, 6, 18, 19, 20, 21, 22, 23, 24, 25, 26, 27, 28, 29, 30, 31, 32, 33, 34, 35, 36, 37, 47, 48, 49, 50, 51, 52, 53, 54] (by decide +kernel) (by decide +kernel)) (goodIn_sub (fun _ h => List.mem_cons_of_mem _ (List.mem_append_left _ (List.mem_append_right _ h))) (by decide +kernel))
set_option maxRecDepth 20000 in
theorem gX4_price_X4_fundAt : GoodIn wsX4_price (wsV RX4 31 RX4 yX4_fundAt wsX4_fundAt) := goodIn_app (goodIn_of _ (by decide +kernel)) ggX4_price_X4_fundAt
set_option maxRecDepth 20000 in
theorem ggX4_price_X4_checkRange : GoodIn wsX4_price wsX4_checkRange := goodIn_ca (goodIn_r _ [40, 41, 42] (by decide +kernel) (by decide +kernel)) (goodIn_sub (fun _ h => List.mem_cons_of_mem _ (List.mem_append_right _ h)) (by decide +kernel))
set_option maxRecDepth 20000 in
theorem gX4_price_X4_checkRange : GoodIn wsX4_price (va_wsS RX4 36 yX4_checkRange wsX4_checkRange) := goodIn_app (goodIn_of _ (by decide +kernel)) ggX4_price_X4_checkRange
theorem dX4_price_0 : decode cX4_price 0 = .ok (.aload_n 0, 1) := by decide +kernel
theorem dX4_price_1 : decode cX4_price 1 = .ok (.iload_n 1, 1) := by decide +kernel
theorem dX4_price_2 : decode cX4_price 2 = .ok (.invokevirtual 31, 3) := by decide +kernel
theorem dX4_price_5 : decode cX4_price 5 = .ok (.astore_n 3, 1) := by decide +kernel
theorem dX4_price_6 : decode cX4_price 6 = .ok (.iload_n 2, 1) := by decide +kernel
theorem dX4_price_7 : decode cX4_price 7 = .ok (.bipush 10, 2) := by decide +kernel
theorem dX4_price_9 : decode cX4_price 9 = .ok (.ldc 35, 2) := by decide +kernel
theorem dX4_price_11 : decode cX4_price 11 = .ok (.invokestatic 36, 3) := by decide +kernel
theorem dX4_price_14 : decode cX4_price 14 = .ok (.aload_n 3, 1) := by decide +kernel
theorem dX4_price_15 : decode cX4_price 15 = .ok (.getfield 40, 3) := by decide +kernel
theorem dX4_price_18 : decode cX4_price 18 = .ok (.istore 4, 2) := by decide +kernel
theorem dX4_price_20 : decode cX4_price 20 = .ok (.aload_n 3, 1) := by decide +kernel
theorem dX4_price_21 : decode cX4_price 21 = .ok (.iload_n 2, 1) := by decide +kernel
theorem dX4_price_22 : decode cX4_price 22 = .ok (.putfield 40, 3) := by decide +kernel
theorem dX4_price_25 : decode cX4_price 25 = .ok (.iload 4, 2) := by decide +kernel
theorem dX4_price_27 : decode cX4_price 27 = .ok (.ireturn, 1) := by decide +kernel
set_option maxRecDepth 20000 in
theorem ggX4_client_Jx4a65c_size_8abf5 : GoodIn wsX4_client wsJx4a65c_size_8abf5 := goodIn_r _ [15, 16, 139, 140, 141] (by decide +kernel) (by decide +kernel)
set_option maxRecDepth 20000 in
theorem gX4_client_Jx4a65c_size_8abf5 : GoodIn wsX4_client (wsV RX4 44 RJx4a65c yJx4a65c_size_8abf5 wsJx4a65c_size_8abf5) := goodIn_app (goodIn_of _ (by decide +kernel)) ggX4_client_Jx4a65c_size_8abf5
set_option maxRecDepth 20000 in
theorem ggX4_client_X4_checkPossible : GoodIn wsX4_client wsX4_checkPossible := goodIn_ca (goodIn_r _ [20, 21, 22] (by decide +kernel) (by decide +kernel)) (goodIn_sub (fun _ h => List.mem_cons_of_mem _ (List.mem_append_right _ h)) (by decide +kernel))
set_option maxRecDepth 20000 in
theorem gX4_client_X4_checkPossible : GoodIn wsX4_client (va_wsS RX4 48 yX4_checkPossible wsX4_checkPossible) := goodIn_app (goodIn_of _ (by decide +kernel)) ggX4_client_X4_checkPossible
set_option maxRecDepth 20000 in
theorem ggX4_client_X0_init : GoodIn wsX4_client wsX0_init := goodIn_r _ [25, 26, 27, 28, 29, 30, 31, 14, 32, 33, 34, 35, 36, 37, 38, 39, 40, 41, 42, 43, 44, 45, 46, 47, 48, 49, 50, 130, 131, 132, 133, 134, 139, 140, 141] (by decide +kernel) (by decide +kernel)
set_option maxRecDepth 20000 in
theorem gX4_client_X0_init : GoodIn wsX4_client (wsX0_init) := ggX4_client_X0_init
set_option maxRecDepth 20000 in
theorem ggX4_client_Jx4a65c_get_915e3 : GoodIn wsX4_client wsJx4a65c_get_915e3 := goodIn_r _ [54, 16, 55, 56, 57, 58, 59, 60, 61, 62, 63, 64, 65, 14, 66, 40, 139, 140, 141] (by decide +kernel) (by decide +kernel)
set_option maxRecDepth 20000 in
theorem gX4_client_Jx4a65c_get_915e3 : GoodIn wsX4_client (wsV RX4 60 RJx4a65c yJx4a65c_get_915e3 wsJx4a65c_get_915e3) := goodIn_app (goodIn_of _ (by decide +kernel)) ggX4_client_Jx4a65c_get_915e3
set_option maxRecDepth 20000 in
theorem ggX4_client_X2_init : GoodIn wsX4_client wsX2_init := goodIn_r _ [69, 70, 27, 28, 71, 72, 135, 136, 137, 138] (by decide +kernel) (by decide +kernel)
set_option maxRecDepth 20000 in
theorem gX4_client_X2_init : GoodIn wsX4_client (wsX2_init) := ggX4_client_X2_init
set_option maxRecDepth 20000 in
theorem ggX4_client_Jx4a65c_add_9ea2d : GoodIn wsX4_client wsJx4a65c_add_9ea2d := goodIn_r _ [76, 77, 78, 40, 16, 79, 80, 81, 14, 82, 83, 84, 85, 86, 87, 88, 89, 90, 39, 91, 92, 93, 94, 95, 96, 97, 98, 99, 100, 101, 102, 103, 104, 105, 106, 107, 108, 109, 110, 111, 112, 113, 114, 115, 116, 117, 118, 119, 120, 121, 122, 123, 124, 139, 140, 141] (by decide +kernel) (by decide +kernel)
set_option maxRecDepth 20000 in
theorem gX4_client_Jx4a65c_add_9ea2d : GoodIn wsX4_client (wsV RX4 27 RJx4a65c yJx4a65c_add_9ea2d wsJx4a65c_add_9ea2d) := goodIn_app (goodIn_of _ (by decide +kernel)) ggX4_client_Jx4a65c_add_9ea2d
theorem dX4_client_0 : decode cX4_client 0 = .ok (.aload_n 0, 1) := by decide +kernel
theorem dX4_client_1 : decode cX4_client 1 = .ok (.getfield 16, 3) := by decide +kernel
theorem dX4_client_4 : decode cX4_client 4 = .ok (.invokevirtual 44, 3) := by decide +kernel
theorem dX4_client_7 : decode cX4_client 7 = .ok (.istore_n 1, 1) := by decide +kernel
theorem dX4_client_8 : decode cX4_client 8 = .ok (.iload_n 1, 1) := by decide +kernel
theorem dX4_client_9 : decode cX4_client 9 = .ok (.bipush 12, 2) := by decide +kernel
theorem dX4_client_11 : decode cX4_client 11 = .ok (.if_icmp .ge 7, 3) := by decide +kernel
theorem dX4_client_14 : decode cX4_client 14 = .ok (.iconst 1, 1) := by decide +kernel
theorem dX4_client_15 : decode cX4_client 15 = .ok (.goto 4, 3) := by decide +kernel
theorem dX4_client_18 : decode cX4_client 18 = .ok (.iconst 0, 1) := by decide +kernel
theorem dX4_client_19 : decode cX4_client 19 = .ok (.invokestatic 48, 3) := by decide +kernel
theorem dX4_client_22 : decode cX4_client 22 = .ok (.new 52, 3) := by decide +kernel
theorem dX4_client_25 : decode cX4_client 25 = .ok (.dup, 1) := by decide +kernel
theorem dX4_client_26 : decode cX4_client 26 = .ok (.iload_n 1, 1) := by decide +kernel
theorem dX4_client_27 : decode cX4_client 27 = .ok (.invokespecial 54, 3) := by decide +kernel
theorem dX4_client_30 : decode cX4_client 30 = .ok (.astore_n 2, 1) := by decide +kernel
theorem dX4_client_31 : decode cX4_client 31 = .ok (.iconst 0, 1) := by decide +kernel
theorem dX4_client_32 : decode cX4_client 32 = .ok (.istore_n 3, 1) := by decide +kernel
theorem dX4_client_33 : decode cX4_client 33 = .ok (.iload_n 3, 1) := by decide +kernel
theorem dX4_client_34 : decode cX4_client 34 = .ok (.aload_n 0, 1) := by decide +kernel
theorem dX4_client_35 : decode cX4_client 35 = .ok (.getfield 10, 3) := by decide +kernel
theorem dX4_client_38 : decode cX4_client 38 = .ok (.invokevirtual 44, 3) := by decide +kernel
theorem dX4_client_41 : decode cX4_client 41 = .ok (.if_icmp .ge 36, 3) := by decide +kernel
theorem dX4_client_44 : decode cX4_client 44 = .ok (.aload_n 2, 1) := by decide +kernel
theorem dX4_client_45 : decode cX4_client 45 = .ok (.getfield 55, 3) := by decide +kernel
theorem dX4_client_48 : decode cX4_client 48 = .ok (.new 58, 3) := by decide +kernel
theorem dX4_client_51 : decode cX4_client 51 = .ok (.dup, 1) := by decide +kernel
theorem dX4_client_52 : decode cX4_client 52 = .ok (.aload_n 2, 1) := by decide +kernel
theorem dX4_client_53 : decode cX4_client 53 = .ok (.aload_n 0, 1) := by decide +kernel
theorem dX4_client_54 : decode cX4_client 54 = .ok (.getfield 10, 3) := by decide +kernel
theorem dX4_client_57 : decode cX4_client 57 = .ok (.iload_n 3, 1) := by decide +kernel
theorem dX4_client_58 : decode cX4_client 58 = .ok (.invokevirtual 60, 3) := by decide +kernel
theorem dX4_client_61 : decode cX4_client 61 = .ok (.checkcast 22, 3) := by decide +kernel
theorem dX4_client_64 : decode cX4_client 64 = .ok (.invokespecial 64, 3) := by decide +kernel
theorem dX4_client_67 : decode cX4_client 67 = .ok (.invokevirtual 27, 3) := by decide +kernel
theorem dX4_client_70 : decode cX4_client 70 = .ok (.pop, 1) := by decide +kernel
theorem dX4_client_71 : decode cX4_client 71 = .ok (.iinc 3 1, 3) := by decide +kernel
theorem dX4_client_74 : decode cX4_client 74 = .ok (.goto (-41), 3) := by decide +kernel
theorem dX4_client_77 : decode cX4_client 77 = .ok (.aload_n 0, 1) := by decide +kernel
theorem dX4_client_78 : decode cX4_client 78 = .ok (.getfield 16, 3) := by decide +kernel
theorem dX4_client_81 : decode cX4_client 81 = .ok (.aload_n 2, 1) := by decide +kernel
theorem dX4_client_82 : decode cX4_client 82 = .ok (.invokevirtual 27, 3) := by decide +kernel
theorem dX4_client_85 : decode cX4_client 85 = .ok (.pop, 1) := by decide +kernel
theorem dX4_client_86 : decode cX4_client 86 = .ok (.iload_n 1, 1) := by decide +kernel
theorem dX4_client_87 : decode cX4_client 87 = .ok (.ireturn, 1) := by decide +kernel
set_option maxRecDepth 20000 in
theorem ggX4_pay_X4_clientAt : GoodIn wsX4_pay wsX4_clientAt := goodIn_ca (goodIn_r _ [8, 9, 10, 11, 12, 13, 14, 15, 16, 17, 18, 7, 19, 20, 21, 22, 23, 24, 25, 26, 27, 28, 29, 30, 31, 32, 33, 34, 35, 36, 37, 38, 54, 55, 56, 57, 58, 59, 60, 61] (by decide +kernel) (by decide +kernel)) (goodIn_sub (fun _ h => List.mem_cons_of_mem _ (List.mem_append_left _ (List.mem_append_left _ (List.mem_append_right _ h)))) (by decide +kernel))
set_option maxRecDepth 20000 in
theorem gX4_pay_X4_clientAt : GoodIn wsX4_pay (wsV RX4 67 RX4 yX4_clientAt wsX4_clientAt) := goodIn_app (goodIn_of _ (by decide +kernel)) ggX4_pay_X4_clientAt
set_option maxRecDepth 20000 in
theorem ggX4_pay_X4_checkRange : GoodIn wsX4_pay wsX4_checkRange := goodIn_ca (goodIn_r _ [41, 42, 43] (by decide +kernel) (by decide +kernel)) (goodIn_sub (fun _ h => List.mem_cons_of_mem _ (List.mem_append_left _ (List.mem_append_right _ h))) (by decide +kernel))
set_option maxRecDepth 20000 in
theorem gX4_pay_X4_checkRange : GoodIn wsX4_pay (va_wsS RX4 36 yX4_checkRange wsX4_checkRange) := goodIn_app (goodIn_of _ (by decide +kernel)) ggX4_pay_X4_checkRange
set_option maxRecDepth 20000 in
theorem ggX4_pay_X4_checkPossible : GoodIn wsX4_pay wsX4_checkPossible := goodIn_ca (goodIn_r _ [46, 47, 48] (by decide +kernel) (by decide +kernel)) (goodIn_sub (fun _ h => List.mem_cons_of_mem _ (List.mem_append_right _ h)) (by decide +kernel))
set_option maxRecDepth 20000 in
theorem gX4_pay_X4_checkPossible : GoodIn wsX4_pay (va_wsS RX4 48 yX4_checkPossible wsX4_checkPossible) := goodIn_app (goodIn_of _ (by decide +kernel)) ggX4_pay_X4_checkPossible
theorem dX4_pay_0 : decode cX4_pay 0 = .ok (.aload_n 0, 1) := by decide +kernel
theorem dX4_pay_1 : decode cX4_pay 1 = .ok (.iload_n 1, 1) := by decide +kernel
theorem dX4_pay_2 : decode cX4_pay 2 = .ok (.invokevirtual 67, 3) := by decide +kernel
theorem dX4_pay_5 : decode cX4_pay 5 = .ok (.astore_n 3, 1) := by decide +kernel
theorem dX4_pay_6 : decode cX4_pay 6 = .ok (.iload_n 2, 1) := by decide +kernel
theorem dX4_pay_7 : decode cX4_pay 7 = .ok (.ldc 71, 2) := by decide +kernel
theorem dX4_pay_9 : decode cX4_pay 9 = .ok (.ldc 72, 2) := by decide +kernel
theorem dX4_pay_11 : decode cX4_pay 11 = .ok (.invokestatic 36, 3) := by decide +kernel
theorem dX4_pay_14 : decode cX4_pay 14 = .ok (.iload_n 2, 1) := by decide +kernel
theorem dX4_pay_15 : decode cX4_pay 15 = .ok (.ifCond .ge 15, 3) := by decide +kernel
theorem dX4_pay_18 : decode cX4_pay 18 = .ok (.aload_n 3, 1) := by decide +kernel
theorem dX4_pay_19 : decode cX4_pay 19 = .ok (.getfield 73, 3) := by decide +kernel
theorem dX4_pay_22 : decode cX4_pay 22 = .ok (.iload_n 2, 1) := by decide +kernel
theorem dX4_pay_23 : decode cX4_pay 23 = .ok (.i2l, 1) := by decide +kernel
theorem dX4_pay_24 : decode cX4_pay 24 = .ok (.ladd, 1) := by decide +kernel
theorem dX4_pay_25 : decode cX4_pay 25 = .ok (.lconst 0, 1) := by decide +kernel
theorem dX4_pay_26 : decode cX4_pay 26 = .ok (.lcmp, 1) := by decide +kernel
theorem dX4_pay_27 : decode cX4_pay 27 = .ok (.ifCond .lt 7, 3) := by decide +kernel
theorem dX4_pay_30 : decode cX4_pay 30 = .ok (.iconst 1, 1) := by decide +kernel
theorem dX4_pay_31 : decode cX4_pay 31 = .ok (.goto 4, 3) := by decide +kernel
theorem dX4_pay_34 : decode cX4_pay 34 = .ok (.iconst 0, 1) := by decide +kernel
theorem dX4_pay_35 : decode cX4_pay 35 = .ok (.invokestatic 48, 3) := by decide +kernel
theorem dX4_pay_38 : decode cX4_pay 38 = .ok (.aload_n 3, 1) := by decide +kernel
theorem dX4_pay_39 : decode cX4_pay 39 = .ok (.dup, 1) := by decide +kernel
theorem dX4_pay_40 : decode cX4_pay 40 = .ok (.getfield 73, 3) := by decide +kernel
theorem dX4_pay_43 : decode cX4_pay 43 = .ok (.iload_n 2, 1) := by decide +kernel
theorem dX4_pay_44 : decode cX4_pay 44 = .ok (.i2l, 1) := by decide +kernel
theorem dX4_pay_45 : decode cX4_pay 45 = .ok (.ladd, 1) := by decide +kernel
theorem dX4_pay_46 : decode cX4_pay 46 = .ok (.putfield 73, 3) := by decide +kernel
theorem dX4_pay_49 : decode cX4_pay 49 = .ok (.aload_n 3, 1) := by decide +kernel
theorem dX4_pay_50 : decode cX4_pay 50 = .ok (.getfield 73, 3) := by decide +kernel
theorem dX4_pay_53 : decode cX4_pay 53 = .ok (.lreturn, 1) := by decide +kernel
set_option maxRecDepth 20000 in
theorem ggX4_goal_X4_holdingAt : GoodIn wsX4_goal wsX4_holdingAt := goodIn_ca (goodIn_r _ [7, 8, 9, 10, 11, 12, 6, 13, 14, 15, 16, 17, 18, 19, 20, 21, 22, 23, 24, 25, 26, 27, 28, 29, 30, 31, 32, 33, 34, 35, 36, 37, 38, 39, 40, 41, 42, 43, 61, 62, 63, 64, 65, 66, 67, 68, 69, 70, 71, 72, 73] (by decide +kernel) (by decide +kernel)) (goodIn_sub (fun _ h => List.mem_cons_of_mem _ (List.mem_append_left _ (List.mem_append_left _ (List.mem_append_right _ h)))) (by decide +kernel))
set_option maxRecDepth 20000 in
theorem gX4_goal_X4_holdingAt : GoodIn wsX4_goal (wsV RX4 77 RX4 yX4_holdingAt wsX4_holdingAt) := goodIn_app (goodIn_of _ (by decide +kernel)) ggX4_goal_X4_holdingAt
set_option maxRecDepth 20000 in
theorem ggX4_goal_X4_checkRange : GoodIn wsX4_goal wsX4_checkRange := goodIn_ca (goodIn_r _ [46, 47, 48] (by decide +kernel) (by decide +kernel)) (goodIn_sub (fun _ h => List.mem_cons_of_mem _ (List.mem_append_left _ (List.mem_append_right _ h))) (by decide +kernel))
set_option maxRecDepth 20000 in
theorem gX4_goal_X4_checkRange : GoodIn wsX4_goal (va_wsS RX4 36 yX4_checkRange wsX4_checkRange) := goodIn_app (goodIn_of _ (by decide +kernel)) ggX4_goal_X4_checkRange
set_option maxRecDepth 20000 in
theorem ggX4_goal_X4_hundredthsTogether : GoodIn wsX4_goal wsX4_hundredthsTogether := goodIn_r _ [51, 8, 9, 2, 16, 17, 18, 19, 20, 21, 27, 28, 29, 30, 31, 32, 33, 34, 35, 36, 37, 38, 39, 40, 41, 42, 43, 61, 62, 63, 64, 65, 57, 58, 59, 60, 71, 72, 73] (by decide +kernel) (by decide +kernel)
set_option maxRecDepth 20000 in
theorem gX4_goal_X4_hundredthsTogether : GoodIn wsX4_goal (va_wsS RX4 85 yX4_hundredthsTogether wsX4_hundredthsTogether) := goodIn_app (goodIn_of _ (by decide +kernel)) ggX4_goal_X4_hundredthsTogether
set_option maxRecDepth 20000 in
theorem ggX4_goal_X4_checkPossible : GoodIn wsX4_goal wsX4_checkPossible := goodIn_ca (goodIn_r _ [54, 55, 56] (by decide +kernel) (by decide +kernel)) (goodIn_sub (fun _ h => List.mem_cons_of_mem _ (List.mem_append_right _ h)) (by decide +kernel))
set_option maxRecDepth 20000 in
theorem gX4_goal_X4_checkPossible : GoodIn wsX4_goal (va_wsS RX4 48 yX4_checkPossible wsX4_checkPossible) := goodIn_app (goodIn_of _ (by decide +kernel)) ggX4_goal_X4_checkPossible
theorem dX4_goal_0 : decode cX4_goal 0 = .ok (.aload_n 0, 1) := by decide +kernel
theorem dX4_goal_1 : decode cX4_goal 1 = .ok (.iload_n 1, 1) := by decide +kernel
theorem dX4_goal_2 : decode cX4_goal 2 = .ok (.iload_n 2, 1) := by decide +kernel
theorem dX4_goal_3 : decode cX4_goal 3 = .ok (.invokevirtual 77, 3) := by decide +kernel
theorem dX4_goal_6 : decode cX4_goal 6 = .ok (.astore 4, 2) := by decide +kernel
theorem dX4_goal_8 : decode cX4_goal 8 = .ok (.iload_n 3, 1) := by decide +kernel
theorem dX4_goal_9 : decode cX4_goal 9 = .ok (.iconst 0, 1) := by decide +kernel
theorem dX4_goal_10 : decode cX4_goal 10 = .ok (.bipush 100, 2) := by decide +kernel
theorem dX4_goal_12 : decode cX4_goal 12 = .ok (.invokestatic 36, 3) := by decide +kernel
theorem dX4_goal_15 : decode cX4_goal 15 = .ok (.aload 4, 2) := by decide +kernel
theorem dX4_goal_17 : decode cX4_goal 17 = .ok (.getfield 81, 3) := by decide +kernel
theorem dX4_goal_20 : decode cX4_goal 20 = .ok (.invokestatic 85, 3) := by decide +kernel
theorem dX4_goal_23 : decode cX4_goal 23 = .ok (.aload 4, 2) := by decide +kernel
theorem dX4_goal_25 : decode cX4_goal 25 = .ok (.getfield 89, 3) := by decide +kernel
theorem dX4_goal_28 : decode cX4_goal 28 = .ok (.isub, 1) := by decide +kernel
theorem dX4_goal_29 : decode cX4_goal 29 = .ok (.iload_n 3, 1) := by decide +kernel
theorem dX4_goal_30 : decode cX4_goal 30 = .ok (.iadd, 1) := by decide +kernel
theorem dX4_goal_31 : decode cX4_goal 31 = .ok (.istore 5, 2) := by decide +kernel
theorem dX4_goal_33 : decode cX4_goal 33 = .ok (.iload 5, 2) := by decide +kernel
theorem dX4_goal_35 : decode cX4_goal 35 = .ok (.bipush 100, 2) := by decide +kernel
theorem dX4_goal_37 : decode cX4_goal 37 = .ok (.if_icmp .gt 7, 3) := by decide +kernel
theorem dX4_goal_40 : decode cX4_goal 40 = .ok (.iconst 1, 1) := by decide +kernel
theorem dX4_goal_41 : decode cX4_goal 41 = .ok (.goto 4, 3) := by decide +kernel
theorem dX4_goal_44 : decode cX4_goal 44 = .ok (.iconst 0, 1) := by decide +kernel
theorem dX4_goal_45 : decode cX4_goal 45 = .ok (.invokestatic 48, 3) := by decide +kernel
theorem dX4_goal_48 : decode cX4_goal 48 = .ok (.aload 4, 2) := by decide +kernel
theorem dX4_goal_50 : decode cX4_goal 50 = .ok (.iload_n 3, 1) := by decide +kernel
theorem dX4_goal_51 : decode cX4_goal 51 = .ok (.putfield 89, 3) := by decide +kernel
theorem dX4_goal_54 : decode cX4_goal 54 = .ok (.iload 5, 2) := by decide +kernel
theorem dX4_goal_56 : decode cX4_goal 56 = .ok (.ireturn, 1) := by decide +kernel
set_option maxRecDepth 20000 in
theorem ggX4_buy_X4_holdingAt : GoodIn wsX4_buy wsX4_holdingAt := goodIn_ca (goodIn_r _ [10, 11, 12, 13, 14, 15, 9, 16, 17, 18, 19, 20, 21, 22, 23, 24, 25, 26, 27, 28, 29, 30, 31, 32, 33, 34, 35, 36, 37, 38, 39, 40, 41, 42, 43, 44, 45, 46, 200, 201, 202, 203, 204, 191, 192, 193, 194, 195, 205, 206, 207] (by decide +kernel) (by decide +kernel)) (goodIn_sub (fun _ h => List.mem_cons_of_mem _ (List.mem_append_left _ (List.mem_append_left _ (List.mem_append_right _ h)))) (by decide +kernel))
set_option maxRecDepth 20000 in
theorem gX4_buy_X4_holdingAt : GoodIn wsX4_buy (wsV RX4 77 RX4 yX4_holdingAt wsX4_holdingAt) := goodIn_app (goodIn_of _ (by decide +kernel)) ggX4_buy_X4_holdingAt
set_option maxRecDepth 20000 in
theorem ggX4_buy_X4_checkRange : GoodIn wsX4_buy wsX4_checkRange := goodIn_ca (goodIn_r _ [49, 50, 51] (by decide +kernel) (by decide +kernel)) (goodIn_sub (fun _ h => List.mem_cons_of_mem _ (List.mem_append_left _ (List.mem_append_right _ h))) (by decide +kernel))
set_option maxRecDepth 20000 in
theorem gX4_buy_X4_checkRange : GoodIn wsX4_buy (va_wsS RX4 36 yX4_checkRange wsX4_checkRange) := goodIn_app (goodIn_of _ (by decide +kernel)) ggX4_buy_X4_checkRange
set_option maxRecDepth 20000 in
theorem ggX4_buy_Jx4a65c_size_8abf5 : GoodIn wsX4_buy wsJx4a65c_size_8abf5 := goodIn_r _ [23, 24, 205, 206, 207] (by decide +kernel) (by decide +kernel)
set_option maxRecDepth 20000 in
theorem gX4_buy_Jx4a65c_size_8abf5 : GoodIn wsX4_buy (wsV RX4 44 RJx4a65c yJx4a65c_size_8abf5 wsJx4a65c_size_8abf5) := goodIn_app (goodIn_of _ (by decide +kernel)) ggX4_buy_Jx4a65c_size_8abf5
set_option maxRecDepth 20000 in
theorem ggX4_buy_X4_checkPossible : GoodIn wsX4_buy wsX4_checkPossible := goodIn_ca (goodIn_r _ [54, 55, 56] (by decide +kernel) (by decide +kernel)) (goodIn_sub (fun _ h => List.mem_cons_of_mem _ (List.mem_append_right _ h)) (by decide +kernel))
set_option maxRecDepth 20000 in
theorem gX4_buy_X4_checkPossible : GoodIn wsX4_buy (va_wsS RX4 48 yX4_checkPossible wsX4_checkPossible) := goodIn_app (goodIn_of _ (by decide +kernel)) ggX4_buy_X4_checkPossible
set_option maxRecDepth 20000 in
theorem ggX4_buy_X4_partsFor : GoodIn wsX4_buy wsX4_partsFor := goodIn_r _ [59, 60, 61, 62, 63, 9, 64, 208, 209, 210, 211] (by decide +kernel) (by decide +kernel)
set_option maxRecDepth 20000 in
theorem gX4_buy_X4_partsFor : GoodIn wsX4_buy (va_wsS RX4 96 yX4_partsFor wsX4_partsFor) := goodIn_app (goodIn_of _ (by decide +kernel)) ggX4_buy_X4_partsFor
set_option maxRecDepth 20000 in
theorem ggX4_buy_X4_costsOf : GoodIn wsX4_buy wsX4_costsOf := goodIn_r _ [67, 68, 69] (by decide +kernel) (by decide +kernel)
set_option maxRecDepth 20000 in
theorem gX4_buy_X4_costsOf : GoodIn wsX4_buy (va_wsS RX4 100 yX4_costsOf wsX4_costsOf) := goodIn_app (goodIn_of _ (by decide +kernel)) ggX4_buy_X4_costsOf
set_option maxRecDepth 20000 in
theorem ggX4_buy_X4_makeTrade : GoodIn wsX4_buy wsX4_makeTrade := goodIn_r _ [73, 74, 75, 76, 2, 77, 78, 19, 20, 21, 22, 23, 24, 65, 66, 9, 67, 68, 69, 79, 80, 81, 82, 83, 84, 85, 86, 87, 88, 89, 90, 91, 92, 93, 94, 95, 96, 97, 46, 98, 99, 100, 101, 102, 103, 104, 105, 106, 107, 108, 109, 110, 111, 112, 113, 114, 115, 116, 117, 118, 119, 120, 121, 122, 123, 124, 125, 126, 127, 128, 129, 130, 131, 132, 133, 134, 135, 136, 137, 138, 139, 140, 141, 142, 143, 144, 145, 146, 147, 148, 149, 150, 151, 152, 153, 154, 155, 156, 3, 4, 5, 157, 158, 159, 160, 60, 161, 162, 163, 164, 165, 61, 166, 167, 168, 169, 170, 171, 172, 173, 174, 175, 176, 177, 178, 179, 180, 181, 182, 183, 184, 185, 186, 30, 31, 32, 33, 34, 35, 36, 37, 38, 39, 40, 41, 42, 43, 44, 45, 62, 63, 64, 187, 188, 189, 190, 212, 213, 214, 215, 216, 217, 218, 219, 220, 191, 192, 193, 194, 195, 205, 206, 207, 196, 197, 198, 199, 200, 201, 202, 203, 204, 208, 209, 210, 211] (by decide +kernel) (by decide +kernel)
set_option maxRecDepth 20000 in
theorem gX4_buy_X4_makeTrade : GoodIn wsX4_buy (wsV RX4 104 RX4 yX4_makeTrade wsX4_makeTrade) := goodIn_app (goodIn_of _ (by decide +kernel)) ggX4_buy_X4_makeTrade
theorem dX4_buy_0 : decode cX4_buy 0 = .ok (.aload_n 0, 1) := by decide +kernel
theorem dX4_buy_1 : decode cX4_buy 1 = .ok (.iload_n 1, 1) := by decide +kernel
theorem dX4_buy_2 : decode cX4_buy 2 = .ok (.iload_n 2, 1) := by decide +kernel
theorem dX4_buy_3 : decode cX4_buy 3 = .ok (.invokevirtual 77, 3) := by decide +kernel
theorem dX4_buy_6 : decode cX4_buy 6 = .ok (.astore 4, 2) := by decide +kernel
theorem dX4_buy_8 : decode cX4_buy 8 = .ok (.iload_n 3, 1) := by decide +kernel
theorem dX4_buy_9 : decode cX4_buy 9 = .ok (.iconst 1, 1) := by decide +kernel
theorem dX4_buy_10 : decode cX4_buy 10 = .ok (.ldc 72, 2) := by decide +kernel
theorem dX4_buy_12 : decode cX4_buy 12 = .ok (.invokestatic 36, 3) := by decide +kernel
theorem dX4_buy_15 : decode cX4_buy 15 = .ok (.aload_n 0, 1) := by decide +kernel
theorem dX4_buy_16 : decode cX4_buy 16 = .ok (.getfield 19, 3) := by decide +kernel
theorem dX4_buy_19 : decode cX4_buy 19 = .ok (.invokevirtual 44, 3) := by decide +kernel
theorem dX4_buy_22 : decode cX4_buy 22 = .ok (.bipush 120, 2) := by decide +kernel
theorem dX4_buy_24 : decode cX4_buy 24 = .ok (.if_icmp .ge 7, 3) := by decide +kernel
theorem dX4_buy_27 : decode cX4_buy 27 = .ok (.iconst 1, 1) := by decide +kernel
theorem dX4_buy_28 : decode cX4_buy 28 = .ok (.goto 4, 3) := by decide +kernel
theorem dX4_buy_31 : decode cX4_buy 31 = .ok (.iconst 0, 1) := by decide +kernel
theorem dX4_buy_32 : decode cX4_buy 32 = .ok (.invokestatic 48, 3) := by decide +kernel
theorem dX4_buy_35 : decode cX4_buy 35 = .ok (.iload_n 3, 1) := by decide +kernel
theorem dX4_buy_36 : decode cX4_buy 36 = .ok (.i2l, 1) := by decide +kernel
theorem dX4_buy_37 : decode cX4_buy 37 = .ok (.aload 4, 2) := by decide +kernel
theorem dX4_buy_39 : decode cX4_buy 39 = .ok (.getfield 92, 3) := by decide +kernel
theorem dX4_buy_42 : decode cX4_buy 42 = .ok (.invokestatic 96, 3) := by decide +kernel
theorem dX4_buy_45 : decode cX4_buy 45 = .ok (.lstore 5, 2) := by decide +kernel
theorem dX4_buy_47 : decode cX4_buy 47 = .ok (.lload 5, 2) := by decide +kernel
theorem dX4_buy_49 : decode cX4_buy 49 = .ok (.lconst 0, 1) := by decide +kernel
theorem dX4_buy_50 : decode cX4_buy 50 = .ok (.lcmp, 1) := by decide +kernel
theorem dX4_buy_51 : decode cX4_buy 51 = .ok (.ifCond .le 27, 3) := by decide +kernel
theorem dX4_buy_54 : decode cX4_buy 54 = .ok (.iload_n 3, 1) := by decide +kernel
theorem dX4_buy_55 : decode cX4_buy 55 = .ok (.i2l, 1) := by decide +kernel
theorem dX4_buy_56 : decode cX4_buy 56 = .ok (.iload_n 3, 1) := by decide +kernel
theorem dX4_buy_57 : decode cX4_buy 57 = .ok (.i2l, 1) := by decide +kernel
theorem dX4_buy_58 : decode cX4_buy 58 = .ok (.invokestatic 100, 3) := by decide +kernel
theorem dX4_buy_61 : decode cX4_buy 61 = .ok (.ladd, 1) := by decide +kernel
theorem dX4_buy_62 : decode cX4_buy 62 = .ok (.aload 4, 2) := by decide +kernel
theorem dX4_buy_64 : decode cX4_buy 64 = .ok (.getfield 81, 3) := by decide +kernel
theorem dX4_buy_67 : decode cX4_buy 67 = .ok (.getfield 73, 3) := by decide +kernel
theorem dX4_buy_70 : decode cX4_buy 70 = .ok (.lcmp, 1) := by decide +kernel
theorem dX4_buy_71 : decode cX4_buy 71 = .ok (.ifCond .gt 7, 3) := by decide +kernel
theorem dX4_buy_74 : decode cX4_buy 74 = .ok (.iconst 1, 1) := by decide +kernel
theorem dX4_buy_75 : decode cX4_buy 75 = .ok (.goto 4, 3) := by decide +kernel
theorem dX4_buy_78 : decode cX4_buy 78 = .ok (.iconst 0, 1) := by decide +kernel
theorem dX4_buy_79 : decode cX4_buy 79 = .ok (.invokestatic 48, 3) := by decide +kernel
theorem dX4_buy_82 : decode cX4_buy 82 = .ok (.aload_n 0, 1) := by decide +kernel
theorem dX4_buy_83 : decode cX4_buy 83 = .ok (.aload 4, 2) := by decide +kernel
theorem dX4_buy_85 : decode cX4_buy 85 = .ok (.lload 5, 2) := by decide +kernel
theorem dX4_buy_87 : decode cX4_buy 87 = .ok (.iload_n 3, 1) := by decide +kernel
theorem dX4_buy_88 : decode cX4_buy 88 = .ok (.i2l, 1) := by decide +kernel
theorem dX4_buy_89 : decode cX4_buy 89 = .ok (.invokevirtual 104, 3) := by decide +kernel
theorem dX4_buy_92 : decode cX4_buy 92 = .ok (.ireturn, 1) := by decide +kernel
set_option maxRecDepth 20000 in
theorem ggX4_sell_X4_holdingAt : GoodIn wsX4_sell wsX4_holdingAt := goodIn_ca (goodIn_r _ [10, 11, 12, 13, 14, 15, 9, 16, 17, 18, 19, 20, 21, 22, 23, 24, 25, 26, 27, 28, 29, 30, 31, 32, 33, 34, 35, 36, 37, 38, 39, 40, 41, 42, 43, 44, 45, 46, 201, 202, 203, 204, 205, 192, 193, 194, 195, 196, 206, 207, 208] (by decide +kernel) (by decide +kernel)) (goodIn_sub (fun _ h => List.mem_cons_of_mem _ (List.mem_append_left _ (List.mem_append_left _ (List.mem_append_right _ h)))) (by decide +kernel))
set_option maxRecDepth 20000 in
theorem gX4_sell_X4_holdingAt : GoodIn wsX4_sell (wsV RX4 77 RX4 yX4_holdingAt wsX4_holdingAt) := goodIn_app (goodIn_of _ (by decide +kernel)) ggX4_sell_X4_holdingAt
set_option maxRecDepth 20000 in
theorem ggX4_sell_X4_checkRange : GoodIn wsX4_sell wsX4_checkRange := goodIn_ca (goodIn_r _ [49, 50, 51] (by decide +kernel) (by decide +kernel)) (goodIn_sub (fun _ h => List.mem_cons_of_mem _ (List.mem_append_left _ (List.mem_append_right _ h))) (by decide +kernel))
set_option maxRecDepth 20000 in
theorem gX4_sell_X4_checkRange : GoodIn wsX4_sell (va_wsS RX4 36 yX4_checkRange wsX4_checkRange) := goodIn_app (goodIn_of _ (by decide +kernel)) ggX4_sell_X4_checkRange
set_option maxRecDepth 20000 in
theorem ggX4_sell_Jx4a65c_size_8abf5 : GoodIn wsX4_sell wsJx4a65c_size_8abf5 := goodIn_r _ [23, 24, 206, 207, 208] (by decide +kernel) (by decide +kernel)
set_option maxRecDepth 20000 in
theorem gX4_sell_Jx4a65c_size_8abf5 : GoodIn wsX4_sell (wsV RX4 44 RJx4a65c yJx4a65c_size_8abf5 wsJx4a65c_size_8abf5) := goodIn_app (goodIn_of _ (by decide +kernel)) ggX4_sell_Jx4a65c_size_8abf5
set_option maxRecDepth 20000 in
theorem ggX4_sell_X4_checkPossible : GoodIn wsX4_sell wsX4_checkPossible := goodIn_ca (goodIn_r _ [54, 55, 56] (by decide +kernel) (by decide +kernel)) (goodIn_sub (fun _ h => List.mem_cons_of_mem _ (List.mem_append_right _ h)) (by decide +kernel))
set_option maxRecDepth 20000 in
theorem gX4_sell_X4_checkPossible : GoodIn wsX4_sell (va_wsS RX4 48 yX4_checkPossible wsX4_checkPossible) := goodIn_app (goodIn_of _ (by decide +kernel)) ggX4_sell_X4_checkPossible
set_option maxRecDepth 20000 in
theorem ggX4_sell_X4_amountFor : GoodIn wsX4_sell wsX4_amountFor := goodIn_r _ [59, 60, 61, 209, 210, 211, 212] (by decide +kernel) (by decide +kernel)
set_option maxRecDepth 20000 in
theorem gX4_sell_X4_amountFor : GoodIn wsX4_sell (va_wsS RX4 112 yX4_amountFor wsX4_amountFor) := goodIn_app (goodIn_of _ (by decide +kernel)) ggX4_sell_X4_amountFor
set_option maxRecDepth 20000 in
theorem ggX4_sell_X4_makeTrade : GoodIn wsX4_sell wsX4_makeTrade := goodIn_r _ [65, 66, 67, 68, 2, 69, 70, 19, 20, 21, 22, 23, 24, 71, 72, 9, 73, 74, 75, 76, 77, 78, 79, 80, 81, 82, 83, 84, 85, 86, 87, 88, 89, 90, 91, 92, 93, 94, 46, 95, 96, 97, 98, 99, 100, 101, 102, 103, 104, 105, 106, 107, 108, 109, 110, 111, 112, 113, 114, 115, 116, 117, 118, 119, 120, 121, 122, 123, 124, 125, 126, 127, 128, 129, 130, 131, 132, 133, 134, 135, 136, 137, 138, 139, 140, 141, 142, 143, 144, 145, 146, 147, 148, 149, 150, 151, 152, 153, 4, 154, 155, 156, 3, 157, 158, 61, 159, 160, 161, 162, 163, 60, 164, 165, 166, 167, 168, 169, 170, 171, 172, 173, 174, 175, 176, 177, 178, 179, 180, 181, 182, 183, 184, 30, 31, 32, 33, 34, 35, 36, 37, 38, 39, 40, 41, 42, 43, 44, 45, 185, 186, 187, 188, 189, 190, 191, 213, 214, 215, 216, 217, 218, 219, 220, 221, 192, 193, 194, 195, 196, 206, 207, 208, 197, 198, 199, 200, 201, 202, 203, 204, 205, 209, 210, 211, 212] (by decide +kernel) (by decide +kernel)
set_option maxRecDepth 20000 in
theorem gX4_sell_X4_makeTrade : GoodIn wsX4_sell (wsV RX4 104 RX4 yX4_makeTrade wsX4_makeTrade) := goodIn_app (goodIn_of _ (by decide +kernel)) ggX4_sell_X4_makeTrade
theorem dX4_sell_0 : decode cX4_sell 0 = .ok (.aload_n 0, 1) := by decide +kernel
theorem dX4_sell_1 : decode cX4_sell 1 = .ok (.iload_n 1, 1) := by decide +kernel
theorem dX4_sell_2 : decode cX4_sell 2 = .ok (.iload_n 2, 1) := by decide +kernel
theorem dX4_sell_3 : decode cX4_sell 3 = .ok (.invokevirtual 77, 3) := by decide +kernel
theorem dX4_sell_6 : decode cX4_sell 6 = .ok (.astore 4, 2) := by decide +kernel
theorem dX4_sell_8 : decode cX4_sell 8 = .ok (.iload_n 3, 1) := by decide +kernel
theorem dX4_sell_9 : decode cX4_sell 9 = .ok (.iconst 1, 1) := by decide +kernel
theorem dX4_sell_10 : decode cX4_sell 10 = .ok (.ldc 108, 2) := by decide +kernel
theorem dX4_sell_12 : decode cX4_sell 12 = .ok (.invokestatic 36, 3) := by decide +kernel
theorem dX4_sell_15 : decode cX4_sell 15 = .ok (.aload_n 0, 1) := by decide +kernel
theorem dX4_sell_16 : decode cX4_sell 16 = .ok (.getfield 19, 3) := by decide +kernel
theorem dX4_sell_19 : decode cX4_sell 19 = .ok (.invokevirtual 44, 3) := by decide +kernel
theorem dX4_sell_22 : decode cX4_sell 22 = .ok (.bipush 120, 2) := by decide +kernel
theorem dX4_sell_24 : decode cX4_sell 24 = .ok (.if_icmp .ge 7, 3) := by decide +kernel
theorem dX4_sell_27 : decode cX4_sell 27 = .ok (.iconst 1, 1) := by decide +kernel
theorem dX4_sell_28 : decode cX4_sell 28 = .ok (.goto 4, 3) := by decide +kernel
theorem dX4_sell_31 : decode cX4_sell 31 = .ok (.iconst 0, 1) := by decide +kernel
theorem dX4_sell_32 : decode cX4_sell 32 = .ok (.invokestatic 48, 3) := by decide +kernel
theorem dX4_sell_35 : decode cX4_sell 35 = .ok (.iload_n 3, 1) := by decide +kernel
theorem dX4_sell_36 : decode cX4_sell 36 = .ok (.i2l, 1) := by decide +kernel
theorem dX4_sell_37 : decode cX4_sell 37 = .ok (.aload 4, 2) := by decide +kernel
theorem dX4_sell_39 : decode cX4_sell 39 = .ok (.getfield 109, 3) := by decide +kernel
theorem dX4_sell_42 : decode cX4_sell 42 = .ok (.lcmp, 1) := by decide +kernel
theorem dX4_sell_43 : decode cX4_sell 43 = .ok (.ifCond .gt 7, 3) := by decide +kernel
theorem dX4_sell_46 : decode cX4_sell 46 = .ok (.iconst 1, 1) := by decide +kernel
theorem dX4_sell_47 : decode cX4_sell 47 = .ok (.goto 4, 3) := by decide +kernel
theorem dX4_sell_50 : decode cX4_sell 50 = .ok (.iconst 0, 1) := by decide +kernel
theorem dX4_sell_51 : decode cX4_sell 51 = .ok (.invokestatic 48, 3) := by decide +kernel
theorem dX4_sell_54 : decode cX4_sell 54 = .ok (.iload_n 3, 1) := by decide +kernel
theorem dX4_sell_55 : decode cX4_sell 55 = .ok (.i2l, 1) := by decide +kernel
theorem dX4_sell_56 : decode cX4_sell 56 = .ok (.aload 4, 2) := by decide +kernel
theorem dX4_sell_58 : decode cX4_sell 58 = .ok (.getfield 92, 3) := by decide +kernel
theorem dX4_sell_61 : decode cX4_sell 61 = .ok (.invokestatic 112, 3) := by decide +kernel
theorem dX4_sell_64 : decode cX4_sell 64 = .ok (.lstore 5, 2) := by decide +kernel
theorem dX4_sell_66 : decode cX4_sell 66 = .ok (.lload 5, 2) := by decide +kernel
theorem dX4_sell_68 : decode cX4_sell 68 = .ok (.lconst 0, 1) := by decide +kernel
theorem dX4_sell_69 : decode cX4_sell 69 = .ok (.lcmp, 1) := by decide +kernel
theorem dX4_sell_70 : decode cX4_sell 70 = .ok (.ifCond .le 16, 3) := by decide +kernel
theorem dX4_sell_73 : decode cX4_sell 73 = .ok (.lload 5, 2) := by decide +kernel
theorem dX4_sell_75 : decode cX4_sell 75 = .ok (.ldc2_w 115, 3) := by decide +kernel
theorem dX4_sell_78 : decode cX4_sell 78 = .ok (.lcmp, 1) := by decide +kernel
theorem dX4_sell_79 : decode cX4_sell 79 = .ok (.ifCond .gt 7, 3) := by decide +kernel
theorem dX4_sell_82 : decode cX4_sell 82 = .ok (.iconst 1, 1) := by decide +kernel
theorem dX4_sell_83 : decode cX4_sell 83 = .ok (.goto 4, 3) := by decide +kernel
theorem dX4_sell_86 : decode cX4_sell 86 = .ok (.iconst 0, 1) := by decide +kernel
theorem dX4_sell_87 : decode cX4_sell 87 = .ok (.invokestatic 48, 3) := by decide +kernel
theorem dX4_sell_90 : decode cX4_sell 90 = .ok (.aload_n 0, 1) := by decide +kernel
theorem dX4_sell_91 : decode cX4_sell 91 = .ok (.aload 4, 2) := by decide +kernel
theorem dX4_sell_93 : decode cX4_sell 93 = .ok (.iload_n 3, 1) := by decide +kernel
theorem dX4_sell_94 : decode cX4_sell 94 = .ok (.ineg, 1) := by decide +kernel
theorem dX4_sell_95 : decode cX4_sell 95 = .ok (.i2l, 1) := by decide +kernel
theorem dX4_sell_96 : decode cX4_sell 96 = .ok (.lload 5, 2) := by decide +kernel
theorem dX4_sell_98 : decode cX4_sell 98 = .ok (.invokevirtual 104, 3) := by decide +kernel
theorem dX4_sell_101 : decode cX4_sell 101 = .ok (.ireturn, 1) := by decide +kernel
set_option maxRecDepth 20000 in
theorem ggX4_balance_X4_clientAt : GoodIn wsX4_balance wsX4_clientAt := goodIn_ca (goodIn_r _ [9, 10, 11, 12, 13, 14, 15, 16, 17, 18, 19, 8, 20, 21, 22, 23, 24, 25, 26, 27, 28, 29, 30, 31, 32, 33, 34, 35, 36, 37, 38, 39, 204, 205, 206, 207, 208, 214, 215, 216] (by decide +kernel) (by decide +kernel)) (goodIn_sub (fun _ h => List.mem_cons_of_mem _ (List.mem_append_left _ (List.mem_append_right _ h))) (by decide +kernel))
set_option maxRecDepth 20000 in
theorem gX4_balance_X4_clientAt : GoodIn wsX4_balance (wsV RX4 67 RX4 yX4_clientAt wsX4_clientAt) := goodIn_app (goodIn_of _ (by decide +kernel)) ggX4_balance_X4_clientAt
set_option maxRecDepth 20000 in
theorem ggX4_balance_Jx4a65c_size_8abf5 : GoodIn wsX4_balance wsJx4a65c_size_8abf5 := goodIn_r _ [16, 17, 214, 215, 216] (by decide +kernel) (by decide +kernel)
set_option maxRecDepth 20000 in
theorem gX4_balance_Jx4a65c_size_8abf5 : GoodIn wsX4_balance (wsV RX4 44 RJx4a65c yJx4a65c_size_8abf5 wsJx4a65c_size_8abf5) := goodIn_app (goodIn_of _ (by decide +kernel)) ggX4_balance_Jx4a65c_size_8abf5
set_option maxRecDepth 20000 in
theorem ggX4_balance_X4_checkPossible : GoodIn wsX4_balance wsX4_checkPossible := goodIn_ca (goodIn_r _ [42, 43, 44] (by decide +kernel) (by decide +kernel)) (goodIn_sub (fun _ h => List.mem_cons_of_mem _ (List.mem_append_right _ h)) (by decide +kernel))
set_option maxRecDepth 20000 in
theorem gX4_balance_X4_checkPossible : GoodIn wsX4_balance (va_wsS RX4 48 yX4_checkPossible wsX4_checkPossible) := goodIn_app (goodIn_of _ (by decide +kernel)) ggX4_balance_X4_checkPossible
set_option maxRecDepth 20000 in
theorem ggX4_balance_X4_wealthOf : GoodIn wsX4_balance wsX4_wealthOf := goodIn_r _ [47, 48, 3, 4, 12, 13, 14, 15, 16, 17, 23, 24, 25, 26, 27, 28, 29, 30, 31, 32, 33, 34, 35, 36, 37, 38, 39, 49, 50, 8, 51, 52, 53, 54, 55, 56, 57, 58, 209, 210, 211, 212, 213, 214, 215, 216, 217, 218, 219, 220, 221, 222, 223, 224] (by decide +kernel) (by decide +kernel)
set_option maxRecDepth 20000 in
theorem gX4_balance_X4_wealthOf : GoodIn wsX4_balance (va_wsS RX4 117 yX4_wealthOf wsX4_wealthOf) := goodIn_app (goodIn_of _ (by decide +kernel)) ggX4_balance_X4_wealthOf
set_option maxRecDepth 20000 in
theorem ggX4_balance_Jx4a65c_get_915e3 : GoodIn wsX4_balance wsJx4a65c_get_915e3 := goodIn_r _ [26, 17, 27, 28, 29, 30, 31, 32, 33, 34, 35, 36, 37, 15, 38, 39, 214, 215, 216] (by decide +kernel) (by decide +kernel)
set_option maxRecDepth 20000 in
theorem gX4_balance_Jx4a65c_get_915e3 : GoodIn wsX4_balance (wsV RX4 60 RJx4a65c yJx4a65c_get_915e3 wsJx4a65c_get_915e3) := goodIn_app (goodIn_of _ (by decide +kernel)) ggX4_balance_Jx4a65c_get_915e3
set_option maxRecDepth 20000 in
theorem ggX4_balance_X4_sellTooMuch : GoodIn wsX4_balance wsX4_sellTooMuch := goodIn_r _ [62, 53, 49, 50, 8, 51, 52, 54, 55, 56, 57, 58, 63, 64, 65, 66, 67, 68, 69, 70, 71, 72, 73, 74, 75, 76, 77, 78, 79, 80, 1, 81, 82, 12, 13, 14, 15, 16, 17, 83, 84, 85, 86, 87, 88, 89, 90, 91, 92, 93, 94, 95, 96, 97, 98, 99, 100, 101, 102, 103, 104, 105, 106, 39, 107, 108, 109, 110, 111, 112, 113, 114, 115, 116, 117, 118, 119, 120, 121, 122, 123, 124, 125, 126, 127, 128, 129, 130, 131, 132, 133, 134, 135, 136, 137, 138, 139, 140, 141, 142, 143, 144, 145, 146, 147, 148, 149, 150, 151, 152, 153, 154, 155, 156, 157, 158, 159, 160, 161, 162, 163, 164, 165, 166, 48, 167, 168, 169, 170, 171, 172, 173, 174, 175, 176, 177, 178, 179, 180, 181, 182, 183, 184, 185, 186, 187, 188, 189, 190, 191, 192, 193, 194, 195, 23, 24, 25, 26, 27, 28, 29, 30, 31, 32, 33, 34, 35, 36, 37, 38, 196, 197, 198, 199, 217, 218, 219, 220, 221, 222, 223, 224, 225, 226, 227, 228, 229, 230, 231, 232, 233, 204, 205, 206, 207, 208, 214, 215, 216, 209, 210, 211, 212, 213] (by decide +kernel) (by decide +kernel)
set_option maxRecDepth 20000 in
theorem gX4_balance_X4_sellTooMuch : GoodIn wsX4_balance (wsV RX4 123 RX4 yX4_sellTooMuch wsX4_sellTooMuch) := goodIn_app (goodIn_of _ (by decide +kernel)) ggX4_balance_X4_sellTooMuch
set_option maxRecDepth 20000 in
theorem ggX4_balance_X4_buyWhatLacks : GoodIn wsX4_balance wsX4_buyWhatLacks := goodIn_r _ [203, 166, 48, 67, 193, 194, 122, 195, 53, 63, 64, 8, 65, 66, 49, 50, 51, 52, 54, 55, 56, 57, 58, 68, 69, 70, 71, 72, 73, 74, 75, 76, 77, 78, 79, 80, 1, 81, 82, 12, 13, 14, 15, 16, 17, 83, 84, 85, 86, 87, 88, 89, 90, 91, 92, 93, 94, 95, 96, 97, 98, 99, 100, 101, 102, 103, 104, 105, 106, 39, 107, 108, 109, 110, 111, 112, 113, 114, 115, 116, 117, 118, 119, 120, 121, 123, 124, 125, 126, 127, 128, 129, 130, 131, 132, 133, 134, 135, 136, 137, 138, 139, 140, 141, 142, 143, 144, 145, 146, 147, 148, 149, 150, 151, 152, 153, 154, 155, 156, 157, 158, 159, 160, 161, 162, 163, 164, 165, 167, 168, 169, 170, 171, 172, 173, 174, 175, 176, 177, 178, 179, 180, 181, 182, 183, 184, 185, 186, 187, 188, 189, 190, 191, 192, 23, 24, 25, 26, 27, 28, 29, 30, 31, 32, 33, 34, 35, 36, 37, 38, 196, 197, 198, 199, 217, 218, 219, 220, 209, 210, 211, 212, 213, 221, 222, 223, 224, 225, 226, 227, 228, 229, 230, 231, 232, 233, 204, 205, 206, 207, 208, 214, 215, 216] (by decide +kernel) (by decide +kernel)
set_option maxRecDepth 20000 in
theorem gX4_balance_X4_buyWhatLacks : GoodIn wsX4_balance (wsV RX4 127 RX4 yX4_buyWhatLacks wsX4_buyWhatLacks) := goodIn_app (goodIn_of _ (by decide +kernel)) ggX4_balance_X4_buyWhatLacks
theorem dX4_balance_0 : decode cX4_balance 0 = .ok (.aload_n 0, 1) := by decide +kernel
theorem dX4_balance_1 : decode cX4_balance 1 = .ok (.iload_n 1, 1) := by decide +kernel
theorem dX4_balance_2 : decode cX4_balance 2 = .ok (.invokevirtual 67, 3) := by decide +kernel
theorem dX4_balance_5 : decode cX4_balance 5 = .ok (.astore_n 2, 1) := by decide +kernel
theorem dX4_balance_6 : decode cX4_balance 6 = .ok (.aload_n 0, 1) := by decide +kernel
theorem dX4_balance_7 : decode cX4_balance 7 = .ok (.getfield 19, 3) := by decide +kernel
theorem dX4_balance_10 : decode cX4_balance 10 = .ok (.invokevirtual 44, 3) := by decide +kernel
theorem dX4_balance_13 : decode cX4_balance 13 = .ok (.istore_n 3, 1) := by decide +kernel
theorem dX4_balance_14 : decode cX4_balance 14 = .ok (.iload_n 3, 1) := by decide +kernel
theorem dX4_balance_15 : decode cX4_balance 15 = .ok (.bipush 108, 2) := by decide +kernel
theorem dX4_balance_17 : decode cX4_balance 17 = .ok (.if_icmp .gt 7, 3) := by decide +kernel
theorem dX4_balance_20 : decode cX4_balance 20 = .ok (.iconst 1, 1) := by decide +kernel
theorem dX4_balance_21 : decode cX4_balance 21 = .ok (.goto 4, 3) := by decide +kernel
theorem dX4_balance_24 : decode cX4_balance 24 = .ok (.iconst 0, 1) := by decide +kernel
theorem dX4_balance_25 : decode cX4_balance 25 = .ok (.invokestatic 48, 3) := by decide +kernel
theorem dX4_balance_28 : decode cX4_balance 28 = .ok (.aload_n 2, 1) := by decide +kernel
theorem dX4_balance_29 : decode cX4_balance 29 = .ok (.invokestatic 117, 3) := by decide +kernel
theorem dX4_balance_32 : decode cX4_balance 32 = .ok (.lstore 4, 2) := by decide +kernel
theorem dX4_balance_34 : decode cX4_balance 34 = .ok (.lload 4, 2) := by decide +kernel
theorem dX4_balance_36 : decode cX4_balance 36 = .ok (.lconst 0, 1) := by decide +kernel
theorem dX4_balance_37 : decode cX4_balance 37 = .ok (.lcmp, 1) := by decide +kernel
theorem dX4_balance_38 : decode cX4_balance 38 = .ok (.ifCond .lt 16, 3) := by decide +kernel
theorem dX4_balance_41 : decode cX4_balance 41 = .ok (.lload 4, 2) := by decide +kernel
theorem dX4_balance_43 : decode cX4_balance 43 = .ok (.ldc2_w 121, 3) := by decide +kernel
theorem dX4_balance_46 : decode cX4_balance 46 = .ok (.lcmp, 1) := by decide +kernel
theorem dX4_balance_47 : decode cX4_balance 47 = .ok (.ifCond .gt 7, 3) := by decide +kernel
theorem dX4_balance_50 : decode cX4_balance 50 = .ok (.iconst 1, 1) := by decide +kernel
theorem dX4_balance_51 : decode cX4_balance 51 = .ok (.goto 4, 3) := by decide +kernel
theorem dX4_balance_54 : decode cX4_balance 54 = .ok (.iconst 0, 1) := by decide +kernel
theorem dX4_balance_55 : decode cX4_balance 55 = .ok (.invokestatic 48, 3) := by decide +kernel
theorem dX4_balance_58 : decode cX4_balance 58 = .ok (.iconst 0, 1) := by decide +kernel
theorem dX4_balance_59 : decode cX4_balance 59 = .ok (.istore 6, 2) := by decide +kernel
theorem dX4_balance_61 : decode cX4_balance 61 = .ok (.iload 6, 2) := by decide +kernel
theorem dX4_balance_63 : decode cX4_balance 63 = .ok (.aload_n 2, 1) := by decide +kernel
theorem dX4_balance_64 : decode cX4_balance 64 = .ok (.getfield 55, 3) := by decide +kernel
theorem dX4_balance_67 : decode cX4_balance 67 = .ok (.invokevirtual 44, 3) := by decide +kernel
theorem dX4_balance_70 : decode cX4_balance 70 = .ok (.if_icmp .ge 27, 3) := by decide +kernel
theorem dX4_balance_73 : decode cX4_balance 73 = .ok (.aload_n 0, 1) := by decide +kernel
theorem dX4_balance_74 : decode cX4_balance 74 = .ok (.aload_n 2, 1) := by decide +kernel
theorem dX4_balance_75 : decode cX4_balance 75 = .ok (.getfield 55, 3) := by decide +kernel
theorem dX4_balance_78 : decode cX4_balance 78 = .ok (.iload 6, 2) := by decide +kernel
theorem dX4_balance_80 : decode cX4_balance 80 = .ok (.invokevirtual 60, 3) := by decide +kernel
theorem dX4_balance_83 : decode cX4_balance 83 = .ok (.checkcast 58, 3) := by decide +kernel
theorem dX4_balance_86 : decode cX4_balance 86 = .ok (.lload 4, 2) := by decide +kernel
theorem dX4_balance_88 : decode cX4_balance 88 = .ok (.invokevirtual 123, 3) := by decide +kernel
theorem dX4_balance_91 : decode cX4_balance 91 = .ok (.iinc 6 1, 3) := by decide +kernel
theorem dX4_balance_94 : decode cX4_balance 94 = .ok (.goto (-33), 3) := by decide +kernel
theorem dX4_balance_97 : decode cX4_balance 97 = .ok (.iconst 0, 1) := by decide +kernel
theorem dX4_balance_98 : decode cX4_balance 98 = .ok (.istore 6, 2) := by decide +kernel
theorem dX4_balance_100 : decode cX4_balance 100 = .ok (.iload 6, 2) := by decide +kernel
theorem dX4_balance_102 : decode cX4_balance 102 = .ok (.aload_n 2, 1) := by decide +kernel
theorem dX4_balance_103 : decode cX4_balance 103 = .ok (.getfield 55, 3) := by decide +kernel
theorem dX4_balance_106 : decode cX4_balance 106 = .ok (.invokevirtual 44, 3) := by decide +kernel
theorem dX4_balance_109 : decode cX4_balance 109 = .ok (.if_icmp .ge 27, 3) := by decide +kernel
theorem dX4_balance_112 : decode cX4_balance 112 = .ok (.aload_n 0, 1) := by decide +kernel
theorem dX4_balance_113 : decode cX4_balance 113 = .ok (.aload_n 2, 1) := by decide +kernel
theorem dX4_balance_114 : decode cX4_balance 114 = .ok (.getfield 55, 3) := by decide +kernel
theorem dX4_balance_117 : decode cX4_balance 117 = .ok (.iload 6, 2) := by decide +kernel
theorem dX4_balance_119 : decode cX4_balance 119 = .ok (.invokevirtual 60, 3) := by decide +kernel
theorem dX4_balance_122 : decode cX4_balance 122 = .ok (.checkcast 58, 3) := by decide +kernel
theorem dX4_balance_125 : decode cX4_balance 125 = .ok (.lload 4, 2) := by decide +kernel
theorem dX4_balance_127 : decode cX4_balance 127 = .ok (.invokevirtual 127, 3) := by decide +kernel
theorem dX4_balance_130 : decode cX4_balance 130 = .ok (.iinc 6 1, 3) := by decide +kernel
theorem dX4_balance_133 : decode cX4_balance 133 = .ok (.goto (-33), 3) := by decide +kernel
theorem dX4_balance_136 : decode cX4_balance 136 = .ok (.aload_n 0, 1) := by decide +kernel
theorem dX4_balance_137 : decode cX4_balance 137 = .ok (.getfield 19, 3) := by decide +kernel
theorem dX4_balance_140 : decode cX4_balance 140 = .ok (.invokevirtual 44, 3) := by decide +kernel
theorem dX4_balance_143 : decode cX4_balance 143 = .ok (.iload_n 3, 1) := by decide +kernel
theorem dX4_balance_144 : decode cX4_balance 144 = .ok (.isub, 1) := by decide +kernel
theorem dX4_balance_145 : decode cX4_balance 145 = .ok (.ireturn, 1) := by decide +kernel
set_option maxRecDepth 20000 in
theorem ggX4_complain_X4_tradeAt : GoodIn wsX4_complain wsX4_tradeAt := goodIn_ca (goodIn_r _ [9, 10, 11, 12, 13, 14, 15, 16, 17, 18, 19, 8, 20, 21, 22, 23, 24, 25, 26, 27, 28, 29, 30, 31, 32, 33, 34, 35, 36, 37, 38, 39, 139, 140, 141, 142, 143, 144, 145, 146] (by decide +kernel) (by decide +kernel)) (goodIn_sub (fun _ h => List.mem_cons_of_mem _ (List.mem_append_left _ (List.mem_append_right _ h))) (by decide +kernel))
set_option maxRecDepth 20000 in
theorem gX4_complain_X4_tradeAt : GoodIn wsX4_complain (wsV RX4 130 RX4 yX4_tradeAt wsX4_tradeAt) := goodIn_app (goodIn_of _ (by decide +kernel)) ggX4_complain_X4_tradeAt
set_option maxRecDepth 20000 in
theorem ggX4_complain_X4_salesKeepTheirParts : GoodIn wsX4_complain wsX4_salesKeepTheirParts := goodIn_r _ [43, 10, 11, 2, 1, 4, 12, 13, 14, 15, 16, 17, 23, 24, 25, 26, 27, 28, 29, 30, 31, 32, 33, 34, 35, 36, 37, 38, 39, 139, 140, 141, 142, 143, 126, 127, 128, 129, 130, 131, 132, 133, 134, 144, 145, 146] (by decide +kernel) (by decide +kernel)
set_option maxRecDepth 20000 in
theorem gX4_complain_X4_salesKeepTheirParts : GoodIn wsX4_complain (wsV RX4 140 RX4 yX4_salesKeepTheirParts wsX4_salesKeepTheirParts) := goodIn_app (goodIn_of _ (by decide +kernel)) ggX4_complain_X4_salesKeepTheirParts
set_option maxRecDepth 20000 in
theorem ggX4_complain_X4_checkPossible : GoodIn wsX4_complain wsX4_checkPossible := goodIn_ca (goodIn_r _ [46, 47, 48] (by decide +kernel) (by decide +kernel)) (goodIn_sub (fun _ h => List.mem_cons_of_mem _ (List.mem_append_right _ h)) (by decide +kernel))
set_option maxRecDepth 20000 in
theorem gX4_complain_X4_checkPossible : GoodIn wsX4_complain (va_wsS RX4 48 yX4_checkPossible wsX4_checkPossible) := goodIn_app (goodIn_of _ (by decide +kernel)) ggX4_complain_X4_checkPossible
set_option maxRecDepth 20000 in
theorem ggX4_complain_X3_paid : GoodIn wsX4_complain wsX3_paid := goodIn_r _ [53, 54, 55, 56, 57, 58, 52, 59, 60, 126, 127, 128, 129, 130, 131, 132, 133, 134] (by decide +kernel) (by decide +kernel)
set_option maxRecDepth 20000 in
theorem gX4_complain_X3_paid : GoodIn wsX4_complain (wsV RX4 149 RX3 yX3_paid wsX3_paid) := goodIn_app (goodIn_of _ (by decide +kernel)) ggX4_complain_X3_paid
set_option maxRecDepth 20000 in
theorem ggX4_complain_X4_exchange : GoodIn wsX4_complain wsX4_exchange := goodIn_r _ [64, 65, 3, 66, 67, 68, 69, 70, 71, 72, 73, 74, 8, 75, 76, 77, 135, 136, 137, 138, 147, 148, 149, 150, 151, 139, 140, 141, 142, 143, 152, 153, 154, 155] (by decide +kernel) (by decide +kernel)
set_option maxRecDepth 20000 in
theorem gX4_complain_X4_exchange : GoodIn wsX4_complain (wsV RX4 153 RX4 yX4_exchange wsX4_exchange) := goodIn_app (goodIn_of _ (by decide +kernel)) ggX4_complain_X4_exchange
set_option maxRecDepth 20000 in
theorem ggX4_complain_X4_findLotsAnew : GoodIn wsX4_complain wsX4_findLotsAnew := goodIn_r _ [81, 82, 10, 11, 2, 3, 83, 84, 1, 85, 86, 87, 88, 12, 13, 14, 15, 16, 17, 23, 24, 25, 26, 27, 28, 29, 30, 31, 32, 33, 34, 35, 36, 37, 38, 39, 89, 90, 91, 8, 92, 93, 4, 94, 57, 58, 52, 59, 60, 95, 96, 97, 49, 50, 51, 53, 54, 55, 56, 98, 99, 100, 101, 102, 103, 104, 105, 106, 107, 108, 109, 110, 111, 112, 147, 148, 149, 150, 151, 139, 140, 141, 142, 143, 126, 127, 128, 129, 130, 131, 132, 133, 134, 135, 136, 137, 138, 144, 145, 146] (by decide +kernel) (by decide +kernel)
set_option maxRecDepth 20000 in
theorem gX4_complain_X4_findLotsAnew : GoodIn wsX4_complain (wsV RX4 157 RX4 yX4_findLotsAnew wsX4_findLotsAnew) := goodIn_app (goodIn_of _ (by decide +kernel)) ggX4_complain_X4_findLotsAnew
set_option maxRecDepth 20000 in
theorem ggX4_complain_X4_settleTaxes : GoodIn wsX4_complain wsX4_settleTaxes := goodIn_r _ [116, 117, 118, 119, 66, 95, 96, 8, 97, 120, 121, 122, 82, 103, 104, 105, 106, 123, 124, 125, 139, 140, 141, 142, 143, 147, 148, 149, 150, 151] (by decide +kernel) (by decide +kernel)
set_option maxRecDepth 20000 in
theorem gX4_complain_X4_settleTaxes : GoodIn wsX4_complain (wsV RX4 161 RX4 yX4_settleTaxes wsX4_settleTaxes) := goodIn_app (goodIn_of _ (by decide +kernel)) ggX4_complain_X4_settleTaxes
theorem dX4_complain_0 : decode cX4_complain 0 = .ok (.aload_n 0, 1) := by decide +kernel
theorem dX4_complain_1 : decode cX4_complain 1 = .ok (.iload_n 1, 1) := by decide +kernel
theorem dX4_complain_2 : decode cX4_complain 2 = .ok (.invokevirtual 130, 3) := by decide +kernel
theorem dX4_complain_5 : decode cX4_complain 5 = .ok (.astore_n 2, 1) := by decide +kernel
theorem dX4_complain_6 : decode cX4_complain 6 = .ok (.aload_n 2, 1) := by decide +kernel
theorem dX4_complain_7 : decode cX4_complain 7 = .ok (.getfield 134, 3) := by decide +kernel
theorem dX4_complain_10 : decode cX4_complain 10 = .ok (.ifCond .eq 15, 3) := by decide +kernel
theorem dX4_complain_13 : decode cX4_complain 13 = .ok (.aload_n 0, 1) := by decide +kernel
theorem dX4_complain_14 : decode cX4_complain 14 = .ok (.aload_n 2, 1) := by decide +kernel
theorem dX4_complain_15 : decode cX4_complain 15 = .ok (.invokevirtual 140, 3) := by decide +kernel
theorem dX4_complain_18 : decode cX4_complain 18 = .ok (.ifCond .eq 7, 3) := by decide +kernel
theorem dX4_complain_21 : decode cX4_complain 21 = .ok (.iconst 1, 1) := by decide +kernel
theorem dX4_complain_22 : decode cX4_complain 22 = .ok (.goto 4, 3) := by decide +kernel
theorem dX4_complain_25 : decode cX4_complain 25 = .ok (.iconst 0, 1) := by decide +kernel
theorem dX4_complain_26 : decode cX4_complain 26 = .ok (.invokestatic 48, 3) := by decide +kernel
theorem dX4_complain_29 : decode cX4_complain 29 = .ok (.aload_n 2, 1) := by decide +kernel
theorem dX4_complain_30 : decode cX4_complain 30 = .ok (.getfield 144, 3) := by decide +kernel
theorem dX4_complain_33 : decode cX4_complain 33 = .ok (.getfield 81, 3) := by decide +kernel
theorem dX4_complain_36 : decode cX4_complain 36 = .ok (.astore_n 3, 1) := by decide +kernel
theorem dX4_complain_37 : decode cX4_complain 37 = .ok (.aload_n 2, 1) := by decide +kernel
theorem dX4_complain_38 : decode cX4_complain 38 = .ok (.iconst 0, 1) := by decide +kernel
theorem dX4_complain_39 : decode cX4_complain 39 = .ok (.putfield 134, 3) := by decide +kernel
theorem dX4_complain_42 : decode cX4_complain 42 = .ok (.aload_n 0, 1) := by decide +kernel
theorem dX4_complain_43 : decode cX4_complain 43 = .ok (.aload_n 2, 1) := by decide +kernel
theorem dX4_complain_44 : decode cX4_complain 44 = .ok (.getfield 144, 3) := by decide +kernel
theorem dX4_complain_47 : decode cX4_complain 47 = .ok (.aload_n 2, 1) := by decide +kernel
theorem dX4_complain_48 : decode cX4_complain 48 = .ok (.getfield 148, 3) := by decide +kernel
theorem dX4_complain_51 : decode cX4_complain 51 = .ok (.lneg, 1) := by decide +kernel
theorem dX4_complain_52 : decode cX4_complain 52 = .ok (.aload_n 2, 1) := by decide +kernel
theorem dX4_complain_53 : decode cX4_complain 53 = .ok (.invokevirtual 149, 3) := by decide +kernel
theorem dX4_complain_56 : decode cX4_complain 56 = .ok (.lneg, 1) := by decide +kernel
theorem dX4_complain_57 : decode cX4_complain 57 = .ok (.invokevirtual 153, 3) := by decide +kernel
theorem dX4_complain_60 : decode cX4_complain 60 = .ok (.aload_n 0, 1) := by decide +kernel
theorem dX4_complain_61 : decode cX4_complain 61 = .ok (.aload_n 3, 1) := by decide +kernel
theorem dX4_complain_62 : decode cX4_complain 62 = .ok (.invokevirtual 157, 3) := by decide +kernel
theorem dX4_complain_65 : decode cX4_complain 65 = .ok (.aload_n 0, 1) := by decide +kernel
theorem dX4_complain_66 : decode cX4_complain 66 = .ok (.aload_n 3, 1) := by decide +kernel
theorem dX4_complain_67 : decode cX4_complain 67 = .ok (.invokevirtual 161, 3) := by decide +kernel
theorem dX4_complain_70 : decode cX4_complain 70 = .ok (.lreturn, 1) := by decide +kernel
set_option maxRecDepth 20000 in
theorem ggX4_pass_X4_checkRange : GoodIn wsX4_pass wsX4_checkRange := goodIn_ca (goodIn_r _ [5, 6, 7] (by decide +kernel) (by decide +kernel)) (goodIn_sub (fun _ h => List.mem_cons_of_mem _ (List.mem_append_left _ (List.mem_append_right _ h))) (by decide +kernel))
set_option maxRecDepth 20000 in
theorem gX4_pass_X4_checkRange : GoodIn wsX4_pass (va_wsS RX4 36 yX4_checkRange wsX4_checkRange) := goodIn_app (goodIn_of _ (by decide +kernel)) ggX4_pass_X4_checkRange
set_option maxRecDepth 20000 in
theorem ggX4_pass_X4_checkPossible : GoodIn wsX4_pass wsX4_checkPossible := goodIn_ca (goodIn_r _ [10, 11, 12] (by decide +kernel) (by decide +kernel)) (goodIn_sub (fun _ h => List.mem_cons_of_mem _ (List.mem_append_right _ h)) (by decide +kernel))
set_option maxRecDepth 20000 in
theorem gX4_pass_X4_checkPossible : GoodIn wsX4_pass (va_wsS RX4 48 yX4_checkPossible wsX4_checkPossible) := goodIn_app (goodIn_of _ (by decide +kernel)) ggX4_pass_X4_checkPossible
set_option maxRecDepth 20000 in
theorem ggX4_pass_X4_endDay : GoodIn wsX4_pass wsX4_endDay := goodIn_r _ [16, 17, 18, 19, 20, 1, 21, 22, 23, 24, 25, 26, 27, 28, 29, 30, 31, 32, 33, 34, 35, 36, 37, 38, 39, 40, 41, 42, 43, 44, 45, 46, 47, 48, 4, 49, 50, 51, 52, 53, 54, 55, 56, 57, 58, 59, 60, 61, 62, 63, 64, 65, 66, 67, 68, 69, 70, 71, 72, 73, 74, 75, 76, 77, 78, 79, 80, 81, 82, 83, 84, 85, 86, 87, 88, 89, 90] (by decide +kernel) (by decide +kernel)
set_option maxRecDepth 20000 in
theorem gX4_pass_X4_endDay : GoodIn wsX4_pass (wsV RX4 167 RX4 yX4_endDay wsX4_endDay) := goodIn_app (goodIn_of _ (by decide +kernel)) ggX4_pass_X4_endDay
theorem dX4_pass_0 : decode cX4_pass 0 = .ok (.iload_n 1, 1) := by decide +kernel
theorem dX4_pass_1 : decode cX4_pass 1 = .ok (.iconst 1, 1) := by decide +kernel
theorem dX4_pass_2 : decode cX4_pass 2 = .ok (.sipush 400, 3) := by decide +kernel
theorem dX4_pass_5 : decode cX4_pass 5 = .ok (.invokestatic 36, 3) := by decide +kernel
theorem dX4_pass_8 : decode cX4_pass 8 = .ok (.aload_n 0, 1) := by decide +kernel
theorem dX4_pass_9 : decode cX4_pass 9 = .ok (.getfield 164, 3) := by decide +kernel
theorem dX4_pass_12 : decode cX4_pass 12 = .ok (.iload_n 1, 1) := by decide +kernel
theorem dX4_pass_13 : decode cX4_pass 13 = .ok (.iadd, 1) := by decide +kernel
theorem dX4_pass_14 : decode cX4_pass 14 = .ok (.sipush 7200, 3) := by decide +kernel
theorem dX4_pass_17 : decode cX4_pass 17 = .ok (.if_icmp .gt 7, 3) := by decide +kernel
theorem dX4_pass_20 : decode cX4_pass 20 = .ok (.iconst 1, 1) := by decide +kernel
theorem dX4_pass_21 : decode cX4_pass 21 = .ok (.goto 4, 3) := by decide +kernel
theorem dX4_pass_24 : decode cX4_pass 24 = .ok (.iconst 0, 1) := by decide +kernel
theorem dX4_pass_25 : decode cX4_pass 25 = .ok (.invokestatic 48, 3) := by decide +kernel
theorem dX4_pass_28 : decode cX4_pass 28 = .ok (.iconst 0, 1) := by decide +kernel
theorem dX4_pass_29 : decode cX4_pass 29 = .ok (.istore_n 2, 1) := by decide +kernel
theorem dX4_pass_30 : decode cX4_pass 30 = .ok (.iload_n 2, 1) := by decide +kernel
theorem dX4_pass_31 : decode cX4_pass 31 = .ok (.iload_n 1, 1) := by decide +kernel
theorem dX4_pass_32 : decode cX4_pass 32 = .ok (.if_icmp .ge 13, 3) := by decide +kernel
theorem dX4_pass_35 : decode cX4_pass 35 = .ok (.aload_n 0, 1) := by decide +kernel
theorem dX4_pass_36 : decode cX4_pass 36 = .ok (.invokevirtual 167, 3) := by decide +kernel
theorem dX4_pass_39 : decode cX4_pass 39 = .ok (.iinc 2 1, 3) := by decide +kernel
theorem dX4_pass_42 : decode cX4_pass 42 = .ok (.goto (-12), 3) := by decide +kernel
theorem dX4_pass_45 : decode cX4_pass 45 = .ok (.aload_n 0, 1) := by decide +kernel
theorem dX4_pass_46 : decode cX4_pass 46 = .ok (.getfield 164, 3) := by decide +kernel
theorem dX4_pass_49 : decode cX4_pass 49 = .ok (.ireturn, 1) := by decide +kernel
set_option maxRecDepth 20000 in
theorem ggX4_cash_X4_clientAt : GoodIn wsX4_cash wsX4_clientAt := goodIn_ca (goodIn_r _ [7, 8, 9, 10, 11, 12, 13, 14, 15, 16, 17, 6, 18, 19, 20, 21, 22, 23, 24, 25, 26, 27, 28, 29, 30, 31, 32, 33, 34, 35, 36, 37, 38, 39, 40, 41, 42, 48, 49, 50] (by decide +kernel) (by decide +kernel)) (goodIn_sub (fun _ h => List.mem_cons_of_mem _ (List.mem_append_right _ h)) (by decide +kernel))
set_option maxRecDepth 20000 in
theorem gX4_cash_X4_clientAt : GoodIn wsX4_cash (wsV RX4 67 RX4 yX4_clientAt wsX4_clientAt) := goodIn_app (goodIn_of _ (by decide +kernel)) ggX4_cash_X4_clientAt
theorem dX4_cash_0 : decode cX4_cash 0 = .ok (.iload_n 1, 1) := by decide +kernel
theorem dX4_cash_1 : decode cX4_cash 1 = .ok (.iconst (-1), 1) := by decide +kernel
theorem dX4_cash_2 : decode cX4_cash 2 = .ok (.if_icmp .ne 8, 3) := by decide +kernel
theorem dX4_cash_5 : decode cX4_cash 5 = .ok (.aload_n 0, 1) := by decide +kernel
theorem dX4_cash_6 : decode cX4_cash 6 = .ok (.getfield 170, 3) := by decide +kernel
theorem dX4_cash_9 : decode cX4_cash 9 = .ok (.lreturn, 1) := by decide +kernel
theorem dX4_cash_10 : decode cX4_cash 10 = .ok (.aload_n 0, 1) := by decide +kernel
theorem dX4_cash_11 : decode cX4_cash 11 = .ok (.iload_n 1, 1) := by decide +kernel
theorem dX4_cash_12 : decode cX4_cash 12 = .ok (.invokevirtual 67, 3) := by decide +kernel
theorem dX4_cash_15 : decode cX4_cash 15 = .ok (.getfield 73, 3) := by decide +kernel
theorem dX4_cash_18 : decode cX4_cash 18 = .ok (.lreturn, 1) := by decide +kernel
set_option maxRecDepth 20000 in
theorem ggX4_parts_X4_fundAt : GoodIn wsX4_parts wsX4_fundAt := goodIn_ca (goodIn_r _ [7, 8, 9, 10, 11, 12, 13, 14, 15, 16, 17, 6, 18, 19, 20, 21, 22, 23, 24, 25, 26, 27, 28, 29, 30, 31, 32, 33, 34, 35, 36, 37, 58, 59, 60, 61, 62, 63, 64, 65] (by decide +kernel) (by decide +kernel)) (goodIn_sub (fun _ h => List.mem_cons_of_mem _ (List.mem_append_right _ h)) (by decide +kernel))
set_option maxRecDepth 20000 in
theorem gX4_parts_X4_fundAt : GoodIn wsX4_parts (wsV RX4 31 RX4 yX4_fundAt wsX4_fundAt) := goodIn_app (goodIn_of _ (by decide +kernel)) ggX4_parts_X4_fundAt
set_option maxRecDepth 20000 in
theorem ggX4_parts_X4_holdingAt : GoodIn wsX4_parts wsX4_holdingAt := goodIn_ca (goodIn_r _ [41, 42, 43, 44, 45, 46, 6, 47, 48, 49, 10, 11, 12, 13, 14, 15, 16, 17, 18, 19, 20, 21, 22, 23, 24, 25, 26, 27, 28, 29, 30, 31, 32, 33, 34, 35, 36, 37, 66, 67, 68, 69, 70, 58, 59, 60, 61, 62, 63, 64, 65] (by decide +kernel) (by decide +kernel)) (goodIn_sub (fun _ h => List.mem_cons_of_mem _ (List.mem_append_right _ h)) (by decide +kernel))
set_option maxRecDepth 20000 in
theorem gX4_parts_X4_holdingAt : GoodIn wsX4_parts (wsV RX4 77 RX4 yX4_holdingAt wsX4_holdingAt) := goodIn_app (goodIn_of _ (by decide +kernel)) ggX4_parts_X4_holdingAt
theorem dX4_parts_0 : decode cX4_parts 0 = .ok (.iload_n 1, 1) := by decide +kernel
theorem dX4_parts_1 : decode cX4_parts 1 = .ok (.iconst (-1), 1) := by decide +kernel
theorem dX4_parts_2 : decode cX4_parts 2 = .ok (.if_icmp .ne 12, 3) := by decide +kernel
theorem dX4_parts_5 : decode cX4_parts 5 = .ok (.aload_n 0, 1) := by decide +kernel
theorem dX4_parts_6 : decode cX4_parts 6 = .ok (.iload_n 2, 1) := by decide +kernel
theorem dX4_parts_7 : decode cX4_parts 7 = .ok (.invokevirtual 31, 3) := by decide +kernel
theorem dX4_parts_10 : decode cX4_parts 10 = .ok (.getfield 173, 3) := by decide +kernel
theorem dX4_parts_13 : decode cX4_parts 13 = .ok (.lreturn, 1) := by decide +kernel
theorem dX4_parts_14 : decode cX4_parts 14 = .ok (.aload_n 0, 1) := by decide +kernel
theorem dX4_parts_15 : decode cX4_parts 15 = .ok (.iload_n 1, 1) := by decide +kernel
theorem dX4_parts_16 : decode cX4_parts 16 = .ok (.iload_n 2, 1) := by decide +kernel
theorem dX4_parts_17 : decode cX4_parts 17 = .ok (.invokevirtual 77, 3) := by decide +kernel
theorem dX4_parts_20 : decode cX4_parts 20 = .ok (.getfield 109, 3) := by decide +kernel
theorem dX4_parts_23 : decode cX4_parts 23 = .ok (.lreturn, 1) := by decide +kernel
set_option maxRecDepth 20000 in
theorem ggX4_units_X4_fundAt : GoodIn wsX4_units wsX4_fundAt := goodIn_ca (goodIn_r _ [6, 7, 8, 9, 10, 11, 12, 13, 14, 15, 16, 5, 17, 18, 19, 20, 21, 22, 23, 24, 25, 26, 27, 28, 29, 30, 31, 32, 33, 34, 35, 36, 41, 42, 43, 44, 45, 46, 47, 48] (by decide +kernel) (by decide +kernel)) (goodIn_sub (fun _ h => List.mem_cons_of_mem _ (List.mem_append_right _ h)) (by decide +kernel))
set_option maxRecDepth 20000 in
theorem gX4_units_X4_fundAt : GoodIn wsX4_units (wsV RX4 31 RX4 yX4_fundAt wsX4_fundAt) := goodIn_app (goodIn_of _ (by decide +kernel)) ggX4_units_X4_fundAt
theorem dX4_units_0 : decode cX4_units 0 = .ok (.aload_n 0, 1) := by decide +kernel
theorem dX4_units_1 : decode cX4_units 1 = .ok (.iload_n 1, 1) := by decide +kernel
theorem dX4_units_2 : decode cX4_units 2 = .ok (.invokevirtual 31, 3) := by decide +kernel
theorem dX4_units_5 : decode cX4_units 5 = .ok (.getfield 176, 3) := by decide +kernel
theorem dX4_units_8 : decode cX4_units 8 = .ok (.lreturn, 1) := by decide +kernel
set_option maxRecDepth 20000 in
theorem ggX4_tradeOf_X4_tradeAt : GoodIn wsX4_tradeOf wsX4_tradeAt := goodIn_ca (goodIn_r _ [15, 16, 17, 18, 19, 20, 21, 22, 23, 24, 25, 14, 26, 27, 28, 29, 30, 31, 32, 33, 34, 35, 36, 37, 38, 39, 40, 41, 42, 43, 44, 45, 73, 74, 75, 76, 77, 78, 79, 80] (by decide +kernel) (by decide +kernel)) (goodIn_sub (fun _ h => List.mem_cons_of_mem _ (List.mem_append_left _ (List.mem_append_right _ h))) (by decide +kernel))
set_option maxRecDepth 20000 in
theorem gX4_tradeOf_X4_tradeAt : GoodIn wsX4_tradeOf (wsV RX4 130 RX4 yX4_tradeAt wsX4_tradeAt) := goodIn_app (goodIn_of _ (by decide +kernel)) ggX4_tradeOf_X4_tradeAt
set_option maxRecDepth 20000 in
theorem ggX4_tradeOf_X4_checkRange : GoodIn wsX4_tradeOf wsX4_checkRange := goodIn_ca (goodIn_r _ [48, 49, 50] (by decide +kernel) (by decide +kernel)) (goodIn_sub (fun _ h => List.mem_cons_of_mem _ (List.mem_append_right _ h)) (by decide +kernel))
set_option maxRecDepth 20000 in
theorem gX4_tradeOf_X4_checkRange : GoodIn wsX4_tradeOf (va_wsS RX4 36 yX4_checkRange wsX4_checkRange) := goodIn_app (goodIn_of _ (by decide +kernel)) ggX4_tradeOf_X4_checkRange
theorem dX4_tradeOf_0 : decode cX4_tradeOf 0 = .ok (.aload_n 0, 1) := by decide +kernel
theorem dX4_tradeOf_1 : decode cX4_tradeOf 1 = .ok (.iload_n 1, 1) := by decide +kernel
theorem dX4_tradeOf_2 : decode cX4_tradeOf 2 = .ok (.invokevirtual 130, 3) := by decide +kernel
theorem dX4_tradeOf_5 : decode cX4_tradeOf 5 = .ok (.astore_n 3, 1) := by decide +kernel
theorem dX4_tradeOf_6 : decode cX4_tradeOf 6 = .ok (.iload_n 2, 1) := by decide +kernel
theorem dX4_tradeOf_7 : decode cX4_tradeOf 7 = .ok (.iconst 0, 1) := by decide +kernel
theorem dX4_tradeOf_8 : decode cX4_tradeOf 8 = .ok (.bipush 6, 2) := by decide +kernel
theorem dX4_tradeOf_10 : decode cX4_tradeOf 10 = .ok (.invokestatic 36, 3) := by decide +kernel
theorem dX4_tradeOf_13 : decode cX4_tradeOf 13 = .ok (.iload_n 2, 1) := by decide +kernel
theorem dX4_tradeOf_14 : decode cX4_tradeOf 14 = .ok (.tableswitch 83 0 5 #[38, 50, 62, 67, 72, 77], 38) := by decide +kernel
theorem dX4_tradeOf_52 : decode cX4_tradeOf 52 = .ok (.aload_n 3, 1) := by decide +kernel
theorem dX4_tradeOf_53 : decode cX4_tradeOf 53 = .ok (.getfield 144, 3) := by decide +kernel
theorem dX4_tradeOf_56 : decode cX4_tradeOf 56 = .ok (.getfield 81, 3) := by decide +kernel
theorem dX4_tradeOf_59 : decode cX4_tradeOf 59 = .ok (.getfield 179, 3) := by decide +kernel
theorem dX4_tradeOf_62 : decode cX4_tradeOf 62 = .ok (.i2l, 1) := by decide +kernel
theorem dX4_tradeOf_63 : decode cX4_tradeOf 63 = .ok (.lreturn, 1) := by decide +kernel
theorem dX4_tradeOf_64 : decode cX4_tradeOf 64 = .ok (.aload_n 3, 1) := by decide +kernel
theorem dX4_tradeOf_65 : decode cX4_tradeOf 65 = .ok (.getfield 144, 3) := by decide +kernel
theorem dX4_tradeOf_68 : decode cX4_tradeOf 68 = .ok (.getfield 92, 3) := by decide +kernel
theorem dX4_tradeOf_71 : decode cX4_tradeOf 71 = .ok (.getfield 182, 3) := by decide +kernel
theorem dX4_tradeOf_74 : decode cX4_tradeOf 74 = .ok (.i2l, 1) := by decide +kernel
theorem dX4_tradeOf_75 : decode cX4_tradeOf 75 = .ok (.lreturn, 1) := by decide +kernel
theorem dX4_tradeOf_76 : decode cX4_tradeOf 76 = .ok (.aload_n 3, 1) := by decide +kernel
theorem dX4_tradeOf_77 : decode cX4_tradeOf 77 = .ok (.getfield 148, 3) := by decide +kernel
theorem dX4_tradeOf_80 : decode cX4_tradeOf 80 = .ok (.lreturn, 1) := by decide +kernel
theorem dX4_tradeOf_81 : decode cX4_tradeOf 81 = .ok (.aload_n 3, 1) := by decide +kernel
theorem dX4_tradeOf_82 : decode cX4_tradeOf 82 = .ok (.getfield 183, 3) := by decide +kernel
theorem dX4_tradeOf_85 : decode cX4_tradeOf 85 = .ok (.lreturn, 1) := by decide +kernel
theorem dX4_tradeOf_86 : decode cX4_tradeOf 86 = .ok (.aload_n 3, 1) := by decide +kernel
theorem dX4_tradeOf_87 : decode cX4_tradeOf 87 = .ok (.getfield 186, 3) := by decide +kernel
theorem dX4_tradeOf_90 : decode cX4_tradeOf 90 = .ok (.lreturn, 1) := by decide +kernel
theorem dX4_tradeOf_91 : decode cX4_tradeOf 91 = .ok (.aload_n 3, 1) := by decide +kernel
theorem dX4_tradeOf_92 : decode cX4_tradeOf 92 = .ok (.getfield 189, 3) := by decide +kernel
theorem dX4_tradeOf_95 : decode cX4_tradeOf 95 = .ok (.i2l, 1) := by decide +kernel
theorem dX4_tradeOf_96 : decode cX4_tradeOf 96 = .ok (.lreturn, 1) := by decide +kernel
theorem dX4_tradeOf_97 : decode cX4_tradeOf 97 = .ok (.aload_n 3, 1) := by decide +kernel
theorem dX4_tradeOf_98 : decode cX4_tradeOf 98 = .ok (.getfield 134, 3) := by decide +kernel
theorem dX4_tradeOf_101 : decode cX4_tradeOf 101 = .ok (.ifCond .eq 7, 3) := by decide +kernel
theorem dX4_tradeOf_104 : decode cX4_tradeOf 104 = .ok (.lconst 1, 1) := by decide +kernel
theorem dX4_tradeOf_105 : decode cX4_tradeOf 105 = .ok (.goto 4, 3) := by decide +kernel
theorem dX4_tradeOf_108 : decode cX4_tradeOf 108 = .ok (.lconst 0, 1) := by decide +kernel
theorem dX4_tradeOf_109 : decode cX4_tradeOf 109 = .ok (.lreturn, 1) := by decide +kernel
set_option maxRecDepth 20000 in
theorem ggX4_lot_X4_holdingAt : GoodIn wsX4_lot wsX4_holdingAt := goodIn_ca (goodIn_r _ [12, 13, 14, 15, 16, 17, 11, 18, 19, 20, 21, 22, 23, 24, 25, 26, 27, 28, 29, 30, 31, 32, 33, 34, 35, 36, 37, 38, 39, 40, 41, 42, 43, 44, 45, 46, 47, 48, 68, 69, 70, 71, 72, 54, 55, 56, 57, 58, 73, 74, 75] (by decide +kernel) (by decide +kernel)) (goodIn_sub (fun _ h => List.mem_cons_of_mem _ (List.mem_append_left _ (List.mem_append_right _ h))) (by decide +kernel))
set_option maxRecDepth 20000 in
theorem gX4_lot_X4_holdingAt : GoodIn wsX4_lot (wsV RX4 77 RX4 yX4_holdingAt wsX4_holdingAt) := goodIn_app (goodIn_of _ (by decide +kernel)) ggX4_lot_X4_holdingAt
set_option maxRecDepth 20000 in
theorem ggX4_lot_X4_checkExists : GoodIn wsX4_lot wsX4_checkExists := goodIn_ca (goodIn_r _ [29, 30, 31] (by decide +kernel) (by decide +kernel)) (goodIn_sub (fun _ h => List.mem_cons_of_mem _ (List.mem_append_left _ (List.mem_append_right _ h))) (by decide +kernel))
set_option maxRecDepth 20000 in
theorem gX4_lot_X4_checkExists : GoodIn wsX4_lot (va_wsS RX4 192 yX4_checkExists wsX4_checkExists) := goodIn_app (goodIn_of _ (by decide +kernel)) ggX4_lot_X4_checkExists
set_option maxRecDepth 20000 in
theorem ggX4_lot_X4_checkRange : GoodIn wsX4_lot wsX4_checkRange := goodIn_ca (goodIn_r _ [51, 52, 53] (by decide +kernel) (by decide +kernel)) (goodIn_sub (fun _ h => List.mem_cons_of_mem _ (List.mem_append_right _ h)) (by decide +kernel))
set_option maxRecDepth 20000 in
theorem gX4_lot_X4_checkRange : GoodIn wsX4_lot (va_wsS RX4 36 yX4_checkRange wsX4_checkRange) := goodIn_app (goodIn_of _ (by decide +kernel)) ggX4_lot_X4_checkRange
set_option maxRecDepth 20000 in
theorem ggX4_lot_Jx4a65c_size_8abf5 : GoodIn wsX4_lot wsJx4a65c_size_8abf5 := goodIn_r _ [25, 26, 73, 74, 75] (by decide +kernel) (by decide +kernel)
set_option maxRecDepth 20000 in
theorem gX4_lot_Jx4a65c_size_8abf5 : GoodIn wsX4_lot (wsV RX4 44 RJx4a65c yJx4a65c_size_8abf5 wsJx4a65c_size_8abf5) := goodIn_app (goodIn_of _ (by decide +kernel)) ggX4_lot_Jx4a65c_size_8abf5
set_option maxRecDepth 20000 in
theorem ggX4_lot_Jx4a65c_get_915e3 : GoodIn wsX4_lot wsJx4a65c_get_915e3 := goodIn_r _ [35, 26, 36, 37, 38, 39, 40, 41, 42, 43, 44, 45, 46, 24, 47, 48, 73, 74, 75] (by decide +kernel) (by decide +kernel)
set_option maxRecDepth 20000 in
theorem gX4_lot_Jx4a65c_get_915e3 : GoodIn wsX4_lot (wsV RX4 60 RJx4a65c yJx4a65c_get_915e3 wsJx4a65c_get_915e3) := goodIn_app (goodIn_of _ (by decide +kernel)) ggX4_lot_Jx4a65c_get_915e3
theorem dX4_lot_0 : decode cX4_lot 0 = .ok (.aload_n 0, 1) := by decide +kernel
theorem dX4_lot_1 : decode cX4_lot 1 = .ok (.iload_n 1, 1) := by decide +kernel
theorem dX4_lot_2 : decode cX4_lot 2 = .ok (.iload_n 2, 1) := by decide +kernel
theorem dX4_lot_3 : decode cX4_lot 3 = .ok (.invokevirtual 77, 3) := by decide +kernel
theorem dX4_lot_6 : decode cX4_lot 6 = .ok (.astore 5, 2) := by decide +kernel
theorem dX4_lot_8 : decode cX4_lot 8 = .ok (.iload_n 3, 1) := by decide +kernel
theorem dX4_lot_9 : decode cX4_lot 9 = .ok (.ifCond .lt 7, 3) := by decide +kernel
theorem dX4_lot_12 : decode cX4_lot 12 = .ok (.iconst 1, 1) := by decide +kernel
theorem dX4_lot_13 : decode cX4_lot 13 = .ok (.goto 4, 3) := by decide +kernel
theorem dX4_lot_16 : decode cX4_lot 16 = .ok (.iconst 0, 1) := by decide +kernel
theorem dX4_lot_17 : decode cX4_lot 17 = .ok (.invokestatic 192, 3) := by decide +kernel
theorem dX4_lot_20 : decode cX4_lot 20 = .ok (.iload 4, 2) := by decide +kernel
theorem dX4_lot_22 : decode cX4_lot 22 = .ok (.iconst 0, 1) := by decide +kernel
theorem dX4_lot_23 : decode cX4_lot 23 = .ok (.iconst 2, 1) := by decide +kernel
theorem dX4_lot_24 : decode cX4_lot 24 = .ok (.invokestatic 36, 3) := by decide +kernel
theorem dX4_lot_27 : decode cX4_lot 27 = .ok (.iconst 0, 1) := by decide +kernel
theorem dX4_lot_28 : decode cX4_lot 28 = .ok (.istore 6, 2) := by decide +kernel
theorem dX4_lot_30 : decode cX4_lot 30 = .ok (.iconst 0, 1) := by decide +kernel
theorem dX4_lot_31 : decode cX4_lot 31 = .ok (.istore 7, 2) := by decide +kernel
theorem dX4_lot_33 : decode cX4_lot 33 = .ok (.iload 7, 2) := by decide +kernel
theorem dX4_lot_35 : decode cX4_lot 35 = .ok (.aload_n 0, 1) := by decide +kernel
theorem dX4_lot_36 : decode cX4_lot 36 = .ok (.getfield 19, 3) := by decide +kernel
theorem dX4_lot_39 : decode cX4_lot 39 = .ok (.invokevirtual 44, 3) := by decide +kernel
theorem dX4_lot_42 : decode cX4_lot 42 = .ok (.if_icmp .ge 86, 3) := by decide +kernel
theorem dX4_lot_45 : decode cX4_lot 45 = .ok (.aload_n 0, 1) := by decide +kernel
theorem dX4_lot_46 : decode cX4_lot 46 = .ok (.getfield 19, 3) := by decide +kernel
theorem dX4_lot_49 : decode cX4_lot 49 = .ok (.iload 7, 2) := by decide +kernel
theorem dX4_lot_51 : decode cX4_lot 51 = .ok (.invokevirtual 60, 3) := by decide +kernel
theorem dX4_lot_54 : decode cX4_lot 54 = .ok (.checkcast 135, 3) := by decide +kernel
theorem dX4_lot_57 : decode cX4_lot 57 = .ok (.astore 8, 2) := by decide +kernel
theorem dX4_lot_59 : decode cX4_lot 59 = .ok (.aload 8, 2) := by decide +kernel
theorem dX4_lot_61 : decode cX4_lot 61 = .ok (.getfield 144, 3) := by decide +kernel
theorem dX4_lot_64 : decode cX4_lot 64 = .ok (.aload 5, 2) := by decide +kernel
theorem dX4_lot_66 : decode cX4_lot 66 = .ok (.if_acmp .ne 56, 3) := by decide +kernel
theorem dX4_lot_69 : decode cX4_lot 69 = .ok (.aload 8, 2) := by decide +kernel
theorem dX4_lot_71 : decode cX4_lot 71 = .ok (.getfield 195, 3) := by decide +kernel
theorem dX4_lot_74 : decode cX4_lot 74 = .ok (.lconst 0, 1) := by decide +kernel
theorem dX4_lot_75 : decode cX4_lot 75 = .ok (.lcmp, 1) := by decide +kernel
theorem dX4_lot_76 : decode cX4_lot 76 = .ok (.ifCond .le 46, 3) := by decide +kernel
theorem dX4_lot_79 : decode cX4_lot 79 = .ok (.iload 6, 2) := by decide +kernel
theorem dX4_lot_81 : decode cX4_lot 81 = .ok (.iload_n 3, 1) := by decide +kernel
theorem dX4_lot_82 : decode cX4_lot 82 = .ok (.if_icmp .ne 37, 3) := by decide +kernel
theorem dX4_lot_85 : decode cX4_lot 85 = .ok (.iload 4, 2) := by decide +kernel
theorem dX4_lot_87 : decode cX4_lot 87 = .ok (.ifCond .ne 12, 3) := by decide +kernel
theorem dX4_lot_90 : decode cX4_lot 90 = .ok (.aload 8, 2) := by decide +kernel
theorem dX4_lot_92 : decode cX4_lot 92 = .ok (.getfield 198, 3) := by decide +kernel
theorem dX4_lot_95 : decode cX4_lot 95 = .ok (.i2l, 1) := by decide +kernel
theorem dX4_lot_96 : decode cX4_lot 96 = .ok (.goto 22, 3) := by decide +kernel
theorem dX4_lot_99 : decode cX4_lot 99 = .ok (.iload 4, 2) := by decide +kernel
theorem dX4_lot_101 : decode cX4_lot 101 = .ok (.iconst 1, 1) := by decide +kernel
theorem dX4_lot_102 : decode cX4_lot 102 = .ok (.if_icmp .ne 11, 3) := by decide +kernel
theorem dX4_lot_105 : decode cX4_lot 105 = .ok (.aload 8, 2) := by decide +kernel
theorem dX4_lot_107 : decode cX4_lot 107 = .ok (.getfield 195, 3) := by decide +kernel
theorem dX4_lot_110 : decode cX4_lot 110 = .ok (.goto 8, 3) := by decide +kernel
theorem dX4_lot_113 : decode cX4_lot 113 = .ok (.aload 8, 2) := by decide +kernel
theorem dX4_lot_115 : decode cX4_lot 115 = .ok (.getfield 199, 3) := by decide +kernel
theorem dX4_lot_118 : decode cX4_lot 118 = .ok (.lreturn, 1) := by decide +kernel
theorem dX4_lot_119 : decode cX4_lot 119 = .ok (.iinc 6 1, 3) := by decide +kernel
theorem dX4_lot_122 : decode cX4_lot 122 = .ok (.iinc 7 1, 3) := by decide +kernel
theorem dX4_lot_125 : decode cX4_lot 125 = .ok (.goto (-92), 3) := by decide +kernel
theorem dX4_lot_128 : decode cX4_lot 128 = .ok (.ldc2_w 202, 3) := by decide +kernel
theorem dX4_lot_131 : decode cX4_lot 131 = .ok (.lreturn, 1) := by decide +kernel
set_option maxRecDepth 20000 in
theorem ggX4_year_X4_clientAt : GoodIn wsX4_year wsX4_clientAt := goodIn_ca (goodIn_r _ [8, 9, 10, 11, 12, 13, 14, 15, 16, 17, 18, 7, 19, 20, 21, 22, 23, 24, 25, 26, 27, 28, 29, 30, 31, 32, 33, 34, 35, 36, 37, 38, 59, 60, 61, 62, 63, 64, 65, 66] (by decide +kernel) (by decide +kernel)) (goodIn_sub (fun _ h => List.mem_cons_of_mem _ (List.mem_append_left _ (List.mem_append_right _ h))) (by decide +kernel))
set_option maxRecDepth 20000 in
theorem gX4_year_X4_clientAt : GoodIn wsX4_year (wsV RX4 67 RX4 yX4_clientAt wsX4_clientAt) := goodIn_app (goodIn_of _ (by decide +kernel)) ggX4_year_X4_clientAt
set_option maxRecDepth 20000 in
theorem ggX4_year_X4_checkExists : GoodIn wsX4_year wsX4_checkExists := goodIn_ca (goodIn_r _ [19, 20, 21] (by decide +kernel) (by decide +kernel)) (goodIn_sub (fun _ h => List.mem_cons_of_mem _ (List.mem_append_left _ (List.mem_append_right _ h))) (by decide +kernel))
set_option maxRecDepth 20000 in
theorem gX4_year_X4_checkExists : GoodIn wsX4_year (va_wsS RX4 192 yX4_checkExists wsX4_checkExists) := goodIn_app (goodIn_of _ (by decide +kernel)) ggX4_year_X4_checkExists
set_option maxRecDepth 20000 in
theorem ggX4_year_X4_checkRange : GoodIn wsX4_year wsX4_checkRange := goodIn_ca (goodIn_r _ [41, 42, 43] (by decide +kernel) (by decide +kernel)) (goodIn_sub (fun _ h => List.mem_cons_of_mem _ (List.mem_append_right _ h)) (by decide +kernel))
set_option maxRecDepth 20000 in
theorem gX4_year_X4_checkRange : GoodIn wsX4_year (va_wsS RX4 36 yX4_checkRange wsX4_checkRange) := goodIn_app (goodIn_of _ (by decide +kernel)) ggX4_year_X4_checkRange
set_option maxRecDepth 20000 in
theorem ggX4_year_X4_baseOf : GoodIn wsX4_year wsX4_baseOf := goodIn_r _ [46, 1, 47, 48, 49, 50, 51, 52, 53, 54, 55, 56, 57, 58] (by decide +kernel) (by decide +kernel)
set_option maxRecDepth 20000 in
theorem gX4_year_X4_baseOf : GoodIn wsX4_year (va_wsS RX4 211 yX4_baseOf wsX4_baseOf) := goodIn_app (goodIn_of _ (by decide +kernel)) ggX4_year_X4_baseOf
theorem dX4_year_0 : decode cX4_year 0 = .ok (.aload_n 0, 1) := by decide +kernel
theorem dX4_year_1 : decode cX4_year 1 = .ok (.iload_n 1, 1) := by decide +kernel
theorem dX4_year_2 : decode cX4_year 2 = .ok (.invokevirtual 67, 3) := by decide +kernel
theorem dX4_year_5 : decode cX4_year 5 = .ok (.astore 4, 2) := by decide +kernel
theorem dX4_year_7 : decode cX4_year 7 = .ok (.iload_n 2, 1) := by decide +kernel
theorem dX4_year_8 : decode cX4_year 8 = .ok (.ifCond .lt 27, 3) := by decide +kernel
theorem dX4_year_11 : decode cX4_year 11 = .ok (.iload_n 2, 1) := by decide +kernel
theorem dX4_year_12 : decode cX4_year 12 = .ok (.aload 4, 2) := by decide +kernel
theorem dX4_year_14 : decode cX4_year 14 = .ok (.getfield 204, 3) := by decide +kernel
theorem dX4_year_17 : decode cX4_year 17 = .ok (.arraylength, 1) := by decide +kernel
theorem dX4_year_18 : decode cX4_year 18 = .ok (.if_icmp .ge 17, 3) := by decide +kernel
theorem dX4_year_21 : decode cX4_year 21 = .ok (.iload_n 2, 1) := by decide +kernel
theorem dX4_year_22 : decode cX4_year 22 = .ok (.aload 4, 2) := by decide +kernel
theorem dX4_year_24 : decode cX4_year 24 = .ok (.getfield 208, 3) := by decide +kernel
theorem dX4_year_27 : decode cX4_year 27 = .ok (.arraylength, 1) := by decide +kernel
theorem dX4_year_28 : decode cX4_year 28 = .ok (.if_icmp .ge 7, 3) := by decide +kernel
theorem dX4_year_31 : decode cX4_year 31 = .ok (.iconst 1, 1) := by decide +kernel
theorem dX4_year_32 : decode cX4_year 32 = .ok (.goto 4, 3) := by decide +kernel
theorem dX4_year_35 : decode cX4_year 35 = .ok (.iconst 0, 1) := by decide +kernel
theorem dX4_year_36 : decode cX4_year 36 = .ok (.invokestatic 192, 3) := by decide +kernel
theorem dX4_year_39 : decode cX4_year 39 = .ok (.iload_n 3, 1) := by decide +kernel
theorem dX4_year_40 : decode cX4_year 40 = .ok (.iconst 0, 1) := by decide +kernel
theorem dX4_year_41 : decode cX4_year 41 = .ok (.iconst 3, 1) := by decide +kernel
theorem dX4_year_42 : decode cX4_year 42 = .ok (.invokestatic 36, 3) := by decide +kernel
theorem dX4_year_45 : decode cX4_year 45 = .ok (.iload_n 3, 1) := by decide +kernel
theorem dX4_year_46 : decode cX4_year 46 = .ok (.tableswitch 52 0 2 #[26, 34, 41], 26) := by decide +kernel
theorem dX4_year_72 : decode cX4_year 72 = .ok (.aload 4, 2) := by decide +kernel
theorem dX4_year_74 : decode cX4_year 74 = .ok (.getfield 204, 3) := by decide +kernel
theorem dX4_year_77 : decode cX4_year 77 = .ok (.iload_n 2, 1) := by decide +kernel
theorem dX4_year_78 : decode cX4_year 78 = .ok (.laload, 1) := by decide +kernel
theorem dX4_year_79 : decode cX4_year 79 = .ok (.lreturn, 1) := by decide +kernel
theorem dX4_year_80 : decode cX4_year 80 = .ok (.aload 4, 2) := by decide +kernel
theorem dX4_year_82 : decode cX4_year 82 = .ok (.iload_n 2, 1) := by decide +kernel
theorem dX4_year_83 : decode cX4_year 83 = .ok (.invokestatic 211, 3) := by decide +kernel
theorem dX4_year_86 : decode cX4_year 86 = .ok (.lreturn, 1) := by decide +kernel
theorem dX4_year_87 : decode cX4_year 87 = .ok (.aload 4, 2) := by decide +kernel
theorem dX4_year_89 : decode cX4_year 89 = .ok (.iload_n 2, 1) := by decide +kernel
theorem dX4_year_90 : decode cX4_year 90 = .ok (.invokestatic 211, 3) := by decide +kernel
theorem dX4_year_93 : decode cX4_year 93 = .ok (.ldc2_w 215, 3) := by decide +kernel
theorem dX4_year_96 : decode cX4_year 96 = .ok (.ldiv, 1) := by decide +kernel
theorem dX4_year_97 : decode cX4_year 97 = .ok (.lreturn, 1) := by decide +kernel
theorem dX4_year_98 : decode cX4_year 98 = .ok (.aload 4, 2) := by decide +kernel
theorem dX4_year_100 : decode cX4_year 100 = .ok (.getfield 208, 3) := by decide +kernel
theorem dX4_year_103 : decode cX4_year 103 = .ok (.iload_n 2, 1) := by decide +kernel
theorem dX4_year_104 : decode cX4_year 104 = .ok (.laload, 1) := by decide +kernel
theorem dX4_year_105 : decode cX4_year 105 = .ok (.lreturn, 1) := by decide +kernel
set_option maxRecDepth 20000 in
theorem ggX4_wealth_X4_clientAt : GoodIn wsX4_wealth wsX4_clientAt := goodIn_ca (goodIn_r _ [5, 6, 7, 8, 9, 10, 11, 12, 13, 14, 15, 4, 16, 17, 18, 19, 20, 21, 22, 23, 24, 25, 26, 27, 28, 29, 30, 31, 32, 33, 34, 35, 52, 53, 54, 55, 56, 57, 58, 59] (by decide +kernel) (by decide +kernel)) (goodIn_sub (fun _ h => List.mem_cons_of_mem _ (List.mem_append_right _ h)) (by decide +kernel))
set_option maxRecDepth 20000 in
theorem gX4_wealth_X4_clientAt : GoodIn wsX4_wealth (wsV RX4 67 RX4 yX4_clientAt wsX4_clientAt) := goodIn_app (goodIn_of _ (by decide +kernel)) ggX4_wealth_X4_clientAt
set_option maxRecDepth 20000 in
theorem ggX4_wealth_X4_wealthOf : GoodIn wsX4_wealth wsX4_wealthOf := goodIn_r _ [38, 39, 40, 41, 8, 9, 10, 11, 12, 13, 19, 20, 21, 22, 23, 24, 25, 26, 27, 28, 29, 30, 31, 32, 33, 34, 35, 42, 43, 4, 44, 45, 46, 47, 48, 49, 50, 51, 60, 61, 62, 63, 64, 57, 58, 59, 65, 66, 67, 68, 69, 70, 71, 72] (by decide +kernel) (by decide +kernel)
set_option maxRecDepth 20000 in
theorem gX4_wealth_X4_wealthOf : GoodIn wsX4_wealth (va_wsS RX4 117 yX4_wealthOf wsX4_wealthOf) := goodIn_app (goodIn_of _ (by decide +kernel)) ggX4_wealth_X4_wealthOf
theorem dX4_wealth_0 : decode cX4_wealth 0 = .ok (.aload_n 0, 1) := by decide +kernel
theorem dX4_wealth_1 : decode cX4_wealth 1 = .ok (.iload_n 1, 1) := by decide +kernel
theorem dX4_wealth_2 : decode cX4_wealth 2 = .ok (.invokevirtual 67, 3) := by decide +kernel
theorem dX4_wealth_5 : decode cX4_wealth 5 = .ok (.invokestatic 117, 3) := by decide +kernel
theorem dX4_wealth_8 : decode cX4_wealth 8 = .ok (.lreturn, 1) := by decide +kernel
theorem dX4_checkExists_0 : decode cX4_checkExists 0 = .ok (.iload_n 0, 1) := by decide +kernel
theorem dX4_checkExists_1 : decode cX4_checkExists 1 = .ok (.ifCond .ne 13, 3) := by decide +kernel
theorem dX4_checkExists_4 : decode cX4_checkExists 4 = .ok (.new 217, 3) := by decide +kernel
theorem dX4_checkExists_7 : decode cX4_checkExists 7 = .ok (.dup, 1) := by decide +kernel
theorem dX4_checkExists_8 : decode cX4_checkExists 8 = .ok (.ldc 219, 2) := by decide +kernel
theorem dX4_checkExists_10 : decode cX4_checkExists 10 = .ok (.invokespecial 221, 3) := by decide +kernel
theorem dX4_checkExists_13 : decode cX4_checkExists 13 = .ok (.athrow, 1) := by decide +kernel
theorem dX4_checkExists_14 : decode cX4_checkExists 14 = .ok (.return_, 1) := by decide +kernel
theorem dX4_checkRange_0 : decode cX4_checkRange 0 = .ok (.iload_n 0, 1) := by decide +kernel
theorem dX4_checkRange_1 : decode cX4_checkRange 1 = .ok (.iload_n 1, 1) := by decide +kernel
theorem dX4_checkRange_2 : decode cX4_checkRange 2 = .ok (.if_icmp .lt 8, 3) := by decide +kernel
theorem dX4_checkRange_5 : decode cX4_checkRange 5 = .ok (.iload_n 0, 1) := by decide +kernel
theorem dX4_checkRange_6 : decode cX4_checkRange 6 = .ok (.iload_n 2, 1) := by decide +kernel
theorem dX4_checkRange_7 : decode cX4_checkRange 7 = .ok (.if_icmp .le 13, 3) := by decide +kernel
theorem dX4_checkRange_10 : decode cX4_checkRange 10 = .ok (.new 224, 3) := by decide +kernel
theorem dX4_checkRange_13 : decode cX4_checkRange 13 = .ok (.dup, 1) := by decide +kernel
theorem dX4_checkRange_14 : decode cX4_checkRange 14 = .ok (.ldc 226, 2) := by decide +kernel
theorem dX4_checkRange_16 : decode cX4_checkRange 16 = .ok (.invokespecial 228, 3) := by decide +kernel
theorem dX4_checkRange_19 : decode cX4_checkRange 19 = .ok (.athrow, 1) := by decide +kernel
theorem dX4_checkRange_20 : decode cX4_checkRange 20 = .ok (.return_, 1) := by decide +kernel
theorem dX4_checkPossible_0 : decode cX4_checkPossible 0 = .ok (.iload_n 0, 1) := by decide +kernel
theorem dX4_checkPossible_1 : decode cX4_checkPossible 1 = .ok (.ifCond .ne 13, 3) := by decide +kernel
theorem dX4_checkPossible_4 : decode cX4_checkPossible 4 = .ok (.new 229, 3) := by decide +kernel
theorem dX4_checkPossible_7 : decode cX4_checkPossible 7 = .ok (.dup, 1) := by decide +kernel
theorem dX4_checkPossible_8 : decode cX4_checkPossible 8 = .ok (.ldc 231, 2) := by decide +kernel
theorem dX4_checkPossible_10 : decode cX4_checkPossible 10 = .ok (.invokespecial 233, 3) := by decide +kernel
theorem dX4_checkPossible_13 : decode cX4_checkPossible 13 = .ok (.athrow, 1) := by decide +kernel
theorem dX4_checkPossible_14 : decode cX4_checkPossible 14 = .ok (.return_, 1) := by decide +kernel
set_option maxRecDepth 20000 in
theorem ggX4_fundAt_Jx4a65c_size_8abf5 : GoodIn wsX4_fundAt wsJx4a65c_size_8abf5 := goodIn_r _ [7, 8, 37, 38, 39] (by decide +kernel) (by decide +kernel)
set_option maxRecDepth 20000 in
theorem gX4_fundAt_Jx4a65c_size_8abf5 : GoodIn wsX4_fundAt (wsV RX4 44 RJx4a65c yJx4a65c_size_8abf5 wsJx4a65c_size_8abf5) := goodIn_app (goodIn_of _ (by decide +kernel)) ggX4_fundAt_Jx4a65c_size_8abf5
set_option maxRecDepth 20000 in
theorem ggX4_fundAt_X4_checkExists : GoodIn wsX4_fundAt wsX4_checkExists := goodIn_ca (goodIn_r _ [12, 13, 14] (by decide +kernel) (by decide +kernel)) (goodIn_sub (fun _ h => List.mem_cons_of_mem _ (List.mem_append_right _ h)) (by decide +kernel))
set_option maxRecDepth 20000 in
theorem gX4_fundAt_X4_checkExists : GoodIn wsX4_fundAt (va_wsS RX4 192 yX4_checkExists wsX4_checkExists) := goodIn_app (goodIn_of _ (by decide +kernel)) ggX4_fundAt_X4_checkExists
set_option maxRecDepth 20000 in
theorem ggX4_fundAt_Jx4a65c_get_915e3 : GoodIn wsX4_fundAt wsJx4a65c_get_915e3 := goodIn_r _ [18, 8, 19, 20, 21, 22, 23, 24, 25, 26, 27, 28, 29, 6, 30, 31, 37, 38, 39] (by decide +kernel) (by decide +kernel)
set_option maxRecDepth 20000 in
theorem gX4_fundAt_Jx4a65c_get_915e3 : GoodIn wsX4_fundAt (wsV RX4 60 RJx4a65c yJx4a65c_get_915e3 wsJx4a65c_get_915e3) := goodIn_app (goodIn_of _ (by decide +kernel)) ggX4_fundAt_Jx4a65c_get_915e3
theorem dX4_fundAt_0 : decode cX4_fundAt 0 = .ok (.iload_n 1, 1) := by decide +kernel
theorem dX4_fundAt_1 : decode cX4_fundAt 1 = .ok (.ifCond .lt 18, 3) := by decide +kernel
theorem dX4_fundAt_4 : decode cX4_fundAt 4 = .ok (.iload_n 1, 1) := by decide +kernel
theorem dX4_fundAt_5 : decode cX4_fundAt 5 = .ok (.aload_n 0, 1) := by decide +kernel
theorem dX4_fundAt_6 : decode cX4_fundAt 6 = .ok (.getfield 10, 3) := by decide +kernel
theorem dX4_fundAt_9 : decode cX4_fundAt 9 = .ok (.invokevirtual 44, 3) := by decide +kernel
theorem dX4_fundAt_12 : decode cX4_fundAt 12 = .ok (.if_icmp .ge 7, 3) := by decide +kernel
theorem dX4_fundAt_15 : decode cX4_fundAt 15 = .ok (.iconst 1, 1) := by decide +kernel
theorem dX4_fundAt_16 : decode cX4_fundAt 16 = .ok (.goto 4, 3) := by decide +kernel
theorem dX4_fundAt_19 : decode cX4_fundAt 19 = .ok (.iconst 0, 1) := by decide +kernel
theorem dX4_fundAt_20 : decode cX4_fundAt 20 = .ok (.invokestatic 192, 3) := by decide +kernel
theorem dX4_fundAt_23 : decode cX4_fundAt 23 = .ok (.aload_n 0, 1) := by decide +kernel
theorem dX4_fundAt_24 : decode cX4_fundAt 24 = .ok (.getfield 10, 3) := by decide +kernel
theorem dX4_fundAt_27 : decode cX4_fundAt 27 = .ok (.iload_n 1, 1) := by decide +kernel
theorem dX4_fundAt_28 : decode cX4_fundAt 28 = .ok (.invokevirtual 60, 3) := by decide +kernel
theorem dX4_fundAt_31 : decode cX4_fundAt 31 = .ok (.checkcast 22, 3) := by decide +kernel
theorem dX4_fundAt_34 : decode cX4_fundAt 34 = .ok (.areturn, 1) := by decide +kernel
set_option maxRecDepth 20000 in
theorem ggX4_clientAt_Jx4a65c_size_8abf5 : GoodIn wsX4_clientAt wsJx4a65c_size_8abf5 := goodIn_r _ [7, 8, 37, 38, 39] (by decide +kernel) (by decide +kernel)
set_option maxRecDepth 20000 in
theorem gX4_clientAt_Jx4a65c_size_8abf5 : GoodIn wsX4_clientAt (wsV RX4 44 RJx4a65c yJx4a65c_size_8abf5 wsJx4a65c_size_8abf5) := goodIn_app (goodIn_of _ (by decide +kernel)) ggX4_clientAt_Jx4a65c_size_8abf5
set_option maxRecDepth 20000 in
theorem ggX4_clientAt_X4_checkExists : GoodIn wsX4_clientAt wsX4_checkExists := goodIn_ca (goodIn_r _ [12, 13, 14] (by decide +kernel) (by decide +kernel)) (goodIn_sub (fun _ h => List.mem_cons_of_mem _ (List.mem_append_right _ h)) (by decide +kernel))
set_option maxRecDepth 20000 in
theorem gX4_clientAt_X4_checkExists : GoodIn wsX4_clientAt (va_wsS RX4 192 yX4_checkExists wsX4_checkExists) := goodIn_app (goodIn_of _ (by decide +kernel)) ggX4_clientAt_X4_checkExists
set_option maxRecDepth 20000 in
theorem ggX4_clientAt_Jx4a65c_get_915e3 : GoodIn wsX4_clientAt wsJx4a65c_get_915e3 := goodIn_r _ [18, 8, 19, 20, 21, 22, 23, 24, 25, 26, 27, 28, 29, 6, 30, 31, 37, 38, 39] (by decide +kernel) (by decide +kernel)
set_option maxRecDepth 20000 in
theorem gX4_clientAt_Jx4a65c_get_915e3 : GoodIn wsX4_clientAt (wsV RX4 60 RJx4a65c yJx4a65c_get_915e3 wsJx4a65c_get_915e3) := goodIn_app (goodIn_of _ (by decide +kernel)) ggX4_clientAt_Jx4a65c_get_915e3
theorem dX4_clientAt_0 : decode cX4_clientAt 0 = .ok (.iload_n 1, 1) := by decide +kernel
theorem dX4_clientAt_1 : decode cX4_clientAt 1 = .ok (.ifCond .lt 18, 3) := by decide +kernel
theorem dX4_clientAt_4 : decode cX4_clientAt 4 = .ok (.iload_n 1, 1) := by decide +kernel
theorem dX4_clientAt_5 : decode cX4_clientAt 5 = .ok (.aload_n 0, 1) := by decide +kernel
theorem dX4_clientAt_6 : decode cX4_clientAt 6 = .ok (.getfield 16, 3) := by decide +kernel
theorem dX4_clientAt_9 : decode cX4_clientAt 9 = .ok (.invokevirtual 44, 3) := by decide +kernel
theorem dX4_clientAt_12 : decode cX4_clientAt 12 = .ok (.if_icmp .ge 7, 3) := by decide +kernel
theorem dX4_clientAt_15 : decode cX4_clientAt 15 = .ok (.iconst 1, 1) := by decide +kernel
theorem dX4_clientAt_16 : decode cX4_clientAt 16 = .ok (.goto 4, 3) := by decide +kernel
theorem dX4_clientAt_19 : decode cX4_clientAt 19 = .ok (.iconst 0, 1) := by decide +kernel
theorem dX4_clientAt_20 : decode cX4_clientAt 20 = .ok (.invokestatic 192, 3) := by decide +kernel
theorem dX4_clientAt_23 : decode cX4_clientAt 23 = .ok (.aload_n 0, 1) := by decide +kernel
theorem dX4_clientAt_24 : decode cX4_clientAt 24 = .ok (.getfield 16, 3) := by decide +kernel
theorem dX4_clientAt_27 : decode cX4_clientAt 27 = .ok (.iload_n 1, 1) := by decide +kernel
theorem dX4_clientAt_28 : decode cX4_clientAt 28 = .ok (.invokevirtual 60, 3) := by decide +kernel
theorem dX4_clientAt_31 : decode cX4_clientAt 31 = .ok (.checkcast 52, 3) := by decide +kernel
theorem dX4_clientAt_34 : decode cX4_clientAt 34 = .ok (.areturn, 1) := by decide +kernel
set_option maxRecDepth 20000 in
theorem ggX4_holdingAt_X4_clientAt : GoodIn wsX4_holdingAt wsX4_clientAt := goodIn_ca (goodIn_r _ [7, 8, 9, 10, 11, 12, 13, 14, 15, 16, 17, 6, 18, 19, 20, 21, 22, 23, 24, 25, 26, 27, 28, 29, 30, 31, 32, 33, 34, 35, 36, 37, 43, 44, 45, 46, 47, 48, 49, 50] (by decide +kernel) (by decide +kernel)) (goodIn_sub (fun _ h => List.mem_cons_of_mem _ (List.mem_append_right _ h)) (by decide +kernel))
set_option maxRecDepth 20000 in
theorem gX4_holdingAt_X4_clientAt : GoodIn wsX4_holdingAt (wsV RX4 67 RX4 yX4_clientAt wsX4_clientAt) := goodIn_app (goodIn_of _ (by decide +kernel)) ggX4_holdingAt_X4_clientAt
set_option maxRecDepth 20000 in
theorem ggX4_holdingAt_Jx4a65c_size_8abf5 : GoodIn wsX4_holdingAt wsJx4a65c_size_8abf5 := goodIn_r _ [14, 15, 48, 49, 50] (by decide +kernel) (by decide +kernel)
set_option maxRecDepth 20000 in
theorem gX4_holdingAt_Jx4a65c_size_8abf5 : GoodIn wsX4_holdingAt (wsV RX4 44 RJx4a65c yJx4a65c_size_8abf5 wsJx4a65c_size_8abf5) := goodIn_app (goodIn_of _ (by decide +kernel)) ggX4_holdingAt_Jx4a65c_size_8abf5
set_option maxRecDepth 20000 in
theorem ggX4_holdingAt_X4_checkExists : GoodIn wsX4_holdingAt wsX4_checkExists := goodIn_ca (goodIn_r _ [18, 19, 20] (by decide +kernel) (by decide +kernel)) (goodIn_sub (fun _ h => List.mem_cons_of_mem _ (List.mem_append_right _ h)) (by decide +kernel))
set_option maxRecDepth 20000 in
theorem gX4_holdingAt_X4_checkExists : GoodIn wsX4_holdingAt (va_wsS RX4 192 yX4_checkExists wsX4_checkExists) := goodIn_app (goodIn_of _ (by decide +kernel)) ggX4_holdingAt_X4_checkExists
set_option maxRecDepth 20000 in
theorem ggX4_holdingAt_Jx4a65c_get_915e3 : GoodIn wsX4_holdingAt wsJx4a65c_get_915e3 := goodIn_r _ [24, 15, 25, 26, 27, 28, 29, 30, 31, 32, 33, 34, 35, 13, 36, 37, 48, 49, 50] (by decide +kernel) (by decide +kernel)
set_option maxRecDepth 20000 in
theorem gX4_holdingAt_Jx4a65c_get_915e3 : GoodIn wsX4_holdingAt (wsV RX4 60 RJx4a65c yJx4a65c_get_915e3 wsJx4a65c_get_915e3) := goodIn_app (goodIn_of _ (by decide +kernel)) ggX4_holdingAt_Jx4a65c_get_915e3
theorem dX4_holdingAt_0 : decode cX4_holdingAt 0 = .ok (.aload_n 0, 1) := by decide +kernel
theorem dX4_holdingAt_1 : decode cX4_holdingAt 1 = .ok (.iload_n 1, 1) := by decide +kernel
theorem dX4_holdingAt_2 : decode cX4_holdingAt 2 = .ok (.invokevirtual 67, 3) := by decide +kernel
theorem dX4_holdingAt_5 : decode cX4_holdingAt 5 = .ok (.astore_n 3, 1) := by decide +kernel
theorem dX4_holdingAt_6 : decode cX4_holdingAt 6 = .ok (.iload_n 2, 1) := by decide +kernel
theorem dX4_holdingAt_7 : decode cX4_holdingAt 7 = .ok (.ifCond .lt 18, 3) := by decide +kernel
theorem dX4_holdingAt_10 : decode cX4_holdingAt 10 = .ok (.iload_n 2, 1) := by decide +kernel
theorem dX4_holdingAt_11 : decode cX4_holdingAt 11 = .ok (.aload_n 3, 1) := by decide +kernel
theorem dX4_holdingAt_12 : decode cX4_holdingAt 12 = .ok (.getfield 55, 3) := by decide +kernel
theorem dX4_holdingAt_15 : decode cX4_holdingAt 15 = .ok (.invokevirtual 44, 3) := by decide +kernel
theorem dX4_holdingAt_18 : decode cX4_holdingAt 18 = .ok (.if_icmp .ge 7, 3) := by decide +kernel
theorem dX4_holdingAt_21 : decode cX4_holdingAt 21 = .ok (.iconst 1, 1) := by decide +kernel
theorem dX4_holdingAt_22 : decode cX4_holdingAt 22 = .ok (.goto 4, 3) := by decide +kernel
theorem dX4_holdingAt_25 : decode cX4_holdingAt 25 = .ok (.iconst 0, 1) := by decide +kernel
theorem dX4_holdingAt_26 : decode cX4_holdingAt 26 = .ok (.invokestatic 192, 3) := by decide +kernel
theorem dX4_holdingAt_29 : decode cX4_holdingAt 29 = .ok (.aload_n 3, 1) := by decide +kernel
theorem dX4_holdingAt_30 : decode cX4_holdingAt 30 = .ok (.getfield 55, 3) := by decide +kernel
theorem dX4_holdingAt_33 : decode cX4_holdingAt 33 = .ok (.iload_n 2, 1) := by decide +kernel
theorem dX4_holdingAt_34 : decode cX4_holdingAt 34 = .ok (.invokevirtual 60, 3) := by decide +kernel
theorem dX4_holdingAt_37 : decode cX4_holdingAt 37 = .ok (.checkcast 58, 3) := by decide +kernel
theorem dX4_holdingAt_40 : decode cX4_holdingAt 40 = .ok (.areturn, 1) := by decide +kernel
set_option maxRecDepth 20000 in
theorem ggX4_tradeAt_Jx4a65c_size_8abf5 : GoodIn wsX4_tradeAt wsJx4a65c_size_8abf5 := goodIn_r _ [7, 8, 37, 38, 39] (by decide +kernel) (by decide +kernel)
set_option maxRecDepth 20000 in
theorem gX4_tradeAt_Jx4a65c_size_8abf5 : GoodIn wsX4_tradeAt (wsV RX4 44 RJx4a65c yJx4a65c_size_8abf5 wsJx4a65c_size_8abf5) := goodIn_app (goodIn_of _ (by decide +kernel)) ggX4_tradeAt_Jx4a65c_size_8abf5
set_option maxRecDepth 20000 in
theorem ggX4_tradeAt_X4_checkExists : GoodIn wsX4_tradeAt wsX4_checkExists := goodIn_ca (goodIn_r _ [12, 13, 14] (by decide +kernel) (by decide +kernel)) (goodIn_sub (fun _ h => List.mem_cons_of_mem _ (List.mem_append_right _ h)) (by decide +kernel))
set_option maxRecDepth 20000 in
theorem gX4_tradeAt_X4_checkExists : GoodIn wsX4_tradeAt (va_wsS RX4 192 yX4_checkExists wsX4_checkExists) := goodIn_app (goodIn_of _ (by decide +kernel)) ggX4_tradeAt_X4_checkExists
set_option maxRecDepth 20000 in
theorem ggX4_tradeAt_Jx4a65c_get_915e3 : GoodIn wsX4_tradeAt wsJx4a65c_get_915e3 := goodIn_r _ [18, 8, 19, 20, 21, 22, 23, 24, 25, 26, 27, 28, 29, 6, 30, 31, 37, 38, 39] (by decide +kernel) (by decide +kernel)
set_option maxRecDepth 20000 in
theorem gX4_tradeAt_Jx4a65c_get_915e3 : GoodIn wsX4_tradeAt (wsV RX4 60 RJx4a65c yJx4a65c_get_915e3 wsJx4a65c_get_915e3) := goodIn_app (goodIn_of _ (by decide +kernel)) ggX4_tradeAt_Jx4a65c_get_915e3
theorem dX4_tradeAt_0 : decode cX4_tradeAt 0 = .ok (.iload_n 1, 1) := by decide +kernel
theorem dX4_tradeAt_1 : decode cX4_tradeAt 1 = .ok (.ifCond .lt 18, 3) := by decide +kernel
theorem dX4_tradeAt_4 : decode cX4_tradeAt 4 = .ok (.iload_n 1, 1) := by decide +kernel
theorem dX4_tradeAt_5 : decode cX4_tradeAt 5 = .ok (.aload_n 0, 1) := by decide +kernel
theorem dX4_tradeAt_6 : decode cX4_tradeAt 6 = .ok (.getfield 19, 3) := by decide +kernel
theorem dX4_tradeAt_9 : decode cX4_tradeAt 9 = .ok (.invokevirtual 44, 3) := by decide +kernel
theorem dX4_tradeAt_12 : decode cX4_tradeAt 12 = .ok (.if_icmp .ge 7, 3) := by decide +kernel
theorem dX4_tradeAt_15 : decode cX4_tradeAt 15 = .ok (.iconst 1, 1) := by decide +kernel
theorem dX4_tradeAt_16 : decode cX4_tradeAt 16 = .ok (.goto 4, 3) := by decide +kernel
theorem dX4_tradeAt_19 : decode cX4_tradeAt 19 = .ok (.iconst 0, 1) := by decide +kernel
theorem dX4_tradeAt_20 : decode cX4_tradeAt 20 = .ok (.invokestatic 192, 3) := by decide +kernel
theorem dX4_tradeAt_23 : decode cX4_tradeAt 23 = .ok (.aload_n 0, 1) := by decide +kernel
theorem dX4_tradeAt_24 : decode cX4_tradeAt 24 = .ok (.getfield 19, 3) := by decide +kernel
theorem dX4_tradeAt_27 : decode cX4_tradeAt 27 = .ok (.iload_n 1, 1) := by decide +kernel
theorem dX4_tradeAt_28 : decode cX4_tradeAt 28 = .ok (.invokevirtual 60, 3) := by decide +kernel
theorem dX4_tradeAt_31 : decode cX4_tradeAt 31 = .ok (.checkcast 135, 3) := by decide +kernel
theorem dX4_tradeAt_34 : decode cX4_tradeAt 34 = .ok (.areturn, 1) := by decide +kernel
set_option maxRecDepth 20000 in
theorem ggX4_hundredthsTogether_Jx4a65c_size_8abf5 : GoodIn wsX4_hundredthsTogether wsJx4a65c_size_8abf5 := goodIn_r _ [8, 9, 36, 37, 38] (by decide +kernel) (by decide +kernel)
set_option maxRecDepth 20000 in
theorem gX4_hundredthsTogether_Jx4a65c_size_8abf5 : GoodIn wsX4_hundredthsTogether (wsV RX4 44 RJx4a65c yJx4a65c_size_8abf5 wsJx4a65c_size_8abf5) := goodIn_app (goodIn_of _ (by decide +kernel)) ggX4_hundredthsTogether_Jx4a65c_size_8abf5
set_option maxRecDepth 20000 in
theorem ggX4_hundredthsTogether_Jx4a65c_get_915e3 : GoodIn wsX4_hundredthsTogether wsJx4a65c_get_915e3 := goodIn_r _ [13, 9, 14, 15, 16, 17, 18, 19, 20, 21, 22, 23, 24, 7, 25, 26, 36, 37, 38] (by decide +kernel) (by decide +kernel)
set_option maxRecDepth 20000 in
theorem gX4_hundredthsTogether_Jx4a65c_get_915e3 : GoodIn wsX4_hundredthsTogether (wsV RX4 60 RJx4a65c yJx4a65c_get_915e3 wsJx4a65c_get_915e3) := goodIn_app (goodIn_of _ (by decide +kernel)) ggX4_hundredthsTogether_Jx4a65c_get_915e3
theorem dX4_hundredthsTogether_0 : decode cX4_hundredthsTogether 0 = .ok (.iconst 0, 1) := by decide +kernel
theorem dX4_hundredthsTogether_1 : decode cX4_hundredthsTogether 1 = .ok (.istore_n 1, 1) := by decide +kernel
theorem dX4_hundredthsTogether_2 : decode cX4_hundredthsTogether 2 = .ok (.iconst 0, 1) := by decide +kernel
theorem dX4_hundredthsTogether_3 : decode cX4_hundredthsTogether 3 = .ok (.istore_n 2, 1) := by decide +kernel
theorem dX4_hundredthsTogether_4 : decode cX4_hundredthsTogether 4 = .ok (.iload_n 2, 1) := by decide +kernel
theorem dX4_hundredthsTogether_5 : decode cX4_hundredthsTogether 5 = .ok (.aload_n 0, 1) := by decide +kernel
theorem dX4_hundredthsTogether_6 : decode cX4_hundredthsTogether 6 = .ok (.getfield 55, 3) := by decide +kernel
theorem dX4_hundredthsTogether_9 : decode cX4_hundredthsTogether 9 = .ok (.invokevirtual 44, 3) := by decide +kernel
theorem dX4_hundredthsTogether_12 : decode cX4_hundredthsTogether 12 = .ok (.if_icmp .ge 26, 3) := by decide +kernel
theorem dX4_hundredthsTogether_15 : decode cX4_hundredthsTogether 15 = .ok (.iload_n 1, 1) := by decide +kernel
theorem dX4_hundredthsTogether_16 : decode cX4_hundredthsTogether 16 = .ok (.aload_n 0, 1) := by decide +kernel
theorem dX4_hundredthsTogether_17 : decode cX4_hundredthsTogether 17 = .ok (.getfield 55, 3) := by decide +kernel
theorem dX4_hundredthsTogether_20 : decode cX4_hundredthsTogether 20 = .ok (.iload_n 2, 1) := by decide +kernel
theorem dX4_hundredthsTogether_21 : decode cX4_hundredthsTogether 21 = .ok (.invokevirtual 60, 3) := by decide +kernel
theorem dX4_hundredthsTogether_24 : decode cX4_hundredthsTogether 24 = .ok (.checkcast 58, 3) := by decide +kernel
theorem dX4_hundredthsTogether_27 : decode cX4_hundredthsTogether 27 = .ok (.getfield 89, 3) := by decide +kernel
theorem dX4_hundredthsTogether_30 : decode cX4_hundredthsTogether 30 = .ok (.iadd, 1) := by decide +kernel
theorem dX4_hundredthsTogether_31 : decode cX4_hundredthsTogether 31 = .ok (.istore_n 1, 1) := by decide +kernel
theorem dX4_hundredthsTogether_32 : decode cX4_hundredthsTogether 32 = .ok (.iinc 2 1, 3) := by decide +kernel
theorem dX4_hundredthsTogether_35 : decode cX4_hundredthsTogether 35 = .ok (.goto (-31), 3) := by decide +kernel
theorem dX4_hundredthsTogether_38 : decode cX4_hundredthsTogether 38 = .ok (.iload_n 1, 1) := by decide +kernel
theorem dX4_hundredthsTogether_39 : decode cX4_hundredthsTogether 39 = .ok (.ireturn, 1) := by decide +kernel
theorem dX4_cutQuotient_0 : decode cX4_cutQuotient 0 = .ok (.lload_n 2, 1) := by decide +kernel
theorem dX4_cutQuotient_1 : decode cX4_cutQuotient 1 = .ok (.lconst 0, 1) := by decide +kernel
theorem dX4_cutQuotient_2 : decode cX4_cutQuotient 2 = .ok (.lcmp, 1) := by decide +kernel
theorem dX4_cutQuotient_3 : decode cX4_cutQuotient 3 = .ok (.ifCond .ne 7, 3) := by decide +kernel
theorem dX4_cutQuotient_6 : decode cX4_cutQuotient 6 = .ok (.lconst 0, 1) := by decide +kernel
theorem dX4_cutQuotient_7 : decode cX4_cutQuotient 7 = .ok (.goto 6, 3) := by decide +kernel
theorem dX4_cutQuotient_10 : decode cX4_cutQuotient 10 = .ok (.lload_n 0, 1) := by decide +kernel
theorem dX4_cutQuotient_11 : decode cX4_cutQuotient 11 = .ok (.lload_n 2, 1) := by decide +kernel
theorem dX4_cutQuotient_12 : decode cX4_cutQuotient 12 = .ok (.ldiv, 1) := by decide +kernel
theorem dX4_cutQuotient_13 : decode cX4_cutQuotient 13 = .ok (.lreturn, 1) := by decide +kernel
set_option maxRecDepth 20000 in
theorem ggX4_partsFor_X4_cutQuotient : GoodIn wsX4_partsFor wsX4_cutQuotient := goodIn_r _ [6] (by decide +kernel) (by decide +kernel)
set_option maxRecDepth 20000 in
theorem gX4_partsFor_X4_cutQuotient : GoodIn wsX4_partsFor (va_wsS RX4 236 yX4_cutQuotient wsX4_cutQuotient) := goodIn_app (goodIn_of _ (by decide +kernel)) ggX4_partsFor_X4_cutQuotient
theorem dX4_partsFor_0 : decode cX4_partsFor 0 = .ok (.lload_n 0, 1) := by decide +kernel
theorem dX4_partsFor_1 : decode cX4_partsFor 1 = .ok (.ldc2_w 234, 3) := by decide +kernel
theorem dX4_partsFor_4 : decode cX4_partsFor 4 = .ok (.lmul, 1) := by decide +kernel
theorem dX4_partsFor_5 : decode cX4_partsFor 5 = .ok (.aload_n 2, 1) := by decide +kernel
theorem dX4_partsFor_6 : decode cX4_partsFor 6 = .ok (.getfield 40, 3) := by decide +kernel
theorem dX4_partsFor_9 : decode cX4_partsFor 9 = .ok (.i2l, 1) := by decide +kernel
theorem dX4_partsFor_10 : decode cX4_partsFor 10 = .ok (.invokestatic 236, 3) := by decide +kernel
theorem dX4_partsFor_13 : decode cX4_partsFor 13 = .ok (.lreturn, 1) := by decide +kernel
theorem dX4_amountFor_0 : decode cX4_amountFor 0 = .ok (.lload_n 0, 1) := by decide +kernel
theorem dX4_amountFor_1 : decode cX4_amountFor 1 = .ok (.aload_n 2, 1) := by decide +kernel
theorem dX4_amountFor_2 : decode cX4_amountFor 2 = .ok (.getfield 40, 3) := by decide +kernel
theorem dX4_amountFor_5 : decode cX4_amountFor 5 = .ok (.i2l, 1) := by decide +kernel
theorem dX4_amountFor_6 : decode cX4_amountFor 6 = .ok (.lmul, 1) := by decide +kernel
theorem dX4_amountFor_7 : decode cX4_amountFor 7 = .ok (.ldc2_w 234, 3) := by decide +kernel
theorem dX4_amountFor_10 : decode cX4_amountFor 10 = .ok (.ldiv, 1) := by decide +kernel
theorem dX4_amountFor_11 : decode cX4_amountFor 11 = .ok (.lreturn, 1) := by decide +kernel
theorem dX4_costsOf_0 : decode cX4_costsOf 0 = .ok (.lload_n 0, 1) := by decide +kernel
theorem dX4_costsOf_1 : decode cX4_costsOf 1 = .ok (.ldc2_w 240, 3) := by decide +kernel
theorem dX4_costsOf_4 : decode cX4_costsOf 4 = .ok (.lcmp, 1) := by decide +kernel
theorem dX4_costsOf_5 : decode cX4_costsOf 5 = .ok (.ifCond .ge 8, 3) := by decide +kernel
theorem dX4_costsOf_8 : decode cX4_costsOf 8 = .ok (.bipush 100, 2) := by decide +kernel
theorem dX4_costsOf_10 : decode cX4_costsOf 10 = .ok (.goto 18, 3) := by decide +kernel
theorem dX4_costsOf_13 : decode cX4_costsOf 13 = .ok (.lload_n 0, 1) := by decide +kernel
theorem dX4_costsOf_14 : decode cX4_costsOf 14 = .ok (.ldc2_w 242, 3) := by decide +kernel
theorem dX4_costsOf_17 : decode cX4_costsOf 17 = .ok (.lcmp, 1) := by decide +kernel
theorem dX4_costsOf_18 : decode cX4_costsOf 18 = .ok (.ifCond .ge 8, 3) := by decide +kernel
theorem dX4_costsOf_21 : decode cX4_costsOf 21 = .ok (.bipush 50, 2) := by decide +kernel
theorem dX4_costsOf_23 : decode cX4_costsOf 23 = .ok (.goto 5, 3) := by decide +kernel
theorem dX4_costsOf_26 : decode cX4_costsOf 26 = .ok (.bipush 20, 2) := by decide +kernel
theorem dX4_costsOf_28 : decode cX4_costsOf 28 = .ok (.istore_n 2, 1) := by decide +kernel
theorem dX4_costsOf_29 : decode cX4_costsOf 29 = .ok (.lload_n 0, 1) := by decide +kernel
theorem dX4_costsOf_30 : decode cX4_costsOf 30 = .ok (.iload_n 2, 1) := by decide +kernel
theorem dX4_costsOf_31 : decode cX4_costsOf 31 = .ok (.i2l, 1) := by decide +kernel
theorem dX4_costsOf_32 : decode cX4_costsOf 32 = .ok (.lmul, 1) := by decide +kernel
theorem dX4_costsOf_33 : decode cX4_costsOf 33 = .ok (.ldc2_w 240, 3) := by decide +kernel
theorem dX4_costsOf_36 : decode cX4_costsOf 36 = .ok (.ldiv, 1) := by decide +kernel
theorem dX4_costsOf_37 : decode cX4_costsOf 37 = .ok (.lreturn, 1) := by decide +kernel
set_option maxRecDepth 20000 in
theorem ggX4_worthOf_X4_amountFor : GoodIn wsX4_worthOf wsX4_amountFor := goodIn_r _ [6, 7, 8, 13, 14, 15, 16] (by decide +kernel) (by decide +kernel)
set_option maxRecDepth 20000 in
theorem gX4_worthOf_X4_amountFor : GoodIn wsX4_worthOf (va_wsS RX4 112 yX4_amountFor wsX4_amountFor) := goodIn_app (goodIn_of _ (by decide +kernel)) ggX4_worthOf_X4_amountFor
theorem dX4_worthOf_0 : decode cX4_worthOf 0 = .ok (.aload_n 0, 1) := by decide +kernel
theorem dX4_worthOf_1 : decode cX4_worthOf 1 = .ok (.getfield 109, 3) := by decide +kernel
theorem dX4_worthOf_4 : decode cX4_worthOf 4 = .ok (.aload_n 0, 1) := by decide +kernel
theorem dX4_worthOf_5 : decode cX4_worthOf 5 = .ok (.getfield 92, 3) := by decide +kernel
theorem dX4_worthOf_8 : decode cX4_worthOf 8 = .ok (.invokestatic 112, 3) := by decide +kernel
theorem dX4_worthOf_11 : decode cX4_worthOf 11 = .ok (.lreturn, 1) := by decide +kernel
set_option maxRecDepth 20000 in
theorem ggX4_wealthOf_Jx4a65c_size_8abf5 : GoodIn wsX4_wealthOf wsJx4a65c_size_8abf5 := goodIn_r _ [8, 9, 43, 44, 45] (by decide +kernel) (by decide +kernel)
set_option maxRecDepth 20000 in
theorem gX4_wealthOf_Jx4a65c_size_8abf5 : GoodIn wsX4_wealthOf (wsV RX4 44 RJx4a65c yJx4a65c_size_8abf5 wsJx4a65c_size_8abf5) := goodIn_app (goodIn_of _ (by decide +kernel)) ggX4_wealthOf_Jx4a65c_size_8abf5
set_option maxRecDepth 20000 in
theorem ggX4_wealthOf_Jx4a65c_get_915e3 : GoodIn wsX4_wealthOf wsJx4a65c_get_915e3 := goodIn_r _ [13, 9, 14, 15, 16, 17, 18, 19, 20, 21, 22, 23, 24, 7, 25, 26, 43, 44, 45] (by decide +kernel) (by decide +kernel)
set_option maxRecDepth 20000 in
theorem gX4_wealthOf_Jx4a65c_get_915e3 : GoodIn wsX4_wealthOf (wsV RX4 60 RJx4a65c yJx4a65c_get_915e3 wsJx4a65c_get_915e3) := goodIn_app (goodIn_of _ (by decide +kernel)) ggX4_wealthOf_Jx4a65c_get_915e3
set_option maxRecDepth 20000 in
theorem ggX4_wealthOf_X4_worthOf : GoodIn wsX4_wealthOf wsX4_worthOf := goodIn_r _ [30, 31, 32, 33, 34, 29, 35, 36, 37, 46, 47, 48, 49, 50, 51, 52, 53] (by decide +kernel) (by decide +kernel)
set_option maxRecDepth 20000 in
theorem gX4_wealthOf_X4_worthOf : GoodIn wsX4_wealthOf (va_wsS RX4 244 yX4_worthOf wsX4_worthOf) := goodIn_app (goodIn_of _ (by decide +kernel)) ggX4_wealthOf_X4_worthOf
theorem dX4_wealthOf_0 : decode cX4_wealthOf 0 = .ok (.aload_n 0, 1) := by decide +kernel
theorem dX4_wealthOf_1 : decode cX4_wealthOf 1 = .ok (.getfield 73, 3) := by decide +kernel
theorem dX4_wealthOf_4 : decode cX4_wealthOf 4 = .ok (.lstore_n 1, 1) := by decide +kernel
theorem dX4_wealthOf_5 : decode cX4_wealthOf 5 = .ok (.iconst 0, 1) := by decide +kernel
theorem dX4_wealthOf_6 : decode cX4_wealthOf 6 = .ok (.istore_n 3, 1) := by decide +kernel
theorem dX4_wealthOf_7 : decode cX4_wealthOf 7 = .ok (.iload_n 3, 1) := by decide +kernel
theorem dX4_wealthOf_8 : decode cX4_wealthOf 8 = .ok (.aload_n 0, 1) := by decide +kernel
theorem dX4_wealthOf_9 : decode cX4_wealthOf 9 = .ok (.getfield 55, 3) := by decide +kernel
theorem dX4_wealthOf_12 : decode cX4_wealthOf 12 = .ok (.invokevirtual 44, 3) := by decide +kernel
theorem dX4_wealthOf_15 : decode cX4_wealthOf 15 = .ok (.if_icmp .ge 26, 3) := by decide +kernel
theorem dX4_wealthOf_18 : decode cX4_wealthOf 18 = .ok (.lload_n 1, 1) := by decide +kernel
theorem dX4_wealthOf_19 : decode cX4_wealthOf 19 = .ok (.aload_n 0, 1) := by decide +kernel
theorem dX4_wealthOf_20 : decode cX4_wealthOf 20 = .ok (.getfield 55, 3) := by decide +kernel
theorem dX4_wealthOf_23 : decode cX4_wealthOf 23 = .ok (.iload_n 3, 1) := by decide +kernel
theorem dX4_wealthOf_24 : decode cX4_wealthOf 24 = .ok (.invokevirtual 60, 3) := by decide +kernel
theorem dX4_wealthOf_27 : decode cX4_wealthOf 27 = .ok (.checkcast 58, 3) := by decide +kernel
theorem dX4_wealthOf_30 : decode cX4_wealthOf 30 = .ok (.invokestatic 244, 3) := by decide +kernel
theorem dX4_wealthOf_33 : decode cX4_wealthOf 33 = .ok (.ladd, 1) := by decide +kernel
theorem dX4_wealthOf_34 : decode cX4_wealthOf 34 = .ok (.lstore_n 1, 1) := by decide +kernel
theorem dX4_wealthOf_35 : decode cX4_wealthOf 35 = .ok (.iinc 3 1, 3) := by decide +kernel
theorem dX4_wealthOf_38 : decode cX4_wealthOf 38 = .ok (.goto (-31), 3) := by decide +kernel
theorem dX4_wealthOf_41 : decode cX4_wealthOf 41 = .ok (.lload_n 1, 1) := by decide +kernel
theorem dX4_wealthOf_42 : decode cX4_wealthOf 42 = .ok (.lreturn, 1) := by decide +kernel
theorem dX4_targetOf_0 : decode cX4_targetOf 0 = .ok (.lload_n 1, 1) := by decide +kernel
theorem dX4_targetOf_1 : decode cX4_targetOf 1 = .ok (.aload_n 0, 1) := by decide +kernel
theorem dX4_targetOf_2 : decode cX4_targetOf 2 = .ok (.getfield 89, 3) := by decide +kernel
theorem dX4_targetOf_5 : decode cX4_targetOf 5 = .ok (.i2l, 1) := by decide +kernel
theorem dX4_targetOf_6 : decode cX4_targetOf 6 = .ok (.lmul, 1) := by decide +kernel
theorem dX4_targetOf_7 : decode cX4_targetOf 7 = .ok (.ldc2_w 248, 3) := by decide +kernel
theorem dX4_targetOf_10 : decode cX4_targetOf 10 = .ok (.ldiv, 1) := by decide +kernel
theorem dX4_targetOf_11 : decode cX4_targetOf 11 = .ok (.lreturn, 1) := by decide +kernel
set_option maxRecDepth 20000 in
theorem ggX4_sellTooMuch_X4_worthOf : GoodIn wsX4_sellTooMuch wsX4_worthOf := goodIn_r _ [5, 6, 1, 7, 8, 4, 9, 10, 11, 174, 175, 176, 177, 178, 179, 180, 181] (by decide +kernel) (by decide +kernel)
set_option maxRecDepth 20000 in
theorem gX4_sellTooMuch_X4_worthOf : GoodIn wsX4_sellTooMuch (va_wsS RX4 244 yX4_worthOf wsX4_worthOf) := goodIn_app (goodIn_of _ (by decide +kernel)) ggX4_sellTooMuch_X4_worthOf
set_option maxRecDepth 20000 in
theorem ggX4_sellTooMuch_X4_targetOf : GoodIn wsX4_sellTooMuch wsX4_targetOf := goodIn_r _ [14, 15, 16, 174, 175, 176, 177] (by decide +kernel) (by decide +kernel)
set_option maxRecDepth 20000 in
theorem gX4_sellTooMuch_X4_targetOf : GoodIn wsX4_sellTooMuch (va_wsS RX4 250 yX4_targetOf wsX4_targetOf) := goodIn_app (goodIn_of _ (by decide +kernel)) ggX4_sellTooMuch_X4_targetOf
set_option maxRecDepth 20000 in
theorem ggX4_sellTooMuch_X4_partsFor : GoodIn wsX4_sellTooMuch wsX4_partsFor := goodIn_r _ [19, 11, 10, 20, 21, 4, 22, 178, 179, 180, 181] (by decide +kernel) (by decide +kernel)
set_option maxRecDepth 20000 in
theorem gX4_sellTooMuch_X4_partsFor : GoodIn wsX4_sellTooMuch (va_wsS RX4 96 yX4_partsFor wsX4_partsFor) := goodIn_app (goodIn_of _ (by decide +kernel)) ggX4_sellTooMuch_X4_partsFor
set_option maxRecDepth 20000 in
theorem ggX4_sellTooMuch_X4_amountFor : GoodIn wsX4_sellTooMuch wsX4_amountFor := goodIn_r _ [9, 10, 11, 178, 179, 180, 181] (by decide +kernel) (by decide +kernel)
set_option maxRecDepth 20000 in
theorem gX4_sellTooMuch_X4_amountFor : GoodIn wsX4_sellTooMuch (va_wsS RX4 112 yX4_amountFor wsX4_amountFor) := goodIn_app (goodIn_of _ (by decide +kernel)) ggX4_sellTooMuch_X4_amountFor
set_option maxRecDepth 20000 in
theorem ggX4_sellTooMuch_X4_makeTrade : GoodIn wsX4_sellTooMuch wsX4_makeTrade := goodIn_r _ [26, 27, 28, 29, 30, 31, 32, 33, 34, 35, 36, 37, 38, 39, 40, 4, 41, 42, 43, 44, 45, 46, 47, 48, 49, 50, 51, 52, 53, 54, 55, 56, 57, 58, 59, 60, 61, 62, 63, 64, 65, 66, 67, 68, 69, 70, 71, 72, 73, 74, 75, 76, 77, 78, 79, 80, 81, 82, 83, 84, 85, 86, 87, 88, 89, 90, 91, 92, 93, 94, 95, 96, 97, 98, 99, 100, 101, 102, 103, 104, 105, 106, 107, 108, 109, 110, 111, 112, 113, 114, 115, 116, 117, 118, 119, 120, 121, 122, 1, 123, 124, 125, 6, 126, 127, 11, 128, 129, 130, 131, 132, 10, 133, 134, 135, 136, 137, 138, 139, 140, 141, 142, 143, 144, 145, 146, 147, 148, 149, 150, 151, 152, 153, 154, 155, 156, 157, 158, 159, 160, 161, 162, 163, 164, 165, 166, 167, 168, 169, 20, 21, 22, 170, 171, 172, 173, 182, 183, 184, 185, 186, 187, 188, 189, 190, 191, 192, 193, 194, 195, 196, 197, 198, 174, 175, 176, 177, 199, 200, 201, 202, 203, 178, 179, 180, 181] (by decide +kernel) (by decide +kernel)
set_option maxRecDepth 20000 in
theorem gX4_sellTooMuch_X4_makeTrade : GoodIn wsX4_sellTooMuch (wsV RX4 104 RX4 yX4_makeTrade wsX4_makeTrade) := goodIn_app (goodIn_of _ (by decide +kernel)) ggX4_sellTooMuch_X4_makeTrade
theorem dX4_sellTooMuch_0 : decode cX4_sellTooMuch 0 = .ok (.aload_n 1, 1) := by decide +kernel
theorem dX4_sellTooMuch_1 : decode cX4_sellTooMuch 1 = .ok (.invokestatic 244, 3) := by decide +kernel
theorem dX4_sellTooMuch_4 : decode cX4_sellTooMuch 4 = .ok (.aload_n 1, 1) := by decide +kernel
theorem dX4_sellTooMuch_5 : decode cX4_sellTooMuch 5 = .ok (.lload_n 2, 1) := by decide +kernel
theorem dX4_sellTooMuch_6 : decode cX4_sellTooMuch 6 = .ok (.invokestatic 250, 3) := by decide +kernel
theorem dX4_sellTooMuch_9 : decode cX4_sellTooMuch 9 = .ok (.lsub, 1) := by decide +kernel
theorem dX4_sellTooMuch_10 : decode cX4_sellTooMuch 10 = .ok (.lstore 4, 2) := by decide +kernel
theorem dX4_sellTooMuch_12 : decode cX4_sellTooMuch 12 = .ok (.lload 4, 2) := by decide +kernel
theorem dX4_sellTooMuch_14 : decode cX4_sellTooMuch 14 = .ok (.lconst 0, 1) := by decide +kernel
theorem dX4_sellTooMuch_15 : decode cX4_sellTooMuch 15 = .ok (.lcmp, 1) := by decide +kernel
theorem dX4_sellTooMuch_16 : decode cX4_sellTooMuch 16 = .ok (.ifCond .gt 4, 3) := by decide +kernel
theorem dX4_sellTooMuch_19 : decode cX4_sellTooMuch 19 = .ok (.return_, 1) := by decide +kernel
theorem dX4_sellTooMuch_20 : decode cX4_sellTooMuch 20 = .ok (.lload 4, 2) := by decide +kernel
theorem dX4_sellTooMuch_22 : decode cX4_sellTooMuch 22 = .ok (.aload_n 1, 1) := by decide +kernel
theorem dX4_sellTooMuch_23 : decode cX4_sellTooMuch 23 = .ok (.getfield 92, 3) := by decide +kernel
theorem dX4_sellTooMuch_26 : decode cX4_sellTooMuch 26 = .ok (.invokestatic 96, 3) := by decide +kernel
theorem dX4_sellTooMuch_29 : decode cX4_sellTooMuch 29 = .ok (.lstore 6, 2) := by decide +kernel
theorem dX4_sellTooMuch_31 : decode cX4_sellTooMuch 31 = .ok (.lload 6, 2) := by decide +kernel
theorem dX4_sellTooMuch_33 : decode cX4_sellTooMuch 33 = .ok (.aload_n 1, 1) := by decide +kernel
theorem dX4_sellTooMuch_34 : decode cX4_sellTooMuch 34 = .ok (.getfield 92, 3) := by decide +kernel
theorem dX4_sellTooMuch_37 : decode cX4_sellTooMuch 37 = .ok (.invokestatic 112, 3) := by decide +kernel
theorem dX4_sellTooMuch_40 : decode cX4_sellTooMuch 40 = .ok (.lstore 8, 2) := by decide +kernel
theorem dX4_sellTooMuch_42 : decode cX4_sellTooMuch 42 = .ok (.lload 6, 2) := by decide +kernel
theorem dX4_sellTooMuch_44 : decode cX4_sellTooMuch 44 = .ok (.lconst 0, 1) := by decide +kernel
theorem dX4_sellTooMuch_45 : decode cX4_sellTooMuch 45 = .ok (.lcmp, 1) := by decide +kernel
theorem dX4_sellTooMuch_46 : decode cX4_sellTooMuch 46 = .ok (.ifCond .le 21, 3) := by decide +kernel
theorem dX4_sellTooMuch_49 : decode cX4_sellTooMuch 49 = .ok (.lload 8, 2) := by decide +kernel
theorem dX4_sellTooMuch_51 : decode cX4_sellTooMuch 51 = .ok (.lconst 0, 1) := by decide +kernel
theorem dX4_sellTooMuch_52 : decode cX4_sellTooMuch 52 = .ok (.lcmp, 1) := by decide +kernel
theorem dX4_sellTooMuch_53 : decode cX4_sellTooMuch 53 = .ok (.ifCond .le 14, 3) := by decide +kernel
theorem dX4_sellTooMuch_56 : decode cX4_sellTooMuch 56 = .ok (.aload_n 0, 1) := by decide +kernel
theorem dX4_sellTooMuch_57 : decode cX4_sellTooMuch 57 = .ok (.aload_n 1, 1) := by decide +kernel
theorem dX4_sellTooMuch_58 : decode cX4_sellTooMuch 58 = .ok (.lload 6, 2) := by decide +kernel
theorem dX4_sellTooMuch_60 : decode cX4_sellTooMuch 60 = .ok (.lneg, 1) := by decide +kernel
theorem dX4_sellTooMuch_61 : decode cX4_sellTooMuch 61 = .ok (.lload 8, 2) := by decide +kernel
theorem dX4_sellTooMuch_63 : decode cX4_sellTooMuch 63 = .ok (.invokevirtual 104, 3) := by decide +kernel
theorem dX4_sellTooMuch_66 : decode cX4_sellTooMuch 66 = .ok (.pop, 1) := by decide +kernel
theorem dX4_sellTooMuch_67 : decode cX4_sellTooMuch 67 = .ok (.return_, 1) := by decide +kernel
set_option maxRecDepth 20000 in
theorem ggX4_buyWhatLacks_X4_targetOf : GoodIn wsX4_buyWhatLacks wsX4_targetOf := goodIn_r _ [12, 13, 3, 174, 175, 176, 177] (by decide +kernel) (by decide +kernel)
set_option maxRecDepth 20000 in
theorem gX4_buyWhatLacks_X4_targetOf : GoodIn wsX4_buyWhatLacks (va_wsS RX4 250 yX4_targetOf wsX4_targetOf) := goodIn_app (goodIn_of _ (by decide +kernel)) ggX4_buyWhatLacks_X4_targetOf
set_option maxRecDepth 20000 in
theorem ggX4_buyWhatLacks_X4_worthOf : GoodIn wsX4_buyWhatLacks wsX4_worthOf := goodIn_r _ [16, 17, 8, 18, 19, 11, 20, 21, 22, 174, 175, 176, 177, 183, 184, 185, 186] (by decide +kernel) (by decide +kernel)
set_option maxRecDepth 20000 in
theorem gX4_buyWhatLacks_X4_worthOf : GoodIn wsX4_buyWhatLacks (va_wsS RX4 244 yX4_worthOf wsX4_worthOf) := goodIn_app (goodIn_of _ (by decide +kernel)) ggX4_buyWhatLacks_X4_worthOf
set_option maxRecDepth 20000 in
theorem ggX4_buyWhatLacks_X4_partsFor : GoodIn wsX4_buyWhatLacks wsX4_partsFor := goodIn_r _ [25, 22, 21, 26, 27, 11, 28, 183, 184, 185, 186] (by decide +kernel) (by decide +kernel)
set_option maxRecDepth 20000 in
theorem gX4_buyWhatLacks_X4_partsFor : GoodIn wsX4_buyWhatLacks (va_wsS RX4 96 yX4_partsFor wsX4_partsFor) := goodIn_app (goodIn_of _ (by decide +kernel)) ggX4_buyWhatLacks_X4_partsFor
set_option maxRecDepth 20000 in
theorem ggX4_buyWhatLacks_X4_makeTrade : GoodIn wsX4_buyWhatLacks wsX4_makeTrade := goodIn_r _ [32, 33, 34, 35, 36, 37, 38, 39, 40, 41, 42, 43, 44, 45, 46, 11, 47, 48, 49, 50, 51, 52, 53, 54, 55, 56, 57, 58, 59, 60, 61, 62, 63, 64, 65, 66, 67, 68, 69, 70, 71, 72, 73, 74, 75, 76, 77, 78, 79, 80, 81, 82, 83, 84, 6, 85, 86, 87, 88, 89, 90, 91, 92, 93, 94, 95, 96, 97, 98, 99, 100, 101, 102, 103, 104, 105, 106, 107, 108, 109, 110, 111, 112, 113, 114, 115, 116, 117, 118, 119, 120, 121, 122, 123, 124, 125, 126, 127, 8, 1, 2, 128, 17, 129, 130, 22, 131, 132, 133, 134, 135, 21, 136, 137, 138, 139, 140, 141, 142, 143, 144, 145, 146, 147, 148, 149, 150, 151, 152, 153, 4, 5, 7, 154, 155, 156, 157, 158, 159, 160, 161, 162, 163, 164, 165, 166, 167, 168, 169, 26, 27, 28, 170, 171, 172, 173, 187, 188, 189, 190, 191, 192, 193, 194, 195, 196, 197, 198, 199, 200, 201, 202, 203, 174, 175, 176, 177, 178, 179, 180, 181, 182, 183, 184, 185, 186] (by decide +kernel) (by decide +kernel)
set_option maxRecDepth 20000 in
theorem gX4_buyWhatLacks_X4_makeTrade : GoodIn wsX4_buyWhatLacks (wsV RX4 104 RX4 yX4_makeTrade wsX4_makeTrade) := goodIn_app (goodIn_of _ (by decide +kernel)) ggX4_buyWhatLacks_X4_makeTrade
theorem dX4_buyWhatLacks_0 : decode cX4_buyWhatLacks 0 = .ok (.aload_n 1, 1) := by decide +kernel
theorem dX4_buyWhatLacks_1 : decode cX4_buyWhatLacks 1 = .ok (.lload_n 2, 1) := by decide +kernel
theorem dX4_buyWhatLacks_2 : decode cX4_buyWhatLacks 2 = .ok (.invokestatic 250, 3) := by decide +kernel
theorem dX4_buyWhatLacks_5 : decode cX4_buyWhatLacks 5 = .ok (.aload_n 1, 1) := by decide +kernel
theorem dX4_buyWhatLacks_6 : decode cX4_buyWhatLacks 6 = .ok (.invokestatic 244, 3) := by decide +kernel
theorem dX4_buyWhatLacks_9 : decode cX4_buyWhatLacks 9 = .ok (.lsub, 1) := by decide +kernel
theorem dX4_buyWhatLacks_10 : decode cX4_buyWhatLacks 10 = .ok (.lstore 4, 2) := by decide +kernel
theorem dX4_buyWhatLacks_12 : decode cX4_buyWhatLacks 12 = .ok (.lload 4, 2) := by decide +kernel
theorem dX4_buyWhatLacks_14 : decode cX4_buyWhatLacks 14 = .ok (.lconst 0, 1) := by decide +kernel
theorem dX4_buyWhatLacks_15 : decode cX4_buyWhatLacks 15 = .ok (.lcmp, 1) := by decide +kernel
theorem dX4_buyWhatLacks_16 : decode cX4_buyWhatLacks 16 = .ok (.ifCond .gt 4, 3) := by decide +kernel
theorem dX4_buyWhatLacks_19 : decode cX4_buyWhatLacks 19 = .ok (.return_, 1) := by decide +kernel
theorem dX4_buyWhatLacks_20 : decode cX4_buyWhatLacks 20 = .ok (.aload_n 1, 1) := by decide +kernel
theorem dX4_buyWhatLacks_21 : decode cX4_buyWhatLacks 21 = .ok (.getfield 81, 3) := by decide +kernel
theorem dX4_buyWhatLacks_24 : decode cX4_buyWhatLacks 24 = .ok (.getfield 73, 3) := by decide +kernel
theorem dX4_buyWhatLacks_27 : decode cX4_buyWhatLacks 27 = .ok (.lstore 6, 2) := by decide +kernel
theorem dX4_buyWhatLacks_29 : decode cX4_buyWhatLacks 29 = .ok (.lload 4, 2) := by decide +kernel
theorem dX4_buyWhatLacks_31 : decode cX4_buyWhatLacks 31 = .ok (.lload 6, 2) := by decide +kernel
theorem dX4_buyWhatLacks_33 : decode cX4_buyWhatLacks 33 = .ok (.lload 6, 2) := by decide +kernel
theorem dX4_buyWhatLacks_35 : decode cX4_buyWhatLacks 35 = .ok (.ldc2_w 248, 3) := by decide +kernel
theorem dX4_buyWhatLacks_38 : decode cX4_buyWhatLacks 38 = .ok (.ldiv, 1) := by decide +kernel
theorem dX4_buyWhatLacks_39 : decode cX4_buyWhatLacks 39 = .ok (.lsub, 1) := by decide +kernel
theorem dX4_buyWhatLacks_40 : decode cX4_buyWhatLacks 40 = .ok (.invokestatic 254, 3) := by decide +kernel
theorem dX4_buyWhatLacks_43 : decode cX4_buyWhatLacks 43 = .ok (.lstore 8, 2) := by decide +kernel
theorem dX4_buyWhatLacks_45 : decode cX4_buyWhatLacks 45 = .ok (.lload 8, 2) := by decide +kernel
theorem dX4_buyWhatLacks_47 : decode cX4_buyWhatLacks 47 = .ok (.aload_n 1, 1) := by decide +kernel
theorem dX4_buyWhatLacks_48 : decode cX4_buyWhatLacks 48 = .ok (.getfield 92, 3) := by decide +kernel
theorem dX4_buyWhatLacks_51 : decode cX4_buyWhatLacks 51 = .ok (.invokestatic 96, 3) := by decide +kernel
theorem dX4_buyWhatLacks_54 : decode cX4_buyWhatLacks 54 = .ok (.lstore 10, 2) := by decide +kernel
theorem dX4_buyWhatLacks_56 : decode cX4_buyWhatLacks 56 = .ok (.lload 10, 2) := by decide +kernel
theorem dX4_buyWhatLacks_58 : decode cX4_buyWhatLacks 58 = .ok (.lconst 0, 1) := by decide +kernel
theorem dX4_buyWhatLacks_59 : decode cX4_buyWhatLacks 59 = .ok (.lcmp, 1) := by decide +kernel
theorem dX4_buyWhatLacks_60 : decode cX4_buyWhatLacks 60 = .ok (.ifCond .le 20, 3) := by decide +kernel
theorem dX4_buyWhatLacks_63 : decode cX4_buyWhatLacks 63 = .ok (.lload 8, 2) := by decide +kernel
theorem dX4_buyWhatLacks_65 : decode cX4_buyWhatLacks 65 = .ok (.lconst 0, 1) := by decide +kernel
theorem dX4_buyWhatLacks_66 : decode cX4_buyWhatLacks 66 = .ok (.lcmp, 1) := by decide +kernel
theorem dX4_buyWhatLacks_67 : decode cX4_buyWhatLacks 67 = .ok (.ifCond .le 13, 3) := by decide +kernel
theorem dX4_buyWhatLacks_70 : decode cX4_buyWhatLacks 70 = .ok (.aload_n 0, 1) := by decide +kernel
theorem dX4_buyWhatLacks_71 : decode cX4_buyWhatLacks 71 = .ok (.aload_n 1, 1) := by decide +kernel
theorem dX4_buyWhatLacks_72 : decode cX4_buyWhatLacks 72 = .ok (.lload 10, 2) := by decide +kernel
theorem dX4_buyWhatLacks_74 : decode cX4_buyWhatLacks 74 = .ok (.lload 8, 2) := by decide +kernel
theorem dX4_buyWhatLacks_76 : decode cX4_buyWhatLacks 76 = .ok (.invokevirtual 104, 3) := by decide +kernel
theorem dX4_buyWhatLacks_79 : decode cX4_buyWhatLacks 79 = .ok (.pop, 1) := by decide +kernel
theorem dX4_buyWhatLacks_80 : decode cX4_buyWhatLacks 80 = .ok (.return_, 1) := by decide +kernel
set_option maxRecDepth 20000 in
theorem ggX4_makeTrade_Jx4a65c_size_8abf5 : GoodIn wsX4_makeTrade wsJx4a65c_size_8abf5 := goodIn_r _ [11, 12, 170, 171, 172] (by decide +kernel) (by decide +kernel)
set_option maxRecDepth 20000 in
theorem gX4_makeTrade_Jx4a65c_size_8abf5 : GoodIn wsX4_makeTrade (wsV RX4 44 RJx4a65c yJx4a65c_size_8abf5 wsJx4a65c_size_8abf5) := goodIn_app (goodIn_of _ (by decide +kernel)) ggX4_makeTrade_Jx4a65c_size_8abf5
set_option maxRecDepth 20000 in
theorem ggX4_makeTrade_X4_costsOf : GoodIn wsX4_makeTrade wsX4_costsOf := goodIn_r _ [16, 17, 18] (by decide +kernel) (by decide +kernel)
set_option maxRecDepth 20000 in
theorem gX4_makeTrade_X4_costsOf : GoodIn wsX4_makeTrade (va_wsS RX4 100 yX4_costsOf wsX4_costsOf) := goodIn_app (goodIn_of _ (by decide +kernel)) ggX4_makeTrade_X4_costsOf
set_option maxRecDepth 20000 in
theorem ggX4_makeTrade_X3_init : GoodIn wsX4_makeTrade wsX3_init := goodIn_r _ [21, 22, 23, 24, 25, 26, 27, 28, 29, 30, 31, 156, 157, 158, 159, 160, 161, 162, 163, 164] (by decide +kernel) (by decide +kernel)
set_option maxRecDepth 20000 in
theorem gX4_makeTrade_X3_init : GoodIn wsX4_makeTrade (wsX3_init) := ggX4_makeTrade_X3_init
set_option maxRecDepth 20000 in
theorem ggX4_makeTrade_Jx4a65c_add_9ea2d : GoodIn wsX4_makeTrade wsJx4a65c_add_9ea2d := goodIn_r _ [35, 36, 37, 38, 12, 39, 40, 41, 10, 42, 43, 44, 45, 46, 47, 48, 49, 50, 51, 52, 53, 54, 55, 56, 57, 58, 59, 60, 61, 62, 63, 64, 65, 66, 67, 68, 69, 70, 71, 72, 73, 74, 75, 76, 77, 78, 79, 80, 81, 82, 83, 84, 85, 170, 171, 172] (by decide +kernel) (by decide +kernel)
set_option maxRecDepth 20000 in
theorem gX4_makeTrade_Jx4a65c_add_9ea2d : GoodIn wsX4_makeTrade (wsV RX4 27 RJx4a65c yJx4a65c_add_9ea2d wsJx4a65c_add_9ea2d) := goodIn_app (goodIn_of _ (by decide +kernel)) ggX4_makeTrade_Jx4a65c_add_9ea2d
set_option maxRecDepth 20000 in
theorem ggX4_makeTrade_X3_paid : GoodIn wsX4_makeTrade wsX3_paid := goodIn_r _ [89, 30, 29, 90, 91, 92, 3, 93, 28, 156, 157, 158, 159, 160, 161, 162, 163, 164] (by decide +kernel) (by decide +kernel)
set_option maxRecDepth 20000 in
theorem gX4_makeTrade_X3_paid : GoodIn wsX4_makeTrade (wsV RX4 149 RX3 yX3_paid wsX3_paid) := goodIn_app (goodIn_of _ (by decide +kernel)) ggX4_makeTrade_X3_paid
set_option maxRecDepth 20000 in
theorem ggX4_makeTrade_X4_exchange : GoodIn wsX4_makeTrade wsX4_exchange := goodIn_r _ [97, 98, 99, 100, 101, 102, 103, 104, 105, 106, 107, 108, 15, 109, 110, 111, 173, 174, 175, 176, 177, 178, 179, 180, 181, 165, 166, 167, 168, 169, 182, 183, 184, 185] (by decide +kernel) (by decide +kernel)
set_option maxRecDepth 20000 in
theorem gX4_makeTrade_X4_exchange : GoodIn wsX4_makeTrade (wsV RX4 153 RX4 yX4_exchange wsX4_exchange) := goodIn_app (goodIn_of _ (by decide +kernel)) ggX4_makeTrade_X4_exchange
set_option maxRecDepth 20000 in
theorem ggX4_makeTrade_X4_enterIntoLots : GoodIn wsX4_makeTrade wsX4_enterIntoLots := goodIn_r _ [115, 116, 99, 117, 118, 119, 120, 121, 91, 92, 3, 93, 28, 122, 123, 15, 124, 86, 87, 88, 89, 30, 29, 90, 125, 126, 127, 128, 6, 4, 129, 130, 131, 54, 132, 7, 8, 9, 10, 11, 12, 133, 134, 135, 136, 137, 138, 139, 140, 141, 142, 143, 144, 145, 146, 147, 148, 38, 149, 150, 151, 152, 153, 154, 155, 156, 157, 158, 159, 160, 161, 162, 163, 164, 173, 174, 175, 176, 165, 166, 167, 168, 169, 170, 171, 172, 177, 178, 179, 180, 181] (by decide +kernel) (by decide +kernel)
set_option maxRecDepth 20000 in
theorem gX4_makeTrade_X4_enterIntoLots : GoodIn wsX4_makeTrade (wsV RX4 262 RX4 yX4_enterIntoLots wsX4_enterIntoLots) := goodIn_app (goodIn_of _ (by decide +kernel)) ggX4_makeTrade_X4_enterIntoLots
theorem dX4_makeTrade_0 : decode cX4_makeTrade 0 = .ok (.new 135, 3) := by decide +kernel
theorem dX4_makeTrade_3 : decode cX4_makeTrade 3 = .ok (.dup, 1) := by decide +kernel
theorem dX4_makeTrade_4 : decode cX4_makeTrade 4 = .ok (.aload_n 0, 1) := by decide +kernel
theorem dX4_makeTrade_5 : decode cX4_makeTrade 5 = .ok (.getfield 19, 3) := by decide +kernel
theorem dX4_makeTrade_8 : decode cX4_makeTrade 8 = .ok (.invokevirtual 44, 3) := by decide +kernel
theorem dX4_makeTrade_11 : decode cX4_makeTrade 11 = .ok (.aload_n 1, 1) := by decide +kernel
theorem dX4_makeTrade_12 : decode cX4_makeTrade 12 = .ok (.aload_n 0, 1) := by decide +kernel
theorem dX4_makeTrade_13 : decode cX4_makeTrade 13 = .ok (.getfield 164, 3) := by decide +kernel
theorem dX4_makeTrade_16 : decode cX4_makeTrade 16 = .ok (.lload_n 2, 1) := by decide +kernel
theorem dX4_makeTrade_17 : decode cX4_makeTrade 17 = .ok (.lload 4, 2) := by decide +kernel
theorem dX4_makeTrade_19 : decode cX4_makeTrade 19 = .ok (.lload 4, 2) := by decide +kernel
theorem dX4_makeTrade_21 : decode cX4_makeTrade 21 = .ok (.invokestatic 100, 3) := by decide +kernel
theorem dX4_makeTrade_24 : decode cX4_makeTrade 24 = .ok (.invokespecial 259, 3) := by decide +kernel
theorem dX4_makeTrade_27 : decode cX4_makeTrade 27 = .ok (.astore 6, 2) := by decide +kernel
theorem dX4_makeTrade_29 : decode cX4_makeTrade 29 = .ok (.aload_n 0, 1) := by decide +kernel
theorem dX4_makeTrade_30 : decode cX4_makeTrade 30 = .ok (.getfield 19, 3) := by decide +kernel
theorem dX4_makeTrade_33 : decode cX4_makeTrade 33 = .ok (.aload 6, 2) := by decide +kernel
theorem dX4_makeTrade_35 : decode cX4_makeTrade 35 = .ok (.invokevirtual 27, 3) := by decide +kernel
theorem dX4_makeTrade_38 : decode cX4_makeTrade 38 = .ok (.pop, 1) := by decide +kernel
theorem dX4_makeTrade_39 : decode cX4_makeTrade 39 = .ok (.aload_n 0, 1) := by decide +kernel
theorem dX4_makeTrade_40 : decode cX4_makeTrade 40 = .ok (.aload_n 1, 1) := by decide +kernel
theorem dX4_makeTrade_41 : decode cX4_makeTrade 41 = .ok (.lload_n 2, 1) := by decide +kernel
theorem dX4_makeTrade_42 : decode cX4_makeTrade 42 = .ok (.aload 6, 2) := by decide +kernel
theorem dX4_makeTrade_44 : decode cX4_makeTrade 44 = .ok (.invokevirtual 149, 3) := by decide +kernel
theorem dX4_makeTrade_47 : decode cX4_makeTrade 47 = .ok (.invokevirtual 153, 3) := by decide +kernel
theorem dX4_makeTrade_50 : decode cX4_makeTrade 50 = .ok (.aload_n 0, 1) := by decide +kernel
theorem dX4_makeTrade_51 : decode cX4_makeTrade 51 = .ok (.aload 6, 2) := by decide +kernel
theorem dX4_makeTrade_53 : decode cX4_makeTrade 53 = .ok (.invokevirtual 262, 3) := by decide +kernel
theorem dX4_makeTrade_56 : decode cX4_makeTrade 56 = .ok (.aload 6, 2) := by decide +kernel
theorem dX4_makeTrade_58 : decode cX4_makeTrade 58 = .ok (.getfield 198, 3) := by decide +kernel
theorem dX4_makeTrade_61 : decode cX4_makeTrade 61 = .ok (.ireturn, 1) := by decide +kernel
set_option maxRecDepth 20000 in
theorem ggX4_exchange_X4_tradeUnits : GoodIn wsX4_exchange wsX4_tradeUnits := goodIn_r _ [13, 14, 6, 8, 4, 15, 30, 31, 32, 33, 25, 26, 27, 28, 29] (by decide +kernel) (by decide +kernel)
set_option maxRecDepth 20000 in
theorem gX4_exchange_X4_tradeUnits : GoodIn wsX4_exchange (wsV RX4 268 RX4 yX4_tradeUnits wsX4_tradeUnits) := goodIn_app (goodIn_of _ (by decide +kernel)) ggX4_exchange_X4_tradeUnits
theorem dX4_exchange_0 : decode cX4_exchange 0 = .ok (.aload_n 1, 1) := by decide +kernel
theorem dX4_exchange_1 : decode cX4_exchange 1 = .ok (.getfield 92, 3) := by decide +kernel
theorem dX4_exchange_4 : decode cX4_exchange 4 = .ok (.astore 6, 2) := by decide +kernel
theorem dX4_exchange_6 : decode cX4_exchange 6 = .ok (.aload_n 1, 1) := by decide +kernel
theorem dX4_exchange_7 : decode cX4_exchange 7 = .ok (.getfield 81, 3) := by decide +kernel
theorem dX4_exchange_10 : decode cX4_exchange 10 = .ok (.dup, 1) := by decide +kernel
theorem dX4_exchange_11 : decode cX4_exchange 11 = .ok (.getfield 73, 3) := by decide +kernel
theorem dX4_exchange_14 : decode cX4_exchange 14 = .ok (.lload 4, 2) := by decide +kernel
theorem dX4_exchange_16 : decode cX4_exchange 16 = .ok (.lsub, 1) := by decide +kernel
theorem dX4_exchange_17 : decode cX4_exchange 17 = .ok (.putfield 73, 3) := by decide +kernel
theorem dX4_exchange_20 : decode cX4_exchange 20 = .ok (.aload_n 0, 1) := by decide +kernel
theorem dX4_exchange_21 : decode cX4_exchange 21 = .ok (.dup, 1) := by decide +kernel
theorem dX4_exchange_22 : decode cX4_exchange 22 = .ok (.getfield 170, 3) := by decide +kernel
theorem dX4_exchange_25 : decode cX4_exchange 25 = .ok (.lload 4, 2) := by decide +kernel
theorem dX4_exchange_27 : decode cX4_exchange 27 = .ok (.ladd, 1) := by decide +kernel
theorem dX4_exchange_28 : decode cX4_exchange 28 = .ok (.putfield 170, 3) := by decide +kernel
theorem dX4_exchange_31 : decode cX4_exchange 31 = .ok (.aload_n 1, 1) := by decide +kernel
theorem dX4_exchange_32 : decode cX4_exchange 32 = .ok (.dup, 1) := by decide +kernel
theorem dX4_exchange_33 : decode cX4_exchange 33 = .ok (.getfield 109, 3) := by decide +kernel
theorem dX4_exchange_36 : decode cX4_exchange 36 = .ok (.lload_n 2, 1) := by decide +kernel
theorem dX4_exchange_37 : decode cX4_exchange 37 = .ok (.ladd, 1) := by decide +kernel
theorem dX4_exchange_38 : decode cX4_exchange 38 = .ok (.putfield 109, 3) := by decide +kernel
theorem dX4_exchange_41 : decode cX4_exchange 41 = .ok (.aload 6, 2) := by decide +kernel
theorem dX4_exchange_43 : decode cX4_exchange 43 = .ok (.dup, 1) := by decide +kernel
theorem dX4_exchange_44 : decode cX4_exchange 44 = .ok (.getfield 173, 3) := by decide +kernel
theorem dX4_exchange_47 : decode cX4_exchange 47 = .ok (.lload_n 2, 1) := by decide +kernel
theorem dX4_exchange_48 : decode cX4_exchange 48 = .ok (.lsub, 1) := by decide +kernel
theorem dX4_exchange_49 : decode cX4_exchange 49 = .ok (.putfield 173, 3) := by decide +kernel
theorem dX4_exchange_52 : decode cX4_exchange 52 = .ok (.aload 6, 2) := by decide +kernel
theorem dX4_exchange_54 : decode cX4_exchange 54 = .ok (.getfield 173, 3) := by decide +kernel
theorem dX4_exchange_57 : decode cX4_exchange 57 = .ok (.lconst 0, 1) := by decide +kernel
theorem dX4_exchange_58 : decode cX4_exchange 58 = .ok (.lcmp, 1) := by decide +kernel
theorem dX4_exchange_59 : decode cX4_exchange 59 = .ok (.ifCond .ge 22, 3) := by decide +kernel
theorem dX4_exchange_62 : decode cX4_exchange 62 = .ok (.aload_n 0, 1) := by decide +kernel
theorem dX4_exchange_63 : decode cX4_exchange 63 = .ok (.aload 6, 2) := by decide +kernel
theorem dX4_exchange_65 : decode cX4_exchange 65 = .ok (.ldc2_w 266, 3) := by decide +kernel
theorem dX4_exchange_68 : decode cX4_exchange 68 = .ok (.aload 6, 2) := by decide +kernel
theorem dX4_exchange_70 : decode cX4_exchange 70 = .ok (.getfield 173, 3) := by decide +kernel
theorem dX4_exchange_73 : decode cX4_exchange 73 = .ok (.lsub, 1) := by decide +kernel
theorem dX4_exchange_74 : decode cX4_exchange 74 = .ok (.ldc2_w 234, 3) := by decide +kernel
theorem dX4_exchange_77 : decode cX4_exchange 77 = .ok (.ldiv, 1) := by decide +kernel
theorem dX4_exchange_78 : decode cX4_exchange 78 = .ok (.invokevirtual 268, 3) := by decide +kernel
theorem dX4_exchange_81 : decode cX4_exchange 81 = .ok (.return_, 1) := by decide +kernel
theorem dX4_tradeUnits_0 : decode cX4_tradeUnits 0 = .ok (.aload_n 1, 1) := by decide +kernel
theorem dX4_tradeUnits_1 : decode cX4_tradeUnits 1 = .ok (.dup, 1) := by decide +kernel
theorem dX4_tradeUnits_2 : decode cX4_tradeUnits 2 = .ok (.getfield 176, 3) := by decide +kernel
theorem dX4_tradeUnits_5 : decode cX4_tradeUnits 5 = .ok (.lload_n 2, 1) := by decide +kernel
theorem dX4_tradeUnits_6 : decode cX4_tradeUnits 6 = .ok (.ladd, 1) := by decide +kernel
theorem dX4_tradeUnits_7 : decode cX4_tradeUnits 7 = .ok (.putfield 176, 3) := by decide +kernel
theorem dX4_tradeUnits_10 : decode cX4_tradeUnits 10 = .ok (.aload_n 1, 1) := by decide +kernel
theorem dX4_tradeUnits_11 : decode cX4_tradeUnits 11 = .ok (.dup, 1) := by decide +kernel
theorem dX4_tradeUnits_12 : decode cX4_tradeUnits 12 = .ok (.getfield 173, 3) := by decide +kernel
theorem dX4_tradeUnits_15 : decode cX4_tradeUnits 15 = .ok (.lload_n 2, 1) := by decide +kernel
theorem dX4_tradeUnits_16 : decode cX4_tradeUnits 16 = .ok (.ldc2_w 234, 3) := by decide +kernel
theorem dX4_tradeUnits_19 : decode cX4_tradeUnits 19 = .ok (.lmul, 1) := by decide +kernel
theorem dX4_tradeUnits_20 : decode cX4_tradeUnits 20 = .ok (.ladd, 1) := by decide +kernel
theorem dX4_tradeUnits_21 : decode cX4_tradeUnits 21 = .ok (.putfield 173, 3) := by decide +kernel
theorem dX4_tradeUnits_24 : decode cX4_tradeUnits 24 = .ok (.aload_n 0, 1) := by decide +kernel
theorem dX4_tradeUnits_25 : decode cX4_tradeUnits 25 = .ok (.dup, 1) := by decide +kernel
theorem dX4_tradeUnits_26 : decode cX4_tradeUnits 26 = .ok (.getfield 170, 3) := by decide +kernel
theorem dX4_tradeUnits_29 : decode cX4_tradeUnits 29 = .ok (.lload_n 2, 1) := by decide +kernel
theorem dX4_tradeUnits_30 : decode cX4_tradeUnits 30 = .ok (.aload_n 1, 1) := by decide +kernel
theorem dX4_tradeUnits_31 : decode cX4_tradeUnits 31 = .ok (.getfield 40, 3) := by decide +kernel
theorem dX4_tradeUnits_34 : decode cX4_tradeUnits 34 = .ok (.i2l, 1) := by decide +kernel
theorem dX4_tradeUnits_35 : decode cX4_tradeUnits 35 = .ok (.lmul, 1) := by decide +kernel
theorem dX4_tradeUnits_36 : decode cX4_tradeUnits 36 = .ok (.lsub, 1) := by decide +kernel
theorem dX4_tradeUnits_37 : decode cX4_tradeUnits 37 = .ok (.putfield 170, 3) := by decide +kernel
theorem dX4_tradeUnits_40 : decode cX4_tradeUnits 40 = .ok (.return_, 1) := by decide +kernel
set_option maxRecDepth 20000 in
theorem ggX4_enterIntoLots_X3_isSale : GoodIn wsX4_enterIntoLots wsX3_isSale := goodIn_r _ [11, 12, 65, 66, 67, 68, 69, 70, 71, 72, 73] (by decide +kernel) (by decide +kernel)
set_option maxRecDepth 20000 in
theorem gX4_enterIntoLots_X3_isSale : GoodIn wsX4_enterIntoLots (wsV RX4 272 RX3 yX3_isSale wsX3_isSale) := goodIn_app (goodIn_of _ (by decide +kernel)) ggX4_enterIntoLots_X3_isSale
set_option maxRecDepth 20000 in
theorem ggX4_enterIntoLots_X4_yearOf : GoodIn wsX4_enterIntoLots wsX4_yearOf := goodIn_r _ [16] (by decide +kernel) (by decide +kernel)
set_option maxRecDepth 20000 in
theorem gX4_enterIntoLots_X4_yearOf : GoodIn wsX4_enterIntoLots (va_wsS RX4 276 yX4_yearOf wsX4_yearOf) := goodIn_app (goodIn_of _ (by decide +kernel)) ggX4_enterIntoLots_X4_yearOf
set_option maxRecDepth 20000 in
theorem ggX4_enterIntoLots_X3_paid : GoodIn wsX4_enterIntoLots wsX3_paid := goodIn_r _ [20, 21, 22, 23, 8, 9, 10, 11, 12, 65, 66, 67, 68, 69, 70, 71, 72, 73] (by decide +kernel) (by decide +kernel)
set_option maxRecDepth 20000 in
theorem gX4_enterIntoLots_X3_paid : GoodIn wsX4_enterIntoLots (wsV RX4 149 RX3 yX3_paid wsX3_paid) := goodIn_app (goodIn_of _ (by decide +kernel)) ggX4_enterIntoLots_X3_paid
set_option maxRecDepth 20000 in
theorem ggX4_enterIntoLots_X4_takeCostFromLots : GoodIn wsX4_enterIntoLots wsX4_takeCostFromLots := goodIn_r _ [27, 4, 28, 29, 30, 1, 5, 31, 32, 33, 34, 6, 35, 36, 37, 38, 39, 40, 41, 42, 43, 44, 45, 46, 47, 48, 49, 50, 51, 52, 53, 54, 55, 56, 57, 58, 59, 15, 60, 65, 66, 67, 68, 69, 70, 71, 72, 73, 78, 79, 80, 81, 82, 83, 84, 85] (by decide +kernel) (by decide +kernel)
set_option maxRecDepth 20000 in
theorem gX4_enterIntoLots_X4_takeCostFromLots : GoodIn wsX4_enterIntoLots (wsV RX4 280 RX4 yX4_takeCostFromLots wsX4_takeCostFromLots) := goodIn_app (goodIn_of _ (by decide +kernel)) ggX4_enterIntoLots_X4_takeCostFromLots
set_option maxRecDepth 20000 in
theorem ggX4_enterIntoLots_X4_addGain : GoodIn wsX4_enterIntoLots wsX4_addGain := goodIn_r _ [63, 64, 86, 87, 88, 89, 90] (by decide +kernel) (by decide +kernel)
set_option maxRecDepth 20000 in
theorem gX4_enterIntoLots_X4_addGain : GoodIn wsX4_enterIntoLots (va_wsS RX4 284 yX4_addGain wsX4_addGain) := goodIn_app (goodIn_of _ (by decide +kernel)) ggX4_enterIntoLots_X4_addGain
theorem dX4_enterIntoLots_0 : decode cX4_enterIntoLots 0 = .ok (.aload_n 1, 1) := by decide +kernel
theorem dX4_enterIntoLots_1 : decode cX4_enterIntoLots 1 = .ok (.invokevirtual 272, 3) := by decide +kernel
theorem dX4_enterIntoLots_4 : decode cX4_enterIntoLots 4 = .ok (.ifCond .eq 34, 3) := by decide +kernel
theorem dX4_enterIntoLots_7 : decode cX4_enterIntoLots 7 = .ok (.aload_n 1, 1) := by decide +kernel
theorem dX4_enterIntoLots_8 : decode cX4_enterIntoLots 8 = .ok (.getfield 144, 3) := by decide +kernel
theorem dX4_enterIntoLots_11 : decode cX4_enterIntoLots 11 = .ok (.getfield 81, 3) := by decide +kernel
theorem dX4_enterIntoLots_14 : decode cX4_enterIntoLots 14 = .ok (.aload_n 1, 1) := by decide +kernel
theorem dX4_enterIntoLots_15 : decode cX4_enterIntoLots 15 = .ok (.getfield 189, 3) := by decide +kernel
theorem dX4_enterIntoLots_18 : decode cX4_enterIntoLots 18 = .ok (.invokestatic 276, 3) := by decide +kernel
theorem dX4_enterIntoLots_21 : decode cX4_enterIntoLots 21 = .ok (.aload_n 1, 1) := by decide +kernel
theorem dX4_enterIntoLots_22 : decode cX4_enterIntoLots 22 = .ok (.invokevirtual 149, 3) := by decide +kernel
theorem dX4_enterIntoLots_25 : decode cX4_enterIntoLots 25 = .ok (.lneg, 1) := by decide +kernel
theorem dX4_enterIntoLots_26 : decode cX4_enterIntoLots 26 = .ok (.aload_n 0, 1) := by decide +kernel
theorem dX4_enterIntoLots_27 : decode cX4_enterIntoLots 27 = .ok (.aload_n 1, 1) := by decide +kernel
theorem dX4_enterIntoLots_28 : decode cX4_enterIntoLots 28 = .ok (.invokevirtual 280, 3) := by decide +kernel
theorem dX4_enterIntoLots_31 : decode cX4_enterIntoLots 31 = .ok (.lsub, 1) := by decide +kernel
theorem dX4_enterIntoLots_32 : decode cX4_enterIntoLots 32 = .ok (.invokestatic 284, 3) := by decide +kernel
theorem dX4_enterIntoLots_35 : decode cX4_enterIntoLots 35 = .ok (.goto 19, 3) := by decide +kernel
theorem dX4_enterIntoLots_38 : decode cX4_enterIntoLots 38 = .ok (.aload_n 1, 1) := by decide +kernel
theorem dX4_enterIntoLots_39 : decode cX4_enterIntoLots 39 = .ok (.aload_n 1, 1) := by decide +kernel
theorem dX4_enterIntoLots_40 : decode cX4_enterIntoLots 40 = .ok (.getfield 148, 3) := by decide +kernel
theorem dX4_enterIntoLots_43 : decode cX4_enterIntoLots 43 = .ok (.putfield 195, 3) := by decide +kernel
theorem dX4_enterIntoLots_46 : decode cX4_enterIntoLots 46 = .ok (.aload_n 1, 1) := by decide +kernel
theorem dX4_enterIntoLots_47 : decode cX4_enterIntoLots 47 = .ok (.aload_n 1, 1) := by decide +kernel
theorem dX4_enterIntoLots_48 : decode cX4_enterIntoLots 48 = .ok (.invokevirtual 149, 3) := by decide +kernel
theorem dX4_enterIntoLots_51 : decode cX4_enterIntoLots 51 = .ok (.putfield 199, 3) := by decide +kernel
theorem dX4_enterIntoLots_54 : decode cX4_enterIntoLots 54 = .ok (.return_, 1) := by decide +kernel
set_option maxRecDepth 20000 in
theorem ggX4_takeCostFromLots_Jx4a65c_size_8abf5 : GoodIn wsX4_takeCostFromLots wsJx4a65c_size_8abf5 := goodIn_r _ [16, 17, 53, 54, 55] (by decide +kernel) (by decide +kernel)
set_option maxRecDepth 20000 in
theorem gX4_takeCostFromLots_Jx4a65c_size_8abf5 : GoodIn wsX4_takeCostFromLots (wsV RX4 44 RJx4a65c yJx4a65c_size_8abf5 wsJx4a65c_size_8abf5) := goodIn_app (goodIn_of _ (by decide +kernel)) ggX4_takeCostFromLots_Jx4a65c_size_8abf5
set_option maxRecDepth 20000 in
theorem ggX4_takeCostFromLots_Jx4a65c_get_915e3 : GoodIn wsX4_takeCostFromLots wsJx4a65c_get_915e3 := goodIn_r _ [21, 17, 22, 23, 24, 25, 26, 27, 28, 29, 30, 31, 32, 15, 33, 34, 53, 54, 55] (by decide +kernel) (by decide +kernel)
set_option maxRecDepth 20000 in
theorem gX4_takeCostFromLots_Jx4a65c_get_915e3 : GoodIn wsX4_takeCostFromLots (wsV RX4 60 RJx4a65c yJx4a65c_get_915e3 wsJx4a65c_get_915e3) := goodIn_app (goodIn_of _ (by decide +kernel)) ggX4_takeCostFromLots_Jx4a65c_get_915e3
set_option maxRecDepth 20000 in
theorem ggX4_takeCostFromLots_X4_cutQuotient : GoodIn wsX4_takeCostFromLots wsX4_cutQuotient := goodIn_r _ [38] (by decide +kernel) (by decide +kernel)
set_option maxRecDepth 20000 in
theorem gX4_takeCostFromLots_X4_cutQuotient : GoodIn wsX4_takeCostFromLots (va_wsS RX4 236 yX4_cutQuotient wsX4_cutQuotient) := goodIn_app (goodIn_of _ (by decide +kernel)) ggX4_takeCostFromLots_X4_cutQuotient
theorem dX4_takeCostFromLots_0 : decode cX4_takeCostFromLots 0 = .ok (.aload_n 1, 1) := by decide +kernel
theorem dX4_takeCostFromLots_1 : decode cX4_takeCostFromLots 1 = .ok (.getfield 148, 3) := by decide +kernel
theorem dX4_takeCostFromLots_4 : decode cX4_takeCostFromLots 4 = .ok (.lneg, 1) := by decide +kernel
theorem dX4_takeCostFromLots_5 : decode cX4_takeCostFromLots 5 = .ok (.lstore_n 2, 1) := by decide +kernel
theorem dX4_takeCostFromLots_6 : decode cX4_takeCostFromLots 6 = .ok (.lconst 0, 1) := by decide +kernel
theorem dX4_takeCostFromLots_7 : decode cX4_takeCostFromLots 7 = .ok (.lstore 4, 2) := by decide +kernel
theorem dX4_takeCostFromLots_9 : decode cX4_takeCostFromLots 9 = .ok (.iconst 0, 1) := by decide +kernel
theorem dX4_takeCostFromLots_10 : decode cX4_takeCostFromLots 10 = .ok (.istore 6, 2) := by decide +kernel
theorem dX4_takeCostFromLots_12 : decode cX4_takeCostFromLots 12 = .ok (.iload 6, 2) := by decide +kernel
theorem dX4_takeCostFromLots_14 : decode cX4_takeCostFromLots 14 = .ok (.aload_n 1, 1) := by decide +kernel
theorem dX4_takeCostFromLots_15 : decode cX4_takeCostFromLots 15 = .ok (.getfield 198, 3) := by decide +kernel
theorem dX4_takeCostFromLots_18 : decode cX4_takeCostFromLots 18 = .ok (.if_icmp .ge 128, 3) := by decide +kernel
theorem dX4_takeCostFromLots_21 : decode cX4_takeCostFromLots 21 = .ok (.iload 6, 2) := by decide +kernel
theorem dX4_takeCostFromLots_23 : decode cX4_takeCostFromLots 23 = .ok (.aload_n 0, 1) := by decide +kernel
theorem dX4_takeCostFromLots_24 : decode cX4_takeCostFromLots 24 = .ok (.getfield 19, 3) := by decide +kernel
theorem dX4_takeCostFromLots_27 : decode cX4_takeCostFromLots 27 = .ok (.invokevirtual 44, 3) := by decide +kernel
theorem dX4_takeCostFromLots_30 : decode cX4_takeCostFromLots 30 = .ok (.if_icmp .ge 116, 3) := by decide +kernel
theorem dX4_takeCostFromLots_33 : decode cX4_takeCostFromLots 33 = .ok (.lload_n 2, 1) := by decide +kernel
theorem dX4_takeCostFromLots_34 : decode cX4_takeCostFromLots 34 = .ok (.lconst 0, 1) := by decide +kernel
theorem dX4_takeCostFromLots_35 : decode cX4_takeCostFromLots 35 = .ok (.lcmp, 1) := by decide +kernel
theorem dX4_takeCostFromLots_36 : decode cX4_takeCostFromLots 36 = .ok (.ifCond .le 110, 3) := by decide +kernel
theorem dX4_takeCostFromLots_39 : decode cX4_takeCostFromLots 39 = .ok (.aload_n 0, 1) := by decide +kernel
theorem dX4_takeCostFromLots_40 : decode cX4_takeCostFromLots 40 = .ok (.getfield 19, 3) := by decide +kernel
theorem dX4_takeCostFromLots_43 : decode cX4_takeCostFromLots 43 = .ok (.iload 6, 2) := by decide +kernel
theorem dX4_takeCostFromLots_45 : decode cX4_takeCostFromLots 45 = .ok (.invokevirtual 60, 3) := by decide +kernel
theorem dX4_takeCostFromLots_48 : decode cX4_takeCostFromLots 48 = .ok (.checkcast 135, 3) := by decide +kernel
theorem dX4_takeCostFromLots_51 : decode cX4_takeCostFromLots 51 = .ok (.astore 7, 2) := by decide +kernel
theorem dX4_takeCostFromLots_53 : decode cX4_takeCostFromLots 53 = .ok (.aload 7, 2) := by decide +kernel
theorem dX4_takeCostFromLots_55 : decode cX4_takeCostFromLots 55 = .ok (.getfield 144, 3) := by decide +kernel
theorem dX4_takeCostFromLots_58 : decode cX4_takeCostFromLots 58 = .ok (.aload_n 1, 1) := by decide +kernel
theorem dX4_takeCostFromLots_59 : decode cX4_takeCostFromLots 59 = .ok (.getfield 144, 3) := by decide +kernel
theorem dX4_takeCostFromLots_62 : decode cX4_takeCostFromLots 62 = .ok (.if_acmp .ne 78, 3) := by decide +kernel
theorem dX4_takeCostFromLots_65 : decode cX4_takeCostFromLots 65 = .ok (.aload 7, 2) := by decide +kernel
theorem dX4_takeCostFromLots_67 : decode cX4_takeCostFromLots 67 = .ok (.getfield 195, 3) := by decide +kernel
theorem dX4_takeCostFromLots_70 : decode cX4_takeCostFromLots 70 = .ok (.lconst 0, 1) := by decide +kernel
theorem dX4_takeCostFromLots_71 : decode cX4_takeCostFromLots 71 = .ok (.lcmp, 1) := by decide +kernel
theorem dX4_takeCostFromLots_72 : decode cX4_takeCostFromLots 72 = .ok (.ifCond .le 68, 3) := by decide +kernel
theorem dX4_takeCostFromLots_75 : decode cX4_takeCostFromLots 75 = .ok (.lload_n 2, 1) := by decide +kernel
theorem dX4_takeCostFromLots_76 : decode cX4_takeCostFromLots 76 = .ok (.aload 7, 2) := by decide +kernel
theorem dX4_takeCostFromLots_78 : decode cX4_takeCostFromLots 78 = .ok (.getfield 195, 3) := by decide +kernel
theorem dX4_takeCostFromLots_81 : decode cX4_takeCostFromLots 81 = .ok (.invokestatic 254, 3) := by decide +kernel
theorem dX4_takeCostFromLots_84 : decode cX4_takeCostFromLots 84 = .ok (.lstore 8, 2) := by decide +kernel
theorem dX4_takeCostFromLots_86 : decode cX4_takeCostFromLots 86 = .ok (.aload 7, 2) := by decide +kernel
theorem dX4_takeCostFromLots_88 : decode cX4_takeCostFromLots 88 = .ok (.getfield 199, 3) := by decide +kernel
theorem dX4_takeCostFromLots_91 : decode cX4_takeCostFromLots 91 = .ok (.lload 8, 2) := by decide +kernel
theorem dX4_takeCostFromLots_93 : decode cX4_takeCostFromLots 93 = .ok (.lmul, 1) := by decide +kernel
theorem dX4_takeCostFromLots_94 : decode cX4_takeCostFromLots 94 = .ok (.aload 7, 2) := by decide +kernel
theorem dX4_takeCostFromLots_96 : decode cX4_takeCostFromLots 96 = .ok (.getfield 195, 3) := by decide +kernel
theorem dX4_takeCostFromLots_99 : decode cX4_takeCostFromLots 99 = .ok (.invokestatic 236, 3) := by decide +kernel
theorem dX4_takeCostFromLots_102 : decode cX4_takeCostFromLots 102 = .ok (.lstore 10, 2) := by decide +kernel
theorem dX4_takeCostFromLots_104 : decode cX4_takeCostFromLots 104 = .ok (.aload 7, 2) := by decide +kernel
theorem dX4_takeCostFromLots_106 : decode cX4_takeCostFromLots 106 = .ok (.dup, 1) := by decide +kernel
theorem dX4_takeCostFromLots_107 : decode cX4_takeCostFromLots 107 = .ok (.getfield 195, 3) := by decide +kernel
theorem dX4_takeCostFromLots_110 : decode cX4_takeCostFromLots 110 = .ok (.lload 8, 2) := by decide +kernel
theorem dX4_takeCostFromLots_112 : decode cX4_takeCostFromLots 112 = .ok (.lsub, 1) := by decide +kernel
theorem dX4_takeCostFromLots_113 : decode cX4_takeCostFromLots 113 = .ok (.putfield 195, 3) := by decide +kernel
theorem dX4_takeCostFromLots_116 : decode cX4_takeCostFromLots 116 = .ok (.aload 7, 2) := by decide +kernel
theorem dX4_takeCostFromLots_118 : decode cX4_takeCostFromLots 118 = .ok (.dup, 1) := by decide +kernel
theorem dX4_takeCostFromLots_119 : decode cX4_takeCostFromLots 119 = .ok (.getfield 199, 3) := by decide +kernel
theorem dX4_takeCostFromLots_122 : decode cX4_takeCostFromLots 122 = .ok (.lload 10, 2) := by decide +kernel
theorem dX4_takeCostFromLots_124 : decode cX4_takeCostFromLots 124 = .ok (.lsub, 1) := by decide +kernel
theorem dX4_takeCostFromLots_125 : decode cX4_takeCostFromLots 125 = .ok (.putfield 199, 3) := by decide +kernel
theorem dX4_takeCostFromLots_128 : decode cX4_takeCostFromLots 128 = .ok (.lload_n 2, 1) := by decide +kernel
theorem dX4_takeCostFromLots_129 : decode cX4_takeCostFromLots 129 = .ok (.lload 8, 2) := by decide +kernel
theorem dX4_takeCostFromLots_131 : decode cX4_takeCostFromLots 131 = .ok (.lsub, 1) := by decide +kernel
theorem dX4_takeCostFromLots_132 : decode cX4_takeCostFromLots 132 = .ok (.lstore_n 2, 1) := by decide +kernel
theorem dX4_takeCostFromLots_133 : decode cX4_takeCostFromLots 133 = .ok (.lload 4, 2) := by decide +kernel
theorem dX4_takeCostFromLots_135 : decode cX4_takeCostFromLots 135 = .ok (.lload 10, 2) := by decide +kernel
theorem dX4_takeCostFromLots_137 : decode cX4_takeCostFromLots 137 = .ok (.ladd, 1) := by decide +kernel
theorem dX4_takeCostFromLots_138 : decode cX4_takeCostFromLots 138 = .ok (.lstore 4, 2) := by decide +kernel
theorem dX4_takeCostFromLots_140 : decode cX4_takeCostFromLots 140 = .ok (.iinc 6 1, 3) := by decide +kernel
theorem dX4_takeCostFromLots_143 : decode cX4_takeCostFromLots 143 = .ok (.goto (-131), 3) := by decide +kernel
theorem dX4_takeCostFromLots_146 : decode cX4_takeCostFromLots 146 = .ok (.lload 4, 2) := by decide +kernel
theorem dX4_takeCostFromLots_148 : decode cX4_takeCostFromLots 148 = .ok (.lreturn, 1) := by decide +kernel
theorem dX4_addGain_0 : decode cX4_addGain 0 = .ok (.iload_n 1, 1) := by decide +kernel
theorem dX4_addGain_1 : decode cX4_addGain 1 = .ok (.ifCond .lt 22, 3) := by decide +kernel
theorem dX4_addGain_4 : decode cX4_addGain 4 = .ok (.iload_n 1, 1) := by decide +kernel
theorem dX4_addGain_5 : decode cX4_addGain 5 = .ok (.aload_n 0, 1) := by decide +kernel
theorem dX4_addGain_6 : decode cX4_addGain 6 = .ok (.getfield 204, 3) := by decide +kernel
theorem dX4_addGain_9 : decode cX4_addGain 9 = .ok (.arraylength, 1) := by decide +kernel
theorem dX4_addGain_10 : decode cX4_addGain 10 = .ok (.if_icmp .ge 13, 3) := by decide +kernel
theorem dX4_addGain_13 : decode cX4_addGain 13 = .ok (.aload_n 0, 1) := by decide +kernel
theorem dX4_addGain_14 : decode cX4_addGain 14 = .ok (.getfield 204, 3) := by decide +kernel
theorem dX4_addGain_17 : decode cX4_addGain 17 = .ok (.iload_n 1, 1) := by decide +kernel
theorem dX4_addGain_18 : decode cX4_addGain 18 = .ok (.dup2, 1) := by decide +kernel
theorem dX4_addGain_19 : decode cX4_addGain 19 = .ok (.laload, 1) := by decide +kernel
theorem dX4_addGain_20 : decode cX4_addGain 20 = .ok (.lload_n 2, 1) := by decide +kernel
theorem dX4_addGain_21 : decode cX4_addGain 21 = .ok (.ladd, 1) := by decide +kernel
theorem dX4_addGain_22 : decode cX4_addGain 22 = .ok (.lastore, 1) := by decide +kernel
theorem dX4_addGain_23 : decode cX4_addGain 23 = .ok (.return_, 1) := by decide +kernel
set_option maxRecDepth 20000 in
theorem ggX4_salesKeepTheirParts_Jx4a65c_size_8abf5 : GoodIn wsX4_salesKeepTheirParts wsJx4a65c_size_8abf5 := goodIn_r _ [10, 11, 43, 44, 45] (by decide +kernel) (by decide +kernel)
set_option maxRecDepth 20000 in
theorem gX4_salesKeepTheirParts_Jx4a65c_size_8abf5 : GoodIn wsX4_salesKeepTheirParts (wsV RX4 44 RJx4a65c yJx4a65c_size_8abf5 wsJx4a65c_size_8abf5) := goodIn_app (goodIn_of _ (by decide +kernel)) ggX4_salesKeepTheirParts_Jx4a65c_size_8abf5
set_option maxRecDepth 20000 in
theorem ggX4_salesKeepTheirParts_Jx4a65c_get_915e3 : GoodIn wsX4_salesKeepTheirParts wsJx4a65c_get_915e3 := goodIn_r _ [15, 11, 16, 17, 18, 19, 20, 21, 22, 23, 24, 25, 26, 9, 27, 28, 43, 44, 45] (by decide +kernel) (by decide +kernel)
set_option maxRecDepth 20000 in
theorem gX4_salesKeepTheirParts_Jx4a65c_get_915e3 : GoodIn wsX4_salesKeepTheirParts (wsV RX4 60 RJx4a65c yJx4a65c_get_915e3 wsJx4a65c_get_915e3) := goodIn_app (goodIn_of _ (by decide +kernel)) ggX4_salesKeepTheirParts_Jx4a65c_get_915e3
theorem dX4_salesKeepTheirParts_0 : decode cX4_salesKeepTheirParts 0 = .ok (.lconst 0, 1) := by decide +kernel
theorem dX4_salesKeepTheirParts_1 : decode cX4_salesKeepTheirParts 1 = .ok (.lstore_n 2, 1) := by decide +kernel
theorem dX4_salesKeepTheirParts_2 : decode cX4_salesKeepTheirParts 2 = .ok (.iconst 0, 1) := by decide +kernel
theorem dX4_salesKeepTheirParts_3 : decode cX4_salesKeepTheirParts 3 = .ok (.istore 4, 2) := by decide +kernel
theorem dX4_salesKeepTheirParts_5 : decode cX4_salesKeepTheirParts 5 = .ok (.iload 4, 2) := by decide +kernel
theorem dX4_salesKeepTheirParts_7 : decode cX4_salesKeepTheirParts 7 = .ok (.aload_n 0, 1) := by decide +kernel
theorem dX4_salesKeepTheirParts_8 : decode cX4_salesKeepTheirParts 8 = .ok (.getfield 19, 3) := by decide +kernel
theorem dX4_salesKeepTheirParts_11 : decode cX4_salesKeepTheirParts 11 = .ok (.invokevirtual 44, 3) := by decide +kernel
theorem dX4_salesKeepTheirParts_14 : decode cX4_salesKeepTheirParts 14 = .ok (.if_icmp .ge 65, 3) := by decide +kernel
theorem dX4_salesKeepTheirParts_17 : decode cX4_salesKeepTheirParts 17 = .ok (.aload_n 0, 1) := by decide +kernel
theorem dX4_salesKeepTheirParts_18 : decode cX4_salesKeepTheirParts 18 = .ok (.getfield 19, 3) := by decide +kernel
theorem dX4_salesKeepTheirParts_21 : decode cX4_salesKeepTheirParts 21 = .ok (.iload 4, 2) := by decide +kernel
theorem dX4_salesKeepTheirParts_23 : decode cX4_salesKeepTheirParts 23 = .ok (.invokevirtual 60, 3) := by decide +kernel
theorem dX4_salesKeepTheirParts_26 : decode cX4_salesKeepTheirParts 26 = .ok (.checkcast 135, 3) := by decide +kernel
theorem dX4_salesKeepTheirParts_29 : decode cX4_salesKeepTheirParts 29 = .ok (.astore 5, 2) := by decide +kernel
theorem dX4_salesKeepTheirParts_31 : decode cX4_salesKeepTheirParts 31 = .ok (.aload 5, 2) := by decide +kernel
theorem dX4_salesKeepTheirParts_33 : decode cX4_salesKeepTheirParts 33 = .ok (.getfield 144, 3) := by decide +kernel
theorem dX4_salesKeepTheirParts_36 : decode cX4_salesKeepTheirParts 36 = .ok (.aload_n 1, 1) := by decide +kernel
theorem dX4_salesKeepTheirParts_37 : decode cX4_salesKeepTheirParts 37 = .ok (.getfield 144, 3) := by decide +kernel
theorem dX4_salesKeepTheirParts_40 : decode cX4_salesKeepTheirParts 40 = .ok (.if_acmp .ne 33, 3) := by decide +kernel
theorem dX4_salesKeepTheirParts_43 : decode cX4_salesKeepTheirParts 43 = .ok (.aload 5, 2) := by decide +kernel
theorem dX4_salesKeepTheirParts_45 : decode cX4_salesKeepTheirParts 45 = .ok (.getfield 134, 3) := by decide +kernel
theorem dX4_salesKeepTheirParts_48 : decode cX4_salesKeepTheirParts 48 = .ok (.ifCond .eq 25, 3) := by decide +kernel
theorem dX4_salesKeepTheirParts_51 : decode cX4_salesKeepTheirParts 51 = .ok (.aload 5, 2) := by decide +kernel
theorem dX4_salesKeepTheirParts_53 : decode cX4_salesKeepTheirParts 53 = .ok (.aload_n 1, 1) := by decide +kernel
theorem dX4_salesKeepTheirParts_54 : decode cX4_salesKeepTheirParts 54 = .ok (.if_acmp .eq 19, 3) := by decide +kernel
theorem dX4_salesKeepTheirParts_57 : decode cX4_salesKeepTheirParts 57 = .ok (.lload_n 2, 1) := by decide +kernel
theorem dX4_salesKeepTheirParts_58 : decode cX4_salesKeepTheirParts 58 = .ok (.aload 5, 2) := by decide +kernel
theorem dX4_salesKeepTheirParts_60 : decode cX4_salesKeepTheirParts 60 = .ok (.getfield 148, 3) := by decide +kernel
theorem dX4_salesKeepTheirParts_63 : decode cX4_salesKeepTheirParts 63 = .ok (.ladd, 1) := by decide +kernel
theorem dX4_salesKeepTheirParts_64 : decode cX4_salesKeepTheirParts 64 = .ok (.lstore_n 2, 1) := by decide +kernel
theorem dX4_salesKeepTheirParts_65 : decode cX4_salesKeepTheirParts 65 = .ok (.lload_n 2, 1) := by decide +kernel
theorem dX4_salesKeepTheirParts_66 : decode cX4_salesKeepTheirParts 66 = .ok (.lconst 0, 1) := by decide +kernel
theorem dX4_salesKeepTheirParts_67 : decode cX4_salesKeepTheirParts 67 = .ok (.lcmp, 1) := by decide +kernel
theorem dX4_salesKeepTheirParts_68 : decode cX4_salesKeepTheirParts 68 = .ok (.ifCond .ge 5, 3) := by decide +kernel
theorem dX4_salesKeepTheirParts_71 : decode cX4_salesKeepTheirParts 71 = .ok (.iconst 0, 1) := by decide +kernel
theorem dX4_salesKeepTheirParts_72 : decode cX4_salesKeepTheirParts 72 = .ok (.ireturn, 1) := by decide +kernel
theorem dX4_salesKeepTheirParts_73 : decode cX4_salesKeepTheirParts 73 = .ok (.iinc 4 1, 3) := by decide +kernel
theorem dX4_salesKeepTheirParts_76 : decode cX4_salesKeepTheirParts 76 = .ok (.goto (-71), 3) := by decide +kernel
theorem dX4_salesKeepTheirParts_79 : decode cX4_salesKeepTheirParts 79 = .ok (.iconst 1, 1) := by decide +kernel
theorem dX4_salesKeepTheirParts_80 : decode cX4_salesKeepTheirParts 80 = .ok (.ireturn, 1) := by decide +kernel
set_option maxRecDepth 20000 in
theorem ggX4_findLotsAnew_J7_fill_d0a16 : GoodIn wsX4_findLotsAnew wsJ7_fill_d0a16 := goodIn_r _ [12] (by decide +kernel) (by decide +kernel)
set_option maxRecDepth 20000 in
theorem gX4_findLotsAnew_J7_fill_d0a16 : GoodIn wsX4_findLotsAnew (va_wsS RX4 288 yJ7_fill_d0a16 wsJ7_fill_d0a16) := goodIn_app (goodIn_of _ (by decide +kernel)) ggX4_findLotsAnew_J7_fill_d0a16
set_option maxRecDepth 20000 in
theorem ggX4_findLotsAnew_Jx4a65c_size_8abf5 : GoodIn wsX4_findLotsAnew wsJx4a65c_size_8abf5 := goodIn_r _ [17, 18, 97, 98, 99] (by decide +kernel) (by decide +kernel)
set_option maxRecDepth 20000 in
theorem gX4_findLotsAnew_Jx4a65c_size_8abf5 : GoodIn wsX4_findLotsAnew (wsV RX4 44 RJx4a65c yJx4a65c_size_8abf5 wsJx4a65c_size_8abf5) := goodIn_app (goodIn_of _ (by decide +kernel)) ggX4_findLotsAnew_Jx4a65c_size_8abf5
set_option maxRecDepth 20000 in
theorem ggX4_findLotsAnew_Jx4a65c_get_915e3 : GoodIn wsX4_findLotsAnew wsJx4a65c_get_915e3 := goodIn_r _ [22, 18, 23, 24, 25, 26, 27, 28, 29, 30, 31, 32, 33, 16, 34, 35, 97, 98, 99] (by decide +kernel) (by decide +kernel)
set_option maxRecDepth 20000 in
theorem gX4_findLotsAnew_Jx4a65c_get_915e3 : GoodIn wsX4_findLotsAnew (wsV RX4 60 RJx4a65c yJx4a65c_get_915e3 wsJx4a65c_get_915e3) := goodIn_app (goodIn_of _ (by decide +kernel)) ggX4_findLotsAnew_Jx4a65c_get_915e3
set_option maxRecDepth 20000 in
theorem ggX4_findLotsAnew_X4_enterIntoLots : GoodIn wsX4_findLotsAnew wsX4_enterIntoLots := goodIn_r _ [40, 4, 5, 41, 42, 6, 7, 43, 44, 45, 46, 47, 48, 49, 50, 39, 51, 52, 53, 54, 55, 56, 57, 58, 59, 60, 61, 62, 63, 2, 3, 64, 65, 66, 67, 13, 14, 15, 16, 17, 18, 19, 20, 21, 22, 23, 24, 25, 26, 27, 28, 29, 30, 31, 32, 33, 34, 35, 68, 69, 70, 71, 72, 73, 1, 84, 85, 86, 87, 88, 89, 90, 91, 92, 93, 94, 95, 96, 79, 80, 81, 82, 83, 97, 98, 99, 74, 75, 76, 77, 78] (by decide +kernel) (by decide +kernel)
set_option maxRecDepth 20000 in
theorem gX4_findLotsAnew_X4_enterIntoLots : GoodIn wsX4_findLotsAnew (wsV RX4 262 RX4 yX4_enterIntoLots wsX4_enterIntoLots) := goodIn_app (goodIn_of _ (by decide +kernel)) ggX4_findLotsAnew_X4_enterIntoLots
theorem dX4_findLotsAnew_0 : decode cX4_findLotsAnew 0 = .ok (.aload_n 1, 1) := by decide +kernel
theorem dX4_findLotsAnew_1 : decode cX4_findLotsAnew 1 = .ok (.getfield 204, 3) := by decide +kernel
theorem dX4_findLotsAnew_4 : decode cX4_findLotsAnew 4 = .ok (.lconst 0, 1) := by decide +kernel
theorem dX4_findLotsAnew_5 : decode cX4_findLotsAnew 5 = .ok (.invokestatic 288, 3) := by decide +kernel
theorem dX4_findLotsAnew_8 : decode cX4_findLotsAnew 8 = .ok (.iconst 0, 1) := by decide +kernel
theorem dX4_findLotsAnew_9 : decode cX4_findLotsAnew 9 = .ok (.istore_n 2, 1) := by decide +kernel
theorem dX4_findLotsAnew_10 : decode cX4_findLotsAnew 10 = .ok (.iload_n 2, 1) := by decide +kernel
theorem dX4_findLotsAnew_11 : decode cX4_findLotsAnew 11 = .ok (.aload_n 0, 1) := by decide +kernel
theorem dX4_findLotsAnew_12 : decode cX4_findLotsAnew 12 = .ok (.getfield 19, 3) := by decide +kernel
theorem dX4_findLotsAnew_15 : decode cX4_findLotsAnew 15 = .ok (.invokevirtual 44, 3) := by decide +kernel
theorem dX4_findLotsAnew_18 : decode cX4_findLotsAnew 18 = .ok (.if_icmp .ge 54, 3) := by decide +kernel
theorem dX4_findLotsAnew_21 : decode cX4_findLotsAnew 21 = .ok (.aload_n 0, 1) := by decide +kernel
theorem dX4_findLotsAnew_22 : decode cX4_findLotsAnew 22 = .ok (.getfield 19, 3) := by decide +kernel
theorem dX4_findLotsAnew_25 : decode cX4_findLotsAnew 25 = .ok (.iload_n 2, 1) := by decide +kernel
theorem dX4_findLotsAnew_26 : decode cX4_findLotsAnew 26 = .ok (.invokevirtual 60, 3) := by decide +kernel
theorem dX4_findLotsAnew_29 : decode cX4_findLotsAnew 29 = .ok (.checkcast 135, 3) := by decide +kernel
theorem dX4_findLotsAnew_32 : decode cX4_findLotsAnew 32 = .ok (.astore_n 3, 1) := by decide +kernel
theorem dX4_findLotsAnew_33 : decode cX4_findLotsAnew 33 = .ok (.aload_n 3, 1) := by decide +kernel
theorem dX4_findLotsAnew_34 : decode cX4_findLotsAnew 34 = .ok (.getfield 144, 3) := by decide +kernel
theorem dX4_findLotsAnew_37 : decode cX4_findLotsAnew 37 = .ok (.getfield 81, 3) := by decide +kernel
theorem dX4_findLotsAnew_40 : decode cX4_findLotsAnew 40 = .ok (.aload_n 1, 1) := by decide +kernel
theorem dX4_findLotsAnew_41 : decode cX4_findLotsAnew 41 = .ok (.if_acmp .ne 25, 3) := by decide +kernel
theorem dX4_findLotsAnew_44 : decode cX4_findLotsAnew 44 = .ok (.aload_n 3, 1) := by decide +kernel
theorem dX4_findLotsAnew_45 : decode cX4_findLotsAnew 45 = .ok (.lconst 0, 1) := by decide +kernel
theorem dX4_findLotsAnew_46 : decode cX4_findLotsAnew 46 = .ok (.putfield 195, 3) := by decide +kernel
theorem dX4_findLotsAnew_49 : decode cX4_findLotsAnew 49 = .ok (.aload_n 3, 1) := by decide +kernel
theorem dX4_findLotsAnew_50 : decode cX4_findLotsAnew 50 = .ok (.lconst 0, 1) := by decide +kernel
theorem dX4_findLotsAnew_51 : decode cX4_findLotsAnew 51 = .ok (.putfield 199, 3) := by decide +kernel
theorem dX4_findLotsAnew_54 : decode cX4_findLotsAnew 54 = .ok (.aload_n 3, 1) := by decide +kernel
theorem dX4_findLotsAnew_55 : decode cX4_findLotsAnew 55 = .ok (.getfield 134, 3) := by decide +kernel
theorem dX4_findLotsAnew_58 : decode cX4_findLotsAnew 58 = .ok (.ifCond .eq 8, 3) := by decide +kernel
theorem dX4_findLotsAnew_61 : decode cX4_findLotsAnew 61 = .ok (.aload_n 0, 1) := by decide +kernel
theorem dX4_findLotsAnew_62 : decode cX4_findLotsAnew 62 = .ok (.aload_n 3, 1) := by decide +kernel
theorem dX4_findLotsAnew_63 : decode cX4_findLotsAnew 63 = .ok (.invokevirtual 262, 3) := by decide +kernel
theorem dX4_findLotsAnew_66 : decode cX4_findLotsAnew 66 = .ok (.iinc 2 1, 3) := by decide +kernel
theorem dX4_findLotsAnew_69 : decode cX4_findLotsAnew 69 = .ok (.goto (-59), 3) := by decide +kernel
theorem dX4_findLotsAnew_72 : decode cX4_findLotsAnew 72 = .ok (.return_, 1) := by decide +kernel
theorem dX4_yearOf_0 : decode cX4_yearOf 0 = .ok (.iload_n 0, 1) := by decide +kernel
theorem dX4_yearOf_1 : decode cX4_yearOf 1 = .ok (.sipush 360, 3) := by decide +kernel
theorem dX4_yearOf_4 : decode cX4_yearOf 4 = .ok (.idiv, 1) := by decide +kernel
theorem dX4_yearOf_5 : decode cX4_yearOf 5 = .ok (.ireturn, 1) := by decide +kernel
theorem dX4_baseOf_0 : decode cX4_baseOf 0 = .ok (.lconst 0, 1) := by decide +kernel
theorem dX4_baseOf_1 : decode cX4_baseOf 1 = .ok (.lstore_n 2, 1) := by decide +kernel
theorem dX4_baseOf_2 : decode cX4_baseOf 2 = .ok (.iconst 0, 1) := by decide +kernel
theorem dX4_baseOf_3 : decode cX4_baseOf 3 = .ok (.istore 4, 2) := by decide +kernel
theorem dX4_baseOf_5 : decode cX4_baseOf 5 = .ok (.iload 4, 2) := by decide +kernel
theorem dX4_baseOf_7 : decode cX4_baseOf 7 = .ok (.iload_n 1, 1) := by decide +kernel
theorem dX4_baseOf_8 : decode cX4_baseOf 8 = .ok (.if_icmp .gt 33, 3) := by decide +kernel
theorem dX4_baseOf_11 : decode cX4_baseOf 11 = .ok (.iload 4, 2) := by decide +kernel
theorem dX4_baseOf_13 : decode cX4_baseOf 13 = .ok (.aload_n 0, 1) := by decide +kernel
theorem dX4_baseOf_14 : decode cX4_baseOf 14 = .ok (.getfield 204, 3) := by decide +kernel
theorem dX4_baseOf_17 : decode cX4_baseOf 17 = .ok (.arraylength, 1) := by decide +kernel
theorem dX4_baseOf_18 : decode cX4_baseOf 18 = .ok (.if_icmp .ge 23, 3) := by decide +kernel
theorem dX4_baseOf_21 : decode cX4_baseOf 21 = .ok (.lload_n 2, 1) := by decide +kernel
theorem dX4_baseOf_22 : decode cX4_baseOf 22 = .ok (.lconst 0, 1) := by decide +kernel
theorem dX4_baseOf_23 : decode cX4_baseOf 23 = .ok (.invokestatic 254, 3) := by decide +kernel
theorem dX4_baseOf_26 : decode cX4_baseOf 26 = .ok (.aload_n 0, 1) := by decide +kernel
theorem dX4_baseOf_27 : decode cX4_baseOf 27 = .ok (.getfield 204, 3) := by decide +kernel
theorem dX4_baseOf_30 : decode cX4_baseOf 30 = .ok (.iload 4, 2) := by decide +kernel
theorem dX4_baseOf_32 : decode cX4_baseOf 32 = .ok (.laload, 1) := by decide +kernel
theorem dX4_baseOf_33 : decode cX4_baseOf 33 = .ok (.ladd, 1) := by decide +kernel
theorem dX4_baseOf_34 : decode cX4_baseOf 34 = .ok (.lstore_n 2, 1) := by decide +kernel
theorem dX4_baseOf_35 : decode cX4_baseOf 35 = .ok (.iinc 4 1, 3) := by decide +kernel
theorem dX4_baseOf_38 : decode cX4_baseOf 38 = .ok (.goto (-33), 3) := by decide +kernel
theorem dX4_baseOf_41 : decode cX4_baseOf 41 = .ok (.lload_n 2, 1) := by decide +kernel
theorem dX4_baseOf_42 : decode cX4_baseOf 42 = .ok (.lconst 0, 1) := by decide +kernel
theorem dX4_baseOf_43 : decode cX4_baseOf 43 = .ok (.invokestatic 294, 3) := by decide +kernel
theorem dX4_baseOf_46 : decode cX4_baseOf 46 = .ok (.lreturn, 1) := by decide +kernel
set_option maxRecDepth 20000 in
theorem ggX4_settleTaxes_X4_yearOf : GoodIn wsX4_settleTaxes wsX4_yearOf := goodIn_r _ [8] (by decide +kernel) (by decide +kernel)
set_option maxRecDepth 20000 in
theorem gX4_settleTaxes_X4_yearOf : GoodIn wsX4_settleTaxes (va_wsS RX4 276 yX4_yearOf wsX4_yearOf) := goodIn_app (goodIn_of _ (by decide +kernel)) ggX4_settleTaxes_X4_yearOf
set_option maxRecDepth 20000 in
theorem ggX4_settleTaxes_X4_baseOf : GoodIn wsX4_settleTaxes wsX4_baseOf := goodIn_r _ [11, 12, 13, 14, 15, 16, 17, 18, 19, 25, 26, 27, 28, 29] (by decide +kernel) (by decide +kernel)
set_option maxRecDepth 20000 in
theorem gX4_settleTaxes_X4_baseOf : GoodIn wsX4_settleTaxes (va_wsS RX4 211 yX4_baseOf wsX4_baseOf) := goodIn_app (goodIn_of _ (by decide +kernel)) ggX4_settleTaxes_X4_baseOf
theorem dX4_settleTaxes_0 : decode cX4_settleTaxes 0 = .ok (.lconst 0, 1) := by decide +kernel
theorem dX4_settleTaxes_1 : decode cX4_settleTaxes 1 = .ok (.lstore_n 2, 1) := by decide +kernel
theorem dX4_settleTaxes_2 : decode cX4_settleTaxes 2 = .ok (.iconst 0, 1) := by decide +kernel
theorem dX4_settleTaxes_3 : decode cX4_settleTaxes 3 = .ok (.istore 4, 2) := by decide +kernel
theorem dX4_settleTaxes_5 : decode cX4_settleTaxes 5 = .ok (.iload 4, 2) := by decide +kernel
theorem dX4_settleTaxes_7 : decode cX4_settleTaxes 7 = .ok (.aload_n 0, 1) := by decide +kernel
theorem dX4_settleTaxes_8 : decode cX4_settleTaxes 8 = .ok (.getfield 164, 3) := by decide +kernel
theorem dX4_settleTaxes_11 : decode cX4_settleTaxes 11 = .ok (.invokestatic 276, 3) := by decide +kernel
theorem dX4_settleTaxes_14 : decode cX4_settleTaxes 14 = .ok (.if_icmp .ge 53, 3) := by decide +kernel
theorem dX4_settleTaxes_17 : decode cX4_settleTaxes 17 = .ok (.iload 4, 2) := by decide +kernel
theorem dX4_settleTaxes_19 : decode cX4_settleTaxes 19 = .ok (.aload_n 1, 1) := by decide +kernel
theorem dX4_settleTaxes_20 : decode cX4_settleTaxes 20 = .ok (.getfield 208, 3) := by decide +kernel
theorem dX4_settleTaxes_23 : decode cX4_settleTaxes 23 = .ok (.arraylength, 1) := by decide +kernel
theorem dX4_settleTaxes_24 : decode cX4_settleTaxes 24 = .ok (.if_icmp .ge 43, 3) := by decide +kernel
theorem dX4_settleTaxes_27 : decode cX4_settleTaxes 27 = .ok (.aload_n 1, 1) := by decide +kernel
theorem dX4_settleTaxes_28 : decode cX4_settleTaxes 28 = .ok (.iload 4, 2) := by decide +kernel
theorem dX4_settleTaxes_30 : decode cX4_settleTaxes 30 = .ok (.invokestatic 211, 3) := by decide +kernel
theorem dX4_settleTaxes_33 : decode cX4_settleTaxes 33 = .ok (.ldc2_w 215, 3) := by decide +kernel
theorem dX4_settleTaxes_36 : decode cX4_settleTaxes 36 = .ok (.ldiv, 1) := by decide +kernel
theorem dX4_settleTaxes_37 : decode cX4_settleTaxes 37 = .ok (.lstore 5, 2) := by decide +kernel
theorem dX4_settleTaxes_39 : decode cX4_settleTaxes 39 = .ok (.lload_n 2, 1) := by decide +kernel
theorem dX4_settleTaxes_40 : decode cX4_settleTaxes 40 = .ok (.aload_n 1, 1) := by decide +kernel
theorem dX4_settleTaxes_41 : decode cX4_settleTaxes 41 = .ok (.getfield 208, 3) := by decide +kernel
theorem dX4_settleTaxes_44 : decode cX4_settleTaxes 44 = .ok (.iload 4, 2) := by decide +kernel
theorem dX4_settleTaxes_46 : decode cX4_settleTaxes 46 = .ok (.laload, 1) := by decide +kernel
theorem dX4_settleTaxes_47 : decode cX4_settleTaxes 47 = .ok (.lload 5, 2) := by decide +kernel
theorem dX4_settleTaxes_49 : decode cX4_settleTaxes 49 = .ok (.lsub, 1) := by decide +kernel
theorem dX4_settleTaxes_50 : decode cX4_settleTaxes 50 = .ok (.ladd, 1) := by decide +kernel
theorem dX4_settleTaxes_51 : decode cX4_settleTaxes 51 = .ok (.lstore_n 2, 1) := by decide +kernel
theorem dX4_settleTaxes_52 : decode cX4_settleTaxes 52 = .ok (.aload_n 1, 1) := by decide +kernel
theorem dX4_settleTaxes_53 : decode cX4_settleTaxes 53 = .ok (.getfield 208, 3) := by decide +kernel
theorem dX4_settleTaxes_56 : decode cX4_settleTaxes 56 = .ok (.iload 4, 2) := by decide +kernel
theorem dX4_settleTaxes_58 : decode cX4_settleTaxes 58 = .ok (.lload 5, 2) := by decide +kernel
theorem dX4_settleTaxes_60 : decode cX4_settleTaxes 60 = .ok (.lastore, 1) := by decide +kernel
theorem dX4_settleTaxes_61 : decode cX4_settleTaxes 61 = .ok (.iinc 4 1, 3) := by decide +kernel
theorem dX4_settleTaxes_64 : decode cX4_settleTaxes 64 = .ok (.goto (-59), 3) := by decide +kernel
theorem dX4_settleTaxes_67 : decode cX4_settleTaxes 67 = .ok (.aload_n 1, 1) := by decide +kernel
theorem dX4_settleTaxes_68 : decode cX4_settleTaxes 68 = .ok (.dup, 1) := by decide +kernel
theorem dX4_settleTaxes_69 : decode cX4_settleTaxes 69 = .ok (.getfield 73, 3) := by decide +kernel
theorem dX4_settleTaxes_72 : decode cX4_settleTaxes 72 = .ok (.lload_n 2, 1) := by decide +kernel
theorem dX4_settleTaxes_73 : decode cX4_settleTaxes 73 = .ok (.ladd, 1) := by decide +kernel
theorem dX4_settleTaxes_74 : decode cX4_settleTaxes 74 = .ok (.putfield 73, 3) := by decide +kernel
theorem dX4_settleTaxes_77 : decode cX4_settleTaxes 77 = .ok (.lload_n 2, 1) := by decide +kernel
theorem dX4_settleTaxes_78 : decode cX4_settleTaxes 78 = .ok (.lreturn, 1) := by decide +kernel
set_option maxRecDepth 20000 in
theorem ggX4_endDay_Jx4a65c_size_8abf5 : GoodIn wsX4_endDay wsJx4a65c_size_8abf5 := goodIn_r _ [12, 13, 69, 70, 71] (by decide +kernel) (by decide +kernel)
set_option maxRecDepth 20000 in
theorem gX4_endDay_Jx4a65c_size_8abf5 : GoodIn wsX4_endDay (wsV RX4 44 RJx4a65c yJx4a65c_size_8abf5 wsJx4a65c_size_8abf5) := goodIn_app (goodIn_of _ (by decide +kernel)) ggX4_endDay_Jx4a65c_size_8abf5
set_option maxRecDepth 20000 in
theorem ggX4_endDay_Jx4a65c_get_915e3 : GoodIn wsX4_endDay wsJx4a65c_get_915e3 := goodIn_r _ [17, 13, 18, 19, 20, 21, 22, 23, 24, 25, 26, 27, 28, 11, 29, 30, 69, 70, 71] (by decide +kernel) (by decide +kernel)
set_option maxRecDepth 20000 in
theorem gX4_endDay_Jx4a65c_get_915e3 : GoodIn wsX4_endDay (wsV RX4 60 RJx4a65c yJx4a65c_get_915e3 wsJx4a65c_get_915e3) := goodIn_app (goodIn_of _ (by decide +kernel)) ggX4_endDay_Jx4a65c_get_915e3
set_option maxRecDepth 20000 in
theorem ggX4_endDay_X4_tradeUnits : GoodIn wsX4_endDay wsX4_tradeUnits := goodIn_r _ [35, 36, 3, 4, 37, 38, 65, 66, 67, 68, 60, 61, 62, 63, 64] (by decide +kernel) (by decide +kernel)
set_option maxRecDepth 20000 in
theorem gX4_endDay_X4_tradeUnits : GoodIn wsX4_endDay (wsV RX4 268 RX4 yX4_tradeUnits wsX4_tradeUnits) := goodIn_app (goodIn_of _ (by decide +kernel)) ggX4_endDay_X4_tradeUnits
set_option maxRecDepth 20000 in
theorem ggX4_endDay_X4_settleTaxes : GoodIn wsX4_endDay wsX4_settleTaxes := goodIn_r _ [42, 5, 43, 44, 45, 46, 47, 34, 48, 49, 50, 51, 52, 53, 54, 55, 56, 57, 58, 59, 60, 61, 62, 63, 64, 72, 73, 74, 75, 76] (by decide +kernel) (by decide +kernel)
set_option maxRecDepth 20000 in
theorem gX4_endDay_X4_settleTaxes : GoodIn wsX4_endDay (wsV RX4 161 RX4 yX4_settleTaxes wsX4_settleTaxes) := goodIn_app (goodIn_of _ (by decide +kernel)) ggX4_endDay_X4_settleTaxes
theorem dX4_endDay_0 : decode cX4_endDay 0 = .ok (.iconst 0, 1) := by decide +kernel
theorem dX4_endDay_1 : decode cX4_endDay 1 = .ok (.istore_n 1, 1) := by decide +kernel
theorem dX4_endDay_2 : decode cX4_endDay 2 = .ok (.iload_n 1, 1) := by decide +kernel
theorem dX4_endDay_3 : decode cX4_endDay 3 = .ok (.aload_n 0, 1) := by decide +kernel
theorem dX4_endDay_4 : decode cX4_endDay 4 = .ok (.getfield 10, 3) := by decide +kernel
theorem dX4_endDay_7 : decode cX4_endDay 7 = .ok (.invokevirtual 44, 3) := by decide +kernel
theorem dX4_endDay_10 : decode cX4_endDay 10 = .ok (.if_icmp .ge 35, 3) := by decide +kernel
theorem dX4_endDay_13 : decode cX4_endDay 13 = .ok (.aload_n 0, 1) := by decide +kernel
theorem dX4_endDay_14 : decode cX4_endDay 14 = .ok (.getfield 10, 3) := by decide +kernel
theorem dX4_endDay_17 : decode cX4_endDay 17 = .ok (.iload_n 1, 1) := by decide +kernel
theorem dX4_endDay_18 : decode cX4_endDay 18 = .ok (.invokevirtual 60, 3) := by decide +kernel
theorem dX4_endDay_21 : decode cX4_endDay 21 = .ok (.checkcast 22, 3) := by decide +kernel
theorem dX4_endDay_24 : decode cX4_endDay 24 = .ok (.astore_n 2, 1) := by decide +kernel
theorem dX4_endDay_25 : decode cX4_endDay 25 = .ok (.aload_n 0, 1) := by decide +kernel
theorem dX4_endDay_26 : decode cX4_endDay 26 = .ok (.aload_n 2, 1) := by decide +kernel
theorem dX4_endDay_27 : decode cX4_endDay 27 = .ok (.aload_n 2, 1) := by decide +kernel
theorem dX4_endDay_28 : decode cX4_endDay 28 = .ok (.getfield 173, 3) := by decide +kernel
theorem dX4_endDay_31 : decode cX4_endDay 31 = .ok (.ldc2_w 234, 3) := by decide +kernel
theorem dX4_endDay_34 : decode cX4_endDay 34 = .ok (.ldiv, 1) := by decide +kernel
theorem dX4_endDay_35 : decode cX4_endDay 35 = .ok (.lneg, 1) := by decide +kernel
theorem dX4_endDay_36 : decode cX4_endDay 36 = .ok (.invokevirtual 268, 3) := by decide +kernel
theorem dX4_endDay_39 : decode cX4_endDay 39 = .ok (.iinc 1 1, 3) := by decide +kernel
theorem dX4_endDay_42 : decode cX4_endDay 42 = .ok (.goto (-40), 3) := by decide +kernel
theorem dX4_endDay_45 : decode cX4_endDay 45 = .ok (.aload_n 0, 1) := by decide +kernel
theorem dX4_endDay_46 : decode cX4_endDay 46 = .ok (.dup, 1) := by decide +kernel
theorem dX4_endDay_47 : decode cX4_endDay 47 = .ok (.getfield 164, 3) := by decide +kernel
theorem dX4_endDay_50 : decode cX4_endDay 50 = .ok (.iconst 1, 1) := by decide +kernel
theorem dX4_endDay_51 : decode cX4_endDay 51 = .ok (.iadd, 1) := by decide +kernel
theorem dX4_endDay_52 : decode cX4_endDay 52 = .ok (.putfield 164, 3) := by decide +kernel
theorem dX4_endDay_55 : decode cX4_endDay 55 = .ok (.aload_n 0, 1) := by decide +kernel
theorem dX4_endDay_56 : decode cX4_endDay 56 = .ok (.getfield 164, 3) := by decide +kernel
theorem dX4_endDay_59 : decode cX4_endDay 59 = .ok (.sipush 360, 3) := by decide +kernel
theorem dX4_endDay_62 : decode cX4_endDay 62 = .ok (.irem, 1) := by decide +kernel
theorem dX4_endDay_63 : decode cX4_endDay 63 = .ok (.ifCond .ne 38, 3) := by decide +kernel
theorem dX4_endDay_66 : decode cX4_endDay 66 = .ok (.iconst 0, 1) := by decide +kernel
theorem dX4_endDay_67 : decode cX4_endDay 67 = .ok (.istore_n 1, 1) := by decide +kernel
theorem dX4_endDay_68 : decode cX4_endDay 68 = .ok (.iload_n 1, 1) := by decide +kernel
theorem dX4_endDay_69 : decode cX4_endDay 69 = .ok (.aload_n 0, 1) := by decide +kernel
theorem dX4_endDay_70 : decode cX4_endDay 70 = .ok (.getfield 16, 3) := by decide +kernel
theorem dX4_endDay_73 : decode cX4_endDay 73 = .ok (.invokevirtual 44, 3) := by decide +kernel
theorem dX4_endDay_76 : decode cX4_endDay 76 = .ok (.if_icmp .ge 25, 3) := by decide +kernel
theorem dX4_endDay_79 : decode cX4_endDay 79 = .ok (.aload_n 0, 1) := by decide +kernel
theorem dX4_endDay_80 : decode cX4_endDay 80 = .ok (.aload_n 0, 1) := by decide +kernel
theorem dX4_endDay_81 : decode cX4_endDay 81 = .ok (.getfield 16, 3) := by decide +kernel
theorem dX4_endDay_84 : decode cX4_endDay 84 = .ok (.iload_n 1, 1) := by decide +kernel
theorem dX4_endDay_85 : decode cX4_endDay 85 = .ok (.invokevirtual 60, 3) := by decide +kernel
theorem dX4_endDay_88 : decode cX4_endDay 88 = .ok (.checkcast 52, 3) := by decide +kernel
theorem dX4_endDay_91 : decode cX4_endDay 91 = .ok (.invokevirtual 161, 3) := by decide +kernel
theorem dX4_endDay_94 : decode cX4_endDay 94 = .ok (.pop2, 1) := by decide +kernel
theorem dX4_endDay_95 : decode cX4_endDay 95 = .ok (.iinc 1 1, 3) := by decide +kernel
theorem dX4_endDay_98 : decode cX4_endDay 98 = .ok (.goto (-30), 3) := by decide +kernel
theorem dX4_endDay_101 : decode cX4_endDay 101 = .ok (.return_, 1) := by decide +kernel
