theorem dX0_init_0 : decode cX0_init 0 = .ok (.aload_n 0, 1) := by decide +kernel
theorem dX0_init_1 : decode cX0_init 1 = .ok (.invokespecial 1, 3) := by decide +kernel
theorem dX0_init_4 : decode cX0_init 4 = .ok (.aload_n 0, 1) := by decide +kernel
theorem dX0_init_5 : decode cX0_init 5 = .ok (.bipush 36, 2) := by decide +kernel
theorem dX0_init_7 : decode cX0_init 7 = .ok (.newarray .int, 2) := by decide +kernel
theorem dX0_init_9 : decode cX0_init 9 = .ok (.putfield 9, 3) := by decide +kernel
theorem dX0_init_12 : decode cX0_init 12 = .ok (.return_, 1) := by decide +kernel
theorem dX0_become_0 : decode cX0_become 0 = .ok (.aload_n 0, 1) := by decide +kernel
theorem dX0_become_1 : decode cX0_become 1 = .ok (.aload_n 1, 1) := by decide +kernel
theorem dX0_become_2 : decode cX0_become 2 = .ok (.getfield 13, 3) := by decide +kernel
theorem dX0_become_5 : decode cX0_become 5 = .ok (.putfield 13, 3) := by decide +kernel
theorem dX0_become_8 : decode cX0_become 8 = .ok (.aload_n 1, 1) := by decide +kernel
theorem dX0_become_9 : decode cX0_become 9 = .ok (.getfield 9, 3) := by decide +kernel
theorem dX0_become_12 : decode cX0_become 12 = .ok (.iconst 0, 1) := by decide +kernel
theorem dX0_become_13 : decode cX0_become 13 = .ok (.aload_n 0, 1) := by decide +kernel
theorem dX0_become_14 : decode cX0_become 14 = .ok (.getfield 9, 3) := by decide +kernel
theorem dX0_become_17 : decode cX0_become 17 = .ok (.iconst 0, 1) := by decide +kernel
theorem dX0_become_18 : decode cX0_become 18 = .ok (.bipush 36, 2) := by decide +kernel
theorem dX0_become_20 : decode cX0_become 20 = .ok (.invokestatic 17, 3) := by decide +kernel
theorem dX0_become_23 : decode cX0_become 23 = .ok (.return_, 1) := by decide +kernel
theorem dX0_put_0 : decode cX0_put 0 = .ok (.aload_n 0, 1) := by decide +kernel
theorem dX0_put_1 : decode cX0_put 1 = .ok (.getfield 9, 3) := by decide +kernel
theorem dX0_put_4 : decode cX0_put 4 = .ok (.iconst 0, 1) := by decide +kernel
theorem dX0_put_5 : decode cX0_put 5 = .ok (.aload_n 0, 1) := by decide +kernel
theorem dX0_put_6 : decode cX0_put 6 = .ok (.getfield 9, 3) := by decide +kernel
theorem dX0_put_9 : decode cX0_put 9 = .ok (.iconst 3, 1) := by decide +kernel
theorem dX0_put_10 : decode cX0_put 10 = .ok (.bipush 33, 2) := by decide +kernel
theorem dX0_put_12 : decode cX0_put 12 = .ok (.invokestatic 17, 3) := by decide +kernel
theorem dX0_put_15 : decode cX0_put 15 = .ok (.aload_n 0, 1) := by decide +kernel
theorem dX0_put_16 : decode cX0_put 16 = .ok (.getfield 9, 3) := by decide +kernel
theorem dX0_put_19 : decode cX0_put 19 = .ok (.iconst 0, 1) := by decide +kernel
theorem dX0_put_20 : decode cX0_put 20 = .ok (.iload_n 1, 1) := by decide +kernel
theorem dX0_put_21 : decode cX0_put 21 = .ok (.iastore, 1) := by decide +kernel
theorem dX0_put_22 : decode cX0_put 22 = .ok (.aload_n 0, 1) := by decide +kernel
theorem dX0_put_23 : decode cX0_put 23 = .ok (.getfield 9, 3) := by decide +kernel
theorem dX0_put_26 : decode cX0_put 26 = .ok (.iconst 1, 1) := by decide +kernel
theorem dX0_put_27 : decode cX0_put 27 = .ok (.iload_n 2, 1) := by decide +kernel
theorem dX0_put_28 : decode cX0_put 28 = .ok (.iastore, 1) := by decide +kernel
theorem dX0_put_29 : decode cX0_put 29 = .ok (.aload_n 0, 1) := by decide +kernel
theorem dX0_put_30 : decode cX0_put 30 = .ok (.getfield 9, 3) := by decide +kernel
theorem dX0_put_33 : decode cX0_put 33 = .ok (.iconst 2, 1) := by decide +kernel
theorem dX0_put_34 : decode cX0_put 34 = .ok (.iload_n 3, 1) := by decide +kernel
theorem dX0_put_35 : decode cX0_put 35 = .ok (.iastore, 1) := by decide +kernel
theorem dX0_put_36 : decode cX0_put 36 = .ok (.aload_n 0, 1) := by decide +kernel
theorem dX0_put_37 : decode cX0_put 37 = .ok (.getfield 13, 3) := by decide +kernel
theorem dX0_put_40 : decode cX0_put 40 = .ok (.bipush 12, 2) := by decide +kernel
theorem dX0_put_42 : decode cX0_put 42 = .ok (.if_icmp .ge 13, 3) := by decide +kernel
theorem dX0_put_45 : decode cX0_put 45 = .ok (.aload_n 0, 1) := by decide +kernel
theorem dX0_put_46 : decode cX0_put 46 = .ok (.dup, 1) := by decide +kernel
theorem dX0_put_47 : decode cX0_put 47 = .ok (.getfield 13, 3) := by decide +kernel
theorem dX0_put_50 : decode cX0_put 50 = .ok (.iconst 1, 1) := by decide +kernel
theorem dX0_put_51 : decode cX0_put 51 = .ok (.iadd, 1) := by decide +kernel
theorem dX0_put_52 : decode cX0_put 52 = .ok (.putfield 13, 3) := by decide +kernel
theorem dX0_put_55 : decode cX0_put 55 = .ok (.return_, 1) := by decide +kernel
theorem dX0_part_0 : decode cX0_part 0 = .ok (.iload_n 1, 1) := by decide +kernel
theorem dX0_part_1 : decode cX0_part 1 = .ok (.iconst 3, 1) := by decide +kernel
theorem dX0_part_2 : decode cX0_part 2 = .ok (.imul, 1) := by decide +kernel
theorem dX0_part_3 : decode cX0_part 3 = .ok (.iload_n 2, 1) := by decide +kernel
theorem dX0_part_4 : decode cX0_part 4 = .ok (.iadd, 1) := by decide +kernel
theorem dX0_part_5 : decode cX0_part 5 = .ok (.istore_n 3, 1) := by decide +kernel
theorem dX0_part_6 : decode cX0_part 6 = .ok (.iload_n 3, 1) := by decide +kernel
theorem dX0_part_7 : decode cX0_part 7 = .ok (.ifCond .lt 21, 3) := by decide +kernel
theorem dX0_part_10 : decode cX0_part 10 = .ok (.iload_n 3, 1) := by decide +kernel
theorem dX0_part_11 : decode cX0_part 11 = .ok (.aload_n 0, 1) := by decide +kernel
theorem dX0_part_12 : decode cX0_part 12 = .ok (.getfield 9, 3) := by decide +kernel
theorem dX0_part_15 : decode cX0_part 15 = .ok (.arraylength, 1) := by decide +kernel
theorem dX0_part_16 : decode cX0_part 16 = .ok (.if_icmp .ge 12, 3) := by decide +kernel
theorem dX0_part_19 : decode cX0_part 19 = .ok (.aload_n 0, 1) := by decide +kernel
theorem dX0_part_20 : decode cX0_part 20 = .ok (.getfield 9, 3) := by decide +kernel
theorem dX0_part_23 : decode cX0_part 23 = .ok (.iload_n 3, 1) := by decide +kernel
theorem dX0_part_24 : decode cX0_part 24 = .ok (.iaload, 1) := by decide +kernel
theorem dX0_part_25 : decode cX0_part 25 = .ok (.goto 4, 3) := by decide +kernel
theorem dX0_part_28 : decode cX0_part 28 = .ok (.iconst 0, 1) := by decide +kernel
theorem dX0_part_29 : decode cX0_part 29 = .ok (.ireturn, 1) := by decide +kernel
theorem dX0_digestOnto_0 : decode cX0_digestOnto 0 = .ok (.lload_n 1, 1) := by decide +kernel
theorem dX0_digestOnto_1 : decode cX0_digestOnto 1 = .ok (.lstore_n 3, 1) := by decide +kernel
theorem dX0_digestOnto_2 : decode cX0_digestOnto 2 = .ok (.iconst 0, 1) := by decide +kernel
theorem dX0_digestOnto_3 : decode cX0_digestOnto 3 = .ok (.istore 5, 2) := by decide +kernel
theorem dX0_digestOnto_5 : decode cX0_digestOnto 5 = .ok (.iload 5, 2) := by decide +kernel
theorem dX0_digestOnto_7 : decode cX0_digestOnto 7 = .ok (.aload_n 0, 1) := by decide +kernel
theorem dX0_digestOnto_8 : decode cX0_digestOnto 8 = .ok (.getfield 13, 3) := by decide +kernel
theorem dX0_digestOnto_11 : decode cX0_digestOnto 11 = .ok (.iconst 3, 1) := by decide +kernel
theorem dX0_digestOnto_12 : decode cX0_digestOnto 12 = .ok (.imul, 1) := by decide +kernel
theorem dX0_digestOnto_13 : decode cX0_digestOnto 13 = .ok (.if_icmp .ge 34, 3) := by decide +kernel
theorem dX0_digestOnto_16 : decode cX0_digestOnto 16 = .ok (.iload 5, 2) := by decide +kernel
theorem dX0_digestOnto_18 : decode cX0_digestOnto 18 = .ok (.aload_n 0, 1) := by decide +kernel
theorem dX0_digestOnto_19 : decode cX0_digestOnto 19 = .ok (.getfield 9, 3) := by decide +kernel
theorem dX0_digestOnto_22 : decode cX0_digestOnto 22 = .ok (.arraylength, 1) := by decide +kernel
theorem dX0_digestOnto_23 : decode cX0_digestOnto 23 = .ok (.if_icmp .ge 24, 3) := by decide +kernel
theorem dX0_digestOnto_26 : decode cX0_digestOnto 26 = .ok (.ldc2_w 23, 3) := by decide +kernel
theorem dX0_digestOnto_29 : decode cX0_digestOnto 29 = .ok (.lload_n 3, 1) := by decide +kernel
theorem dX0_digestOnto_30 : decode cX0_digestOnto 30 = .ok (.lmul, 1) := by decide +kernel
theorem dX0_digestOnto_31 : decode cX0_digestOnto 31 = .ok (.aload_n 0, 1) := by decide +kernel
theorem dX0_digestOnto_32 : decode cX0_digestOnto 32 = .ok (.getfield 9, 3) := by decide +kernel
theorem dX0_digestOnto_35 : decode cX0_digestOnto 35 = .ok (.iload 5, 2) := by decide +kernel
theorem dX0_digestOnto_37 : decode cX0_digestOnto 37 = .ok (.iaload, 1) := by decide +kernel
theorem dX0_digestOnto_38 : decode cX0_digestOnto 38 = .ok (.i2l, 1) := by decide +kernel
theorem dX0_digestOnto_39 : decode cX0_digestOnto 39 = .ok (.ladd, 1) := by decide +kernel
theorem dX0_digestOnto_40 : decode cX0_digestOnto 40 = .ok (.lstore_n 3, 1) := by decide +kernel
theorem dX0_digestOnto_41 : decode cX0_digestOnto 41 = .ok (.iinc 5 1, 3) := by decide +kernel
theorem dX0_digestOnto_44 : decode cX0_digestOnto 44 = .ok (.goto (-39), 3) := by decide +kernel
theorem dX0_digestOnto_47 : decode cX0_digestOnto 47 = .ok (.lload_n 3, 1) := by decide +kernel
theorem dX0_digestOnto_48 : decode cX0_digestOnto 48 = .ok (.lreturn, 1) := by decide +kernel
theorem dX1_init_0 : decode cX1_init 0 = .ok (.aload_n 0, 1) := by decide +kernel
theorem dX1_init_1 : decode cX1_init 1 = .ok (.invokespecial 3, 3) := by decide +kernel
theorem dX1_init_4 : decode cX1_init 4 = .ok (.aload_n 0, 1) := by decide +kernel
theorem dX1_init_5 : decode cX1_init 5 = .ok (.bipush 100, 2) := by decide +kernel
theorem dX1_init_7 : decode cX1_init 7 = .ok (.newarray .int, 2) := by decide +kernel
theorem dX1_init_9 : decode cX1_init 9 = .ok (.putfield 11, 3) := by decide +kernel
theorem dX1_init_12 : decode cX1_init 12 = .ok (.aload_n 0, 1) := by decide +kernel
theorem dX1_init_13 : decode cX1_init 13 = .ok (.bipush 102, 2) := by decide +kernel
theorem dX1_init_15 : decode cX1_init 15 = .ok (.newarray .int, 2) := by decide +kernel
theorem dX1_init_17 : decode cX1_init 17 = .ok (.putfield 15, 3) := by decide +kernel
theorem dX1_init_20 : decode cX1_init 20 = .ok (.return_, 1) := by decide +kernel
theorem dX1_addByte_0 : decode cX1_addByte 0 = .ok (.aload_n 0, 1) := by decide +kernel
theorem dX1_addByte_1 : decode cX1_addByte 1 = .ok (.getfield 18, 3) := by decide +kernel
theorem dX1_addByte_4 : decode cX1_addByte 4 = .ok (.ifCond .lt 35, 3) := by decide +kernel
theorem dX1_addByte_7 : decode cX1_addByte 7 = .ok (.aload_n 0, 1) := by decide +kernel
theorem dX1_addByte_8 : decode cX1_addByte 8 = .ok (.getfield 18, 3) := by decide +kernel
theorem dX1_addByte_11 : decode cX1_addByte 11 = .ok (.aload_n 0, 1) := by decide +kernel
theorem dX1_addByte_12 : decode cX1_addByte 12 = .ok (.getfield 11, 3) := by decide +kernel
theorem dX1_addByte_15 : decode cX1_addByte 15 = .ok (.arraylength, 1) := by decide +kernel
theorem dX1_addByte_16 : decode cX1_addByte 16 = .ok (.if_icmp .ge 23, 3) := by decide +kernel
theorem dX1_addByte_19 : decode cX1_addByte 19 = .ok (.aload_n 0, 1) := by decide +kernel
theorem dX1_addByte_20 : decode cX1_addByte 20 = .ok (.getfield 11, 3) := by decide +kernel
theorem dX1_addByte_23 : decode cX1_addByte 23 = .ok (.aload_n 0, 1) := by decide +kernel
theorem dX1_addByte_24 : decode cX1_addByte 24 = .ok (.getfield 18, 3) := by decide +kernel
theorem dX1_addByte_27 : decode cX1_addByte 27 = .ok (.iload_n 1, 1) := by decide +kernel
theorem dX1_addByte_28 : decode cX1_addByte 28 = .ok (.iastore, 1) := by decide +kernel
theorem dX1_addByte_29 : decode cX1_addByte 29 = .ok (.aload_n 0, 1) := by decide +kernel
theorem dX1_addByte_30 : decode cX1_addByte 30 = .ok (.dup, 1) := by decide +kernel
theorem dX1_addByte_31 : decode cX1_addByte 31 = .ok (.getfield 18, 3) := by decide +kernel
theorem dX1_addByte_34 : decode cX1_addByte 34 = .ok (.iconst 1, 1) := by decide +kernel
theorem dX1_addByte_35 : decode cX1_addByte 35 = .ok (.iadd, 1) := by decide +kernel
theorem dX1_addByte_36 : decode cX1_addByte 36 = .ok (.putfield 18, 3) := by decide +kernel
theorem dX1_addByte_39 : decode cX1_addByte 39 = .ok (.return_, 1) := by decide +kernel
theorem dX1_part_0 : decode cX1_part 0 = .ok (.iload_n 1, 1) := by decide +kernel
theorem dX1_part_1 : decode cX1_part 1 = .ok (.iconst 3, 1) := by decide +kernel
theorem dX1_part_2 : decode cX1_part 2 = .ok (.imul, 1) := by decide +kernel
theorem dX1_part_3 : decode cX1_part 3 = .ok (.iload_n 2, 1) := by decide +kernel
theorem dX1_part_4 : decode cX1_part 4 = .ok (.iadd, 1) := by decide +kernel
theorem dX1_part_5 : decode cX1_part 5 = .ok (.istore_n 3, 1) := by decide +kernel
theorem dX1_part_6 : decode cX1_part 6 = .ok (.iload_n 3, 1) := by decide +kernel
theorem dX1_part_7 : decode cX1_part 7 = .ok (.ifCond .lt 21, 3) := by decide +kernel
theorem dX1_part_10 : decode cX1_part 10 = .ok (.iload_n 3, 1) := by decide +kernel
theorem dX1_part_11 : decode cX1_part 11 = .ok (.aload_n 0, 1) := by decide +kernel
theorem dX1_part_12 : decode cX1_part 12 = .ok (.getfield 15, 3) := by decide +kernel
theorem dX1_part_15 : decode cX1_part 15 = .ok (.arraylength, 1) := by decide +kernel
theorem dX1_part_16 : decode cX1_part 16 = .ok (.if_icmp .ge 12, 3) := by decide +kernel
theorem dX1_part_19 : decode cX1_part 19 = .ok (.aload_n 0, 1) := by decide +kernel
theorem dX1_part_20 : decode cX1_part 20 = .ok (.getfield 15, 3) := by decide +kernel
theorem dX1_part_23 : decode cX1_part 23 = .ok (.iload_n 3, 1) := by decide +kernel
theorem dX1_part_24 : decode cX1_part 24 = .ok (.iaload, 1) := by decide +kernel
theorem dX1_part_25 : decode cX1_part 25 = .ok (.goto 4, 3) := by decide +kernel
theorem dX1_part_28 : decode cX1_part 28 = .ok (.iconst 0, 1) := by decide +kernel
theorem dX1_part_29 : decode cX1_part 29 = .ok (.ireturn, 1) := by decide +kernel
set_option maxRecDepth 20000 in
theorem ggX1_readOrders_X1_readOrder : GoodIn wsX1_readOrders wsX1_readOrder := goodIn_r _ [9, 1, 10, 11, 12, 8, 13, 4, 14, 15, 16, 17, 18, 19, 20, 21, 22, 23, 24, 25, 26, 2, 27, 28, 29, 30, 31, 32, 33, 34, 35, 36, 37, 38, 39, 40, 41, 42, 43, 44, 45, 46, 47, 48, 49, 50, 51, 52, 53] (by decide +kernel) (by decide +kernel)
set_option maxRecDepth 20000 in
theorem gX1_readOrders_X1_readOrder : GoodIn wsX1_readOrders (wsV RX1 31 RX1 yX1_readOrder wsX1_readOrder) := goodIn_app (goodIn_of _ (by decide +kernel)) ggX1_readOrders_X1_readOrder
theorem dX1_readOrders_0 : decode cX1_readOrders 0 = .ok (.aload_n 0, 1) := by decide +kernel
theorem dX1_readOrders_1 : decode cX1_readOrders 1 = .ok (.iconst 0, 1) := by decide +kernel
theorem dX1_readOrders_2 : decode cX1_readOrders 2 = .ok (.putfield 22, 3) := by decide +kernel
theorem dX1_readOrders_5 : decode cX1_readOrders 5 = .ok (.aload_n 0, 1) := by decide +kernel
theorem dX1_readOrders_6 : decode cX1_readOrders 6 = .ok (.iconst (-1), 1) := by decide +kernel
theorem dX1_readOrders_7 : decode cX1_readOrders 7 = .ok (.putfield 25, 3) := by decide +kernel
theorem dX1_readOrders_10 : decode cX1_readOrders 10 = .ok (.aload_n 0, 1) := by decide +kernel
theorem dX1_readOrders_11 : decode cX1_readOrders 11 = .ok (.iconst 0, 1) := by decide +kernel
theorem dX1_readOrders_12 : decode cX1_readOrders 12 = .ok (.putfield 28, 3) := by decide +kernel
theorem dX1_readOrders_15 : decode cX1_readOrders 15 = .ok (.iconst 0, 1) := by decide +kernel
theorem dX1_readOrders_16 : decode cX1_readOrders 16 = .ok (.istore_n 1, 1) := by decide +kernel
theorem dX1_readOrders_17 : decode cX1_readOrders 17 = .ok (.iload_n 1, 1) := by decide +kernel
theorem dX1_readOrders_18 : decode cX1_readOrders 18 = .ok (.bipush 34, 2) := by decide +kernel
theorem dX1_readOrders_20 : decode cX1_readOrders 20 = .ok (.if_icmp .ge 43, 3) := by decide +kernel
theorem dX1_readOrders_23 : decode cX1_readOrders 23 = .ok (.aload_n 0, 1) := by decide +kernel
theorem dX1_readOrders_24 : decode cX1_readOrders 24 = .ok (.getfield 22, 3) := by decide +kernel
theorem dX1_readOrders_27 : decode cX1_readOrders 27 = .ok (.aload_n 0, 1) := by decide +kernel
theorem dX1_readOrders_28 : decode cX1_readOrders 28 = .ok (.getfield 18, 3) := by decide +kernel
theorem dX1_readOrders_31 : decode cX1_readOrders 31 = .ok (.if_icmp .ge 32, 3) := by decide +kernel
theorem dX1_readOrders_34 : decode cX1_readOrders 34 = .ok (.aload_n 0, 1) := by decide +kernel
theorem dX1_readOrders_35 : decode cX1_readOrders 35 = .ok (.getfield 25, 3) := by decide +kernel
theorem dX1_readOrders_38 : decode cX1_readOrders 38 = .ok (.iconst (-1), 1) := by decide +kernel
theorem dX1_readOrders_39 : decode cX1_readOrders 39 = .ok (.if_icmp .ne 24, 3) := by decide +kernel
theorem dX1_readOrders_42 : decode cX1_readOrders 42 = .ok (.aload_n 0, 1) := by decide +kernel
theorem dX1_readOrders_43 : decode cX1_readOrders 43 = .ok (.iload_n 1, 1) := by decide +kernel
theorem dX1_readOrders_44 : decode cX1_readOrders 44 = .ok (.invokevirtual 31, 3) := by decide +kernel
theorem dX1_readOrders_47 : decode cX1_readOrders 47 = .ok (.aload_n 0, 1) := by decide +kernel
theorem dX1_readOrders_48 : decode cX1_readOrders 48 = .ok (.dup, 1) := by decide +kernel
theorem dX1_readOrders_49 : decode cX1_readOrders 49 = .ok (.getfield 28, 3) := by decide +kernel
theorem dX1_readOrders_52 : decode cX1_readOrders 52 = .ok (.iconst 1, 1) := by decide +kernel
theorem dX1_readOrders_53 : decode cX1_readOrders 53 = .ok (.iadd, 1) := by decide +kernel
theorem dX1_readOrders_54 : decode cX1_readOrders 54 = .ok (.putfield 28, 3) := by decide +kernel
theorem dX1_readOrders_57 : decode cX1_readOrders 57 = .ok (.iinc 1 1, 3) := by decide +kernel
theorem dX1_readOrders_60 : decode cX1_readOrders 60 = .ok (.goto (-43), 3) := by decide +kernel
theorem dX1_readOrders_63 : decode cX1_readOrders 63 = .ok (.aload_n 0, 1) := by decide +kernel
theorem dX1_readOrders_64 : decode cX1_readOrders 64 = .ok (.getfield 25, 3) := by decide +kernel
theorem dX1_readOrders_67 : decode cX1_readOrders 67 = .ok (.ireturn, 1) := by decide +kernel
set_option maxRecDepth 20000 in
theorem ggX1_readOrder_X1_peek : GoodIn wsX1_readOrder wsX1_peek := goodIn_r _ [6, 1, 7, 8, 43, 44, 45, 46, 47, 48] (by decide +kernel) (by decide +kernel)
set_option maxRecDepth 20000 in
theorem gX1_readOrder_X1_peek : GoodIn wsX1_readOrder (wsV RX1 35 RX1 yX1_peek wsX1_peek) := goodIn_app (goodIn_of _ (by decide +kernel)) ggX1_readOrder_X1_peek
set_option maxRecDepth 20000 in
theorem ggX1_readOrder_X1_readNumber : GoodIn wsX1_readOrder wsX1_readNumber := goodIn_r _ [12, 1, 13, 14, 15, 5, 16, 2, 3, 4, 6, 7, 8, 17, 18, 19, 20, 21, 43, 44, 45, 46, 47, 48] (by decide +kernel) (by decide +kernel)
set_option maxRecDepth 20000 in
theorem gX1_readOrder_X1_readNumber : GoodIn wsX1_readOrder (wsV RX1 39 RX1 yX1_readNumber wsX1_readNumber) := goodIn_app (goodIn_of _ (by decide +kernel)) ggX1_readOrder_X1_readNumber
set_option maxRecDepth 20000 in
theorem ggX1_readOrder_X1_readPump : GoodIn wsX1_readOrder wsX1_readPump := goodIn_r _ [25, 1, 2, 3, 4, 5, 6, 7, 8, 17, 18, 19, 20, 21, 43, 44, 45, 46, 47, 48] (by decide +kernel) (by decide +kernel)
set_option maxRecDepth 20000 in
theorem gX1_readOrder_X1_readPump : GoodIn wsX1_readOrder (wsV RX1 43 RX1 yX1_readPump wsX1_readPump) := goodIn_app (goodIn_of _ (by decide +kernel)) ggX1_readOrder_X1_readPump
set_option maxRecDepth 20000 in
theorem ggX1_readOrder_X1_expect : GoodIn wsX1_readOrder wsX1_expect := goodIn_r _ [29, 1, 2, 3, 4, 5, 6, 7, 8, 17, 18, 19, 20, 21, 43, 44, 45, 46, 47, 48] (by decide +kernel) (by decide +kernel)
set_option maxRecDepth 20000 in
theorem gX1_readOrder_X1_expect : GoodIn wsX1_readOrder (wsV RX1 46 RX1 yX1_expect wsX1_expect) := goodIn_app (goodIn_of _ (by decide +kernel)) ggX1_readOrder_X1_expect
set_option maxRecDepth 20000 in
theorem ggX1_readOrder_X1_readHour : GoodIn wsX1_readOrder wsX1_readHour := goodIn_r _ [33, 1, 34, 35, 36, 5, 37, 13, 14, 15, 16, 2, 3, 4, 6, 7, 8, 17, 18, 19, 20, 21, 43, 44, 45, 46, 47, 48] (by decide +kernel) (by decide +kernel)
set_option maxRecDepth 20000 in
theorem gX1_readOrder_X1_readHour : GoodIn wsX1_readOrder (wsV RX1 49 RX1 yX1_readHour wsX1_readHour) := goodIn_app (goodIn_of _ (by decide +kernel)) ggX1_readOrder_X1_readHour
set_option maxRecDepth 20000 in
theorem ggX1_readOrder_X1_fail : GoodIn wsX1_readOrder wsX1_fail := goodIn_r _ [20, 21, 43, 44, 45, 46, 47, 48] (by decide +kernel) (by decide +kernel)
set_option maxRecDepth 20000 in
theorem gX1_readOrder_X1_fail : GoodIn wsX1_readOrder (wsV RX1 54 RX1 yX1_fail wsX1_fail) := goodIn_app (goodIn_of _ (by decide +kernel)) ggX1_readOrder_X1_fail
set_option maxRecDepth 20000 in
theorem ggX1_readOrder_X1_keep : GoodIn wsX1_readOrder wsX1_keep := goodIn_r _ [41, 42, 43, 44, 45, 46, 47, 48] (by decide +kernel) (by decide +kernel)
set_option maxRecDepth 20000 in
theorem gX1_readOrder_X1_keep : GoodIn wsX1_readOrder (wsV RX1 57 RX1 yX1_keep wsX1_keep) := goodIn_app (goodIn_of _ (by decide +kernel)) ggX1_readOrder_X1_keep
theorem dX1_readOrder_0 : decode cX1_readOrder 0 = .ok (.aload_n 0, 1) := by decide +kernel
theorem dX1_readOrder_1 : decode cX1_readOrder 1 = .ok (.invokevirtual 35, 3) := by decide +kernel
theorem dX1_readOrder_4 : decode cX1_readOrder 4 = .ok (.istore_n 2, 1) := by decide +kernel
theorem dX1_readOrder_5 : decode cX1_readOrder 5 = .ok (.iconst (-1), 1) := by decide +kernel
theorem dX1_readOrder_6 : decode cX1_readOrder 6 = .ok (.istore_n 3, 1) := by decide +kernel
theorem dX1_readOrder_7 : decode cX1_readOrder 7 = .ok (.iconst (-1), 1) := by decide +kernel
theorem dX1_readOrder_8 : decode cX1_readOrder 8 = .ok (.istore 4, 2) := by decide +kernel
theorem dX1_readOrder_10 : decode cX1_readOrder 10 = .ok (.aload_n 0, 1) := by decide +kernel
theorem dX1_readOrder_11 : decode cX1_readOrder 11 = .ok (.dup, 1) := by decide +kernel
theorem dX1_readOrder_12 : decode cX1_readOrder 12 = .ok (.getfield 22, 3) := by decide +kernel
theorem dX1_readOrder_15 : decode cX1_readOrder 15 = .ok (.iconst 1, 1) := by decide +kernel
theorem dX1_readOrder_16 : decode cX1_readOrder 16 = .ok (.iadd, 1) := by decide +kernel
theorem dX1_readOrder_17 : decode cX1_readOrder 17 = .ok (.putfield 22, 3) := by decide +kernel
theorem dX1_readOrder_20 : decode cX1_readOrder 20 = .ok (.iload_n 2, 1) := by decide +kernel
theorem dX1_readOrder_21 : decode cX1_readOrder 21 = .ok (.lookupswitch 122 #[(100, 97), (109, 51), (111, 65), (120, 89), (121, 89)], 51) := by decide +kernel
theorem dX1_readOrder_72 : decode cX1_readOrder 72 = .ok (.aload_n 0, 1) := by decide +kernel
theorem dX1_readOrder_73 : decode cX1_readOrder 73 = .ok (.iconst 3, 1) := by decide +kernel
theorem dX1_readOrder_74 : decode cX1_readOrder 74 = .ok (.iconst 1, 1) := by decide +kernel
theorem dX1_readOrder_75 : decode cX1_readOrder 75 = .ok (.sipush 720, 3) := by decide +kernel
theorem dX1_readOrder_78 : decode cX1_readOrder 78 = .ok (.invokevirtual 39, 3) := by decide +kernel
theorem dX1_readOrder_81 : decode cX1_readOrder 81 = .ok (.istore 4, 2) := by decide +kernel
theorem dX1_readOrder_83 : decode cX1_readOrder 83 = .ok (.goto 70, 3) := by decide +kernel
theorem dX1_readOrder_86 : decode cX1_readOrder 86 = .ok (.aload_n 0, 1) := by decide +kernel
theorem dX1_readOrder_87 : decode cX1_readOrder 87 = .ok (.invokevirtual 43, 3) := by decide +kernel
theorem dX1_readOrder_90 : decode cX1_readOrder 90 = .ok (.istore_n 3, 1) := by decide +kernel
theorem dX1_readOrder_91 : decode cX1_readOrder 91 = .ok (.aload_n 0, 1) := by decide +kernel
theorem dX1_readOrder_92 : decode cX1_readOrder 92 = .ok (.bipush 61, 2) := by decide +kernel
theorem dX1_readOrder_94 : decode cX1_readOrder 94 = .ok (.invokevirtual 46, 3) := by decide +kernel
theorem dX1_readOrder_97 : decode cX1_readOrder 97 = .ok (.aload_n 0, 1) := by decide +kernel
theorem dX1_readOrder_98 : decode cX1_readOrder 98 = .ok (.iconst 2, 1) := by decide +kernel
theorem dX1_readOrder_99 : decode cX1_readOrder 99 = .ok (.iconst 1, 1) := by decide +kernel
theorem dX1_readOrder_100 : decode cX1_readOrder 100 = .ok (.bipush 12, 2) := by decide +kernel
theorem dX1_readOrder_102 : decode cX1_readOrder 102 = .ok (.invokevirtual 39, 3) := by decide +kernel
theorem dX1_readOrder_105 : decode cX1_readOrder 105 = .ok (.istore 4, 2) := by decide +kernel
theorem dX1_readOrder_107 : decode cX1_readOrder 107 = .ok (.goto 46, 3) := by decide +kernel
theorem dX1_readOrder_110 : decode cX1_readOrder 110 = .ok (.aload_n 0, 1) := by decide +kernel
theorem dX1_readOrder_111 : decode cX1_readOrder 111 = .ok (.invokevirtual 43, 3) := by decide +kernel
theorem dX1_readOrder_114 : decode cX1_readOrder 114 = .ok (.istore_n 3, 1) := by decide +kernel
theorem dX1_readOrder_115 : decode cX1_readOrder 115 = .ok (.goto 38, 3) := by decide +kernel
theorem dX1_readOrder_118 : decode cX1_readOrder 118 = .ok (.aload_n 0, 1) := by decide +kernel
theorem dX1_readOrder_119 : decode cX1_readOrder 119 = .ok (.invokevirtual 49, 3) := by decide +kernel
theorem dX1_readOrder_122 : decode cX1_readOrder 122 = .ok (.istore_n 3, 1) := by decide +kernel
theorem dX1_readOrder_123 : decode cX1_readOrder 123 = .ok (.aload_n 0, 1) := by decide +kernel
theorem dX1_readOrder_124 : decode cX1_readOrder 124 = .ok (.bipush 61, 2) := by decide +kernel
theorem dX1_readOrder_126 : decode cX1_readOrder 126 = .ok (.invokevirtual 46, 3) := by decide +kernel
theorem dX1_readOrder_129 : decode cX1_readOrder 129 = .ok (.aload_n 0, 1) := by decide +kernel
theorem dX1_readOrder_130 : decode cX1_readOrder 130 = .ok (.iconst 4, 1) := by decide +kernel
theorem dX1_readOrder_131 : decode cX1_readOrder 131 = .ok (.iconst 0, 1) := by decide +kernel
theorem dX1_readOrder_132 : decode cX1_readOrder 132 = .ok (.sipush 1000, 3) := by decide +kernel
theorem dX1_readOrder_135 : decode cX1_readOrder 135 = .ok (.invokevirtual 39, 3) := by decide +kernel
theorem dX1_readOrder_138 : decode cX1_readOrder 138 = .ok (.istore 4, 2) := by decide +kernel
theorem dX1_readOrder_140 : decode cX1_readOrder 140 = .ok (.goto 13, 3) := by decide +kernel
theorem dX1_readOrder_143 : decode cX1_readOrder 143 = .ok (.aload_n 0, 1) := by decide +kernel
theorem dX1_readOrder_144 : decode cX1_readOrder 144 = .ok (.aload_n 0, 1) := by decide +kernel
theorem dX1_readOrder_145 : decode cX1_readOrder 145 = .ok (.getfield 22, 3) := by decide +kernel
theorem dX1_readOrder_148 : decode cX1_readOrder 148 = .ok (.iconst 1, 1) := by decide +kernel
theorem dX1_readOrder_149 : decode cX1_readOrder 149 = .ok (.isub, 1) := by decide +kernel
theorem dX1_readOrder_150 : decode cX1_readOrder 150 = .ok (.invokevirtual 54, 3) := by decide +kernel
theorem dX1_readOrder_153 : decode cX1_readOrder 153 = .ok (.aload_n 0, 1) := by decide +kernel
theorem dX1_readOrder_154 : decode cX1_readOrder 154 = .ok (.bipush 59, 2) := by decide +kernel
theorem dX1_readOrder_156 : decode cX1_readOrder 156 = .ok (.invokevirtual 46, 3) := by decide +kernel
theorem dX1_readOrder_159 : decode cX1_readOrder 159 = .ok (.aload_n 0, 1) := by decide +kernel
theorem dX1_readOrder_160 : decode cX1_readOrder 160 = .ok (.iload_n 1, 1) := by decide +kernel
theorem dX1_readOrder_161 : decode cX1_readOrder 161 = .ok (.iload_n 2, 1) := by decide +kernel
theorem dX1_readOrder_162 : decode cX1_readOrder 162 = .ok (.iload_n 3, 1) := by decide +kernel
theorem dX1_readOrder_163 : decode cX1_readOrder 163 = .ok (.iload 4, 2) := by decide +kernel
theorem dX1_readOrder_165 : decode cX1_readOrder 165 = .ok (.invokevirtual 57, 3) := by decide +kernel
theorem dX1_readOrder_168 : decode cX1_readOrder 168 = .ok (.return_, 1) := by decide +kernel
theorem dX1_keep_0 : decode cX1_keep 0 = .ok (.iload_n 1, 1) := by decide +kernel
theorem dX1_keep_1 : decode cX1_keep 1 = .ok (.iconst 3, 1) := by decide +kernel
theorem dX1_keep_2 : decode cX1_keep 2 = .ok (.imul, 1) := by decide +kernel
theorem dX1_keep_3 : decode cX1_keep 3 = .ok (.istore 5, 2) := by decide +kernel
theorem dX1_keep_5 : decode cX1_keep 5 = .ok (.iload 5, 2) := by decide +kernel
theorem dX1_keep_7 : decode cX1_keep 7 = .ok (.ifCond .lt 46, 3) := by decide +kernel
theorem dX1_keep_10 : decode cX1_keep 10 = .ok (.iload 5, 2) := by decide +kernel
theorem dX1_keep_12 : decode cX1_keep 12 = .ok (.iconst 2, 1) := by decide +kernel
theorem dX1_keep_13 : decode cX1_keep 13 = .ok (.iadd, 1) := by decide +kernel
theorem dX1_keep_14 : decode cX1_keep 14 = .ok (.aload_n 0, 1) := by decide +kernel
theorem dX1_keep_15 : decode cX1_keep 15 = .ok (.getfield 15, 3) := by decide +kernel
theorem dX1_keep_18 : decode cX1_keep 18 = .ok (.arraylength, 1) := by decide +kernel
theorem dX1_keep_19 : decode cX1_keep 19 = .ok (.if_icmp .ge 34, 3) := by decide +kernel
theorem dX1_keep_22 : decode cX1_keep 22 = .ok (.aload_n 0, 1) := by decide +kernel
theorem dX1_keep_23 : decode cX1_keep 23 = .ok (.getfield 15, 3) := by decide +kernel
theorem dX1_keep_26 : decode cX1_keep 26 = .ok (.iload 5, 2) := by decide +kernel
theorem dX1_keep_28 : decode cX1_keep 28 = .ok (.iconst 0, 1) := by decide +kernel
theorem dX1_keep_29 : decode cX1_keep 29 = .ok (.iadd, 1) := by decide +kernel
theorem dX1_keep_30 : decode cX1_keep 30 = .ok (.iload_n 2, 1) := by decide +kernel
theorem dX1_keep_31 : decode cX1_keep 31 = .ok (.iastore, 1) := by decide +kernel
theorem dX1_keep_32 : decode cX1_keep 32 = .ok (.aload_n 0, 1) := by decide +kernel
theorem dX1_keep_33 : decode cX1_keep 33 = .ok (.getfield 15, 3) := by decide +kernel
theorem dX1_keep_36 : decode cX1_keep 36 = .ok (.iload 5, 2) := by decide +kernel
theorem dX1_keep_38 : decode cX1_keep 38 = .ok (.iconst 1, 1) := by decide +kernel
theorem dX1_keep_39 : decode cX1_keep 39 = .ok (.iadd, 1) := by decide +kernel
theorem dX1_keep_40 : decode cX1_keep 40 = .ok (.iload_n 3, 1) := by decide +kernel
theorem dX1_keep_41 : decode cX1_keep 41 = .ok (.iastore, 1) := by decide +kernel
theorem dX1_keep_42 : decode cX1_keep 42 = .ok (.aload_n 0, 1) := by decide +kernel
theorem dX1_keep_43 : decode cX1_keep 43 = .ok (.getfield 15, 3) := by decide +kernel
theorem dX1_keep_46 : decode cX1_keep 46 = .ok (.iload 5, 2) := by decide +kernel
theorem dX1_keep_48 : decode cX1_keep 48 = .ok (.iconst 2, 1) := by decide +kernel
theorem dX1_keep_49 : decode cX1_keep 49 = .ok (.iadd, 1) := by decide +kernel
theorem dX1_keep_50 : decode cX1_keep 50 = .ok (.iload 4, 2) := by decide +kernel
theorem dX1_keep_52 : decode cX1_keep 52 = .ok (.iastore, 1) := by decide +kernel
theorem dX1_keep_53 : decode cX1_keep 53 = .ok (.return_, 1) := by decide +kernel
theorem dX1_peek_0 : decode cX1_peek 0 = .ok (.aload_n 0, 1) := by decide +kernel
theorem dX1_peek_1 : decode cX1_peek 1 = .ok (.getfield 22, 3) := by decide +kernel
theorem dX1_peek_4 : decode cX1_peek 4 = .ok (.ifCond .lt 38, 3) := by decide +kernel
theorem dX1_peek_7 : decode cX1_peek 7 = .ok (.aload_n 0, 1) := by decide +kernel
theorem dX1_peek_8 : decode cX1_peek 8 = .ok (.getfield 22, 3) := by decide +kernel
theorem dX1_peek_11 : decode cX1_peek 11 = .ok (.aload_n 0, 1) := by decide +kernel
theorem dX1_peek_12 : decode cX1_peek 12 = .ok (.getfield 18, 3) := by decide +kernel
theorem dX1_peek_15 : decode cX1_peek 15 = .ok (.if_icmp .ge 27, 3) := by decide +kernel
theorem dX1_peek_18 : decode cX1_peek 18 = .ok (.aload_n 0, 1) := by decide +kernel
theorem dX1_peek_19 : decode cX1_peek 19 = .ok (.getfield 22, 3) := by decide +kernel
theorem dX1_peek_22 : decode cX1_peek 22 = .ok (.aload_n 0, 1) := by decide +kernel
theorem dX1_peek_23 : decode cX1_peek 23 = .ok (.getfield 11, 3) := by decide +kernel
theorem dX1_peek_26 : decode cX1_peek 26 = .ok (.arraylength, 1) := by decide +kernel
theorem dX1_peek_27 : decode cX1_peek 27 = .ok (.if_icmp .ge 15, 3) := by decide +kernel
theorem dX1_peek_30 : decode cX1_peek 30 = .ok (.aload_n 0, 1) := by decide +kernel
theorem dX1_peek_31 : decode cX1_peek 31 = .ok (.getfield 11, 3) := by decide +kernel
theorem dX1_peek_34 : decode cX1_peek 34 = .ok (.aload_n 0, 1) := by decide +kernel
theorem dX1_peek_35 : decode cX1_peek 35 = .ok (.getfield 22, 3) := by decide +kernel
theorem dX1_peek_38 : decode cX1_peek 38 = .ok (.iaload, 1) := by decide +kernel
theorem dX1_peek_39 : decode cX1_peek 39 = .ok (.goto 4, 3) := by decide +kernel
theorem dX1_peek_42 : decode cX1_peek 42 = .ok (.iconst (-1), 1) := by decide +kernel
theorem dX1_peek_43 : decode cX1_peek 43 = .ok (.ireturn, 1) := by decide +kernel
set_option maxRecDepth 20000 in
theorem ggX1_isAtDigit_X1_peek : GoodIn wsX1_isAtDigit wsX1_peek := goodIn_r _ [5, 6, 7, 8, 9, 10, 11, 12, 13, 14] (by decide +kernel) (by decide +kernel)
set_option maxRecDepth 20000 in
theorem gX1_isAtDigit_X1_peek : GoodIn wsX1_isAtDigit (wsV RX1 35 RX1 yX1_peek wsX1_peek) := goodIn_app (goodIn_of _ (by decide +kernel)) ggX1_isAtDigit_X1_peek
theorem dX1_isAtDigit_0 : decode cX1_isAtDigit 0 = .ok (.aload_n 0, 1) := by decide +kernel
theorem dX1_isAtDigit_1 : decode cX1_isAtDigit 1 = .ok (.invokevirtual 35, 3) := by decide +kernel
theorem dX1_isAtDigit_4 : decode cX1_isAtDigit 4 = .ok (.istore_n 1, 1) := by decide +kernel
theorem dX1_isAtDigit_5 : decode cX1_isAtDigit 5 = .ok (.iload_n 1, 1) := by decide +kernel
theorem dX1_isAtDigit_6 : decode cX1_isAtDigit 6 = .ok (.bipush 48, 2) := by decide +kernel
theorem dX1_isAtDigit_8 : decode cX1_isAtDigit 8 = .ok (.if_icmp .lt 13, 3) := by decide +kernel
theorem dX1_isAtDigit_11 : decode cX1_isAtDigit 11 = .ok (.iload_n 1, 1) := by decide +kernel
theorem dX1_isAtDigit_12 : decode cX1_isAtDigit 12 = .ok (.bipush 57, 2) := by decide +kernel
theorem dX1_isAtDigit_14 : decode cX1_isAtDigit 14 = .ok (.if_icmp .gt 7, 3) := by decide +kernel
theorem dX1_isAtDigit_17 : decode cX1_isAtDigit 17 = .ok (.iconst 1, 1) := by decide +kernel
theorem dX1_isAtDigit_18 : decode cX1_isAtDigit 18 = .ok (.goto 4, 3) := by decide +kernel
theorem dX1_isAtDigit_21 : decode cX1_isAtDigit 21 = .ok (.iconst 0, 1) := by decide +kernel
theorem dX1_isAtDigit_22 : decode cX1_isAtDigit 22 = .ok (.ireturn, 1) := by decide +kernel
theorem dX1_fail_0 : decode cX1_fail 0 = .ok (.aload_n 0, 1) := by decide +kernel
theorem dX1_fail_1 : decode cX1_fail 1 = .ok (.getfield 25, 3) := by decide +kernel
theorem dX1_fail_4 : decode cX1_fail 4 = .ok (.iconst (-1), 1) := by decide +kernel
theorem dX1_fail_5 : decode cX1_fail 5 = .ok (.if_icmp .ne 8, 3) := by decide +kernel
theorem dX1_fail_8 : decode cX1_fail 8 = .ok (.aload_n 0, 1) := by decide +kernel
theorem dX1_fail_9 : decode cX1_fail 9 = .ok (.iload_n 1, 1) := by decide +kernel
theorem dX1_fail_10 : decode cX1_fail 10 = .ok (.putfield 25, 3) := by decide +kernel
theorem dX1_fail_13 : decode cX1_fail 13 = .ok (.return_, 1) := by decide +kernel
set_option maxRecDepth 20000 in
theorem ggX1_expect_X1_peek : GoodIn wsX1_expect wsX1_peek := goodIn_r _ [6, 1, 7, 8, 14, 15, 16, 17, 18, 19] (by decide +kernel) (by decide +kernel)
set_option maxRecDepth 20000 in
theorem gX1_expect_X1_peek : GoodIn wsX1_expect (wsV RX1 35 RX1 yX1_peek wsX1_peek) := goodIn_app (goodIn_of _ (by decide +kernel)) ggX1_expect_X1_peek
set_option maxRecDepth 20000 in
theorem ggX1_expect_X1_fail : GoodIn wsX1_expect wsX1_fail := goodIn_r _ [12, 13, 14, 15, 16, 17, 18, 19] (by decide +kernel) (by decide +kernel)
set_option maxRecDepth 20000 in
theorem gX1_expect_X1_fail : GoodIn wsX1_expect (wsV RX1 54 RX1 yX1_fail wsX1_fail) := goodIn_app (goodIn_of _ (by decide +kernel)) ggX1_expect_X1_fail
theorem dX1_expect_0 : decode cX1_expect 0 = .ok (.aload_n 0, 1) := by decide +kernel
theorem dX1_expect_1 : decode cX1_expect 1 = .ok (.invokevirtual 35, 3) := by decide +kernel
theorem dX1_expect_4 : decode cX1_expect 4 = .ok (.iload_n 1, 1) := by decide +kernel
theorem dX1_expect_5 : decode cX1_expect 5 = .ok (.if_icmp .eq 11, 3) := by decide +kernel
theorem dX1_expect_8 : decode cX1_expect 8 = .ok (.aload_n 0, 1) := by decide +kernel
theorem dX1_expect_9 : decode cX1_expect 9 = .ok (.aload_n 0, 1) := by decide +kernel
theorem dX1_expect_10 : decode cX1_expect 10 = .ok (.getfield 22, 3) := by decide +kernel
theorem dX1_expect_13 : decode cX1_expect 13 = .ok (.invokevirtual 54, 3) := by decide +kernel
theorem dX1_expect_16 : decode cX1_expect 16 = .ok (.aload_n 0, 1) := by decide +kernel
theorem dX1_expect_17 : decode cX1_expect 17 = .ok (.dup, 1) := by decide +kernel
theorem dX1_expect_18 : decode cX1_expect 18 = .ok (.getfield 22, 3) := by decide +kernel
theorem dX1_expect_21 : decode cX1_expect 21 = .ok (.iconst 1, 1) := by decide +kernel
theorem dX1_expect_22 : decode cX1_expect 22 = .ok (.iadd, 1) := by decide +kernel
theorem dX1_expect_23 : decode cX1_expect 23 = .ok (.putfield 22, 3) := by decide +kernel
theorem dX1_expect_26 : decode cX1_expect 26 = .ok (.return_, 1) := by decide +kernel
set_option maxRecDepth 20000 in
theorem ggX1_readPump_X1_peek : GoodIn wsX1_readPump wsX1_peek := goodIn_r _ [6, 1, 7, 8, 14, 15, 16, 17, 18, 19] (by decide +kernel) (by decide +kernel)
set_option maxRecDepth 20000 in
theorem gX1_readPump_X1_peek : GoodIn wsX1_readPump (wsV RX1 35 RX1 yX1_peek wsX1_peek) := goodIn_app (goodIn_of _ (by decide +kernel)) ggX1_readPump_X1_peek
set_option maxRecDepth 20000 in
theorem ggX1_readPump_X1_fail : GoodIn wsX1_readPump wsX1_fail := goodIn_r _ [12, 13, 14, 15, 16, 17, 18, 19] (by decide +kernel) (by decide +kernel)
set_option maxRecDepth 20000 in
theorem gX1_readPump_X1_fail : GoodIn wsX1_readPump (wsV RX1 54 RX1 yX1_fail wsX1_fail) := goodIn_app (goodIn_of _ (by decide +kernel)) ggX1_readPump_X1_fail
theorem dX1_readPump_0 : decode cX1_readPump 0 = .ok (.aload_n 0, 1) := by decide +kernel
theorem dX1_readPump_1 : decode cX1_readPump 1 = .ok (.invokevirtual 35, 3) := by decide +kernel
theorem dX1_readPump_4 : decode cX1_readPump 4 = .ok (.bipush 48, 2) := by decide +kernel
theorem dX1_readPump_6 : decode cX1_readPump 6 = .ok (.isub, 1) := by decide +kernel
theorem dX1_readPump_7 : decode cX1_readPump 7 = .ok (.istore_n 1, 1) := by decide +kernel
theorem dX1_readPump_8 : decode cX1_readPump 8 = .ok (.iload_n 1, 1) := by decide +kernel
theorem dX1_readPump_9 : decode cX1_readPump 9 = .ok (.ifCond .lt 9, 3) := by decide +kernel
theorem dX1_readPump_12 : decode cX1_readPump 12 = .ok (.iload_n 1, 1) := by decide +kernel
theorem dX1_readPump_13 : decode cX1_readPump 13 = .ok (.bipush 6, 2) := by decide +kernel
theorem dX1_readPump_15 : decode cX1_readPump 15 = .ok (.if_icmp .lt 11, 3) := by decide +kernel
theorem dX1_readPump_18 : decode cX1_readPump 18 = .ok (.aload_n 0, 1) := by decide +kernel
theorem dX1_readPump_19 : decode cX1_readPump 19 = .ok (.aload_n 0, 1) := by decide +kernel
theorem dX1_readPump_20 : decode cX1_readPump 20 = .ok (.getfield 22, 3) := by decide +kernel
theorem dX1_readPump_23 : decode cX1_readPump 23 = .ok (.invokevirtual 54, 3) := by decide +kernel
theorem dX1_readPump_26 : decode cX1_readPump 26 = .ok (.aload_n 0, 1) := by decide +kernel
theorem dX1_readPump_27 : decode cX1_readPump 27 = .ok (.dup, 1) := by decide +kernel
theorem dX1_readPump_28 : decode cX1_readPump 28 = .ok (.getfield 22, 3) := by decide +kernel
theorem dX1_readPump_31 : decode cX1_readPump 31 = .ok (.iconst 1, 1) := by decide +kernel
theorem dX1_readPump_32 : decode cX1_readPump 32 = .ok (.iadd, 1) := by decide +kernel
theorem dX1_readPump_33 : decode cX1_readPump 33 = .ok (.putfield 22, 3) := by decide +kernel
theorem dX1_readPump_36 : decode cX1_readPump 36 = .ok (.iload_n 1, 1) := by decide +kernel
theorem dX1_readPump_37 : decode cX1_readPump 37 = .ok (.ireturn, 1) := by decide +kernel
set_option maxRecDepth 20000 in
theorem ggX1_readHour_X1_readDigit : GoodIn wsX1_readHour wsX1_readDigit := goodIn_r _ [6, 1, 7, 8, 9, 5, 10, 11, 12, 13, 14, 15, 16, 17, 18, 19, 20, 21, 22, 23, 24, 25, 26, 27] (by decide +kernel) (by decide +kernel)
set_option maxRecDepth 20000 in
theorem gX1_readHour_X1_readDigit : GoodIn wsX1_readHour (wsV RX1 63 RX1 yX1_readDigit wsX1_readDigit) := goodIn_app (goodIn_of _ (by decide +kernel)) ggX1_readHour_X1_readDigit
set_option maxRecDepth 20000 in
theorem ggX1_readHour_X1_fail : GoodIn wsX1_readHour wsX1_fail := goodIn_r _ [20, 21, 22, 23, 24, 25, 26, 27] (by decide +kernel) (by decide +kernel)
set_option maxRecDepth 20000 in
theorem gX1_readHour_X1_fail : GoodIn wsX1_readHour (wsV RX1 54 RX1 yX1_fail wsX1_fail) := goodIn_app (goodIn_of _ (by decide +kernel)) ggX1_readHour_X1_fail
theorem dX1_readHour_0 : decode cX1_readHour 0 = .ok (.aload_n 0, 1) := by decide +kernel
theorem dX1_readHour_1 : decode cX1_readHour 1 = .ok (.getfield 22, 3) := by decide +kernel
theorem dX1_readHour_4 : decode cX1_readHour 4 = .ok (.istore_n 1, 1) := by decide +kernel
theorem dX1_readHour_5 : decode cX1_readHour 5 = .ok (.bipush 10, 2) := by decide +kernel
theorem dX1_readHour_7 : decode cX1_readHour 7 = .ok (.aload_n 0, 1) := by decide +kernel
theorem dX1_readHour_8 : decode cX1_readHour 8 = .ok (.invokevirtual 63, 3) := by decide +kernel
theorem dX1_readHour_11 : decode cX1_readHour 11 = .ok (.imul, 1) := by decide +kernel
theorem dX1_readHour_12 : decode cX1_readHour 12 = .ok (.istore_n 2, 1) := by decide +kernel
theorem dX1_readHour_13 : decode cX1_readHour 13 = .ok (.iload_n 2, 1) := by decide +kernel
theorem dX1_readHour_14 : decode cX1_readHour 14 = .ok (.aload_n 0, 1) := by decide +kernel
theorem dX1_readHour_15 : decode cX1_readHour 15 = .ok (.invokevirtual 63, 3) := by decide +kernel
theorem dX1_readHour_18 : decode cX1_readHour 18 = .ok (.iadd, 1) := by decide +kernel
theorem dX1_readHour_19 : decode cX1_readHour 19 = .ok (.istore_n 2, 1) := by decide +kernel
theorem dX1_readHour_20 : decode cX1_readHour 20 = .ok (.iload_n 2, 1) := by decide +kernel
theorem dX1_readHour_21 : decode cX1_readHour 21 = .ok (.bipush 24, 2) := by decide +kernel
theorem dX1_readHour_23 : decode cX1_readHour 23 = .ok (.if_icmp .lt 8, 3) := by decide +kernel
theorem dX1_readHour_26 : decode cX1_readHour 26 = .ok (.aload_n 0, 1) := by decide +kernel
theorem dX1_readHour_27 : decode cX1_readHour 27 = .ok (.iload_n 1, 1) := by decide +kernel
theorem dX1_readHour_28 : decode cX1_readHour 28 = .ok (.invokevirtual 54, 3) := by decide +kernel
theorem dX1_readHour_31 : decode cX1_readHour 31 = .ok (.iload_n 2, 1) := by decide +kernel
theorem dX1_readHour_32 : decode cX1_readHour 32 = .ok (.ireturn, 1) := by decide +kernel
set_option maxRecDepth 20000 in
theorem ggX1_readDigit_X1_isAtDigit : GoodIn wsX1_readDigit wsX1_isAtDigit := goodIn_r _ [6, 7, 8, 9, 5, 10, 1, 11, 12, 18, 19, 20, 21, 22, 23] (by decide +kernel) (by decide +kernel)
set_option maxRecDepth 20000 in
theorem gX1_readDigit_X1_isAtDigit : GoodIn wsX1_readDigit (wsV RX1 66 RX1 yX1_isAtDigit wsX1_isAtDigit) := goodIn_app (goodIn_of _ (by decide +kernel)) ggX1_readDigit_X1_isAtDigit
set_option maxRecDepth 20000 in
theorem ggX1_readDigit_X1_fail : GoodIn wsX1_readDigit wsX1_fail := goodIn_r _ [16, 17, 18, 19, 20, 21, 22, 23] (by decide +kernel) (by decide +kernel)
set_option maxRecDepth 20000 in
theorem gX1_readDigit_X1_fail : GoodIn wsX1_readDigit (wsV RX1 54 RX1 yX1_fail wsX1_fail) := goodIn_app (goodIn_of _ (by decide +kernel)) ggX1_readDigit_X1_fail
set_option maxRecDepth 20000 in
theorem ggX1_readDigit_X1_peek : GoodIn wsX1_readDigit wsX1_peek := goodIn_r _ [10, 1, 11, 12, 18, 19, 20, 21, 22, 23] (by decide +kernel) (by decide +kernel)
set_option maxRecDepth 20000 in
theorem gX1_readDigit_X1_peek : GoodIn wsX1_readDigit (wsV RX1 35 RX1 yX1_peek wsX1_peek) := goodIn_app (goodIn_of _ (by decide +kernel)) ggX1_readDigit_X1_peek
theorem dX1_readDigit_0 : decode cX1_readDigit 0 = .ok (.aload_n 0, 1) := by decide +kernel
theorem dX1_readDigit_1 : decode cX1_readDigit 1 = .ok (.invokevirtual 66, 3) := by decide +kernel
theorem dX1_readDigit_4 : decode cX1_readDigit 4 = .ok (.ifCond .ne 11, 3) := by decide +kernel
theorem dX1_readDigit_7 : decode cX1_readDigit 7 = .ok (.aload_n 0, 1) := by decide +kernel
theorem dX1_readDigit_8 : decode cX1_readDigit 8 = .ok (.aload_n 0, 1) := by decide +kernel
theorem dX1_readDigit_9 : decode cX1_readDigit 9 = .ok (.getfield 22, 3) := by decide +kernel
theorem dX1_readDigit_12 : decode cX1_readDigit 12 = .ok (.invokevirtual 54, 3) := by decide +kernel
theorem dX1_readDigit_15 : decode cX1_readDigit 15 = .ok (.aload_n 0, 1) := by decide +kernel
theorem dX1_readDigit_16 : decode cX1_readDigit 16 = .ok (.invokevirtual 35, 3) := by decide +kernel
theorem dX1_readDigit_19 : decode cX1_readDigit 19 = .ok (.bipush 48, 2) := by decide +kernel
theorem dX1_readDigit_21 : decode cX1_readDigit 21 = .ok (.isub, 1) := by decide +kernel
theorem dX1_readDigit_22 : decode cX1_readDigit 22 = .ok (.istore_n 1, 1) := by decide +kernel
theorem dX1_readDigit_23 : decode cX1_readDigit 23 = .ok (.aload_n 0, 1) := by decide +kernel
theorem dX1_readDigit_24 : decode cX1_readDigit 24 = .ok (.dup, 1) := by decide +kernel
theorem dX1_readDigit_25 : decode cX1_readDigit 25 = .ok (.getfield 22, 3) := by decide +kernel
theorem dX1_readDigit_28 : decode cX1_readDigit 28 = .ok (.iconst 1, 1) := by decide +kernel
theorem dX1_readDigit_29 : decode cX1_readDigit 29 = .ok (.iadd, 1) := by decide +kernel
theorem dX1_readDigit_30 : decode cX1_readDigit 30 = .ok (.putfield 22, 3) := by decide +kernel
theorem dX1_readDigit_33 : decode cX1_readDigit 33 = .ok (.iload_n 1, 1) := by decide +kernel
theorem dX1_readDigit_34 : decode cX1_readDigit 34 = .ok (.ireturn, 1) := by decide +kernel
set_option maxRecDepth 20000 in
theorem ggX1_readNumber_X1_isAtDigit : GoodIn wsX1_readNumber wsX1_isAtDigit := goodIn_r _ [6, 7, 8, 9, 5, 10, 1, 11, 12, 18, 19, 20, 21, 22, 23] (by decide +kernel) (by decide +kernel)
set_option maxRecDepth 20000 in
theorem gX1_readNumber_X1_isAtDigit : GoodIn wsX1_readNumber (wsV RX1 66 RX1 yX1_isAtDigit wsX1_isAtDigit) := goodIn_app (goodIn_of _ (by decide +kernel)) ggX1_readNumber_X1_isAtDigit
set_option maxRecDepth 20000 in
theorem ggX1_readNumber_X1_peek : GoodIn wsX1_readNumber wsX1_peek := goodIn_r _ [10, 1, 11, 12, 18, 19, 20, 21, 22, 23] (by decide +kernel) (by decide +kernel)
set_option maxRecDepth 20000 in
theorem gX1_readNumber_X1_peek : GoodIn wsX1_readNumber (wsV RX1 35 RX1 yX1_peek wsX1_peek) := goodIn_app (goodIn_of _ (by decide +kernel)) ggX1_readNumber_X1_peek
set_option maxRecDepth 20000 in
theorem ggX1_readNumber_X1_fail : GoodIn wsX1_readNumber wsX1_fail := goodIn_r _ [16, 17, 18, 19, 20, 21, 22, 23] (by decide +kernel) (by decide +kernel)
set_option maxRecDepth 20000 in
theorem gX1_readNumber_X1_fail : GoodIn wsX1_readNumber (wsV RX1 54 RX1 yX1_fail wsX1_fail) := goodIn_app (goodIn_of _ (by decide +kernel)) ggX1_readNumber_X1_fail
theorem dX1_readNumber_0 : decode cX1_readNumber 0 = .ok (.aload_n 0, 1) := by decide +kernel
theorem dX1_readNumber_1 : decode cX1_readNumber 1 = .ok (.getfield 22, 3) := by decide +kernel
theorem dX1_readNumber_4 : decode cX1_readNumber 4 = .ok (.istore 4, 2) := by decide +kernel
theorem dX1_readNumber_6 : decode cX1_readNumber 6 = .ok (.iconst 0, 1) := by decide +kernel
theorem dX1_readNumber_7 : decode cX1_readNumber 7 = .ok (.istore 5, 2) := by decide +kernel
theorem dX1_readNumber_9 : decode cX1_readNumber 9 = .ok (.iconst 0, 1) := by decide +kernel
theorem dX1_readNumber_10 : decode cX1_readNumber 10 = .ok (.istore 6, 2) := by decide +kernel
theorem dX1_readNumber_12 : decode cX1_readNumber 12 = .ok (.iload 6, 2) := by decide +kernel
theorem dX1_readNumber_14 : decode cX1_readNumber 14 = .ok (.iload_n 1, 1) := by decide +kernel
theorem dX1_readNumber_15 : decode cX1_readNumber 15 = .ok (.if_icmp .ge 41, 3) := by decide +kernel
theorem dX1_readNumber_18 : decode cX1_readNumber 18 = .ok (.aload_n 0, 1) := by decide +kernel
theorem dX1_readNumber_19 : decode cX1_readNumber 19 = .ok (.invokevirtual 66, 3) := by decide +kernel
theorem dX1_readNumber_22 : decode cX1_readNumber 22 = .ok (.ifCond .eq 34, 3) := by decide +kernel
theorem dX1_readNumber_25 : decode cX1_readNumber 25 = .ok (.bipush 10, 2) := by decide +kernel
theorem dX1_readNumber_27 : decode cX1_readNumber 27 = .ok (.iload 5, 2) := by decide +kernel
theorem dX1_readNumber_29 : decode cX1_readNumber 29 = .ok (.imul, 1) := by decide +kernel
theorem dX1_readNumber_30 : decode cX1_readNumber 30 = .ok (.aload_n 0, 1) := by decide +kernel
theorem dX1_readNumber_31 : decode cX1_readNumber 31 = .ok (.invokevirtual 35, 3) := by decide +kernel
theorem dX1_readNumber_34 : decode cX1_readNumber 34 = .ok (.iadd, 1) := by decide +kernel
theorem dX1_readNumber_35 : decode cX1_readNumber 35 = .ok (.bipush 48, 2) := by decide +kernel
theorem dX1_readNumber_37 : decode cX1_readNumber 37 = .ok (.isub, 1) := by decide +kernel
theorem dX1_readNumber_38 : decode cX1_readNumber 38 = .ok (.istore 5, 2) := by decide +kernel
theorem dX1_readNumber_40 : decode cX1_readNumber 40 = .ok (.aload_n 0, 1) := by decide +kernel
theorem dX1_readNumber_41 : decode cX1_readNumber 41 = .ok (.dup, 1) := by decide +kernel
theorem dX1_readNumber_42 : decode cX1_readNumber 42 = .ok (.getfield 22, 3) := by decide +kernel
theorem dX1_readNumber_45 : decode cX1_readNumber 45 = .ok (.iconst 1, 1) := by decide +kernel
theorem dX1_readNumber_46 : decode cX1_readNumber 46 = .ok (.iadd, 1) := by decide +kernel
theorem dX1_readNumber_47 : decode cX1_readNumber 47 = .ok (.putfield 22, 3) := by decide +kernel
theorem dX1_readNumber_50 : decode cX1_readNumber 50 = .ok (.iinc 6 1, 3) := by decide +kernel
theorem dX1_readNumber_53 : decode cX1_readNumber 53 = .ok (.goto (-41), 3) := by decide +kernel
theorem dX1_readNumber_56 : decode cX1_readNumber 56 = .ok (.aload_n 0, 1) := by decide +kernel
theorem dX1_readNumber_57 : decode cX1_readNumber 57 = .ok (.getfield 22, 3) := by decide +kernel
theorem dX1_readNumber_60 : decode cX1_readNumber 60 = .ok (.iload 4, 2) := by decide +kernel
theorem dX1_readNumber_62 : decode cX1_readNumber 62 = .ok (.if_icmp .eq 10, 3) := by decide +kernel
theorem dX1_readNumber_65 : decode cX1_readNumber 65 = .ok (.aload_n 0, 1) := by decide +kernel
theorem dX1_readNumber_66 : decode cX1_readNumber 66 = .ok (.invokevirtual 66, 3) := by decide +kernel
theorem dX1_readNumber_69 : decode cX1_readNumber 69 = .ok (.ifCond .eq 11, 3) := by decide +kernel
theorem dX1_readNumber_72 : decode cX1_readNumber 72 = .ok (.aload_n 0, 1) := by decide +kernel
theorem dX1_readNumber_73 : decode cX1_readNumber 73 = .ok (.aload_n 0, 1) := by decide +kernel
theorem dX1_readNumber_74 : decode cX1_readNumber 74 = .ok (.getfield 22, 3) := by decide +kernel
theorem dX1_readNumber_77 : decode cX1_readNumber 77 = .ok (.invokevirtual 54, 3) := by decide +kernel
theorem dX1_readNumber_80 : decode cX1_readNumber 80 = .ok (.iload 5, 2) := by decide +kernel
theorem dX1_readNumber_82 : decode cX1_readNumber 82 = .ok (.iload_n 2, 1) := by decide +kernel
theorem dX1_readNumber_83 : decode cX1_readNumber 83 = .ok (.if_icmp .lt 9, 3) := by decide +kernel
theorem dX1_readNumber_86 : decode cX1_readNumber 86 = .ok (.iload 5, 2) := by decide +kernel
theorem dX1_readNumber_88 : decode cX1_readNumber 88 = .ok (.iload_n 3, 1) := by decide +kernel
theorem dX1_readNumber_89 : decode cX1_readNumber 89 = .ok (.if_icmp .le 9, 3) := by decide +kernel
theorem dX1_readNumber_92 : decode cX1_readNumber 92 = .ok (.aload_n 0, 1) := by decide +kernel
theorem dX1_readNumber_93 : decode cX1_readNumber 93 = .ok (.iload 4, 2) := by decide +kernel
theorem dX1_readNumber_95 : decode cX1_readNumber 95 = .ok (.invokevirtual 54, 3) := by decide +kernel
theorem dX1_readNumber_98 : decode cX1_readNumber 98 = .ok (.iload 5, 2) := by decide +kernel
theorem dX1_readNumber_100 : decode cX1_readNumber 100 = .ok (.ireturn, 1) := by decide +kernel
theorem dX2_init_0 : decode cX2_init 0 = .ok (.aload_n 0, 1) := by decide +kernel
theorem dX2_init_1 : decode cX2_init 1 = .ok (.invokespecial 3, 3) := by decide +kernel
theorem dX2_init_4 : decode cX2_init 4 = .ok (.aload_n 0, 1) := by decide +kernel
theorem dX2_init_5 : decode cX2_init 5 = .ok (.bipush 6, 2) := by decide +kernel
theorem dX2_init_7 : decode cX2_init 7 = .ok (.newarray .int, 2) := by decide +kernel
theorem dX2_init_9 : decode cX2_init 9 = .ok (.putfield 11, 3) := by decide +kernel
theorem dX2_init_12 : decode cX2_init 12 = .ok (.aload_n 0, 1) := by decide +kernel
theorem dX2_init_13 : decode cX2_init 13 = .ok (.bipush 6, 2) := by decide +kernel
theorem dX2_init_15 : decode cX2_init 15 = .ok (.newarray .int, 2) := by decide +kernel
theorem dX2_init_17 : decode cX2_init 17 = .ok (.putfield 15, 3) := by decide +kernel
theorem dX2_init_20 : decode cX2_init 20 = .ok (.aload_n 0, 1) := by decide +kernel
theorem dX2_init_21 : decode cX2_init 21 = .ok (.bipush 6, 2) := by decide +kernel
theorem dX2_init_23 : decode cX2_init 23 = .ok (.newarray .int, 2) := by decide +kernel
theorem dX2_init_25 : decode cX2_init 25 = .ok (.putfield 18, 3) := by decide +kernel
theorem dX2_init_28 : decode cX2_init 28 = .ok (.aload_n 0, 1) := by decide +kernel
theorem dX2_init_29 : decode cX2_init 29 = .ok (.bipush 6, 2) := by decide +kernel
theorem dX2_init_31 : decode cX2_init 31 = .ok (.newarray .int, 2) := by decide +kernel
theorem dX2_init_33 : decode cX2_init 33 = .ok (.putfield 21, 3) := by decide +kernel
theorem dX2_init_36 : decode cX2_init 36 = .ok (.aload_n 0, 1) := by decide +kernel
theorem dX2_init_37 : decode cX2_init 37 = .ok (.bipush 6, 2) := by decide +kernel
theorem dX2_init_39 : decode cX2_init 39 = .ok (.newarray .int, 2) := by decide +kernel
theorem dX2_init_41 : decode cX2_init 41 = .ok (.putfield 24, 3) := by decide +kernel
theorem dX2_init_44 : decode cX2_init 44 = .ok (.aload_n 0, 1) := by decide +kernel
theorem dX2_init_45 : decode cX2_init 45 = .ok (.bipush 6, 2) := by decide +kernel
theorem dX2_init_47 : decode cX2_init 47 = .ok (.newarray .int, 2) := by decide +kernel
theorem dX2_init_49 : decode cX2_init 49 = .ok (.putfield 27, 3) := by decide +kernel
theorem dX2_init_52 : decode cX2_init 52 = .ok (.aload_n 0, 1) := by decide +kernel
theorem dX2_init_53 : decode cX2_init 53 = .ok (.bipush 6, 2) := by decide +kernel
theorem dX2_init_55 : decode cX2_init 55 = .ok (.newarray .int, 2) := by decide +kernel
theorem dX2_init_57 : decode cX2_init 57 = .ok (.putfield 30, 3) := by decide +kernel
theorem dX2_init_60 : decode cX2_init 60 = .ok (.aload_n 0, 1) := by decide +kernel
theorem dX2_init_61 : decode cX2_init 61 = .ok (.bipush 6, 2) := by decide +kernel
theorem dX2_init_63 : decode cX2_init 63 = .ok (.newarray .int, 2) := by decide +kernel
theorem dX2_init_65 : decode cX2_init 65 = .ok (.putfield 33, 3) := by decide +kernel
theorem dX2_init_68 : decode cX2_init 68 = .ok (.return_, 1) := by decide +kernel
theorem dX2_become_0 : decode cX2_become 0 = .ok (.aload_n 0, 1) := by decide +kernel
theorem dX2_become_1 : decode cX2_become 1 = .ok (.aload_n 1, 1) := by decide +kernel
theorem dX2_become_2 : decode cX2_become 2 = .ok (.getfield 36, 3) := by decide +kernel
theorem dX2_become_5 : decode cX2_become 5 = .ok (.putfield 36, 3) := by decide +kernel
theorem dX2_become_8 : decode cX2_become 8 = .ok (.aload_n 1, 1) := by decide +kernel
theorem dX2_become_9 : decode cX2_become 9 = .ok (.getfield 11, 3) := by decide +kernel
theorem dX2_become_12 : decode cX2_become 12 = .ok (.iconst 0, 1) := by decide +kernel
theorem dX2_become_13 : decode cX2_become 13 = .ok (.aload_n 0, 1) := by decide +kernel
theorem dX2_become_14 : decode cX2_become 14 = .ok (.getfield 11, 3) := by decide +kernel
theorem dX2_become_17 : decode cX2_become 17 = .ok (.iconst 0, 1) := by decide +kernel
theorem dX2_become_18 : decode cX2_become 18 = .ok (.bipush 6, 2) := by decide +kernel
theorem dX2_become_20 : decode cX2_become 20 = .ok (.invokestatic 40, 3) := by decide +kernel
theorem dX2_become_23 : decode cX2_become 23 = .ok (.aload_n 1, 1) := by decide +kernel
theorem dX2_become_24 : decode cX2_become 24 = .ok (.getfield 15, 3) := by decide +kernel
theorem dX2_become_27 : decode cX2_become 27 = .ok (.iconst 0, 1) := by decide +kernel
theorem dX2_become_28 : decode cX2_become 28 = .ok (.aload_n 0, 1) := by decide +kernel
theorem dX2_become_29 : decode cX2_become 29 = .ok (.getfield 15, 3) := by decide +kernel
theorem dX2_become_32 : decode cX2_become 32 = .ok (.iconst 0, 1) := by decide +kernel
theorem dX2_become_33 : decode cX2_become 33 = .ok (.bipush 6, 2) := by decide +kernel
theorem dX2_become_35 : decode cX2_become 35 = .ok (.invokestatic 40, 3) := by decide +kernel
theorem dX2_become_38 : decode cX2_become 38 = .ok (.aload_n 1, 1) := by decide +kernel
theorem dX2_become_39 : decode cX2_become 39 = .ok (.getfield 18, 3) := by decide +kernel
theorem dX2_become_42 : decode cX2_become 42 = .ok (.iconst 0, 1) := by decide +kernel
theorem dX2_become_43 : decode cX2_become 43 = .ok (.aload_n 0, 1) := by decide +kernel
theorem dX2_become_44 : decode cX2_become 44 = .ok (.getfield 18, 3) := by decide +kernel
theorem dX2_become_47 : decode cX2_become 47 = .ok (.iconst 0, 1) := by decide +kernel
theorem dX2_become_48 : decode cX2_become 48 = .ok (.bipush 6, 2) := by decide +kernel
theorem dX2_become_50 : decode cX2_become 50 = .ok (.invokestatic 40, 3) := by decide +kernel
theorem dX2_become_53 : decode cX2_become 53 = .ok (.aload_n 1, 1) := by decide +kernel
theorem dX2_become_54 : decode cX2_become 54 = .ok (.getfield 21, 3) := by decide +kernel
theorem dX2_become_57 : decode cX2_become 57 = .ok (.iconst 0, 1) := by decide +kernel
theorem dX2_become_58 : decode cX2_become 58 = .ok (.aload_n 0, 1) := by decide +kernel
theorem dX2_become_59 : decode cX2_become 59 = .ok (.getfield 21, 3) := by decide +kernel
theorem dX2_become_62 : decode cX2_become 62 = .ok (.iconst 0, 1) := by decide +kernel
theorem dX2_become_63 : decode cX2_become 63 = .ok (.bipush 6, 2) := by decide +kernel
theorem dX2_become_65 : decode cX2_become 65 = .ok (.invokestatic 40, 3) := by decide +kernel
theorem dX2_become_68 : decode cX2_become 68 = .ok (.aload_n 1, 1) := by decide +kernel
theorem dX2_become_69 : decode cX2_become 69 = .ok (.getfield 24, 3) := by decide +kernel
theorem dX2_become_72 : decode cX2_become 72 = .ok (.iconst 0, 1) := by decide +kernel
theorem dX2_become_73 : decode cX2_become 73 = .ok (.aload_n 0, 1) := by decide +kernel
theorem dX2_become_74 : decode cX2_become 74 = .ok (.getfield 24, 3) := by decide +kernel
theorem dX2_become_77 : decode cX2_become 77 = .ok (.iconst 0, 1) := by decide +kernel
theorem dX2_become_78 : decode cX2_become 78 = .ok (.bipush 6, 2) := by decide +kernel
theorem dX2_become_80 : decode cX2_become 80 = .ok (.invokestatic 40, 3) := by decide +kernel
theorem dX2_become_83 : decode cX2_become 83 = .ok (.aload_n 1, 1) := by decide +kernel
theorem dX2_become_84 : decode cX2_become 84 = .ok (.getfield 27, 3) := by decide +kernel
theorem dX2_become_87 : decode cX2_become 87 = .ok (.iconst 0, 1) := by decide +kernel
theorem dX2_become_88 : decode cX2_become 88 = .ok (.aload_n 0, 1) := by decide +kernel
theorem dX2_become_89 : decode cX2_become 89 = .ok (.getfield 27, 3) := by decide +kernel
theorem dX2_become_92 : decode cX2_become 92 = .ok (.iconst 0, 1) := by decide +kernel
theorem dX2_become_93 : decode cX2_become 93 = .ok (.bipush 6, 2) := by decide +kernel
theorem dX2_become_95 : decode cX2_become 95 = .ok (.invokestatic 40, 3) := by decide +kernel
theorem dX2_become_98 : decode cX2_become 98 = .ok (.aload_n 1, 1) := by decide +kernel
theorem dX2_become_99 : decode cX2_become 99 = .ok (.getfield 30, 3) := by decide +kernel
theorem dX2_become_102 : decode cX2_become 102 = .ok (.iconst 0, 1) := by decide +kernel
theorem dX2_become_103 : decode cX2_become 103 = .ok (.aload_n 0, 1) := by decide +kernel
theorem dX2_become_104 : decode cX2_become 104 = .ok (.getfield 30, 3) := by decide +kernel
theorem dX2_become_107 : decode cX2_become 107 = .ok (.iconst 0, 1) := by decide +kernel
theorem dX2_become_108 : decode cX2_become 108 = .ok (.bipush 6, 2) := by decide +kernel
theorem dX2_become_110 : decode cX2_become 110 = .ok (.invokestatic 40, 3) := by decide +kernel
theorem dX2_become_113 : decode cX2_become 113 = .ok (.aload_n 1, 1) := by decide +kernel
theorem dX2_become_114 : decode cX2_become 114 = .ok (.getfield 33, 3) := by decide +kernel
theorem dX2_become_117 : decode cX2_become 117 = .ok (.iconst 0, 1) := by decide +kernel
theorem dX2_become_118 : decode cX2_become 118 = .ok (.aload_n 0, 1) := by decide +kernel
theorem dX2_become_119 : decode cX2_become 119 = .ok (.getfield 33, 3) := by decide +kernel
theorem dX2_become_122 : decode cX2_become 122 = .ok (.iconst 0, 1) := by decide +kernel
theorem dX2_become_123 : decode cX2_become 123 = .ok (.bipush 6, 2) := by decide +kernel
theorem dX2_become_125 : decode cX2_become 125 = .ok (.invokestatic 40, 3) := by decide +kernel
theorem dX2_become_128 : decode cX2_become 128 = .ok (.return_, 1) := by decide +kernel
theorem dX2_has_0 : decode cX2_has 0 = .ok (.iload_n 1, 1) := by decide +kernel
theorem dX2_has_1 : decode cX2_has 1 = .ok (.ifCond .lt 15, 3) := by decide +kernel
theorem dX2_has_4 : decode cX2_has 4 = .ok (.iload_n 1, 1) := by decide +kernel
theorem dX2_has_5 : decode cX2_has 5 = .ok (.aload_n 0, 1) := by decide +kernel
theorem dX2_has_6 : decode cX2_has 6 = .ok (.getfield 36, 3) := by decide +kernel
theorem dX2_has_9 : decode cX2_has 9 = .ok (.if_icmp .ge 7, 3) := by decide +kernel
theorem dX2_has_12 : decode cX2_has 12 = .ok (.iconst 1, 1) := by decide +kernel
theorem dX2_has_13 : decode cX2_has 13 = .ok (.goto 4, 3) := by decide +kernel
theorem dX2_has_16 : decode cX2_has 16 = .ok (.iconst 0, 1) := by decide +kernel
theorem dX2_has_17 : decode cX2_has 17 = .ok (.ireturn, 1) := by decide +kernel
theorem dX2_join_0 : decode cX2_join 0 = .ok (.aload_n 0, 1) := by decide +kernel
theorem dX2_join_1 : decode cX2_join 1 = .ok (.getfield 36, 3) := by decide +kernel
theorem dX2_join_4 : decode cX2_join 4 = .ok (.istore_n 3, 1) := by decide +kernel
theorem dX2_join_5 : decode cX2_join 5 = .ok (.iload_n 3, 1) := by decide +kernel
theorem dX2_join_6 : decode cX2_join 6 = .ok (.bipush 6, 2) := by decide +kernel
theorem dX2_join_8 : decode cX2_join 8 = .ok (.if_icmp .lt 5, 3) := by decide +kernel
theorem dX2_join_11 : decode cX2_join 11 = .ok (.iconst (-1), 1) := by decide +kernel
theorem dX2_join_12 : decode cX2_join 12 = .ok (.ireturn, 1) := by decide +kernel
theorem dX2_join_13 : decode cX2_join 13 = .ok (.aload_n 0, 1) := by decide +kernel
theorem dX2_join_14 : decode cX2_join 14 = .ok (.getfield 11, 3) := by decide +kernel
theorem dX2_join_17 : decode cX2_join 17 = .ok (.iload_n 3, 1) := by decide +kernel
theorem dX2_join_18 : decode cX2_join 18 = .ok (.iload_n 1, 1) := by decide +kernel
theorem dX2_join_19 : decode cX2_join 19 = .ok (.iastore, 1) := by decide +kernel
theorem dX2_join_20 : decode cX2_join 20 = .ok (.aload_n 0, 1) := by decide +kernel
theorem dX2_join_21 : decode cX2_join 21 = .ok (.getfield 15, 3) := by decide +kernel
theorem dX2_join_24 : decode cX2_join 24 = .ok (.iload_n 3, 1) := by decide +kernel
theorem dX2_join_25 : decode cX2_join 25 = .ok (.iload_n 2, 1) := by decide +kernel
theorem dX2_join_26 : decode cX2_join 26 = .ok (.iastore, 1) := by decide +kernel
theorem dX2_join_27 : decode cX2_join 27 = .ok (.aload_n 0, 1) := by decide +kernel
theorem dX2_join_28 : decode cX2_join 28 = .ok (.getfield 21, 3) := by decide +kernel
theorem dX2_join_31 : decode cX2_join 31 = .ok (.iload_n 3, 1) := by decide +kernel
theorem dX2_join_32 : decode cX2_join 32 = .ok (.iload_n 3, 1) := by decide +kernel
theorem dX2_join_33 : decode cX2_join 33 = .ok (.iastore, 1) := by decide +kernel
theorem dX2_join_34 : decode cX2_join 34 = .ok (.aload_n 0, 1) := by decide +kernel
theorem dX2_join_35 : decode cX2_join 35 = .ok (.dup, 1) := by decide +kernel
theorem dX2_join_36 : decode cX2_join 36 = .ok (.getfield 36, 3) := by decide +kernel
theorem dX2_join_39 : decode cX2_join 39 = .ok (.iconst 1, 1) := by decide +kernel
theorem dX2_join_40 : decode cX2_join 40 = .ok (.iadd, 1) := by decide +kernel
theorem dX2_join_41 : decode cX2_join 41 = .ok (.putfield 36, 3) := by decide +kernel
theorem dX2_join_44 : decode cX2_join 44 = .ok (.iload_n 3, 1) := by decide +kernel
theorem dX2_join_45 : decode cX2_join 45 = .ok (.ireturn, 1) := by decide +kernel
set_option maxRecDepth 20000 in
theorem ggX2_fact_X2_has : GoodIn wsX2_fact wsX2_has := goodIn_r _ [13, 14, 15, 16, 17, 18, 19, 20, 21, 22, 23] (by decide +kernel) (by decide +kernel)
set_option maxRecDepth 20000 in
theorem gX2_fact_X2_has : GoodIn wsX2_fact (wsV RX2 46 RX2 yX2_has wsX2_has) := goodIn_app (goodIn_of _ (by decide +kernel)) ggX2_fact_X2_has
theorem dX2_fact_0 : decode cX2_fact 0 = .ok (.aload_n 0, 1) := by decide +kernel
theorem dX2_fact_1 : decode cX2_fact 1 = .ok (.iload_n 1, 1) := by decide +kernel
theorem dX2_fact_2 : decode cX2_fact 2 = .ok (.invokevirtual 46, 3) := by decide +kernel
theorem dX2_fact_5 : decode cX2_fact 5 = .ok (.ifCond .ne 5, 3) := by decide +kernel
theorem dX2_fact_8 : decode cX2_fact 8 = .ok (.iconst 0, 1) := by decide +kernel
theorem dX2_fact_9 : decode cX2_fact 9 = .ok (.ireturn, 1) := by decide +kernel
theorem dX2_fact_10 : decode cX2_fact 10 = .ok (.iload_n 2, 1) := by decide +kernel
theorem dX2_fact_11 : decode cX2_fact 11 = .ok (.tableswitch 90 0 6 #[41, 48, 55, 62, 69, 76, 83], 41) := by decide +kernel
theorem dX2_fact_52 : decode cX2_fact 52 = .ok (.aload_n 0, 1) := by decide +kernel
theorem dX2_fact_53 : decode cX2_fact 53 = .ok (.getfield 11, 3) := by decide +kernel
theorem dX2_fact_56 : decode cX2_fact 56 = .ok (.iload_n 1, 1) := by decide +kernel
theorem dX2_fact_57 : decode cX2_fact 57 = .ok (.iaload, 1) := by decide +kernel
theorem dX2_fact_58 : decode cX2_fact 58 = .ok (.ireturn, 1) := by decide +kernel
theorem dX2_fact_59 : decode cX2_fact 59 = .ok (.aload_n 0, 1) := by decide +kernel
theorem dX2_fact_60 : decode cX2_fact 60 = .ok (.getfield 15, 3) := by decide +kernel
theorem dX2_fact_63 : decode cX2_fact 63 = .ok (.iload_n 1, 1) := by decide +kernel
theorem dX2_fact_64 : decode cX2_fact 64 = .ok (.iaload, 1) := by decide +kernel
theorem dX2_fact_65 : decode cX2_fact 65 = .ok (.ireturn, 1) := by decide +kernel
theorem dX2_fact_66 : decode cX2_fact 66 = .ok (.aload_n 0, 1) := by decide +kernel
theorem dX2_fact_67 : decode cX2_fact 67 = .ok (.getfield 18, 3) := by decide +kernel
theorem dX2_fact_70 : decode cX2_fact 70 = .ok (.iload_n 1, 1) := by decide +kernel
theorem dX2_fact_71 : decode cX2_fact 71 = .ok (.iaload, 1) := by decide +kernel
theorem dX2_fact_72 : decode cX2_fact 72 = .ok (.ireturn, 1) := by decide +kernel
theorem dX2_fact_73 : decode cX2_fact 73 = .ok (.aload_n 0, 1) := by decide +kernel
theorem dX2_fact_74 : decode cX2_fact 74 = .ok (.getfield 21, 3) := by decide +kernel
theorem dX2_fact_77 : decode cX2_fact 77 = .ok (.iload_n 1, 1) := by decide +kernel
theorem dX2_fact_78 : decode cX2_fact 78 = .ok (.iaload, 1) := by decide +kernel
theorem dX2_fact_79 : decode cX2_fact 79 = .ok (.ireturn, 1) := by decide +kernel
theorem dX2_fact_80 : decode cX2_fact 80 = .ok (.aload_n 0, 1) := by decide +kernel
theorem dX2_fact_81 : decode cX2_fact 81 = .ok (.getfield 24, 3) := by decide +kernel
theorem dX2_fact_84 : decode cX2_fact 84 = .ok (.iload_n 1, 1) := by decide +kernel
theorem dX2_fact_85 : decode cX2_fact 85 = .ok (.iaload, 1) := by decide +kernel
theorem dX2_fact_86 : decode cX2_fact 86 = .ok (.ireturn, 1) := by decide +kernel
theorem dX2_fact_87 : decode cX2_fact 87 = .ok (.aload_n 0, 1) := by decide +kernel
theorem dX2_fact_88 : decode cX2_fact 88 = .ok (.getfield 27, 3) := by decide +kernel
theorem dX2_fact_91 : decode cX2_fact 91 = .ok (.iload_n 1, 1) := by decide +kernel
theorem dX2_fact_92 : decode cX2_fact 92 = .ok (.iaload, 1) := by decide +kernel
theorem dX2_fact_93 : decode cX2_fact 93 = .ok (.ireturn, 1) := by decide +kernel
theorem dX2_fact_94 : decode cX2_fact 94 = .ok (.aload_n 0, 1) := by decide +kernel
theorem dX2_fact_95 : decode cX2_fact 95 = .ok (.getfield 30, 3) := by decide +kernel
theorem dX2_fact_98 : decode cX2_fact 98 = .ok (.iload_n 1, 1) := by decide +kernel
theorem dX2_fact_99 : decode cX2_fact 99 = .ok (.iaload, 1) := by decide +kernel
theorem dX2_fact_100 : decode cX2_fact 100 = .ok (.ireturn, 1) := by decide +kernel
theorem dX2_fact_101 : decode cX2_fact 101 = .ok (.aload_n 0, 1) := by decide +kernel
theorem dX2_fact_102 : decode cX2_fact 102 = .ok (.getfield 33, 3) := by decide +kernel
theorem dX2_fact_105 : decode cX2_fact 105 = .ok (.iload_n 1, 1) := by decide +kernel
theorem dX2_fact_106 : decode cX2_fact 106 = .ok (.iaload, 1) := by decide +kernel
theorem dX2_fact_107 : decode cX2_fact 107 = .ok (.ireturn, 1) := by decide +kernel
theorem dX2_countIn_0 : decode cX2_countIn 0 = .ok (.iconst 0, 1) := by decide +kernel
theorem dX2_countIn_1 : decode cX2_countIn 1 = .ok (.istore_n 2, 1) := by decide +kernel
theorem dX2_countIn_2 : decode cX2_countIn 2 = .ok (.iconst 0, 1) := by decide +kernel
theorem dX2_countIn_3 : decode cX2_countIn 3 = .ok (.istore_n 3, 1) := by decide +kernel
theorem dX2_countIn_4 : decode cX2_countIn 4 = .ok (.iload_n 3, 1) := by decide +kernel
theorem dX2_countIn_5 : decode cX2_countIn 5 = .ok (.aload_n 0, 1) := by decide +kernel
theorem dX2_countIn_6 : decode cX2_countIn 6 = .ok (.getfield 36, 3) := by decide +kernel
theorem dX2_countIn_9 : decode cX2_countIn 9 = .ok (.if_icmp .ge 22, 3) := by decide +kernel
theorem dX2_countIn_12 : decode cX2_countIn 12 = .ok (.aload_n 0, 1) := by decide +kernel
theorem dX2_countIn_13 : decode cX2_countIn 13 = .ok (.getfield 18, 3) := by decide +kernel
theorem dX2_countIn_16 : decode cX2_countIn 16 = .ok (.iload_n 3, 1) := by decide +kernel
theorem dX2_countIn_17 : decode cX2_countIn 17 = .ok (.iaload, 1) := by decide +kernel
theorem dX2_countIn_18 : decode cX2_countIn 18 = .ok (.iload_n 1, 1) := by decide +kernel
theorem dX2_countIn_19 : decode cX2_countIn 19 = .ok (.if_icmp .ne 6, 3) := by decide +kernel
theorem dX2_countIn_22 : decode cX2_countIn 22 = .ok (.iinc 2 1, 3) := by decide +kernel
theorem dX2_countIn_25 : decode cX2_countIn 25 = .ok (.iinc 3 1, 3) := by decide +kernel
theorem dX2_countIn_28 : decode cX2_countIn 28 = .ok (.goto (-24), 3) := by decide +kernel
theorem dX2_countIn_31 : decode cX2_countIn 31 = .ok (.iload_n 2, 1) := by decide +kernel
theorem dX2_countIn_32 : decode cX2_countIn 32 = .ok (.ireturn, 1) := by decide +kernel
theorem dX2_allStarts_0 : decode cX2_allStarts 0 = .ok (.iconst 0, 1) := by decide +kernel
theorem dX2_allStarts_1 : decode cX2_allStarts 1 = .ok (.istore_n 1, 1) := by decide +kernel
theorem dX2_allStarts_2 : decode cX2_allStarts 2 = .ok (.iconst 0, 1) := by decide +kernel
theorem dX2_allStarts_3 : decode cX2_allStarts 3 = .ok (.istore_n 2, 1) := by decide +kernel
theorem dX2_allStarts_4 : decode cX2_allStarts 4 = .ok (.iload_n 2, 1) := by decide +kernel
theorem dX2_allStarts_5 : decode cX2_allStarts 5 = .ok (.aload_n 0, 1) := by decide +kernel
theorem dX2_allStarts_6 : decode cX2_allStarts 6 = .ok (.getfield 36, 3) := by decide +kernel
theorem dX2_allStarts_9 : decode cX2_allStarts 9 = .ok (.if_icmp .ge 18, 3) := by decide +kernel
theorem dX2_allStarts_12 : decode cX2_allStarts 12 = .ok (.iload_n 1, 1) := by decide +kernel
theorem dX2_allStarts_13 : decode cX2_allStarts 13 = .ok (.aload_n 0, 1) := by decide +kernel
theorem dX2_allStarts_14 : decode cX2_allStarts 14 = .ok (.getfield 27, 3) := by decide +kernel
theorem dX2_allStarts_17 : decode cX2_allStarts 17 = .ok (.iload_n 2, 1) := by decide +kernel
theorem dX2_allStarts_18 : decode cX2_allStarts 18 = .ok (.iaload, 1) := by decide +kernel
theorem dX2_allStarts_19 : decode cX2_allStarts 19 = .ok (.iadd, 1) := by decide +kernel
theorem dX2_allStarts_20 : decode cX2_allStarts 20 = .ok (.istore_n 1, 1) := by decide +kernel
theorem dX2_allStarts_21 : decode cX2_allStarts 21 = .ok (.iinc 2 1, 3) := by decide +kernel
theorem dX2_allStarts_24 : decode cX2_allStarts 24 = .ok (.goto (-20), 3) := by decide +kernel
theorem dX2_allStarts_27 : decode cX2_allStarts 27 = .ok (.iload_n 1, 1) := by decide +kernel
theorem dX2_allStarts_28 : decode cX2_allStarts 28 = .ok (.ireturn, 1) := by decide +kernel
theorem dX2_lead_0 : decode cX2_lead 0 = .ok (.iconst 0, 1) := by decide +kernel
theorem dX2_lead_1 : decode cX2_lead 1 = .ok (.istore_n 1, 1) := by decide +kernel
theorem dX2_lead_2 : decode cX2_lead 2 = .ok (.iload_n 1, 1) := by decide +kernel
theorem dX2_lead_3 : decode cX2_lead 3 = .ok (.aload_n 0, 1) := by decide +kernel
theorem dX2_lead_4 : decode cX2_lead 4 = .ok (.getfield 36, 3) := by decide +kernel
theorem dX2_lead_7 : decode cX2_lead 7 = .ok (.if_icmp .ge 20, 3) := by decide +kernel
theorem dX2_lead_10 : decode cX2_lead 10 = .ok (.aload_n 0, 1) := by decide +kernel
theorem dX2_lead_11 : decode cX2_lead 11 = .ok (.getfield 21, 3) := by decide +kernel
theorem dX2_lead_14 : decode cX2_lead 14 = .ok (.iload_n 1, 1) := by decide +kernel
theorem dX2_lead_15 : decode cX2_lead 15 = .ok (.iaload, 1) := by decide +kernel
theorem dX2_lead_16 : decode cX2_lead 16 = .ok (.ifCond .ne 5, 3) := by decide +kernel
theorem dX2_lead_19 : decode cX2_lead 19 = .ok (.iload_n 1, 1) := by decide +kernel
theorem dX2_lead_20 : decode cX2_lead 20 = .ok (.ireturn, 1) := by decide +kernel
theorem dX2_lead_21 : decode cX2_lead 21 = .ok (.iinc 1 1, 3) := by decide +kernel
theorem dX2_lead_24 : decode cX2_lead 24 = .ok (.goto (-22), 3) := by decide +kernel
theorem dX2_lead_27 : decode cX2_lead 27 = .ok (.iconst (-1), 1) := by decide +kernel
theorem dX2_lead_28 : decode cX2_lead 28 = .ok (.ireturn, 1) := by decide +kernel
theorem dX2_swearAll_0 : decode cX2_swearAll 0 = .ok (.iconst 0, 1) := by decide +kernel
theorem dX2_swearAll_1 : decode cX2_swearAll 1 = .ok (.istore_n 2, 1) := by decide +kernel
theorem dX2_swearAll_2 : decode cX2_swearAll 2 = .ok (.iload_n 2, 1) := by decide +kernel
theorem dX2_swearAll_3 : decode cX2_swearAll 3 = .ok (.aload_n 0, 1) := by decide +kernel
theorem dX2_swearAll_4 : decode cX2_swearAll 4 = .ok (.getfield 36, 3) := by decide +kernel
theorem dX2_swearAll_7 : decode cX2_swearAll 7 = .ok (.if_icmp .ge 16, 3) := by decide +kernel
theorem dX2_swearAll_10 : decode cX2_swearAll 10 = .ok (.aload_n 0, 1) := by decide +kernel
theorem dX2_swearAll_11 : decode cX2_swearAll 11 = .ok (.getfield 15, 3) := by decide +kernel
theorem dX2_swearAll_14 : decode cX2_swearAll 14 = .ok (.iload_n 2, 1) := by decide +kernel
theorem dX2_swearAll_15 : decode cX2_swearAll 15 = .ok (.iload_n 1, 1) := by decide +kernel
theorem dX2_swearAll_16 : decode cX2_swearAll 16 = .ok (.iastore, 1) := by decide +kernel
theorem dX2_swearAll_17 : decode cX2_swearAll 17 = .ok (.iinc 2 1, 3) := by decide +kernel
theorem dX2_swearAll_20 : decode cX2_swearAll 20 = .ok (.goto (-18), 3) := by decide +kernel
theorem dX2_swearAll_23 : decode cX2_swearAll 23 = .ok (.return_, 1) := by decide +kernel
theorem dX2_takeAllOut_0 : decode cX2_takeAllOut 0 = .ok (.iconst 0, 1) := by decide +kernel
theorem dX2_takeAllOut_1 : decode cX2_takeAllOut 1 = .ok (.istore_n 1, 1) := by decide +kernel
theorem dX2_takeAllOut_2 : decode cX2_takeAllOut 2 = .ok (.iload_n 1, 1) := by decide +kernel
theorem dX2_takeAllOut_3 : decode cX2_takeAllOut 3 = .ok (.aload_n 0, 1) := by decide +kernel
theorem dX2_takeAllOut_4 : decode cX2_takeAllOut 4 = .ok (.getfield 36, 3) := by decide +kernel
theorem dX2_takeAllOut_7 : decode cX2_takeAllOut 7 = .ok (.if_icmp .ge 16, 3) := by decide +kernel
theorem dX2_takeAllOut_10 : decode cX2_takeAllOut 10 = .ok (.aload_n 0, 1) := by decide +kernel
theorem dX2_takeAllOut_11 : decode cX2_takeAllOut 11 = .ok (.getfield 18, 3) := by decide +kernel
theorem dX2_takeAllOut_14 : decode cX2_takeAllOut 14 = .ok (.iload_n 1, 1) := by decide +kernel
theorem dX2_takeAllOut_15 : decode cX2_takeAllOut 15 = .ok (.iconst 2, 1) := by decide +kernel
theorem dX2_takeAllOut_16 : decode cX2_takeAllOut 16 = .ok (.iastore, 1) := by decide +kernel
theorem dX2_takeAllOut_17 : decode cX2_takeAllOut 17 = .ok (.iinc 1 1, 3) := by decide +kernel
theorem dX2_takeAllOut_20 : decode cX2_takeAllOut 20 = .ok (.goto (-18), 3) := by decide +kernel
theorem dX2_takeAllOut_23 : decode cX2_takeAllOut 23 = .ok (.return_, 1) := by decide +kernel
theorem dX2_beginHour_0 : decode cX2_beginHour 0 = .ok (.iconst 0, 1) := by decide +kernel
theorem dX2_beginHour_1 : decode cX2_beginHour 1 = .ok (.istore_n 1, 1) := by decide +kernel
theorem dX2_beginHour_2 : decode cX2_beginHour 2 = .ok (.iload_n 1, 1) := by decide +kernel
theorem dX2_beginHour_3 : decode cX2_beginHour 3 = .ok (.aload_n 0, 1) := by decide +kernel
theorem dX2_beginHour_4 : decode cX2_beginHour 4 = .ok (.getfield 36, 3) := by decide +kernel
theorem dX2_beginHour_7 : decode cX2_beginHour 7 = .ok (.if_icmp .ge 16, 3) := by decide +kernel
theorem dX2_beginHour_10 : decode cX2_beginHour 10 = .ok (.aload_n 0, 1) := by decide +kernel
theorem dX2_beginHour_11 : decode cX2_beginHour 11 = .ok (.getfield 24, 3) := by decide +kernel
theorem dX2_beginHour_14 : decode cX2_beginHour 14 = .ok (.iload_n 1, 1) := by decide +kernel
theorem dX2_beginHour_15 : decode cX2_beginHour 15 = .ok (.iconst 0, 1) := by decide +kernel
theorem dX2_beginHour_16 : decode cX2_beginHour 16 = .ok (.iastore, 1) := by decide +kernel
theorem dX2_beginHour_17 : decode cX2_beginHour 17 = .ok (.iinc 1 1, 3) := by decide +kernel
theorem dX2_beginHour_20 : decode cX2_beginHour 20 = .ok (.goto (-18), 3) := by decide +kernel
theorem dX2_beginHour_23 : decode cX2_beginHour 23 = .ok (.return_, 1) := by decide +kernel
set_option maxRecDepth 20000 in
theorem ggX2_stopAll_X2_passLeadOn : GoodIn wsX2_stopAll wsX2_passLeadOn := goodIn_r _ [7, 1, 8, 9, 10, 11, 12, 13, 14, 15, 16, 17] (by decide +kernel) (by decide +kernel)
set_option maxRecDepth 20000 in
theorem gX2_stopAll_X2_passLeadOn : GoodIn wsX2_stopAll (wsV RX2 50 RX2 yX2_passLeadOn wsX2_passLeadOn) := goodIn_app (goodIn_of _ (by decide +kernel)) ggX2_stopAll_X2_passLeadOn
theorem dX2_stopAll_0 : decode cX2_stopAll 0 = .ok (.iconst 0, 1) := by decide +kernel
theorem dX2_stopAll_1 : decode cX2_stopAll 1 = .ok (.istore_n 1, 1) := by decide +kernel
theorem dX2_stopAll_2 : decode cX2_stopAll 2 = .ok (.iconst 0, 1) := by decide +kernel
theorem dX2_stopAll_3 : decode cX2_stopAll 3 = .ok (.istore_n 2, 1) := by decide +kernel
theorem dX2_stopAll_4 : decode cX2_stopAll 4 = .ok (.iload_n 2, 1) := by decide +kernel
theorem dX2_stopAll_5 : decode cX2_stopAll 5 = .ok (.aload_n 0, 1) := by decide +kernel
theorem dX2_stopAll_6 : decode cX2_stopAll 6 = .ok (.getfield 36, 3) := by decide +kernel
theorem dX2_stopAll_9 : decode cX2_stopAll 9 = .ok (.if_icmp .ge 28, 3) := by decide +kernel
theorem dX2_stopAll_12 : decode cX2_stopAll 12 = .ok (.aload_n 0, 1) := by decide +kernel
theorem dX2_stopAll_13 : decode cX2_stopAll 13 = .ok (.getfield 18, 3) := by decide +kernel
theorem dX2_stopAll_16 : decode cX2_stopAll 16 = .ok (.iload_n 2, 1) := by decide +kernel
theorem dX2_stopAll_17 : decode cX2_stopAll 17 = .ok (.iaload, 1) := by decide +kernel
theorem dX2_stopAll_18 : decode cX2_stopAll 18 = .ok (.iconst 1, 1) := by decide +kernel
theorem dX2_stopAll_19 : decode cX2_stopAll 19 = .ok (.if_icmp .ne 12, 3) := by decide +kernel
theorem dX2_stopAll_22 : decode cX2_stopAll 22 = .ok (.aload_n 0, 1) := by decide +kernel
theorem dX2_stopAll_23 : decode cX2_stopAll 23 = .ok (.getfield 18, 3) := by decide +kernel
theorem dX2_stopAll_26 : decode cX2_stopAll 26 = .ok (.iload_n 2, 1) := by decide +kernel
theorem dX2_stopAll_27 : decode cX2_stopAll 27 = .ok (.iconst 0, 1) := by decide +kernel
theorem dX2_stopAll_28 : decode cX2_stopAll 28 = .ok (.iastore, 1) := by decide +kernel
theorem dX2_stopAll_29 : decode cX2_stopAll 29 = .ok (.iconst 1, 1) := by decide +kernel
theorem dX2_stopAll_30 : decode cX2_stopAll 30 = .ok (.istore_n 1, 1) := by decide +kernel
theorem dX2_stopAll_31 : decode cX2_stopAll 31 = .ok (.iinc 2 1, 3) := by decide +kernel
theorem dX2_stopAll_34 : decode cX2_stopAll 34 = .ok (.goto (-30), 3) := by decide +kernel
theorem dX2_stopAll_37 : decode cX2_stopAll 37 = .ok (.iload_n 1, 1) := by decide +kernel
theorem dX2_stopAll_38 : decode cX2_stopAll 38 = .ok (.ifCond .eq 7, 3) := by decide +kernel
theorem dX2_stopAll_41 : decode cX2_stopAll 41 = .ok (.aload_n 0, 1) := by decide +kernel
theorem dX2_stopAll_42 : decode cX2_stopAll 42 = .ok (.invokevirtual 50, 3) := by decide +kernel
theorem dX2_stopAll_45 : decode cX2_stopAll 45 = .ok (.return_, 1) := by decide +kernel
theorem dX2_passLeadOn_0 : decode cX2_passLeadOn 0 = .ok (.iconst 0, 1) := by decide +kernel
theorem dX2_passLeadOn_1 : decode cX2_passLeadOn 1 = .ok (.istore_n 1, 1) := by decide +kernel
theorem dX2_passLeadOn_2 : decode cX2_passLeadOn 2 = .ok (.iload_n 1, 1) := by decide +kernel
theorem dX2_passLeadOn_3 : decode cX2_passLeadOn 3 = .ok (.aload_n 0, 1) := by decide +kernel
theorem dX2_passLeadOn_4 : decode cX2_passLeadOn 4 = .ok (.getfield 36, 3) := by decide +kernel
theorem dX2_passLeadOn_7 : decode cX2_passLeadOn 7 = .ok (.if_icmp .ge 41, 3) := by decide +kernel
theorem dX2_passLeadOn_10 : decode cX2_passLeadOn 10 = .ok (.aload_n 0, 1) := by decide +kernel
theorem dX2_passLeadOn_11 : decode cX2_passLeadOn 11 = .ok (.getfield 21, 3) := by decide +kernel
theorem dX2_passLeadOn_14 : decode cX2_passLeadOn 14 = .ok (.iload_n 1, 1) := by decide +kernel
theorem dX2_passLeadOn_15 : decode cX2_passLeadOn 15 = .ok (.aload_n 0, 1) := by decide +kernel
theorem dX2_passLeadOn_16 : decode cX2_passLeadOn 16 = .ok (.getfield 21, 3) := by decide +kernel
theorem dX2_passLeadOn_19 : decode cX2_passLeadOn 19 = .ok (.iload_n 1, 1) := by decide +kernel
theorem dX2_passLeadOn_20 : decode cX2_passLeadOn 20 = .ok (.iaload, 1) := by decide +kernel
theorem dX2_passLeadOn_21 : decode cX2_passLeadOn 21 = .ok (.ifCond .ne 12, 3) := by decide +kernel
theorem dX2_passLeadOn_24 : decode cX2_passLeadOn 24 = .ok (.aload_n 0, 1) := by decide +kernel
theorem dX2_passLeadOn_25 : decode cX2_passLeadOn 25 = .ok (.getfield 36, 3) := by decide +kernel
theorem dX2_passLeadOn_28 : decode cX2_passLeadOn 28 = .ok (.iconst 1, 1) := by decide +kernel
theorem dX2_passLeadOn_29 : decode cX2_passLeadOn 29 = .ok (.isub, 1) := by decide +kernel
theorem dX2_passLeadOn_30 : decode cX2_passLeadOn 30 = .ok (.goto 11, 3) := by decide +kernel
theorem dX2_passLeadOn_33 : decode cX2_passLeadOn 33 = .ok (.aload_n 0, 1) := by decide +kernel
theorem dX2_passLeadOn_34 : decode cX2_passLeadOn 34 = .ok (.getfield 21, 3) := by decide +kernel
theorem dX2_passLeadOn_37 : decode cX2_passLeadOn 37 = .ok (.iload_n 1, 1) := by decide +kernel
theorem dX2_passLeadOn_38 : decode cX2_passLeadOn 38 = .ok (.iaload, 1) := by decide +kernel
theorem dX2_passLeadOn_39 : decode cX2_passLeadOn 39 = .ok (.iconst 1, 1) := by decide +kernel
theorem dX2_passLeadOn_40 : decode cX2_passLeadOn 40 = .ok (.isub, 1) := by decide +kernel
theorem dX2_passLeadOn_41 : decode cX2_passLeadOn 41 = .ok (.iastore, 1) := by decide +kernel
theorem dX2_passLeadOn_42 : decode cX2_passLeadOn 42 = .ok (.iinc 1 1, 3) := by decide +kernel
theorem dX2_passLeadOn_45 : decode cX2_passLeadOn 45 = .ok (.goto (-43), 3) := by decide +kernel
theorem dX2_passLeadOn_48 : decode cX2_passLeadOn 48 = .ok (.return_, 1) := by decide +kernel
set_option maxRecDepth 20000 in
theorem ggX2_nextToStart_X2_firstOff : GoodIn wsX2_nextToStart wsX2_firstOff := goodIn_r _ [5, 6, 7, 8, 9, 10, 11, 12, 13, 14, 15, 16, 17, 18, 19] (by decide +kernel) (by decide +kernel)
set_option maxRecDepth 20000 in
theorem gX2_nextToStart_X2_firstOff : GoodIn wsX2_nextToStart (wsV RX2 53 RX2 yX2_firstOff wsX2_firstOff) := goodIn_app (goodIn_of _ (by decide +kernel)) ggX2_nextToStart_X2_firstOff
theorem dX2_nextToStart_0 : decode cX2_nextToStart 0 = .ok (.aload_n 0, 1) := by decide +kernel
theorem dX2_nextToStart_1 : decode cX2_nextToStart 1 = .ok (.iconst 1, 1) := by decide +kernel
theorem dX2_nextToStart_2 : decode cX2_nextToStart 2 = .ok (.invokevirtual 53, 3) := by decide +kernel
theorem dX2_nextToStart_5 : decode cX2_nextToStart 5 = .ok (.istore_n 2, 1) := by decide +kernel
theorem dX2_nextToStart_6 : decode cX2_nextToStart 6 = .ok (.iload_n 2, 1) := by decide +kernel
theorem dX2_nextToStart_7 : decode cX2_nextToStart 7 = .ok (.iconst (-1), 1) := by decide +kernel
theorem dX2_nextToStart_8 : decode cX2_nextToStart 8 = .ok (.if_icmp .ne 15, 3) := by decide +kernel
theorem dX2_nextToStart_11 : decode cX2_nextToStart 11 = .ok (.iload_n 1, 1) := by decide +kernel
theorem dX2_nextToStart_12 : decode cX2_nextToStart 12 = .ok (.ifCond .eq 11, 3) := by decide +kernel
theorem dX2_nextToStart_15 : decode cX2_nextToStart 15 = .ok (.aload_n 0, 1) := by decide +kernel
theorem dX2_nextToStart_16 : decode cX2_nextToStart 16 = .ok (.iconst 0, 1) := by decide +kernel
theorem dX2_nextToStart_17 : decode cX2_nextToStart 17 = .ok (.invokevirtual 53, 3) := by decide +kernel
theorem dX2_nextToStart_20 : decode cX2_nextToStart 20 = .ok (.goto 4, 3) := by decide +kernel
theorem dX2_nextToStart_23 : decode cX2_nextToStart 23 = .ok (.iload_n 2, 1) := by decide +kernel
theorem dX2_nextToStart_24 : decode cX2_nextToStart 24 = .ok (.ireturn, 1) := by decide +kernel
theorem dX2_firstOff_0 : decode cX2_firstOff 0 = .ok (.iconst (-1), 1) := by decide +kernel
theorem dX2_firstOff_1 : decode cX2_firstOff 1 = .ok (.istore_n 2, 1) := by decide +kernel
theorem dX2_firstOff_2 : decode cX2_firstOff 2 = .ok (.bipush 6, 2) := by decide +kernel
theorem dX2_firstOff_4 : decode cX2_firstOff 4 = .ok (.istore_n 3, 1) := by decide +kernel
theorem dX2_firstOff_5 : decode cX2_firstOff 5 = .ok (.iconst 0, 1) := by decide +kernel
theorem dX2_firstOff_6 : decode cX2_firstOff 6 = .ok (.istore 4, 2) := by decide +kernel
theorem dX2_firstOff_8 : decode cX2_firstOff 8 = .ok (.iload 4, 2) := by decide +kernel
theorem dX2_firstOff_10 : decode cX2_firstOff 10 = .ok (.aload_n 0, 1) := by decide +kernel
theorem dX2_firstOff_11 : decode cX2_firstOff 11 = .ok (.getfield 36, 3) := by decide +kernel
theorem dX2_firstOff_14 : decode cX2_firstOff 14 = .ok (.if_icmp .ge 74, 3) := by decide +kernel
theorem dX2_firstOff_17 : decode cX2_firstOff 17 = .ok (.iload_n 1, 1) := by decide +kernel
theorem dX2_firstOff_18 : decode cX2_firstOff 18 = .ok (.ifCond .eq 20, 3) := by decide +kernel
theorem dX2_firstOff_21 : decode cX2_firstOff 21 = .ok (.aload_n 0, 1) := by decide +kernel
theorem dX2_firstOff_22 : decode cX2_firstOff 22 = .ok (.getfield 24, 3) := by decide +kernel
theorem dX2_firstOff_25 : decode cX2_firstOff 25 = .ok (.iload 4, 2) := by decide +kernel
theorem dX2_firstOff_27 : decode cX2_firstOff 27 = .ok (.iaload, 1) := by decide +kernel
theorem dX2_firstOff_28 : decode cX2_firstOff 28 = .ok (.aload_n 0, 1) := by decide +kernel
theorem dX2_firstOff_29 : decode cX2_firstOff 29 = .ok (.getfield 15, 3) := by decide +kernel
theorem dX2_firstOff_32 : decode cX2_firstOff 32 = .ok (.iload 4, 2) := by decide +kernel
theorem dX2_firstOff_34 : decode cX2_firstOff 34 = .ok (.iaload, 1) := by decide +kernel
theorem dX2_firstOff_35 : decode cX2_firstOff 35 = .ok (.if_icmp .ge 7, 3) := by decide +kernel
theorem dX2_firstOff_38 : decode cX2_firstOff 38 = .ok (.iconst 1, 1) := by decide +kernel
theorem dX2_firstOff_39 : decode cX2_firstOff 39 = .ok (.goto 4, 3) := by decide +kernel
theorem dX2_firstOff_42 : decode cX2_firstOff 42 = .ok (.iconst 0, 1) := by decide +kernel
theorem dX2_firstOff_43 : decode cX2_firstOff 43 = .ok (.istore 5, 2) := by decide +kernel
theorem dX2_firstOff_45 : decode cX2_firstOff 45 = .ok (.aload_n 0, 1) := by decide +kernel
theorem dX2_firstOff_46 : decode cX2_firstOff 46 = .ok (.getfield 18, 3) := by decide +kernel
theorem dX2_firstOff_49 : decode cX2_firstOff 49 = .ok (.iload 4, 2) := by decide +kernel
theorem dX2_firstOff_51 : decode cX2_firstOff 51 = .ok (.iaload, 1) := by decide +kernel
theorem dX2_firstOff_52 : decode cX2_firstOff 52 = .ok (.ifCond .ne 30, 3) := by decide +kernel
theorem dX2_firstOff_55 : decode cX2_firstOff 55 = .ok (.iload 5, 2) := by decide +kernel
theorem dX2_firstOff_57 : decode cX2_firstOff 57 = .ok (.ifCond .eq 25, 3) := by decide +kernel
theorem dX2_firstOff_60 : decode cX2_firstOff 60 = .ok (.aload_n 0, 1) := by decide +kernel
theorem dX2_firstOff_61 : decode cX2_firstOff 61 = .ok (.getfield 21, 3) := by decide +kernel
theorem dX2_firstOff_64 : decode cX2_firstOff 64 = .ok (.iload 4, 2) := by decide +kernel
theorem dX2_firstOff_66 : decode cX2_firstOff 66 = .ok (.iaload, 1) := by decide +kernel
theorem dX2_firstOff_67 : decode cX2_firstOff 67 = .ok (.iload_n 3, 1) := by decide +kernel
theorem dX2_firstOff_68 : decode cX2_firstOff 68 = .ok (.if_icmp .ge 14, 3) := by decide +kernel
theorem dX2_firstOff_71 : decode cX2_firstOff 71 = .ok (.iload 4, 2) := by decide +kernel
theorem dX2_firstOff_73 : decode cX2_firstOff 73 = .ok (.istore_n 2, 1) := by decide +kernel
theorem dX2_firstOff_74 : decode cX2_firstOff 74 = .ok (.aload_n 0, 1) := by decide +kernel
theorem dX2_firstOff_75 : decode cX2_firstOff 75 = .ok (.getfield 21, 3) := by decide +kernel
theorem dX2_firstOff_78 : decode cX2_firstOff 78 = .ok (.iload 4, 2) := by decide +kernel
theorem dX2_firstOff_80 : decode cX2_firstOff 80 = .ok (.iaload, 1) := by decide +kernel
theorem dX2_firstOff_81 : decode cX2_firstOff 81 = .ok (.istore_n 3, 1) := by decide +kernel
theorem dX2_firstOff_82 : decode cX2_firstOff 82 = .ok (.iinc 4 1, 3) := by decide +kernel
theorem dX2_firstOff_85 : decode cX2_firstOff 85 = .ok (.goto (-77), 3) := by decide +kernel
theorem dX2_firstOff_88 : decode cX2_firstOff 88 = .ok (.iload_n 2, 1) := by decide +kernel
theorem dX2_firstOff_89 : decode cX2_firstOff 89 = .ok (.ireturn, 1) := by decide +kernel
set_option maxRecDepth 20000 in
theorem ggX2_start_X2_has : GoodIn wsX2_start wsX2_has := goodIn_r _ [10, 11, 12, 13, 14, 15, 16, 17, 18, 19, 20] (by decide +kernel) (by decide +kernel)
set_option maxRecDepth 20000 in
theorem gX2_start_X2_has : GoodIn wsX2_start (wsV RX2 46 RX2 yX2_has wsX2_has) := goodIn_app (goodIn_of _ (by decide +kernel)) ggX2_start_X2_has
theorem dX2_start_0 : decode cX2_start 0 = .ok (.aload_n 0, 1) := by decide +kernel
theorem dX2_start_1 : decode cX2_start 1 = .ok (.iload_n 1, 1) := by decide +kernel
theorem dX2_start_2 : decode cX2_start 2 = .ok (.invokevirtual 46, 3) := by decide +kernel
theorem dX2_start_5 : decode cX2_start 5 = .ok (.ifCond .ne 5, 3) := by decide +kernel
theorem dX2_start_8 : decode cX2_start 8 = .ok (.iconst 0, 1) := by decide +kernel
theorem dX2_start_9 : decode cX2_start 9 = .ok (.ireturn, 1) := by decide +kernel
theorem dX2_start_10 : decode cX2_start 10 = .ok (.aload_n 0, 1) := by decide +kernel
theorem dX2_start_11 : decode cX2_start 11 = .ok (.getfield 24, 3) := by decide +kernel
theorem dX2_start_14 : decode cX2_start 14 = .ok (.iload_n 1, 1) := by decide +kernel
theorem dX2_start_15 : decode cX2_start 15 = .ok (.iaload, 1) := by decide +kernel
theorem dX2_start_16 : decode cX2_start 16 = .ok (.aload_n 0, 1) := by decide +kernel
theorem dX2_start_17 : decode cX2_start 17 = .ok (.getfield 15, 3) := by decide +kernel
theorem dX2_start_20 : decode cX2_start 20 = .ok (.iload_n 1, 1) := by decide +kernel
theorem dX2_start_21 : decode cX2_start 21 = .ok (.iaload, 1) := by decide +kernel
theorem dX2_start_22 : decode cX2_start 22 = .ok (.if_icmp .lt 7, 3) := by decide +kernel
theorem dX2_start_25 : decode cX2_start 25 = .ok (.iconst 1, 1) := by decide +kernel
theorem dX2_start_26 : decode cX2_start 26 = .ok (.goto 4, 3) := by decide +kernel
theorem dX2_start_29 : decode cX2_start 29 = .ok (.iconst 0, 1) := by decide +kernel
theorem dX2_start_30 : decode cX2_start 30 = .ok (.istore_n 2, 1) := by decide +kernel
theorem dX2_start_31 : decode cX2_start 31 = .ok (.aload_n 0, 1) := by decide +kernel
