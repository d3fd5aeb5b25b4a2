theorem dX0_init_0 : decode cX0_init 0 = .ok (.aload_n 0, 1) := by decide +kernel
theorem dX0_init_1 : decode cX0_init 1 = .ok (.invokespecial 3, 3) := by decide +kernel
theorem dX0_init_4 : decode cX0_init 4 = .ok (.return_, 1) := by decide +kernel
theorem dX0_begin_0 : decode cX0_begin 0 = .ok (.aload_n 0, 1) := by decide +kernel
theorem dX0_begin_1 : decode cX0_begin 1 = .ok (.iload_n 1, 1) := by decide +kernel
theorem dX0_begin_2 : decode cX0_begin 2 = .ok (.putfield 9, 3) := by decide +kernel
theorem dX0_begin_5 : decode cX0_begin 5 = .ok (.aload_n 0, 1) := by decide +kernel
theorem dX0_begin_6 : decode cX0_begin 6 = .ok (.iload_n 2, 1) := by decide +kernel
theorem dX0_begin_7 : decode cX0_begin 7 = .ok (.putfield 15, 3) := by decide +kernel
theorem dX0_begin_10 : decode cX0_begin 10 = .ok (.aload_n 0, 1) := by decide +kernel
theorem dX0_begin_11 : decode cX0_begin 11 = .ok (.iload_n 3, 1) := by decide +kernel
theorem dX0_begin_12 : decode cX0_begin 12 = .ok (.putfield 18, 3) := by decide +kernel
theorem dX0_begin_15 : decode cX0_begin 15 = .ok (.aload_n 0, 1) := by decide +kernel
theorem dX0_begin_16 : decode cX0_begin 16 = .ok (.iload 4, 2) := by decide +kernel
theorem dX0_begin_18 : decode cX0_begin 18 = .ok (.putfield 21, 3) := by decide +kernel
theorem dX0_begin_21 : decode cX0_begin 21 = .ok (.aload_n 0, 1) := by decide +kernel
theorem dX0_begin_22 : decode cX0_begin 22 = .ok (.iconst 0, 1) := by decide +kernel
theorem dX0_begin_23 : decode cX0_begin 23 = .ok (.putfield 24, 3) := by decide +kernel
theorem dX0_begin_26 : decode cX0_begin 26 = .ok (.aload_n 0, 1) := by decide +kernel
theorem dX0_begin_27 : decode cX0_begin 27 = .ok (.iconst 0, 1) := by decide +kernel
theorem dX0_begin_28 : decode cX0_begin 28 = .ok (.putfield 27, 3) := by decide +kernel
theorem dX0_begin_31 : decode cX0_begin 31 = .ok (.aload_n 0, 1) := by decide +kernel
theorem dX0_begin_32 : decode cX0_begin 32 = .ok (.iconst 0, 1) := by decide +kernel
theorem dX0_begin_33 : decode cX0_begin 33 = .ok (.putfield 30, 3) := by decide +kernel
theorem dX0_begin_36 : decode cX0_begin 36 = .ok (.aload_n 0, 1) := by decide +kernel
theorem dX0_begin_37 : decode cX0_begin 37 = .ok (.iconst 0, 1) := by decide +kernel
theorem dX0_begin_38 : decode cX0_begin 38 = .ok (.putfield 33, 3) := by decide +kernel
theorem dX0_begin_41 : decode cX0_begin 41 = .ok (.aload_n 0, 1) := by decide +kernel
theorem dX0_begin_42 : decode cX0_begin 42 = .ok (.iconst (-1), 1) := by decide +kernel
theorem dX0_begin_43 : decode cX0_begin 43 = .ok (.putfield 36, 3) := by decide +kernel
theorem dX0_begin_46 : decode cX0_begin 46 = .ok (.aload_n 0, 1) := by decide +kernel
theorem dX0_begin_47 : decode cX0_begin 47 = .ok (.iconst (-1), 1) := by decide +kernel
theorem dX0_begin_48 : decode cX0_begin 48 = .ok (.putfield 39, 3) := by decide +kernel
theorem dX0_begin_51 : decode cX0_begin 51 = .ok (.aload_n 0, 1) := by decide +kernel
theorem dX0_begin_52 : decode cX0_begin 52 = .ok (.iconst 0, 1) := by decide +kernel
theorem dX0_begin_53 : decode cX0_begin 53 = .ok (.putfield 42, 3) := by decide +kernel
theorem dX0_begin_56 : decode cX0_begin 56 = .ok (.aload_n 0, 1) := by decide +kernel
theorem dX0_begin_57 : decode cX0_begin 57 = .ok (.iconst (-1), 1) := by decide +kernel
theorem dX0_begin_58 : decode cX0_begin 58 = .ok (.putfield 45, 3) := by decide +kernel
theorem dX0_begin_61 : decode cX0_begin 61 = .ok (.aload_n 0, 1) := by decide +kernel
theorem dX0_begin_62 : decode cX0_begin 62 = .ok (.iconst (-1), 1) := by decide +kernel
theorem dX0_begin_63 : decode cX0_begin 63 = .ok (.putfield 48, 3) := by decide +kernel
theorem dX0_begin_66 : decode cX0_begin 66 = .ok (.return_, 1) := by decide +kernel
theorem dX0_unsent_0 : decode cX0_unsent 0 = .ok (.aload_n 0, 1) := by decide +kernel
theorem dX0_unsent_1 : decode cX0_unsent 1 = .ok (.getfield 18, 3) := by decide +kernel
theorem dX0_unsent_4 : decode cX0_unsent 4 = .ok (.aload_n 0, 1) := by decide +kernel
theorem dX0_unsent_5 : decode cX0_unsent 5 = .ok (.getfield 24, 3) := by decide +kernel
theorem dX0_unsent_8 : decode cX0_unsent 8 = .ok (.aload_n 0, 1) := by decide +kernel
theorem dX0_unsent_9 : decode cX0_unsent 9 = .ok (.getfield 30, 3) := by decide +kernel
theorem dX0_unsent_12 : decode cX0_unsent 12 = .ok (.isub, 1) := by decide +kernel
theorem dX0_unsent_13 : decode cX0_unsent 13 = .ok (.isub, 1) := by decide +kernel
theorem dX0_unsent_14 : decode cX0_unsent 14 = .ok (.ireturn, 1) := by decide +kernel
theorem dX0_sourceLeaf_0 : decode cX0_sourceLeaf 0 = .ok (.aload_n 0, 1) := by decide +kernel
theorem dX0_sourceLeaf_1 : decode cX0_sourceLeaf 1 = .ok (.getfield 9, 3) := by decide +kernel
theorem dX0_sourceLeaf_4 : decode cX0_sourceLeaf 4 = .ok (.iconst 4, 1) := by decide +kernel
theorem dX0_sourceLeaf_5 : decode cX0_sourceLeaf 5 = .ok (.idiv, 1) := by decide +kernel
theorem dX0_sourceLeaf_6 : decode cX0_sourceLeaf 6 = .ok (.ireturn, 1) := by decide +kernel
theorem dX0_targetLeaf_0 : decode cX0_targetLeaf 0 = .ok (.aload_n 0, 1) := by decide +kernel
theorem dX0_targetLeaf_1 : decode cX0_targetLeaf 1 = .ok (.getfield 15, 3) := by decide +kernel
theorem dX0_targetLeaf_4 : decode cX0_targetLeaf 4 = .ok (.iconst 4, 1) := by decide +kernel
theorem dX0_targetLeaf_5 : decode cX0_targetLeaf 5 = .ok (.idiv, 1) := by decide +kernel
theorem dX0_targetLeaf_6 : decode cX0_targetLeaf 6 = .ok (.ireturn, 1) := by decide +kernel
set_option maxRecDepth 20000 in
theorem ggX0_crossesLeaves_X0_sourceLeaf : GoodIn wsX0_crossesLeaves wsX0_sourceLeaf := goodIn_r _ [5, 6, 12, 13, 14, 15, 16, 17, 18, 19, 20, 21, 22, 23, 24] (by decide +kernel) (by decide +kernel)
set_option maxRecDepth 20000 in
theorem gX0_crossesLeaves_X0_sourceLeaf : GoodIn wsX0_crossesLeaves (wsV RX0 51 RX0 yX0_sourceLeaf wsX0_sourceLeaf) := goodIn_app (goodIn_of _ (by decide +kernel)) ggX0_crossesLeaves_X0_sourceLeaf
set_option maxRecDepth 20000 in
theorem ggX0_crossesLeaves_X0_targetLeaf : GoodIn wsX0_crossesLeaves wsX0_targetLeaf := goodIn_r _ [10, 11, 12, 13, 14, 15, 16, 17, 18, 19, 20, 21, 22, 23, 24] (by decide +kernel) (by decide +kernel)
set_option maxRecDepth 20000 in
theorem gX0_crossesLeaves_X0_targetLeaf : GoodIn wsX0_crossesLeaves (wsV RX0 55 RX0 yX0_targetLeaf wsX0_targetLeaf) := goodIn_app (goodIn_of _ (by decide +kernel)) ggX0_crossesLeaves_X0_targetLeaf
theorem dX0_crossesLeaves_0 : decode cX0_crossesLeaves 0 = .ok (.aload_n 0, 1) := by decide +kernel
theorem dX0_crossesLeaves_1 : decode cX0_crossesLeaves 1 = .ok (.invokevirtual 51, 3) := by decide +kernel
theorem dX0_crossesLeaves_4 : decode cX0_crossesLeaves 4 = .ok (.aload_n 0, 1) := by decide +kernel
theorem dX0_crossesLeaves_5 : decode cX0_crossesLeaves 5 = .ok (.invokevirtual 55, 3) := by decide +kernel
theorem dX0_crossesLeaves_8 : decode cX0_crossesLeaves 8 = .ok (.if_icmp .eq 7, 3) := by decide +kernel
theorem dX0_crossesLeaves_11 : decode cX0_crossesLeaves 11 = .ok (.iconst 1, 1) := by decide +kernel
theorem dX0_crossesLeaves_12 : decode cX0_crossesLeaves 12 = .ok (.goto 4, 3) := by decide +kernel
theorem dX0_crossesLeaves_15 : decode cX0_crossesLeaves 15 = .ok (.iconst 0, 1) := by decide +kernel
theorem dX0_crossesLeaves_16 : decode cX0_crossesLeaves 16 = .ok (.ireturn, 1) := by decide +kernel
theorem dX0_countDelivered_0 : decode cX0_countDelivered 0 = .ok (.aload_n 0, 1) := by decide +kernel
theorem dX0_countDelivered_1 : decode cX0_countDelivered 1 = .ok (.dup, 1) := by decide +kernel
theorem dX0_countDelivered_2 : decode cX0_countDelivered 2 = .ok (.getfield 27, 3) := by decide +kernel
theorem dX0_countDelivered_5 : decode cX0_countDelivered 5 = .ok (.iconst 1, 1) := by decide +kernel
theorem dX0_countDelivered_6 : decode cX0_countDelivered 6 = .ok (.iadd, 1) := by decide +kernel
theorem dX0_countDelivered_7 : decode cX0_countDelivered 7 = .ok (.putfield 27, 3) := by decide +kernel
theorem dX0_countDelivered_10 : decode cX0_countDelivered 10 = .ok (.iload_n 1, 1) := by decide +kernel
theorem dX0_countDelivered_11 : decode cX0_countDelivered 11 = .ok (.aload_n 0, 1) := by decide +kernel
theorem dX0_countDelivered_12 : decode cX0_countDelivered 12 = .ok (.getfield 36, 3) := by decide +kernel
theorem dX0_countDelivered_15 : decode cX0_countDelivered 15 = .ok (.if_icmp .ge 16, 3) := by decide +kernel
theorem dX0_countDelivered_18 : decode cX0_countDelivered 18 = .ok (.aload_n 0, 1) := by decide +kernel
theorem dX0_countDelivered_19 : decode cX0_countDelivered 19 = .ok (.dup, 1) := by decide +kernel
theorem dX0_countDelivered_20 : decode cX0_countDelivered 20 = .ok (.getfield 33, 3) := by decide +kernel
theorem dX0_countDelivered_23 : decode cX0_countDelivered 23 = .ok (.iconst 1, 1) := by decide +kernel
theorem dX0_countDelivered_24 : decode cX0_countDelivered 24 = .ok (.iadd, 1) := by decide +kernel
theorem dX0_countDelivered_25 : decode cX0_countDelivered 25 = .ok (.putfield 33, 3) := by decide +kernel
theorem dX0_countDelivered_28 : decode cX0_countDelivered 28 = .ok (.goto 8, 3) := by decide +kernel
theorem dX0_countDelivered_31 : decode cX0_countDelivered 31 = .ok (.aload_n 0, 1) := by decide +kernel
theorem dX0_countDelivered_32 : decode cX0_countDelivered 32 = .ok (.iload_n 1, 1) := by decide +kernel
theorem dX0_countDelivered_33 : decode cX0_countDelivered 33 = .ok (.putfield 36, 3) := by decide +kernel
theorem dX0_countDelivered_36 : decode cX0_countDelivered 36 = .ok (.aload_n 0, 1) := by decide +kernel
theorem dX0_countDelivered_37 : decode cX0_countDelivered 37 = .ok (.getfield 27, 3) := by decide +kernel
theorem dX0_countDelivered_40 : decode cX0_countDelivered 40 = .ok (.aload_n 0, 1) := by decide +kernel
theorem dX0_countDelivered_41 : decode cX0_countDelivered 41 = .ok (.getfield 18, 3) := by decide +kernel
theorem dX0_countDelivered_44 : decode cX0_countDelivered 44 = .ok (.if_icmp .ne 8, 3) := by decide +kernel
theorem dX0_countDelivered_47 : decode cX0_countDelivered 47 = .ok (.aload_n 0, 1) := by decide +kernel
theorem dX0_countDelivered_48 : decode cX0_countDelivered 48 = .ok (.iload_n 2, 1) := by decide +kernel
theorem dX0_countDelivered_49 : decode cX0_countDelivered 49 = .ok (.putfield 39, 3) := by decide +kernel
theorem dX0_countDelivered_52 : decode cX0_countDelivered 52 = .ok (.return_, 1) := by decide +kernel
set_option maxRecDepth 20000 in
theorem ggX1_init_X2_init : GoodIn wsX1_init wsX2_init := goodIn_r _ [10, 11, 2, 3, 12, 13, 14, 15, 16, 17, 18, 19, 20, 21, 22, 23, 24, 25, 26, 27, 32, 33, 34, 35] (by decide +kernel) (by decide +kernel)
set_option maxRecDepth 20000 in
theorem gX1_init_X2_init_n11 : GoodIn wsX1_init (wsX2_init) := ggX1_init_X2_init
theorem dX1_init_0 : decode cX1_init 0 = .ok (.aload_n 0, 1) := by decide +kernel
theorem dX1_init_1 : decode cX1_init 1 = .ok (.invokespecial 3, 3) := by decide +kernel
theorem dX1_init_4 : decode cX1_init 4 = .ok (.aload_n 0, 1) := by decide +kernel
theorem dX1_init_5 : decode cX1_init 5 = .ok (.new 9, 3) := by decide +kernel
theorem dX1_init_8 : decode cX1_init 8 = .ok (.dup, 1) := by decide +kernel
theorem dX1_init_9 : decode cX1_init 9 = .ok (.invokespecial 11, 3) := by decide +kernel
theorem dX1_init_12 : decode cX1_init 12 = .ok (.putfield 12, 3) := by decide +kernel
theorem dX1_init_15 : decode cX1_init 15 = .ok (.aload_n 0, 1) := by decide +kernel
theorem dX1_init_16 : decode cX1_init 16 = .ok (.new 9, 3) := by decide +kernel
theorem dX1_init_19 : decode cX1_init 19 = .ok (.dup, 1) := by decide +kernel
theorem dX1_init_20 : decode cX1_init 20 = .ok (.invokespecial 11, 3) := by decide +kernel
theorem dX1_init_23 : decode cX1_init 23 = .ok (.putfield 18, 3) := by decide +kernel
theorem dX1_init_26 : decode cX1_init 26 = .ok (.return_, 1) := by decide +kernel
theorem dX1_clear_0 : decode cX1_clear 0 = .ok (.aload_n 0, 1) := by decide +kernel
theorem dX1_clear_1 : decode cX1_clear 1 = .ok (.iconst 0, 1) := by decide +kernel
theorem dX1_clear_2 : decode cX1_clear 2 = .ok (.putfield 21, 3) := by decide +kernel
theorem dX1_clear_5 : decode cX1_clear 5 = .ok (.aload_n 0, 1) := by decide +kernel
theorem dX1_clear_6 : decode cX1_clear 6 = .ok (.iconst (-1), 1) := by decide +kernel
theorem dX1_clear_7 : decode cX1_clear 7 = .ok (.putfield 25, 3) := by decide +kernel
theorem dX1_clear_10 : decode cX1_clear 10 = .ok (.return_, 1) := by decide +kernel
set_option maxRecDepth 20000 in
theorem ggX2_init_X4_init : GoodIn wsX2_init wsX4_init := goodIn_r _ [11, 12, 2, 3] (by decide +kernel) (by decide +kernel)
set_option maxRecDepth 20000 in
theorem gX2_init_X4_init_n21 : GoodIn wsX2_init (wsX4_init) := ggX2_init_X4_init
theorem dX2_init_0 : decode cX2_init 0 = .ok (.aload_n 0, 1) := by decide +kernel
theorem dX2_init_1 : decode cX2_init 1 = .ok (.invokespecial 3, 3) := by decide +kernel
theorem dX2_init_4 : decode cX2_init 4 = .ok (.aload_n 0, 1) := by decide +kernel
theorem dX2_init_5 : decode cX2_init 5 = .ok (.iconst 4, 1) := by decide +kernel
theorem dX2_init_6 : decode cX2_init 6 = .ok (.anewarray 9, 3) := by decide +kernel
theorem dX2_init_9 : decode cX2_init 9 = .ok (.putfield 11, 3) := by decide +kernel
theorem dX2_init_12 : decode cX2_init 12 = .ok (.aload_n 0, 1) := by decide +kernel
theorem dX2_init_13 : decode cX2_init 13 = .ok (.bipush 7, 2) := by decide +kernel
theorem dX2_init_15 : decode cX2_init 15 = .ok (.newarray .int, 2) := by decide +kernel
theorem dX2_init_17 : decode cX2_init 17 = .ok (.putfield 17, 3) := by decide +kernel
theorem dX2_init_20 : decode cX2_init 20 = .ok (.iconst 0, 1) := by decide +kernel
theorem dX2_init_21 : decode cX2_init 21 = .ok (.istore_n 1, 1) := by decide +kernel
theorem dX2_init_22 : decode cX2_init 22 = .ok (.iload_n 1, 1) := by decide +kernel
theorem dX2_init_23 : decode cX2_init 23 = .ok (.aload_n 0, 1) := by decide +kernel
theorem dX2_init_24 : decode cX2_init 24 = .ok (.getfield 11, 3) := by decide +kernel
theorem dX2_init_27 : decode cX2_init 27 = .ok (.arraylength, 1) := by decide +kernel
theorem dX2_init_28 : decode cX2_init 28 = .ok (.if_icmp .ge 22, 3) := by decide +kernel
theorem dX2_init_31 : decode cX2_init 31 = .ok (.aload_n 0, 1) := by decide +kernel
theorem dX2_init_32 : decode cX2_init 32 = .ok (.getfield 11, 3) := by decide +kernel
theorem dX2_init_35 : decode cX2_init 35 = .ok (.iload_n 1, 1) := by decide +kernel
theorem dX2_init_36 : decode cX2_init 36 = .ok (.new 9, 3) := by decide +kernel
theorem dX2_init_39 : decode cX2_init 39 = .ok (.dup, 1) := by decide +kernel
theorem dX2_init_40 : decode cX2_init 40 = .ok (.invokespecial 21, 3) := by decide +kernel
theorem dX2_init_43 : decode cX2_init 43 = .ok (.aastore, 1) := by decide +kernel
theorem dX2_init_44 : decode cX2_init 44 = .ok (.iinc 1 1, 3) := by decide +kernel
theorem dX2_init_47 : decode cX2_init 47 = .ok (.goto (-25), 3) := by decide +kernel
theorem dX2_init_50 : decode cX2_init 50 = .ok (.return_, 1) := by decide +kernel
theorem dX2_clear_0 : decode cX2_clear 0 = .ok (.iconst 0, 1) := by decide +kernel
theorem dX2_clear_1 : decode cX2_clear 1 = .ok (.istore_n 1, 1) := by decide +kernel
theorem dX2_clear_2 : decode cX2_clear 2 = .ok (.iload_n 1, 1) := by decide +kernel
theorem dX2_clear_3 : decode cX2_clear 3 = .ok (.aload_n 0, 1) := by decide +kernel
theorem dX2_clear_4 : decode cX2_clear 4 = .ok (.getfield 17, 3) := by decide +kernel
theorem dX2_clear_7 : decode cX2_clear 7 = .ok (.arraylength, 1) := by decide +kernel
theorem dX2_clear_8 : decode cX2_clear 8 = .ok (.if_icmp .ge 16, 3) := by decide +kernel
theorem dX2_clear_11 : decode cX2_clear 11 = .ok (.aload_n 0, 1) := by decide +kernel
theorem dX2_clear_12 : decode cX2_clear 12 = .ok (.getfield 17, 3) := by decide +kernel
theorem dX2_clear_15 : decode cX2_clear 15 = .ok (.iload_n 1, 1) := by decide +kernel
theorem dX2_clear_16 : decode cX2_clear 16 = .ok (.iconst 0, 1) := by decide +kernel
theorem dX2_clear_17 : decode cX2_clear 17 = .ok (.iastore, 1) := by decide +kernel
theorem dX2_clear_18 : decode cX2_clear 18 = .ok (.iinc 1 1, 3) := by decide +kernel
theorem dX2_clear_21 : decode cX2_clear 21 = .ok (.goto (-19), 3) := by decide +kernel
theorem dX2_clear_24 : decode cX2_clear 24 = .ok (.aload_n 0, 1) := by decide +kernel
theorem dX2_clear_25 : decode cX2_clear 25 = .ok (.iconst 0, 1) := by decide +kernel
theorem dX2_clear_26 : decode cX2_clear 26 = .ok (.putfield 22, 3) := by decide +kernel
theorem dX2_clear_29 : decode cX2_clear 29 = .ok (.aload_n 0, 1) := by decide +kernel
theorem dX2_clear_30 : decode cX2_clear 30 = .ok (.iconst 0, 1) := by decide +kernel
theorem dX2_clear_31 : decode cX2_clear 31 = .ok (.putfield 26, 3) := by decide +kernel
theorem dX2_clear_34 : decode cX2_clear 34 = .ok (.aload_n 0, 1) := by decide +kernel
theorem dX2_clear_35 : decode cX2_clear 35 = .ok (.iconst 4, 1) := by decide +kernel
theorem dX2_clear_36 : decode cX2_clear 36 = .ok (.putfield 29, 3) := by decide +kernel
theorem dX2_clear_39 : decode cX2_clear 39 = .ok (.aload_n 0, 1) := by decide +kernel
theorem dX2_clear_40 : decode cX2_clear 40 = .ok (.iconst (-1), 1) := by decide +kernel
theorem dX2_clear_41 : decode cX2_clear 41 = .ok (.putfield 32, 3) := by decide +kernel
theorem dX2_clear_44 : decode cX2_clear 44 = .ok (.aload_n 0, 1) := by decide +kernel
theorem dX2_clear_45 : decode cX2_clear 45 = .ok (.iconst (-1), 1) := by decide +kernel
theorem dX2_clear_46 : decode cX2_clear 46 = .ok (.putfield 35, 3) := by decide +kernel
theorem dX2_clear_49 : decode cX2_clear 49 = .ok (.return_, 1) := by decide +kernel
theorem dX2_firstPacket_0 : decode cX2_firstPacket 0 = .ok (.aload_n 0, 1) := by decide +kernel
theorem dX2_firstPacket_1 : decode cX2_firstPacket 1 = .ok (.getfield 11, 3) := by decide +kernel
theorem dX2_firstPacket_4 : decode cX2_firstPacket 4 = .ok (.aload_n 0, 1) := by decide +kernel
theorem dX2_firstPacket_5 : decode cX2_firstPacket 5 = .ok (.getfield 22, 3) := by decide +kernel
theorem dX2_firstPacket_8 : decode cX2_firstPacket 8 = .ok (.aaload, 1) := by decide +kernel
theorem dX2_firstPacket_9 : decode cX2_firstPacket 9 = .ok (.areturn, 1) := by decide +kernel
set_option maxRecDepth 20000 in
theorem ggX2_put_X4_write : GoodIn wsX2_put wsX4_write := goodIn_r _ [8, 9, 10, 11, 12, 20, 21, 22, 23] (by decide +kernel) (by decide +kernel)
set_option maxRecDepth 20000 in
theorem gX2_put_X4_write_n38 : GoodIn wsX2_put (wsX4_write) := ggX2_put_X4_write
theorem dX2_put_0 : decode cX2_put 0 = .ok (.aload_n 0, 1) := by decide +kernel
theorem dX2_put_1 : decode cX2_put 1 = .ok (.dup, 1) := by decide +kernel
theorem dX2_put_2 : decode cX2_put 2 = .ok (.getfield 29, 3) := by decide +kernel
theorem dX2_put_5 : decode cX2_put 5 = .ok (.iconst 1, 1) := by decide +kernel
theorem dX2_put_6 : decode cX2_put 6 = .ok (.isub, 1) := by decide +kernel
theorem dX2_put_7 : decode cX2_put 7 = .ok (.putfield 29, 3) := by decide +kernel
theorem dX2_put_10 : decode cX2_put 10 = .ok (.aload_n 0, 1) := by decide +kernel
theorem dX2_put_11 : decode cX2_put 11 = .ok (.getfield 11, 3) := by decide +kernel
theorem dX2_put_14 : decode cX2_put 14 = .ok (.aload_n 0, 1) := by decide +kernel
theorem dX2_put_15 : decode cX2_put 15 = .ok (.getfield 22, 3) := by decide +kernel
theorem dX2_put_18 : decode cX2_put 18 = .ok (.aload_n 0, 1) := by decide +kernel
theorem dX2_put_19 : decode cX2_put 19 = .ok (.getfield 26, 3) := by decide +kernel
theorem dX2_put_22 : decode cX2_put 22 = .ok (.iadd, 1) := by decide +kernel
theorem dX2_put_23 : decode cX2_put 23 = .ok (.iconst 4, 1) := by decide +kernel
theorem dX2_put_24 : decode cX2_put 24 = .ok (.irem, 1) := by decide +kernel
theorem dX2_put_25 : decode cX2_put 25 = .ok (.aaload, 1) := by decide +kernel
theorem dX2_put_26 : decode cX2_put 26 = .ok (.iload_n 1, 1) := by decide +kernel
theorem dX2_put_27 : decode cX2_put 27 = .ok (.iload_n 2, 1) := by decide +kernel
theorem dX2_put_28 : decode cX2_put 28 = .ok (.iload_n 3, 1) := by decide +kernel
theorem dX2_put_29 : decode cX2_put 29 = .ok (.iload 4, 2) := by decide +kernel
theorem dX2_put_31 : decode cX2_put 31 = .ok (.invokevirtual 38, 3) := by decide +kernel
theorem dX2_put_34 : decode cX2_put 34 = .ok (.aload_n 0, 1) := by decide +kernel
theorem dX2_put_35 : decode cX2_put 35 = .ok (.dup, 1) := by decide +kernel
theorem dX2_put_36 : decode cX2_put 36 = .ok (.getfield 26, 3) := by decide +kernel
theorem dX2_put_39 : decode cX2_put 39 = .ok (.iconst 1, 1) := by decide +kernel
theorem dX2_put_40 : decode cX2_put 40 = .ok (.iadd, 1) := by decide +kernel
theorem dX2_put_41 : decode cX2_put 41 = .ok (.putfield 26, 3) := by decide +kernel
theorem dX2_put_44 : decode cX2_put 44 = .ok (.return_, 1) := by decide +kernel
theorem dX2_drop_0 : decode cX2_drop 0 = .ok (.aload_n 0, 1) := by decide +kernel
theorem dX2_drop_1 : decode cX2_drop 1 = .ok (.aload_n 0, 1) := by decide +kernel
theorem dX2_drop_2 : decode cX2_drop 2 = .ok (.getfield 22, 3) := by decide +kernel
theorem dX2_drop_5 : decode cX2_drop 5 = .ok (.iconst 1, 1) := by decide +kernel
theorem dX2_drop_6 : decode cX2_drop 6 = .ok (.iadd, 1) := by decide +kernel
theorem dX2_drop_7 : decode cX2_drop 7 = .ok (.iconst 4, 1) := by decide +kernel
theorem dX2_drop_8 : decode cX2_drop 8 = .ok (.irem, 1) := by decide +kernel
theorem dX2_drop_9 : decode cX2_drop 9 = .ok (.putfield 22, 3) := by decide +kernel
theorem dX2_drop_12 : decode cX2_drop 12 = .ok (.aload_n 0, 1) := by decide +kernel
theorem dX2_drop_13 : decode cX2_drop 13 = .ok (.dup, 1) := by decide +kernel
theorem dX2_drop_14 : decode cX2_drop 14 = .ok (.getfield 26, 3) := by decide +kernel
theorem dX2_drop_17 : decode cX2_drop 17 = .ok (.iconst 1, 1) := by decide +kernel
theorem dX2_drop_18 : decode cX2_drop 18 = .ok (.isub, 1) := by decide +kernel
theorem dX2_drop_19 : decode cX2_drop 19 = .ok (.putfield 26, 3) := by decide +kernel
theorem dX2_drop_22 : decode cX2_drop 22 = .ok (.aload_n 0, 1) := by decide +kernel
theorem dX2_drop_23 : decode cX2_drop 23 = .ok (.getfield 17, 3) := by decide +kernel
theorem dX2_drop_26 : decode cX2_drop 26 = .ok (.iload_n 1, 1) := by decide +kernel
theorem dX2_drop_27 : decode cX2_drop 27 = .ok (.dup2, 1) := by decide +kernel
theorem dX2_drop_28 : decode cX2_drop 28 = .ok (.iaload, 1) := by decide +kernel
theorem dX2_drop_29 : decode cX2_drop 29 = .ok (.iconst 1, 1) := by decide +kernel
theorem dX2_drop_30 : decode cX2_drop 30 = .ok (.iadd, 1) := by decide +kernel
theorem dX2_drop_31 : decode cX2_drop 31 = .ok (.iastore, 1) := by decide +kernel
theorem dX2_drop_32 : decode cX2_drop 32 = .ok (.return_, 1) := by decide +kernel
theorem dX2_takeBack_0 : decode cX2_takeBack 0 = .ok (.aload_n 0, 1) := by decide +kernel
theorem dX2_takeBack_1 : decode cX2_takeBack 1 = .ok (.dup, 1) := by decide +kernel
theorem dX2_takeBack_2 : decode cX2_takeBack 2 = .ok (.getfield 29, 3) := by decide +kernel
theorem dX2_takeBack_5 : decode cX2_takeBack 5 = .ok (.aload_n 0, 1) := by decide +kernel
theorem dX2_takeBack_6 : decode cX2_takeBack 6 = .ok (.getfield 17, 3) := by decide +kernel
theorem dX2_takeBack_9 : decode cX2_takeBack 9 = .ok (.iload_n 1, 1) := by decide +kernel
theorem dX2_takeBack_10 : decode cX2_takeBack 10 = .ok (.iaload, 1) := by decide +kernel
theorem dX2_takeBack_11 : decode cX2_takeBack 11 = .ok (.iadd, 1) := by decide +kernel
theorem dX2_takeBack_12 : decode cX2_takeBack 12 = .ok (.putfield 29, 3) := by decide +kernel
theorem dX2_takeBack_15 : decode cX2_takeBack 15 = .ok (.aload_n 0, 1) := by decide +kernel
theorem dX2_takeBack_16 : decode cX2_takeBack 16 = .ok (.getfield 17, 3) := by decide +kernel
theorem dX2_takeBack_19 : decode cX2_takeBack 19 = .ok (.iload_n 1, 1) := by decide +kernel
theorem dX2_takeBack_20 : decode cX2_takeBack 20 = .ok (.iconst 0, 1) := by decide +kernel
theorem dX2_takeBack_21 : decode cX2_takeBack 21 = .ok (.iastore, 1) := by decide +kernel
theorem dX2_takeBack_22 : decode cX2_takeBack 22 = .ok (.return_, 1) := by decide +kernel
theorem dX2_onTheWayBack_0 : decode cX2_onTheWayBack 0 = .ok (.iconst 0, 1) := by decide +kernel
theorem dX2_onTheWayBack_1 : decode cX2_onTheWayBack 1 = .ok (.istore_n 1, 1) := by decide +kernel
theorem dX2_onTheWayBack_2 : decode cX2_onTheWayBack 2 = .ok (.iconst 0, 1) := by decide +kernel
theorem dX2_onTheWayBack_3 : decode cX2_onTheWayBack 3 = .ok (.istore_n 2, 1) := by decide +kernel
theorem dX2_onTheWayBack_4 : decode cX2_onTheWayBack 4 = .ok (.iload_n 2, 1) := by decide +kernel
theorem dX2_onTheWayBack_5 : decode cX2_onTheWayBack 5 = .ok (.aload_n 0, 1) := by decide +kernel
theorem dX2_onTheWayBack_6 : decode cX2_onTheWayBack 6 = .ok (.getfield 17, 3) := by decide +kernel
theorem dX2_onTheWayBack_9 : decode cX2_onTheWayBack 9 = .ok (.arraylength, 1) := by decide +kernel
theorem dX2_onTheWayBack_10 : decode cX2_onTheWayBack 10 = .ok (.if_icmp .ge 18, 3) := by decide +kernel
theorem dX2_onTheWayBack_13 : decode cX2_onTheWayBack 13 = .ok (.iload_n 1, 1) := by decide +kernel
theorem dX2_onTheWayBack_14 : decode cX2_onTheWayBack 14 = .ok (.aload_n 0, 1) := by decide +kernel
theorem dX2_onTheWayBack_15 : decode cX2_onTheWayBack 15 = .ok (.getfield 17, 3) := by decide +kernel
theorem dX2_onTheWayBack_18 : decode cX2_onTheWayBack 18 = .ok (.iload_n 2, 1) := by decide +kernel
theorem dX2_onTheWayBack_19 : decode cX2_onTheWayBack 19 = .ok (.iaload, 1) := by decide +kernel
theorem dX2_onTheWayBack_20 : decode cX2_onTheWayBack 20 = .ok (.iadd, 1) := by decide +kernel
theorem dX2_onTheWayBack_21 : decode cX2_onTheWayBack 21 = .ok (.istore_n 1, 1) := by decide +kernel
theorem dX2_onTheWayBack_22 : decode cX2_onTheWayBack 22 = .ok (.iinc 2 1, 3) := by decide +kernel
theorem dX2_onTheWayBack_25 : decode cX2_onTheWayBack 25 = .ok (.goto (-21), 3) := by decide +kernel
theorem dX2_onTheWayBack_28 : decode cX2_onTheWayBack 28 = .ok (.iload_n 1, 1) := by decide +kernel
theorem dX2_onTheWayBack_29 : decode cX2_onTheWayBack 29 = .ok (.ireturn, 1) := by decide +kernel
theorem dX2_pick_0 : decode cX2_pick 0 = .ok (.aload_n 0, 1) := by decide +kernel
theorem dX2_pick_1 : decode cX2_pick 1 = .ok (.iconst (-1), 1) := by decide +kernel
theorem dX2_pick_2 : decode cX2_pick 2 = .ok (.putfield 35, 3) := by decide +kernel
theorem dX2_pick_5 : decode cX2_pick 5 = .ok (.aload_n 0, 1) := by decide +kernel
theorem dX2_pick_6 : decode cX2_pick 6 = .ok (.getfield 29, 3) := by decide +kernel
theorem dX2_pick_9 : decode cX2_pick 9 = .ok (.ifCond .ne 4, 3) := by decide +kernel
theorem dX2_pick_12 : decode cX2_pick 12 = .ok (.return_, 1) := by decide +kernel
theorem dX2_pick_13 : decode cX2_pick 13 = .ok (.iconst 1, 1) := by decide +kernel
theorem dX2_pick_14 : decode cX2_pick 14 = .ok (.istore_n 3, 1) := by decide +kernel
theorem dX2_pick_15 : decode cX2_pick 15 = .ok (.iload_n 3, 1) := by decide +kernel
theorem dX2_pick_16 : decode cX2_pick 16 = .ok (.aload_n 1, 1) := by decide +kernel
theorem dX2_pick_17 : decode cX2_pick 17 = .ok (.arraylength, 1) := by decide +kernel
theorem dX2_pick_18 : decode cX2_pick 18 = .ok (.if_icmp .gt 41, 3) := by decide +kernel
theorem dX2_pick_21 : decode cX2_pick 21 = .ok (.aload_n 0, 1) := by decide +kernel
theorem dX2_pick_22 : decode cX2_pick 22 = .ok (.getfield 32, 3) := by decide +kernel
theorem dX2_pick_25 : decode cX2_pick 25 = .ok (.iload_n 3, 1) := by decide +kernel
theorem dX2_pick_26 : decode cX2_pick 26 = .ok (.iadd, 1) := by decide +kernel
theorem dX2_pick_27 : decode cX2_pick 27 = .ok (.aload_n 1, 1) := by decide +kernel
theorem dX2_pick_28 : decode cX2_pick 28 = .ok (.arraylength, 1) := by decide +kernel
theorem dX2_pick_29 : decode cX2_pick 29 = .ok (.irem, 1) := by decide +kernel
theorem dX2_pick_30 : decode cX2_pick 30 = .ok (.istore 4, 2) := by decide +kernel
theorem dX2_pick_32 : decode cX2_pick 32 = .ok (.aload_n 1, 1) := by decide +kernel
theorem dX2_pick_33 : decode cX2_pick 33 = .ok (.iload 4, 2) := by decide +kernel
theorem dX2_pick_35 : decode cX2_pick 35 = .ok (.iaload, 1) := by decide +kernel
theorem dX2_pick_36 : decode cX2_pick 36 = .ok (.iload_n 2, 1) := by decide +kernel
theorem dX2_pick_37 : decode cX2_pick 37 = .ok (.if_icmp .ne 16, 3) := by decide +kernel
theorem dX2_pick_40 : decode cX2_pick 40 = .ok (.aload_n 0, 1) := by decide +kernel
theorem dX2_pick_41 : decode cX2_pick 41 = .ok (.iload 4, 2) := by decide +kernel
theorem dX2_pick_43 : decode cX2_pick 43 = .ok (.putfield 32, 3) := by decide +kernel
theorem dX2_pick_46 : decode cX2_pick 46 = .ok (.aload_n 0, 1) := by decide +kernel
theorem dX2_pick_47 : decode cX2_pick 47 = .ok (.iload 4, 2) := by decide +kernel
theorem dX2_pick_49 : decode cX2_pick 49 = .ok (.putfield 35, 3) := by decide +kernel
theorem dX2_pick_52 : decode cX2_pick 52 = .ok (.return_, 1) := by decide +kernel
theorem dX2_pick_53 : decode cX2_pick 53 = .ok (.iinc 3 1, 3) := by decide +kernel
theorem dX2_pick_56 : decode cX2_pick 56 = .ok (.goto (-41), 3) := by decide +kernel
theorem dX2_pick_59 : decode cX2_pick 59 = .ok (.return_, 1) := by decide +kernel
theorem dX3_init_0 : decode cX3_init 0 = .ok (.aload_n 0, 1) := by decide +kernel
theorem dX3_init_1 : decode cX3_init 1 = .ok (.invokespecial 3, 3) := by decide +kernel
theorem dX3_init_4 : decode cX3_init 4 = .ok (.aload_n 0, 1) := by decide +kernel
theorem dX3_init_5 : decode cX3_init 5 = .ok (.iload_n 1, 1) := by decide +kernel
theorem dX3_init_6 : decode cX3_init 6 = .ok (.anewarray 9, 3) := by decide +kernel
theorem dX3_init_9 : decode cX3_init 9 = .ok (.putfield 11, 3) := by decide +kernel
theorem dX3_init_12 : decode cX3_init 12 = .ok (.aload_n 0, 1) := by decide +kernel
theorem dX3_init_13 : decode cX3_init 13 = .ok (.iload_n 2, 1) := by decide +kernel
theorem dX3_init_14 : decode cX3_init 14 = .ok (.anewarray 9, 3) := by decide +kernel
theorem dX3_init_17 : decode cX3_init 17 = .ok (.putfield 17, 3) := by decide +kernel
theorem dX3_init_20 : decode cX3_init 20 = .ok (.aload_n 0, 1) := by decide +kernel
theorem dX3_init_21 : decode cX3_init 21 = .ok (.iload_n 1, 1) := by decide +kernel
theorem dX3_init_22 : decode cX3_init 22 = .ok (.newarray .int, 2) := by decide +kernel
theorem dX3_init_24 : decode cX3_init 24 = .ok (.putfield 20, 3) := by decide +kernel
theorem dX3_init_27 : decode cX3_init 27 = .ok (.return_, 1) := by decide +kernel
set_option maxRecDepth 20000 in
theorem ggX3_pick_X2_pick : GoodIn wsX3_pick wsX2_pick := goodIn_r _ [6, 7, 8, 9, 13, 14, 15, 16, 17, 18, 19] (by decide +kernel) (by decide +kernel)
set_option maxRecDepth 20000 in
theorem gX3_pick_X2_pick_n24 : GoodIn wsX3_pick (wsX2_pick) := ggX3_pick_X2_pick
theorem dX3_pick_0 : decode cX3_pick 0 = .ok (.iconst 0, 1) := by decide +kernel
theorem dX3_pick_1 : decode cX3_pick 1 = .ok (.istore_n 1, 1) := by decide +kernel
theorem dX3_pick_2 : decode cX3_pick 2 = .ok (.iload_n 1, 1) := by decide +kernel
theorem dX3_pick_3 : decode cX3_pick 3 = .ok (.aload_n 0, 1) := by decide +kernel
theorem dX3_pick_4 : decode cX3_pick 4 = .ok (.getfield 17, 3) := by decide +kernel
theorem dX3_pick_7 : decode cX3_pick 7 = .ok (.arraylength, 1) := by decide +kernel
theorem dX3_pick_8 : decode cX3_pick 8 = .ok (.if_icmp .ge 23, 3) := by decide +kernel
theorem dX3_pick_11 : decode cX3_pick 11 = .ok (.aload_n 0, 1) := by decide +kernel
theorem dX3_pick_12 : decode cX3_pick 12 = .ok (.getfield 17, 3) := by decide +kernel
theorem dX3_pick_15 : decode cX3_pick 15 = .ok (.iload_n 1, 1) := by decide +kernel
theorem dX3_pick_16 : decode cX3_pick 16 = .ok (.aaload, 1) := by decide +kernel
theorem dX3_pick_17 : decode cX3_pick 17 = .ok (.aload_n 0, 1) := by decide +kernel
theorem dX3_pick_18 : decode cX3_pick 18 = .ok (.getfield 20, 3) := by decide +kernel
theorem dX3_pick_21 : decode cX3_pick 21 = .ok (.iload_n 1, 1) := by decide +kernel
theorem dX3_pick_22 : decode cX3_pick 22 = .ok (.invokevirtual 24, 3) := by decide +kernel
theorem dX3_pick_25 : decode cX3_pick 25 = .ok (.iinc 1 1, 3) := by decide +kernel
theorem dX3_pick_28 : decode cX3_pick 28 = .ok (.goto (-26), 3) := by decide +kernel
theorem dX3_pick_31 : decode cX3_pick 31 = .ok (.return_, 1) := by decide +kernel
set_option maxRecDepth 20000 in
theorem ggX3_move_X2_firstPacket : GoodIn wsX3_move wsX2_firstPacket := goodIn_r _ [6, 7, 8, 29, 30, 31, 32, 33, 34, 35] (by decide +kernel) (by decide +kernel)
set_option maxRecDepth 20000 in
theorem gX3_move_X2_firstPacket_n32 : GoodIn wsX3_move (wsX2_firstPacket) := ggX3_move_X2_firstPacket
set_option maxRecDepth 20000 in
theorem ggX3_move_X2_put : GoodIn wsX3_move wsX2_put := goodIn_r _ [11, 12, 7, 8, 13, 14, 15, 16, 17, 18, 19, 20, 21, 29, 30, 31, 32, 33, 34, 35, 36, 37, 38, 39] (by decide +kernel) (by decide +kernel)
set_option maxRecDepth 20000 in
theorem gX3_move_X2_put_n50 : GoodIn wsX3_move (wsX2_put) := ggX3_move_X2_put
set_option maxRecDepth 20000 in
theorem ggX3_move_X2_drop : GoodIn wsX3_move wsX2_drop := goodIn_r _ [24, 8, 13, 25, 29, 30, 31, 32, 33, 34, 35] (by decide +kernel) (by decide +kernel)
set_option maxRecDepth 20000 in
theorem gX3_move_X2_drop_n54 : GoodIn wsX3_move (wsX2_drop) := ggX3_move_X2_drop
theorem dX3_move_0 : decode cX3_move 0 = .ok (.iconst 0, 1) := by decide +kernel
theorem dX3_move_1 : decode cX3_move 1 = .ok (.istore_n 2, 1) := by decide +kernel
theorem dX3_move_2 : decode cX3_move 2 = .ok (.iload_n 2, 1) := by decide +kernel
theorem dX3_move_3 : decode cX3_move 3 = .ok (.aload_n 0, 1) := by decide +kernel
theorem dX3_move_4 : decode cX3_move 4 = .ok (.getfield 17, 3) := by decide +kernel
theorem dX3_move_7 : decode cX3_move 7 = .ok (.arraylength, 1) := by decide +kernel
theorem dX3_move_8 : decode cX3_move 8 = .ok (.if_icmp .ge 74, 3) := by decide +kernel
theorem dX3_move_11 : decode cX3_move 11 = .ok (.aload_n 0, 1) := by decide +kernel
theorem dX3_move_12 : decode cX3_move 12 = .ok (.getfield 17, 3) := by decide +kernel
theorem dX3_move_15 : decode cX3_move 15 = .ok (.iload_n 2, 1) := by decide +kernel
theorem dX3_move_16 : decode cX3_move 16 = .ok (.aaload, 1) := by decide +kernel
theorem dX3_move_17 : decode cX3_move 17 = .ok (.getfield 28, 3) := by decide +kernel
theorem dX3_move_20 : decode cX3_move 20 = .ok (.istore_n 3, 1) := by decide +kernel
theorem dX3_move_21 : decode cX3_move 21 = .ok (.iload_n 3, 1) := by decide +kernel
theorem dX3_move_22 : decode cX3_move 22 = .ok (.iconst (-1), 1) := by decide +kernel
theorem dX3_move_23 : decode cX3_move 23 = .ok (.if_icmp .eq 53, 3) := by decide +kernel
theorem dX3_move_26 : decode cX3_move 26 = .ok (.aload_n 0, 1) := by decide +kernel
theorem dX3_move_27 : decode cX3_move 27 = .ok (.getfield 11, 3) := by decide +kernel
theorem dX3_move_30 : decode cX3_move 30 = .ok (.iload_n 3, 1) := by decide +kernel
theorem dX3_move_31 : decode cX3_move 31 = .ok (.aaload, 1) := by decide +kernel
theorem dX3_move_32 : decode cX3_move 32 = .ok (.invokevirtual 32, 3) := by decide +kernel
theorem dX3_move_35 : decode cX3_move 35 = .ok (.astore 4, 2) := by decide +kernel
theorem dX3_move_37 : decode cX3_move 37 = .ok (.aload_n 0, 1) := by decide +kernel
theorem dX3_move_38 : decode cX3_move 38 = .ok (.getfield 17, 3) := by decide +kernel
theorem dX3_move_41 : decode cX3_move 41 = .ok (.iload_n 2, 1) := by decide +kernel
theorem dX3_move_42 : decode cX3_move 42 = .ok (.aaload, 1) := by decide +kernel
theorem dX3_move_43 : decode cX3_move 43 = .ok (.aload 4, 2) := by decide +kernel
theorem dX3_move_45 : decode cX3_move 45 = .ok (.getfield 36, 3) := by decide +kernel
theorem dX3_move_48 : decode cX3_move 48 = .ok (.aload 4, 2) := by decide +kernel
theorem dX3_move_50 : decode cX3_move 50 = .ok (.getfield 41, 3) := by decide +kernel
theorem dX3_move_53 : decode cX3_move 53 = .ok (.aload 4, 2) := by decide +kernel
theorem dX3_move_55 : decode cX3_move 55 = .ok (.getfield 44, 3) := by decide +kernel
theorem dX3_move_58 : decode cX3_move 58 = .ok (.aload 4, 2) := by decide +kernel
theorem dX3_move_60 : decode cX3_move 60 = .ok (.getfield 47, 3) := by decide +kernel
theorem dX3_move_63 : decode cX3_move 63 = .ok (.invokevirtual 50, 3) := by decide +kernel
theorem dX3_move_66 : decode cX3_move 66 = .ok (.aload_n 0, 1) := by decide +kernel
theorem dX3_move_67 : decode cX3_move 67 = .ok (.getfield 11, 3) := by decide +kernel
theorem dX3_move_70 : decode cX3_move 70 = .ok (.iload_n 3, 1) := by decide +kernel
theorem dX3_move_71 : decode cX3_move 71 = .ok (.aaload, 1) := by decide +kernel
theorem dX3_move_72 : decode cX3_move 72 = .ok (.iload_n 1, 1) := by decide +kernel
theorem dX3_move_73 : decode cX3_move 73 = .ok (.invokevirtual 54, 3) := by decide +kernel
theorem dX3_move_76 : decode cX3_move 76 = .ok (.iinc 2 1, 3) := by decide +kernel
theorem dX3_move_79 : decode cX3_move 79 = .ok (.goto (-77), 3) := by decide +kernel
theorem dX3_move_82 : decode cX3_move 82 = .ok (.return_, 1) := by decide +kernel
theorem dX4_init_0 : decode cX4_init 0 = .ok (.aload_n 0, 1) := by decide +kernel
theorem dX4_init_1 : decode cX4_init 1 = .ok (.invokespecial 1, 3) := by decide +kernel
theorem dX4_init_4 : decode cX4_init 4 = .ok (.return_, 1) := by decide +kernel
theorem dX4_write_0 : decode cX4_write 0 = .ok (.aload_n 0, 1) := by decide +kernel
theorem dX4_write_1 : decode cX4_write 1 = .ok (.iload_n 1, 1) := by decide +kernel
theorem dX4_write_2 : decode cX4_write 2 = .ok (.putfield 7, 3) := by decide +kernel
theorem dX4_write_5 : decode cX4_write 5 = .ok (.aload_n 0, 1) := by decide +kernel
theorem dX4_write_6 : decode cX4_write 6 = .ok (.iload_n 2, 1) := by decide +kernel
theorem dX4_write_7 : decode cX4_write 7 = .ok (.putfield 13, 3) := by decide +kernel
theorem dX4_write_10 : decode cX4_write 10 = .ok (.aload_n 0, 1) := by decide +kernel
theorem dX4_write_11 : decode cX4_write 11 = .ok (.iload_n 3, 1) := by decide +kernel
theorem dX4_write_12 : decode cX4_write 12 = .ok (.putfield 16, 3) := by decide +kernel
theorem dX4_write_15 : decode cX4_write 15 = .ok (.aload_n 0, 1) := by decide +kernel
theorem dX4_write_16 : decode cX4_write 16 = .ok (.iload 4, 2) := by decide +kernel
theorem dX4_write_18 : decode cX4_write 18 = .ok (.putfield 19, 3) := by decide +kernel
theorem dX4_write_21 : decode cX4_write 21 = .ok (.return_, 1) := by decide +kernel
