theorem dX0_init_0 : decode cX0_init 0 = .ok (.aload_n 0, 1) := by decide +kernel
theorem dX0_init_1 : decode cX0_init 1 = .ok (.invokespecial 3, 3) := by decide +kernel
theorem dX0_init_4 : decode cX0_init 4 = .ok (.aload_n 0, 1) := by decide +kernel
theorem dX0_init_5 : decode cX0_init 5 = .ok (.iconst 0, 1) := by decide +kernel
theorem dX0_init_6 : decode cX0_init 6 = .ok (.putfield 9, 3) := by decide +kernel
theorem dX0_init_9 : decode cX0_init 9 = .ok (.aload_n 0, 1) := by decide +kernel
theorem dX0_init_10 : decode cX0_init 10 = .ok (.iconst 0, 1) := by decide +kernel
theorem dX0_init_11 : decode cX0_init 11 = .ok (.putfield 15, 3) := by decide +kernel
theorem dX0_init_14 : decode cX0_init 14 = .ok (.aload_n 0, 1) := by decide +kernel
theorem dX0_init_15 : decode cX0_init 15 = .ok (.iconst 0, 1) := by decide +kernel
theorem dX0_init_16 : decode cX0_init 16 = .ok (.putfield 18, 3) := by decide +kernel
theorem dX0_init_19 : decode cX0_init 19 = .ok (.aload_n 0, 1) := by decide +kernel
theorem dX0_init_20 : decode cX0_init 20 = .ok (.new 21, 3) := by decide +kernel
theorem dX0_init_23 : decode cX0_init 23 = .ok (.dup, 1) := by decide +kernel
theorem dX0_init_24 : decode cX0_init 24 = .ok (.invokespecial 23, 3) := by decide +kernel
theorem dX0_init_27 : decode cX0_init 27 = .ok (.putfield 24, 3) := by decide +kernel
theorem dX0_init_30 : decode cX0_init 30 = .ok (.aload_n 0, 1) := by decide +kernel
theorem dX0_init_31 : decode cX0_init 31 = .ok (.iconst 2, 1) := by decide +kernel
theorem dX0_init_32 : decode cX0_init 32 = .ok (.bipush 6, 2) := by decide +kernel
theorem dX0_init_34 : decode cX0_init 34 = .ok (.multianewarray 28 2, 4) := by decide +kernel
theorem dX0_init_38 : decode cX0_init 38 = .ok (.putfield 30, 3) := by decide +kernel
theorem dX0_init_41 : decode cX0_init 41 = .ok (.return_, 1) := by decide +kernel
theorem dX0_strike_0 : decode cX0_strike 0 = .ok (.aload_n 0, 1) := by decide +kernel
theorem dX0_strike_1 : decode cX0_strike 1 = .ok (.iload_n 1, 1) := by decide +kernel
theorem dX0_strike_2 : decode cX0_strike 2 = .ok (.putfield 9, 3) := by decide +kernel
theorem dX0_strike_5 : decode cX0_strike 5 = .ok (.aload_n 0, 1) := by decide +kernel
theorem dX0_strike_6 : decode cX0_strike 6 = .ok (.iload_n 2, 1) := by decide +kernel
theorem dX0_strike_7 : decode cX0_strike 7 = .ok (.putfield 15, 3) := by decide +kernel
theorem dX0_strike_10 : decode cX0_strike 10 = .ok (.aload_n 0, 1) := by decide +kernel
theorem dX0_strike_11 : decode cX0_strike 11 = .ok (.iload_n 3, 1) := by decide +kernel
theorem dX0_strike_12 : decode cX0_strike 12 = .ok (.putfield 18, 3) := by decide +kernel
theorem dX0_strike_15 : decode cX0_strike 15 = .ok (.aload_n 0, 1) := by decide +kernel
theorem dX0_strike_16 : decode cX0_strike 16 = .ok (.getfield 24, 3) := by decide +kernel
theorem dX0_strike_19 : decode cX0_strike 19 = .ok (.aload 4, 2) := by decide +kernel
theorem dX0_strike_21 : decode cX0_strike 21 = .ok (.invokevirtual 33, 3) := by decide +kernel
theorem dX0_strike_24 : decode cX0_strike 24 = .ok (.return_, 1) := by decide +kernel
theorem dX0_commonThought_0 : decode cX0_commonThought 0 = .ok (.aload_n 0, 1) := by decide +kernel
theorem dX0_commonThought_1 : decode cX0_commonThought 1 = .ok (.getfield 30, 3) := by decide +kernel
theorem dX0_commonThought_4 : decode cX0_commonThought 4 = .ok (.iconst 0, 1) := by decide +kernel
theorem dX0_commonThought_5 : decode cX0_commonThought 5 = .ok (.aaload, 1) := by decide +kernel
theorem dX0_commonThought_6 : decode cX0_commonThought 6 = .ok (.iload_n 1, 1) := by decide +kernel
theorem dX0_commonThought_7 : decode cX0_commonThought 7 = .ok (.iaload, 1) := by decide +kernel
theorem dX0_commonThought_8 : decode cX0_commonThought 8 = .ok (.aload_n 0, 1) := by decide +kernel
theorem dX0_commonThought_9 : decode cX0_commonThought 9 = .ok (.getfield 30, 3) := by decide +kernel
theorem dX0_commonThought_12 : decode cX0_commonThought 12 = .ok (.iconst 1, 1) := by decide +kernel
theorem dX0_commonThought_13 : decode cX0_commonThought 13 = .ok (.aaload, 1) := by decide +kernel
theorem dX0_commonThought_14 : decode cX0_commonThought 14 = .ok (.iload_n 1, 1) := by decide +kernel
theorem dX0_commonThought_15 : decode cX0_commonThought 15 = .ok (.iaload, 1) := by decide +kernel
theorem dX0_commonThought_16 : decode cX0_commonThought 16 = .ok (.if_icmp .ne 14, 3) := by decide +kernel
theorem dX0_commonThought_19 : decode cX0_commonThought 19 = .ok (.aload_n 0, 1) := by decide +kernel
theorem dX0_commonThought_20 : decode cX0_commonThought 20 = .ok (.getfield 30, 3) := by decide +kernel
theorem dX0_commonThought_23 : decode cX0_commonThought 23 = .ok (.iconst 0, 1) := by decide +kernel
theorem dX0_commonThought_24 : decode cX0_commonThought 24 = .ok (.aaload, 1) := by decide +kernel
theorem dX0_commonThought_25 : decode cX0_commonThought 25 = .ok (.iload_n 1, 1) := by decide +kernel
theorem dX0_commonThought_26 : decode cX0_commonThought 26 = .ok (.iaload, 1) := by decide +kernel
theorem dX0_commonThought_27 : decode cX0_commonThought 27 = .ok (.goto 4, 3) := by decide +kernel
theorem dX0_commonThought_30 : decode cX0_commonThought 30 = .ok (.iconst 0, 1) := by decide +kernel
theorem dX0_commonThought_31 : decode cX0_commonThought 31 = .ok (.ireturn, 1) := by decide +kernel
theorem dX0_parted_0 : decode cX0_parted 0 = .ok (.iconst 0, 1) := by decide +kernel
theorem dX0_parted_1 : decode cX0_parted 1 = .ok (.istore_n 1, 1) := by decide +kernel
theorem dX0_parted_2 : decode cX0_parted 2 = .ok (.iconst 0, 1) := by decide +kernel
theorem dX0_parted_3 : decode cX0_parted 3 = .ok (.istore_n 2, 1) := by decide +kernel
theorem dX0_parted_4 : decode cX0_parted 4 = .ok (.iload_n 2, 1) := by decide +kernel
theorem dX0_parted_5 : decode cX0_parted 5 = .ok (.bipush 6, 2) := by decide +kernel
theorem dX0_parted_7 : decode cX0_parted 7 = .ok (.if_icmp .ge 56, 3) := by decide +kernel
theorem dX0_parted_10 : decode cX0_parted 10 = .ok (.aload_n 0, 1) := by decide +kernel
theorem dX0_parted_11 : decode cX0_parted 11 = .ok (.getfield 30, 3) := by decide +kernel
theorem dX0_parted_14 : decode cX0_parted 14 = .ok (.iconst 0, 1) := by decide +kernel
theorem dX0_parted_15 : decode cX0_parted 15 = .ok (.aaload, 1) := by decide +kernel
theorem dX0_parted_16 : decode cX0_parted 16 = .ok (.iload_n 2, 1) := by decide +kernel
theorem dX0_parted_17 : decode cX0_parted 17 = .ok (.iaload, 1) := by decide +kernel
theorem dX0_parted_18 : decode cX0_parted 18 = .ok (.ifCond .eq 39, 3) := by decide +kernel
theorem dX0_parted_21 : decode cX0_parted 21 = .ok (.aload_n 0, 1) := by decide +kernel
theorem dX0_parted_22 : decode cX0_parted 22 = .ok (.getfield 30, 3) := by decide +kernel
theorem dX0_parted_25 : decode cX0_parted 25 = .ok (.iconst 1, 1) := by decide +kernel
theorem dX0_parted_26 : decode cX0_parted 26 = .ok (.aaload, 1) := by decide +kernel
theorem dX0_parted_27 : decode cX0_parted 27 = .ok (.iload_n 2, 1) := by decide +kernel
theorem dX0_parted_28 : decode cX0_parted 28 = .ok (.iaload, 1) := by decide +kernel
theorem dX0_parted_29 : decode cX0_parted 29 = .ok (.ifCond .eq 28, 3) := by decide +kernel
theorem dX0_parted_32 : decode cX0_parted 32 = .ok (.aload_n 0, 1) := by decide +kernel
theorem dX0_parted_33 : decode cX0_parted 33 = .ok (.getfield 30, 3) := by decide +kernel
theorem dX0_parted_36 : decode cX0_parted 36 = .ok (.iconst 0, 1) := by decide +kernel
theorem dX0_parted_37 : decode cX0_parted 37 = .ok (.aaload, 1) := by decide +kernel
theorem dX0_parted_38 : decode cX0_parted 38 = .ok (.iload_n 2, 1) := by decide +kernel
theorem dX0_parted_39 : decode cX0_parted 39 = .ok (.iaload, 1) := by decide +kernel
theorem dX0_parted_40 : decode cX0_parted 40 = .ok (.aload_n 0, 1) := by decide +kernel
theorem dX0_parted_41 : decode cX0_parted 41 = .ok (.getfield 30, 3) := by decide +kernel
theorem dX0_parted_44 : decode cX0_parted 44 = .ok (.iconst 1, 1) := by decide +kernel
theorem dX0_parted_45 : decode cX0_parted 45 = .ok (.aaload, 1) := by decide +kernel
theorem dX0_parted_46 : decode cX0_parted 46 = .ok (.iload_n 2, 1) := by decide +kernel
theorem dX0_parted_47 : decode cX0_parted 47 = .ok (.iaload, 1) := by decide +kernel
theorem dX0_parted_48 : decode cX0_parted 48 = .ok (.if_icmp .eq 9, 3) := by decide +kernel
theorem dX0_parted_51 : decode cX0_parted 51 = .ok (.iload_n 1, 1) := by decide +kernel
theorem dX0_parted_52 : decode cX0_parted 52 = .ok (.iconst 1, 1) := by decide +kernel
theorem dX0_parted_53 : decode cX0_parted 53 = .ok (.iload_n 2, 1) := by decide +kernel
theorem dX0_parted_54 : decode cX0_parted 54 = .ok (.ishl, 1) := by decide +kernel
theorem dX0_parted_55 : decode cX0_parted 55 = .ok (.ior, 1) := by decide +kernel
theorem dX0_parted_56 : decode cX0_parted 56 = .ok (.istore_n 1, 1) := by decide +kernel
theorem dX0_parted_57 : decode cX0_parted 57 = .ok (.iinc 2 1, 3) := by decide +kernel
theorem dX0_parted_60 : decode cX0_parted 60 = .ok (.goto (-56), 3) := by decide +kernel
theorem dX0_parted_63 : decode cX0_parted 63 = .ok (.iload_n 1, 1) := by decide +kernel
theorem dX0_parted_64 : decode cX0_parted 64 = .ok (.ireturn, 1) := by decide +kernel
theorem dX0_farFrom_0 : decode cX0_farFrom 0 = .ok (.iconst 0, 1) := by decide +kernel
theorem dX0_farFrom_1 : decode cX0_farFrom 1 = .ok (.istore_n 3, 1) := by decide +kernel
theorem dX0_farFrom_2 : decode cX0_farFrom 2 = .ok (.iconst 0, 1) := by decide +kernel
theorem dX0_farFrom_3 : decode cX0_farFrom 3 = .ok (.istore 4, 2) := by decide +kernel
theorem dX0_farFrom_5 : decode cX0_farFrom 5 = .ok (.iload 4, 2) := by decide +kernel
theorem dX0_farFrom_7 : decode cX0_farFrom 7 = .ok (.bipush 6, 2) := by decide +kernel
theorem dX0_farFrom_9 : decode cX0_farFrom 9 = .ok (.if_icmp .ge 43, 3) := by decide +kernel
theorem dX0_farFrom_12 : decode cX0_farFrom 12 = .ok (.aload_n 0, 1) := by decide +kernel
theorem dX0_farFrom_13 : decode cX0_farFrom 13 = .ok (.getfield 30, 3) := by decide +kernel
theorem dX0_farFrom_16 : decode cX0_farFrom 16 = .ok (.iload_n 1, 1) := by decide +kernel
theorem dX0_farFrom_17 : decode cX0_farFrom 17 = .ok (.aaload, 1) := by decide +kernel
theorem dX0_farFrom_18 : decode cX0_farFrom 18 = .ok (.iload 4, 2) := by decide +kernel
theorem dX0_farFrom_20 : decode cX0_farFrom 20 = .ok (.iaload, 1) := by decide +kernel
theorem dX0_farFrom_21 : decode cX0_farFrom 21 = .ok (.istore 5, 2) := by decide +kernel
theorem dX0_farFrom_23 : decode cX0_farFrom 23 = .ok (.iload 5, 2) := by decide +kernel
theorem dX0_farFrom_25 : decode cX0_farFrom 25 = .ok (.ifCond .eq 21, 3) := by decide +kernel
theorem dX0_farFrom_28 : decode cX0_farFrom 28 = .ok (.iload 5, 2) := by decide +kernel
theorem dX0_farFrom_30 : decode cX0_farFrom 30 = .ok (.iload_n 2, 1) := by decide +kernel
theorem dX0_farFrom_31 : decode cX0_farFrom 31 = .ok (.iload 4, 2) := by decide +kernel
theorem dX0_farFrom_33 : decode cX0_farFrom 33 = .ok (.invokestatic 37, 3) := by decide +kernel
theorem dX0_farFrom_36 : decode cX0_farFrom 36 = .ok (.if_icmp .eq 10, 3) := by decide +kernel
theorem dX0_farFrom_39 : decode cX0_farFrom 39 = .ok (.iload_n 3, 1) := by decide +kernel
theorem dX0_farFrom_40 : decode cX0_farFrom 40 = .ok (.iconst 1, 1) := by decide +kernel
theorem dX0_farFrom_41 : decode cX0_farFrom 41 = .ok (.iload 4, 2) := by decide +kernel
theorem dX0_farFrom_43 : decode cX0_farFrom 43 = .ok (.ishl, 1) := by decide +kernel
theorem dX0_farFrom_44 : decode cX0_farFrom 44 = .ok (.ior, 1) := by decide +kernel
theorem dX0_farFrom_45 : decode cX0_farFrom 45 = .ok (.istore_n 3, 1) := by decide +kernel
theorem dX0_farFrom_46 : decode cX0_farFrom 46 = .ok (.iinc 4 1, 3) := by decide +kernel
theorem dX0_farFrom_49 : decode cX0_farFrom 49 = .ok (.goto (-44), 3) := by decide +kernel
theorem dX0_farFrom_52 : decode cX0_farFrom 52 = .ok (.iload_n 3, 1) := by decide +kernel
theorem dX0_farFrom_53 : decode cX0_farFrom 53 = .ok (.ireturn, 1) := by decide +kernel
theorem dX0_sayable_0 : decode cX0_sayable 0 = .ok (.iconst 0, 1) := by decide +kernel
theorem dX0_sayable_1 : decode cX0_sayable 1 = .ok (.istore_n 1, 1) := by decide +kernel
theorem dX0_sayable_2 : decode cX0_sayable 2 = .ok (.iconst 0, 1) := by decide +kernel
theorem dX0_sayable_3 : decode cX0_sayable 3 = .ok (.istore_n 2, 1) := by decide +kernel
theorem dX0_sayable_4 : decode cX0_sayable 4 = .ok (.iload_n 2, 1) := by decide +kernel
theorem dX0_sayable_5 : decode cX0_sayable 5 = .ok (.bipush 6, 2) := by decide +kernel
theorem dX0_sayable_7 : decode cX0_sayable 7 = .ok (.if_icmp .ge 35, 3) := by decide +kernel
theorem dX0_sayable_10 : decode cX0_sayable 10 = .ok (.aload_n 0, 1) := by decide +kernel
theorem dX0_sayable_11 : decode cX0_sayable 11 = .ok (.getfield 24, 3) := by decide +kernel
theorem dX0_sayable_14 : decode cX0_sayable 14 = .ok (.getfield 41, 3) := by decide +kernel
theorem dX0_sayable_17 : decode cX0_sayable 17 = .ok (.iload_n 2, 1) := by decide +kernel
theorem dX0_sayable_18 : decode cX0_sayable 18 = .ok (.iaload, 1) := by decide +kernel
theorem dX0_sayable_19 : decode cX0_sayable 19 = .ok (.ifCond .ne 17, 3) := by decide +kernel
theorem dX0_sayable_22 : decode cX0_sayable 22 = .ok (.aload_n 0, 1) := by decide +kernel
theorem dX0_sayable_23 : decode cX0_sayable 23 = .ok (.iload_n 2, 1) := by decide +kernel
theorem dX0_sayable_24 : decode cX0_sayable 24 = .ok (.invokevirtual 45, 3) := by decide +kernel
theorem dX0_sayable_27 : decode cX0_sayable 27 = .ok (.ifCond .eq 9, 3) := by decide +kernel
theorem dX0_sayable_30 : decode cX0_sayable 30 = .ok (.iload_n 1, 1) := by decide +kernel
theorem dX0_sayable_31 : decode cX0_sayable 31 = .ok (.iconst 1, 1) := by decide +kernel
theorem dX0_sayable_32 : decode cX0_sayable 32 = .ok (.iload_n 2, 1) := by decide +kernel
theorem dX0_sayable_33 : decode cX0_sayable 33 = .ok (.ishl, 1) := by decide +kernel
theorem dX0_sayable_34 : decode cX0_sayable 34 = .ok (.ior, 1) := by decide +kernel
theorem dX0_sayable_35 : decode cX0_sayable 35 = .ok (.istore_n 1, 1) := by decide +kernel
theorem dX0_sayable_36 : decode cX0_sayable 36 = .ok (.iinc 2 1, 3) := by decide +kernel
theorem dX0_sayable_39 : decode cX0_sayable 39 = .ok (.goto (-35), 3) := by decide +kernel
theorem dX0_sayable_42 : decode cX0_sayable 42 = .ok (.iload_n 1, 1) := by decide +kernel
theorem dX0_sayable_43 : decode cX0_sayable 43 = .ok (.ireturn, 1) := by decide +kernel
theorem dX1_init_0 : decode cX1_init 0 = .ok (.aload_n 0, 1) := by decide +kernel
theorem dX1_init_1 : decode cX1_init 1 = .ok (.invokespecial 3, 3) := by decide +kernel
theorem dX1_init_4 : decode cX1_init 4 = .ok (.aload_n 0, 1) := by decide +kernel
theorem dX1_init_5 : decode cX1_init 5 = .ok (.bipush 24, 2) := by decide +kernel
theorem dX1_init_7 : decode cX1_init 7 = .ok (.newarray .int, 2) := by decide +kernel
theorem dX1_init_9 : decode cX1_init 9 = .ok (.putfield 9, 3) := by decide +kernel
theorem dX1_init_12 : decode cX1_init 12 = .ok (.aload_n 0, 1) := by decide +kernel
theorem dX1_init_13 : decode cX1_init 13 = .ok (.bipush 24, 2) := by decide +kernel
theorem dX1_init_15 : decode cX1_init 15 = .ok (.newarray .int, 2) := by decide +kernel
theorem dX1_init_17 : decode cX1_init 17 = .ok (.putfield 15, 3) := by decide +kernel
theorem dX1_init_20 : decode cX1_init 20 = .ok (.aload_n 0, 1) := by decide +kernel
theorem dX1_init_21 : decode cX1_init 21 = .ok (.bipush 24, 2) := by decide +kernel
theorem dX1_init_23 : decode cX1_init 23 = .ok (.newarray .int, 2) := by decide +kernel
theorem dX1_init_25 : decode cX1_init 25 = .ok (.putfield 18, 3) := by decide +kernel
theorem dX1_init_28 : decode cX1_init 28 = .ok (.aload_n 0, 1) := by decide +kernel
theorem dX1_init_29 : decode cX1_init 29 = .ok (.bipush 24, 2) := by decide +kernel
theorem dX1_init_31 : decode cX1_init 31 = .ok (.newarray .int, 2) := by decide +kernel
theorem dX1_init_33 : decode cX1_init 33 = .ok (.putfield 21, 3) := by decide +kernel
theorem dX1_init_36 : decode cX1_init 36 = .ok (.aload_n 0, 1) := by decide +kernel
theorem dX1_init_37 : decode cX1_init 37 = .ok (.bipush 24, 2) := by decide +kernel
theorem dX1_init_39 : decode cX1_init 39 = .ok (.newarray .int, 2) := by decide +kernel
theorem dX1_init_41 : decode cX1_init 41 = .ok (.putfield 24, 3) := by decide +kernel
theorem dX1_init_44 : decode cX1_init 44 = .ok (.aload_n 0, 1) := by decide +kernel
theorem dX1_init_45 : decode cX1_init 45 = .ok (.bipush 24, 2) := by decide +kernel
theorem dX1_init_47 : decode cX1_init 47 = .ok (.newarray .boolean, 2) := by decide +kernel
theorem dX1_init_49 : decode cX1_init 49 = .ok (.putfield 27, 3) := by decide +kernel
theorem dX1_init_52 : decode cX1_init 52 = .ok (.aload_n 0, 1) := by decide +kernel
theorem dX1_init_53 : decode cX1_init 53 = .ok (.iconst 0, 1) := by decide +kernel
theorem dX1_init_54 : decode cX1_init 54 = .ok (.putfield 31, 3) := by decide +kernel
theorem dX1_init_57 : decode cX1_init 57 = .ok (.aload_n 0, 1) := by decide +kernel
theorem dX1_init_58 : decode cX1_init 58 = .ok (.iconst 0, 1) := by decide +kernel
theorem dX1_init_59 : decode cX1_init 59 = .ok (.putfield 35, 3) := by decide +kernel
theorem dX1_init_62 : decode cX1_init 62 = .ok (.aload_n 0, 1) := by decide +kernel
theorem dX1_init_63 : decode cX1_init 63 = .ok (.bipush 6, 2) := by decide +kernel
theorem dX1_init_65 : decode cX1_init 65 = .ok (.newarray .int, 2) := by decide +kernel
theorem dX1_init_67 : decode cX1_init 67 = .ok (.putfield 38, 3) := by decide +kernel
theorem dX1_init_70 : decode cX1_init 70 = .ok (.return_, 1) := by decide +kernel
theorem dX1_add_0 : decode cX1_add 0 = .ok (.aload_n 0, 1) := by decide +kernel
theorem dX1_add_1 : decode cX1_add 1 = .ok (.getfield 31, 3) := by decide +kernel
theorem dX1_add_4 : decode cX1_add 4 = .ok (.bipush 24, 2) := by decide +kernel
theorem dX1_add_6 : decode cX1_add 6 = .ok (.if_icmp .lt 4, 3) := by decide +kernel
theorem dX1_add_9 : decode cX1_add 9 = .ok (.return_, 1) := by decide +kernel
theorem dX1_add_10 : decode cX1_add 10 = .ok (.aload_n 0, 1) := by decide +kernel
theorem dX1_add_11 : decode cX1_add 11 = .ok (.getfield 9, 3) := by decide +kernel
theorem dX1_add_14 : decode cX1_add 14 = .ok (.aload_n 0, 1) := by decide +kernel
theorem dX1_add_15 : decode cX1_add 15 = .ok (.getfield 31, 3) := by decide +kernel
theorem dX1_add_18 : decode cX1_add 18 = .ok (.iload_n 1, 1) := by decide +kernel
theorem dX1_add_19 : decode cX1_add 19 = .ok (.iastore, 1) := by decide +kernel
theorem dX1_add_20 : decode cX1_add 20 = .ok (.aload_n 0, 1) := by decide +kernel
theorem dX1_add_21 : decode cX1_add 21 = .ok (.getfield 15, 3) := by decide +kernel
theorem dX1_add_24 : decode cX1_add 24 = .ok (.aload_n 0, 1) := by decide +kernel
theorem dX1_add_25 : decode cX1_add 25 = .ok (.getfield 31, 3) := by decide +kernel
theorem dX1_add_28 : decode cX1_add 28 = .ok (.iload_n 2, 1) := by decide +kernel
theorem dX1_add_29 : decode cX1_add 29 = .ok (.iastore, 1) := by decide +kernel
theorem dX1_add_30 : decode cX1_add 30 = .ok (.aload_n 0, 1) := by decide +kernel
theorem dX1_add_31 : decode cX1_add 31 = .ok (.getfield 18, 3) := by decide +kernel
theorem dX1_add_34 : decode cX1_add 34 = .ok (.aload_n 0, 1) := by decide +kernel
theorem dX1_add_35 : decode cX1_add 35 = .ok (.getfield 31, 3) := by decide +kernel
theorem dX1_add_38 : decode cX1_add 38 = .ok (.iload_n 3, 1) := by decide +kernel
theorem dX1_add_39 : decode cX1_add 39 = .ok (.iastore, 1) := by decide +kernel
theorem dX1_add_40 : decode cX1_add 40 = .ok (.aload_n 0, 1) := by decide +kernel
theorem dX1_add_41 : decode cX1_add 41 = .ok (.getfield 21, 3) := by decide +kernel
theorem dX1_add_44 : decode cX1_add 44 = .ok (.aload_n 0, 1) := by decide +kernel
theorem dX1_add_45 : decode cX1_add 45 = .ok (.getfield 31, 3) := by decide +kernel
theorem dX1_add_48 : decode cX1_add 48 = .ok (.iload 4, 2) := by decide +kernel
theorem dX1_add_50 : decode cX1_add 50 = .ok (.iastore, 1) := by decide +kernel
theorem dX1_add_51 : decode cX1_add 51 = .ok (.aload_n 0, 1) := by decide +kernel
theorem dX1_add_52 : decode cX1_add 52 = .ok (.getfield 24, 3) := by decide +kernel
theorem dX1_add_55 : decode cX1_add 55 = .ok (.aload_n 0, 1) := by decide +kernel
theorem dX1_add_56 : decode cX1_add 56 = .ok (.getfield 31, 3) := by decide +kernel
theorem dX1_add_59 : decode cX1_add 59 = .ok (.iload 5, 2) := by decide +kernel
theorem dX1_add_61 : decode cX1_add 61 = .ok (.iastore, 1) := by decide +kernel
theorem dX1_add_62 : decode cX1_add 62 = .ok (.aload_n 0, 1) := by decide +kernel
theorem dX1_add_63 : decode cX1_add 63 = .ok (.getfield 27, 3) := by decide +kernel
theorem dX1_add_66 : decode cX1_add 66 = .ok (.aload_n 0, 1) := by decide +kernel
theorem dX1_add_67 : decode cX1_add 67 = .ok (.getfield 31, 3) := by decide +kernel
theorem dX1_add_70 : decode cX1_add 70 = .ok (.iload 6, 2) := by decide +kernel
theorem dX1_add_72 : decode cX1_add 72 = .ok (.bastore, 1) := by decide +kernel
theorem dX1_add_73 : decode cX1_add 73 = .ok (.aload_n 0, 1) := by decide +kernel
theorem dX1_add_74 : decode cX1_add 74 = .ok (.dup, 1) := by decide +kernel
theorem dX1_add_75 : decode cX1_add 75 = .ok (.getfield 31, 3) := by decide +kernel
theorem dX1_add_78 : decode cX1_add 78 = .ok (.iconst 1, 1) := by decide +kernel
theorem dX1_add_79 : decode cX1_add 79 = .ok (.iadd, 1) := by decide +kernel
theorem dX1_add_80 : decode cX1_add 80 = .ok (.putfield 31, 3) := by decide +kernel
theorem dX1_add_83 : decode cX1_add 83 = .ok (.return_, 1) := by decide +kernel
theorem dX1_copy_0 : decode cX1_copy 0 = .ok (.aload_n 1, 1) := by decide +kernel
theorem dX1_copy_1 : decode cX1_copy 1 = .ok (.getfield 9, 3) := by decide +kernel
theorem dX1_copy_4 : decode cX1_copy 4 = .ok (.iconst 0, 1) := by decide +kernel
theorem dX1_copy_5 : decode cX1_copy 5 = .ok (.aload_n 0, 1) := by decide +kernel
theorem dX1_copy_6 : decode cX1_copy 6 = .ok (.getfield 9, 3) := by decide +kernel
theorem dX1_copy_9 : decode cX1_copy 9 = .ok (.iconst 0, 1) := by decide +kernel
theorem dX1_copy_10 : decode cX1_copy 10 = .ok (.bipush 24, 2) := by decide +kernel
theorem dX1_copy_12 : decode cX1_copy 12 = .ok (.invokestatic 41, 3) := by decide +kernel
theorem dX1_copy_15 : decode cX1_copy 15 = .ok (.aload_n 1, 1) := by decide +kernel
theorem dX1_copy_16 : decode cX1_copy 16 = .ok (.getfield 15, 3) := by decide +kernel
theorem dX1_copy_19 : decode cX1_copy 19 = .ok (.iconst 0, 1) := by decide +kernel
theorem dX1_copy_20 : decode cX1_copy 20 = .ok (.aload_n 0, 1) := by decide +kernel
theorem dX1_copy_21 : decode cX1_copy 21 = .ok (.getfield 15, 3) := by decide +kernel
theorem dX1_copy_24 : decode cX1_copy 24 = .ok (.iconst 0, 1) := by decide +kernel
theorem dX1_copy_25 : decode cX1_copy 25 = .ok (.bipush 24, 2) := by decide +kernel
theorem dX1_copy_27 : decode cX1_copy 27 = .ok (.invokestatic 41, 3) := by decide +kernel
theorem dX1_copy_30 : decode cX1_copy 30 = .ok (.aload_n 1, 1) := by decide +kernel
theorem dX1_copy_31 : decode cX1_copy 31 = .ok (.getfield 18, 3) := by decide +kernel
theorem dX1_copy_34 : decode cX1_copy 34 = .ok (.iconst 0, 1) := by decide +kernel
theorem dX1_copy_35 : decode cX1_copy 35 = .ok (.aload_n 0, 1) := by decide +kernel
theorem dX1_copy_36 : decode cX1_copy 36 = .ok (.getfield 18, 3) := by decide +kernel
theorem dX1_copy_39 : decode cX1_copy 39 = .ok (.iconst 0, 1) := by decide +kernel
theorem dX1_copy_40 : decode cX1_copy 40 = .ok (.bipush 24, 2) := by decide +kernel
theorem dX1_copy_42 : decode cX1_copy 42 = .ok (.invokestatic 41, 3) := by decide +kernel
theorem dX1_copy_45 : decode cX1_copy 45 = .ok (.aload_n 1, 1) := by decide +kernel
theorem dX1_copy_46 : decode cX1_copy 46 = .ok (.getfield 21, 3) := by decide +kernel
theorem dX1_copy_49 : decode cX1_copy 49 = .ok (.iconst 0, 1) := by decide +kernel
theorem dX1_copy_50 : decode cX1_copy 50 = .ok (.aload_n 0, 1) := by decide +kernel
theorem dX1_copy_51 : decode cX1_copy 51 = .ok (.getfield 21, 3) := by decide +kernel
theorem dX1_copy_54 : decode cX1_copy 54 = .ok (.iconst 0, 1) := by decide +kernel
theorem dX1_copy_55 : decode cX1_copy 55 = .ok (.bipush 24, 2) := by decide +kernel
theorem dX1_copy_57 : decode cX1_copy 57 = .ok (.invokestatic 41, 3) := by decide +kernel
theorem dX1_copy_60 : decode cX1_copy 60 = .ok (.aload_n 1, 1) := by decide +kernel
theorem dX1_copy_61 : decode cX1_copy 61 = .ok (.getfield 24, 3) := by decide +kernel
theorem dX1_copy_64 : decode cX1_copy 64 = .ok (.iconst 0, 1) := by decide +kernel
theorem dX1_copy_65 : decode cX1_copy 65 = .ok (.aload_n 0, 1) := by decide +kernel
theorem dX1_copy_66 : decode cX1_copy 66 = .ok (.getfield 24, 3) := by decide +kernel
theorem dX1_copy_69 : decode cX1_copy 69 = .ok (.iconst 0, 1) := by decide +kernel
theorem dX1_copy_70 : decode cX1_copy 70 = .ok (.bipush 24, 2) := by decide +kernel
theorem dX1_copy_72 : decode cX1_copy 72 = .ok (.invokestatic 41, 3) := by decide +kernel
theorem dX1_copy_75 : decode cX1_copy 75 = .ok (.aload_n 1, 1) := by decide +kernel
theorem dX1_copy_76 : decode cX1_copy 76 = .ok (.getfield 27, 3) := by decide +kernel
theorem dX1_copy_79 : decode cX1_copy 79 = .ok (.iconst 0, 1) := by decide +kernel
theorem dX1_copy_80 : decode cX1_copy 80 = .ok (.aload_n 0, 1) := by decide +kernel
theorem dX1_copy_81 : decode cX1_copy 81 = .ok (.getfield 27, 3) := by decide +kernel
theorem dX1_copy_84 : decode cX1_copy 84 = .ok (.iconst 0, 1) := by decide +kernel
theorem dX1_copy_85 : decode cX1_copy 85 = .ok (.bipush 24, 2) := by decide +kernel
theorem dX1_copy_87 : decode cX1_copy 87 = .ok (.invokestatic 41, 3) := by decide +kernel
theorem dX1_copy_90 : decode cX1_copy 90 = .ok (.aload_n 0, 1) := by decide +kernel
theorem dX1_copy_91 : decode cX1_copy 91 = .ok (.aload_n 1, 1) := by decide +kernel
theorem dX1_copy_92 : decode cX1_copy 92 = .ok (.getfield 31, 3) := by decide +kernel
theorem dX1_copy_95 : decode cX1_copy 95 = .ok (.putfield 31, 3) := by decide +kernel
theorem dX1_copy_98 : decode cX1_copy 98 = .ok (.aload_n 0, 1) := by decide +kernel
theorem dX1_copy_99 : decode cX1_copy 99 = .ok (.aload_n 1, 1) := by decide +kernel
theorem dX1_copy_100 : decode cX1_copy 100 = .ok (.getfield 35, 3) := by decide +kernel
theorem dX1_copy_103 : decode cX1_copy 103 = .ok (.putfield 35, 3) := by decide +kernel
theorem dX1_copy_106 : decode cX1_copy 106 = .ok (.return_, 1) := by decide +kernel
theorem dX1_isKnown_0 : decode cX1_isKnown 0 = .ok (.aload_n 0, 1) := by decide +kernel
theorem dX1_isKnown_1 : decode cX1_isKnown 1 = .ok (.getfield 35, 3) := by decide +kernel
theorem dX1_isKnown_4 : decode cX1_isKnown 4 = .ok (.iload_n 1, 1) := by decide +kernel
theorem dX1_isKnown_5 : decode cX1_isKnown 5 = .ok (.iconst 3, 1) := by decide +kernel
theorem dX1_isKnown_6 : decode cX1_isKnown 6 = .ok (.imul, 1) := by decide +kernel
theorem dX1_isKnown_7 : decode cX1_isKnown 7 = .ok (.iload_n 2, 1) := by decide +kernel
theorem dX1_isKnown_8 : decode cX1_isKnown 8 = .ok (.iadd, 1) := by decide +kernel
theorem dX1_isKnown_9 : decode cX1_isKnown 9 = .ok (.invokestatic 47, 3) := by decide +kernel
theorem dX1_isKnown_12 : decode cX1_isKnown 12 = .ok (.iconst 1, 1) := by decide +kernel
theorem dX1_isKnown_13 : decode cX1_isKnown 13 = .ok (.if_icmp .ne 5, 3) := by decide +kernel
theorem dX1_isKnown_16 : decode cX1_isKnown 16 = .ok (.iconst 1, 1) := by decide +kernel
theorem dX1_isKnown_17 : decode cX1_isKnown 17 = .ok (.ireturn, 1) := by decide +kernel
theorem dX1_isKnown_18 : decode cX1_isKnown 18 = .ok (.iconst 0, 1) := by decide +kernel
theorem dX1_isKnown_19 : decode cX1_isKnown 19 = .ok (.istore_n 3, 1) := by decide +kernel
theorem dX1_isKnown_20 : decode cX1_isKnown 20 = .ok (.iload_n 3, 1) := by decide +kernel
theorem dX1_isKnown_21 : decode cX1_isKnown 21 = .ok (.aload_n 0, 1) := by decide +kernel
theorem dX1_isKnown_22 : decode cX1_isKnown 22 = .ok (.getfield 31, 3) := by decide +kernel
theorem dX1_isKnown_25 : decode cX1_isKnown 25 = .ok (.if_icmp .ge 41, 3) := by decide +kernel
theorem dX1_isKnown_28 : decode cX1_isKnown 28 = .ok (.aload_n 0, 1) := by decide +kernel
theorem dX1_isKnown_29 : decode cX1_isKnown 29 = .ok (.getfield 18, 3) := by decide +kernel
theorem dX1_isKnown_32 : decode cX1_isKnown 32 = .ok (.iload_n 3, 1) := by decide +kernel
theorem dX1_isKnown_33 : decode cX1_isKnown 33 = .ok (.iaload, 1) := by decide +kernel
theorem dX1_isKnown_34 : decode cX1_isKnown 34 = .ok (.iload_n 2, 1) := by decide +kernel
theorem dX1_isKnown_35 : decode cX1_isKnown 35 = .ok (.if_icmp .ne 25, 3) := by decide +kernel
theorem dX1_isKnown_38 : decode cX1_isKnown 38 = .ok (.aload_n 0, 1) := by decide +kernel
theorem dX1_isKnown_39 : decode cX1_isKnown 39 = .ok (.getfield 9, 3) := by decide +kernel
theorem dX1_isKnown_42 : decode cX1_isKnown 42 = .ok (.iload_n 3, 1) := by decide +kernel
theorem dX1_isKnown_43 : decode cX1_isKnown 43 = .ok (.iaload, 1) := by decide +kernel
theorem dX1_isKnown_44 : decode cX1_isKnown 44 = .ok (.iload_n 1, 1) := by decide +kernel
theorem dX1_isKnown_45 : decode cX1_isKnown 45 = .ok (.if_icmp .eq 13, 3) := by decide +kernel
theorem dX1_isKnown_48 : decode cX1_isKnown 48 = .ok (.aload_n 0, 1) := by decide +kernel
theorem dX1_isKnown_49 : decode cX1_isKnown 49 = .ok (.getfield 15, 3) := by decide +kernel
theorem dX1_isKnown_52 : decode cX1_isKnown 52 = .ok (.iload_n 3, 1) := by decide +kernel
theorem dX1_isKnown_53 : decode cX1_isKnown 53 = .ok (.iaload, 1) := by decide +kernel
theorem dX1_isKnown_54 : decode cX1_isKnown 54 = .ok (.iload_n 1, 1) := by decide +kernel
theorem dX1_isKnown_55 : decode cX1_isKnown 55 = .ok (.if_icmp .ne 5, 3) := by decide +kernel
theorem dX1_isKnown_58 : decode cX1_isKnown 58 = .ok (.iconst 1, 1) := by decide +kernel
theorem dX1_isKnown_59 : decode cX1_isKnown 59 = .ok (.ireturn, 1) := by decide +kernel
theorem dX1_isKnown_60 : decode cX1_isKnown 60 = .ok (.iinc 3 1, 3) := by decide +kernel
theorem dX1_isKnown_63 : decode cX1_isKnown 63 = .ok (.goto (-43), 3) := by decide +kernel
theorem dX1_isKnown_66 : decode cX1_isKnown 66 = .ok (.iconst 0, 1) := by decide +kernel
theorem dX1_isKnown_67 : decode cX1_isKnown 67 = .ok (.ireturn, 1) := by decide +kernel
theorem dX1_valueBefore_0 : decode cX1_valueBefore 0 = .ok (.iconst 0, 1) := by decide +kernel
theorem dX1_valueBefore_1 : decode cX1_valueBefore 1 = .ok (.istore 5, 2) := by decide +kernel
theorem dX1_valueBefore_3 : decode cX1_valueBefore 3 = .ok (.iconst 0, 1) := by decide +kernel
theorem dX1_valueBefore_4 : decode cX1_valueBefore 4 = .ok (.istore 6, 2) := by decide +kernel
theorem dX1_valueBefore_6 : decode cX1_valueBefore 6 = .ok (.aload_n 0, 1) := by decide +kernel
theorem dX1_valueBefore_7 : decode cX1_valueBefore 7 = .ok (.getfield 31, 3) := by decide +kernel
theorem dX1_valueBefore_10 : decode cX1_valueBefore 10 = .ok (.iconst 1, 1) := by decide +kernel
theorem dX1_valueBefore_11 : decode cX1_valueBefore 11 = .ok (.isub, 1) := by decide +kernel
theorem dX1_valueBefore_12 : decode cX1_valueBefore 12 = .ok (.istore 7, 2) := by decide +kernel
theorem dX1_valueBefore_14 : decode cX1_valueBefore 14 = .ok (.iload 7, 2) := by decide +kernel
theorem dX1_valueBefore_16 : decode cX1_valueBefore 16 = .ok (.ifCond .lt 79, 3) := by decide +kernel
theorem dX1_valueBefore_19 : decode cX1_valueBefore 19 = .ok (.iload 6, 2) := by decide +kernel
theorem dX1_valueBefore_21 : decode cX1_valueBefore 21 = .ok (.iload 4, 2) := by decide +kernel
theorem dX1_valueBefore_23 : decode cX1_valueBefore 23 = .ok (.if_icmp .ge 72, 3) := by decide +kernel
theorem dX1_valueBefore_26 : decode cX1_valueBefore 26 = .ok (.aload_n 0, 1) := by decide +kernel
theorem dX1_valueBefore_27 : decode cX1_valueBefore 27 = .ok (.getfield 21, 3) := by decide +kernel
theorem dX1_valueBefore_30 : decode cX1_valueBefore 30 = .ok (.iload 7, 2) := by decide +kernel
theorem dX1_valueBefore_32 : decode cX1_valueBefore 32 = .ok (.iaload, 1) := by decide +kernel
theorem dX1_valueBefore_33 : decode cX1_valueBefore 33 = .ok (.iload_n 3, 1) := by decide +kernel
theorem dX1_valueBefore_34 : decode cX1_valueBefore 34 = .ok (.if_icmp .ne 55, 3) := by decide +kernel
theorem dX1_valueBefore_37 : decode cX1_valueBefore 37 = .ok (.aload_n 0, 1) := by decide +kernel
theorem dX1_valueBefore_38 : decode cX1_valueBefore 38 = .ok (.iload 7, 2) := by decide +kernel
theorem dX1_valueBefore_40 : decode cX1_valueBefore 40 = .ok (.iload_n 1, 1) := by decide +kernel
theorem dX1_valueBefore_41 : decode cX1_valueBefore 41 = .ok (.iload_n 2, 1) := by decide +kernel
theorem dX1_valueBefore_42 : decode cX1_valueBefore 42 = .ok (.invokevirtual 51, 3) := by decide +kernel
theorem dX1_valueBefore_45 : decode cX1_valueBefore 45 = .ok (.ifCond .eq 44, 3) := by decide +kernel
theorem dX1_valueBefore_48 : decode cX1_valueBefore 48 = .ok (.aload_n 0, 1) := by decide +kernel
theorem dX1_valueBefore_49 : decode cX1_valueBefore 49 = .ok (.getfield 27, 3) := by decide +kernel
theorem dX1_valueBefore_52 : decode cX1_valueBefore 52 = .ok (.iload 7, 2) := by decide +kernel
theorem dX1_valueBefore_54 : decode cX1_valueBefore 54 = .ok (.baload, 1) := by decide +kernel
theorem dX1_valueBefore_55 : decode cX1_valueBefore 55 = .ok (.ifCond .ne 20, 3) := by decide +kernel
theorem dX1_valueBefore_58 : decode cX1_valueBefore 58 = .ok (.iload 6, 2) := by decide +kernel
theorem dX1_valueBefore_60 : decode cX1_valueBefore 60 = .ok (.ifCond .le 17, 3) := by decide +kernel
theorem dX1_valueBefore_63 : decode cX1_valueBefore 63 = .ok (.aload_n 0, 1) := by decide +kernel
theorem dX1_valueBefore_64 : decode cX1_valueBefore 64 = .ok (.getfield 24, 3) := by decide +kernel
theorem dX1_valueBefore_67 : decode cX1_valueBefore 67 = .ok (.iload 7, 2) := by decide +kernel
theorem dX1_valueBefore_69 : decode cX1_valueBefore 69 = .ok (.iaload, 1) := by decide +kernel
theorem dX1_valueBefore_70 : decode cX1_valueBefore 70 = .ok (.iload 5, 2) := by decide +kernel
theorem dX1_valueBefore_72 : decode cX1_valueBefore 72 = .ok (.if_icmp .eq 5, 3) := by decide +kernel
theorem dX1_valueBefore_75 : decode cX1_valueBefore 75 = .ok (.iconst 0, 1) := by decide +kernel
theorem dX1_valueBefore_76 : decode cX1_valueBefore 76 = .ok (.ireturn, 1) := by decide +kernel
theorem dX1_valueBefore_77 : decode cX1_valueBefore 77 = .ok (.aload_n 0, 1) := by decide +kernel
theorem dX1_valueBefore_78 : decode cX1_valueBefore 78 = .ok (.getfield 24, 3) := by decide +kernel
theorem dX1_valueBefore_81 : decode cX1_valueBefore 81 = .ok (.iload 7, 2) := by decide +kernel
theorem dX1_valueBefore_83 : decode cX1_valueBefore 83 = .ok (.iaload, 1) := by decide +kernel
theorem dX1_valueBefore_84 : decode cX1_valueBefore 84 = .ok (.istore 5, 2) := by decide +kernel
theorem dX1_valueBefore_86 : decode cX1_valueBefore 86 = .ok (.iinc 6 1, 3) := by decide +kernel
theorem dX1_valueBefore_89 : decode cX1_valueBefore 89 = .ok (.iinc 7 (-1), 3) := by decide +kernel
theorem dX1_valueBefore_92 : decode cX1_valueBefore 92 = .ok (.goto (-78), 3) := by decide +kernel
theorem dX1_valueBefore_95 : decode cX1_valueBefore 95 = .ok (.iload 6, 2) := by decide +kernel
theorem dX1_valueBefore_97 : decode cX1_valueBefore 97 = .ok (.iload 4, 2) := by decide +kernel
theorem dX1_valueBefore_99 : decode cX1_valueBefore 99 = .ok (.if_icmp .ne 8, 3) := by decide +kernel
theorem dX1_valueBefore_102 : decode cX1_valueBefore 102 = .ok (.iload 5, 2) := by decide +kernel
theorem dX1_valueBefore_104 : decode cX1_valueBefore 104 = .ok (.goto 4, 3) := by decide +kernel
theorem dX1_valueBefore_107 : decode cX1_valueBefore 107 = .ok (.iconst 0, 1) := by decide +kernel
theorem dX1_valueBefore_108 : decode cX1_valueBefore 108 = .ok (.ireturn, 1) := by decide +kernel
theorem dX1_isOfTwo_0 : decode cX1_isOfTwo 0 = .ok (.aload_n 0, 1) := by decide +kernel
theorem dX1_isOfTwo_1 : decode cX1_isOfTwo 1 = .ok (.getfield 9, 3) := by decide +kernel
theorem dX1_isOfTwo_4 : decode cX1_isOfTwo 4 = .ok (.iload_n 1, 1) := by decide +kernel
theorem dX1_isOfTwo_5 : decode cX1_isOfTwo 5 = .ok (.iaload, 1) := by decide +kernel
theorem dX1_isOfTwo_6 : decode cX1_isOfTwo 6 = .ok (.iload_n 2, 1) := by decide +kernel
theorem dX1_isOfTwo_7 : decode cX1_isOfTwo 7 = .ok (.if_icmp .ne 13, 3) := by decide +kernel
theorem dX1_isOfTwo_10 : decode cX1_isOfTwo 10 = .ok (.aload_n 0, 1) := by decide +kernel
theorem dX1_isOfTwo_11 : decode cX1_isOfTwo 11 = .ok (.getfield 15, 3) := by decide +kernel
theorem dX1_isOfTwo_14 : decode cX1_isOfTwo 14 = .ok (.iload_n 1, 1) := by decide +kernel
theorem dX1_isOfTwo_15 : decode cX1_isOfTwo 15 = .ok (.iaload, 1) := by decide +kernel
theorem dX1_isOfTwo_16 : decode cX1_isOfTwo 16 = .ok (.iload_n 3, 1) := by decide +kernel
theorem dX1_isOfTwo_17 : decode cX1_isOfTwo 17 = .ok (.if_icmp .eq 23, 3) := by decide +kernel
theorem dX1_isOfTwo_20 : decode cX1_isOfTwo 20 = .ok (.aload_n 0, 1) := by decide +kernel
theorem dX1_isOfTwo_21 : decode cX1_isOfTwo 21 = .ok (.getfield 9, 3) := by decide +kernel
theorem dX1_isOfTwo_24 : decode cX1_isOfTwo 24 = .ok (.iload_n 1, 1) := by decide +kernel
theorem dX1_isOfTwo_25 : decode cX1_isOfTwo 25 = .ok (.iaload, 1) := by decide +kernel
theorem dX1_isOfTwo_26 : decode cX1_isOfTwo 26 = .ok (.iload_n 3, 1) := by decide +kernel
theorem dX1_isOfTwo_27 : decode cX1_isOfTwo 27 = .ok (.if_icmp .ne 17, 3) := by decide +kernel
theorem dX1_isOfTwo_30 : decode cX1_isOfTwo 30 = .ok (.aload_n 0, 1) := by decide +kernel
theorem dX1_isOfTwo_31 : decode cX1_isOfTwo 31 = .ok (.getfield 15, 3) := by decide +kernel
theorem dX1_isOfTwo_34 : decode cX1_isOfTwo 34 = .ok (.iload_n 1, 1) := by decide +kernel
theorem dX1_isOfTwo_35 : decode cX1_isOfTwo 35 = .ok (.iaload, 1) := by decide +kernel
theorem dX1_isOfTwo_36 : decode cX1_isOfTwo 36 = .ok (.iload_n 2, 1) := by decide +kernel
theorem dX1_isOfTwo_37 : decode cX1_isOfTwo 37 = .ok (.if_icmp .ne 7, 3) := by decide +kernel
theorem dX1_isOfTwo_40 : decode cX1_isOfTwo 40 = .ok (.iconst 1, 1) := by decide +kernel
theorem dX1_isOfTwo_41 : decode cX1_isOfTwo 41 = .ok (.goto 4, 3) := by decide +kernel
theorem dX1_isOfTwo_44 : decode cX1_isOfTwo 44 = .ok (.iconst 0, 1) := by decide +kernel
theorem dX1_isOfTwo_45 : decode cX1_isOfTwo 45 = .ok (.ireturn, 1) := by decide +kernel
theorem dX1_customOf_0 : decode cX1_customOf 0 = .ok (.aload_n 0, 1) := by decide +kernel
theorem dX1_customOf_1 : decode cX1_customOf 1 = .ok (.iload_n 1, 1) := by decide +kernel
theorem dX1_customOf_2 : decode cX1_customOf 2 = .ok (.iload_n 2, 1) := by decide +kernel
theorem dX1_customOf_3 : decode cX1_customOf 3 = .ok (.invokevirtual 55, 3) := by decide +kernel
theorem dX1_customOf_6 : decode cX1_customOf 6 = .ok (.istore 4, 2) := by decide +kernel
theorem dX1_customOf_8 : decode cX1_customOf 8 = .ok (.iconst 1, 1) := by decide +kernel
theorem dX1_customOf_9 : decode cX1_customOf 9 = .ok (.istore 5, 2) := by decide +kernel
theorem dX1_customOf_11 : decode cX1_customOf 11 = .ok (.iload 5, 2) := by decide +kernel
theorem dX1_customOf_13 : decode cX1_customOf 13 = .ok (.iconst 5, 1) := by decide +kernel
theorem dX1_customOf_14 : decode cX1_customOf 14 = .ok (.if_icmp .gt 28, 3) := by decide +kernel
theorem dX1_customOf_17 : decode cX1_customOf 17 = .ok (.aload_n 0, 1) := by decide +kernel
theorem dX1_customOf_18 : decode cX1_customOf 18 = .ok (.getfield 38, 3) := by decide +kernel
theorem dX1_customOf_21 : decode cX1_customOf 21 = .ok (.iload 5, 2) := by decide +kernel
theorem dX1_customOf_23 : decode cX1_customOf 23 = .ok (.iaload, 1) := by decide +kernel
theorem dX1_customOf_24 : decode cX1_customOf 24 = .ok (.iload 4, 2) := by decide +kernel
theorem dX1_customOf_26 : decode cX1_customOf 26 = .ok (.aload_n 3, 1) := by decide +kernel
theorem dX1_customOf_27 : decode cX1_customOf 27 = .ok (.invokestatic 58, 3) := by decide +kernel
theorem dX1_customOf_30 : decode cX1_customOf 30 = .ok (.ifCond .eq 6, 3) := by decide +kernel
theorem dX1_customOf_33 : decode cX1_customOf 33 = .ok (.iload 5, 2) := by decide +kernel
theorem dX1_customOf_35 : decode cX1_customOf 35 = .ok (.ireturn, 1) := by decide +kernel
theorem dX1_customOf_36 : decode cX1_customOf 36 = .ok (.iinc 5 1, 3) := by decide +kernel
theorem dX1_customOf_39 : decode cX1_customOf 39 = .ok (.goto (-28), 3) := by decide +kernel
theorem dX1_customOf_42 : decode cX1_customOf 42 = .ok (.iconst 0, 1) := by decide +kernel
theorem dX1_customOf_43 : decode cX1_customOf 43 = .ok (.ireturn, 1) := by decide +kernel
theorem dX1_lacking_0 : decode cX1_lacking 0 = .ok (.aload_n 0, 1) := by decide +kernel
theorem dX1_lacking_1 : decode cX1_lacking 1 = .ok (.iload_n 1, 1) := by decide +kernel
theorem dX1_lacking_2 : decode cX1_lacking 2 = .ok (.iload_n 2, 1) := by decide +kernel
theorem dX1_lacking_3 : decode cX1_lacking 3 = .ok (.invokevirtual 55, 3) := by decide +kernel
theorem dX1_lacking_6 : decode cX1_lacking 6 = .ok (.istore 5, 2) := by decide +kernel
theorem dX1_lacking_8 : decode cX1_lacking 8 = .ok (.iconst 0, 1) := by decide +kernel
theorem dX1_lacking_9 : decode cX1_lacking 9 = .ok (.istore 6, 2) := by decide +kernel
theorem dX1_lacking_11 : decode cX1_lacking 11 = .ok (.iload 6, 2) := by decide +kernel
theorem dX1_lacking_13 : decode cX1_lacking 13 = .ok (.bipush 99, 2) := by decide +kernel
theorem dX1_lacking_15 : decode cX1_lacking 15 = .ok (.if_icmp .gt 34, 3) := by decide +kernel
theorem dX1_lacking_18 : decode cX1_lacking 18 = .ok (.aload_n 0, 1) := by decide +kernel
theorem dX1_lacking_19 : decode cX1_lacking 19 = .ok (.getfield 38, 3) := by decide +kernel
theorem dX1_lacking_22 : decode cX1_lacking 22 = .ok (.iload_n 3, 1) := by decide +kernel
theorem dX1_lacking_23 : decode cX1_lacking 23 = .ok (.iaload, 1) := by decide +kernel
theorem dX1_lacking_24 : decode cX1_lacking 24 = .ok (.iload 6, 2) := by decide +kernel
theorem dX1_lacking_26 : decode cX1_lacking 26 = .ok (.iadd, 1) := by decide +kernel
theorem dX1_lacking_27 : decode cX1_lacking 27 = .ok (.iload 5, 2) := by decide +kernel
theorem dX1_lacking_29 : decode cX1_lacking 29 = .ok (.iload 6, 2) := by decide +kernel
theorem dX1_lacking_31 : decode cX1_lacking 31 = .ok (.iadd, 1) := by decide +kernel
theorem dX1_lacking_32 : decode cX1_lacking 32 = .ok (.aload 4, 2) := by decide +kernel
theorem dX1_lacking_34 : decode cX1_lacking 34 = .ok (.invokestatic 58, 3) := by decide +kernel
theorem dX1_lacking_37 : decode cX1_lacking 37 = .ok (.ifCond .eq 6, 3) := by decide +kernel
theorem dX1_lacking_40 : decode cX1_lacking 40 = .ok (.iload 6, 2) := by decide +kernel
theorem dX1_lacking_42 : decode cX1_lacking 42 = .ok (.ireturn, 1) := by decide +kernel
theorem dX1_lacking_43 : decode cX1_lacking 43 = .ok (.iinc 6 1, 3) := by decide +kernel
theorem dX1_lacking_46 : decode cX1_lacking 46 = .ok (.goto (-35), 3) := by decide +kernel
theorem dX1_lacking_49 : decode cX1_lacking 49 = .ok (.bipush (-9), 2) := by decide +kernel
theorem dX1_lacking_51 : decode cX1_lacking 51 = .ok (.ireturn, 1) := by decide +kernel
theorem dX1_isCustom_0 : decode cX1_isCustom 0 = .ok (.iload_n 1, 1) := by decide +kernel
theorem dX1_isCustom_1 : decode cX1_isCustom 1 = .ok (.aload_n 2, 1) := by decide +kernel
theorem dX1_isCustom_2 : decode cX1_isCustom 2 = .ok (.iconst 1, 1) := by decide +kernel
theorem dX1_isCustom_3 : decode cX1_isCustom 3 = .ok (.iaload, 1) := by decide +kernel
theorem dX1_isCustom_4 : decode cX1_isCustom 4 = .ok (.if_icmp .lt 19, 3) := by decide +kernel
theorem dX1_isCustom_7 : decode cX1_isCustom 7 = .ok (.iload_n 0, 1) := by decide +kernel
theorem dX1_isCustom_8 : decode cX1_isCustom 8 = .ok (.bipush 100, 2) := by decide +kernel
theorem dX1_isCustom_10 : decode cX1_isCustom 10 = .ok (.imul, 1) := by decide +kernel
theorem dX1_isCustom_11 : decode cX1_isCustom 11 = .ok (.aload_n 2, 1) := by decide +kernel
theorem dX1_isCustom_12 : decode cX1_isCustom 12 = .ok (.iconst 2, 1) := by decide +kernel
theorem dX1_isCustom_13 : decode cX1_isCustom 13 = .ok (.iaload, 1) := by decide +kernel
theorem dX1_isCustom_14 : decode cX1_isCustom 14 = .ok (.iload_n 1, 1) := by decide +kernel
theorem dX1_isCustom_15 : decode cX1_isCustom 15 = .ok (.imul, 1) := by decide +kernel
theorem dX1_isCustom_16 : decode cX1_isCustom 16 = .ok (.if_icmp .lt 7, 3) := by decide +kernel
theorem dX1_isCustom_19 : decode cX1_isCustom 19 = .ok (.iconst 1, 1) := by decide +kernel
theorem dX1_isCustom_20 : decode cX1_isCustom 20 = .ok (.goto 4, 3) := by decide +kernel
theorem dX1_isCustom_23 : decode cX1_isCustom 23 = .ok (.iconst 0, 1) := by decide +kernel
theorem dX1_isCustom_24 : decode cX1_isCustom 24 = .ok (.ireturn, 1) := by decide +kernel
theorem dX1_tallyUp_0 : decode cX1_tallyUp 0 = .ok (.iconst 0, 1) := by decide +kernel
theorem dX1_tallyUp_1 : decode cX1_tallyUp 1 = .ok (.istore_n 3, 1) := by decide +kernel
theorem dX1_tallyUp_2 : decode cX1_tallyUp 2 = .ok (.iload_n 3, 1) := by decide +kernel
theorem dX1_tallyUp_3 : decode cX1_tallyUp 3 = .ok (.iconst 5, 1) := by decide +kernel
theorem dX1_tallyUp_4 : decode cX1_tallyUp 4 = .ok (.if_icmp .gt 16, 3) := by decide +kernel
theorem dX1_tallyUp_7 : decode cX1_tallyUp 7 = .ok (.aload_n 0, 1) := by decide +kernel
theorem dX1_tallyUp_8 : decode cX1_tallyUp 8 = .ok (.getfield 38, 3) := by decide +kernel
theorem dX1_tallyUp_11 : decode cX1_tallyUp 11 = .ok (.iload_n 3, 1) := by decide +kernel
theorem dX1_tallyUp_12 : decode cX1_tallyUp 12 = .ok (.iconst 0, 1) := by decide +kernel
theorem dX1_tallyUp_13 : decode cX1_tallyUp 13 = .ok (.iastore, 1) := by decide +kernel
theorem dX1_tallyUp_14 : decode cX1_tallyUp 14 = .ok (.iinc 3 1, 3) := by decide +kernel
theorem dX1_tallyUp_17 : decode cX1_tallyUp 17 = .ok (.goto (-15), 3) := by decide +kernel
theorem dX1_tallyUp_20 : decode cX1_tallyUp 20 = .ok (.iconst 0, 1) := by decide +kernel
theorem dX1_tallyUp_21 : decode cX1_tallyUp 21 = .ok (.istore_n 3, 1) := by decide +kernel
theorem dX1_tallyUp_22 : decode cX1_tallyUp 22 = .ok (.iconst 0, 1) := by decide +kernel
theorem dX1_tallyUp_23 : decode cX1_tallyUp 23 = .ok (.istore 4, 2) := by decide +kernel
theorem dX1_tallyUp_25 : decode cX1_tallyUp 25 = .ok (.iload 4, 2) := by decide +kernel
theorem dX1_tallyUp_27 : decode cX1_tallyUp 27 = .ok (.aload_n 0, 1) := by decide +kernel
theorem dX1_tallyUp_28 : decode cX1_tallyUp 28 = .ok (.getfield 31, 3) := by decide +kernel
theorem dX1_tallyUp_31 : decode cX1_tallyUp 31 = .ok (.if_icmp .ge 64, 3) := by decide +kernel
theorem dX1_tallyUp_34 : decode cX1_tallyUp 34 = .ok (.aload_n 0, 1) := by decide +kernel
theorem dX1_tallyUp_35 : decode cX1_tallyUp 35 = .ok (.getfield 18, 3) := by decide +kernel
theorem dX1_tallyUp_38 : decode cX1_tallyUp 38 = .ok (.iload 4, 2) := by decide +kernel
theorem dX1_tallyUp_40 : decode cX1_tallyUp 40 = .ok (.iaload, 1) := by decide +kernel
theorem dX1_tallyUp_41 : decode cX1_tallyUp 41 = .ok (.iload_n 1, 1) := by decide +kernel
theorem dX1_tallyUp_42 : decode cX1_tallyUp 42 = .ok (.if_icmp .ne 47, 3) := by decide +kernel
theorem dX1_tallyUp_45 : decode cX1_tallyUp 45 = .ok (.aload_n 0, 1) := by decide +kernel
theorem dX1_tallyUp_46 : decode cX1_tallyUp 46 = .ok (.getfield 21, 3) := by decide +kernel
theorem dX1_tallyUp_49 : decode cX1_tallyUp 49 = .ok (.iload 4, 2) := by decide +kernel
theorem dX1_tallyUp_51 : decode cX1_tallyUp 51 = .ok (.iaload, 1) := by decide +kernel
theorem dX1_tallyUp_52 : decode cX1_tallyUp 52 = .ok (.iload_n 2, 1) := by decide +kernel
theorem dX1_tallyUp_53 : decode cX1_tallyUp 53 = .ok (.if_icmp .ne 36, 3) := by decide +kernel
theorem dX1_tallyUp_56 : decode cX1_tallyUp 56 = .ok (.iinc 3 1, 3) := by decide +kernel
theorem dX1_tallyUp_59 : decode cX1_tallyUp 59 = .ok (.aload_n 0, 1) := by decide +kernel
theorem dX1_tallyUp_60 : decode cX1_tallyUp 60 = .ok (.getfield 38, 3) := by decide +kernel
theorem dX1_tallyUp_63 : decode cX1_tallyUp 63 = .ok (.aload_n 0, 1) := by decide +kernel
theorem dX1_tallyUp_64 : decode cX1_tallyUp 64 = .ok (.getfield 24, 3) := by decide +kernel
theorem dX1_tallyUp_67 : decode cX1_tallyUp 67 = .ok (.iload 4, 2) := by decide +kernel
theorem dX1_tallyUp_69 : decode cX1_tallyUp 69 = .ok (.iaload, 1) := by decide +kernel
theorem dX1_tallyUp_70 : decode cX1_tallyUp 70 = .ok (.dup2, 1) := by decide +kernel
theorem dX1_tallyUp_71 : decode cX1_tallyUp 71 = .ok (.iaload, 1) := by decide +kernel
theorem dX1_tallyUp_72 : decode cX1_tallyUp 72 = .ok (.aload_n 0, 1) := by decide +kernel
theorem dX1_tallyUp_73 : decode cX1_tallyUp 73 = .ok (.getfield 27, 3) := by decide +kernel
theorem dX1_tallyUp_76 : decode cX1_tallyUp 76 = .ok (.iload 4, 2) := by decide +kernel
theorem dX1_tallyUp_78 : decode cX1_tallyUp 78 = .ok (.baload, 1) := by decide +kernel
theorem dX1_tallyUp_79 : decode cX1_tallyUp 79 = .ok (.ifCond .eq 7, 3) := by decide +kernel
theorem dX1_tallyUp_82 : decode cX1_tallyUp 82 = .ok (.iconst 0, 1) := by decide +kernel
theorem dX1_tallyUp_83 : decode cX1_tallyUp 83 = .ok (.goto 4, 3) := by decide +kernel
theorem dX1_tallyUp_86 : decode cX1_tallyUp 86 = .ok (.iconst 1, 1) := by decide +kernel
theorem dX1_tallyUp_87 : decode cX1_tallyUp 87 = .ok (.iadd, 1) := by decide +kernel
theorem dX1_tallyUp_88 : decode cX1_tallyUp 88 = .ok (.iastore, 1) := by decide +kernel
theorem dX1_tallyUp_89 : decode cX1_tallyUp 89 = .ok (.iinc 4 1, 3) := by decide +kernel
theorem dX1_tallyUp_92 : decode cX1_tallyUp 92 = .ok (.goto (-67), 3) := by decide +kernel
theorem dX1_tallyUp_95 : decode cX1_tallyUp 95 = .ok (.iload_n 3, 1) := by decide +kernel
theorem dX1_tallyUp_96 : decode cX1_tallyUp 96 = .ok (.ireturn, 1) := by decide +kernel
theorem dX2_init_0 : decode cX2_init 0 = .ok (.aload_n 0, 1) := by decide +kernel
theorem dX2_init_1 : decode cX2_init 1 = .ok (.invokespecial 3, 3) := by decide +kernel
theorem dX2_init_4 : decode cX2_init 4 = .ok (.aload_n 0, 1) := by decide +kernel
theorem dX2_init_5 : decode cX2_init 5 = .ok (.iconst 0, 1) := by decide +kernel
theorem dX2_init_6 : decode cX2_init 6 = .ok (.putfield 9, 3) := by decide +kernel
theorem dX2_init_9 : decode cX2_init 9 = .ok (.aload_n 0, 1) := by decide +kernel
theorem dX2_init_10 : decode cX2_init 10 = .ok (.bipush 16, 2) := by decide +kernel
theorem dX2_init_12 : decode cX2_init 12 = .ok (.newarray .int, 2) := by decide +kernel
theorem dX2_init_14 : decode cX2_init 14 = .ok (.putfield 15, 3) := by decide +kernel
theorem dX2_init_17 : decode cX2_init 17 = .ok (.aload_n 0, 1) := by decide +kernel
theorem dX2_init_18 : decode cX2_init 18 = .ok (.bipush 16, 2) := by decide +kernel
theorem dX2_init_20 : decode cX2_init 20 = .ok (.newarray .int, 2) := by decide +kernel
theorem dX2_init_22 : decode cX2_init 22 = .ok (.putfield 19, 3) := by decide +kernel
theorem dX2_init_25 : decode cX2_init 25 = .ok (.aload_n 0, 1) := by decide +kernel
theorem dX2_init_26 : decode cX2_init 26 = .ok (.bipush 16, 2) := by decide +kernel
theorem dX2_init_28 : decode cX2_init 28 = .ok (.newarray .int, 2) := by decide +kernel
theorem dX2_init_30 : decode cX2_init 30 = .ok (.putfield 22, 3) := by decide +kernel
theorem dX2_init_33 : decode cX2_init 33 = .ok (.aload_n 0, 1) := by decide +kernel
theorem dX2_init_34 : decode cX2_init 34 = .ok (.bipush 16, 2) := by decide +kernel
theorem dX2_init_36 : decode cX2_init 36 = .ok (.newarray .int, 2) := by decide +kernel
theorem dX2_init_38 : decode cX2_init 38 = .ok (.putfield 25, 3) := by decide +kernel
theorem dX2_init_41 : decode cX2_init 41 = .ok (.return_, 1) := by decide +kernel
theorem dX2_clear_0 : decode cX2_clear 0 = .ok (.aload_n 0, 1) := by decide +kernel
theorem dX2_clear_1 : decode cX2_clear 1 = .ok (.iconst 0, 1) := by decide +kernel
theorem dX2_clear_2 : decode cX2_clear 2 = .ok (.putfield 9, 3) := by decide +kernel
theorem dX2_clear_5 : decode cX2_clear 5 = .ok (.return_, 1) := by decide +kernel
theorem dX2_add_0 : decode cX2_add 0 = .ok (.aload_n 0, 1) := by decide +kernel
theorem dX2_add_1 : decode cX2_add 1 = .ok (.getfield 9, 3) := by decide +kernel
theorem dX2_add_4 : decode cX2_add 4 = .ok (.bipush 16, 2) := by decide +kernel
theorem dX2_add_6 : decode cX2_add 6 = .ok (.if_icmp .lt 4, 3) := by decide +kernel
theorem dX2_add_9 : decode cX2_add 9 = .ok (.return_, 1) := by decide +kernel
theorem dX2_add_10 : decode cX2_add 10 = .ok (.aload_n 0, 1) := by decide +kernel
theorem dX2_add_11 : decode cX2_add 11 = .ok (.getfield 15, 3) := by decide +kernel
theorem dX2_add_14 : decode cX2_add 14 = .ok (.aload_n 0, 1) := by decide +kernel
theorem dX2_add_15 : decode cX2_add 15 = .ok (.getfield 9, 3) := by decide +kernel
theorem dX2_add_18 : decode cX2_add 18 = .ok (.iload_n 1, 1) := by decide +kernel
theorem dX2_add_19 : decode cX2_add 19 = .ok (.iastore, 1) := by decide +kernel
theorem dX2_add_20 : decode cX2_add 20 = .ok (.aload_n 0, 1) := by decide +kernel
theorem dX2_add_21 : decode cX2_add 21 = .ok (.getfield 19, 3) := by decide +kernel
theorem dX2_add_24 : decode cX2_add 24 = .ok (.aload_n 0, 1) := by decide +kernel
theorem dX2_add_25 : decode cX2_add 25 = .ok (.getfield 9, 3) := by decide +kernel
theorem dX2_add_28 : decode cX2_add 28 = .ok (.iload_n 2, 1) := by decide +kernel
theorem dX2_add_29 : decode cX2_add 29 = .ok (.iastore, 1) := by decide +kernel
theorem dX2_add_30 : decode cX2_add 30 = .ok (.aload_n 0, 1) := by decide +kernel
theorem dX2_add_31 : decode cX2_add 31 = .ok (.getfield 22, 3) := by decide +kernel
theorem dX2_add_34 : decode cX2_add 34 = .ok (.aload_n 0, 1) := by decide +kernel
theorem dX2_add_35 : decode cX2_add 35 = .ok (.getfield 9, 3) := by decide +kernel
theorem dX2_add_38 : decode cX2_add 38 = .ok (.iload_n 3, 1) := by decide +kernel
theorem dX2_add_39 : decode cX2_add 39 = .ok (.iastore, 1) := by decide +kernel
theorem dX2_add_40 : decode cX2_add 40 = .ok (.aload_n 0, 1) := by decide +kernel
theorem dX2_add_41 : decode cX2_add 41 = .ok (.getfield 25, 3) := by decide +kernel
theorem dX2_add_44 : decode cX2_add 44 = .ok (.aload_n 0, 1) := by decide +kernel
theorem dX2_add_45 : decode cX2_add 45 = .ok (.getfield 9, 3) := by decide +kernel
theorem dX2_add_48 : decode cX2_add 48 = .ok (.iload 4, 2) := by decide +kernel
theorem dX2_add_50 : decode cX2_add 50 = .ok (.iastore, 1) := by decide +kernel
theorem dX2_add_51 : decode cX2_add 51 = .ok (.aload_n 0, 1) := by decide +kernel
theorem dX2_add_52 : decode cX2_add 52 = .ok (.dup, 1) := by decide +kernel
theorem dX2_add_53 : decode cX2_add 53 = .ok (.getfield 9, 3) := by decide +kernel
theorem dX2_add_56 : decode cX2_add 56 = .ok (.iconst 1, 1) := by decide +kernel
theorem dX2_add_57 : decode cX2_add 57 = .ok (.iadd, 1) := by decide +kernel
theorem dX2_add_58 : decode cX2_add 58 = .ok (.putfield 9, 3) := by decide +kernel
theorem dX2_add_61 : decode cX2_add 61 = .ok (.return_, 1) := by decide +kernel
theorem dX2_first_0 : decode cX2_first 0 = .ok (.iconst 0, 1) := by decide +kernel
theorem dX2_first_1 : decode cX2_first 1 = .ok (.istore_n 2, 1) := by decide +kernel
theorem dX2_first_2 : decode cX2_first 2 = .ok (.iload_n 2, 1) := by decide +kernel
theorem dX2_first_3 : decode cX2_first 3 = .ok (.aload_n 0, 1) := by decide +kernel
theorem dX2_first_4 : decode cX2_first 4 = .ok (.getfield 9, 3) := by decide +kernel
theorem dX2_first_7 : decode cX2_first 7 = .ok (.if_icmp .ge 37, 3) := by decide +kernel
theorem dX2_first_10 : decode cX2_first 10 = .ok (.aload_n 0, 1) := by decide +kernel
theorem dX2_first_11 : decode cX2_first 11 = .ok (.getfield 22, 3) := by decide +kernel
theorem dX2_first_14 : decode cX2_first 14 = .ok (.iload_n 2, 1) := by decide +kernel
theorem dX2_first_15 : decode cX2_first 15 = .ok (.iaload, 1) := by decide +kernel
theorem dX2_first_16 : decode cX2_first 16 = .ok (.istore_n 3, 1) := by decide +kernel
theorem dX2_first_17 : decode cX2_first 17 = .ok (.iload_n 3, 1) := by decide +kernel
theorem dX2_first_18 : decode cX2_first 18 = .ok (.invokestatic 28, 3) := by decide +kernel
theorem dX2_first_21 : decode cX2_first 21 = .ok (.ifCond .eq 15, 3) := by decide +kernel
theorem dX2_first_24 : decode cX2_first 24 = .ok (.aload_n 1, 1) := by decide +kernel
theorem dX2_first_25 : decode cX2_first 25 = .ok (.iload_n 3, 1) := by decide +kernel
theorem dX2_first_26 : decode cX2_first 26 = .ok (.iaload, 1) := by decide +kernel
theorem dX2_first_27 : decode cX2_first 27 = .ok (.aload_n 0, 1) := by decide +kernel
theorem dX2_first_28 : decode cX2_first 28 = .ok (.getfield 25, 3) := by decide +kernel
theorem dX2_first_31 : decode cX2_first 31 = .ok (.iload_n 2, 1) := by decide +kernel
theorem dX2_first_32 : decode cX2_first 32 = .ok (.iaload, 1) := by decide +kernel
theorem dX2_first_33 : decode cX2_first 33 = .ok (.if_icmp .ne 5, 3) := by decide +kernel
theorem dX2_first_36 : decode cX2_first 36 = .ok (.iload_n 2, 1) := by decide +kernel
theorem dX2_first_37 : decode cX2_first 37 = .ok (.ireturn, 1) := by decide +kernel
theorem dX2_first_38 : decode cX2_first 38 = .ok (.iinc 2 1, 3) := by decide +kernel
theorem dX2_first_41 : decode cX2_first 41 = .ok (.goto (-39), 3) := by decide +kernel
theorem dX2_first_44 : decode cX2_first 44 = .ok (.bipush (-9), 2) := by decide +kernel
theorem dX2_first_46 : decode cX2_first 46 = .ok (.ireturn, 1) := by decide +kernel
theorem dX2_valueOf_0 : decode cX2_valueOf 0 = .ok (.iload_n 1, 1) := by decide +kernel
theorem dX2_valueOf_1 : decode cX2_valueOf 1 = .ok (.ifCond .lt 20, 3) := by decide +kernel
theorem dX2_valueOf_4 : decode cX2_valueOf 4 = .ok (.iload_n 1, 1) := by decide +kernel
theorem dX2_valueOf_5 : decode cX2_valueOf 5 = .ok (.aload_n 0, 1) := by decide +kernel
theorem dX2_valueOf_6 : decode cX2_valueOf 6 = .ok (.getfield 9, 3) := by decide +kernel
theorem dX2_valueOf_9 : decode cX2_valueOf 9 = .ok (.if_icmp .ge 12, 3) := by decide +kernel
theorem dX2_valueOf_12 : decode cX2_valueOf 12 = .ok (.aload_n 0, 1) := by decide +kernel
theorem dX2_valueOf_13 : decode cX2_valueOf 13 = .ok (.getfield 15, 3) := by decide +kernel
theorem dX2_valueOf_16 : decode cX2_valueOf 16 = .ok (.iload_n 1, 1) := by decide +kernel
theorem dX2_valueOf_17 : decode cX2_valueOf 17 = .ok (.iaload, 1) := by decide +kernel
theorem dX2_valueOf_18 : decode cX2_valueOf 18 = .ok (.goto 4, 3) := by decide +kernel
theorem dX2_valueOf_21 : decode cX2_valueOf 21 = .ok (.iconst 0, 1) := by decide +kernel
theorem dX2_valueOf_22 : decode cX2_valueOf 22 = .ok (.ireturn, 1) := by decide +kernel
theorem dX2_reasonOf_0 : decode cX2_reasonOf 0 = .ok (.iload_n 1, 1) := by decide +kernel
theorem dX2_reasonOf_1 : decode cX2_reasonOf 1 = .ok (.ifCond .lt 20, 3) := by decide +kernel
theorem dX2_reasonOf_4 : decode cX2_reasonOf 4 = .ok (.iload_n 1, 1) := by decide +kernel
theorem dX2_reasonOf_5 : decode cX2_reasonOf 5 = .ok (.aload_n 0, 1) := by decide +kernel
theorem dX2_reasonOf_6 : decode cX2_reasonOf 6 = .ok (.getfield 9, 3) := by decide +kernel
theorem dX2_reasonOf_9 : decode cX2_reasonOf 9 = .ok (.if_icmp .ge 12, 3) := by decide +kernel
theorem dX2_reasonOf_12 : decode cX2_reasonOf 12 = .ok (.aload_n 0, 1) := by decide +kernel
theorem dX2_reasonOf_13 : decode cX2_reasonOf 13 = .ok (.getfield 19, 3) := by decide +kernel
theorem dX2_reasonOf_16 : decode cX2_reasonOf 16 = .ok (.iload_n 1, 1) := by decide +kernel
theorem dX2_reasonOf_17 : decode cX2_reasonOf 17 = .ok (.iaload, 1) := by decide +kernel
theorem dX2_reasonOf_18 : decode cX2_reasonOf 18 = .ok (.goto 4, 3) := by decide +kernel
theorem dX2_reasonOf_21 : decode cX2_reasonOf 21 = .ok (.iconst 0, 1) := by decide +kernel
theorem dX2_reasonOf_22 : decode cX2_reasonOf 22 = .ok (.ireturn, 1) := by decide +kernel
theorem dX3_init_0 : decode cX3_init 0 = .ok (.aload_n 0, 1) := by decide +kernel
theorem dX3_init_1 : decode cX3_init 1 = .ok (.invokespecial 3, 3) := by decide +kernel
theorem dX3_init_4 : decode cX3_init 4 = .ok (.aload_n 0, 1) := by decide +kernel
theorem dX3_init_5 : decode cX3_init 5 = .ok (.bipush 6, 2) := by decide +kernel
theorem dX3_init_7 : decode cX3_init 7 = .ok (.newarray .int, 2) := by decide +kernel
theorem dX3_init_9 : decode cX3_init 9 = .ok (.putfield 9, 3) := by decide +kernel
theorem dX3_init_12 : decode cX3_init 12 = .ok (.aload_n 0, 1) := by decide +kernel
theorem dX3_init_13 : decode cX3_init 13 = .ok (.iconst 0, 1) := by decide +kernel
theorem dX3_init_14 : decode cX3_init 14 = .ok (.putfield 15, 3) := by decide +kernel
theorem dX3_init_17 : decode cX3_init 17 = .ok (.aload_n 0, 1) := by decide +kernel
theorem dX3_init_18 : decode cX3_init 18 = .ok (.bipush 6, 2) := by decide +kernel
theorem dX3_init_20 : decode cX3_init 20 = .ok (.newarray .int, 2) := by decide +kernel
theorem dX3_init_22 : decode cX3_init 22 = .ok (.putfield 19, 3) := by decide +kernel
theorem dX3_init_25 : decode cX3_init 25 = .ok (.aload_n 0, 1) := by decide +kernel
theorem dX3_init_26 : decode cX3_init 26 = .ok (.bipush 6, 2) := by decide +kernel
theorem dX3_init_28 : decode cX3_init 28 = .ok (.newarray .int, 2) := by decide +kernel
theorem dX3_init_30 : decode cX3_init 30 = .ok (.putfield 22, 3) := by decide +kernel
theorem dX3_init_33 : decode cX3_init 33 = .ok (.iconst 0, 1) := by decide +kernel
theorem dX3_init_34 : decode cX3_init 34 = .ok (.istore_n 1, 1) := by decide +kernel
theorem dX3_init_35 : decode cX3_init 35 = .ok (.iload_n 1, 1) := by decide +kernel
theorem dX3_init_36 : decode cX3_init 36 = .ok (.bipush 6, 2) := by decide +kernel
theorem dX3_init_38 : decode cX3_init 38 = .ok (.if_icmp .ge 17, 3) := by decide +kernel
theorem dX3_init_41 : decode cX3_init 41 = .ok (.aload_n 0, 1) := by decide +kernel
theorem dX3_init_42 : decode cX3_init 42 = .ok (.getfield 19, 3) := by decide +kernel
theorem dX3_init_45 : decode cX3_init 45 = .ok (.iload_n 1, 1) := by decide +kernel
theorem dX3_init_46 : decode cX3_init 46 = .ok (.bipush (-9), 2) := by decide +kernel
theorem dX3_init_48 : decode cX3_init 48 = .ok (.iastore, 1) := by decide +kernel
theorem dX3_init_49 : decode cX3_init 49 = .ok (.iinc 1 1, 3) := by decide +kernel
theorem dX3_init_52 : decode cX3_init 52 = .ok (.goto (-17), 3) := by decide +kernel
theorem dX3_init_55 : decode cX3_init 55 = .ok (.return_, 1) := by decide +kernel
theorem dX3_isAsked_0 : decode cX3_isAsked 0 = .ok (.aload_n 0, 1) := by decide +kernel
theorem dX3_isAsked_1 : decode cX3_isAsked 1 = .ok (.getfield 19, 3) := by decide +kernel
theorem dX3_isAsked_4 : decode cX3_isAsked 4 = .ok (.iload_n 1, 1) := by decide +kernel
theorem dX3_isAsked_5 : decode cX3_isAsked 5 = .ok (.iaload, 1) := by decide +kernel
theorem dX3_isAsked_6 : decode cX3_isAsked 6 = .ok (.istore_n 3, 1) := by decide +kernel
theorem dX3_isAsked_7 : decode cX3_isAsked 7 = .ok (.aload_n 0, 1) := by decide +kernel
theorem dX3_isAsked_8 : decode cX3_isAsked 8 = .ok (.getfield 9, 3) := by decide +kernel
theorem dX3_isAsked_11 : decode cX3_isAsked 11 = .ok (.iload_n 1, 1) := by decide +kernel
theorem dX3_isAsked_12 : decode cX3_isAsked 12 = .ok (.iaload, 1) := by decide +kernel
theorem dX3_isAsked_13 : decode cX3_isAsked 13 = .ok (.ifCond .le 26, 3) := by decide +kernel
theorem dX3_isAsked_16 : decode cX3_isAsked 16 = .ok (.iload_n 3, 1) := by decide +kernel
theorem dX3_isAsked_17 : decode cX3_isAsked 17 = .ok (.invokestatic 25, 3) := by decide +kernel
theorem dX3_isAsked_20 : decode cX3_isAsked 20 = .ok (.ifCond .eq 15, 3) := by decide +kernel
theorem dX3_isAsked_23 : decode cX3_isAsked 23 = .ok (.aload_n 2, 1) := by decide +kernel
theorem dX3_isAsked_24 : decode cX3_isAsked 24 = .ok (.iload_n 3, 1) := by decide +kernel
theorem dX3_isAsked_25 : decode cX3_isAsked 25 = .ok (.iaload, 1) := by decide +kernel
theorem dX3_isAsked_26 : decode cX3_isAsked 26 = .ok (.aload_n 0, 1) := by decide +kernel
theorem dX3_isAsked_27 : decode cX3_isAsked 27 = .ok (.getfield 22, 3) := by decide +kernel
theorem dX3_isAsked_30 : decode cX3_isAsked 30 = .ok (.iload_n 1, 1) := by decide +kernel
theorem dX3_isAsked_31 : decode cX3_isAsked 31 = .ok (.iaload, 1) := by decide +kernel
theorem dX3_isAsked_32 : decode cX3_isAsked 32 = .ok (.if_icmp .ne 7, 3) := by decide +kernel
theorem dX3_isAsked_35 : decode cX3_isAsked 35 = .ok (.iconst 1, 1) := by decide +kernel
theorem dX3_isAsked_36 : decode cX3_isAsked 36 = .ok (.goto 4, 3) := by decide +kernel
theorem dX3_isAsked_39 : decode cX3_isAsked 39 = .ok (.iconst 0, 1) := by decide +kernel
theorem dX3_isAsked_40 : decode cX3_isAsked 40 = .ok (.ireturn, 1) := by decide +kernel
theorem dX3_present_0 : decode cX3_present 0 = .ok (.iconst 0, 1) := by decide +kernel
theorem dX3_present_1 : decode cX3_present 1 = .ok (.istore_n 1, 1) := by decide +kernel
theorem dX3_present_2 : decode cX3_present 2 = .ok (.aload_n 0, 1) := by decide +kernel
theorem dX3_present_3 : decode cX3_present 3 = .ok (.getfield 9, 3) := by decide +kernel
theorem dX3_present_6 : decode cX3_present 6 = .ok (.astore_n 2, 1) := by decide +kernel
theorem dX3_present_7 : decode cX3_present 7 = .ok (.aload_n 2, 1) := by decide +kernel
theorem dX3_present_8 : decode cX3_present 8 = .ok (.arraylength, 1) := by decide +kernel
theorem dX3_present_9 : decode cX3_present 9 = .ok (.istore_n 3, 1) := by decide +kernel
theorem dX3_present_10 : decode cX3_present 10 = .ok (.iconst 0, 1) := by decide +kernel
theorem dX3_present_11 : decode cX3_present 11 = .ok (.istore 4, 2) := by decide +kernel
theorem dX3_present_13 : decode cX3_present 13 = .ok (.iload 4, 2) := by decide +kernel
theorem dX3_present_15 : decode cX3_present 15 = .ok (.iload_n 3, 1) := by decide +kernel
theorem dX3_present_16 : decode cX3_present 16 = .ok (.if_icmp .ge 28, 3) := by decide +kernel
theorem dX3_present_19 : decode cX3_present 19 = .ok (.aload_n 2, 1) := by decide +kernel
theorem dX3_present_20 : decode cX3_present 20 = .ok (.iload 4, 2) := by decide +kernel
theorem dX3_present_22 : decode cX3_present 22 = .ok (.iaload, 1) := by decide +kernel
theorem dX3_present_23 : decode cX3_present 23 = .ok (.istore 5, 2) := by decide +kernel
theorem dX3_present_25 : decode cX3_present 25 = .ok (.iload_n 1, 1) := by decide +kernel
theorem dX3_present_26 : decode cX3_present 26 = .ok (.iload 5, 2) := by decide +kernel
theorem dX3_present_28 : decode cX3_present 28 = .ok (.ifCond .le 7, 3) := by decide +kernel
theorem dX3_present_31 : decode cX3_present 31 = .ok (.iconst 1, 1) := by decide +kernel
theorem dX3_present_32 : decode cX3_present 32 = .ok (.goto 4, 3) := by decide +kernel
theorem dX3_present_35 : decode cX3_present 35 = .ok (.iconst 0, 1) := by decide +kernel
theorem dX3_present_36 : decode cX3_present 36 = .ok (.iadd, 1) := by decide +kernel
theorem dX3_present_37 : decode cX3_present 37 = .ok (.istore_n 1, 1) := by decide +kernel
theorem dX3_present_38 : decode cX3_present 38 = .ok (.iinc 4 1, 3) := by decide +kernel
theorem dX3_present_41 : decode cX3_present 41 = .ok (.goto (-28), 3) := by decide +kernel
theorem dX3_present_44 : decode cX3_present 44 = .ok (.iload_n 1, 1) := by decide +kernel
theorem dX3_present_45 : decode cX3_present 45 = .ok (.ireturn, 1) := by decide +kernel
theorem dX4_init_0 : decode cX4_init 0 = .ok (.aload_n 0, 1) := by decide +kernel
theorem dX4_init_1 : decode cX4_init 1 = .ok (.invokespecial 3, 3) := by decide +kernel
theorem dX4_init_4 : decode cX4_init 4 = .ok (.aload_n 0, 1) := by decide +kernel
theorem dX4_init_5 : decode cX4_init 5 = .ok (.ldc 9, 2) := by decide +kernel
theorem dX4_init_7 : decode cX4_init 7 = .ok (.invokevirtual 11, 3) := by decide +kernel
theorem dX4_init_10 : decode cX4_init 10 = .ok (.newarray .int, 2) := by decide +kernel
theorem dX4_init_12 : decode cX4_init 12 = .ok (.putfield 17, 3) := by decide +kernel
theorem dX4_init_15 : decode cX4_init 15 = .ok (.aload_n 0, 1) := by decide +kernel
theorem dX4_init_16 : decode cX4_init 16 = .ok (.iconst 0, 1) := by decide +kernel
theorem dX4_init_17 : decode cX4_init 17 = .ok (.putfield 23, 3) := by decide +kernel
theorem dX4_init_20 : decode cX4_init 20 = .ok (.iconst 0, 1) := by decide +kernel
theorem dX4_init_21 : decode cX4_init 21 = .ok (.istore_n 1, 1) := by decide +kernel
theorem dX4_init_22 : decode cX4_init 22 = .ok (.iload_n 1, 1) := by decide +kernel
theorem dX4_init_23 : decode cX4_init 23 = .ok (.aload_n 0, 1) := by decide +kernel
theorem dX4_init_24 : decode cX4_init 24 = .ok (.getfield 17, 3) := by decide +kernel
theorem dX4_init_27 : decode cX4_init 27 = .ok (.arraylength, 1) := by decide +kernel
theorem dX4_init_28 : decode cX4_init 28 = .ok (.if_icmp .ge 16, 3) := by decide +kernel
theorem dX4_init_31 : decode cX4_init 31 = .ok (.aload_n 0, 1) := by decide +kernel
theorem dX4_init_32 : decode cX4_init 32 = .ok (.getfield 17, 3) := by decide +kernel
theorem dX4_init_35 : decode cX4_init 35 = .ok (.iload_n 1, 1) := by decide +kernel
theorem dX4_init_36 : decode cX4_init 36 = .ok (.iload_n 1, 1) := by decide +kernel
theorem dX4_init_37 : decode cX4_init 37 = .ok (.iastore, 1) := by decide +kernel
theorem dX4_init_38 : decode cX4_init 38 = .ok (.iinc 1 1, 3) := by decide +kernel
theorem dX4_init_41 : decode cX4_init 41 = .ok (.goto (-19), 3) := by decide +kernel
theorem dX4_init_44 : decode cX4_init 44 = .ok (.aload_n 0, 1) := by decide +kernel
theorem dX4_init_45 : decode cX4_init 45 = .ok (.aload_n 0, 1) := by decide +kernel
theorem dX4_init_46 : decode cX4_init 46 = .ok (.getfield 17, 3) := by decide +kernel
theorem dX4_init_49 : decode cX4_init 49 = .ok (.arraylength, 1) := by decide +kernel
theorem dX4_init_50 : decode cX4_init 50 = .ok (.putfield 23, 3) := by decide +kernel
theorem dX4_init_53 : decode cX4_init 53 = .ok (.return_, 1) := by decide +kernel
theorem dX4_clear_0 : decode cX4_clear 0 = .ok (.aload_n 0, 1) := by decide +kernel
theorem dX4_clear_1 : decode cX4_clear 1 = .ok (.iconst 0, 1) := by decide +kernel
theorem dX4_clear_2 : decode cX4_clear 2 = .ok (.putfield 23, 3) := by decide +kernel
theorem dX4_clear_5 : decode cX4_clear 5 = .ok (.return_, 1) := by decide +kernel
theorem dX4_accept_0 : decode cX4_accept 0 = .ok (.ldc 9, 2) := by decide +kernel
theorem dX4_accept_2 : decode cX4_accept 2 = .ok (.iload_n 2, 1) := by decide +kernel
theorem dX4_accept_3 : decode cX4_accept 3 = .ok (.invokevirtual 27, 3) := by decide +kernel
theorem dX4_accept_6 : decode cX4_accept 6 = .ok (.istore_n 3, 1) := by decide +kernel
theorem dX4_accept_7 : decode cX4_accept 7 = .ok (.iload_n 3, 1) := by decide +kernel
theorem dX4_accept_8 : decode cX4_accept 8 = .ok (.ifCond .lt 23, 3) := by decide +kernel
theorem dX4_accept_11 : decode cX4_accept 11 = .ok (.aload_n 0, 1) := by decide +kernel
theorem dX4_accept_12 : decode cX4_accept 12 = .ok (.getfield 23, 3) := by decide +kernel
theorem dX4_accept_15 : decode cX4_accept 15 = .ok (.aload_n 0, 1) := by decide +kernel
theorem dX4_accept_16 : decode cX4_accept 16 = .ok (.getfield 17, 3) := by decide +kernel
theorem dX4_accept_19 : decode cX4_accept 19 = .ok (.arraylength, 1) := by decide +kernel
theorem dX4_accept_20 : decode cX4_accept 20 = .ok (.if_icmp .ge 11, 3) := by decide +kernel
theorem dX4_accept_23 : decode cX4_accept 23 = .ok (.aload_n 0, 1) := by decide +kernel
theorem dX4_accept_24 : decode cX4_accept 24 = .ok (.iload_n 3, 1) := by decide +kernel
theorem dX4_accept_25 : decode cX4_accept 25 = .ok (.invokevirtual 31, 3) := by decide +kernel
theorem dX4_accept_28 : decode cX4_accept 28 = .ok (.ifCond .eq 6, 3) := by decide +kernel
theorem dX4_accept_31 : decode cX4_accept 31 = .ok (.bipush (-9), 2) := by decide +kernel
theorem dX4_accept_33 : decode cX4_accept 33 = .ok (.ireturn, 1) := by decide +kernel
theorem dX4_accept_34 : decode cX4_accept 34 = .ok (.aload_n 0, 1) := by decide +kernel
theorem dX4_accept_35 : decode cX4_accept 35 = .ok (.getfield 17, 3) := by decide +kernel
theorem dX4_accept_38 : decode cX4_accept 38 = .ok (.aload_n 0, 1) := by decide +kernel
theorem dX4_accept_39 : decode cX4_accept 39 = .ok (.getfield 23, 3) := by decide +kernel
theorem dX4_accept_42 : decode cX4_accept 42 = .ok (.iload_n 3, 1) := by decide +kernel
theorem dX4_accept_43 : decode cX4_accept 43 = .ok (.iastore, 1) := by decide +kernel
theorem dX4_accept_44 : decode cX4_accept 44 = .ok (.aload_n 0, 1) := by decide +kernel
theorem dX4_accept_45 : decode cX4_accept 45 = .ok (.dup, 1) := by decide +kernel
theorem dX4_accept_46 : decode cX4_accept 46 = .ok (.getfield 23, 3) := by decide +kernel
theorem dX4_accept_49 : decode cX4_accept 49 = .ok (.iconst 1, 1) := by decide +kernel
theorem dX4_accept_50 : decode cX4_accept 50 = .ok (.iadd, 1) := by decide +kernel
theorem dX4_accept_51 : decode cX4_accept 51 = .ok (.putfield 23, 3) := by decide +kernel
theorem dX4_accept_54 : decode cX4_accept 54 = .ok (.iload_n 1, 1) := by decide +kernel
theorem dX4_accept_55 : decode cX4_accept 55 = .ok (.ireturn, 1) := by decide +kernel
theorem dX4_has_0 : decode cX4_has 0 = .ok (.iconst 0, 1) := by decide +kernel
theorem dX4_has_1 : decode cX4_has 1 = .ok (.istore_n 2, 1) := by decide +kernel
theorem dX4_has_2 : decode cX4_has 2 = .ok (.iload_n 2, 1) := by decide +kernel
theorem dX4_has_3 : decode cX4_has 3 = .ok (.aload_n 0, 1) := by decide +kernel
theorem dX4_has_4 : decode cX4_has 4 = .ok (.getfield 23, 3) := by decide +kernel
theorem dX4_has_7 : decode cX4_has 7 = .ok (.if_icmp .ge 21, 3) := by decide +kernel
theorem dX4_has_10 : decode cX4_has 10 = .ok (.aload_n 0, 1) := by decide +kernel
theorem dX4_has_11 : decode cX4_has 11 = .ok (.getfield 17, 3) := by decide +kernel
theorem dX4_has_14 : decode cX4_has 14 = .ok (.iload_n 2, 1) := by decide +kernel
theorem dX4_has_15 : decode cX4_has 15 = .ok (.iaload, 1) := by decide +kernel
theorem dX4_has_16 : decode cX4_has 16 = .ok (.iload_n 1, 1) := by decide +kernel
theorem dX4_has_17 : decode cX4_has 17 = .ok (.if_icmp .ne 5, 3) := by decide +kernel
theorem dX4_has_20 : decode cX4_has 20 = .ok (.iconst 1, 1) := by decide +kernel
theorem dX4_has_21 : decode cX4_has 21 = .ok (.ireturn, 1) := by decide +kernel
theorem dX4_has_22 : decode cX4_has 22 = .ok (.iinc 2 1, 3) := by decide +kernel
theorem dX4_has_25 : decode cX4_has 25 = .ok (.goto (-23), 3) := by decide +kernel
theorem dX4_has_28 : decode cX4_has 28 = .ok (.iconst 0, 1) := by decide +kernel
theorem dX4_has_29 : decode cX4_has 29 = .ok (.ireturn, 1) := by decide +kernel
theorem dX4_isWhole_0 : decode cX4_isWhole 0 = .ok (.aload_n 0, 1) := by decide +kernel
theorem dX4_isWhole_1 : decode cX4_isWhole 1 = .ok (.getfield 23, 3) := by decide +kernel
theorem dX4_isWhole_4 : decode cX4_isWhole 4 = .ok (.ifCond .le 7, 3) := by decide +kernel
theorem dX4_isWhole_7 : decode cX4_isWhole 7 = .ok (.iconst 1, 1) := by decide +kernel
theorem dX4_isWhole_8 : decode cX4_isWhole 8 = .ok (.goto 4, 3) := by decide +kernel
theorem dX4_isWhole_11 : decode cX4_isWhole 11 = .ok (.iconst 0, 1) := by decide +kernel
theorem dX4_isWhole_12 : decode cX4_isWhole 12 = .ok (.ireturn, 1) := by decide +kernel
theorem dX4_copy_0 : decode cX4_copy 0 = .ok (.aload_n 1, 1) := by decide +kernel
theorem dX4_copy_1 : decode cX4_copy 1 = .ok (.getfield 17, 3) := by decide +kernel
theorem dX4_copy_4 : decode cX4_copy 4 = .ok (.iconst 0, 1) := by decide +kernel
theorem dX4_copy_5 : decode cX4_copy 5 = .ok (.aload_n 0, 1) := by decide +kernel
theorem dX4_copy_6 : decode cX4_copy 6 = .ok (.getfield 17, 3) := by decide +kernel
theorem dX4_copy_9 : decode cX4_copy 9 = .ok (.iconst 0, 1) := by decide +kernel
theorem dX4_copy_10 : decode cX4_copy 10 = .ok (.aload_n 0, 1) := by decide +kernel
theorem dX4_copy_11 : decode cX4_copy 11 = .ok (.getfield 17, 3) := by decide +kernel
theorem dX4_copy_14 : decode cX4_copy 14 = .ok (.arraylength, 1) := by decide +kernel
theorem dX4_copy_15 : decode cX4_copy 15 = .ok (.invokestatic 35, 3) := by decide +kernel
theorem dX4_copy_18 : decode cX4_copy 18 = .ok (.aload_n 0, 1) := by decide +kernel
theorem dX4_copy_19 : decode cX4_copy 19 = .ok (.aload_n 1, 1) := by decide +kernel
theorem dX4_copy_20 : decode cX4_copy 20 = .ok (.getfield 23, 3) := by decide +kernel
theorem dX4_copy_23 : decode cX4_copy 23 = .ok (.putfield 23, 3) := by decide +kernel
theorem dX4_copy_26 : decode cX4_copy 26 = .ok (.return_, 1) := by decide +kernel
theorem dX4_swap_0 : decode cX4_swap 0 = .ok (.iload_n 1, 1) := by decide +kernel
theorem dX4_swap_1 : decode cX4_swap 1 = .ok (.ifCond .lt 43, 3) := by decide +kernel
theorem dX4_swap_4 : decode cX4_swap 4 = .ok (.iload_n 1, 1) := by decide +kernel
theorem dX4_swap_5 : decode cX4_swap 5 = .ok (.iconst 1, 1) := by decide +kernel
theorem dX4_swap_6 : decode cX4_swap 6 = .ok (.iadd, 1) := by decide +kernel
theorem dX4_swap_7 : decode cX4_swap 7 = .ok (.aload_n 0, 1) := by decide +kernel
theorem dX4_swap_8 : decode cX4_swap 8 = .ok (.getfield 23, 3) := by decide +kernel
theorem dX4_swap_11 : decode cX4_swap 11 = .ok (.if_icmp .ge 33, 3) := by decide +kernel
theorem dX4_swap_14 : decode cX4_swap 14 = .ok (.aload_n 0, 1) := by decide +kernel
theorem dX4_swap_15 : decode cX4_swap 15 = .ok (.getfield 17, 3) := by decide +kernel
theorem dX4_swap_18 : decode cX4_swap 18 = .ok (.iload_n 1, 1) := by decide +kernel
theorem dX4_swap_19 : decode cX4_swap 19 = .ok (.iaload, 1) := by decide +kernel
theorem dX4_swap_20 : decode cX4_swap 20 = .ok (.istore_n 2, 1) := by decide +kernel
theorem dX4_swap_21 : decode cX4_swap 21 = .ok (.aload_n 0, 1) := by decide +kernel
theorem dX4_swap_22 : decode cX4_swap 22 = .ok (.getfield 17, 3) := by decide +kernel
theorem dX4_swap_25 : decode cX4_swap 25 = .ok (.iload_n 1, 1) := by decide +kernel
theorem dX4_swap_26 : decode cX4_swap 26 = .ok (.aload_n 0, 1) := by decide +kernel
theorem dX4_swap_27 : decode cX4_swap 27 = .ok (.getfield 17, 3) := by decide +kernel
theorem dX4_swap_30 : decode cX4_swap 30 = .ok (.iload_n 1, 1) := by decide +kernel
theorem dX4_swap_31 : decode cX4_swap 31 = .ok (.iconst 1, 1) := by decide +kernel
theorem dX4_swap_32 : decode cX4_swap 32 = .ok (.iadd, 1) := by decide +kernel
theorem dX4_swap_33 : decode cX4_swap 33 = .ok (.iaload, 1) := by decide +kernel
theorem dX4_swap_34 : decode cX4_swap 34 = .ok (.iastore, 1) := by decide +kernel
theorem dX4_swap_35 : decode cX4_swap 35 = .ok (.aload_n 0, 1) := by decide +kernel
theorem dX4_swap_36 : decode cX4_swap 36 = .ok (.getfield 17, 3) := by decide +kernel
theorem dX4_swap_39 : decode cX4_swap 39 = .ok (.iload_n 1, 1) := by decide +kernel
theorem dX4_swap_40 : decode cX4_swap 40 = .ok (.iconst 1, 1) := by decide +kernel
theorem dX4_swap_41 : decode cX4_swap 41 = .ok (.iadd, 1) := by decide +kernel
theorem dX4_swap_42 : decode cX4_swap 42 = .ok (.iload_n 2, 1) := by decide +kernel
theorem dX4_swap_43 : decode cX4_swap 43 = .ok (.iastore, 1) := by decide +kernel
theorem dX4_swap_44 : decode cX4_swap 44 = .ok (.return_, 1) := by decide +kernel
theorem dX5_init_0 : decode cX5_init 0 = .ok (.aload_n 0, 1) := by decide +kernel
theorem dX5_init_1 : decode cX5_init 1 = .ok (.invokespecial 3, 3) := by decide +kernel
theorem dX5_init_4 : decode cX5_init 4 = .ok (.aload_n 0, 1) := by decide +kernel
theorem dX5_init_5 : decode cX5_init 5 = .ok (.bipush (-9), 2) := by decide +kernel
theorem dX5_init_7 : decode cX5_init 7 = .ok (.putfield 9, 3) := by decide +kernel
theorem dX5_init_10 : decode cX5_init 10 = .ok (.aload_n 0, 1) := by decide +kernel
theorem dX5_init_11 : decode cX5_init 11 = .ok (.iconst 0, 1) := by decide +kernel
theorem dX5_init_12 : decode cX5_init 12 = .ok (.putfield 15, 3) := by decide +kernel
theorem dX5_init_15 : decode cX5_init 15 = .ok (.aload_n 0, 1) := by decide +kernel
theorem dX5_init_16 : decode cX5_init 16 = .ok (.iconst 0, 1) := by decide +kernel
theorem dX5_init_17 : decode cX5_init 17 = .ok (.putfield 18, 3) := by decide +kernel
theorem dX5_init_20 : decode cX5_init 20 = .ok (.aload_n 0, 1) := by decide +kernel
theorem dX5_init_21 : decode cX5_init 21 = .ok (.iconst 0, 1) := by decide +kernel
theorem dX5_init_22 : decode cX5_init 22 = .ok (.putfield 21, 3) := by decide +kernel
theorem dX5_init_25 : decode cX5_init 25 = .ok (.aload_n 0, 1) := by decide +kernel
theorem dX5_init_26 : decode cX5_init 26 = .ok (.bipush 6, 2) := by decide +kernel
theorem dX5_init_28 : decode cX5_init 28 = .ok (.newarray .int, 2) := by decide +kernel
theorem dX5_init_30 : decode cX5_init 30 = .ok (.putfield 24, 3) := by decide +kernel
theorem dX5_init_33 : decode cX5_init 33 = .ok (.aload_n 0, 1) := by decide +kernel
theorem dX5_init_34 : decode cX5_init 34 = .ok (.bipush 6, 2) := by decide +kernel
theorem dX5_init_36 : decode cX5_init 36 = .ok (.newarray .int, 2) := by decide +kernel
theorem dX5_init_38 : decode cX5_init 38 = .ok (.putfield 28, 3) := by decide +kernel
theorem dX5_init_41 : decode cX5_init 41 = .ok (.aload_n 0, 1) := by decide +kernel
theorem dX5_init_42 : decode cX5_init 42 = .ok (.bipush 6, 2) := by decide +kernel
theorem dX5_init_44 : decode cX5_init 44 = .ok (.newarray .int, 2) := by decide +kernel
theorem dX5_init_46 : decode cX5_init 46 = .ok (.putfield 31, 3) := by decide +kernel
theorem dX5_init_49 : decode cX5_init 49 = .ok (.aload_n 0, 1) := by decide +kernel
theorem dX5_init_50 : decode cX5_init 50 = .ok (.bipush 6, 2) := by decide +kernel
theorem dX5_init_52 : decode cX5_init 52 = .ok (.anewarray 34, 3) := by decide +kernel
theorem dX5_init_55 : decode cX5_init 55 = .ok (.putfield 36, 3) := by decide +kernel
theorem dX5_init_58 : decode cX5_init 58 = .ok (.aload_n 0, 1) := by decide +kernel
theorem dX5_init_59 : decode cX5_init 59 = .ok (.bipush 6, 2) := by decide +kernel
theorem dX5_init_61 : decode cX5_init 61 = .ok (.newarray .int, 2) := by decide +kernel
theorem dX5_init_63 : decode cX5_init 63 = .ok (.putfield 40, 3) := by decide +kernel
theorem dX5_init_66 : decode cX5_init 66 = .ok (.aload_n 0, 1) := by decide +kernel
theorem dX5_init_67 : decode cX5_init 67 = .ok (.iconst 0, 1) := by decide +kernel
theorem dX5_init_68 : decode cX5_init 68 = .ok (.putfield 43, 3) := by decide +kernel
theorem dX5_init_71 : decode cX5_init 71 = .ok (.aload_n 0, 1) := by decide +kernel
theorem dX5_init_72 : decode cX5_init 72 = .ok (.iconst 0, 1) := by decide +kernel
theorem dX5_init_73 : decode cX5_init 73 = .ok (.putfield 46, 3) := by decide +kernel
theorem dX5_init_76 : decode cX5_init 76 = .ok (.aload_n 0, 1) := by decide +kernel
theorem dX5_init_77 : decode cX5_init 77 = .ok (.iconst 0, 1) := by decide +kernel
theorem dX5_init_78 : decode cX5_init 78 = .ok (.putfield 49, 3) := by decide +kernel
theorem dX5_init_81 : decode cX5_init 81 = .ok (.aload_n 0, 1) := by decide +kernel
theorem dX5_init_82 : decode cX5_init 82 = .ok (.iconst 0, 1) := by decide +kernel
theorem dX5_init_83 : decode cX5_init 83 = .ok (.putfield 52, 3) := by decide +kernel
theorem dX5_init_86 : decode cX5_init 86 = .ok (.aload_n 0, 1) := by decide +kernel
theorem dX5_init_87 : decode cX5_init 87 = .ok (.iconst 0, 1) := by decide +kernel
theorem dX5_init_88 : decode cX5_init 88 = .ok (.putfield 55, 3) := by decide +kernel
theorem dX5_init_91 : decode cX5_init 91 = .ok (.aload_n 0, 1) := by decide +kernel
theorem dX5_init_92 : decode cX5_init 92 = .ok (.aload_n 1, 1) := by decide +kernel
theorem dX5_init_93 : decode cX5_init 93 = .ok (.putfield 58, 3) := by decide +kernel
theorem dX5_init_96 : decode cX5_init 96 = .ok (.aload_n 0, 1) := by decide +kernel
theorem dX5_init_97 : decode cX5_init 97 = .ok (.aload_n 2, 1) := by decide +kernel
theorem dX5_init_98 : decode cX5_init 98 = .ok (.putfield 62, 3) := by decide +kernel
theorem dX5_init_101 : decode cX5_init 101 = .ok (.aload_n 0, 1) := by decide +kernel
theorem dX5_init_102 : decode cX5_init 102 = .ok (.aload_n 3, 1) := by decide +kernel
theorem dX5_init_103 : decode cX5_init 103 = .ok (.putfield 65, 3) := by decide +kernel
theorem dX5_init_106 : decode cX5_init 106 = .ok (.iconst 0, 1) := by decide +kernel
theorem dX5_init_107 : decode cX5_init 107 = .ok (.istore 4, 2) := by decide +kernel
theorem dX5_init_109 : decode cX5_init 109 = .ok (.iload 4, 2) := by decide +kernel
theorem dX5_init_111 : decode cX5_init 111 = .ok (.bipush 6, 2) := by decide +kernel
theorem dX5_init_113 : decode cX5_init 113 = .ok (.if_icmp .ge 23, 3) := by decide +kernel
theorem dX5_init_116 : decode cX5_init 116 = .ok (.aload_n 0, 1) := by decide +kernel
theorem dX5_init_117 : decode cX5_init 117 = .ok (.getfield 36, 3) := by decide +kernel
theorem dX5_init_120 : decode cX5_init 120 = .ok (.iload 4, 2) := by decide +kernel
theorem dX5_init_122 : decode cX5_init 122 = .ok (.new 34, 3) := by decide +kernel
theorem dX5_init_125 : decode cX5_init 125 = .ok (.dup, 1) := by decide +kernel
theorem dX5_init_126 : decode cX5_init 126 = .ok (.invokespecial 69, 3) := by decide +kernel
theorem dX5_init_129 : decode cX5_init 129 = .ok (.aastore, 1) := by decide +kernel
theorem dX5_init_130 : decode cX5_init 130 = .ok (.iinc 4 1, 3) := by decide +kernel
theorem dX5_init_133 : decode cX5_init 133 = .ok (.goto (-24), 3) := by decide +kernel
theorem dX5_init_136 : decode cX5_init 136 = .ok (.return_, 1) := by decide +kernel
theorem dX5_take_0 : decode cX5_take 0 = .ok (.aload_n 0, 1) := by decide +kernel
theorem dX5_take_1 : decode cX5_take 1 = .ok (.aload_n 1, 1) := by decide +kernel
theorem dX5_take_2 : decode cX5_take 2 = .ok (.getfield 70, 3) := by decide +kernel
theorem dX5_take_5 : decode cX5_take 5 = .ok (.putfield 18, 3) := by decide +kernel
theorem dX5_take_8 : decode cX5_take 8 = .ok (.aload_n 0, 1) := by decide +kernel
theorem dX5_take_9 : decode cX5_take 9 = .ok (.aload_n 1, 1) := by decide +kernel
theorem dX5_take_10 : decode cX5_take 10 = .ok (.getfield 73, 3) := by decide +kernel
theorem dX5_take_13 : decode cX5_take 13 = .ok (.getfield 77, 3) := by decide +kernel
theorem dX5_take_16 : decode cX5_take 16 = .ok (.putfield 21, 3) := by decide +kernel
theorem dX5_take_19 : decode cX5_take 19 = .ok (.aload_n 2, 1) := by decide +kernel
theorem dX5_take_20 : decode cX5_take 20 = .ok (.aload_n 1, 1) := by decide +kernel
theorem dX5_take_21 : decode cX5_take 21 = .ok (.getfield 80, 3) := by decide +kernel
theorem dX5_take_24 : decode cX5_take 24 = .ok (.aload_n 0, 1) := by decide +kernel
theorem dX5_take_25 : decode cX5_take 25 = .ok (.getfield 18, 3) := by decide +kernel
theorem dX5_take_28 : decode cX5_take 28 = .ok (.invokevirtual 83, 3) := by decide +kernel
theorem dX5_take_31 : decode cX5_take 31 = .ok (.ifCond .eq 22, 3) := by decide +kernel
theorem dX5_take_34 : decode cX5_take 34 = .ok (.aload_n 2, 1) := by decide +kernel
theorem dX5_take_35 : decode cX5_take 35 = .ok (.aload_n 1, 1) := by decide +kernel
theorem dX5_take_36 : decode cX5_take 36 = .ok (.getfield 89, 3) := by decide +kernel
theorem dX5_take_39 : decode cX5_take 39 = .ok (.aload_n 0, 1) := by decide +kernel
theorem dX5_take_40 : decode cX5_take 40 = .ok (.getfield 18, 3) := by decide +kernel
theorem dX5_take_43 : decode cX5_take 43 = .ok (.invokevirtual 83, 3) := by decide +kernel
theorem dX5_take_46 : decode cX5_take 46 = .ok (.ifCond .eq 7, 3) := by decide +kernel
theorem dX5_take_49 : decode cX5_take 49 = .ok (.iconst 1, 1) := by decide +kernel
theorem dX5_take_50 : decode cX5_take 50 = .ok (.goto 4, 3) := by decide +kernel
theorem dX5_take_53 : decode cX5_take 53 = .ok (.iconst 0, 1) := by decide +kernel
theorem dX5_take_54 : decode cX5_take 54 = .ok (.istore_n 3, 1) := by decide +kernel
theorem dX5_take_55 : decode cX5_take 55 = .ok (.iconst 0, 1) := by decide +kernel
theorem dX5_take_56 : decode cX5_take 56 = .ok (.istore 4, 2) := by decide +kernel
theorem dX5_take_58 : decode cX5_take 58 = .ok (.iload 4, 2) := by decide +kernel
theorem dX5_take_60 : decode cX5_take 60 = .ok (.bipush 6, 2) := by decide +kernel
theorem dX5_take_62 : decode cX5_take 62 = .ok (.if_icmp .ge 82, 3) := by decide +kernel
theorem dX5_take_65 : decode cX5_take 65 = .ok (.aload_n 0, 1) := by decide +kernel
theorem dX5_take_66 : decode cX5_take 66 = .ok (.getfield 24, 3) := by decide +kernel
theorem dX5_take_69 : decode cX5_take 69 = .ok (.iload 4, 2) := by decide +kernel
theorem dX5_take_71 : decode cX5_take 71 = .ok (.aload_n 1, 1) := by decide +kernel
theorem dX5_take_72 : decode cX5_take 72 = .ok (.getfield 73, 3) := by decide +kernel
theorem dX5_take_75 : decode cX5_take 75 = .ok (.getfield 92, 3) := by decide +kernel
theorem dX5_take_78 : decode cX5_take 78 = .ok (.iload 4, 2) := by decide +kernel
theorem dX5_take_80 : decode cX5_take 80 = .ok (.iaload, 1) := by decide +kernel
theorem dX5_take_81 : decode cX5_take 81 = .ok (.iastore, 1) := by decide +kernel
theorem dX5_take_82 : decode cX5_take 82 = .ok (.aload_n 0, 1) := by decide +kernel
theorem dX5_take_83 : decode cX5_take 83 = .ok (.getfield 28, 3) := by decide +kernel
theorem dX5_take_86 : decode cX5_take 86 = .ok (.iload 4, 2) := by decide +kernel
theorem dX5_take_88 : decode cX5_take 88 = .ok (.aload_n 2, 1) := by decide +kernel
theorem dX5_take_89 : decode cX5_take 89 = .ok (.aload_n 1, 1) := by decide +kernel
theorem dX5_take_90 : decode cX5_take 90 = .ok (.getfield 80, 3) := by decide +kernel
theorem dX5_take_93 : decode cX5_take 93 = .ok (.aload_n 1, 1) := by decide +kernel
theorem dX5_take_94 : decode cX5_take 94 = .ok (.getfield 89, 3) := by decide +kernel
theorem dX5_take_97 : decode cX5_take 97 = .ok (.iload 4, 2) := by decide +kernel
theorem dX5_take_99 : decode cX5_take 99 = .ok (.aload_n 0, 1) := by decide +kernel
theorem dX5_take_100 : decode cX5_take 100 = .ok (.getfield 62, 3) := by decide +kernel
theorem dX5_take_103 : decode cX5_take 103 = .ok (.iconst 0, 1) := by decide +kernel
theorem dX5_take_104 : decode cX5_take 104 = .ok (.iaload, 1) := by decide +kernel
theorem dX5_take_105 : decode cX5_take 105 = .ok (.invokevirtual 95, 3) := by decide +kernel
theorem dX5_take_108 : decode cX5_take 108 = .ok (.iastore, 1) := by decide +kernel
theorem dX5_take_109 : decode cX5_take 109 = .ok (.aload_n 0, 1) := by decide +kernel
theorem dX5_take_110 : decode cX5_take 110 = .ok (.getfield 31, 3) := by decide +kernel
theorem dX5_take_113 : decode cX5_take 113 = .ok (.iload 4, 2) := by decide +kernel
theorem dX5_take_115 : decode cX5_take 115 = .ok (.iload_n 3, 1) := by decide +kernel
theorem dX5_take_116 : decode cX5_take 116 = .ok (.ifCond .eq 20, 3) := by decide +kernel
theorem dX5_take_119 : decode cX5_take 119 = .ok (.aload_n 2, 1) := by decide +kernel
theorem dX5_take_120 : decode cX5_take 120 = .ok (.aload_n 0, 1) := by decide +kernel
theorem dX5_take_121 : decode cX5_take 121 = .ok (.getfield 18, 3) := by decide +kernel
theorem dX5_take_124 : decode cX5_take 124 = .ok (.iload 4, 2) := by decide +kernel
theorem dX5_take_126 : decode cX5_take 126 = .ok (.aload_n 0, 1) := by decide +kernel
theorem dX5_take_127 : decode cX5_take 127 = .ok (.getfield 62, 3) := by decide +kernel
theorem dX5_take_130 : decode cX5_take 130 = .ok (.invokevirtual 99, 3) := by decide +kernel
theorem dX5_take_133 : decode cX5_take 133 = .ok (.goto 4, 3) := by decide +kernel
theorem dX5_take_136 : decode cX5_take 136 = .ok (.iconst 0, 1) := by decide +kernel
theorem dX5_take_137 : decode cX5_take 137 = .ok (.iastore, 1) := by decide +kernel
theorem dX5_take_138 : decode cX5_take 138 = .ok (.iinc 4 1, 3) := by decide +kernel
theorem dX5_take_141 : decode cX5_take 141 = .ok (.goto (-83), 3) := by decide +kernel
theorem dX5_take_144 : decode cX5_take 144 = .ok (.return_, 1) := by decide +kernel
theorem dX5_sayToo_0 : decode cX5_sayToo 0 = .ok (.iconst 0, 1) := by decide +kernel
theorem dX5_sayToo_1 : decode cX5_sayToo 1 = .ok (.istore_n 3, 1) := by decide +kernel
theorem dX5_sayToo_2 : decode cX5_sayToo 2 = .ok (.iload_n 3, 1) := by decide +kernel
theorem dX5_sayToo_3 : decode cX5_sayToo 3 = .ok (.bipush 6, 2) := by decide +kernel
theorem dX5_sayToo_5 : decode cX5_sayToo 5 = .ok (.if_icmp .ge 41, 3) := by decide +kernel
theorem dX5_sayToo_8 : decode cX5_sayToo 8 = .ok (.aload_n 0, 1) := by decide +kernel
theorem dX5_sayToo_9 : decode cX5_sayToo 9 = .ok (.getfield 24, 3) := by decide +kernel
theorem dX5_sayToo_12 : decode cX5_sayToo 12 = .ok (.iload_n 3, 1) := by decide +kernel
theorem dX5_sayToo_13 : decode cX5_sayToo 13 = .ok (.iload_n 2, 1) := by decide +kernel
theorem dX5_sayToo_14 : decode cX5_sayToo 14 = .ok (.iload_n 3, 1) := by decide +kernel
theorem dX5_sayToo_15 : decode cX5_sayToo 15 = .ok (.invokestatic 103, 3) := by decide +kernel
theorem dX5_sayToo_18 : decode cX5_sayToo 18 = .ok (.iconst 1, 1) := by decide +kernel
theorem dX5_sayToo_19 : decode cX5_sayToo 19 = .ok (.if_icmp .ne 11, 3) := by decide +kernel
theorem dX5_sayToo_22 : decode cX5_sayToo 22 = .ok (.aload_n 1, 1) := by decide +kernel
theorem dX5_sayToo_23 : decode cX5_sayToo 23 = .ok (.iload_n 3, 1) := by decide +kernel
theorem dX5_sayToo_24 : decode cX5_sayToo 24 = .ok (.invokevirtual 107, 3) := by decide +kernel
theorem dX5_sayToo_27 : decode cX5_sayToo 27 = .ok (.goto 12, 3) := by decide +kernel
theorem dX5_sayToo_30 : decode cX5_sayToo 30 = .ok (.aload_n 1, 1) := by decide +kernel
theorem dX5_sayToo_31 : decode cX5_sayToo 31 = .ok (.getfield 73, 3) := by decide +kernel
theorem dX5_sayToo_34 : decode cX5_sayToo 34 = .ok (.getfield 92, 3) := by decide +kernel
theorem dX5_sayToo_37 : decode cX5_sayToo 37 = .ok (.iload_n 3, 1) := by decide +kernel
theorem dX5_sayToo_38 : decode cX5_sayToo 38 = .ok (.iaload, 1) := by decide +kernel
theorem dX5_sayToo_39 : decode cX5_sayToo 39 = .ok (.iastore, 1) := by decide +kernel
theorem dX5_sayToo_40 : decode cX5_sayToo 40 = .ok (.iinc 3 1, 3) := by decide +kernel
theorem dX5_sayToo_43 : decode cX5_sayToo 43 = .ok (.goto (-41), 3) := by decide +kernel
theorem dX5_sayToo_46 : decode cX5_sayToo 46 = .ok (.return_, 1) := by decide +kernel
theorem dX5_plan_0 : decode cX5_plan 0 = .ok (.aload_n 0, 1) := by decide +kernel
theorem dX5_plan_1 : decode cX5_plan 1 = .ok (.getfield 36, 3) := by decide +kernel
theorem dX5_plan_4 : decode cX5_plan 4 = .ok (.astore_n 2, 1) := by decide +kernel
theorem dX5_plan_5 : decode cX5_plan 5 = .ok (.aload_n 2, 1) := by decide +kernel
theorem dX5_plan_6 : decode cX5_plan 6 = .ok (.arraylength, 1) := by decide +kernel
theorem dX5_plan_7 : decode cX5_plan 7 = .ok (.istore_n 3, 1) := by decide +kernel
theorem dX5_plan_8 : decode cX5_plan 8 = .ok (.iconst 0, 1) := by decide +kernel
theorem dX5_plan_9 : decode cX5_plan 9 = .ok (.istore 4, 2) := by decide +kernel
theorem dX5_plan_11 : decode cX5_plan 11 = .ok (.iload 4, 2) := by decide +kernel
theorem dX5_plan_13 : decode cX5_plan 13 = .ok (.iload_n 3, 1) := by decide +kernel
theorem dX5_plan_14 : decode cX5_plan 14 = .ok (.if_icmp .ge 20, 3) := by decide +kernel
theorem dX5_plan_17 : decode cX5_plan 17 = .ok (.aload_n 2, 1) := by decide +kernel
theorem dX5_plan_18 : decode cX5_plan 18 = .ok (.iload 4, 2) := by decide +kernel
theorem dX5_plan_20 : decode cX5_plan 20 = .ok (.aaload, 1) := by decide +kernel
theorem dX5_plan_21 : decode cX5_plan 21 = .ok (.astore 5, 2) := by decide +kernel
theorem dX5_plan_23 : decode cX5_plan 23 = .ok (.aload 5, 2) := by decide +kernel
theorem dX5_plan_25 : decode cX5_plan 25 = .ok (.invokevirtual 111, 3) := by decide +kernel
theorem dX5_plan_28 : decode cX5_plan 28 = .ok (.iinc 4 1, 3) := by decide +kernel
theorem dX5_plan_31 : decode cX5_plan 31 = .ok (.goto (-20), 3) := by decide +kernel
theorem dX5_plan_34 : decode cX5_plan 34 = .ok (.aload_n 0, 1) := by decide +kernel
theorem dX5_plan_35 : decode cX5_plan 35 = .ok (.iconst 1, 1) := by decide +kernel
theorem dX5_plan_36 : decode cX5_plan 36 = .ok (.invokevirtual 114, 3) := by decide +kernel
theorem dX5_plan_39 : decode cX5_plan 39 = .ok (.iconst 0, 1) := by decide +kernel
theorem dX5_plan_40 : decode cX5_plan 40 = .ok (.istore_n 2, 1) := by decide +kernel
theorem dX5_plan_41 : decode cX5_plan 41 = .ok (.iload_n 2, 1) := by decide +kernel
theorem dX5_plan_42 : decode cX5_plan 42 = .ok (.aload_n 1, 1) := by decide +kernel
theorem dX5_plan_43 : decode cX5_plan 43 = .ok (.getfield 118, 3) := by decide +kernel
theorem dX5_plan_46 : decode cX5_plan 46 = .ok (.if_icmp .ge 19, 3) := by decide +kernel
theorem dX5_plan_49 : decode cX5_plan 49 = .ok (.aload_n 0, 1) := by decide +kernel
theorem dX5_plan_50 : decode cX5_plan 50 = .ok (.aload_n 1, 1) := by decide +kernel
theorem dX5_plan_51 : decode cX5_plan 51 = .ok (.getfield 123, 3) := by decide +kernel
theorem dX5_plan_54 : decode cX5_plan 54 = .ok (.iload_n 2, 1) := by decide +kernel
theorem dX5_plan_55 : decode cX5_plan 55 = .ok (.iaload, 1) := by decide +kernel
theorem dX5_plan_56 : decode cX5_plan 56 = .ok (.invokevirtual 126, 3) := by decide +kernel
theorem dX5_plan_59 : decode cX5_plan 59 = .ok (.iinc 2 1, 3) := by decide +kernel
theorem dX5_plan_62 : decode cX5_plan 62 = .ok (.goto (-21), 3) := by decide +kernel
theorem dX5_plan_65 : decode cX5_plan 65 = .ok (.return_, 1) := by decide +kernel
theorem dX5_planLetter_0 : decode cX5_planLetter 0 = .ok (.aload_n 0, 1) := by decide +kernel
theorem dX5_planLetter_1 : decode cX5_planLetter 1 = .ok (.getfield 21, 3) := by decide +kernel
theorem dX5_planLetter_4 : decode cX5_planLetter 4 = .ok (.iload_n 1, 1) := by decide +kernel
theorem dX5_planLetter_5 : decode cX5_planLetter 5 = .ok (.invokestatic 103, 3) := by decide +kernel
theorem dX5_planLetter_8 : decode cX5_planLetter 8 = .ok (.iconst 1, 1) := by decide +kernel
theorem dX5_planLetter_9 : decode cX5_planLetter 9 = .ok (.if_icmp .ne 4, 3) := by decide +kernel
theorem dX5_planLetter_12 : decode cX5_planLetter 12 = .ok (.return_, 1) := by decide +kernel
theorem dX5_planLetter_13 : decode cX5_planLetter 13 = .ok (.iload_n 1, 1) := by decide +kernel
theorem dX5_planLetter_14 : decode cX5_planLetter 14 = .ok (.tableswitch 78 0 3 #[30, 42, 54, 66], 30) := by decide +kernel
theorem dX5_planLetter_44 : decode cX5_planLetter 44 = .ok (.aload_n 0, 1) := by decide +kernel
theorem dX5_planLetter_45 : decode cX5_planLetter 45 = .ok (.aload_n 0, 1) := by decide +kernel
theorem dX5_planLetter_46 : decode cX5_planLetter 46 = .ok (.getfield 24, 3) := by decide +kernel
theorem dX5_planLetter_49 : decode cX5_planLetter 49 = .ok (.iconst 1, 1) := by decide +kernel
theorem dX5_planLetter_50 : decode cX5_planLetter 50 = .ok (.invokevirtual 129, 3) := by decide +kernel
theorem dX5_planLetter_53 : decode cX5_planLetter 53 = .ok (.goto 44, 3) := by decide +kernel
theorem dX5_planLetter_56 : decode cX5_planLetter 56 = .ok (.aload_n 0, 1) := by decide +kernel
theorem dX5_planLetter_57 : decode cX5_planLetter 57 = .ok (.aload_n 0, 1) := by decide +kernel
theorem dX5_planLetter_58 : decode cX5_planLetter 58 = .ok (.getfield 28, 3) := by decide +kernel
theorem dX5_planLetter_61 : decode cX5_planLetter 61 = .ok (.iconst 2, 1) := by decide +kernel
theorem dX5_planLetter_62 : decode cX5_planLetter 62 = .ok (.invokevirtual 129, 3) := by decide +kernel
theorem dX5_planLetter_65 : decode cX5_planLetter 65 = .ok (.goto 32, 3) := by decide +kernel
theorem dX5_planLetter_68 : decode cX5_planLetter 68 = .ok (.aload_n 0, 1) := by decide +kernel
theorem dX5_planLetter_69 : decode cX5_planLetter 69 = .ok (.aload_n 0, 1) := by decide +kernel
theorem dX5_planLetter_70 : decode cX5_planLetter 70 = .ok (.getfield 31, 3) := by decide +kernel
theorem dX5_planLetter_73 : decode cX5_planLetter 73 = .ok (.iconst 3, 1) := by decide +kernel
theorem dX5_planLetter_74 : decode cX5_planLetter 74 = .ok (.invokevirtual 129, 3) := by decide +kernel
theorem dX5_planLetter_77 : decode cX5_planLetter 77 = .ok (.goto 20, 3) := by decide +kernel
theorem dX5_planLetter_80 : decode cX5_planLetter 80 = .ok (.aload_n 0, 1) := by decide +kernel
theorem dX5_planLetter_81 : decode cX5_planLetter 81 = .ok (.invokevirtual 133, 3) := by decide +kernel
theorem dX5_planLetter_84 : decode cX5_planLetter 84 = .ok (.aload_n 0, 1) := by decide +kernel
theorem dX5_planLetter_85 : decode cX5_planLetter 85 = .ok (.iconst 0, 1) := by decide +kernel
theorem dX5_planLetter_86 : decode cX5_planLetter 86 = .ok (.invokevirtual 114, 3) := by decide +kernel
theorem dX5_planLetter_89 : decode cX5_planLetter 89 = .ok (.goto 8, 3) := by decide +kernel
theorem dX5_planLetter_92 : decode cX5_planLetter 92 = .ok (.aload_n 0, 1) := by decide +kernel
theorem dX5_planLetter_93 : decode cX5_planLetter 93 = .ok (.iconst 2, 1) := by decide +kernel
theorem dX5_planLetter_94 : decode cX5_planLetter 94 = .ok (.invokevirtual 114, 3) := by decide +kernel
theorem dX5_planLetter_97 : decode cX5_planLetter 97 = .ok (.return_, 1) := by decide +kernel
theorem dX5_planRow_0 : decode cX5_planRow 0 = .ok (.iconst 0, 1) := by decide +kernel
theorem dX5_planRow_1 : decode cX5_planRow 1 = .ok (.istore_n 3, 1) := by decide +kernel
theorem dX5_planRow_2 : decode cX5_planRow 2 = .ok (.iload_n 3, 1) := by decide +kernel
theorem dX5_planRow_3 : decode cX5_planRow 3 = .ok (.bipush 6, 2) := by decide +kernel
theorem dX5_planRow_5 : decode cX5_planRow 5 = .ok (.if_icmp .ge 36, 3) := by decide +kernel
theorem dX5_planRow_8 : decode cX5_planRow 8 = .ok (.aload_n 0, 1) := by decide +kernel
theorem dX5_planRow_9 : decode cX5_planRow 9 = .ok (.iload_n 3, 1) := by decide +kernel
theorem dX5_planRow_10 : decode cX5_planRow 10 = .ok (.aload_n 1, 1) := by decide +kernel
theorem dX5_planRow_11 : decode cX5_planRow 11 = .ok (.iload_n 3, 1) := by decide +kernel
theorem dX5_planRow_12 : decode cX5_planRow 12 = .ok (.iaload, 1) := by decide +kernel
theorem dX5_planRow_13 : decode cX5_planRow 13 = .ok (.invokevirtual 136, 3) := by decide +kernel
theorem dX5_planRow_16 : decode cX5_planRow 16 = .ok (.ifCond .eq 19, 3) := by decide +kernel
theorem dX5_planRow_19 : decode cX5_planRow 19 = .ok (.aload_n 0, 1) := by decide +kernel
theorem dX5_planRow_20 : decode cX5_planRow 20 = .ok (.getfield 36, 3) := by decide +kernel
theorem dX5_planRow_23 : decode cX5_planRow 23 = .ok (.iload_n 3, 1) := by decide +kernel
theorem dX5_planRow_24 : decode cX5_planRow 24 = .ok (.aaload, 1) := by decide +kernel
theorem dX5_planRow_25 : decode cX5_planRow 25 = .ok (.aload_n 1, 1) := by decide +kernel
theorem dX5_planRow_26 : decode cX5_planRow 26 = .ok (.iload_n 3, 1) := by decide +kernel
theorem dX5_planRow_27 : decode cX5_planRow 27 = .ok (.iaload, 1) := by decide +kernel
theorem dX5_planRow_28 : decode cX5_planRow 28 = .ok (.iload_n 2, 1) := by decide +kernel
theorem dX5_planRow_29 : decode cX5_planRow 29 = .ok (.bipush (-9), 2) := by decide +kernel
theorem dX5_planRow_31 : decode cX5_planRow 31 = .ok (.iconst 0, 1) := by decide +kernel
theorem dX5_planRow_32 : decode cX5_planRow 32 = .ok (.invokevirtual 139, 3) := by decide +kernel
theorem dX5_planRow_35 : decode cX5_planRow 35 = .ok (.iinc 3 1, 3) := by decide +kernel
theorem dX5_planRow_38 : decode cX5_planRow 38 = .ok (.goto (-36), 3) := by decide +kernel
theorem dX5_planRow_41 : decode cX5_planRow 41 = .ok (.return_, 1) := by decide +kernel
theorem dX5_planLawAhead_0 : decode cX5_planLawAhead 0 = .ok (.aload_n 0, 1) := by decide +kernel
theorem dX5_planLawAhead_1 : decode cX5_planLawAhead 1 = .ok (.getfield 9, 3) := by decide +kernel
theorem dX5_planLawAhead_4 : decode cX5_planLawAhead 4 = .ok (.invokestatic 143, 3) := by decide +kernel
theorem dX5_planLawAhead_7 : decode cX5_planLawAhead 7 = .ok (.ifCond .eq 38, 3) := by decide +kernel
theorem dX5_planLawAhead_10 : decode cX5_planLawAhead 10 = .ok (.aload_n 0, 1) := by decide +kernel
theorem dX5_planLawAhead_11 : decode cX5_planLawAhead 11 = .ok (.aload_n 0, 1) := by decide +kernel
theorem dX5_planLawAhead_12 : decode cX5_planLawAhead 12 = .ok (.getfield 9, 3) := by decide +kernel
theorem dX5_planLawAhead_15 : decode cX5_planLawAhead 15 = .ok (.aload_n 0, 1) := by decide +kernel
theorem dX5_planLawAhead_16 : decode cX5_planLawAhead 16 = .ok (.getfield 15, 3) := by decide +kernel
theorem dX5_planLawAhead_19 : decode cX5_planLawAhead 19 = .ok (.invokevirtual 136, 3) := by decide +kernel
theorem dX5_planLawAhead_22 : decode cX5_planLawAhead 22 = .ok (.ifCond .eq 23, 3) := by decide +kernel
theorem dX5_planLawAhead_25 : decode cX5_planLawAhead 25 = .ok (.aload_n 0, 1) := by decide +kernel
theorem dX5_planLawAhead_26 : decode cX5_planLawAhead 26 = .ok (.getfield 36, 3) := by decide +kernel
theorem dX5_planLawAhead_29 : decode cX5_planLawAhead 29 = .ok (.aload_n 0, 1) := by decide +kernel
theorem dX5_planLawAhead_30 : decode cX5_planLawAhead 30 = .ok (.getfield 9, 3) := by decide +kernel
theorem dX5_planLawAhead_33 : decode cX5_planLawAhead 33 = .ok (.aaload, 1) := by decide +kernel
theorem dX5_planLawAhead_34 : decode cX5_planLawAhead 34 = .ok (.aload_n 0, 1) := by decide +kernel
theorem dX5_planLawAhead_35 : decode cX5_planLawAhead 35 = .ok (.getfield 15, 3) := by decide +kernel
theorem dX5_planLawAhead_38 : decode cX5_planLawAhead 38 = .ok (.iconst 0, 1) := by decide +kernel
theorem dX5_planLawAhead_39 : decode cX5_planLawAhead 39 = .ok (.bipush (-9), 2) := by decide +kernel
theorem dX5_planLawAhead_41 : decode cX5_planLawAhead 41 = .ok (.iconst 0, 1) := by decide +kernel
theorem dX5_planLawAhead_42 : decode cX5_planLawAhead 42 = .ok (.invokevirtual 139, 3) := by decide +kernel
theorem dX5_planLawAhead_45 : decode cX5_planLawAhead 45 = .ok (.return_, 1) := by decide +kernel
theorem dX5_planRules_0 : decode cX5_planRules 0 = .ok (.iconst 0, 1) := by decide +kernel
theorem dX5_planRules_1 : decode cX5_planRules 1 = .ok (.istore_n 2, 1) := by decide +kernel
theorem dX5_planRules_2 : decode cX5_planRules 2 = .ok (.iload_n 2, 1) := by decide +kernel
theorem dX5_planRules_3 : decode cX5_planRules 3 = .ok (.aload_n 0, 1) := by decide +kernel
theorem dX5_planRules_4 : decode cX5_planRules 4 = .ok (.getfield 65, 3) := by decide +kernel
theorem dX5_planRules_7 : decode cX5_planRules 7 = .ok (.getfield 147, 3) := by decide +kernel
theorem dX5_planRules_10 : decode cX5_planRules 10 = .ok (.if_icmp .ge 102, 3) := by decide +kernel
theorem dX5_planRules_13 : decode cX5_planRules 13 = .ok (.aload_n 0, 1) := by decide +kernel
theorem dX5_planRules_14 : decode cX5_planRules 14 = .ok (.getfield 65, 3) := by decide +kernel
theorem dX5_planRules_17 : decode cX5_planRules 17 = .ok (.getfield 150, 3) := by decide +kernel
theorem dX5_planRules_20 : decode cX5_planRules 20 = .ok (.iload_n 2, 1) := by decide +kernel
theorem dX5_planRules_21 : decode cX5_planRules 21 = .ok (.aaload, 1) := by decide +kernel
theorem dX5_planRules_22 : decode cX5_planRules 22 = .ok (.astore_n 3, 1) := by decide +kernel
theorem dX5_planRules_23 : decode cX5_planRules 23 = .ok (.aload_n 3, 1) := by decide +kernel
theorem dX5_planRules_24 : decode cX5_planRules 24 = .ok (.getfield 154, 3) := by decide +kernel
theorem dX5_planRules_27 : decode cX5_planRules 27 = .ok (.iload_n 1, 1) := by decide +kernel
theorem dX5_planRules_28 : decode cX5_planRules 28 = .ok (.if_icmp .ne 27, 3) := by decide +kernel
theorem dX5_planRules_31 : decode cX5_planRules 31 = .ok (.aload_n 3, 1) := by decide +kernel
theorem dX5_planRules_32 : decode cX5_planRules 32 = .ok (.getfield 159, 3) := by decide +kernel
theorem dX5_planRules_35 : decode cX5_planRules 35 = .ok (.bipush (-9), 2) := by decide +kernel
theorem dX5_planRules_37 : decode cX5_planRules 37 = .ok (.if_icmp .eq 14, 3) := by decide +kernel
theorem dX5_planRules_40 : decode cX5_planRules 40 = .ok (.aload_n 3, 1) := by decide +kernel
theorem dX5_planRules_41 : decode cX5_planRules 41 = .ok (.getfield 159, 3) := by decide +kernel
theorem dX5_planRules_44 : decode cX5_planRules 44 = .ok (.aload_n 0, 1) := by decide +kernel
theorem dX5_planRules_45 : decode cX5_planRules 45 = .ok (.getfield 18, 3) := by decide +kernel
theorem dX5_planRules_48 : decode cX5_planRules 48 = .ok (.if_icmp .ne 7, 3) := by decide +kernel
theorem dX5_planRules_51 : decode cX5_planRules 51 = .ok (.iconst 1, 1) := by decide +kernel
theorem dX5_planRules_52 : decode cX5_planRules 52 = .ok (.goto 4, 3) := by decide +kernel
theorem dX5_planRules_55 : decode cX5_planRules 55 = .ok (.iconst 0, 1) := by decide +kernel
theorem dX5_planRules_56 : decode cX5_planRules 56 = .ok (.istore 4, 2) := by decide +kernel
theorem dX5_planRules_58 : decode cX5_planRules 58 = .ok (.iload 4, 2) := by decide +kernel
theorem dX5_planRules_60 : decode cX5_planRules 60 = .ok (.ifCond .eq 46, 3) := by decide +kernel
theorem dX5_planRules_63 : decode cX5_planRules 63 = .ok (.aload_n 0, 1) := by decide +kernel
theorem dX5_planRules_64 : decode cX5_planRules 64 = .ok (.aload_n 3, 1) := by decide +kernel
theorem dX5_planRules_65 : decode cX5_planRules 65 = .ok (.getfield 160, 3) := by decide +kernel
theorem dX5_planRules_68 : decode cX5_planRules 68 = .ok (.aload_n 3, 1) := by decide +kernel
theorem dX5_planRules_69 : decode cX5_planRules 69 = .ok (.getfield 163, 3) := by decide +kernel
theorem dX5_planRules_72 : decode cX5_planRules 72 = .ok (.invokevirtual 136, 3) := by decide +kernel
theorem dX5_planRules_75 : decode cX5_planRules 75 = .ok (.ifCond .eq 31, 3) := by decide +kernel
theorem dX5_planRules_78 : decode cX5_planRules 78 = .ok (.aload_n 0, 1) := by decide +kernel
theorem dX5_planRules_79 : decode cX5_planRules 79 = .ok (.getfield 36, 3) := by decide +kernel
theorem dX5_planRules_82 : decode cX5_planRules 82 = .ok (.aload_n 3, 1) := by decide +kernel
theorem dX5_planRules_83 : decode cX5_planRules 83 = .ok (.getfield 160, 3) := by decide +kernel
theorem dX5_planRules_86 : decode cX5_planRules 86 = .ok (.aaload, 1) := by decide +kernel
theorem dX5_planRules_87 : decode cX5_planRules 87 = .ok (.aload_n 3, 1) := by decide +kernel
theorem dX5_planRules_88 : decode cX5_planRules 88 = .ok (.getfield 163, 3) := by decide +kernel
theorem dX5_planRules_91 : decode cX5_planRules 91 = .ok (.bipush 10, 2) := by decide +kernel
theorem dX5_planRules_93 : decode cX5_planRules 93 = .ok (.iload_n 2, 1) := by decide +kernel
theorem dX5_planRules_94 : decode cX5_planRules 94 = .ok (.iadd, 1) := by decide +kernel
theorem dX5_planRules_95 : decode cX5_planRules 95 = .ok (.aload_n 3, 1) := by decide +kernel
theorem dX5_planRules_96 : decode cX5_planRules 96 = .ok (.getfield 166, 3) := by decide +kernel
theorem dX5_planRules_99 : decode cX5_planRules 99 = .ok (.aload_n 3, 1) := by decide +kernel
theorem dX5_planRules_100 : decode cX5_planRules 100 = .ok (.getfield 169, 3) := by decide +kernel
theorem dX5_planRules_103 : decode cX5_planRules 103 = .ok (.invokevirtual 139, 3) := by decide +kernel
theorem dX5_planRules_106 : decode cX5_planRules 106 = .ok (.iinc 2 1, 3) := by decide +kernel
theorem dX5_planRules_109 : decode cX5_planRules 109 = .ok (.goto (-107), 3) := by decide +kernel
theorem dX5_planRules_112 : decode cX5_planRules 112 = .ok (.return_, 1) := by decide +kernel
theorem dX5_isThere_0 : decode cX5_isThere 0 = .ok (.iload_n 2, 1) := by decide +kernel
theorem dX5_isThere_1 : decode cX5_isThere 1 = .ok (.iconst 1, 1) := by decide +kernel
theorem dX5_isThere_2 : decode cX5_isThere 2 = .ok (.if_icmp .lt 20, 3) := by decide +kernel
theorem dX5_isThere_5 : decode cX5_isThere 5 = .ok (.iload_n 2, 1) := by decide +kernel
theorem dX5_isThere_6 : decode cX5_isThere 6 = .ok (.aload_n 0, 1) := by decide +kernel
theorem dX5_isThere_7 : decode cX5_isThere 7 = .ok (.getfield 58, 3) := by decide +kernel
theorem dX5_isThere_10 : decode cX5_isThere 10 = .ok (.getfield 172, 3) := by decide +kernel
theorem dX5_isThere_13 : decode cX5_isThere 13 = .ok (.iload_n 1, 1) := by decide +kernel
theorem dX5_isThere_14 : decode cX5_isThere 14 = .ok (.iaload, 1) := by decide +kernel
theorem dX5_isThere_15 : decode cX5_isThere 15 = .ok (.if_icmp .gt 7, 3) := by decide +kernel
theorem dX5_isThere_18 : decode cX5_isThere 18 = .ok (.iconst 1, 1) := by decide +kernel
theorem dX5_isThere_19 : decode cX5_isThere 19 = .ok (.goto 4, 3) := by decide +kernel
theorem dX5_isThere_22 : decode cX5_isThere 22 = .ok (.iconst 0, 1) := by decide +kernel
theorem dX5_isThere_23 : decode cX5_isThere 23 = .ok (.ireturn, 1) := by decide +kernel
theorem dX5_follow_0 : decode cX5_follow 0 = .ok (.iload_n 1, 1) := by decide +kernel
theorem dX5_follow_1 : decode cX5_follow 1 = .ok (.aload_n 0, 1) := by decide +kernel
theorem dX5_follow_2 : decode cX5_follow 2 = .ok (.getfield 40, 3) := by decide +kernel
theorem dX5_follow_5 : decode cX5_follow 5 = .ok (.invokestatic 175, 3) := by decide +kernel
theorem dX5_follow_8 : decode cX5_follow 8 = .ok (.iconst 0, 1) := by decide +kernel
theorem dX5_follow_9 : decode cX5_follow 9 = .ok (.istore_n 2, 1) := by decide +kernel
theorem dX5_follow_10 : decode cX5_follow 10 = .ok (.iconst 0, 1) := by decide +kernel
theorem dX5_follow_11 : decode cX5_follow 11 = .ok (.istore_n 3, 1) := by decide +kernel
theorem dX5_follow_12 : decode cX5_follow 12 = .ok (.iload_n 3, 1) := by decide +kernel
theorem dX5_follow_13 : decode cX5_follow 13 = .ok (.bipush 6, 2) := by decide +kernel
theorem dX5_follow_15 : decode cX5_follow 15 = .ok (.if_icmp .ge 61, 3) := by decide +kernel
theorem dX5_follow_18 : decode cX5_follow 18 = .ok (.aload_n 0, 1) := by decide +kernel
theorem dX5_follow_19 : decode cX5_follow 19 = .ok (.getfield 58, 3) := by decide +kernel
theorem dX5_follow_22 : decode cX5_follow 22 = .ok (.iload_n 3, 1) := by decide +kernel
theorem dX5_follow_23 : decode cX5_follow 23 = .ok (.aload_n 0, 1) := by decide +kernel
theorem dX5_follow_24 : decode cX5_follow 24 = .ok (.getfield 40, 3) := by decide +kernel
theorem dX5_follow_27 : decode cX5_follow 27 = .ok (.invokevirtual 179, 3) := by decide +kernel
theorem dX5_follow_30 : decode cX5_follow 30 = .ok (.ifCond .eq 19, 3) := by decide +kernel
theorem dX5_follow_33 : decode cX5_follow 33 = .ok (.aload_n 0, 1) := by decide +kernel
theorem dX5_follow_34 : decode cX5_follow 34 = .ok (.getfield 36, 3) := by decide +kernel
theorem dX5_follow_37 : decode cX5_follow 37 = .ok (.iload_n 3, 1) := by decide +kernel
theorem dX5_follow_38 : decode cX5_follow 38 = .ok (.aaload, 1) := by decide +kernel
theorem dX5_follow_39 : decode cX5_follow 39 = .ok (.aload_n 0, 1) := by decide +kernel
theorem dX5_follow_40 : decode cX5_follow 40 = .ok (.getfield 40, 3) := by decide +kernel
theorem dX5_follow_43 : decode cX5_follow 43 = .ok (.invokevirtual 183, 3) := by decide +kernel
theorem dX5_follow_46 : decode cX5_follow 46 = .ok (.goto 5, 3) := by decide +kernel
theorem dX5_follow_49 : decode cX5_follow 49 = .ok (.bipush (-9), 2) := by decide +kernel
theorem dX5_follow_51 : decode cX5_follow 51 = .ok (.istore 4, 2) := by decide +kernel
theorem dX5_follow_53 : decode cX5_follow 53 = .ok (.iload_n 2, 1) := by decide +kernel
theorem dX5_follow_54 : decode cX5_follow 54 = .ok (.bipush 6, 2) := by decide +kernel
theorem dX5_follow_56 : decode cX5_follow 56 = .ok (.imul, 1) := by decide +kernel
theorem dX5_follow_57 : decode cX5_follow 57 = .ok (.aload_n 0, 1) := by decide +kernel
theorem dX5_follow_58 : decode cX5_follow 58 = .ok (.getfield 36, 3) := by decide +kernel
theorem dX5_follow_61 : decode cX5_follow 61 = .ok (.iload_n 3, 1) := by decide +kernel
theorem dX5_follow_62 : decode cX5_follow 62 = .ok (.aaload, 1) := by decide +kernel
theorem dX5_follow_63 : decode cX5_follow 63 = .ok (.iload 4, 2) := by decide +kernel
theorem dX5_follow_65 : decode cX5_follow 65 = .ok (.invokevirtual 187, 3) := by decide +kernel
theorem dX5_follow_68 : decode cX5_follow 68 = .ok (.iadd, 1) := by decide +kernel
theorem dX5_follow_69 : decode cX5_follow 69 = .ok (.istore_n 2, 1) := by decide +kernel
theorem dX5_follow_70 : decode cX5_follow 70 = .ok (.iinc 3 1, 3) := by decide +kernel
theorem dX5_follow_73 : decode cX5_follow 73 = .ok (.goto (-61), 3) := by decide +kernel
theorem dX5_follow_76 : decode cX5_follow 76 = .ok (.iload_n 2, 1) := by decide +kernel
theorem dX5_follow_77 : decode cX5_follow 77 = .ok (.ireturn, 1) := by decide +kernel
theorem dX5_read_0 : decode cX5_read 0 = .ok (.aload_n 0, 1) := by decide +kernel
theorem dX5_read_1 : decode cX5_read 1 = .ok (.aload_n 1, 1) := by decide +kernel
theorem dX5_read_2 : decode cX5_read 2 = .ok (.invokevirtual 190, 3) := by decide +kernel
theorem dX5_read_5 : decode cX5_read 5 = .ok (.aload_n 0, 1) := by decide +kernel
theorem dX5_read_6 : decode cX5_read 6 = .ok (.invokevirtual 194, 3) := by decide +kernel
theorem dX5_read_9 : decode cX5_read 9 = .ok (.aload_n 0, 1) := by decide +kernel
theorem dX5_read_10 : decode cX5_read 10 = .ok (.invokevirtual 197, 3) := by decide +kernel
theorem dX5_read_13 : decode cX5_read 13 = .ok (.istore_n 2, 1) := by decide +kernel
theorem dX5_read_14 : decode cX5_read 14 = .ok (.aload_n 0, 1) := by decide +kernel
theorem dX5_read_15 : decode cX5_read 15 = .ok (.iconst 0, 1) := by decide +kernel
theorem dX5_read_16 : decode cX5_read 16 = .ok (.putfield 52, 3) := by decide +kernel
theorem dX5_read_19 : decode cX5_read 19 = .ok (.aload_n 0, 1) := by decide +kernel
theorem dX5_read_20 : decode cX5_read 20 = .ok (.iload_n 2, 1) := by decide +kernel
theorem dX5_read_21 : decode cX5_read 21 = .ok (.putfield 55, 3) := by decide +kernel
theorem dX5_read_24 : decode cX5_read 24 = .ok (.iconst 1, 1) := by decide +kernel
theorem dX5_read_25 : decode cX5_read 25 = .ok (.istore_n 3, 1) := by decide +kernel
theorem dX5_read_26 : decode cX5_read 26 = .ok (.iload_n 3, 1) := by decide +kernel
theorem dX5_read_27 : decode cX5_read 27 = .ok (.aload_n 0, 1) := by decide +kernel
theorem dX5_read_28 : decode cX5_read 28 = .ok (.getfield 46, 3) := by decide +kernel
theorem dX5_read_31 : decode cX5_read 31 = .ok (.if_icmp .ge 38, 3) := by decide +kernel
theorem dX5_read_34 : decode cX5_read 34 = .ok (.aload_n 0, 1) := by decide +kernel
theorem dX5_read_35 : decode cX5_read 35 = .ok (.aload_n 0, 1) := by decide +kernel
theorem dX5_read_36 : decode cX5_read 36 = .ok (.aload_n 0, 1) := by decide +kernel
theorem dX5_read_37 : decode cX5_read 37 = .ok (.getfield 55, 3) := by decide +kernel
theorem dX5_read_40 : decode cX5_read 40 = .ok (.invokevirtual 201, 3) := by decide +kernel
theorem dX5_read_43 : decode cX5_read 43 = .ok (.putfield 55, 3) := by decide +kernel
theorem dX5_read_46 : decode cX5_read 46 = .ok (.aload_n 0, 1) := by decide +kernel
theorem dX5_read_47 : decode cX5_read 47 = .ok (.dup, 1) := by decide +kernel
theorem dX5_read_48 : decode cX5_read 48 = .ok (.getfield 52, 3) := by decide +kernel
theorem dX5_read_51 : decode cX5_read 51 = .ok (.iload_n 2, 1) := by decide +kernel
theorem dX5_read_52 : decode cX5_read 52 = .ok (.aload_n 0, 1) := by decide +kernel
theorem dX5_read_53 : decode cX5_read 53 = .ok (.getfield 55, 3) := by decide +kernel
theorem dX5_read_56 : decode cX5_read 56 = .ok (.invokestatic 204, 3) := by decide +kernel
theorem dX5_read_59 : decode cX5_read 59 = .ok (.ior, 1) := by decide +kernel
theorem dX5_read_60 : decode cX5_read 60 = .ok (.putfield 52, 3) := by decide +kernel
theorem dX5_read_63 : decode cX5_read 63 = .ok (.iinc 3 1, 3) := by decide +kernel
theorem dX5_read_66 : decode cX5_read 66 = .ok (.goto (-40), 3) := by decide +kernel
theorem dX5_read_69 : decode cX5_read 69 = .ok (.aload_n 0, 1) := by decide +kernel
theorem dX5_read_70 : decode cX5_read 70 = .ok (.aload_n 0, 1) := by decide +kernel
theorem dX5_read_71 : decode cX5_read 71 = .ok (.iload_n 2, 1) := by decide +kernel
theorem dX5_read_72 : decode cX5_read 72 = .ok (.aload_n 0, 1) := by decide +kernel
theorem dX5_read_73 : decode cX5_read 73 = .ok (.getfield 52, 3) := by decide +kernel
theorem dX5_read_76 : decode cX5_read 76 = .ok (.invokevirtual 207, 3) := by decide +kernel
theorem dX5_read_79 : decode cX5_read 79 = .ok (.putfield 49, 3) := by decide +kernel
theorem dX5_read_82 : decode cX5_read 82 = .ok (.return_, 1) := by decide +kernel
theorem dX5_findRing_0 : decode cX5_findRing 0 = .ok (.iconst 0, 1) := by decide +kernel
theorem dX5_findRing_1 : decode cX5_findRing 1 = .ok (.istore_n 1, 1) := by decide +kernel
theorem dX5_findRing_2 : decode cX5_findRing 2 = .ok (.aload_n 0, 1) := by decide +kernel
theorem dX5_findRing_3 : decode cX5_findRing 3 = .ok (.iload_n 1, 1) := by decide +kernel
theorem dX5_findRing_4 : decode cX5_findRing 4 = .ok (.invokevirtual 201, 3) := by decide +kernel
theorem dX5_findRing_7 : decode cX5_findRing 7 = .ok (.istore_n 2, 1) := by decide +kernel
theorem dX5_findRing_8 : decode cX5_findRing 8 = .ok (.iconst 1, 1) := by decide +kernel
theorem dX5_findRing_9 : decode cX5_findRing 9 = .ok (.istore_n 3, 1) := by decide +kernel
theorem dX5_findRing_10 : decode cX5_findRing 10 = .ok (.aload_n 0, 1) := by decide +kernel
theorem dX5_findRing_11 : decode cX5_findRing 11 = .ok (.iconst 1, 1) := by decide +kernel
theorem dX5_findRing_12 : decode cX5_findRing 12 = .ok (.putfield 46, 3) := by decide +kernel
theorem dX5_findRing_15 : decode cX5_findRing 15 = .ok (.iconst 0, 1) := by decide +kernel
theorem dX5_findRing_16 : decode cX5_findRing 16 = .ok (.istore 4, 2) := by decide +kernel
theorem dX5_findRing_18 : decode cX5_findRing 18 = .ok (.iload 4, 2) := by decide +kernel
theorem dX5_findRing_20 : decode cX5_findRing 20 = .ok (.ldc 210, 2) := by decide +kernel
theorem dX5_findRing_22 : decode cX5_findRing 22 = .ok (.if_icmp .ge 49, 3) := by decide +kernel
theorem dX5_findRing_25 : decode cX5_findRing 25 = .ok (.iload_n 2, 1) := by decide +kernel
theorem dX5_findRing_26 : decode cX5_findRing 26 = .ok (.iload_n 1, 1) := by decide +kernel
theorem dX5_findRing_27 : decode cX5_findRing 27 = .ok (.if_icmp .eq 44, 3) := by decide +kernel
theorem dX5_findRing_30 : decode cX5_findRing 30 = .ok (.aload_n 0, 1) := by decide +kernel
theorem dX5_findRing_31 : decode cX5_findRing 31 = .ok (.getfield 46, 3) := by decide +kernel
theorem dX5_findRing_34 : decode cX5_findRing 34 = .ok (.iload_n 3, 1) := by decide +kernel
theorem dX5_findRing_35 : decode cX5_findRing 35 = .ok (.if_icmp .ne 14, 3) := by decide +kernel
theorem dX5_findRing_38 : decode cX5_findRing 38 = .ok (.iload_n 2, 1) := by decide +kernel
theorem dX5_findRing_39 : decode cX5_findRing 39 = .ok (.istore_n 1, 1) := by decide +kernel
theorem dX5_findRing_40 : decode cX5_findRing 40 = .ok (.iload_n 3, 1) := by decide +kernel
theorem dX5_findRing_41 : decode cX5_findRing 41 = .ok (.iconst 2, 1) := by decide +kernel
theorem dX5_findRing_42 : decode cX5_findRing 42 = .ok (.imul, 1) := by decide +kernel
theorem dX5_findRing_43 : decode cX5_findRing 43 = .ok (.istore_n 3, 1) := by decide +kernel
theorem dX5_findRing_44 : decode cX5_findRing 44 = .ok (.aload_n 0, 1) := by decide +kernel
theorem dX5_findRing_45 : decode cX5_findRing 45 = .ok (.iconst 0, 1) := by decide +kernel
theorem dX5_findRing_46 : decode cX5_findRing 46 = .ok (.putfield 46, 3) := by decide +kernel
theorem dX5_findRing_49 : decode cX5_findRing 49 = .ok (.aload_n 0, 1) := by decide +kernel
theorem dX5_findRing_50 : decode cX5_findRing 50 = .ok (.iload_n 2, 1) := by decide +kernel
theorem dX5_findRing_51 : decode cX5_findRing 51 = .ok (.invokevirtual 201, 3) := by decide +kernel
theorem dX5_findRing_54 : decode cX5_findRing 54 = .ok (.istore_n 2, 1) := by decide +kernel
theorem dX5_findRing_55 : decode cX5_findRing 55 = .ok (.aload_n 0, 1) := by decide +kernel
theorem dX5_findRing_56 : decode cX5_findRing 56 = .ok (.dup, 1) := by decide +kernel
theorem dX5_findRing_57 : decode cX5_findRing 57 = .ok (.getfield 46, 3) := by decide +kernel
theorem dX5_findRing_60 : decode cX5_findRing 60 = .ok (.iconst 1, 1) := by decide +kernel
theorem dX5_findRing_61 : decode cX5_findRing 61 = .ok (.iadd, 1) := by decide +kernel
theorem dX5_findRing_62 : decode cX5_findRing 62 = .ok (.putfield 46, 3) := by decide +kernel
theorem dX5_findRing_65 : decode cX5_findRing 65 = .ok (.iinc 4 1, 3) := by decide +kernel
theorem dX5_findRing_68 : decode cX5_findRing 68 = .ok (.goto (-50), 3) := by decide +kernel
theorem dX5_findRing_71 : decode cX5_findRing 71 = .ok (.return_, 1) := by decide +kernel
theorem dX5_findRounds_0 : decode cX5_findRounds 0 = .ok (.iconst 0, 1) := by decide +kernel
theorem dX5_findRounds_1 : decode cX5_findRounds 1 = .ok (.istore_n 1, 1) := by decide +kernel
theorem dX5_findRounds_2 : decode cX5_findRounds 2 = .ok (.iconst 0, 1) := by decide +kernel
theorem dX5_findRounds_3 : decode cX5_findRounds 3 = .ok (.istore_n 2, 1) := by decide +kernel
theorem dX5_findRounds_4 : decode cX5_findRounds 4 = .ok (.iload_n 2, 1) := by decide +kernel
theorem dX5_findRounds_5 : decode cX5_findRounds 5 = .ok (.aload_n 0, 1) := by decide +kernel
theorem dX5_findRounds_6 : decode cX5_findRounds 6 = .ok (.getfield 46, 3) := by decide +kernel
theorem dX5_findRounds_9 : decode cX5_findRounds 9 = .ok (.if_icmp .ge 15, 3) := by decide +kernel
theorem dX5_findRounds_12 : decode cX5_findRounds 12 = .ok (.aload_n 0, 1) := by decide +kernel
theorem dX5_findRounds_13 : decode cX5_findRounds 13 = .ok (.iload_n 1, 1) := by decide +kernel
theorem dX5_findRounds_14 : decode cX5_findRounds 14 = .ok (.invokevirtual 201, 3) := by decide +kernel
theorem dX5_findRounds_17 : decode cX5_findRounds 17 = .ok (.istore_n 1, 1) := by decide +kernel
theorem dX5_findRounds_18 : decode cX5_findRounds 18 = .ok (.iinc 2 1, 3) := by decide +kernel
theorem dX5_findRounds_21 : decode cX5_findRounds 21 = .ok (.goto (-17), 3) := by decide +kernel
theorem dX5_findRounds_24 : decode cX5_findRounds 24 = .ok (.iconst 0, 1) := by decide +kernel
theorem dX5_findRounds_25 : decode cX5_findRounds 25 = .ok (.istore_n 2, 1) := by decide +kernel
theorem dX5_findRounds_26 : decode cX5_findRounds 26 = .ok (.aload_n 0, 1) := by decide +kernel
theorem dX5_findRounds_27 : decode cX5_findRounds 27 = .ok (.iconst 0, 1) := by decide +kernel
theorem dX5_findRounds_28 : decode cX5_findRounds 28 = .ok (.putfield 43, 3) := by decide +kernel
theorem dX5_findRounds_31 : decode cX5_findRounds 31 = .ok (.iconst 0, 1) := by decide +kernel
theorem dX5_findRounds_32 : decode cX5_findRounds 32 = .ok (.istore_n 3, 1) := by decide +kernel
theorem dX5_findRounds_33 : decode cX5_findRounds 33 = .ok (.iload_n 3, 1) := by decide +kernel
theorem dX5_findRounds_34 : decode cX5_findRounds 34 = .ok (.ldc 210, 2) := by decide +kernel
theorem dX5_findRounds_36 : decode cX5_findRounds 36 = .ok (.if_icmp .ge 36, 3) := by decide +kernel
theorem dX5_findRounds_39 : decode cX5_findRounds 39 = .ok (.iload_n 2, 1) := by decide +kernel
theorem dX5_findRounds_40 : decode cX5_findRounds 40 = .ok (.iload_n 1, 1) := by decide +kernel
theorem dX5_findRounds_41 : decode cX5_findRounds 41 = .ok (.if_icmp .eq 31, 3) := by decide +kernel
theorem dX5_findRounds_44 : decode cX5_findRounds 44 = .ok (.aload_n 0, 1) := by decide +kernel
theorem dX5_findRounds_45 : decode cX5_findRounds 45 = .ok (.iload_n 2, 1) := by decide +kernel
theorem dX5_findRounds_46 : decode cX5_findRounds 46 = .ok (.invokevirtual 201, 3) := by decide +kernel
theorem dX5_findRounds_49 : decode cX5_findRounds 49 = .ok (.istore_n 2, 1) := by decide +kernel
theorem dX5_findRounds_50 : decode cX5_findRounds 50 = .ok (.aload_n 0, 1) := by decide +kernel
theorem dX5_findRounds_51 : decode cX5_findRounds 51 = .ok (.iload_n 1, 1) := by decide +kernel
theorem dX5_findRounds_52 : decode cX5_findRounds 52 = .ok (.invokevirtual 201, 3) := by decide +kernel
theorem dX5_findRounds_55 : decode cX5_findRounds 55 = .ok (.istore_n 1, 1) := by decide +kernel
theorem dX5_findRounds_56 : decode cX5_findRounds 56 = .ok (.aload_n 0, 1) := by decide +kernel
theorem dX5_findRounds_57 : decode cX5_findRounds 57 = .ok (.dup, 1) := by decide +kernel
theorem dX5_findRounds_58 : decode cX5_findRounds 58 = .ok (.getfield 43, 3) := by decide +kernel
theorem dX5_findRounds_61 : decode cX5_findRounds 61 = .ok (.iconst 1, 1) := by decide +kernel
theorem dX5_findRounds_62 : decode cX5_findRounds 62 = .ok (.iadd, 1) := by decide +kernel
theorem dX5_findRounds_63 : decode cX5_findRounds 63 = .ok (.putfield 43, 3) := by decide +kernel
theorem dX5_findRounds_66 : decode cX5_findRounds 66 = .ok (.iinc 3 1, 3) := by decide +kernel
theorem dX5_findRounds_69 : decode cX5_findRounds 69 = .ok (.goto (-36), 3) := by decide +kernel
theorem dX5_findRounds_72 : decode cX5_findRounds 72 = .ok (.iload_n 2, 1) := by decide +kernel
theorem dX5_findRounds_73 : decode cX5_findRounds 73 = .ok (.ireturn, 1) := by decide +kernel
theorem dX5_without_0 : decode cX5_without 0 = .ok (.iload_n 1, 1) := by decide +kernel
theorem dX5_without_1 : decode cX5_without 1 = .ok (.aload_n 0, 1) := by decide +kernel
theorem dX5_without_2 : decode cX5_without 2 = .ok (.getfield 40, 3) := by decide +kernel
theorem dX5_without_5 : decode cX5_without 5 = .ok (.invokestatic 175, 3) := by decide +kernel
theorem dX5_without_8 : decode cX5_without 8 = .ok (.iconst 0, 1) := by decide +kernel
theorem dX5_without_9 : decode cX5_without 9 = .ok (.istore_n 3, 1) := by decide +kernel
theorem dX5_without_10 : decode cX5_without 10 = .ok (.iconst 0, 1) := by decide +kernel
theorem dX5_without_11 : decode cX5_without 11 = .ok (.istore 4, 2) := by decide +kernel
theorem dX5_without_13 : decode cX5_without 13 = .ok (.iload 4, 2) := by decide +kernel
theorem dX5_without_15 : decode cX5_without 15 = .ok (.bipush 6, 2) := by decide +kernel
theorem dX5_without_17 : decode cX5_without 17 = .ok (.if_icmp .ge 36, 3) := by decide +kernel
theorem dX5_without_20 : decode cX5_without 20 = .ok (.iload_n 3, 1) := by decide +kernel
theorem dX5_without_21 : decode cX5_without 21 = .ok (.bipush 6, 2) := by decide +kernel
theorem dX5_without_23 : decode cX5_without 23 = .ok (.imul, 1) := by decide +kernel
theorem dX5_without_24 : decode cX5_without 24 = .ok (.iload_n 2, 1) := by decide +kernel
theorem dX5_without_25 : decode cX5_without 25 = .ok (.iload 4, 2) := by decide +kernel
theorem dX5_without_27 : decode cX5_without 27 = .ok (.invokestatic 103, 3) := by decide +kernel
theorem dX5_without_30 : decode cX5_without 30 = .ok (.iconst 1, 1) := by decide +kernel
theorem dX5_without_31 : decode cX5_without 31 = .ok (.if_icmp .ne 7, 3) := by decide +kernel
theorem dX5_without_34 : decode cX5_without 34 = .ok (.iconst 0, 1) := by decide +kernel
theorem dX5_without_35 : decode cX5_without 35 = .ok (.goto 10, 3) := by decide +kernel
theorem dX5_without_38 : decode cX5_without 38 = .ok (.aload_n 0, 1) := by decide +kernel
theorem dX5_without_39 : decode cX5_without 39 = .ok (.getfield 40, 3) := by decide +kernel
theorem dX5_without_42 : decode cX5_without 42 = .ok (.iload 4, 2) := by decide +kernel
theorem dX5_without_44 : decode cX5_without 44 = .ok (.iaload, 1) := by decide +kernel
theorem dX5_without_45 : decode cX5_without 45 = .ok (.iadd, 1) := by decide +kernel
theorem dX5_without_46 : decode cX5_without 46 = .ok (.istore_n 3, 1) := by decide +kernel
theorem dX5_without_47 : decode cX5_without 47 = .ok (.iinc 4 1, 3) := by decide +kernel
theorem dX5_without_50 : decode cX5_without 50 = .ok (.goto (-37), 3) := by decide +kernel
theorem dX5_without_53 : decode cX5_without 53 = .ok (.iload_n 3, 1) := by decide +kernel
theorem dX5_without_54 : decode cX5_without 54 = .ok (.ireturn, 1) := by decide +kernel
theorem dX5_reasonOf_0 : decode cX5_reasonOf 0 = .ok (.aload_n 0, 1) := by decide +kernel
theorem dX5_reasonOf_1 : decode cX5_reasonOf 1 = .ok (.getfield 52, 3) := by decide +kernel
theorem dX5_reasonOf_4 : decode cX5_reasonOf 4 = .ok (.iload_n 1, 1) := by decide +kernel
theorem dX5_reasonOf_5 : decode cX5_reasonOf 5 = .ok (.invokestatic 103, 3) := by decide +kernel
theorem dX5_reasonOf_8 : decode cX5_reasonOf 8 = .ok (.iconst 1, 1) := by decide +kernel
theorem dX5_reasonOf_9 : decode cX5_reasonOf 9 = .ok (.if_icmp .ne 5, 3) := by decide +kernel
theorem dX5_reasonOf_12 : decode cX5_reasonOf 12 = .ok (.iconst 4, 1) := by decide +kernel
theorem dX5_reasonOf_13 : decode cX5_reasonOf 13 = .ok (.ireturn, 1) := by decide +kernel
theorem dX5_reasonOf_14 : decode cX5_reasonOf 14 = .ok (.aload_n 0, 1) := by decide +kernel
theorem dX5_reasonOf_15 : decode cX5_reasonOf 15 = .ok (.getfield 55, 3) := by decide +kernel
theorem dX5_reasonOf_18 : decode cX5_reasonOf 18 = .ok (.aload_n 0, 1) := by decide +kernel
theorem dX5_reasonOf_19 : decode cX5_reasonOf 19 = .ok (.getfield 40, 3) := by decide +kernel
theorem dX5_reasonOf_22 : decode cX5_reasonOf 22 = .ok (.invokestatic 175, 3) := by decide +kernel
theorem dX5_reasonOf_25 : decode cX5_reasonOf 25 = .ok (.aload_n 0, 1) := by decide +kernel
theorem dX5_reasonOf_26 : decode cX5_reasonOf 26 = .ok (.getfield 58, 3) := by decide +kernel
theorem dX5_reasonOf_29 : decode cX5_reasonOf 29 = .ok (.iload_n 1, 1) := by decide +kernel
theorem dX5_reasonOf_30 : decode cX5_reasonOf 30 = .ok (.aload_n 0, 1) := by decide +kernel
theorem dX5_reasonOf_31 : decode cX5_reasonOf 31 = .ok (.getfield 40, 3) := by decide +kernel
theorem dX5_reasonOf_34 : decode cX5_reasonOf 34 = .ok (.invokevirtual 179, 3) := by decide +kernel
theorem dX5_reasonOf_37 : decode cX5_reasonOf 37 = .ok (.ifCond .eq 19, 3) := by decide +kernel
theorem dX5_reasonOf_40 : decode cX5_reasonOf 40 = .ok (.aload_n 0, 1) := by decide +kernel
theorem dX5_reasonOf_41 : decode cX5_reasonOf 41 = .ok (.getfield 36, 3) := by decide +kernel
theorem dX5_reasonOf_44 : decode cX5_reasonOf 44 = .ok (.iload_n 1, 1) := by decide +kernel
theorem dX5_reasonOf_45 : decode cX5_reasonOf 45 = .ok (.aaload, 1) := by decide +kernel
theorem dX5_reasonOf_46 : decode cX5_reasonOf 46 = .ok (.aload_n 0, 1) := by decide +kernel
theorem dX5_reasonOf_47 : decode cX5_reasonOf 47 = .ok (.getfield 40, 3) := by decide +kernel
theorem dX5_reasonOf_50 : decode cX5_reasonOf 50 = .ok (.invokevirtual 183, 3) := by decide +kernel
theorem dX5_reasonOf_53 : decode cX5_reasonOf 53 = .ok (.goto 5, 3) := by decide +kernel
theorem dX5_reasonOf_56 : decode cX5_reasonOf 56 = .ok (.bipush (-9), 2) := by decide +kernel
theorem dX5_reasonOf_58 : decode cX5_reasonOf 58 = .ok (.istore_n 2, 1) := by decide +kernel
theorem dX5_reasonOf_59 : decode cX5_reasonOf 59 = .ok (.aload_n 0, 1) := by decide +kernel
theorem dX5_reasonOf_60 : decode cX5_reasonOf 60 = .ok (.getfield 36, 3) := by decide +kernel
theorem dX5_reasonOf_63 : decode cX5_reasonOf 63 = .ok (.iload_n 1, 1) := by decide +kernel
theorem dX5_reasonOf_64 : decode cX5_reasonOf 64 = .ok (.aaload, 1) := by decide +kernel
theorem dX5_reasonOf_65 : decode cX5_reasonOf 65 = .ok (.iload_n 2, 1) := by decide +kernel
theorem dX5_reasonOf_66 : decode cX5_reasonOf 66 = .ok (.invokevirtual 211, 3) := by decide +kernel
theorem dX5_reasonOf_69 : decode cX5_reasonOf 69 = .ok (.ireturn, 1) := by decide +kernel
theorem dX5_stillOpen_0 : decode cX5_stillOpen 0 = .ok (.aload_n 0, 1) := by decide +kernel
theorem dX5_stillOpen_1 : decode cX5_stillOpen 1 = .ok (.getfield 49, 3) := by decide +kernel
theorem dX5_stillOpen_4 : decode cX5_stillOpen 4 = .ok (.aload_n 0, 1) := by decide +kernel
theorem dX5_stillOpen_5 : decode cX5_stillOpen 5 = .ok (.getfield 40, 3) := by decide +kernel
theorem dX5_stillOpen_8 : decode cX5_stillOpen 8 = .ok (.invokestatic 175, 3) := by decide +kernel
theorem dX5_stillOpen_11 : decode cX5_stillOpen 11 = .ok (.iconst 0, 1) := by decide +kernel
theorem dX5_stillOpen_12 : decode cX5_stillOpen 12 = .ok (.istore_n 1, 1) := by decide +kernel
theorem dX5_stillOpen_13 : decode cX5_stillOpen 13 = .ok (.iconst 0, 1) := by decide +kernel
theorem dX5_stillOpen_14 : decode cX5_stillOpen 14 = .ok (.istore_n 2, 1) := by decide +kernel
theorem dX5_stillOpen_15 : decode cX5_stillOpen 15 = .ok (.iload_n 2, 1) := by decide +kernel
theorem dX5_stillOpen_16 : decode cX5_stillOpen 16 = .ok (.bipush 6, 2) := by decide +kernel
theorem dX5_stillOpen_18 : decode cX5_stillOpen 18 = .ok (.if_icmp .ge 39, 3) := by decide +kernel
theorem dX5_stillOpen_21 : decode cX5_stillOpen 21 = .ok (.aload_n 0, 1) := by decide +kernel
theorem dX5_stillOpen_22 : decode cX5_stillOpen 22 = .ok (.getfield 40, 3) := by decide +kernel
theorem dX5_stillOpen_25 : decode cX5_stillOpen 25 = .ok (.iload_n 2, 1) := by decide +kernel
theorem dX5_stillOpen_26 : decode cX5_stillOpen 26 = .ok (.iaload, 1) := by decide +kernel
theorem dX5_stillOpen_27 : decode cX5_stillOpen 27 = .ok (.ifCond .ne 24, 3) := by decide +kernel
theorem dX5_stillOpen_30 : decode cX5_stillOpen 30 = .ok (.aload_n 0, 1) := by decide +kernel
theorem dX5_stillOpen_31 : decode cX5_stillOpen 31 = .ok (.getfield 58, 3) := by decide +kernel
theorem dX5_stillOpen_34 : decode cX5_stillOpen 34 = .ok (.iload_n 2, 1) := by decide +kernel
theorem dX5_stillOpen_35 : decode cX5_stillOpen 35 = .ok (.aload_n 0, 1) := by decide +kernel
theorem dX5_stillOpen_36 : decode cX5_stillOpen 36 = .ok (.getfield 40, 3) := by decide +kernel
theorem dX5_stillOpen_39 : decode cX5_stillOpen 39 = .ok (.invokevirtual 179, 3) := by decide +kernel
theorem dX5_stillOpen_42 : decode cX5_stillOpen 42 = .ok (.ifCond .eq 9, 3) := by decide +kernel
theorem dX5_stillOpen_45 : decode cX5_stillOpen 45 = .ok (.iload_n 1, 1) := by decide +kernel
theorem dX5_stillOpen_46 : decode cX5_stillOpen 46 = .ok (.iconst 1, 1) := by decide +kernel
theorem dX5_stillOpen_47 : decode cX5_stillOpen 47 = .ok (.iload_n 2, 1) := by decide +kernel
theorem dX5_stillOpen_48 : decode cX5_stillOpen 48 = .ok (.ishl, 1) := by decide +kernel
theorem dX5_stillOpen_49 : decode cX5_stillOpen 49 = .ok (.ior, 1) := by decide +kernel
theorem dX5_stillOpen_50 : decode cX5_stillOpen 50 = .ok (.istore_n 1, 1) := by decide +kernel
theorem dX5_stillOpen_51 : decode cX5_stillOpen 51 = .ok (.iinc 2 1, 3) := by decide +kernel
theorem dX5_stillOpen_54 : decode cX5_stillOpen 54 = .ok (.goto (-39), 3) := by decide +kernel
theorem dX5_stillOpen_57 : decode cX5_stillOpen 57 = .ok (.iload_n 1, 1) := by decide +kernel
theorem dX5_stillOpen_58 : decode cX5_stillOpen 58 = .ok (.ireturn, 1) := by decide +kernel
theorem dX6_init_0 : decode cX6_init 0 = .ok (.aload_n 0, 1) := by decide +kernel
theorem dX6_init_1 : decode cX6_init 1 = .ok (.invokespecial 3, 3) := by decide +kernel
theorem dX6_init_4 : decode cX6_init 4 = .ok (.aload_n 0, 1) := by decide +kernel
theorem dX6_init_5 : decode cX6_init 5 = .ok (.iconst 0, 1) := by decide +kernel
theorem dX6_init_6 : decode cX6_init 6 = .ok (.putfield 9, 3) := by decide +kernel
theorem dX6_init_9 : decode cX6_init 9 = .ok (.aload_n 0, 1) := by decide +kernel
theorem dX6_init_10 : decode cX6_init 10 = .ok (.iconst 0, 1) := by decide +kernel
theorem dX6_init_11 : decode cX6_init 11 = .ok (.putfield 15, 3) := by decide +kernel
theorem dX6_init_14 : decode cX6_init 14 = .ok (.aload_n 0, 1) := by decide +kernel
theorem dX6_init_15 : decode cX6_init 15 = .ok (.iconst 0, 1) := by decide +kernel
theorem dX6_init_16 : decode cX6_init 16 = .ok (.putfield 18, 3) := by decide +kernel
theorem dX6_init_19 : decode cX6_init 19 = .ok (.aload_n 0, 1) := by decide +kernel
theorem dX6_init_20 : decode cX6_init 20 = .ok (.bipush (-9), 2) := by decide +kernel
theorem dX6_init_22 : decode cX6_init 22 = .ok (.putfield 21, 3) := by decide +kernel
theorem dX6_init_25 : decode cX6_init 25 = .ok (.aload_n 0, 1) := by decide +kernel
theorem dX6_init_26 : decode cX6_init 26 = .ok (.bipush (-9), 2) := by decide +kernel
theorem dX6_init_28 : decode cX6_init 28 = .ok (.putfield 24, 3) := by decide +kernel
theorem dX6_init_31 : decode cX6_init 31 = .ok (.aload_n 0, 1) := by decide +kernel
theorem dX6_init_32 : decode cX6_init 32 = .ok (.bipush (-9), 2) := by decide +kernel
theorem dX6_init_34 : decode cX6_init 34 = .ok (.putfield 27, 3) := by decide +kernel
theorem dX6_init_37 : decode cX6_init 37 = .ok (.return_, 1) := by decide +kernel
theorem dX6_clear_0 : decode cX6_clear 0 = .ok (.aload_n 0, 1) := by decide +kernel
theorem dX6_clear_1 : decode cX6_clear 1 = .ok (.bipush (-9), 2) := by decide +kernel
theorem dX6_clear_3 : decode cX6_clear 3 = .ok (.putfield 21, 3) := by decide +kernel
theorem dX6_clear_6 : decode cX6_clear 6 = .ok (.aload_n 0, 1) := by decide +kernel
theorem dX6_clear_7 : decode cX6_clear 7 = .ok (.bipush (-9), 2) := by decide +kernel
theorem dX6_clear_9 : decode cX6_clear 9 = .ok (.putfield 24, 3) := by decide +kernel
theorem dX6_clear_12 : decode cX6_clear 12 = .ok (.aload_n 0, 1) := by decide +kernel
theorem dX6_clear_13 : decode cX6_clear 13 = .ok (.bipush (-9), 2) := by decide +kernel
theorem dX6_clear_15 : decode cX6_clear 15 = .ok (.putfield 27, 3) := by decide +kernel
theorem dX6_clear_18 : decode cX6_clear 18 = .ok (.return_, 1) := by decide +kernel
theorem dX6_accept_0 : decode cX6_accept 0 = .ok (.iload_n 1, 1) := by decide +kernel
theorem dX6_accept_1 : decode cX6_accept 1 = .ok (.tableswitch 259 0 9 #[55, 79, 105, 118, 144, 159, 186, 200, 227, 232], 55) := by decide +kernel
theorem dX6_accept_56 : decode cX6_accept 56 = .ok (.aload_n 0, 1) := by decide +kernel
theorem dX6_accept_57 : decode cX6_accept 57 = .ok (.ldc 30, 2) := by decide +kernel
theorem dX6_accept_59 : decode cX6_accept 59 = .ok (.iload_n 2, 1) := by decide +kernel
theorem dX6_accept_60 : decode cX6_accept 60 = .ok (.invokevirtual 32, 3) := by decide +kernel
theorem dX6_accept_63 : decode cX6_accept 63 = .ok (.putfield 9, 3) := by decide +kernel
theorem dX6_accept_66 : decode cX6_accept 66 = .ok (.aload_n 0, 1) := by decide +kernel
theorem dX6_accept_67 : decode cX6_accept 67 = .ok (.getfield 9, 3) := by decide +kernel
theorem dX6_accept_70 : decode cX6_accept 70 = .ok (.ifCond .ge 8, 3) := by decide +kernel
theorem dX6_accept_73 : decode cX6_accept 73 = .ok (.bipush (-9), 2) := by decide +kernel
theorem dX6_accept_75 : decode cX6_accept 75 = .ok (.goto 4, 3) := by decide +kernel
theorem dX6_accept_78 : decode cX6_accept 78 = .ok (.iconst 1, 1) := by decide +kernel
theorem dX6_accept_79 : decode cX6_accept 79 = .ok (.ireturn, 1) := by decide +kernel
theorem dX6_accept_80 : decode cX6_accept 80 = .ok (.aload_n 0, 1) := by decide +kernel
theorem dX6_accept_81 : decode cX6_accept 81 = .ok (.iload_n 2, 1) := by decide +kernel
theorem dX6_accept_82 : decode cX6_accept 82 = .ok (.iconst 0, 1) := by decide +kernel
theorem dX6_accept_83 : decode cX6_accept 83 = .ok (.iconst 5, 1) := by decide +kernel
theorem dX6_accept_84 : decode cX6_accept 84 = .ok (.invokestatic 38, 3) := by decide +kernel
theorem dX6_accept_87 : decode cX6_accept 87 = .ok (.putfield 15, 3) := by decide +kernel
theorem dX6_accept_90 : decode cX6_accept 90 = .ok (.aload_n 0, 1) := by decide +kernel
theorem dX6_accept_91 : decode cX6_accept 91 = .ok (.getfield 15, 3) := by decide +kernel
theorem dX6_accept_94 : decode cX6_accept 94 = .ok (.bipush (-9), 2) := by decide +kernel
theorem dX6_accept_96 : decode cX6_accept 96 = .ok (.if_icmp .ne 8, 3) := by decide +kernel
theorem dX6_accept_99 : decode cX6_accept 99 = .ok (.bipush (-9), 2) := by decide +kernel
theorem dX6_accept_101 : decode cX6_accept 101 = .ok (.goto 4, 3) := by decide +kernel
theorem dX6_accept_104 : decode cX6_accept 104 = .ok (.iconst 2, 1) := by decide +kernel
theorem dX6_accept_105 : decode cX6_accept 105 = .ok (.ireturn, 1) := by decide +kernel
theorem dX6_accept_106 : decode cX6_accept 106 = .ok (.iload_n 2, 1) := by decide +kernel
theorem dX6_accept_107 : decode cX6_accept 107 = .ok (.bipush 61, 2) := by decide +kernel
theorem dX6_accept_109 : decode cX6_accept 109 = .ok (.if_icmp .ne 7, 3) := by decide +kernel
theorem dX6_accept_112 : decode cX6_accept 112 = .ok (.iconst 3, 1) := by decide +kernel
theorem dX6_accept_113 : decode cX6_accept 113 = .ok (.goto 5, 3) := by decide +kernel
theorem dX6_accept_116 : decode cX6_accept 116 = .ok (.bipush (-9), 2) := by decide +kernel
theorem dX6_accept_118 : decode cX6_accept 118 = .ok (.ireturn, 1) := by decide +kernel
theorem dX6_accept_119 : decode cX6_accept 119 = .ok (.aload_n 0, 1) := by decide +kernel
theorem dX6_accept_120 : decode cX6_accept 120 = .ok (.iload_n 2, 1) := by decide +kernel
theorem dX6_accept_121 : decode cX6_accept 121 = .ok (.iconst 1, 1) := by decide +kernel
theorem dX6_accept_122 : decode cX6_accept 122 = .ok (.iconst 5, 1) := by decide +kernel
theorem dX6_accept_123 : decode cX6_accept 123 = .ok (.invokestatic 38, 3) := by decide +kernel
theorem dX6_accept_126 : decode cX6_accept 126 = .ok (.putfield 18, 3) := by decide +kernel
theorem dX6_accept_129 : decode cX6_accept 129 = .ok (.aload_n 0, 1) := by decide +kernel
theorem dX6_accept_130 : decode cX6_accept 130 = .ok (.getfield 18, 3) := by decide +kernel
theorem dX6_accept_133 : decode cX6_accept 133 = .ok (.bipush (-9), 2) := by decide +kernel
theorem dX6_accept_135 : decode cX6_accept 135 = .ok (.if_icmp .ne 8, 3) := by decide +kernel
theorem dX6_accept_138 : decode cX6_accept 138 = .ok (.bipush (-9), 2) := by decide +kernel
theorem dX6_accept_140 : decode cX6_accept 140 = .ok (.goto 4, 3) := by decide +kernel
theorem dX6_accept_143 : decode cX6_accept 143 = .ok (.iconst 4, 1) := by decide +kernel
theorem dX6_accept_144 : decode cX6_accept 144 = .ok (.ireturn, 1) := by decide +kernel
theorem dX6_accept_145 : decode cX6_accept 145 = .ok (.iload_n 2, 1) := by decide +kernel
theorem dX6_accept_146 : decode cX6_accept 146 = .ok (.bipush 63, 2) := by decide +kernel
theorem dX6_accept_148 : decode cX6_accept 148 = .ok (.if_icmp .ne 7, 3) := by decide +kernel
theorem dX6_accept_151 : decode cX6_accept 151 = .ok (.iconst 5, 1) := by decide +kernel
theorem dX6_accept_152 : decode cX6_accept 152 = .ok (.goto 7, 3) := by decide +kernel
theorem dX6_accept_155 : decode cX6_accept 155 = .ok (.iload_n 2, 1) := by decide +kernel
theorem dX6_accept_156 : decode cX6_accept 156 = .ok (.invokestatic 42, 3) := by decide +kernel
theorem dX6_accept_159 : decode cX6_accept 159 = .ok (.ireturn, 1) := by decide +kernel
theorem dX6_accept_160 : decode cX6_accept 160 = .ok (.aload_n 0, 1) := by decide +kernel
theorem dX6_accept_161 : decode cX6_accept 161 = .ok (.iload_n 2, 1) := by decide +kernel
theorem dX6_accept_162 : decode cX6_accept 162 = .ok (.iconst 0, 1) := by decide +kernel
theorem dX6_accept_163 : decode cX6_accept 163 = .ok (.iconst 5, 1) := by decide +kernel
theorem dX6_accept_164 : decode cX6_accept 164 = .ok (.invokestatic 38, 3) := by decide +kernel
theorem dX6_accept_167 : decode cX6_accept 167 = .ok (.putfield 21, 3) := by decide +kernel
theorem dX6_accept_170 : decode cX6_accept 170 = .ok (.aload_n 0, 1) := by decide +kernel
theorem dX6_accept_171 : decode cX6_accept 171 = .ok (.getfield 21, 3) := by decide +kernel
theorem dX6_accept_174 : decode cX6_accept 174 = .ok (.bipush (-9), 2) := by decide +kernel
theorem dX6_accept_176 : decode cX6_accept 176 = .ok (.if_icmp .ne 8, 3) := by decide +kernel
theorem dX6_accept_179 : decode cX6_accept 179 = .ok (.bipush (-9), 2) := by decide +kernel
theorem dX6_accept_181 : decode cX6_accept 181 = .ok (.goto 5, 3) := by decide +kernel
theorem dX6_accept_184 : decode cX6_accept 184 = .ok (.bipush 6, 2) := by decide +kernel
theorem dX6_accept_186 : decode cX6_accept 186 = .ok (.ireturn, 1) := by decide +kernel
theorem dX6_accept_187 : decode cX6_accept 187 = .ok (.iload_n 2, 1) := by decide +kernel
theorem dX6_accept_188 : decode cX6_accept 188 = .ok (.bipush 61, 2) := by decide +kernel
theorem dX6_accept_190 : decode cX6_accept 190 = .ok (.if_icmp .ne 8, 3) := by decide +kernel
theorem dX6_accept_193 : decode cX6_accept 193 = .ok (.bipush 7, 2) := by decide +kernel
theorem dX6_accept_195 : decode cX6_accept 195 = .ok (.goto 5, 3) := by decide +kernel
theorem dX6_accept_198 : decode cX6_accept 198 = .ok (.bipush (-9), 2) := by decide +kernel
theorem dX6_accept_200 : decode cX6_accept 200 = .ok (.ireturn, 1) := by decide +kernel
theorem dX6_accept_201 : decode cX6_accept 201 = .ok (.aload_n 0, 1) := by decide +kernel
theorem dX6_accept_202 : decode cX6_accept 202 = .ok (.iload_n 2, 1) := by decide +kernel
theorem dX6_accept_203 : decode cX6_accept 203 = .ok (.iconst 0, 1) := by decide +kernel
theorem dX6_accept_204 : decode cX6_accept 204 = .ok (.iconst 5, 1) := by decide +kernel
theorem dX6_accept_205 : decode cX6_accept 205 = .ok (.invokestatic 38, 3) := by decide +kernel
theorem dX6_accept_208 : decode cX6_accept 208 = .ok (.putfield 24, 3) := by decide +kernel
theorem dX6_accept_211 : decode cX6_accept 211 = .ok (.aload_n 0, 1) := by decide +kernel
theorem dX6_accept_212 : decode cX6_accept 212 = .ok (.getfield 24, 3) := by decide +kernel
theorem dX6_accept_215 : decode cX6_accept 215 = .ok (.bipush (-9), 2) := by decide +kernel
theorem dX6_accept_217 : decode cX6_accept 217 = .ok (.if_icmp .ne 8, 3) := by decide +kernel
theorem dX6_accept_220 : decode cX6_accept 220 = .ok (.bipush (-9), 2) := by decide +kernel
theorem dX6_accept_222 : decode cX6_accept 222 = .ok (.goto 5, 3) := by decide +kernel
theorem dX6_accept_225 : decode cX6_accept 225 = .ok (.bipush 8, 2) := by decide +kernel
theorem dX6_accept_227 : decode cX6_accept 227 = .ok (.ireturn, 1) := by decide +kernel
theorem dX6_accept_228 : decode cX6_accept 228 = .ok (.iload_n 2, 1) := by decide +kernel
theorem dX6_accept_229 : decode cX6_accept 229 = .ok (.invokestatic 42, 3) := by decide +kernel
theorem dX6_accept_232 : decode cX6_accept 232 = .ok (.ireturn, 1) := by decide +kernel
theorem dX6_accept_233 : decode cX6_accept 233 = .ok (.aload_n 0, 1) := by decide +kernel
theorem dX6_accept_234 : decode cX6_accept 234 = .ok (.iload_n 2, 1) := by decide +kernel
theorem dX6_accept_235 : decode cX6_accept 235 = .ok (.iconst 0, 1) := by decide +kernel
theorem dX6_accept_236 : decode cX6_accept 236 = .ok (.iconst 2, 1) := by decide +kernel
theorem dX6_accept_237 : decode cX6_accept 237 = .ok (.invokestatic 38, 3) := by decide +kernel
theorem dX6_accept_240 : decode cX6_accept 240 = .ok (.putfield 27, 3) := by decide +kernel
theorem dX6_accept_243 : decode cX6_accept 243 = .ok (.aload_n 0, 1) := by decide +kernel
theorem dX6_accept_244 : decode cX6_accept 244 = .ok (.getfield 27, 3) := by decide +kernel
theorem dX6_accept_247 : decode cX6_accept 247 = .ok (.bipush (-9), 2) := by decide +kernel
theorem dX6_accept_249 : decode cX6_accept 249 = .ok (.if_icmp .ne 8, 3) := by decide +kernel
theorem dX6_accept_252 : decode cX6_accept 252 = .ok (.bipush (-9), 2) := by decide +kernel
theorem dX6_accept_254 : decode cX6_accept 254 = .ok (.goto 5, 3) := by decide +kernel
theorem dX6_accept_257 : decode cX6_accept 257 = .ok (.bipush 10, 2) := by decide +kernel
theorem dX6_accept_259 : decode cX6_accept 259 = .ok (.ireturn, 1) := by decide +kernel
theorem dX6_accept_260 : decode cX6_accept 260 = .ok (.bipush (-9), 2) := by decide +kernel
theorem dX6_accept_262 : decode cX6_accept 262 = .ok (.ireturn, 1) := by decide +kernel
theorem dX6_acceptBehindIf_0 : decode cX6_acceptBehindIf 0 = .ok (.iload_n 0, 1) := by decide +kernel
theorem dX6_acceptBehindIf_1 : decode cX6_acceptBehindIf 1 = .ok (.bipush 64, 2) := by decide +kernel
theorem dX6_acceptBehindIf_3 : decode cX6_acceptBehindIf 3 = .ok (.if_icmp .ne 8, 3) := by decide +kernel
theorem dX6_acceptBehindIf_6 : decode cX6_acceptBehindIf 6 = .ok (.bipush 9, 2) := by decide +kernel
theorem dX6_acceptBehindIf_8 : decode cX6_acceptBehindIf 8 = .ok (.goto 5, 3) := by decide +kernel
theorem dX6_acceptBehindIf_11 : decode cX6_acceptBehindIf 11 = .ok (.bipush (-9), 2) := by decide +kernel
theorem dX6_acceptBehindIf_13 : decode cX6_acceptBehindIf 13 = .ok (.ireturn, 1) := by decide +kernel
theorem dX6_isWhole_0 : decode cX6_isWhole 0 = .ok (.iload_n 1, 1) := by decide +kernel
theorem dX6_isWhole_1 : decode cX6_isWhole 1 = .ok (.iconst 4, 1) := by decide +kernel
theorem dX6_isWhole_2 : decode cX6_isWhole 2 = .ok (.if_icmp .eq 15, 3) := by decide +kernel
theorem dX6_isWhole_5 : decode cX6_isWhole 5 = .ok (.iload_n 1, 1) := by decide +kernel
theorem dX6_isWhole_6 : decode cX6_isWhole 6 = .ok (.bipush 8, 2) := by decide +kernel
theorem dX6_isWhole_8 : decode cX6_isWhole 8 = .ok (.if_icmp .eq 9, 3) := by decide +kernel
theorem dX6_isWhole_11 : decode cX6_isWhole 11 = .ok (.iload_n 1, 1) := by decide +kernel
theorem dX6_isWhole_12 : decode cX6_isWhole 12 = .ok (.bipush 10, 2) := by decide +kernel
theorem dX6_isWhole_14 : decode cX6_isWhole 14 = .ok (.if_icmp .ne 7, 3) := by decide +kernel
theorem dX6_isWhole_17 : decode cX6_isWhole 17 = .ok (.iconst 1, 1) := by decide +kernel
theorem dX6_isWhole_18 : decode cX6_isWhole 18 = .ok (.goto 4, 3) := by decide +kernel
theorem dX6_isWhole_21 : decode cX6_isWhole 21 = .ok (.iconst 0, 1) := by decide +kernel
theorem dX6_isWhole_22 : decode cX6_isWhole 22 = .ok (.ireturn, 1) := by decide +kernel
theorem dX6_tells_0 : decode cX6_tells 0 = .ok (.iload_n 1, 1) := by decide +kernel
theorem dX6_tells_1 : decode cX6_tells 1 = .ok (.tableswitch 69 0 5 #[39, 44, 49, 54, 59, 64], 39) := by decide +kernel
theorem dX6_tells_40 : decode cX6_tells 40 = .ok (.aload_n 0, 1) := by decide +kernel
theorem dX6_tells_41 : decode cX6_tells 41 = .ok (.getfield 9, 3) := by decide +kernel
theorem dX6_tells_44 : decode cX6_tells 44 = .ok (.ireturn, 1) := by decide +kernel
theorem dX6_tells_45 : decode cX6_tells 45 = .ok (.aload_n 0, 1) := by decide +kernel
theorem dX6_tells_46 : decode cX6_tells 46 = .ok (.getfield 15, 3) := by decide +kernel
theorem dX6_tells_49 : decode cX6_tells 49 = .ok (.ireturn, 1) := by decide +kernel
theorem dX6_tells_50 : decode cX6_tells 50 = .ok (.aload_n 0, 1) := by decide +kernel
theorem dX6_tells_51 : decode cX6_tells 51 = .ok (.getfield 18, 3) := by decide +kernel
theorem dX6_tells_54 : decode cX6_tells 54 = .ok (.ireturn, 1) := by decide +kernel
theorem dX6_tells_55 : decode cX6_tells 55 = .ok (.aload_n 0, 1) := by decide +kernel
theorem dX6_tells_56 : decode cX6_tells 56 = .ok (.getfield 21, 3) := by decide +kernel
theorem dX6_tells_59 : decode cX6_tells 59 = .ok (.ireturn, 1) := by decide +kernel
theorem dX6_tells_60 : decode cX6_tells 60 = .ok (.aload_n 0, 1) := by decide +kernel
theorem dX6_tells_61 : decode cX6_tells 61 = .ok (.getfield 24, 3) := by decide +kernel
theorem dX6_tells_64 : decode cX6_tells 64 = .ok (.ireturn, 1) := by decide +kernel
theorem dX6_tells_65 : decode cX6_tells 65 = .ok (.aload_n 0, 1) := by decide +kernel
theorem dX6_tells_66 : decode cX6_tells 66 = .ok (.getfield 27, 3) := by decide +kernel
theorem dX6_tells_69 : decode cX6_tells 69 = .ok (.ireturn, 1) := by decide +kernel
theorem dX6_tells_70 : decode cX6_tells 70 = .ok (.bipush (-2), 2) := by decide +kernel
theorem dX6_tells_72 : decode cX6_tells 72 = .ok (.ireturn, 1) := by decide +kernel
theorem dX7_init_0 : decode cX7_init 0 = .ok (.aload_n 0, 1) := by decide +kernel
theorem dX7_init_1 : decode cX7_init 1 = .ok (.invokespecial 3, 3) := by decide +kernel
theorem dX7_init_4 : decode cX7_init 4 = .ok (.aload_n 0, 1) := by decide +kernel
theorem dX7_init_5 : decode cX7_init 5 = .ok (.bipush 13, 2) := by decide +kernel
theorem dX7_init_7 : decode cX7_init 7 = .ok (.anewarray 9, 3) := by decide +kernel
theorem dX7_init_10 : decode cX7_init 10 = .ok (.putfield 11, 3) := by decide +kernel
theorem dX7_init_13 : decode cX7_init 13 = .ok (.aload_n 0, 1) := by decide +kernel
theorem dX7_init_14 : decode cX7_init 14 = .ok (.iconst 0, 1) := by decide +kernel
theorem dX7_init_15 : decode cX7_init 15 = .ok (.putfield 17, 3) := by decide +kernel
theorem dX7_init_18 : decode cX7_init 18 = .ok (.iconst 0, 1) := by decide +kernel
theorem dX7_init_19 : decode cX7_init 19 = .ok (.istore_n 1, 1) := by decide +kernel
theorem dX7_init_20 : decode cX7_init 20 = .ok (.iload_n 1, 1) := by decide +kernel
theorem dX7_init_21 : decode cX7_init 21 = .ok (.bipush 12, 2) := by decide +kernel
theorem dX7_init_23 : decode cX7_init 23 = .ok (.if_icmp .gt 22, 3) := by decide +kernel
theorem dX7_init_26 : decode cX7_init 26 = .ok (.aload_n 0, 1) := by decide +kernel
theorem dX7_init_27 : decode cX7_init 27 = .ok (.getfield 11, 3) := by decide +kernel
theorem dX7_init_30 : decode cX7_init 30 = .ok (.iload_n 1, 1) := by decide +kernel
theorem dX7_init_31 : decode cX7_init 31 = .ok (.new 9, 3) := by decide +kernel
theorem dX7_init_34 : decode cX7_init 34 = .ok (.dup, 1) := by decide +kernel
theorem dX7_init_35 : decode cX7_init 35 = .ok (.invokespecial 21, 3) := by decide +kernel
theorem dX7_init_38 : decode cX7_init 38 = .ok (.aastore, 1) := by decide +kernel
theorem dX7_init_39 : decode cX7_init 39 = .ok (.iinc 1 1, 3) := by decide +kernel
theorem dX7_init_42 : decode cX7_init 42 = .ok (.goto (-22), 3) := by decide +kernel
theorem dX7_init_45 : decode cX7_init 45 = .ok (.return_, 1) := by decide +kernel
theorem dX7_spare_0 : decode cX7_spare 0 = .ok (.aload_n 0, 1) := by decide +kernel
theorem dX7_spare_1 : decode cX7_spare 1 = .ok (.getfield 11, 3) := by decide +kernel
theorem dX7_spare_4 : decode cX7_spare 4 = .ok (.aload_n 0, 1) := by decide +kernel
theorem dX7_spare_5 : decode cX7_spare 5 = .ok (.getfield 17, 3) := by decide +kernel
theorem dX7_spare_8 : decode cX7_spare 8 = .ok (.aaload, 1) := by decide +kernel
theorem dX7_spare_9 : decode cX7_spare 9 = .ok (.areturn, 1) := by decide +kernel
theorem dX7_remove_0 : decode cX7_remove 0 = .ok (.aload_n 0, 1) := by decide +kernel
theorem dX7_remove_1 : decode cX7_remove 1 = .ok (.getfield 11, 3) := by decide +kernel
theorem dX7_remove_4 : decode cX7_remove 4 = .ok (.iload_n 1, 1) := by decide +kernel
theorem dX7_remove_5 : decode cX7_remove 5 = .ok (.aaload, 1) := by decide +kernel
theorem dX7_remove_6 : decode cX7_remove 6 = .ok (.astore_n 2, 1) := by decide +kernel
theorem dX7_remove_7 : decode cX7_remove 7 = .ok (.aload_n 0, 1) := by decide +kernel
theorem dX7_remove_8 : decode cX7_remove 8 = .ok (.dup, 1) := by decide +kernel
theorem dX7_remove_9 : decode cX7_remove 9 = .ok (.getfield 17, 3) := by decide +kernel
theorem dX7_remove_12 : decode cX7_remove 12 = .ok (.iconst 1, 1) := by decide +kernel
theorem dX7_remove_13 : decode cX7_remove 13 = .ok (.isub, 1) := by decide +kernel
theorem dX7_remove_14 : decode cX7_remove 14 = .ok (.putfield 17, 3) := by decide +kernel
theorem dX7_remove_17 : decode cX7_remove 17 = .ok (.iload_n 1, 1) := by decide +kernel
theorem dX7_remove_18 : decode cX7_remove 18 = .ok (.istore_n 3, 1) := by decide +kernel
theorem dX7_remove_19 : decode cX7_remove 19 = .ok (.iload_n 3, 1) := by decide +kernel
theorem dX7_remove_20 : decode cX7_remove 20 = .ok (.aload_n 0, 1) := by decide +kernel
theorem dX7_remove_21 : decode cX7_remove 21 = .ok (.getfield 17, 3) := by decide +kernel
theorem dX7_remove_24 : decode cX7_remove 24 = .ok (.if_icmp .ge 23, 3) := by decide +kernel
theorem dX7_remove_27 : decode cX7_remove 27 = .ok (.aload_n 0, 1) := by decide +kernel
theorem dX7_remove_28 : decode cX7_remove 28 = .ok (.getfield 11, 3) := by decide +kernel
theorem dX7_remove_31 : decode cX7_remove 31 = .ok (.iload_n 3, 1) := by decide +kernel
theorem dX7_remove_32 : decode cX7_remove 32 = .ok (.aload_n 0, 1) := by decide +kernel
theorem dX7_remove_33 : decode cX7_remove 33 = .ok (.getfield 11, 3) := by decide +kernel
theorem dX7_remove_36 : decode cX7_remove 36 = .ok (.iload_n 3, 1) := by decide +kernel
theorem dX7_remove_37 : decode cX7_remove 37 = .ok (.iconst 1, 1) := by decide +kernel
theorem dX7_remove_38 : decode cX7_remove 38 = .ok (.iadd, 1) := by decide +kernel
theorem dX7_remove_39 : decode cX7_remove 39 = .ok (.aaload, 1) := by decide +kernel
theorem dX7_remove_40 : decode cX7_remove 40 = .ok (.aastore, 1) := by decide +kernel
theorem dX7_remove_41 : decode cX7_remove 41 = .ok (.iinc 3 1, 3) := by decide +kernel
theorem dX7_remove_44 : decode cX7_remove 44 = .ok (.goto (-25), 3) := by decide +kernel
theorem dX7_remove_47 : decode cX7_remove 47 = .ok (.aload_n 0, 1) := by decide +kernel
theorem dX7_remove_48 : decode cX7_remove 48 = .ok (.getfield 11, 3) := by decide +kernel
theorem dX7_remove_51 : decode cX7_remove 51 = .ok (.aload_n 0, 1) := by decide +kernel
theorem dX7_remove_52 : decode cX7_remove 52 = .ok (.getfield 17, 3) := by decide +kernel
theorem dX7_remove_55 : decode cX7_remove 55 = .ok (.aload_n 2, 1) := by decide +kernel
theorem dX7_remove_56 : decode cX7_remove 56 = .ok (.aastore, 1) := by decide +kernel
theorem dX7_remove_57 : decode cX7_remove 57 = .ok (.return_, 1) := by decide +kernel
theorem dX8_init_0 : decode cX8_init 0 = .ok (.aload_n 0, 1) := by decide +kernel
theorem dX8_init_1 : decode cX8_init 1 = .ok (.invokespecial 3, 3) := by decide +kernel
theorem dX8_init_4 : decode cX8_init 4 = .ok (.aload_n 0, 1) := by decide +kernel
theorem dX8_init_5 : decode cX8_init 5 = .ok (.bipush 6, 2) := by decide +kernel
theorem dX8_init_7 : decode cX8_init 7 = .ok (.newarray .int, 2) := by decide +kernel
theorem dX8_init_9 : decode cX8_init 9 = .ok (.putfield 9, 3) := by decide +kernel
theorem dX8_init_12 : decode cX8_init 12 = .ok (.aload_n 0, 1) := by decide +kernel
theorem dX8_init_13 : decode cX8_init 13 = .ok (.iconst 0, 1) := by decide +kernel
theorem dX8_init_14 : decode cX8_init 14 = .ok (.putfield 15, 3) := by decide +kernel
theorem dX8_init_17 : decode cX8_init 17 = .ok (.aload_n 0, 1) := by decide +kernel
theorem dX8_init_18 : decode cX8_init 18 = .ok (.iconst 0, 1) := by decide +kernel
theorem dX8_init_19 : decode cX8_init 19 = .ok (.putfield 19, 3) := by decide +kernel
theorem dX8_init_22 : decode cX8_init 22 = .ok (.return_, 1) := by decide +kernel
theorem dX8_clear_0 : decode cX8_clear 0 = .ok (.iconst 0, 1) := by decide +kernel
theorem dX8_clear_1 : decode cX8_clear 1 = .ok (.istore_n 1, 1) := by decide +kernel
theorem dX8_clear_2 : decode cX8_clear 2 = .ok (.iload_n 1, 1) := by decide +kernel
theorem dX8_clear_3 : decode cX8_clear 3 = .ok (.bipush 6, 2) := by decide +kernel
theorem dX8_clear_5 : decode cX8_clear 5 = .ok (.if_icmp .ge 16, 3) := by decide +kernel
theorem dX8_clear_8 : decode cX8_clear 8 = .ok (.aload_n 0, 1) := by decide +kernel
theorem dX8_clear_9 : decode cX8_clear 9 = .ok (.getfield 9, 3) := by decide +kernel
theorem dX8_clear_12 : decode cX8_clear 12 = .ok (.iload_n 1, 1) := by decide +kernel
theorem dX8_clear_13 : decode cX8_clear 13 = .ok (.iconst 0, 1) := by decide +kernel
theorem dX8_clear_14 : decode cX8_clear 14 = .ok (.iastore, 1) := by decide +kernel
theorem dX8_clear_15 : decode cX8_clear 15 = .ok (.iinc 1 1, 3) := by decide +kernel
theorem dX8_clear_18 : decode cX8_clear 18 = .ok (.goto (-16), 3) := by decide +kernel
theorem dX8_clear_21 : decode cX8_clear 21 = .ok (.aload_n 0, 1) := by decide +kernel
theorem dX8_clear_22 : decode cX8_clear 22 = .ok (.iconst 0, 1) := by decide +kernel
theorem dX8_clear_23 : decode cX8_clear 23 = .ok (.putfield 15, 3) := by decide +kernel
theorem dX8_clear_26 : decode cX8_clear 26 = .ok (.return_, 1) := by decide +kernel
theorem dX8_accept_0 : decode cX8_accept 0 = .ok (.iload_n 1, 1) := by decide +kernel
theorem dX8_accept_1 : decode cX8_accept 1 = .ok (.tableswitch 62 0 3 #[31, 37, 50, 56], 31) := by decide +kernel
theorem dX8_accept_32 : decode cX8_accept 32 = .ok (.aload_n 0, 1) := by decide +kernel
theorem dX8_accept_33 : decode cX8_accept 33 = .ok (.iload_n 2, 1) := by decide +kernel
theorem dX8_accept_34 : decode cX8_accept 34 = .ok (.invokevirtual 22, 3) := by decide +kernel
theorem dX8_accept_37 : decode cX8_accept 37 = .ok (.ireturn, 1) := by decide +kernel
theorem dX8_accept_38 : decode cX8_accept 38 = .ok (.iload_n 2, 1) := by decide +kernel
theorem dX8_accept_39 : decode cX8_accept 39 = .ok (.bipush 61, 2) := by decide +kernel
theorem dX8_accept_41 : decode cX8_accept 41 = .ok (.if_icmp .ne 7, 3) := by decide +kernel
theorem dX8_accept_44 : decode cX8_accept 44 = .ok (.iconst 2, 1) := by decide +kernel
theorem dX8_accept_45 : decode cX8_accept 45 = .ok (.goto 5, 3) := by decide +kernel
theorem dX8_accept_48 : decode cX8_accept 48 = .ok (.bipush (-9), 2) := by decide +kernel
theorem dX8_accept_50 : decode cX8_accept 50 = .ok (.ireturn, 1) := by decide +kernel
theorem dX8_accept_51 : decode cX8_accept 51 = .ok (.aload_n 0, 1) := by decide +kernel
theorem dX8_accept_52 : decode cX8_accept 52 = .ok (.iload_n 2, 1) := by decide +kernel
theorem dX8_accept_53 : decode cX8_accept 53 = .ok (.invokevirtual 26, 3) := by decide +kernel
theorem dX8_accept_56 : decode cX8_accept 56 = .ok (.ireturn, 1) := by decide +kernel
theorem dX8_accept_57 : decode cX8_accept 57 = .ok (.aload_n 0, 1) := by decide +kernel
theorem dX8_accept_58 : decode cX8_accept 58 = .ok (.iload_n 2, 1) := by decide +kernel
theorem dX8_accept_59 : decode cX8_accept 59 = .ok (.invokevirtual 29, 3) := by decide +kernel
theorem dX8_accept_62 : decode cX8_accept 62 = .ok (.ireturn, 1) := by decide +kernel
theorem dX8_accept_63 : decode cX8_accept 63 = .ok (.bipush (-9), 2) := by decide +kernel
theorem dX8_accept_65 : decode cX8_accept 65 = .ok (.ireturn, 1) := by decide +kernel
theorem dX8_acceptItem_0 : decode cX8_acceptItem 0 = .ok (.iload_n 1, 1) := by decide +kernel
theorem dX8_acceptItem_1 : decode cX8_acceptItem 1 = .ok (.bipush 88, 2) := by decide +kernel
theorem dX8_acceptItem_3 : decode cX8_acceptItem 3 = .ok (.if_icmp .ne 19, 3) := by decide +kernel
theorem dX8_acceptItem_6 : decode cX8_acceptItem 6 = .ok (.aload_n 0, 1) := by decide +kernel
theorem dX8_acceptItem_7 : decode cX8_acceptItem 7 = .ok (.getfield 15, 3) := by decide +kernel
theorem dX8_acceptItem_10 : decode cX8_acceptItem 10 = .ok (.bipush 14, 2) := by decide +kernel
theorem dX8_acceptItem_12 : decode cX8_acceptItem 12 = .ok (.if_icmp .ne 8, 3) := by decide +kernel
theorem dX8_acceptItem_15 : decode cX8_acceptItem 15 = .ok (.bipush (-9), 2) := by decide +kernel
theorem dX8_acceptItem_17 : decode cX8_acceptItem 17 = .ok (.goto 4, 3) := by decide +kernel
theorem dX8_acceptItem_20 : decode cX8_acceptItem 20 = .ok (.iconst 3, 1) := by decide +kernel
theorem dX8_acceptItem_21 : decode cX8_acceptItem 21 = .ok (.ireturn, 1) := by decide +kernel
theorem dX8_acceptItem_22 : decode cX8_acceptItem 22 = .ok (.iload_n 1, 1) := by decide +kernel
theorem dX8_acceptItem_23 : decode cX8_acceptItem 23 = .ok (.iconst 0, 1) := by decide +kernel
theorem dX8_acceptItem_24 : decode cX8_acceptItem 24 = .ok (.iconst 5, 1) := by decide +kernel
theorem dX8_acceptItem_25 : decode cX8_acceptItem 25 = .ok (.invokestatic 32, 3) := by decide +kernel
theorem dX8_acceptItem_28 : decode cX8_acceptItem 28 = .ok (.istore_n 2, 1) := by decide +kernel
theorem dX8_acceptItem_29 : decode cX8_acceptItem 29 = .ok (.iload_n 2, 1) := by decide +kernel
theorem dX8_acceptItem_30 : decode cX8_acceptItem 30 = .ok (.bipush (-9), 2) := by decide +kernel
theorem dX8_acceptItem_32 : decode cX8_acceptItem 32 = .ok (.if_icmp .eq 12, 3) := by decide +kernel
theorem dX8_acceptItem_35 : decode cX8_acceptItem 35 = .ok (.aload_n 0, 1) := by decide +kernel
theorem dX8_acceptItem_36 : decode cX8_acceptItem 36 = .ok (.getfield 9, 3) := by decide +kernel
theorem dX8_acceptItem_39 : decode cX8_acceptItem 39 = .ok (.iload_n 2, 1) := by decide +kernel
theorem dX8_acceptItem_40 : decode cX8_acceptItem 40 = .ok (.iaload, 1) := by decide +kernel
theorem dX8_acceptItem_41 : decode cX8_acceptItem 41 = .ok (.ifCond .eq 6, 3) := by decide +kernel
theorem dX8_acceptItem_44 : decode cX8_acceptItem 44 = .ok (.bipush (-9), 2) := by decide +kernel
theorem dX8_acceptItem_46 : decode cX8_acceptItem 46 = .ok (.ireturn, 1) := by decide +kernel
theorem dX8_acceptItem_47 : decode cX8_acceptItem 47 = .ok (.aload_n 0, 1) := by decide +kernel
theorem dX8_acceptItem_48 : decode cX8_acceptItem 48 = .ok (.iload_n 2, 1) := by decide +kernel
theorem dX8_acceptItem_49 : decode cX8_acceptItem 49 = .ok (.putfield 19, 3) := by decide +kernel
theorem dX8_acceptItem_52 : decode cX8_acceptItem 52 = .ok (.iconst 1, 1) := by decide +kernel
theorem dX8_acceptItem_53 : decode cX8_acceptItem 53 = .ok (.ireturn, 1) := by decide +kernel
theorem dX8_acceptValue_0 : decode cX8_acceptValue 0 = .ok (.iload_n 1, 1) := by decide +kernel
theorem dX8_acceptValue_1 : decode cX8_acceptValue 1 = .ok (.iconst 1, 1) := by decide +kernel
theorem dX8_acceptValue_2 : decode cX8_acceptValue 2 = .ok (.iconst 5, 1) := by decide +kernel
theorem dX8_acceptValue_3 : decode cX8_acceptValue 3 = .ok (.invokestatic 32, 3) := by decide +kernel
theorem dX8_acceptValue_6 : decode cX8_acceptValue 6 = .ok (.istore_n 2, 1) := by decide +kernel
theorem dX8_acceptValue_7 : decode cX8_acceptValue 7 = .ok (.iload_n 2, 1) := by decide +kernel
theorem dX8_acceptValue_8 : decode cX8_acceptValue 8 = .ok (.bipush (-9), 2) := by decide +kernel
theorem dX8_acceptValue_10 : decode cX8_acceptValue 10 = .ok (.if_icmp .ne 6, 3) := by decide +kernel
theorem dX8_acceptValue_13 : decode cX8_acceptValue 13 = .ok (.bipush (-9), 2) := by decide +kernel
theorem dX8_acceptValue_15 : decode cX8_acceptValue 15 = .ok (.ireturn, 1) := by decide +kernel
theorem dX8_acceptValue_16 : decode cX8_acceptValue 16 = .ok (.aload_n 0, 1) := by decide +kernel
theorem dX8_acceptValue_17 : decode cX8_acceptValue 17 = .ok (.getfield 9, 3) := by decide +kernel
theorem dX8_acceptValue_20 : decode cX8_acceptValue 20 = .ok (.aload_n 0, 1) := by decide +kernel
theorem dX8_acceptValue_21 : decode cX8_acceptValue 21 = .ok (.getfield 19, 3) := by decide +kernel
theorem dX8_acceptValue_24 : decode cX8_acceptValue 24 = .ok (.iload_n 2, 1) := by decide +kernel
theorem dX8_acceptValue_25 : decode cX8_acceptValue 25 = .ok (.iastore, 1) := by decide +kernel
theorem dX8_acceptValue_26 : decode cX8_acceptValue 26 = .ok (.iconst 0, 1) := by decide +kernel
theorem dX8_acceptValue_27 : decode cX8_acceptValue 27 = .ok (.ireturn, 1) := by decide +kernel
theorem dX8_acceptCrossed_0 : decode cX8_acceptCrossed 0 = .ok (.ldc 36, 2) := by decide +kernel
theorem dX8_acceptCrossed_2 : decode cX8_acceptCrossed 2 = .ok (.iload_n 1, 1) := by decide +kernel
theorem dX8_acceptCrossed_3 : decode cX8_acceptCrossed 3 = .ok (.invokevirtual 38, 3) := by decide +kernel
theorem dX8_acceptCrossed_6 : decode cX8_acceptCrossed 6 = .ok (.istore_n 2, 1) := by decide +kernel
theorem dX8_acceptCrossed_7 : decode cX8_acceptCrossed 7 = .ok (.iload_n 2, 1) := by decide +kernel
theorem dX8_acceptCrossed_8 : decode cX8_acceptCrossed 8 = .ok (.ifCond .lt 19, 3) := by decide +kernel
theorem dX8_acceptCrossed_11 : decode cX8_acceptCrossed 11 = .ok (.bipush 14, 2) := by decide +kernel
theorem dX8_acceptCrossed_13 : decode cX8_acceptCrossed 13 = .ok (.aload_n 0, 1) := by decide +kernel
theorem dX8_acceptCrossed_14 : decode cX8_acceptCrossed 14 = .ok (.getfield 15, 3) := by decide +kernel
theorem dX8_acceptCrossed_17 : decode cX8_acceptCrossed 17 = .ok (.iconst (-1), 1) := by decide +kernel
theorem dX8_acceptCrossed_18 : decode cX8_acceptCrossed 18 = .ok (.ixor, 1) := by decide +kernel
theorem dX8_acceptCrossed_19 : decode cX8_acceptCrossed 19 = .ok (.iand, 1) := by decide +kernel
theorem dX8_acceptCrossed_20 : decode cX8_acceptCrossed 20 = .ok (.iload_n 2, 1) := by decide +kernel
theorem dX8_acceptCrossed_21 : decode cX8_acceptCrossed 21 = .ok (.invokestatic 44, 3) := by decide +kernel
theorem dX8_acceptCrossed_24 : decode cX8_acceptCrossed 24 = .ok (.ifCond .ne 6, 3) := by decide +kernel
theorem dX8_acceptCrossed_27 : decode cX8_acceptCrossed 27 = .ok (.bipush (-9), 2) := by decide +kernel
theorem dX8_acceptCrossed_29 : decode cX8_acceptCrossed 29 = .ok (.ireturn, 1) := by decide +kernel
theorem dX8_acceptCrossed_30 : decode cX8_acceptCrossed 30 = .ok (.aload_n 0, 1) := by decide +kernel
theorem dX8_acceptCrossed_31 : decode cX8_acceptCrossed 31 = .ok (.dup, 1) := by decide +kernel
theorem dX8_acceptCrossed_32 : decode cX8_acceptCrossed 32 = .ok (.getfield 15, 3) := by decide +kernel
theorem dX8_acceptCrossed_35 : decode cX8_acceptCrossed 35 = .ok (.iconst 1, 1) := by decide +kernel
theorem dX8_acceptCrossed_36 : decode cX8_acceptCrossed 36 = .ok (.iload_n 2, 1) := by decide +kernel
theorem dX8_acceptCrossed_37 : decode cX8_acceptCrossed 37 = .ok (.ishl, 1) := by decide +kernel
theorem dX8_acceptCrossed_38 : decode cX8_acceptCrossed 38 = .ok (.ior, 1) := by decide +kernel
theorem dX8_acceptCrossed_39 : decode cX8_acceptCrossed 39 = .ok (.putfield 15, 3) := by decide +kernel
theorem dX8_acceptCrossed_42 : decode cX8_acceptCrossed 42 = .ok (.iconst 0, 1) := by decide +kernel
theorem dX8_acceptCrossed_43 : decode cX8_acceptCrossed 43 = .ok (.ireturn, 1) := by decide +kernel
theorem dX8_isWhole_0 : decode cX8_isWhole 0 = .ok (.iload_n 1, 1) := by decide +kernel
theorem dX8_isWhole_1 : decode cX8_isWhole 1 = .ok (.ifCond .ne 7, 3) := by decide +kernel
theorem dX8_isWhole_4 : decode cX8_isWhole 4 = .ok (.iconst 1, 1) := by decide +kernel
theorem dX8_isWhole_5 : decode cX8_isWhole 5 = .ok (.goto 4, 3) := by decide +kernel
theorem dX8_isWhole_8 : decode cX8_isWhole 8 = .ok (.iconst 0, 1) := by decide +kernel
theorem dX8_isWhole_9 : decode cX8_isWhole 9 = .ok (.ireturn, 1) := by decide +kernel
theorem dX8_gapCount_0 : decode cX8_gapCount 0 = .ok (.iconst 0, 1) := by decide +kernel
theorem dX8_gapCount_1 : decode cX8_gapCount 1 = .ok (.istore_n 1, 1) := by decide +kernel
theorem dX8_gapCount_2 : decode cX8_gapCount 2 = .ok (.aload_n 0, 1) := by decide +kernel
theorem dX8_gapCount_3 : decode cX8_gapCount 3 = .ok (.getfield 9, 3) := by decide +kernel
theorem dX8_gapCount_6 : decode cX8_gapCount 6 = .ok (.astore_n 2, 1) := by decide +kernel
theorem dX8_gapCount_7 : decode cX8_gapCount 7 = .ok (.aload_n 2, 1) := by decide +kernel
theorem dX8_gapCount_8 : decode cX8_gapCount 8 = .ok (.arraylength, 1) := by decide +kernel
theorem dX8_gapCount_9 : decode cX8_gapCount 9 = .ok (.istore_n 3, 1) := by decide +kernel
theorem dX8_gapCount_10 : decode cX8_gapCount 10 = .ok (.iconst 0, 1) := by decide +kernel
theorem dX8_gapCount_11 : decode cX8_gapCount 11 = .ok (.istore 4, 2) := by decide +kernel
theorem dX8_gapCount_13 : decode cX8_gapCount 13 = .ok (.iload 4, 2) := by decide +kernel
theorem dX8_gapCount_15 : decode cX8_gapCount 15 = .ok (.iload_n 3, 1) := by decide +kernel
theorem dX8_gapCount_16 : decode cX8_gapCount 16 = .ok (.if_icmp .ge 28, 3) := by decide +kernel
theorem dX8_gapCount_19 : decode cX8_gapCount 19 = .ok (.aload_n 2, 1) := by decide +kernel
theorem dX8_gapCount_20 : decode cX8_gapCount 20 = .ok (.iload 4, 2) := by decide +kernel
theorem dX8_gapCount_22 : decode cX8_gapCount 22 = .ok (.iaload, 1) := by decide +kernel
theorem dX8_gapCount_23 : decode cX8_gapCount 23 = .ok (.istore 5, 2) := by decide +kernel
theorem dX8_gapCount_25 : decode cX8_gapCount 25 = .ok (.iload_n 1, 1) := by decide +kernel
theorem dX8_gapCount_26 : decode cX8_gapCount 26 = .ok (.iload 5, 2) := by decide +kernel
theorem dX8_gapCount_28 : decode cX8_gapCount 28 = .ok (.ifCond .le 7, 3) := by decide +kernel
theorem dX8_gapCount_31 : decode cX8_gapCount 31 = .ok (.iconst 1, 1) := by decide +kernel
theorem dX8_gapCount_32 : decode cX8_gapCount 32 = .ok (.goto 4, 3) := by decide +kernel
theorem dX8_gapCount_35 : decode cX8_gapCount 35 = .ok (.iconst 0, 1) := by decide +kernel
theorem dX8_gapCount_36 : decode cX8_gapCount 36 = .ok (.iadd, 1) := by decide +kernel
theorem dX8_gapCount_37 : decode cX8_gapCount 37 = .ok (.istore_n 1, 1) := by decide +kernel
theorem dX8_gapCount_38 : decode cX8_gapCount 38 = .ok (.iinc 4 1, 3) := by decide +kernel
theorem dX8_gapCount_41 : decode cX8_gapCount 41 = .ok (.goto (-28), 3) := by decide +kernel
theorem dX8_gapCount_44 : decode cX8_gapCount 44 = .ok (.iload_n 1, 1) := by decide +kernel
theorem dX8_gapCount_45 : decode cX8_gapCount 45 = .ok (.ireturn, 1) := by decide +kernel
theorem dX8_copy_0 : decode cX8_copy 0 = .ok (.aload_n 1, 1) := by decide +kernel
theorem dX8_copy_1 : decode cX8_copy 1 = .ok (.getfield 9, 3) := by decide +kernel
theorem dX8_copy_4 : decode cX8_copy 4 = .ok (.iconst 0, 1) := by decide +kernel
theorem dX8_copy_5 : decode cX8_copy 5 = .ok (.aload_n 0, 1) := by decide +kernel
theorem dX8_copy_6 : decode cX8_copy 6 = .ok (.getfield 9, 3) := by decide +kernel
theorem dX8_copy_9 : decode cX8_copy 9 = .ok (.iconst 0, 1) := by decide +kernel
theorem dX8_copy_10 : decode cX8_copy 10 = .ok (.bipush 6, 2) := by decide +kernel
theorem dX8_copy_12 : decode cX8_copy 12 = .ok (.invokestatic 48, 3) := by decide +kernel
theorem dX8_copy_15 : decode cX8_copy 15 = .ok (.aload_n 0, 1) := by decide +kernel
theorem dX8_copy_16 : decode cX8_copy 16 = .ok (.aload_n 1, 1) := by decide +kernel
theorem dX8_copy_17 : decode cX8_copy 17 = .ok (.getfield 15, 3) := by decide +kernel
theorem dX8_copy_20 : decode cX8_copy 20 = .ok (.putfield 15, 3) := by decide +kernel
theorem dX8_copy_23 : decode cX8_copy 23 = .ok (.return_, 1) := by decide +kernel
theorem dX9_init_0 : decode cX9_init 0 = .ok (.aload_n 0, 1) := by decide +kernel
theorem dX9_init_1 : decode cX9_init 1 = .ok (.invokespecial 3, 3) := by decide +kernel
theorem dX9_init_4 : decode cX9_init 4 = .ok (.aload_n 0, 1) := by decide +kernel
theorem dX9_init_5 : decode cX9_init 5 = .ok (.bipush 24, 2) := by decide +kernel
theorem dX9_init_7 : decode cX9_init 7 = .ok (.newarray .char, 2) := by decide +kernel
theorem dX9_init_9 : decode cX9_init 9 = .ok (.putfield 9, 3) := by decide +kernel
theorem dX9_init_12 : decode cX9_init 12 = .ok (.aload_n 0, 1) := by decide +kernel
theorem dX9_init_13 : decode cX9_init 13 = .ok (.iconst 0, 1) := by decide +kernel
theorem dX9_init_14 : decode cX9_init 14 = .ok (.putfield 15, 3) := by decide +kernel
theorem dX9_init_17 : decode cX9_init 17 = .ok (.return_, 1) := by decide +kernel
theorem dX9_append_0 : decode cX9_append 0 = .ok (.iload_n 1, 1) := by decide +kernel
theorem dX9_append_1 : decode cX9_append 1 = .ok (.iconst 1, 1) := by decide +kernel
theorem dX9_append_2 : decode cX9_append 2 = .ok (.isub, 1) := by decide +kernel
theorem dX9_append_3 : decode cX9_append 3 = .ok (.istore 4, 2) := by decide +kernel
theorem dX9_append_5 : decode cX9_append 5 = .ok (.iload 4, 2) := by decide +kernel
theorem dX9_append_7 : decode cX9_append 7 = .ok (.ifCond .lt 50, 3) := by decide +kernel
theorem dX9_append_10 : decode cX9_append 10 = .ok (.aload_n 0, 1) := by decide +kernel
theorem dX9_append_11 : decode cX9_append 11 = .ok (.getfield 15, 3) := by decide +kernel
theorem dX9_append_14 : decode cX9_append 14 = .ok (.bipush 24, 2) := by decide +kernel
theorem dX9_append_16 : decode cX9_append 16 = .ok (.if_icmp .ge 41, 3) := by decide +kernel
theorem dX9_append_19 : decode cX9_append 19 = .ok (.aload_n 0, 1) := by decide +kernel
theorem dX9_append_20 : decode cX9_append 20 = .ok (.getfield 9, 3) := by decide +kernel
theorem dX9_append_23 : decode cX9_append 23 = .ok (.aload_n 0, 1) := by decide +kernel
theorem dX9_append_24 : decode cX9_append 24 = .ok (.getfield 15, 3) := by decide +kernel
theorem dX9_append_27 : decode cX9_append 27 = .ok (.lload_n 2, 1) := by decide +kernel
theorem dX9_append_28 : decode cX9_append 28 = .ok (.bipush 8, 2) := by decide +kernel
theorem dX9_append_30 : decode cX9_append 30 = .ok (.iload 4, 2) := by decide +kernel
theorem dX9_append_32 : decode cX9_append 32 = .ok (.imul, 1) := by decide +kernel
theorem dX9_append_33 : decode cX9_append 33 = .ok (.lshr, 1) := by decide +kernel
theorem dX9_append_34 : decode cX9_append 34 = .ok (.ldc2_w 19, 3) := by decide +kernel
theorem dX9_append_37 : decode cX9_append 37 = .ok (.land, 1) := by decide +kernel
theorem dX9_append_38 : decode cX9_append 38 = .ok (.l2i, 1) := by decide +kernel
theorem dX9_append_39 : decode cX9_append 39 = .ok (.i2c, 1) := by decide +kernel
theorem dX9_append_40 : decode cX9_append 40 = .ok (.castore, 1) := by decide +kernel
theorem dX9_append_41 : decode cX9_append 41 = .ok (.aload_n 0, 1) := by decide +kernel
theorem dX9_append_42 : decode cX9_append 42 = .ok (.dup, 1) := by decide +kernel
theorem dX9_append_43 : decode cX9_append 43 = .ok (.getfield 15, 3) := by decide +kernel
theorem dX9_append_46 : decode cX9_append 46 = .ok (.iconst 1, 1) := by decide +kernel
theorem dX9_append_47 : decode cX9_append 47 = .ok (.iadd, 1) := by decide +kernel
theorem dX9_append_48 : decode cX9_append 48 = .ok (.putfield 15, 3) := by decide +kernel
theorem dX9_append_51 : decode cX9_append 51 = .ok (.iinc 4 (-1), 3) := by decide +kernel
theorem dX9_append_54 : decode cX9_append 54 = .ok (.goto (-49), 3) := by decide +kernel
theorem dX9_append_57 : decode cX9_append 57 = .ok (.return_, 1) := by decide +kernel
theorem dX10_init_0 : decode cX10_init 0 = .ok (.aload_n 0, 1) := by decide +kernel
theorem dX10_init_1 : decode cX10_init 1 = .ok (.invokespecial 3, 3) := by decide +kernel
theorem dX10_init_4 : decode cX10_init 4 = .ok (.return_, 1) := by decide +kernel
theorem dX10_readFrom_0 : decode cX10_readFrom 0 = .ok (.aload_n 0, 1) := by decide +kernel
theorem dX10_readFrom_1 : decode cX10_readFrom 1 = .ok (.invokevirtual 9, 3) := by decide +kernel
theorem dX10_readFrom_4 : decode cX10_readFrom 4 = .ok (.iconst 0, 1) := by decide +kernel
theorem dX10_readFrom_5 : decode cX10_readFrom 5 = .ok (.istore_n 2, 1) := by decide +kernel
theorem dX10_readFrom_6 : decode cX10_readFrom 6 = .ok (.iconst 0, 1) := by decide +kernel
theorem dX10_readFrom_7 : decode cX10_readFrom 7 = .ok (.istore_n 3, 1) := by decide +kernel
theorem dX10_readFrom_8 : decode cX10_readFrom 8 = .ok (.iload_n 3, 1) := by decide +kernel
theorem dX10_readFrom_9 : decode cX10_readFrom 9 = .ok (.aload_n 1, 1) := by decide +kernel
theorem dX10_readFrom_10 : decode cX10_readFrom 10 = .ok (.getfield 14, 3) := by decide +kernel
theorem dX10_readFrom_13 : decode cX10_readFrom 13 = .ok (.if_icmp .ge 35, 3) := by decide +kernel
theorem dX10_readFrom_16 : decode cX10_readFrom 16 = .ok (.iload_n 3, 1) := by decide +kernel
theorem dX10_readFrom_17 : decode cX10_readFrom 17 = .ok (.bipush 24, 2) := by decide +kernel
theorem dX10_readFrom_19 : decode cX10_readFrom 19 = .ok (.if_icmp .ge 29, 3) := by decide +kernel
theorem dX10_readFrom_22 : decode cX10_readFrom 22 = .ok (.aload_n 0, 1) := by decide +kernel
theorem dX10_readFrom_23 : decode cX10_readFrom 23 = .ok (.iload_n 2, 1) := by decide +kernel
theorem dX10_readFrom_24 : decode cX10_readFrom 24 = .ok (.aload_n 1, 1) := by decide +kernel
theorem dX10_readFrom_25 : decode cX10_readFrom 25 = .ok (.getfield 20, 3) := by decide +kernel
theorem dX10_readFrom_28 : decode cX10_readFrom 28 = .ok (.iload_n 3, 1) := by decide +kernel
theorem dX10_readFrom_29 : decode cX10_readFrom 29 = .ok (.caload, 1) := by decide +kernel
theorem dX10_readFrom_30 : decode cX10_readFrom 30 = .ok (.invokevirtual 24, 3) := by decide +kernel
theorem dX10_readFrom_33 : decode cX10_readFrom 33 = .ok (.istore_n 2, 1) := by decide +kernel
theorem dX10_readFrom_34 : decode cX10_readFrom 34 = .ok (.iload_n 2, 1) := by decide +kernel
theorem dX10_readFrom_35 : decode cX10_readFrom 35 = .ok (.bipush (-9), 2) := by decide +kernel
theorem dX10_readFrom_37 : decode cX10_readFrom 37 = .ok (.if_icmp .ne 5, 3) := by decide +kernel
theorem dX10_readFrom_40 : decode cX10_readFrom 40 = .ok (.iload_n 3, 1) := by decide +kernel
theorem dX10_readFrom_41 : decode cX10_readFrom 41 = .ok (.ireturn, 1) := by decide +kernel
theorem dX10_readFrom_42 : decode cX10_readFrom 42 = .ok (.iinc 3 1, 3) := by decide +kernel
theorem dX10_readFrom_45 : decode cX10_readFrom 45 = .ok (.goto (-37), 3) := by decide +kernel
theorem dX10_readFrom_48 : decode cX10_readFrom 48 = .ok (.aload_n 0, 1) := by decide +kernel
theorem dX10_readFrom_49 : decode cX10_readFrom 49 = .ok (.iload_n 2, 1) := by decide +kernel
theorem dX10_readFrom_50 : decode cX10_readFrom 50 = .ok (.invokevirtual 28, 3) := by decide +kernel
theorem dX10_readFrom_53 : decode cX10_readFrom 53 = .ok (.ifCond .eq 8, 3) := by decide +kernel
theorem dX10_readFrom_56 : decode cX10_readFrom 56 = .ok (.bipush (-9), 2) := by decide +kernel
theorem dX10_readFrom_58 : decode cX10_readFrom 58 = .ok (.goto 7, 3) := by decide +kernel
theorem dX10_readFrom_61 : decode cX10_readFrom 61 = .ok (.aload_n 1, 1) := by decide +kernel
theorem dX10_readFrom_62 : decode cX10_readFrom 62 = .ok (.getfield 14, 3) := by decide +kernel
theorem dX10_readFrom_65 : decode cX10_readFrom 65 = .ok (.ireturn, 1) := by decide +kernel
theorem dX11_init_0 : decode cX11_init 0 = .ok (.aload_n 0, 1) := by decide +kernel
theorem dX11_init_1 : decode cX11_init 1 = .ok (.invokespecial 3, 3) := by decide +kernel
theorem dX11_init_4 : decode cX11_init 4 = .ok (.aload_n 0, 1) := by decide +kernel
theorem dX11_init_5 : decode cX11_init 5 = .ok (.new 9, 3) := by decide +kernel
theorem dX11_init_8 : decode cX11_init 8 = .ok (.dup, 1) := by decide +kernel
theorem dX11_init_9 : decode cX11_init 9 = .ok (.invokespecial 11, 3) := by decide +kernel
theorem dX11_init_12 : decode cX11_init 12 = .ok (.putfield 12, 3) := by decide +kernel
theorem dX11_init_15 : decode cX11_init 15 = .ok (.aload_n 0, 1) := by decide +kernel
theorem dX11_init_16 : decode cX11_init 16 = .ok (.getstatic 16, 3) := by decide +kernel
theorem dX11_init_19 : decode cX11_init 19 = .ok (.invokevirtual 20, 3) := by decide +kernel
theorem dX11_init_22 : decode cX11_init 22 = .ok (.checkcast 21, 3) := by decide +kernel
theorem dX11_init_25 : decode cX11_init 25 = .ok (.putfield 25, 3) := by decide +kernel
theorem dX11_init_28 : decode cX11_init 28 = .ok (.aload_n 0, 1) := by decide +kernel
theorem dX11_init_29 : decode cX11_init 29 = .ok (.new 28, 3) := by decide +kernel
theorem dX11_init_32 : decode cX11_init 32 = .ok (.dup, 1) := by decide +kernel
theorem dX11_init_33 : decode cX11_init 33 = .ok (.invokespecial 30, 3) := by decide +kernel
theorem dX11_init_36 : decode cX11_init 36 = .ok (.putfield 31, 3) := by decide +kernel
theorem dX11_init_39 : decode cX11_init 39 = .ok (.aload_n 0, 1) := by decide +kernel
theorem dX11_init_40 : decode cX11_init 40 = .ok (.iconst 2, 1) := by decide +kernel
theorem dX11_init_41 : decode cX11_init 41 = .ok (.anewarray 28, 3) := by decide +kernel
theorem dX11_init_44 : decode cX11_init 44 = .ok (.putfield 35, 3) := by decide +kernel
theorem dX11_init_47 : decode cX11_init 47 = .ok (.aload_n 0, 1) := by decide +kernel
theorem dX11_init_48 : decode cX11_init 48 = .ok (.iconst 2, 1) := by decide +kernel
theorem dX11_init_49 : decode cX11_init 49 = .ok (.newarray .boolean, 2) := by decide +kernel
theorem dX11_init_51 : decode cX11_init 51 = .ok (.putfield 39, 3) := by decide +kernel
theorem dX11_init_54 : decode cX11_init 54 = .ok (.aload_n 0, 1) := by decide +kernel
theorem dX11_init_55 : decode cX11_init 55 = .ok (.new 43, 3) := by decide +kernel
theorem dX11_init_58 : decode cX11_init 58 = .ok (.dup, 1) := by decide +kernel
theorem dX11_init_59 : decode cX11_init 59 = .ok (.invokespecial 45, 3) := by decide +kernel
theorem dX11_init_62 : decode cX11_init 62 = .ok (.putfield 46, 3) := by decide +kernel
theorem dX11_init_65 : decode cX11_init 65 = .ok (.aload_n 0, 1) := by decide +kernel
theorem dX11_init_66 : decode cX11_init 66 = .ok (.new 50, 3) := by decide +kernel
theorem dX11_init_69 : decode cX11_init 69 = .ok (.dup, 1) := by decide +kernel
theorem dX11_init_70 : decode cX11_init 70 = .ok (.invokespecial 52, 3) := by decide +kernel
theorem dX11_init_73 : decode cX11_init 73 = .ok (.putfield 53, 3) := by decide +kernel
theorem dX11_init_76 : decode cX11_init 76 = .ok (.aload_n 0, 1) := by decide +kernel
theorem dX11_init_77 : decode cX11_init 77 = .ok (.iconst 4, 1) := by decide +kernel
theorem dX11_init_78 : decode cX11_init 78 = .ok (.anewarray 57, 3) := by decide +kernel
theorem dX11_init_81 : decode cX11_init 81 = .ok (.putfield 59, 3) := by decide +kernel
theorem dX11_init_84 : decode cX11_init 84 = .ok (.aload_n 0, 1) := by decide +kernel
theorem dX11_init_85 : decode cX11_init 85 = .ok (.bipush 8, 2) := by decide +kernel
theorem dX11_init_87 : decode cX11_init 87 = .ok (.anewarray 63, 3) := by decide +kernel
theorem dX11_init_90 : decode cX11_init 90 = .ok (.putfield 65, 3) := by decide +kernel
theorem dX11_init_93 : decode cX11_init 93 = .ok (.aload_n 0, 1) := by decide +kernel
theorem dX11_init_94 : decode cX11_init 94 = .ok (.iconst 0, 1) := by decide +kernel
theorem dX11_init_95 : decode cX11_init 95 = .ok (.putfield 69, 3) := by decide +kernel
theorem dX11_init_98 : decode cX11_init 98 = .ok (.aload_n 0, 1) := by decide +kernel
theorem dX11_init_99 : decode cX11_init 99 = .ok (.new 57, 3) := by decide +kernel
theorem dX11_init_102 : decode cX11_init 102 = .ok (.dup, 1) := by decide +kernel
theorem dX11_init_103 : decode cX11_init 103 = .ok (.invokespecial 73, 3) := by decide +kernel
theorem dX11_init_106 : decode cX11_init 106 = .ok (.putfield 74, 3) := by decide +kernel
theorem dX11_init_109 : decode cX11_init 109 = .ok (.aload_n 0, 1) := by decide +kernel
theorem dX11_init_110 : decode cX11_init 110 = .ok (.new 78, 3) := by decide +kernel
theorem dX11_init_113 : decode cX11_init 113 = .ok (.dup, 1) := by decide +kernel
theorem dX11_init_114 : decode cX11_init 114 = .ok (.invokespecial 80, 3) := by decide +kernel
theorem dX11_init_117 : decode cX11_init 117 = .ok (.putfield 81, 3) := by decide +kernel
theorem dX11_init_120 : decode cX11_init 120 = .ok (.aload_n 0, 1) := by decide +kernel
theorem dX11_init_121 : decode cX11_init 121 = .ok (.new 85, 3) := by decide +kernel
theorem dX11_init_124 : decode cX11_init 124 = .ok (.dup, 1) := by decide +kernel
theorem dX11_init_125 : decode cX11_init 125 = .ok (.aload_n 0, 1) := by decide +kernel
theorem dX11_init_126 : decode cX11_init 126 = .ok (.getfield 12, 3) := by decide +kernel
theorem dX11_init_129 : decode cX11_init 129 = .ok (.aload_n 0, 1) := by decide +kernel
theorem dX11_init_130 : decode cX11_init 130 = .ok (.getfield 25, 3) := by decide +kernel
theorem dX11_init_133 : decode cX11_init 133 = .ok (.aload_n 0, 1) := by decide +kernel
theorem dX11_init_134 : decode cX11_init 134 = .ok (.getfield 53, 3) := by decide +kernel
theorem dX11_init_137 : decode cX11_init 137 = .ok (.invokespecial 87, 3) := by decide +kernel
theorem dX11_init_140 : decode cX11_init 140 = .ok (.putfield 90, 3) := by decide +kernel
theorem dX11_init_143 : decode cX11_init 143 = .ok (.iconst 0, 1) := by decide +kernel
theorem dX11_init_144 : decode cX11_init 144 = .ok (.istore_n 1, 1) := by decide +kernel
theorem dX11_init_145 : decode cX11_init 145 = .ok (.iload_n 1, 1) := by decide +kernel
theorem dX11_init_146 : decode cX11_init 146 = .ok (.iconst 2, 1) := by decide +kernel
theorem dX11_init_147 : decode cX11_init 147 = .ok (.if_icmp .ge 22, 3) := by decide +kernel
theorem dX11_init_150 : decode cX11_init 150 = .ok (.aload_n 0, 1) := by decide +kernel
theorem dX11_init_151 : decode cX11_init 151 = .ok (.getfield 35, 3) := by decide +kernel
theorem dX11_init_154 : decode cX11_init 154 = .ok (.iload_n 1, 1) := by decide +kernel
theorem dX11_init_155 : decode cX11_init 155 = .ok (.new 28, 3) := by decide +kernel
theorem dX11_init_158 : decode cX11_init 158 = .ok (.dup, 1) := by decide +kernel
theorem dX11_init_159 : decode cX11_init 159 = .ok (.invokespecial 30, 3) := by decide +kernel
theorem dX11_init_162 : decode cX11_init 162 = .ok (.aastore, 1) := by decide +kernel
theorem dX11_init_163 : decode cX11_init 163 = .ok (.iinc 1 1, 3) := by decide +kernel
theorem dX11_init_166 : decode cX11_init 166 = .ok (.goto (-21), 3) := by decide +kernel
theorem dX11_init_169 : decode cX11_init 169 = .ok (.iconst 0, 1) := by decide +kernel
theorem dX11_init_170 : decode cX11_init 170 = .ok (.istore_n 1, 1) := by decide +kernel
theorem dX11_init_171 : decode cX11_init 171 = .ok (.iload_n 1, 1) := by decide +kernel
theorem dX11_init_172 : decode cX11_init 172 = .ok (.iconst 4, 1) := by decide +kernel
theorem dX11_init_173 : decode cX11_init 173 = .ok (.if_icmp .ge 22, 3) := by decide +kernel
theorem dX11_init_176 : decode cX11_init 176 = .ok (.aload_n 0, 1) := by decide +kernel
theorem dX11_init_177 : decode cX11_init 177 = .ok (.getfield 59, 3) := by decide +kernel
theorem dX11_init_180 : decode cX11_init 180 = .ok (.iload_n 1, 1) := by decide +kernel
theorem dX11_init_181 : decode cX11_init 181 = .ok (.new 57, 3) := by decide +kernel
theorem dX11_init_184 : decode cX11_init 184 = .ok (.dup, 1) := by decide +kernel
theorem dX11_init_185 : decode cX11_init 185 = .ok (.invokespecial 73, 3) := by decide +kernel
theorem dX11_init_188 : decode cX11_init 188 = .ok (.aastore, 1) := by decide +kernel
theorem dX11_init_189 : decode cX11_init 189 = .ok (.iinc 1 1, 3) := by decide +kernel
theorem dX11_init_192 : decode cX11_init 192 = .ok (.goto (-21), 3) := by decide +kernel
theorem dX11_init_195 : decode cX11_init 195 = .ok (.iconst 0, 1) := by decide +kernel
theorem dX11_init_196 : decode cX11_init 196 = .ok (.istore_n 1, 1) := by decide +kernel
theorem dX11_init_197 : decode cX11_init 197 = .ok (.iload_n 1, 1) := by decide +kernel
theorem dX11_init_198 : decode cX11_init 198 = .ok (.bipush 8, 2) := by decide +kernel
theorem dX11_init_200 : decode cX11_init 200 = .ok (.if_icmp .ge 22, 3) := by decide +kernel
theorem dX11_init_203 : decode cX11_init 203 = .ok (.aload_n 0, 1) := by decide +kernel
theorem dX11_init_204 : decode cX11_init 204 = .ok (.getfield 65, 3) := by decide +kernel
theorem dX11_init_207 : decode cX11_init 207 = .ok (.iload_n 1, 1) := by decide +kernel
theorem dX11_init_208 : decode cX11_init 208 = .ok (.new 63, 3) := by decide +kernel
theorem dX11_init_211 : decode cX11_init 211 = .ok (.dup, 1) := by decide +kernel
theorem dX11_init_212 : decode cX11_init 212 = .ok (.invokespecial 94, 3) := by decide +kernel
theorem dX11_init_215 : decode cX11_init 215 = .ok (.aastore, 1) := by decide +kernel
theorem dX11_init_216 : decode cX11_init 216 = .ok (.iinc 1 1, 3) := by decide +kernel
theorem dX11_init_219 : decode cX11_init 219 = .ok (.goto (-22), 3) := by decide +kernel
theorem dX11_init_222 : decode cX11_init 222 = .ok (.return_, 1) := by decide +kernel
theorem dX11_gap_0 : decode cX11_gap 0 = .ok (.iload_n 1, 1) := by decide +kernel
theorem dX11_gap_1 : decode cX11_gap 1 = .ok (.invokestatic 95, 3) := by decide +kernel
theorem dX11_gap_4 : decode cX11_gap 4 = .ok (.ifCond .ne 5, 3) := by decide +kernel
theorem dX11_gap_7 : decode cX11_gap 7 = .ok (.iconst (-1), 1) := by decide +kernel
theorem dX11_gap_8 : decode cX11_gap 8 = .ok (.ireturn, 1) := by decide +kernel
theorem dX11_gap_9 : decode cX11_gap 9 = .ok (.iload_n 2, 1) := by decide +kernel
theorem dX11_gap_10 : decode cX11_gap 10 = .ok (.ifCond .lt 8, 3) := by decide +kernel
theorem dX11_gap_13 : decode cX11_gap 13 = .ok (.iload_n 2, 1) := by decide +kernel
theorem dX11_gap_14 : decode cX11_gap 14 = .ok (.iconst 5, 1) := by decide +kernel
theorem dX11_gap_15 : decode cX11_gap 15 = .ok (.if_icmp .le 6, 3) := by decide +kernel
theorem dX11_gap_18 : decode cX11_gap 18 = .ok (.bipush (-2), 2) := by decide +kernel
theorem dX11_gap_20 : decode cX11_gap 20 = .ok (.ireturn, 1) := by decide +kernel
theorem dX11_gap_21 : decode cX11_gap 21 = .ok (.aload_n 0, 1) := by decide +kernel
theorem dX11_gap_22 : decode cX11_gap 22 = .ok (.getfield 12, 3) := by decide +kernel
theorem dX11_gap_25 : decode cX11_gap 25 = .ok (.getfield 99, 3) := by decide +kernel
theorem dX11_gap_28 : decode cX11_gap 28 = .ok (.iload_n 1, 1) := by decide +kernel
theorem dX11_gap_29 : decode cX11_gap 29 = .ok (.iaload, 1) := by decide +kernel
theorem dX11_gap_30 : decode cX11_gap 30 = .ok (.istore_n 3, 1) := by decide +kernel
theorem dX11_gap_31 : decode cX11_gap 31 = .ok (.aload_n 0, 1) := by decide +kernel
theorem dX11_gap_32 : decode cX11_gap 32 = .ok (.getfield 12, 3) := by decide +kernel
theorem dX11_gap_35 : decode cX11_gap 35 = .ok (.getfield 99, 3) := by decide +kernel
theorem dX11_gap_38 : decode cX11_gap 38 = .ok (.iload_n 1, 1) := by decide +kernel
theorem dX11_gap_39 : decode cX11_gap 39 = .ok (.iload_n 2, 1) := by decide +kernel
theorem dX11_gap_40 : decode cX11_gap 40 = .ok (.iastore, 1) := by decide +kernel
theorem dX11_gap_41 : decode cX11_gap 41 = .ok (.iload_n 3, 1) := by decide +kernel
theorem dX11_gap_42 : decode cX11_gap 42 = .ok (.ireturn, 1) := by decide +kernel
theorem dX11_need_0 : decode cX11_need 0 = .ok (.iload_n 1, 1) := by decide +kernel
theorem dX11_need_1 : decode cX11_need 1 = .ok (.invokestatic 95, 3) := by decide +kernel
theorem dX11_need_4 : decode cX11_need 4 = .ok (.ifCond .ne 5, 3) := by decide +kernel
theorem dX11_need_7 : decode cX11_need 7 = .ok (.iconst (-1), 1) := by decide +kernel
theorem dX11_need_8 : decode cX11_need 8 = .ok (.ireturn, 1) := by decide +kernel
theorem dX11_need_9 : decode cX11_need 9 = .ok (.aload_n 0, 1) := by decide +kernel
theorem dX11_need_10 : decode cX11_need 10 = .ok (.getfield 12, 3) := by decide +kernel
theorem dX11_need_13 : decode cX11_need 13 = .ok (.getfield 102, 3) := by decide +kernel
theorem dX11_need_16 : decode cX11_need 16 = .ok (.iload_n 1, 1) := by decide +kernel
theorem dX11_need_17 : decode cX11_need 17 = .ok (.invokestatic 105, 3) := by decide +kernel
theorem dX11_need_20 : decode cX11_need 20 = .ok (.istore_n 3, 1) := by decide +kernel
theorem dX11_need_21 : decode cX11_need 21 = .ok (.aload_n 0, 1) := by decide +kernel
theorem dX11_need_22 : decode cX11_need 22 = .ok (.getfield 12, 3) := by decide +kernel
theorem dX11_need_25 : decode cX11_need 25 = .ok (.aload_n 0, 1) := by decide +kernel
theorem dX11_need_26 : decode cX11_need 26 = .ok (.getfield 12, 3) := by decide +kernel
theorem dX11_need_29 : decode cX11_need 29 = .ok (.getfield 102, 3) := by decide +kernel
theorem dX11_need_32 : decode cX11_need 32 = .ok (.iload_n 1, 1) := by decide +kernel
theorem dX11_need_33 : decode cX11_need 33 = .ok (.iload_n 2, 1) := by decide +kernel
theorem dX11_need_34 : decode cX11_need 34 = .ok (.invokestatic 109, 3) := by decide +kernel
theorem dX11_need_37 : decode cX11_need 37 = .ok (.putfield 102, 3) := by decide +kernel
theorem dX11_need_40 : decode cX11_need 40 = .ok (.iload_n 3, 1) := by decide +kernel
theorem dX11_need_41 : decode cX11_need 41 = .ok (.ireturn, 1) := by decide +kernel
theorem dX11_hang_0 : decode cX11_hang 0 = .ok (.iload_n 1, 1) := by decide +kernel
theorem dX11_hang_1 : decode cX11_hang 1 = .ok (.invokestatic 95, 3) := by decide +kernel
theorem dX11_hang_4 : decode cX11_hang 4 = .ok (.ifCond .eq 16, 3) := by decide +kernel
theorem dX11_hang_7 : decode cX11_hang 7 = .ok (.iload_n 2, 1) := by decide +kernel
theorem dX11_hang_8 : decode cX11_hang 8 = .ok (.bipush (-9), 2) := by decide +kernel
theorem dX11_hang_10 : decode cX11_hang 10 = .ok (.if_icmp .eq 12, 3) := by decide +kernel
theorem dX11_hang_13 : decode cX11_hang 13 = .ok (.iload_n 2, 1) := by decide +kernel
theorem dX11_hang_14 : decode cX11_hang 14 = .ok (.invokestatic 95, 3) := by decide +kernel
theorem dX11_hang_17 : decode cX11_hang 17 = .ok (.ifCond .ne 5, 3) := by decide +kernel
theorem dX11_hang_20 : decode cX11_hang 20 = .ok (.iconst (-1), 1) := by decide +kernel
theorem dX11_hang_21 : decode cX11_hang 21 = .ok (.ireturn, 1) := by decide +kernel
theorem dX11_hang_22 : decode cX11_hang 22 = .ok (.iload_n 2, 1) := by decide +kernel
theorem dX11_hang_23 : decode cX11_hang 23 = .ok (.bipush (-9), 2) := by decide +kernel
theorem dX11_hang_25 : decode cX11_hang 25 = .ok (.if_icmp .eq 13, 3) := by decide +kernel
theorem dX11_hang_28 : decode cX11_hang 28 = .ok (.iload_n 3, 1) := by decide +kernel
theorem dX11_hang_29 : decode cX11_hang 29 = .ok (.invokestatic 113, 3) := by decide +kernel
theorem dX11_hang_32 : decode cX11_hang 32 = .ok (.ifCond .ne 6, 3) := by decide +kernel
theorem dX11_hang_35 : decode cX11_hang 35 = .ok (.bipush (-2), 2) := by decide +kernel
theorem dX11_hang_37 : decode cX11_hang 37 = .ok (.ireturn, 1) := by decide +kernel
theorem dX11_hang_38 : decode cX11_hang 38 = .ok (.iload_n 2, 1) := by decide +kernel
theorem dX11_hang_39 : decode cX11_hang 39 = .ok (.iload_n 1, 1) := by decide +kernel
theorem dX11_hang_40 : decode cX11_hang 40 = .ok (.if_icmp .ne 6, 3) := by decide +kernel
theorem dX11_hang_43 : decode cX11_hang 43 = .ok (.bipush (-3), 2) := by decide +kernel
theorem dX11_hang_45 : decode cX11_hang 45 = .ok (.ireturn, 1) := by decide +kernel
theorem dX11_hang_46 : decode cX11_hang 46 = .ok (.aload_n 0, 1) := by decide +kernel
theorem dX11_hang_47 : decode cX11_hang 47 = .ok (.getfield 12, 3) := by decide +kernel
theorem dX11_hang_50 : decode cX11_hang 50 = .ok (.getfield 116, 3) := by decide +kernel
theorem dX11_hang_53 : decode cX11_hang 53 = .ok (.iload_n 1, 1) := by decide +kernel
theorem dX11_hang_54 : decode cX11_hang 54 = .ok (.iaload, 1) := by decide +kernel
theorem dX11_hang_55 : decode cX11_hang 55 = .ok (.istore 4, 2) := by decide +kernel
theorem dX11_hang_57 : decode cX11_hang 57 = .ok (.aload_n 0, 1) := by decide +kernel
theorem dX11_hang_58 : decode cX11_hang 58 = .ok (.getfield 12, 3) := by decide +kernel
theorem dX11_hang_61 : decode cX11_hang 61 = .ok (.getfield 116, 3) := by decide +kernel
theorem dX11_hang_64 : decode cX11_hang 64 = .ok (.iload_n 1, 1) := by decide +kernel
theorem dX11_hang_65 : decode cX11_hang 65 = .ok (.iload_n 2, 1) := by decide +kernel
theorem dX11_hang_66 : decode cX11_hang 66 = .ok (.iastore, 1) := by decide +kernel
theorem dX11_hang_67 : decode cX11_hang 67 = .ok (.aload_n 0, 1) := by decide +kernel
theorem dX11_hang_68 : decode cX11_hang 68 = .ok (.getfield 12, 3) := by decide +kernel
theorem dX11_hang_71 : decode cX11_hang 71 = .ok (.getfield 119, 3) := by decide +kernel
theorem dX11_hang_74 : decode cX11_hang 74 = .ok (.iload_n 1, 1) := by decide +kernel
theorem dX11_hang_75 : decode cX11_hang 75 = .ok (.iload_n 3, 1) := by decide +kernel
theorem dX11_hang_76 : decode cX11_hang 76 = .ok (.iastore, 1) := by decide +kernel
theorem dX11_hang_77 : decode cX11_hang 77 = .ok (.iload 4, 2) := by decide +kernel
theorem dX11_hang_79 : decode cX11_hang 79 = .ok (.ireturn, 1) := by decide +kernel
theorem dX11_doing_0 : decode cX11_doing 0 = .ok (.iload_n 1, 1) := by decide +kernel
theorem dX11_doing_1 : decode cX11_doing 1 = .ok (.invokestatic 122, 3) := by decide +kernel
theorem dX11_doing_4 : decode cX11_doing 4 = .ok (.ifCond .eq 25, 3) := by decide +kernel
theorem dX11_doing_7 : decode cX11_doing 7 = .ok (.iload_n 2, 1) := by decide +kernel
theorem dX11_doing_8 : decode cX11_doing 8 = .ok (.invokestatic 122, 3) := by decide +kernel
theorem dX11_doing_11 : decode cX11_doing 11 = .ok (.ifCond .eq 18, 3) := by decide +kernel
theorem dX11_doing_14 : decode cX11_doing 14 = .ok (.iload_n 3, 1) := by decide +kernel
theorem dX11_doing_15 : decode cX11_doing 15 = .ok (.invokestatic 125, 3) := by decide +kernel
theorem dX11_doing_18 : decode cX11_doing 18 = .ok (.ifCond .eq 11, 3) := by decide +kernel
theorem dX11_doing_21 : decode cX11_doing 21 = .ok (.iload 4, 2) := by decide +kernel
theorem dX11_doing_23 : decode cX11_doing 23 = .ok (.invokestatic 95, 3) := by decide +kernel
theorem dX11_doing_26 : decode cX11_doing 26 = .ok (.ifCond .ne 5, 3) := by decide +kernel
theorem dX11_doing_29 : decode cX11_doing 29 = .ok (.iconst (-1), 1) := by decide +kernel
theorem dX11_doing_30 : decode cX11_doing 30 = .ok (.ireturn, 1) := by decide +kernel
theorem dX11_doing_31 : decode cX11_doing 31 = .ok (.iload 5, 2) := by decide +kernel
theorem dX11_doing_33 : decode cX11_doing 33 = .ok (.invokestatic 113, 3) := by decide +kernel
theorem dX11_doing_36 : decode cX11_doing 36 = .ok (.ifCond .eq 8, 3) := by decide +kernel
theorem dX11_doing_39 : decode cX11_doing 39 = .ok (.iload_n 1, 1) := by decide +kernel
theorem dX11_doing_40 : decode cX11_doing 40 = .ok (.iload_n 2, 1) := by decide +kernel
theorem dX11_doing_41 : decode cX11_doing 41 = .ok (.if_icmp .ne 6, 3) := by decide +kernel
theorem dX11_doing_44 : decode cX11_doing 44 = .ok (.bipush (-2), 2) := by decide +kernel
