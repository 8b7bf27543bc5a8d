theorem dX12_many_105 : decode cX12_many 105 = .ok (.iload 4, 2) := by decide +kernel
theorem dX12_many_107 : decode cX12_many 107 = .ok (.ireturn, 1) := by decide +kernel
theorem dX12_customOf_0 : decode cX12_customOf 0 = .ok (.aload_n 0, 1) := by decide +kernel
theorem dX12_customOf_1 : decode cX12_customOf 1 = .ok (.iload_n 1, 1) := by decide +kernel
theorem dX12_customOf_2 : decode cX12_customOf 2 = .ok (.iload_n 2, 1) := by decide +kernel
theorem dX12_customOf_3 : decode cX12_customOf 3 = .ok (.iconst 0, 1) := by decide +kernel
theorem dX12_customOf_4 : decode cX12_customOf 4 = .ok (.invokevirtual 160, 3) := by decide +kernel
theorem dX12_customOf_7 : decode cX12_customOf 7 = .ok (.istore_n 3, 1) := by decide +kernel
theorem dX12_customOf_8 : decode cX12_customOf 8 = .ok (.iconst 0, 1) := by decide +kernel
theorem dX12_customOf_9 : decode cX12_customOf 9 = .ok (.istore 4, 2) := by decide +kernel
theorem dX12_customOf_11 : decode cX12_customOf 11 = .ok (.iconst 1, 1) := by decide +kernel
theorem dX12_customOf_12 : decode cX12_customOf 12 = .ok (.istore 5, 2) := by decide +kernel
theorem dX12_customOf_14 : decode cX12_customOf 14 = .ok (.iload 5, 2) := by decide +kernel
theorem dX12_customOf_16 : decode cX12_customOf 16 = .ok (.iconst 5, 1) := by decide +kernel
theorem dX12_customOf_17 : decode cX12_customOf 17 = .ok (.if_icmp .gt 46, 3) := by decide +kernel
theorem dX12_customOf_20 : decode cX12_customOf 20 = .ok (.iload_n 3, 1) := by decide +kernel
theorem dX12_customOf_21 : decode cX12_customOf 21 = .ok (.aload_n 0, 1) := by decide +kernel
theorem dX12_customOf_22 : decode cX12_customOf 22 = .ok (.getfield 33, 3) := by decide +kernel
theorem dX12_customOf_25 : decode cX12_customOf 25 = .ok (.if_icmp .lt 38, 3) := by decide +kernel
theorem dX12_customOf_28 : decode cX12_customOf 28 = .ok (.bipush 100, 2) := by decide +kernel
theorem dX12_customOf_30 : decode cX12_customOf 30 = .ok (.aload_n 0, 1) := by decide +kernel
theorem dX12_customOf_31 : decode cX12_customOf 31 = .ok (.iload_n 1, 1) := by decide +kernel
theorem dX12_customOf_32 : decode cX12_customOf 32 = .ok (.iload_n 2, 1) := by decide +kernel
theorem dX12_customOf_33 : decode cX12_customOf 33 = .ok (.iload 5, 2) := by decide +kernel
theorem dX12_customOf_35 : decode cX12_customOf 35 = .ok (.invokevirtual 160, 3) := by decide +kernel
theorem dX12_customOf_38 : decode cX12_customOf 38 = .ok (.imul, 1) := by decide +kernel
theorem dX12_customOf_39 : decode cX12_customOf 39 = .ok (.aload_n 0, 1) := by decide +kernel
theorem dX12_customOf_40 : decode cX12_customOf 40 = .ok (.getfield 36, 3) := by decide +kernel
theorem dX12_customOf_43 : decode cX12_customOf 43 = .ok (.iload_n 3, 1) := by decide +kernel
theorem dX12_customOf_44 : decode cX12_customOf 44 = .ok (.imul, 1) := by decide +kernel
theorem dX12_customOf_45 : decode cX12_customOf 45 = .ok (.if_icmp .lt 8, 3) := by decide +kernel
theorem dX12_customOf_48 : decode cX12_customOf 48 = .ok (.iload 5, 2) := by decide +kernel
theorem dX12_customOf_50 : decode cX12_customOf 50 = .ok (.goto 5, 3) := by decide +kernel
theorem dX12_customOf_53 : decode cX12_customOf 53 = .ok (.iload 4, 2) := by decide +kernel
theorem dX12_customOf_55 : decode cX12_customOf 55 = .ok (.istore 4, 2) := by decide +kernel
theorem dX12_customOf_57 : decode cX12_customOf 57 = .ok (.iinc 5 1, 3) := by decide +kernel
theorem dX12_customOf_60 : decode cX12_customOf 60 = .ok (.goto (-46), 3) := by decide +kernel
theorem dX12_customOf_63 : decode cX12_customOf 63 = .ok (.iload 4, 2) := by decide +kernel
theorem dX12_customOf_65 : decode cX12_customOf 65 = .ok (.ireturn, 1) := by decide +kernel
theorem dX12_custom_0 : decode cX12_custom 0 = .ok (.aload_n 0, 1) := by decide +kernel
theorem dX12_custom_1 : decode cX12_custom 1 = .ok (.iconst 0, 1) := by decide +kernel
theorem dX12_custom_2 : decode cX12_custom 2 = .ok (.putfield 115, 3) := by decide +kernel
theorem dX12_custom_5 : decode cX12_custom 5 = .ok (.iload_n 1, 1) := by decide +kernel
theorem dX12_custom_6 : decode cX12_custom 6 = .ok (.invokestatic 140, 3) := by decide +kernel
theorem dX12_custom_9 : decode cX12_custom 9 = .ok (.ifCond .ne 10, 3) := by decide +kernel
theorem dX12_custom_12 : decode cX12_custom 12 = .ok (.iload_n 2, 1) := by decide +kernel
theorem dX12_custom_13 : decode cX12_custom 13 = .ok (.invokestatic 133, 3) := by decide +kernel
theorem dX12_custom_16 : decode cX12_custom 16 = .ok (.ifCond .eq 7, 3) := by decide +kernel
theorem dX12_custom_19 : decode cX12_custom 19 = .ok (.iconst (-1), 1) := by decide +kernel
theorem dX12_custom_20 : decode cX12_custom 20 = .ok (.goto 9, 3) := by decide +kernel
theorem dX12_custom_23 : decode cX12_custom 23 = .ok (.aload_n 0, 1) := by decide +kernel
theorem dX12_custom_24 : decode cX12_custom 24 = .ok (.iload_n 1, 1) := by decide +kernel
theorem dX12_custom_25 : decode cX12_custom 25 = .ok (.iload_n 2, 1) := by decide +kernel
theorem dX12_custom_26 : decode cX12_custom 26 = .ok (.invokevirtual 163, 3) := by decide +kernel
theorem dX12_custom_29 : decode cX12_custom 29 = .ok (.ireturn, 1) := by decide +kernel
theorem dX12_lacks_0 : decode cX12_lacks 0 = .ok (.aload_n 0, 1) := by decide +kernel
theorem dX12_lacks_1 : decode cX12_lacks 1 = .ok (.iconst 0, 1) := by decide +kernel
theorem dX12_lacks_2 : decode cX12_lacks 2 = .ok (.putfield 115, 3) := by decide +kernel
theorem dX12_lacks_5 : decode cX12_lacks 5 = .ok (.iload_n 1, 1) := by decide +kernel
theorem dX12_lacks_6 : decode cX12_lacks 6 = .ok (.invokestatic 140, 3) := by decide +kernel
theorem dX12_lacks_9 : decode cX12_lacks 9 = .ok (.ifCond .ne 10, 3) := by decide +kernel
theorem dX12_lacks_12 : decode cX12_lacks 12 = .ok (.iload_n 2, 1) := by decide +kernel
theorem dX12_lacks_13 : decode cX12_lacks 13 = .ok (.invokestatic 133, 3) := by decide +kernel
theorem dX12_lacks_16 : decode cX12_lacks 16 = .ok (.ifCond .eq 5, 3) := by decide +kernel
theorem dX12_lacks_19 : decode cX12_lacks 19 = .ok (.iconst (-1), 1) := by decide +kernel
theorem dX12_lacks_20 : decode cX12_lacks 20 = .ok (.ireturn, 1) := by decide +kernel
theorem dX12_lacks_21 : decode cX12_lacks 21 = .ok (.iload_n 3, 1) := by decide +kernel
theorem dX12_lacks_22 : decode cX12_lacks 22 = .ok (.i2l, 1) := by decide +kernel
theorem dX12_lacks_23 : decode cX12_lacks 23 = .ok (.lconst 1, 1) := by decide +kernel
theorem dX12_lacks_24 : decode cX12_lacks 24 = .ok (.ldc2_w 118, 3) := by decide +kernel
theorem dX12_lacks_27 : decode cX12_lacks 27 = .ok (.invokestatic 120, 3) := by decide +kernel
theorem dX12_lacks_30 : decode cX12_lacks 30 = .ok (.ifCond .ne 6, 3) := by decide +kernel
theorem dX12_lacks_33 : decode cX12_lacks 33 = .ok (.bipush (-2), 2) := by decide +kernel
theorem dX12_lacks_35 : decode cX12_lacks 35 = .ok (.ireturn, 1) := by decide +kernel
theorem dX12_lacks_36 : decode cX12_lacks 36 = .ok (.aload_n 0, 1) := by decide +kernel
theorem dX12_lacks_37 : decode cX12_lacks 37 = .ok (.iload_n 1, 1) := by decide +kernel
theorem dX12_lacks_38 : decode cX12_lacks 38 = .ok (.iload_n 2, 1) := by decide +kernel
theorem dX12_lacks_39 : decode cX12_lacks 39 = .ok (.iconst 0, 1) := by decide +kernel
theorem dX12_lacks_40 : decode cX12_lacks 40 = .ok (.invokevirtual 160, 3) := by decide +kernel
theorem dX12_lacks_43 : decode cX12_lacks 43 = .ok (.istore 4, 2) := by decide +kernel
theorem dX12_lacks_45 : decode cX12_lacks 45 = .ok (.aload_n 0, 1) := by decide +kernel
theorem dX12_lacks_46 : decode cX12_lacks 46 = .ok (.iload_n 1, 1) := by decide +kernel
theorem dX12_lacks_47 : decode cX12_lacks 47 = .ok (.iload_n 2, 1) := by decide +kernel
theorem dX12_lacks_48 : decode cX12_lacks 48 = .ok (.iload_n 3, 1) := by decide +kernel
theorem dX12_lacks_49 : decode cX12_lacks 49 = .ok (.invokevirtual 160, 3) := by decide +kernel
theorem dX12_lacks_52 : decode cX12_lacks 52 = .ok (.istore 5, 2) := by decide +kernel
theorem dX12_lacks_54 : decode cX12_lacks 54 = .ok (.iconst 0, 1) := by decide +kernel
theorem dX12_lacks_55 : decode cX12_lacks 55 = .ok (.istore 6, 2) := by decide +kernel
theorem dX12_lacks_57 : decode cX12_lacks 57 = .ok (.iload 6, 2) := by decide +kernel
theorem dX12_lacks_59 : decode cX12_lacks 59 = .ok (.bipush 100, 2) := by decide +kernel
theorem dX12_lacks_61 : decode cX12_lacks 61 = .ok (.if_icmp .ge 45, 3) := by decide +kernel
theorem dX12_lacks_64 : decode cX12_lacks 64 = .ok (.iload 4, 2) := by decide +kernel
theorem dX12_lacks_66 : decode cX12_lacks 66 = .ok (.iload 6, 2) := by decide +kernel
theorem dX12_lacks_68 : decode cX12_lacks 68 = .ok (.iadd, 1) := by decide +kernel
theorem dX12_lacks_69 : decode cX12_lacks 69 = .ok (.aload_n 0, 1) := by decide +kernel
theorem dX12_lacks_70 : decode cX12_lacks 70 = .ok (.getfield 33, 3) := by decide +kernel
theorem dX12_lacks_73 : decode cX12_lacks 73 = .ok (.if_icmp .lt 27, 3) := by decide +kernel
theorem dX12_lacks_76 : decode cX12_lacks 76 = .ok (.bipush 100, 2) := by decide +kernel
theorem dX12_lacks_78 : decode cX12_lacks 78 = .ok (.iload 5, 2) := by decide +kernel
theorem dX12_lacks_80 : decode cX12_lacks 80 = .ok (.iload 6, 2) := by decide +kernel
theorem dX12_lacks_82 : decode cX12_lacks 82 = .ok (.iadd, 1) := by decide +kernel
theorem dX12_lacks_83 : decode cX12_lacks 83 = .ok (.imul, 1) := by decide +kernel
theorem dX12_lacks_84 : decode cX12_lacks 84 = .ok (.aload_n 0, 1) := by decide +kernel
theorem dX12_lacks_85 : decode cX12_lacks 85 = .ok (.getfield 36, 3) := by decide +kernel
theorem dX12_lacks_88 : decode cX12_lacks 88 = .ok (.iload 4, 2) := by decide +kernel
theorem dX12_lacks_90 : decode cX12_lacks 90 = .ok (.iload 6, 2) := by decide +kernel
theorem dX12_lacks_92 : decode cX12_lacks 92 = .ok (.iadd, 1) := by decide +kernel
theorem dX12_lacks_93 : decode cX12_lacks 93 = .ok (.imul, 1) := by decide +kernel
theorem dX12_lacks_94 : decode cX12_lacks 94 = .ok (.if_icmp .lt 6, 3) := by decide +kernel
theorem dX12_lacks_97 : decode cX12_lacks 97 = .ok (.iload 6, 2) := by decide +kernel
theorem dX12_lacks_99 : decode cX12_lacks 99 = .ok (.ireturn, 1) := by decide +kernel
theorem dX12_lacks_100 : decode cX12_lacks 100 = .ok (.iinc 6 1, 3) := by decide +kernel
theorem dX12_lacks_103 : decode cX12_lacks 103 = .ok (.goto (-46), 3) := by decide +kernel
theorem dX12_lacks_106 : decode cX12_lacks 106 = .ok (.bipush (-9), 2) := by decide +kernel
theorem dX12_lacks_108 : decode cX12_lacks 108 = .ok (.ireturn, 1) := by decide +kernel
theorem dX12_write_0 : decode cX12_write 0 = .ok (.aload_n 0, 1) := by decide +kernel
theorem dX12_write_1 : decode cX12_write 1 = .ok (.iconst 0, 1) := by decide +kernel
theorem dX12_write_2 : decode cX12_write 2 = .ok (.putfield 115, 3) := by decide +kernel
theorem dX12_write_5 : decode cX12_write 5 = .ok (.iload_n 1, 1) := by decide +kernel
theorem dX12_write_6 : decode cX12_write 6 = .ok (.i2l, 1) := by decide +kernel
theorem dX12_write_7 : decode cX12_write 7 = .ok (.lconst 1, 1) := by decide +kernel
theorem dX12_write_8 : decode cX12_write 8 = .ok (.ldc2_w 167, 3) := by decide +kernel
theorem dX12_write_11 : decode cX12_write 11 = .ok (.invokestatic 120, 3) := by decide +kernel
theorem dX12_write_14 : decode cX12_write 14 = .ok (.ifCond .ne 6, 3) := by decide +kernel
theorem dX12_write_17 : decode cX12_write 17 = .ok (.bipush (-2), 2) := by decide +kernel
theorem dX12_write_19 : decode cX12_write 19 = .ok (.ireturn, 1) := by decide +kernel
theorem dX12_write_20 : decode cX12_write 20 = .ok (.aload_n 0, 1) := by decide +kernel
theorem dX12_write_21 : decode cX12_write 21 = .ok (.getfield 169, 3) := by decide +kernel
theorem dX12_write_24 : decode cX12_write 24 = .ok (.iload_n 1, 1) := by decide +kernel
theorem dX12_write_25 : decode cX12_write 25 = .ok (.iadd, 1) := by decide +kernel
theorem dX12_write_26 : decode cX12_write 26 = .ok (.bipush 24, 2) := by decide +kernel
theorem dX12_write_28 : decode cX12_write 28 = .ok (.if_icmp .le 6, 3) := by decide +kernel
theorem dX12_write_31 : decode cX12_write 31 = .ok (.bipush (-4), 2) := by decide +kernel
theorem dX12_write_33 : decode cX12_write 33 = .ok (.ireturn, 1) := by decide +kernel
theorem dX12_write_34 : decode cX12_write 34 = .ok (.iload_n 1, 1) := by decide +kernel
theorem dX12_write_35 : decode cX12_write 35 = .ok (.iconst 1, 1) := by decide +kernel
theorem dX12_write_36 : decode cX12_write 36 = .ok (.isub, 1) := by decide +kernel
theorem dX12_write_37 : decode cX12_write 37 = .ok (.istore 4, 2) := by decide +kernel
theorem dX12_write_39 : decode cX12_write 39 = .ok (.iload 4, 2) := by decide +kernel
theorem dX12_write_41 : decode cX12_write 41 = .ok (.ifCond .lt 40, 3) := by decide +kernel
theorem dX12_write_44 : decode cX12_write 44 = .ok (.aload_n 0, 1) := by decide +kernel
theorem dX12_write_45 : decode cX12_write 45 = .ok (.getfield 39, 3) := by decide +kernel
theorem dX12_write_48 : decode cX12_write 48 = .ok (.aload_n 0, 1) := by decide +kernel
theorem dX12_write_49 : decode cX12_write 49 = .ok (.getfield 169, 3) := by decide +kernel
theorem dX12_write_52 : decode cX12_write 52 = .ok (.lload_n 2, 1) := by decide +kernel
theorem dX12_write_53 : decode cX12_write 53 = .ok (.bipush 8, 2) := by decide +kernel
theorem dX12_write_55 : decode cX12_write 55 = .ok (.iload 4, 2) := by decide +kernel
theorem dX12_write_57 : decode cX12_write 57 = .ok (.imul, 1) := by decide +kernel
theorem dX12_write_58 : decode cX12_write 58 = .ok (.lshr, 1) := by decide +kernel
theorem dX12_write_59 : decode cX12_write 59 = .ok (.l2i, 1) := by decide +kernel
theorem dX12_write_60 : decode cX12_write 60 = .ok (.sipush 255, 3) := by decide +kernel
theorem dX12_write_63 : decode cX12_write 63 = .ok (.iand, 1) := by decide +kernel
theorem dX12_write_64 : decode cX12_write 64 = .ok (.iastore, 1) := by decide +kernel
theorem dX12_write_65 : decode cX12_write 65 = .ok (.aload_n 0, 1) := by decide +kernel
theorem dX12_write_66 : decode cX12_write 66 = .ok (.dup, 1) := by decide +kernel
theorem dX12_write_67 : decode cX12_write 67 = .ok (.getfield 169, 3) := by decide +kernel
theorem dX12_write_70 : decode cX12_write 70 = .ok (.iconst 1, 1) := by decide +kernel
theorem dX12_write_71 : decode cX12_write 71 = .ok (.iadd, 1) := by decide +kernel
theorem dX12_write_72 : decode cX12_write 72 = .ok (.putfield 169, 3) := by decide +kernel
theorem dX12_write_75 : decode cX12_write 75 = .ok (.iinc 4 (-1), 3) := by decide +kernel
theorem dX12_write_78 : decode cX12_write 78 = .ok (.goto (-39), 3) := by decide +kernel
theorem dX12_write_81 : decode cX12_write 81 = .ok (.aload_n 0, 1) := by decide +kernel
theorem dX12_write_82 : decode cX12_write 82 = .ok (.getfield 169, 3) := by decide +kernel
theorem dX12_write_85 : decode cX12_write 85 = .ok (.ireturn, 1) := by decide +kernel
theorem dX12_wipe_0 : decode cX12_wipe 0 = .ok (.aload_n 0, 1) := by decide +kernel
theorem dX12_wipe_1 : decode cX12_wipe 1 = .ok (.iconst 0, 1) := by decide +kernel
theorem dX12_wipe_2 : decode cX12_wipe 2 = .ok (.putfield 115, 3) := by decide +kernel
theorem dX12_wipe_5 : decode cX12_wipe 5 = .ok (.aload_n 0, 1) := by decide +kernel
theorem dX12_wipe_6 : decode cX12_wipe 6 = .ok (.getfield 169, 3) := by decide +kernel
theorem dX12_wipe_9 : decode cX12_wipe 9 = .ok (.istore_n 1, 1) := by decide +kernel
theorem dX12_wipe_10 : decode cX12_wipe 10 = .ok (.aload_n 0, 1) := by decide +kernel
theorem dX12_wipe_11 : decode cX12_wipe 11 = .ok (.iconst 0, 1) := by decide +kernel
theorem dX12_wipe_12 : decode cX12_wipe 12 = .ok (.putfield 169, 3) := by decide +kernel
theorem dX12_wipe_15 : decode cX12_wipe 15 = .ok (.iload_n 1, 1) := by decide +kernel
theorem dX12_wipe_16 : decode cX12_wipe 16 = .ok (.ireturn, 1) := by decide +kernel
theorem dX12_sign_0 : decode cX12_sign 0 = .ok (.aload_n 0, 1) := by decide +kernel
theorem dX12_sign_1 : decode cX12_sign 1 = .ok (.getfield 172, 3) := by decide +kernel
theorem dX12_sign_4 : decode cX12_sign 4 = .ok (.aload_n 0, 1) := by decide +kernel
theorem dX12_sign_5 : decode cX12_sign 5 = .ok (.getfield 169, 3) := by decide +kernel
theorem dX12_sign_8 : decode cX12_sign 8 = .ok (.if_icmp .ge 20, 3) := by decide +kernel
theorem dX12_sign_11 : decode cX12_sign 11 = .ok (.aload_n 0, 1) := by decide +kernel
theorem dX12_sign_12 : decode cX12_sign 12 = .ok (.getfield 39, 3) := by decide +kernel
theorem dX12_sign_15 : decode cX12_sign 15 = .ok (.aload_n 0, 1) := by decide +kernel
theorem dX12_sign_16 : decode cX12_sign 16 = .ok (.getfield 172, 3) := by decide +kernel
theorem dX12_sign_19 : decode cX12_sign 19 = .ok (.iaload, 1) := by decide +kernel
theorem dX12_sign_20 : decode cX12_sign 20 = .ok (.iload_n 1, 1) := by decide +kernel
theorem dX12_sign_21 : decode cX12_sign 21 = .ok (.if_icmp .ne 7, 3) := by decide +kernel
theorem dX12_sign_24 : decode cX12_sign 24 = .ok (.iconst 1, 1) := by decide +kernel
theorem dX12_sign_25 : decode cX12_sign 25 = .ok (.goto 4, 3) := by decide +kernel
theorem dX12_sign_28 : decode cX12_sign 28 = .ok (.iconst 0, 1) := by decide +kernel
theorem dX12_sign_29 : decode cX12_sign 29 = .ok (.istore_n 2, 1) := by decide +kernel
theorem dX12_sign_30 : decode cX12_sign 30 = .ok (.aload_n 0, 1) := by decide +kernel
theorem dX12_sign_31 : decode cX12_sign 31 = .ok (.dup, 1) := by decide +kernel
theorem dX12_sign_32 : decode cX12_sign 32 = .ok (.getfield 172, 3) := by decide +kernel
theorem dX12_sign_35 : decode cX12_sign 35 = .ok (.iload_n 2, 1) := by decide +kernel
theorem dX12_sign_36 : decode cX12_sign 36 = .ok (.ifCond .eq 7, 3) := by decide +kernel
theorem dX12_sign_39 : decode cX12_sign 39 = .ok (.iconst 1, 1) := by decide +kernel
theorem dX12_sign_40 : decode cX12_sign 40 = .ok (.goto 4, 3) := by decide +kernel
theorem dX12_sign_43 : decode cX12_sign 43 = .ok (.iconst 0, 1) := by decide +kernel
theorem dX12_sign_44 : decode cX12_sign 44 = .ok (.iadd, 1) := by decide +kernel
theorem dX12_sign_45 : decode cX12_sign 45 = .ok (.putfield 172, 3) := by decide +kernel
theorem dX12_sign_48 : decode cX12_sign 48 = .ok (.iload_n 2, 1) := by decide +kernel
theorem dX12_sign_49 : decode cX12_sign 49 = .ok (.ireturn, 1) := by decide +kernel
theorem dX12_figure_0 : decode cX12_figure 0 = .ok (.aload_n 0, 1) := by decide +kernel
theorem dX12_figure_1 : decode cX12_figure 1 = .ok (.getfield 172, 3) := by decide +kernel
theorem dX12_figure_4 : decode cX12_figure 4 = .ok (.aload_n 0, 1) := by decide +kernel
theorem dX12_figure_5 : decode cX12_figure 5 = .ok (.getfield 169, 3) := by decide +kernel
theorem dX12_figure_8 : decode cX12_figure 8 = .ok (.if_icmp .eq 26, 3) := by decide +kernel
theorem dX12_figure_11 : decode cX12_figure 11 = .ok (.aload_n 0, 1) := by decide +kernel
theorem dX12_figure_12 : decode cX12_figure 12 = .ok (.getfield 39, 3) := by decide +kernel
theorem dX12_figure_15 : decode cX12_figure 15 = .ok (.aload_n 0, 1) := by decide +kernel
theorem dX12_figure_16 : decode cX12_figure 16 = .ok (.getfield 172, 3) := by decide +kernel
theorem dX12_figure_19 : decode cX12_figure 19 = .ok (.iaload, 1) := by decide +kernel
theorem dX12_figure_20 : decode cX12_figure 20 = .ok (.bipush 48, 2) := by decide +kernel
theorem dX12_figure_22 : decode cX12_figure 22 = .ok (.isub, 1) := by decide +kernel
theorem dX12_figure_23 : decode cX12_figure 23 = .ok (.i2l, 1) := by decide +kernel
theorem dX12_figure_24 : decode cX12_figure 24 = .ok (.iload_n 1, 1) := by decide +kernel
theorem dX12_figure_25 : decode cX12_figure 25 = .ok (.i2l, 1) := by decide +kernel
theorem dX12_figure_26 : decode cX12_figure 26 = .ok (.iload_n 2, 1) := by decide +kernel
theorem dX12_figure_27 : decode cX12_figure 27 = .ok (.i2l, 1) := by decide +kernel
theorem dX12_figure_28 : decode cX12_figure 28 = .ok (.invokestatic 120, 3) := by decide +kernel
theorem dX12_figure_31 : decode cX12_figure 31 = .ok (.ifCond .ne 6, 3) := by decide +kernel
theorem dX12_figure_34 : decode cX12_figure 34 = .ok (.bipush (-9), 2) := by decide +kernel
theorem dX12_figure_36 : decode cX12_figure 36 = .ok (.ireturn, 1) := by decide +kernel
theorem dX12_figure_37 : decode cX12_figure 37 = .ok (.aload_n 0, 1) := by decide +kernel
theorem dX12_figure_38 : decode cX12_figure 38 = .ok (.dup, 1) := by decide +kernel
theorem dX12_figure_39 : decode cX12_figure 39 = .ok (.getfield 172, 3) := by decide +kernel
theorem dX12_figure_42 : decode cX12_figure 42 = .ok (.iconst 1, 1) := by decide +kernel
theorem dX12_figure_43 : decode cX12_figure 43 = .ok (.iadd, 1) := by decide +kernel
theorem dX12_figure_44 : decode cX12_figure 44 = .ok (.putfield 172, 3) := by decide +kernel
theorem dX12_figure_47 : decode cX12_figure 47 = .ok (.aload_n 0, 1) := by decide +kernel
theorem dX12_figure_48 : decode cX12_figure 48 = .ok (.getfield 39, 3) := by decide +kernel
theorem dX12_figure_51 : decode cX12_figure 51 = .ok (.aload_n 0, 1) := by decide +kernel
theorem dX12_figure_52 : decode cX12_figure 52 = .ok (.getfield 172, 3) := by decide +kernel
theorem dX12_figure_55 : decode cX12_figure 55 = .ok (.iconst 1, 1) := by decide +kernel
theorem dX12_figure_56 : decode cX12_figure 56 = .ok (.isub, 1) := by decide +kernel
theorem dX12_figure_57 : decode cX12_figure 57 = .ok (.iaload, 1) := by decide +kernel
theorem dX12_figure_58 : decode cX12_figure 58 = .ok (.bipush 48, 2) := by decide +kernel
theorem dX12_figure_60 : decode cX12_figure 60 = .ok (.isub, 1) := by decide +kernel
theorem dX12_figure_61 : decode cX12_figure 61 = .ok (.ireturn, 1) := by decide +kernel
theorem dX12_readPair_0 : decode cX12_readPair 0 = .ok (.aload_n 0, 1) := by decide +kernel
theorem dX12_readPair_1 : decode cX12_readPair 1 = .ok (.getfield 45, 3) := by decide +kernel
theorem dX12_readPair_4 : decode cX12_readPair 4 = .ok (.iload_n 1, 1) := by decide +kernel
theorem dX12_readPair_5 : decode cX12_readPair 5 = .ok (.aload_n 0, 1) := by decide +kernel
theorem dX12_readPair_6 : decode cX12_readPair 6 = .ok (.iconst 0, 1) := by decide +kernel
theorem dX12_readPair_7 : decode cX12_readPair 7 = .ok (.iconst 5, 1) := by decide +kernel
theorem dX12_readPair_8 : decode cX12_readPair 8 = .ok (.invokevirtual 175, 3) := by decide +kernel
theorem dX12_readPair_11 : decode cX12_readPair 11 = .ok (.iastore, 1) := by decide +kernel
theorem dX12_readPair_12 : decode cX12_readPair 12 = .ok (.aload_n 0, 1) := by decide +kernel
theorem dX12_readPair_13 : decode cX12_readPair 13 = .ok (.getfield 45, 3) := by decide +kernel
theorem dX12_readPair_16 : decode cX12_readPair 16 = .ok (.iload_n 1, 1) := by decide +kernel
theorem dX12_readPair_17 : decode cX12_readPair 17 = .ok (.iaload, 1) := by decide +kernel
theorem dX12_readPair_18 : decode cX12_readPair 18 = .ok (.bipush (-9), 2) := by decide +kernel
theorem dX12_readPair_20 : decode cX12_readPair 20 = .ok (.if_icmp .eq 12, 3) := by decide +kernel
theorem dX12_readPair_23 : decode cX12_readPair 23 = .ok (.aload_n 0, 1) := by decide +kernel
theorem dX12_readPair_24 : decode cX12_readPair 24 = .ok (.bipush 61, 2) := by decide +kernel
theorem dX12_readPair_26 : decode cX12_readPair 26 = .ok (.invokevirtual 178, 3) := by decide +kernel
theorem dX12_readPair_29 : decode cX12_readPair 29 = .ok (.ifCond .ne 5, 3) := by decide +kernel
theorem dX12_readPair_32 : decode cX12_readPair 32 = .ok (.iconst 0, 1) := by decide +kernel
theorem dX12_readPair_33 : decode cX12_readPair 33 = .ok (.ireturn, 1) := by decide +kernel
theorem dX12_readPair_34 : decode cX12_readPair 34 = .ok (.aload_n 0, 1) := by decide +kernel
theorem dX12_readPair_35 : decode cX12_readPair 35 = .ok (.getfield 45, 3) := by decide +kernel
theorem dX12_readPair_38 : decode cX12_readPair 38 = .ok (.iload_n 1, 1) := by decide +kernel
theorem dX12_readPair_39 : decode cX12_readPair 39 = .ok (.iconst 1, 1) := by decide +kernel
theorem dX12_readPair_40 : decode cX12_readPair 40 = .ok (.iadd, 1) := by decide +kernel
theorem dX12_readPair_41 : decode cX12_readPair 41 = .ok (.aload_n 0, 1) := by decide +kernel
theorem dX12_readPair_42 : decode cX12_readPair 42 = .ok (.iload_n 2, 1) := by decide +kernel
theorem dX12_readPair_43 : decode cX12_readPair 43 = .ok (.iconst 5, 1) := by decide +kernel
theorem dX12_readPair_44 : decode cX12_readPair 44 = .ok (.invokevirtual 175, 3) := by decide +kernel
theorem dX12_readPair_47 : decode cX12_readPair 47 = .ok (.iastore, 1) := by decide +kernel
theorem dX12_readPair_48 : decode cX12_readPair 48 = .ok (.aload_n 0, 1) := by decide +kernel
theorem dX12_readPair_49 : decode cX12_readPair 49 = .ok (.getfield 45, 3) := by decide +kernel
theorem dX12_readPair_52 : decode cX12_readPair 52 = .ok (.iload_n 1, 1) := by decide +kernel
theorem dX12_readPair_53 : decode cX12_readPair 53 = .ok (.iconst 1, 1) := by decide +kernel
theorem dX12_readPair_54 : decode cX12_readPair 54 = .ok (.iadd, 1) := by decide +kernel
theorem dX12_readPair_55 : decode cX12_readPair 55 = .ok (.iaload, 1) := by decide +kernel
theorem dX12_readPair_56 : decode cX12_readPair 56 = .ok (.bipush (-9), 2) := by decide +kernel
theorem dX12_readPair_58 : decode cX12_readPair 58 = .ok (.if_icmp .eq 7, 3) := by decide +kernel
theorem dX12_readPair_61 : decode cX12_readPair 61 = .ok (.iconst 1, 1) := by decide +kernel
theorem dX12_readPair_62 : decode cX12_readPair 62 = .ok (.goto 4, 3) := by decide +kernel
theorem dX12_readPair_65 : decode cX12_readPair 65 = .ok (.iconst 0, 1) := by decide +kernel
theorem dX12_readPair_66 : decode cX12_readPair 66 = .ok (.ireturn, 1) := by decide +kernel
theorem dX12_readRule_0 : decode cX12_readRule 0 = .ok (.aload_n 0, 1) := by decide +kernel
theorem dX12_readRule_1 : decode cX12_readRule 1 = .ok (.iconst 0, 1) := by decide +kernel
theorem dX12_readRule_2 : decode cX12_readRule 2 = .ok (.putfield 172, 3) := by decide +kernel
theorem dX12_readRule_5 : decode cX12_readRule 5 = .ok (.aload_n 0, 1) := by decide +kernel
theorem dX12_readRule_6 : decode cX12_readRule 6 = .ok (.getfield 45, 3) := by decide +kernel
theorem dX12_readRule_9 : decode cX12_readRule 9 = .ok (.iconst 3, 1) := by decide +kernel
theorem dX12_readRule_10 : decode cX12_readRule 10 = .ok (.bipush (-9), 2) := by decide +kernel
theorem dX12_readRule_12 : decode cX12_readRule 12 = .ok (.iastore, 1) := by decide +kernel
theorem dX12_readRule_13 : decode cX12_readRule 13 = .ok (.aload_n 0, 1) := by decide +kernel
theorem dX12_readRule_14 : decode cX12_readRule 14 = .ok (.getfield 45, 3) := by decide +kernel
theorem dX12_readRule_17 : decode cX12_readRule 17 = .ok (.iconst 4, 1) := by decide +kernel
theorem dX12_readRule_18 : decode cX12_readRule 18 = .ok (.bipush (-9), 2) := by decide +kernel
theorem dX12_readRule_20 : decode cX12_readRule 20 = .ok (.iastore, 1) := by decide +kernel
theorem dX12_readRule_21 : decode cX12_readRule 21 = .ok (.aload_n 0, 1) := by decide +kernel
theorem dX12_readRule_22 : decode cX12_readRule 22 = .ok (.getfield 45, 3) := by decide +kernel
theorem dX12_readRule_25 : decode cX12_readRule 25 = .ok (.iconst 5, 1) := by decide +kernel
theorem dX12_readRule_26 : decode cX12_readRule 26 = .ok (.bipush (-9), 2) := by decide +kernel
theorem dX12_readRule_28 : decode cX12_readRule 28 = .ok (.iastore, 1) := by decide +kernel
theorem dX12_readRule_29 : decode cX12_readRule 29 = .ok (.aload_n 0, 1) := by decide +kernel
theorem dX12_readRule_30 : decode cX12_readRule 30 = .ok (.getfield 45, 3) := by decide +kernel
theorem dX12_readRule_33 : decode cX12_readRule 33 = .ok (.iconst 0, 1) := by decide +kernel
theorem dX12_readRule_34 : decode cX12_readRule 34 = .ok (.aload_n 0, 1) := by decide +kernel
theorem dX12_readRule_35 : decode cX12_readRule 35 = .ok (.bipush 76, 2) := by decide +kernel
theorem dX12_readRule_37 : decode cX12_readRule 37 = .ok (.invokevirtual 178, 3) := by decide +kernel
theorem dX12_readRule_40 : decode cX12_readRule 40 = .ok (.ifCond .eq 7, 3) := by decide +kernel
theorem dX12_readRule_43 : decode cX12_readRule 43 = .ok (.iconst 0, 1) := by decide +kernel
theorem dX12_readRule_44 : decode cX12_readRule 44 = .ok (.goto 31, 3) := by decide +kernel
theorem dX12_readRule_47 : decode cX12_readRule 47 = .ok (.aload_n 0, 1) := by decide +kernel
theorem dX12_readRule_48 : decode cX12_readRule 48 = .ok (.bipush 66, 2) := by decide +kernel
theorem dX12_readRule_50 : decode cX12_readRule 50 = .ok (.invokevirtual 178, 3) := by decide +kernel
theorem dX12_readRule_53 : decode cX12_readRule 53 = .ok (.ifCond .eq 7, 3) := by decide +kernel
theorem dX12_readRule_56 : decode cX12_readRule 56 = .ok (.iconst 1, 1) := by decide +kernel
theorem dX12_readRule_57 : decode cX12_readRule 57 = .ok (.goto 18, 3) := by decide +kernel
theorem dX12_readRule_60 : decode cX12_readRule 60 = .ok (.aload_n 0, 1) := by decide +kernel
theorem dX12_readRule_61 : decode cX12_readRule 61 = .ok (.bipush 77, 2) := by decide +kernel
theorem dX12_readRule_63 : decode cX12_readRule 63 = .ok (.invokevirtual 178, 3) := by decide +kernel
theorem dX12_readRule_66 : decode cX12_readRule 66 = .ok (.ifCond .eq 7, 3) := by decide +kernel
theorem dX12_readRule_69 : decode cX12_readRule 69 = .ok (.iconst 2, 1) := by decide +kernel
theorem dX12_readRule_70 : decode cX12_readRule 70 = .ok (.goto 5, 3) := by decide +kernel
theorem dX12_readRule_73 : decode cX12_readRule 73 = .ok (.bipush (-9), 2) := by decide +kernel
theorem dX12_readRule_75 : decode cX12_readRule 75 = .ok (.iastore, 1) := by decide +kernel
theorem dX12_readRule_76 : decode cX12_readRule 76 = .ok (.aload_n 0, 1) := by decide +kernel
theorem dX12_readRule_77 : decode cX12_readRule 77 = .ok (.getfield 45, 3) := by decide +kernel
theorem dX12_readRule_80 : decode cX12_readRule 80 = .ok (.iconst 0, 1) := by decide +kernel
theorem dX12_readRule_81 : decode cX12_readRule 81 = .ok (.iaload, 1) := by decide +kernel
theorem dX12_readRule_82 : decode cX12_readRule 82 = .ok (.bipush (-9), 2) := by decide +kernel
theorem dX12_readRule_84 : decode cX12_readRule 84 = .ok (.if_icmp .eq 12, 3) := by decide +kernel
theorem dX12_readRule_87 : decode cX12_readRule 87 = .ok (.aload_n 0, 1) := by decide +kernel
theorem dX12_readRule_88 : decode cX12_readRule 88 = .ok (.iconst 1, 1) := by decide +kernel
theorem dX12_readRule_89 : decode cX12_readRule 89 = .ok (.iconst 1, 1) := by decide +kernel
theorem dX12_readRule_90 : decode cX12_readRule 90 = .ok (.invokevirtual 181, 3) := by decide +kernel
theorem dX12_readRule_93 : decode cX12_readRule 93 = .ok (.ifCond .ne 8, 3) := by decide +kernel
theorem dX12_readRule_96 : decode cX12_readRule 96 = .ok (.aload_n 0, 1) := by decide +kernel
theorem dX12_readRule_97 : decode cX12_readRule 97 = .ok (.getfield 172, 3) := by decide +kernel
theorem dX12_readRule_100 : decode cX12_readRule 100 = .ok (.ireturn, 1) := by decide +kernel
theorem dX12_readRule_101 : decode cX12_readRule 101 = .ok (.aload_n 0, 1) := by decide +kernel
theorem dX12_readRule_102 : decode cX12_readRule 102 = .ok (.bipush 63, 2) := by decide +kernel
theorem dX12_readRule_104 : decode cX12_readRule 104 = .ok (.invokevirtual 178, 3) := by decide +kernel
theorem dX12_readRule_107 : decode cX12_readRule 107 = .ok (.ifCond .eq 17, 3) := by decide +kernel
theorem dX12_readRule_110 : decode cX12_readRule 110 = .ok (.aload_n 0, 1) := by decide +kernel
theorem dX12_readRule_111 : decode cX12_readRule 111 = .ok (.iconst 3, 1) := by decide +kernel
theorem dX12_readRule_112 : decode cX12_readRule 112 = .ok (.iconst 0, 1) := by decide +kernel
theorem dX12_readRule_113 : decode cX12_readRule 113 = .ok (.invokevirtual 181, 3) := by decide +kernel
theorem dX12_readRule_116 : decode cX12_readRule 116 = .ok (.ifCond .ne 8, 3) := by decide +kernel
theorem dX12_readRule_119 : decode cX12_readRule 119 = .ok (.aload_n 0, 1) := by decide +kernel
theorem dX12_readRule_120 : decode cX12_readRule 120 = .ok (.getfield 172, 3) := by decide +kernel
theorem dX12_readRule_123 : decode cX12_readRule 123 = .ok (.ireturn, 1) := by decide +kernel
theorem dX12_readRule_124 : decode cX12_readRule 124 = .ok (.aload_n 0, 1) := by decide +kernel
theorem dX12_readRule_125 : decode cX12_readRule 125 = .ok (.bipush 64, 2) := by decide +kernel
theorem dX12_readRule_127 : decode cX12_readRule 127 = .ok (.invokevirtual 178, 3) := by decide +kernel
theorem dX12_readRule_130 : decode cX12_readRule 130 = .ok (.ifCond .eq 31, 3) := by decide +kernel
theorem dX12_readRule_133 : decode cX12_readRule 133 = .ok (.aload_n 0, 1) := by decide +kernel
theorem dX12_readRule_134 : decode cX12_readRule 134 = .ok (.getfield 45, 3) := by decide +kernel
theorem dX12_readRule_137 : decode cX12_readRule 137 = .ok (.iconst 5, 1) := by decide +kernel
theorem dX12_readRule_138 : decode cX12_readRule 138 = .ok (.aload_n 0, 1) := by decide +kernel
theorem dX12_readRule_139 : decode cX12_readRule 139 = .ok (.iconst 0, 1) := by decide +kernel
theorem dX12_readRule_140 : decode cX12_readRule 140 = .ok (.iconst 2, 1) := by decide +kernel
theorem dX12_readRule_141 : decode cX12_readRule 141 = .ok (.invokevirtual 175, 3) := by decide +kernel
theorem dX12_readRule_144 : decode cX12_readRule 144 = .ok (.iastore, 1) := by decide +kernel
theorem dX12_readRule_145 : decode cX12_readRule 145 = .ok (.aload_n 0, 1) := by decide +kernel
theorem dX12_readRule_146 : decode cX12_readRule 146 = .ok (.getfield 45, 3) := by decide +kernel
theorem dX12_readRule_149 : decode cX12_readRule 149 = .ok (.iconst 5, 1) := by decide +kernel
theorem dX12_readRule_150 : decode cX12_readRule 150 = .ok (.iaload, 1) := by decide +kernel
theorem dX12_readRule_151 : decode cX12_readRule 151 = .ok (.bipush (-9), 2) := by decide +kernel
theorem dX12_readRule_153 : decode cX12_readRule 153 = .ok (.if_icmp .ne 8, 3) := by decide +kernel
theorem dX12_readRule_156 : decode cX12_readRule 156 = .ok (.aload_n 0, 1) := by decide +kernel
theorem dX12_readRule_157 : decode cX12_readRule 157 = .ok (.getfield 172, 3) := by decide +kernel
theorem dX12_readRule_160 : decode cX12_readRule 160 = .ok (.ireturn, 1) := by decide +kernel
theorem dX12_readRule_161 : decode cX12_readRule 161 = .ok (.aload_n 0, 1) := by decide +kernel
theorem dX12_readRule_162 : decode cX12_readRule 162 = .ok (.getfield 172, 3) := by decide +kernel
theorem dX12_readRule_165 : decode cX12_readRule 165 = .ok (.aload_n 0, 1) := by decide +kernel
theorem dX12_readRule_166 : decode cX12_readRule 166 = .ok (.getfield 169, 3) := by decide +kernel
theorem dX12_readRule_169 : decode cX12_readRule 169 = .ok (.if_icmp .ne 8, 3) := by decide +kernel
theorem dX12_readRule_172 : decode cX12_readRule 172 = .ok (.bipush (-9), 2) := by decide +kernel
theorem dX12_readRule_174 : decode cX12_readRule 174 = .ok (.goto 7, 3) := by decide +kernel
theorem dX12_readRule_177 : decode cX12_readRule 177 = .ok (.aload_n 0, 1) := by decide +kernel
theorem dX12_readRule_178 : decode cX12_readRule 178 = .ok (.getfield 172, 3) := by decide +kernel
theorem dX12_readRule_181 : decode cX12_readRule 181 = .ok (.ireturn, 1) := by decide +kernel
theorem dX12_letterOf_0 : decode cX12_letterOf 0 = .ok (.iload_n 0, 1) := by decide +kernel
theorem dX12_letterOf_1 : decode cX12_letterOf 1 = .ok (.bipush 87, 2) := by decide +kernel
theorem dX12_letterOf_3 : decode cX12_letterOf 3 = .ok (.if_icmp .ne 7, 3) := by decide +kernel
theorem dX12_letterOf_6 : decode cX12_letterOf 6 = .ok (.iconst 0, 1) := by decide +kernel
theorem dX12_letterOf_7 : decode cX12_letterOf 7 = .ok (.goto 45, 3) := by decide +kernel
theorem dX12_letterOf_10 : decode cX12_letterOf 10 = .ok (.iload_n 0, 1) := by decide +kernel
theorem dX12_letterOf_11 : decode cX12_letterOf 11 = .ok (.bipush 68, 2) := by decide +kernel
theorem dX12_letterOf_13 : decode cX12_letterOf 13 = .ok (.if_icmp .ne 7, 3) := by decide +kernel
theorem dX12_letterOf_16 : decode cX12_letterOf 16 = .ok (.iconst 1, 1) := by decide +kernel
theorem dX12_letterOf_17 : decode cX12_letterOf 17 = .ok (.goto 35, 3) := by decide +kernel
theorem dX12_letterOf_20 : decode cX12_letterOf 20 = .ok (.iload_n 0, 1) := by decide +kernel
theorem dX12_letterOf_21 : decode cX12_letterOf 21 = .ok (.bipush 67, 2) := by decide +kernel
theorem dX12_letterOf_23 : decode cX12_letterOf 23 = .ok (.if_icmp .ne 7, 3) := by decide +kernel
theorem dX12_letterOf_26 : decode cX12_letterOf 26 = .ok (.iconst 2, 1) := by decide +kernel
theorem dX12_letterOf_27 : decode cX12_letterOf 27 = .ok (.goto 25, 3) := by decide +kernel
theorem dX12_letterOf_30 : decode cX12_letterOf 30 = .ok (.iload_n 0, 1) := by decide +kernel
theorem dX12_letterOf_31 : decode cX12_letterOf 31 = .ok (.bipush 76, 2) := by decide +kernel
theorem dX12_letterOf_33 : decode cX12_letterOf 33 = .ok (.if_icmp .ne 7, 3) := by decide +kernel
theorem dX12_letterOf_36 : decode cX12_letterOf 36 = .ok (.iconst 3, 1) := by decide +kernel
theorem dX12_letterOf_37 : decode cX12_letterOf 37 = .ok (.goto 15, 3) := by decide +kernel
theorem dX12_letterOf_40 : decode cX12_letterOf 40 = .ok (.iload_n 0, 1) := by decide +kernel
theorem dX12_letterOf_41 : decode cX12_letterOf 41 = .ok (.bipush 77, 2) := by decide +kernel
theorem dX12_letterOf_43 : decode cX12_letterOf 43 = .ok (.if_icmp .ne 7, 3) := by decide +kernel
theorem dX12_letterOf_46 : decode cX12_letterOf 46 = .ok (.iconst 4, 1) := by decide +kernel
theorem dX12_letterOf_47 : decode cX12_letterOf 47 = .ok (.goto 5, 3) := by decide +kernel
theorem dX12_letterOf_50 : decode cX12_letterOf 50 = .ok (.bipush (-9), 2) := by decide +kernel
theorem dX12_letterOf_52 : decode cX12_letterOf 52 = .ok (.ireturn, 1) := by decide +kernel
theorem dX12_readOrder_0 : decode cX12_readOrder 0 = .ok (.iconst 0, 1) := by decide +kernel
theorem dX12_readOrder_1 : decode cX12_readOrder 1 = .ok (.istore_n 1, 1) := by decide +kernel
theorem dX12_readOrder_2 : decode cX12_readOrder 2 = .ok (.aload_n 0, 1) := by decide +kernel
theorem dX12_readOrder_3 : decode cX12_readOrder 3 = .ok (.iconst 0, 1) := by decide +kernel
theorem dX12_readOrder_4 : decode cX12_readOrder 4 = .ok (.putfield 172, 3) := by decide +kernel
theorem dX12_readOrder_7 : decode cX12_readOrder 7 = .ok (.aload_n 0, 1) := by decide +kernel
theorem dX12_readOrder_8 : decode cX12_readOrder 8 = .ok (.getfield 172, 3) := by decide +kernel
theorem dX12_readOrder_11 : decode cX12_readOrder 11 = .ok (.aload_n 0, 1) := by decide +kernel
theorem dX12_readOrder_12 : decode cX12_readOrder 12 = .ok (.getfield 169, 3) := by decide +kernel
theorem dX12_readOrder_15 : decode cX12_readOrder 15 = .ok (.if_icmp .ge 55, 3) := by decide +kernel
theorem dX12_readOrder_18 : decode cX12_readOrder 18 = .ok (.aload_n 0, 1) := by decide +kernel
theorem dX12_readOrder_19 : decode cX12_readOrder 19 = .ok (.getfield 39, 3) := by decide +kernel
theorem dX12_readOrder_22 : decode cX12_readOrder 22 = .ok (.aload_n 0, 1) := by decide +kernel
theorem dX12_readOrder_23 : decode cX12_readOrder 23 = .ok (.getfield 172, 3) := by decide +kernel
theorem dX12_readOrder_26 : decode cX12_readOrder 26 = .ok (.iaload, 1) := by decide +kernel
theorem dX12_readOrder_27 : decode cX12_readOrder 27 = .ok (.invokestatic 184, 3) := by decide +kernel
theorem dX12_readOrder_30 : decode cX12_readOrder 30 = .ok (.istore_n 2, 1) := by decide +kernel
theorem dX12_readOrder_31 : decode cX12_readOrder 31 = .ok (.iload_n 2, 1) := by decide +kernel
theorem dX12_readOrder_32 : decode cX12_readOrder 32 = .ok (.bipush (-9), 2) := by decide +kernel
theorem dX12_readOrder_34 : decode cX12_readOrder 34 = .ok (.if_icmp .eq 12, 3) := by decide +kernel
theorem dX12_readOrder_37 : decode cX12_readOrder 37 = .ok (.iload_n 1, 1) := by decide +kernel
theorem dX12_readOrder_38 : decode cX12_readOrder 38 = .ok (.iload_n 2, 1) := by decide +kernel
theorem dX12_readOrder_39 : decode cX12_readOrder 39 = .ok (.ishr, 1) := by decide +kernel
theorem dX12_readOrder_40 : decode cX12_readOrder 40 = .ok (.iconst 1, 1) := by decide +kernel
theorem dX12_readOrder_41 : decode cX12_readOrder 41 = .ok (.iand, 1) := by decide +kernel
theorem dX12_readOrder_42 : decode cX12_readOrder 42 = .ok (.iconst 1, 1) := by decide +kernel
theorem dX12_readOrder_43 : decode cX12_readOrder 43 = .ok (.if_icmp .ne 8, 3) := by decide +kernel
theorem dX12_readOrder_46 : decode cX12_readOrder 46 = .ok (.aload_n 0, 1) := by decide +kernel
theorem dX12_readOrder_47 : decode cX12_readOrder 47 = .ok (.getfield 172, 3) := by decide +kernel
theorem dX12_readOrder_50 : decode cX12_readOrder 50 = .ok (.ireturn, 1) := by decide +kernel
theorem dX12_readOrder_51 : decode cX12_readOrder 51 = .ok (.iload_n 1, 1) := by decide +kernel
theorem dX12_readOrder_52 : decode cX12_readOrder 52 = .ok (.iconst 1, 1) := by decide +kernel
theorem dX12_readOrder_53 : decode cX12_readOrder 53 = .ok (.iload_n 2, 1) := by decide +kernel
theorem dX12_readOrder_54 : decode cX12_readOrder 54 = .ok (.ishl, 1) := by decide +kernel
theorem dX12_readOrder_55 : decode cX12_readOrder 55 = .ok (.ior, 1) := by decide +kernel
theorem dX12_readOrder_56 : decode cX12_readOrder 56 = .ok (.istore_n 1, 1) := by decide +kernel
theorem dX12_readOrder_57 : decode cX12_readOrder 57 = .ok (.aload_n 0, 1) := by decide +kernel
theorem dX12_readOrder_58 : decode cX12_readOrder 58 = .ok (.dup, 1) := by decide +kernel
theorem dX12_readOrder_59 : decode cX12_readOrder 59 = .ok (.getfield 172, 3) := by decide +kernel
theorem dX12_readOrder_62 : decode cX12_readOrder 62 = .ok (.iconst 1, 1) := by decide +kernel
theorem dX12_readOrder_63 : decode cX12_readOrder 63 = .ok (.iadd, 1) := by decide +kernel
theorem dX12_readOrder_64 : decode cX12_readOrder 64 = .ok (.putfield 172, 3) := by decide +kernel
theorem dX12_readOrder_67 : decode cX12_readOrder 67 = .ok (.goto (-60), 3) := by decide +kernel
theorem dX12_readOrder_70 : decode cX12_readOrder 70 = .ok (.aload_n 0, 1) := by decide +kernel
theorem dX12_readOrder_71 : decode cX12_readOrder 71 = .ok (.getfield 169, 3) := by decide +kernel
theorem dX12_readOrder_74 : decode cX12_readOrder 74 = .ok (.ifCond .ne 7, 3) := by decide +kernel
theorem dX12_readOrder_77 : decode cX12_readOrder 77 = .ok (.iconst 0, 1) := by decide +kernel
theorem dX12_readOrder_78 : decode cX12_readOrder 78 = .ok (.goto 5, 3) := by decide +kernel
theorem dX12_readOrder_81 : decode cX12_readOrder 81 = .ok (.bipush (-9), 2) := by decide +kernel
theorem dX12_readOrder_83 : decode cX12_readOrder 83 = .ok (.ireturn, 1) := by decide +kernel
theorem dX12_readWords_0 : decode cX12_readWords 0 = .ok (.aload_n 0, 1) := by decide +kernel
theorem dX12_readWords_1 : decode cX12_readWords 1 = .ok (.iconst 0, 1) := by decide +kernel
theorem dX12_readWords_2 : decode cX12_readWords 2 = .ok (.putfield 188, 3) := by decide +kernel
theorem dX12_readWords_5 : decode cX12_readWords 5 = .ok (.iconst 0, 1) := by decide +kernel
theorem dX12_readWords_6 : decode cX12_readWords 6 = .ok (.istore_n 1, 1) := by decide +kernel
theorem dX12_readWords_7 : decode cX12_readWords 7 = .ok (.iload_n 1, 1) := by decide +kernel
theorem dX12_readWords_8 : decode cX12_readWords 8 = .ok (.bipush 6, 2) := by decide +kernel
theorem dX12_readWords_10 : decode cX12_readWords 10 = .ok (.if_icmp .ge 16, 3) := by decide +kernel
theorem dX12_readWords_13 : decode cX12_readWords 13 = .ok (.aload_n 0, 1) := by decide +kernel
theorem dX12_readWords_14 : decode cX12_readWords 14 = .ok (.getfield 72, 3) := by decide +kernel
theorem dX12_readWords_17 : decode cX12_readWords 17 = .ok (.iload_n 1, 1) := by decide +kernel
theorem dX12_readWords_18 : decode cX12_readWords 18 = .ok (.iconst 0, 1) := by decide +kernel
theorem dX12_readWords_19 : decode cX12_readWords 19 = .ok (.iastore, 1) := by decide +kernel
theorem dX12_readWords_20 : decode cX12_readWords 20 = .ok (.iinc 1 1, 3) := by decide +kernel
theorem dX12_readWords_23 : decode cX12_readWords 23 = .ok (.goto (-16), 3) := by decide +kernel
theorem dX12_readWords_26 : decode cX12_readWords 26 = .ok (.aload_n 0, 1) := by decide +kernel
theorem dX12_readWords_27 : decode cX12_readWords 27 = .ok (.iconst 0, 1) := by decide +kernel
theorem dX12_readWords_28 : decode cX12_readWords 28 = .ok (.putfield 172, 3) := by decide +kernel
theorem dX12_readWords_31 : decode cX12_readWords 31 = .ok (.aload_n 0, 1) := by decide +kernel
theorem dX12_readWords_32 : decode cX12_readWords 32 = .ok (.getfield 172, 3) := by decide +kernel
theorem dX12_readWords_35 : decode cX12_readWords 35 = .ok (.aload_n 0, 1) := by decide +kernel
theorem dX12_readWords_36 : decode cX12_readWords 36 = .ok (.getfield 169, 3) := by decide +kernel
theorem dX12_readWords_39 : decode cX12_readWords 39 = .ok (.if_icmp .ge 200, 3) := by decide +kernel
theorem dX12_readWords_42 : decode cX12_readWords 42 = .ok (.aload_n 0, 1) := by decide +kernel
theorem dX12_readWords_43 : decode cX12_readWords 43 = .ok (.getfield 39, 3) := by decide +kernel
theorem dX12_readWords_46 : decode cX12_readWords 46 = .ok (.aload_n 0, 1) := by decide +kernel
theorem dX12_readWords_47 : decode cX12_readWords 47 = .ok (.getfield 172, 3) := by decide +kernel
theorem dX12_readWords_50 : decode cX12_readWords 50 = .ok (.iaload, 1) := by decide +kernel
theorem dX12_readWords_51 : decode cX12_readWords 51 = .ok (.bipush 88, 2) := by decide +kernel
theorem dX12_readWords_53 : decode cX12_readWords 53 = .ok (.if_icmp .ne 110, 3) := by decide +kernel
theorem dX12_readWords_56 : decode cX12_readWords 56 = .ok (.aload_n 0, 1) := by decide +kernel
theorem dX12_readWords_57 : decode cX12_readWords 57 = .ok (.getfield 188, 3) := by decide +kernel
theorem dX12_readWords_60 : decode cX12_readWords 60 = .ok (.bipush 14, 2) := by decide +kernel
theorem dX12_readWords_62 : decode cX12_readWords 62 = .ok (.if_icmp .ne 8, 3) := by decide +kernel
theorem dX12_readWords_65 : decode cX12_readWords 65 = .ok (.aload_n 0, 1) := by decide +kernel
theorem dX12_readWords_66 : decode cX12_readWords 66 = .ok (.getfield 172, 3) := by decide +kernel
theorem dX12_readWords_69 : decode cX12_readWords 69 = .ok (.ireturn, 1) := by decide +kernel
theorem dX12_readWords_70 : decode cX12_readWords 70 = .ok (.aload_n 0, 1) := by decide +kernel
theorem dX12_readWords_71 : decode cX12_readWords 71 = .ok (.dup, 1) := by decide +kernel
theorem dX12_readWords_72 : decode cX12_readWords 72 = .ok (.getfield 172, 3) := by decide +kernel
theorem dX12_readWords_75 : decode cX12_readWords 75 = .ok (.iconst 1, 1) := by decide +kernel
theorem dX12_readWords_76 : decode cX12_readWords 76 = .ok (.iadd, 1) := by decide +kernel
theorem dX12_readWords_77 : decode cX12_readWords 77 = .ok (.putfield 172, 3) := by decide +kernel
theorem dX12_readWords_80 : decode cX12_readWords 80 = .ok (.aload_n 0, 1) := by decide +kernel
theorem dX12_readWords_81 : decode cX12_readWords 81 = .ok (.getfield 172, 3) := by decide +kernel
theorem dX12_readWords_84 : decode cX12_readWords 84 = .ok (.aload_n 0, 1) := by decide +kernel
theorem dX12_readWords_85 : decode cX12_readWords 85 = .ok (.getfield 169, 3) := by decide +kernel
theorem dX12_readWords_88 : decode cX12_readWords 88 = .ok (.if_icmp .ge 18, 3) := by decide +kernel
theorem dX12_readWords_91 : decode cX12_readWords 91 = .ok (.aload_n 0, 1) := by decide +kernel
theorem dX12_readWords_92 : decode cX12_readWords 92 = .ok (.getfield 39, 3) := by decide +kernel
theorem dX12_readWords_95 : decode cX12_readWords 95 = .ok (.aload_n 0, 1) := by decide +kernel
theorem dX12_readWords_96 : decode cX12_readWords 96 = .ok (.getfield 172, 3) := by decide +kernel
theorem dX12_readWords_99 : decode cX12_readWords 99 = .ok (.iaload, 1) := by decide +kernel
theorem dX12_readWords_100 : decode cX12_readWords 100 = .ok (.invokestatic 184, 3) := by decide +kernel
theorem dX12_readWords_103 : decode cX12_readWords 103 = .ok (.goto 5, 3) := by decide +kernel
theorem dX12_readWords_106 : decode cX12_readWords 106 = .ok (.bipush (-9), 2) := by decide +kernel
theorem dX12_readWords_108 : decode cX12_readWords 108 = .ok (.istore_n 1, 1) := by decide +kernel
theorem dX12_readWords_109 : decode cX12_readWords 109 = .ok (.iload_n 1, 1) := by decide +kernel
theorem dX12_readWords_110 : decode cX12_readWords 110 = .ok (.i2l, 1) := by decide +kernel
theorem dX12_readWords_111 : decode cX12_readWords 111 = .ok (.lconst 1, 1) := by decide +kernel
theorem dX12_readWords_112 : decode cX12_readWords 112 = .ok (.ldc2_w 128, 3) := by decide +kernel
theorem dX12_readWords_115 : decode cX12_readWords 115 = .ok (.invokestatic 120, 3) := by decide +kernel
theorem dX12_readWords_118 : decode cX12_readWords 118 = .ok (.ifCond .eq 15, 3) := by decide +kernel
theorem dX12_readWords_121 : decode cX12_readWords 121 = .ok (.aload_n 0, 1) := by decide +kernel
theorem dX12_readWords_122 : decode cX12_readWords 122 = .ok (.getfield 188, 3) := by decide +kernel
theorem dX12_readWords_125 : decode cX12_readWords 125 = .ok (.iload_n 1, 1) := by decide +kernel
theorem dX12_readWords_126 : decode cX12_readWords 126 = .ok (.ishr, 1) := by decide +kernel
theorem dX12_readWords_127 : decode cX12_readWords 127 = .ok (.iconst 1, 1) := by decide +kernel
theorem dX12_readWords_128 : decode cX12_readWords 128 = .ok (.iand, 1) := by decide +kernel
theorem dX12_readWords_129 : decode cX12_readWords 129 = .ok (.iconst 1, 1) := by decide +kernel
theorem dX12_readWords_130 : decode cX12_readWords 130 = .ok (.if_icmp .ne 8, 3) := by decide +kernel
theorem dX12_readWords_133 : decode cX12_readWords 133 = .ok (.aload_n 0, 1) := by decide +kernel
theorem dX12_readWords_134 : decode cX12_readWords 134 = .ok (.getfield 172, 3) := by decide +kernel
theorem dX12_readWords_137 : decode cX12_readWords 137 = .ok (.ireturn, 1) := by decide +kernel
theorem dX12_readWords_138 : decode cX12_readWords 138 = .ok (.aload_n 0, 1) := by decide +kernel
theorem dX12_readWords_139 : decode cX12_readWords 139 = .ok (.dup, 1) := by decide +kernel
theorem dX12_readWords_140 : decode cX12_readWords 140 = .ok (.getfield 188, 3) := by decide +kernel
theorem dX12_readWords_143 : decode cX12_readWords 143 = .ok (.iconst 1, 1) := by decide +kernel
theorem dX12_readWords_144 : decode cX12_readWords 144 = .ok (.iload_n 1, 1) := by decide +kernel
theorem dX12_readWords_145 : decode cX12_readWords 145 = .ok (.ishl, 1) := by decide +kernel
theorem dX12_readWords_146 : decode cX12_readWords 146 = .ok (.ior, 1) := by decide +kernel
theorem dX12_readWords_147 : decode cX12_readWords 147 = .ok (.putfield 188, 3) := by decide +kernel
theorem dX12_readWords_150 : decode cX12_readWords 150 = .ok (.aload_n 0, 1) := by decide +kernel
theorem dX12_readWords_151 : decode cX12_readWords 151 = .ok (.dup, 1) := by decide +kernel
theorem dX12_readWords_152 : decode cX12_readWords 152 = .ok (.getfield 172, 3) := by decide +kernel
theorem dX12_readWords_155 : decode cX12_readWords 155 = .ok (.iconst 1, 1) := by decide +kernel
theorem dX12_readWords_156 : decode cX12_readWords 156 = .ok (.iadd, 1) := by decide +kernel
theorem dX12_readWords_157 : decode cX12_readWords 157 = .ok (.putfield 172, 3) := by decide +kernel
theorem dX12_readWords_160 : decode cX12_readWords 160 = .ok (.goto (-129), 3) := by decide +kernel
theorem dX12_readWords_163 : decode cX12_readWords 163 = .ok (.aload_n 0, 1) := by decide +kernel
theorem dX12_readWords_164 : decode cX12_readWords 164 = .ok (.iconst 0, 1) := by decide +kernel
theorem dX12_readWords_165 : decode cX12_readWords 165 = .ok (.iconst 5, 1) := by decide +kernel
theorem dX12_readWords_166 : decode cX12_readWords 166 = .ok (.invokevirtual 175, 3) := by decide +kernel
theorem dX12_readWords_169 : decode cX12_readWords 169 = .ok (.istore_n 1, 1) := by decide +kernel
theorem dX12_readWords_170 : decode cX12_readWords 170 = .ok (.iload_n 1, 1) := by decide +kernel
theorem dX12_readWords_171 : decode cX12_readWords 171 = .ok (.bipush (-9), 2) := by decide +kernel
theorem dX12_readWords_173 : decode cX12_readWords 173 = .ok (.if_icmp .ne 8, 3) := by decide +kernel
theorem dX12_readWords_176 : decode cX12_readWords 176 = .ok (.aload_n 0, 1) := by decide +kernel
theorem dX12_readWords_177 : decode cX12_readWords 177 = .ok (.getfield 172, 3) := by decide +kernel
theorem dX12_readWords_180 : decode cX12_readWords 180 = .ok (.ireturn, 1) := by decide +kernel
theorem dX12_readWords_181 : decode cX12_readWords 181 = .ok (.aload_n 0, 1) := by decide +kernel
theorem dX12_readWords_182 : decode cX12_readWords 182 = .ok (.getfield 72, 3) := by decide +kernel
theorem dX12_readWords_185 : decode cX12_readWords 185 = .ok (.iload_n 1, 1) := by decide +kernel
theorem dX12_readWords_186 : decode cX12_readWords 186 = .ok (.iaload, 1) := by decide +kernel
theorem dX12_readWords_187 : decode cX12_readWords 187 = .ok (.ifCond .le 10, 3) := by decide +kernel
theorem dX12_readWords_190 : decode cX12_readWords 190 = .ok (.aload_n 0, 1) := by decide +kernel
theorem dX12_readWords_191 : decode cX12_readWords 191 = .ok (.getfield 172, 3) := by decide +kernel
theorem dX12_readWords_194 : decode cX12_readWords 194 = .ok (.iconst 1, 1) := by decide +kernel
theorem dX12_readWords_195 : decode cX12_readWords 195 = .ok (.isub, 1) := by decide +kernel
theorem dX12_readWords_196 : decode cX12_readWords 196 = .ok (.ireturn, 1) := by decide +kernel
theorem dX12_readWords_197 : decode cX12_readWords 197 = .ok (.aload_n 0, 1) := by decide +kernel
theorem dX12_readWords_198 : decode cX12_readWords 198 = .ok (.bipush 61, 2) := by decide +kernel
theorem dX12_readWords_200 : decode cX12_readWords 200 = .ok (.invokevirtual 178, 3) := by decide +kernel
theorem dX12_readWords_203 : decode cX12_readWords 203 = .ok (.ifCond .ne 8, 3) := by decide +kernel
theorem dX12_readWords_206 : decode cX12_readWords 206 = .ok (.aload_n 0, 1) := by decide +kernel
theorem dX12_readWords_207 : decode cX12_readWords 207 = .ok (.getfield 172, 3) := by decide +kernel
theorem dX12_readWords_210 : decode cX12_readWords 210 = .ok (.ireturn, 1) := by decide +kernel
theorem dX12_readWords_211 : decode cX12_readWords 211 = .ok (.aload_n 0, 1) := by decide +kernel
theorem dX12_readWords_212 : decode cX12_readWords 212 = .ok (.iconst 1, 1) := by decide +kernel
theorem dX12_readWords_213 : decode cX12_readWords 213 = .ok (.iconst 5, 1) := by decide +kernel
theorem dX12_readWords_214 : decode cX12_readWords 214 = .ok (.invokevirtual 175, 3) := by decide +kernel
theorem dX12_readWords_217 : decode cX12_readWords 217 = .ok (.istore_n 2, 1) := by decide +kernel
theorem dX12_readWords_218 : decode cX12_readWords 218 = .ok (.iload_n 2, 1) := by decide +kernel
theorem dX12_readWords_219 : decode cX12_readWords 219 = .ok (.bipush (-9), 2) := by decide +kernel
theorem dX12_readWords_221 : decode cX12_readWords 221 = .ok (.if_icmp .ne 8, 3) := by decide +kernel
theorem dX12_readWords_224 : decode cX12_readWords 224 = .ok (.aload_n 0, 1) := by decide +kernel
theorem dX12_readWords_225 : decode cX12_readWords 225 = .ok (.getfield 172, 3) := by decide +kernel
theorem dX12_readWords_228 : decode cX12_readWords 228 = .ok (.ireturn, 1) := by decide +kernel
theorem dX12_readWords_229 : decode cX12_readWords 229 = .ok (.aload_n 0, 1) := by decide +kernel
theorem dX12_readWords_230 : decode cX12_readWords 230 = .ok (.getfield 72, 3) := by decide +kernel
theorem dX12_readWords_233 : decode cX12_readWords 233 = .ok (.iload_n 1, 1) := by decide +kernel
theorem dX12_readWords_234 : decode cX12_readWords 234 = .ok (.iload_n 2, 1) := by decide +kernel
theorem dX12_readWords_235 : decode cX12_readWords 235 = .ok (.iastore, 1) := by decide +kernel
theorem dX12_readWords_236 : decode cX12_readWords 236 = .ok (.goto (-205), 3) := by decide +kernel
theorem dX12_readWords_239 : decode cX12_readWords 239 = .ok (.bipush (-9), 2) := by decide +kernel
theorem dX12_readWords_241 : decode cX12_readWords 241 = .ok (.ireturn, 1) := by decide +kernel
theorem dX12_fault_0 : decode cX12_fault 0 = .ok (.aload_n 0, 1) := by decide +kernel
theorem dX12_fault_1 : decode cX12_fault 1 = .ok (.iconst 0, 1) := by decide +kernel
theorem dX12_fault_2 : decode cX12_fault 2 = .ok (.putfield 115, 3) := by decide +kernel
theorem dX12_fault_5 : decode cX12_fault 5 = .ok (.iload_n 1, 1) := by decide +kernel
theorem dX12_fault_6 : decode cX12_fault 6 = .ok (.ifCond .ne 10, 3) := by decide +kernel
theorem dX12_fault_9 : decode cX12_fault 9 = .ok (.aload_n 0, 1) := by decide +kernel
theorem dX12_fault_10 : decode cX12_fault 10 = .ok (.invokevirtual 191, 3) := by decide +kernel
theorem dX12_fault_13 : decode cX12_fault 13 = .ok (.goto 28, 3) := by decide +kernel
theorem dX12_fault_16 : decode cX12_fault 16 = .ok (.iload_n 1, 1) := by decide +kernel
theorem dX12_fault_17 : decode cX12_fault 17 = .ok (.iconst 1, 1) := by decide +kernel
theorem dX12_fault_18 : decode cX12_fault 18 = .ok (.if_icmp .ne 10, 3) := by decide +kernel
theorem dX12_fault_21 : decode cX12_fault 21 = .ok (.aload_n 0, 1) := by decide +kernel
theorem dX12_fault_22 : decode cX12_fault 22 = .ok (.invokevirtual 195, 3) := by decide +kernel
theorem dX12_fault_25 : decode cX12_fault 25 = .ok (.goto 16, 3) := by decide +kernel
theorem dX12_fault_28 : decode cX12_fault 28 = .ok (.iload_n 1, 1) := by decide +kernel
theorem dX12_fault_29 : decode cX12_fault 29 = .ok (.iconst 2, 1) := by decide +kernel
theorem dX12_fault_30 : decode cX12_fault 30 = .ok (.if_icmp .ne 10, 3) := by decide +kernel
theorem dX12_fault_33 : decode cX12_fault 33 = .ok (.aload_n 0, 1) := by decide +kernel
theorem dX12_fault_34 : decode cX12_fault 34 = .ok (.invokevirtual 198, 3) := by decide +kernel
theorem dX12_fault_37 : decode cX12_fault 37 = .ok (.goto 4, 3) := by decide +kernel
theorem dX12_fault_40 : decode cX12_fault 40 = .ok (.iconst (-1), 1) := by decide +kernel
theorem dX12_fault_41 : decode cX12_fault 41 = .ok (.ireturn, 1) := by decide +kernel
theorem dX12_rule_0 : decode cX12_rule 0 = .ok (.aload_n 0, 1) := by decide +kernel
theorem dX12_rule_1 : decode cX12_rule 1 = .ok (.iconst 0, 1) := by decide +kernel
theorem dX12_rule_2 : decode cX12_rule 2 = .ok (.putfield 115, 3) := by decide +kernel
theorem dX12_rule_5 : decode cX12_rule 5 = .ok (.aload_n 0, 1) := by decide +kernel
theorem dX12_rule_6 : decode cX12_rule 6 = .ok (.invokevirtual 191, 3) := by decide +kernel
theorem dX12_rule_9 : decode cX12_rule 9 = .ok (.bipush (-9), 2) := by decide +kernel
theorem dX12_rule_11 : decode cX12_rule 11 = .ok (.if_icmp .eq 6, 3) := by decide +kernel
theorem dX12_rule_14 : decode cX12_rule 14 = .ok (.bipush (-3), 2) := by decide +kernel
theorem dX12_rule_16 : decode cX12_rule 16 = .ok (.ireturn, 1) := by decide +kernel
theorem dX12_rule_17 : decode cX12_rule 17 = .ok (.aload_n 0, 1) := by decide +kernel
theorem dX12_rule_18 : decode cX12_rule 18 = .ok (.getfield 201, 3) := by decide +kernel
theorem dX12_rule_21 : decode cX12_rule 21 = .ok (.bipush 12, 2) := by decide +kernel
theorem dX12_rule_23 : decode cX12_rule 23 = .ok (.if_icmp .ne 6, 3) := by decide +kernel
theorem dX12_rule_26 : decode cX12_rule 26 = .ok (.bipush (-4), 2) := by decide +kernel
theorem dX12_rule_28 : decode cX12_rule 28 = .ok (.ireturn, 1) := by decide +kernel
theorem dX12_rule_29 : decode cX12_rule 29 = .ok (.iconst 0, 1) := by decide +kernel
theorem dX12_rule_30 : decode cX12_rule 30 = .ok (.istore_n 1, 1) := by decide +kernel
theorem dX12_rule_31 : decode cX12_rule 31 = .ok (.iload_n 1, 1) := by decide +kernel
theorem dX12_rule_32 : decode cX12_rule 32 = .ok (.bipush 6, 2) := by decide +kernel
theorem dX12_rule_34 : decode cX12_rule 34 = .ok (.if_icmp .ge 29, 3) := by decide +kernel
theorem dX12_rule_37 : decode cX12_rule 37 = .ok (.aload_n 0, 1) := by decide +kernel
theorem dX12_rule_38 : decode cX12_rule 38 = .ok (.getfield 42, 3) := by decide +kernel
theorem dX12_rule_41 : decode cX12_rule 41 = .ok (.bipush 6, 2) := by decide +kernel
theorem dX12_rule_43 : decode cX12_rule 43 = .ok (.aload_n 0, 1) := by decide +kernel
theorem dX12_rule_44 : decode cX12_rule 44 = .ok (.getfield 201, 3) := by decide +kernel
theorem dX12_rule_47 : decode cX12_rule 47 = .ok (.imul, 1) := by decide +kernel
theorem dX12_rule_48 : decode cX12_rule 48 = .ok (.iload_n 1, 1) := by decide +kernel
theorem dX12_rule_49 : decode cX12_rule 49 = .ok (.iadd, 1) := by decide +kernel
theorem dX12_rule_50 : decode cX12_rule 50 = .ok (.aload_n 0, 1) := by decide +kernel
theorem dX12_rule_51 : decode cX12_rule 51 = .ok (.getfield 45, 3) := by decide +kernel
theorem dX12_rule_54 : decode cX12_rule 54 = .ok (.iload_n 1, 1) := by decide +kernel
theorem dX12_rule_55 : decode cX12_rule 55 = .ok (.iaload, 1) := by decide +kernel
theorem dX12_rule_56 : decode cX12_rule 56 = .ok (.iastore, 1) := by decide +kernel
theorem dX12_rule_57 : decode cX12_rule 57 = .ok (.iinc 1 1, 3) := by decide +kernel
theorem dX12_rule_60 : decode cX12_rule 60 = .ok (.goto (-29), 3) := by decide +kernel
theorem dX12_rule_63 : decode cX12_rule 63 = .ok (.aload_n 0, 1) := by decide +kernel
theorem dX12_rule_64 : decode cX12_rule 64 = .ok (.dup, 1) := by decide +kernel
theorem dX12_rule_65 : decode cX12_rule 65 = .ok (.getfield 201, 3) := by decide +kernel
theorem dX12_rule_68 : decode cX12_rule 68 = .ok (.iconst 1, 1) := by decide +kernel
theorem dX12_rule_69 : decode cX12_rule 69 = .ok (.iadd, 1) := by decide +kernel
theorem dX12_rule_70 : decode cX12_rule 70 = .ok (.putfield 201, 3) := by decide +kernel
theorem dX12_rule_73 : decode cX12_rule 73 = .ok (.aload_n 0, 1) := by decide +kernel
theorem dX12_rule_74 : decode cX12_rule 74 = .ok (.getfield 201, 3) := by decide +kernel
theorem dX12_rule_77 : decode cX12_rule 77 = .ok (.iconst 1, 1) := by decide +kernel
theorem dX12_rule_78 : decode cX12_rule 78 = .ok (.isub, 1) := by decide +kernel
theorem dX12_rule_79 : decode cX12_rule 79 = .ok (.ireturn, 1) := by decide +kernel
theorem dX12_unrule_0 : decode cX12_unrule 0 = .ok (.aload_n 0, 1) := by decide +kernel
theorem dX12_unrule_1 : decode cX12_unrule 1 = .ok (.iconst 0, 1) := by decide +kernel
theorem dX12_unrule_2 : decode cX12_unrule 2 = .ok (.putfield 115, 3) := by decide +kernel
theorem dX12_unrule_5 : decode cX12_unrule 5 = .ok (.iload_n 1, 1) := by decide +kernel
theorem dX12_unrule_6 : decode cX12_unrule 6 = .ok (.i2l, 1) := by decide +kernel
theorem dX12_unrule_7 : decode cX12_unrule 7 = .ok (.lconst 0, 1) := by decide +kernel
theorem dX12_unrule_8 : decode cX12_unrule 8 = .ok (.aload_n 0, 1) := by decide +kernel
theorem dX12_unrule_9 : decode cX12_unrule 9 = .ok (.getfield 201, 3) := by decide +kernel
theorem dX12_unrule_12 : decode cX12_unrule 12 = .ok (.iconst 1, 1) := by decide +kernel
theorem dX12_unrule_13 : decode cX12_unrule 13 = .ok (.isub, 1) := by decide +kernel
theorem dX12_unrule_14 : decode cX12_unrule 14 = .ok (.i2l, 1) := by decide +kernel
theorem dX12_unrule_15 : decode cX12_unrule 15 = .ok (.invokestatic 120, 3) := by decide +kernel
theorem dX12_unrule_18 : decode cX12_unrule 18 = .ok (.ifCond .ne 5, 3) := by decide +kernel
theorem dX12_unrule_21 : decode cX12_unrule 21 = .ok (.iconst (-1), 1) := by decide +kernel
theorem dX12_unrule_22 : decode cX12_unrule 22 = .ok (.ireturn, 1) := by decide +kernel
theorem dX12_unrule_23 : decode cX12_unrule 23 = .ok (.bipush 6, 2) := by decide +kernel
theorem dX12_unrule_25 : decode cX12_unrule 25 = .ok (.iload_n 1, 1) := by decide +kernel
theorem dX12_unrule_26 : decode cX12_unrule 26 = .ok (.imul, 1) := by decide +kernel
theorem dX12_unrule_27 : decode cX12_unrule 27 = .ok (.istore_n 2, 1) := by decide +kernel
theorem dX12_unrule_28 : decode cX12_unrule 28 = .ok (.iload_n 2, 1) := by decide +kernel
theorem dX12_unrule_29 : decode cX12_unrule 29 = .ok (.bipush 6, 2) := by decide +kernel
theorem dX12_unrule_31 : decode cX12_unrule 31 = .ok (.aload_n 0, 1) := by decide +kernel
theorem dX12_unrule_32 : decode cX12_unrule 32 = .ok (.getfield 201, 3) := by decide +kernel
theorem dX12_unrule_35 : decode cX12_unrule 35 = .ok (.iconst 1, 1) := by decide +kernel
theorem dX12_unrule_36 : decode cX12_unrule 36 = .ok (.isub, 1) := by decide +kernel
theorem dX12_unrule_37 : decode cX12_unrule 37 = .ok (.imul, 1) := by decide +kernel
theorem dX12_unrule_38 : decode cX12_unrule 38 = .ok (.if_icmp .ge 24, 3) := by decide +kernel
theorem dX12_unrule_41 : decode cX12_unrule 41 = .ok (.aload_n 0, 1) := by decide +kernel
theorem dX12_unrule_42 : decode cX12_unrule 42 = .ok (.getfield 42, 3) := by decide +kernel
theorem dX12_unrule_45 : decode cX12_unrule 45 = .ok (.iload_n 2, 1) := by decide +kernel
theorem dX12_unrule_46 : decode cX12_unrule 46 = .ok (.aload_n 0, 1) := by decide +kernel
theorem dX12_unrule_47 : decode cX12_unrule 47 = .ok (.getfield 42, 3) := by decide +kernel
theorem dX12_unrule_50 : decode cX12_unrule 50 = .ok (.iload_n 2, 1) := by decide +kernel
theorem dX12_unrule_51 : decode cX12_unrule 51 = .ok (.bipush 6, 2) := by decide +kernel
theorem dX12_unrule_53 : decode cX12_unrule 53 = .ok (.iadd, 1) := by decide +kernel
theorem dX12_unrule_54 : decode cX12_unrule 54 = .ok (.iaload, 1) := by decide +kernel
theorem dX12_unrule_55 : decode cX12_unrule 55 = .ok (.iastore, 1) := by decide +kernel
theorem dX12_unrule_56 : decode cX12_unrule 56 = .ok (.iinc 2 1, 3) := by decide +kernel
theorem dX12_unrule_59 : decode cX12_unrule 59 = .ok (.goto (-31), 3) := by decide +kernel
theorem dX12_unrule_62 : decode cX12_unrule 62 = .ok (.aload_n 0, 1) := by decide +kernel
theorem dX12_unrule_63 : decode cX12_unrule 63 = .ok (.dup, 1) := by decide +kernel
theorem dX12_unrule_64 : decode cX12_unrule 64 = .ok (.getfield 201, 3) := by decide +kernel
theorem dX12_unrule_67 : decode cX12_unrule 67 = .ok (.iconst 1, 1) := by decide +kernel
theorem dX12_unrule_68 : decode cX12_unrule 68 = .ok (.isub, 1) := by decide +kernel
theorem dX12_unrule_69 : decode cX12_unrule 69 = .ok (.putfield 201, 3) := by decide +kernel
theorem dX12_unrule_72 : decode cX12_unrule 72 = .ok (.aload_n 0, 1) := by decide +kernel
theorem dX12_unrule_73 : decode cX12_unrule 73 = .ok (.getfield 201, 3) := by decide +kernel
theorem dX12_unrule_76 : decode cX12_unrule 76 = .ok (.ireturn, 1) := by decide +kernel
theorem dX12_ruled_0 : decode cX12_ruled 0 = .ok (.aload_n 0, 1) := by decide +kernel
theorem dX12_ruled_1 : decode cX12_ruled 1 = .ok (.iconst 0, 1) := by decide +kernel
theorem dX12_ruled_2 : decode cX12_ruled 2 = .ok (.putfield 115, 3) := by decide +kernel
theorem dX12_ruled_5 : decode cX12_ruled 5 = .ok (.iload_n 1, 1) := by decide +kernel
theorem dX12_ruled_6 : decode cX12_ruled 6 = .ok (.i2l, 1) := by decide +kernel
theorem dX12_ruled_7 : decode cX12_ruled 7 = .ok (.lconst 0, 1) := by decide +kernel
theorem dX12_ruled_8 : decode cX12_ruled 8 = .ok (.aload_n 0, 1) := by decide +kernel
theorem dX12_ruled_9 : decode cX12_ruled 9 = .ok (.getfield 201, 3) := by decide +kernel
theorem dX12_ruled_12 : decode cX12_ruled 12 = .ok (.iconst 1, 1) := by decide +kernel
theorem dX12_ruled_13 : decode cX12_ruled 13 = .ok (.isub, 1) := by decide +kernel
theorem dX12_ruled_14 : decode cX12_ruled 14 = .ok (.i2l, 1) := by decide +kernel
theorem dX12_ruled_15 : decode cX12_ruled 15 = .ok (.invokestatic 120, 3) := by decide +kernel
theorem dX12_ruled_18 : decode cX12_ruled 18 = .ok (.ifCond .ne 5, 3) := by decide +kernel
theorem dX12_ruled_21 : decode cX12_ruled 21 = .ok (.iconst (-1), 1) := by decide +kernel
theorem dX12_ruled_22 : decode cX12_ruled 22 = .ok (.ireturn, 1) := by decide +kernel
theorem dX12_ruled_23 : decode cX12_ruled 23 = .ok (.iload_n 2, 1) := by decide +kernel
theorem dX12_ruled_24 : decode cX12_ruled 24 = .ok (.i2l, 1) := by decide +kernel
theorem dX12_ruled_25 : decode cX12_ruled 25 = .ok (.lconst 0, 1) := by decide +kernel
theorem dX12_ruled_26 : decode cX12_ruled 26 = .ok (.ldc2_w 118, 3) := by decide +kernel
theorem dX12_ruled_29 : decode cX12_ruled 29 = .ok (.invokestatic 120, 3) := by decide +kernel
theorem dX12_ruled_32 : decode cX12_ruled 32 = .ok (.ifCond .eq 17, 3) := by decide +kernel
theorem dX12_ruled_35 : decode cX12_ruled 35 = .ok (.aload_n 0, 1) := by decide +kernel
theorem dX12_ruled_36 : decode cX12_ruled 36 = .ok (.getfield 42, 3) := by decide +kernel
theorem dX12_ruled_39 : decode cX12_ruled 39 = .ok (.bipush 6, 2) := by decide +kernel
theorem dX12_ruled_41 : decode cX12_ruled 41 = .ok (.iload_n 1, 1) := by decide +kernel
theorem dX12_ruled_42 : decode cX12_ruled 42 = .ok (.imul, 1) := by decide +kernel
theorem dX12_ruled_43 : decode cX12_ruled 43 = .ok (.iload_n 2, 1) := by decide +kernel
theorem dX12_ruled_44 : decode cX12_ruled 44 = .ok (.iadd, 1) := by decide +kernel
theorem dX12_ruled_45 : decode cX12_ruled 45 = .ok (.iaload, 1) := by decide +kernel
theorem dX12_ruled_46 : decode cX12_ruled 46 = .ok (.goto 5, 3) := by decide +kernel
theorem dX12_ruled_49 : decode cX12_ruled 49 = .ok (.bipush (-2), 2) := by decide +kernel
theorem dX12_ruled_51 : decode cX12_ruled 51 = .ok (.ireturn, 1) := by decide +kernel
theorem dX12_order_0 : decode cX12_order 0 = .ok (.aload_n 0, 1) := by decide +kernel
theorem dX12_order_1 : decode cX12_order 1 = .ok (.iconst 0, 1) := by decide +kernel
theorem dX12_order_2 : decode cX12_order 2 = .ok (.putfield 115, 3) := by decide +kernel
theorem dX12_order_5 : decode cX12_order 5 = .ok (.iload_n 1, 1) := by decide +kernel
theorem dX12_order_6 : decode cX12_order 6 = .ok (.invokestatic 204, 3) := by decide +kernel
theorem dX12_order_9 : decode cX12_order 9 = .ok (.ifCond .eq 5, 3) := by decide +kernel
theorem dX12_order_12 : decode cX12_order 12 = .ok (.iconst (-1), 1) := by decide +kernel
theorem dX12_order_13 : decode cX12_order 13 = .ok (.ireturn, 1) := by decide +kernel
theorem dX12_order_14 : decode cX12_order 14 = .ok (.aload_n 0, 1) := by decide +kernel
theorem dX12_order_15 : decode cX12_order 15 = .ok (.invokevirtual 195, 3) := by decide +kernel
theorem dX12_order_18 : decode cX12_order 18 = .ok (.bipush (-9), 2) := by decide +kernel
theorem dX12_order_20 : decode cX12_order 20 = .ok (.if_icmp .eq 6, 3) := by decide +kernel
theorem dX12_order_23 : decode cX12_order 23 = .ok (.bipush (-3), 2) := by decide +kernel
theorem dX12_order_25 : decode cX12_order 25 = .ok (.ireturn, 1) := by decide +kernel
theorem dX12_order_26 : decode cX12_order 26 = .ok (.iconst 0, 1) := by decide +kernel
theorem dX12_order_27 : decode cX12_order 27 = .ok (.istore_n 2, 1) := by decide +kernel
theorem dX12_order_28 : decode cX12_order 28 = .ok (.iload_n 2, 1) := by decide +kernel
theorem dX12_order_29 : decode cX12_order 29 = .ok (.aload_n 0, 1) := by decide +kernel
theorem dX12_order_30 : decode cX12_order 30 = .ok (.getfield 169, 3) := by decide +kernel
theorem dX12_order_33 : decode cX12_order 33 = .ok (.if_icmp .ge 28, 3) := by decide +kernel
theorem dX12_order_36 : decode cX12_order 36 = .ok (.aload_n 0, 1) := by decide +kernel
theorem dX12_order_37 : decode cX12_order 37 = .ok (.getfield 48, 3) := by decide +kernel
theorem dX12_order_40 : decode cX12_order 40 = .ok (.iconst 5, 1) := by decide +kernel
theorem dX12_order_41 : decode cX12_order 41 = .ok (.iload_n 1, 1) := by decide +kernel
theorem dX12_order_42 : decode cX12_order 42 = .ok (.imul, 1) := by decide +kernel
theorem dX12_order_43 : decode cX12_order 43 = .ok (.iload_n 2, 1) := by decide +kernel
theorem dX12_order_44 : decode cX12_order 44 = .ok (.iadd, 1) := by decide +kernel
theorem dX12_order_45 : decode cX12_order 45 = .ok (.aload_n 0, 1) := by decide +kernel
theorem dX12_order_46 : decode cX12_order 46 = .ok (.getfield 39, 3) := by decide +kernel
theorem dX12_order_49 : decode cX12_order 49 = .ok (.iload_n 2, 1) := by decide +kernel
theorem dX12_order_50 : decode cX12_order 50 = .ok (.iaload, 1) := by decide +kernel
theorem dX12_order_51 : decode cX12_order 51 = .ok (.invokestatic 184, 3) := by decide +kernel
theorem dX12_order_54 : decode cX12_order 54 = .ok (.iastore, 1) := by decide +kernel
theorem dX12_order_55 : decode cX12_order 55 = .ok (.iinc 2 1, 3) := by decide +kernel
theorem dX12_order_58 : decode cX12_order 58 = .ok (.goto (-30), 3) := by decide +kernel
theorem dX12_order_61 : decode cX12_order 61 = .ok (.aload_n 0, 1) := by decide +kernel
theorem dX12_order_62 : decode cX12_order 62 = .ok (.getfield 51, 3) := by decide +kernel
theorem dX12_order_65 : decode cX12_order 65 = .ok (.iload_n 1, 1) := by decide +kernel
theorem dX12_order_66 : decode cX12_order 66 = .ok (.aload_n 0, 1) := by decide +kernel
theorem dX12_order_67 : decode cX12_order 67 = .ok (.getfield 169, 3) := by decide +kernel
theorem dX12_order_70 : decode cX12_order 70 = .ok (.iastore, 1) := by decide +kernel
theorem dX12_order_71 : decode cX12_order 71 = .ok (.aload_n 0, 1) := by decide +kernel
theorem dX12_order_72 : decode cX12_order 72 = .ok (.getfield 169, 3) := by decide +kernel
theorem dX12_order_75 : decode cX12_order 75 = .ok (.ireturn, 1) := by decide +kernel
theorem dX12_ordered_0 : decode cX12_ordered 0 = .ok (.aload_n 0, 1) := by decide +kernel
theorem dX12_ordered_1 : decode cX12_ordered 1 = .ok (.iconst 0, 1) := by decide +kernel
theorem dX12_ordered_2 : decode cX12_ordered 2 = .ok (.putfield 115, 3) := by decide +kernel
theorem dX12_ordered_5 : decode cX12_ordered 5 = .ok (.iload_n 1, 1) := by decide +kernel
theorem dX12_ordered_6 : decode cX12_ordered 6 = .ok (.invokestatic 204, 3) := by decide +kernel
theorem dX12_ordered_9 : decode cX12_ordered 9 = .ok (.ifCond .eq 5, 3) := by decide +kernel
theorem dX12_ordered_12 : decode cX12_ordered 12 = .ok (.iconst (-1), 1) := by decide +kernel
theorem dX12_ordered_13 : decode cX12_ordered 13 = .ok (.ireturn, 1) := by decide +kernel
theorem dX12_ordered_14 : decode cX12_ordered 14 = .ok (.iload_n 2, 1) := by decide +kernel
theorem dX12_ordered_15 : decode cX12_ordered 15 = .ok (.i2l, 1) := by decide +kernel
theorem dX12_ordered_16 : decode cX12_ordered 16 = .ok (.lconst 0, 1) := by decide +kernel
theorem dX12_ordered_17 : decode cX12_ordered 17 = .ok (.aload_n 0, 1) := by decide +kernel
theorem dX12_ordered_18 : decode cX12_ordered 18 = .ok (.getfield 51, 3) := by decide +kernel
theorem dX12_ordered_21 : decode cX12_ordered 21 = .ok (.iload_n 1, 1) := by decide +kernel
theorem dX12_ordered_22 : decode cX12_ordered 22 = .ok (.iaload, 1) := by decide +kernel
theorem dX12_ordered_23 : decode cX12_ordered 23 = .ok (.iconst 1, 1) := by decide +kernel
theorem dX12_ordered_24 : decode cX12_ordered 24 = .ok (.isub, 1) := by decide +kernel
theorem dX12_ordered_25 : decode cX12_ordered 25 = .ok (.i2l, 1) := by decide +kernel
theorem dX12_ordered_26 : decode cX12_ordered 26 = .ok (.invokestatic 120, 3) := by decide +kernel
theorem dX12_ordered_29 : decode cX12_ordered 29 = .ok (.ifCond .eq 16, 3) := by decide +kernel
theorem dX12_ordered_32 : decode cX12_ordered 32 = .ok (.aload_n 0, 1) := by decide +kernel
theorem dX12_ordered_33 : decode cX12_ordered 33 = .ok (.getfield 48, 3) := by decide +kernel
theorem dX12_ordered_36 : decode cX12_ordered 36 = .ok (.iconst 5, 1) := by decide +kernel
theorem dX12_ordered_37 : decode cX12_ordered 37 = .ok (.iload_n 1, 1) := by decide +kernel
theorem dX12_ordered_38 : decode cX12_ordered 38 = .ok (.imul, 1) := by decide +kernel
theorem dX12_ordered_39 : decode cX12_ordered 39 = .ok (.iload_n 2, 1) := by decide +kernel
theorem dX12_ordered_40 : decode cX12_ordered 40 = .ok (.iadd, 1) := by decide +kernel
theorem dX12_ordered_41 : decode cX12_ordered 41 = .ok (.iaload, 1) := by decide +kernel
theorem dX12_ordered_42 : decode cX12_ordered 42 = .ok (.goto 5, 3) := by decide +kernel
theorem dX12_ordered_45 : decode cX12_ordered 45 = .ok (.bipush (-9), 2) := by decide +kernel
theorem dX12_ordered_47 : decode cX12_ordered 47 = .ok (.ireturn, 1) := by decide +kernel
theorem dX12_putWords_0 : decode cX12_putWords 0 = .ok (.iconst 0, 1) := by decide +kernel
theorem dX12_putWords_1 : decode cX12_putWords 1 = .ok (.istore_n 2, 1) := by decide +kernel
theorem dX12_putWords_2 : decode cX12_putWords 2 = .ok (.iconst 0, 1) := by decide +kernel
theorem dX12_putWords_3 : decode cX12_putWords 3 = .ok (.istore_n 3, 1) := by decide +kernel
theorem dX12_putWords_4 : decode cX12_putWords 4 = .ok (.iload_n 3, 1) := by decide +kernel
theorem dX12_putWords_5 : decode cX12_putWords 5 = .ok (.bipush 6, 2) := by decide +kernel
theorem dX12_putWords_7 : decode cX12_putWords 7 = .ok (.if_icmp .ge 43, 3) := by decide +kernel
theorem dX12_putWords_10 : decode cX12_putWords 10 = .ok (.aload_n 0, 1) := by decide +kernel
theorem dX12_putWords_11 : decode cX12_putWords 11 = .ok (.getfield 63, 3) := by decide +kernel
theorem dX12_putWords_14 : decode cX12_putWords 14 = .ok (.bipush 6, 2) := by decide +kernel
theorem dX12_putWords_16 : decode cX12_putWords 16 = .ok (.iload_n 1, 1) := by decide +kernel
theorem dX12_putWords_17 : decode cX12_putWords 17 = .ok (.imul, 1) := by decide +kernel
theorem dX12_putWords_18 : decode cX12_putWords 18 = .ok (.iload_n 3, 1) := by decide +kernel
theorem dX12_putWords_19 : decode cX12_putWords 19 = .ok (.iadd, 1) := by decide +kernel
theorem dX12_putWords_20 : decode cX12_putWords 20 = .ok (.aload_n 0, 1) := by decide +kernel
theorem dX12_putWords_21 : decode cX12_putWords 21 = .ok (.getfield 72, 3) := by decide +kernel
theorem dX12_putWords_24 : decode cX12_putWords 24 = .ok (.iload_n 3, 1) := by decide +kernel
theorem dX12_putWords_25 : decode cX12_putWords 25 = .ok (.iaload, 1) := by decide +kernel
theorem dX12_putWords_26 : decode cX12_putWords 26 = .ok (.iastore, 1) := by decide +kernel
theorem dX12_putWords_27 : decode cX12_putWords 27 = .ok (.iload_n 2, 1) := by decide +kernel
theorem dX12_putWords_28 : decode cX12_putWords 28 = .ok (.aload_n 0, 1) := by decide +kernel
theorem dX12_putWords_29 : decode cX12_putWords 29 = .ok (.getfield 72, 3) := by decide +kernel
theorem dX12_putWords_32 : decode cX12_putWords 32 = .ok (.iload_n 3, 1) := by decide +kernel
theorem dX12_putWords_33 : decode cX12_putWords 33 = .ok (.iaload, 1) := by decide +kernel
theorem dX12_putWords_34 : decode cX12_putWords 34 = .ok (.ifCond .le 7, 3) := by decide +kernel
theorem dX12_putWords_37 : decode cX12_putWords 37 = .ok (.iconst 1, 1) := by decide +kernel
theorem dX12_putWords_38 : decode cX12_putWords 38 = .ok (.goto 4, 3) := by decide +kernel
theorem dX12_putWords_41 : decode cX12_putWords 41 = .ok (.iconst 0, 1) := by decide +kernel
theorem dX12_putWords_42 : decode cX12_putWords 42 = .ok (.iadd, 1) := by decide +kernel
theorem dX12_putWords_43 : decode cX12_putWords 43 = .ok (.istore_n 2, 1) := by decide +kernel
theorem dX12_putWords_44 : decode cX12_putWords 44 = .ok (.iinc 3 1, 3) := by decide +kernel
theorem dX12_putWords_47 : decode cX12_putWords 47 = .ok (.goto (-43), 3) := by decide +kernel
theorem dX12_putWords_50 : decode cX12_putWords 50 = .ok (.aload_n 0, 1) := by decide +kernel
theorem dX12_putWords_51 : decode cX12_putWords 51 = .ok (.getfield 66, 3) := by decide +kernel
theorem dX12_putWords_54 : decode cX12_putWords 54 = .ok (.iload_n 1, 1) := by decide +kernel
theorem dX12_putWords_55 : decode cX12_putWords 55 = .ok (.aload_n 0, 1) := by decide +kernel
theorem dX12_putWords_56 : decode cX12_putWords 56 = .ok (.getfield 188, 3) := by decide +kernel
theorem dX12_putWords_59 : decode cX12_putWords 59 = .ok (.iastore, 1) := by decide +kernel
theorem dX12_putWords_60 : decode cX12_putWords 60 = .ok (.iload_n 2, 1) := by decide +kernel
theorem dX12_putWords_61 : decode cX12_putWords 61 = .ok (.ireturn, 1) := by decide +kernel
theorem dX12_bargain_0 : decode cX12_bargain 0 = .ok (.aload_n 0, 1) := by decide +kernel
theorem dX12_bargain_1 : decode cX12_bargain 1 = .ok (.iconst 0, 1) := by decide +kernel
theorem dX12_bargain_2 : decode cX12_bargain 2 = .ok (.putfield 115, 3) := by decide +kernel
theorem dX12_bargain_5 : decode cX12_bargain 5 = .ok (.iload_n 1, 1) := by decide +kernel
theorem dX12_bargain_6 : decode cX12_bargain 6 = .ok (.invokestatic 137, 3) := by decide +kernel
theorem dX12_bargain_9 : decode cX12_bargain 9 = .ok (.ifCond .ne 17, 3) := by decide +kernel
theorem dX12_bargain_12 : decode cX12_bargain 12 = .ok (.iload_n 2, 1) := by decide +kernel
theorem dX12_bargain_13 : decode cX12_bargain 13 = .ok (.invokestatic 137, 3) := by decide +kernel
theorem dX12_bargain_16 : decode cX12_bargain 16 = .ok (.ifCond .ne 10, 3) := by decide +kernel
theorem dX12_bargain_19 : decode cX12_bargain 19 = .ok (.iload_n 3, 1) := by decide +kernel
theorem dX12_bargain_20 : decode cX12_bargain 20 = .ok (.invokestatic 140, 3) := by decide +kernel
theorem dX12_bargain_23 : decode cX12_bargain 23 = .ok (.ifCond .eq 5, 3) := by decide +kernel
theorem dX12_bargain_26 : decode cX12_bargain 26 = .ok (.iconst (-1), 1) := by decide +kernel
theorem dX12_bargain_27 : decode cX12_bargain 27 = .ok (.ireturn, 1) := by decide +kernel
theorem dX12_bargain_28 : decode cX12_bargain 28 = .ok (.iload_n 1, 1) := by decide +kernel
theorem dX12_bargain_29 : decode cX12_bargain 29 = .ok (.iload_n 2, 1) := by decide +kernel
theorem dX12_bargain_30 : decode cX12_bargain 30 = .ok (.if_icmp .ne 6, 3) := by decide +kernel
theorem dX12_bargain_33 : decode cX12_bargain 33 = .ok (.bipush (-2), 2) := by decide +kernel
theorem dX12_bargain_35 : decode cX12_bargain 35 = .ok (.ireturn, 1) := by decide +kernel
theorem dX12_bargain_36 : decode cX12_bargain 36 = .ok (.aload_n 0, 1) := by decide +kernel
theorem dX12_bargain_37 : decode cX12_bargain 37 = .ok (.invokevirtual 198, 3) := by decide +kernel
theorem dX12_bargain_40 : decode cX12_bargain 40 = .ok (.bipush (-9), 2) := by decide +kernel
theorem dX12_bargain_42 : decode cX12_bargain 42 = .ok (.if_icmp .eq 6, 3) := by decide +kernel
theorem dX12_bargain_45 : decode cX12_bargain 45 = .ok (.bipush (-3), 2) := by decide +kernel
theorem dX12_bargain_47 : decode cX12_bargain 47 = .ok (.ireturn, 1) := by decide +kernel
theorem dX12_bargain_48 : decode cX12_bargain 48 = .ok (.aload_n 0, 1) := by decide +kernel
theorem dX12_bargain_49 : decode cX12_bargain 49 = .ok (.getfield 130, 3) := by decide +kernel
theorem dX12_bargain_52 : decode cX12_bargain 52 = .ok (.bipush 8, 2) := by decide +kernel
theorem dX12_bargain_54 : decode cX12_bargain 54 = .ok (.if_icmp .ne 6, 3) := by decide +kernel
theorem dX12_bargain_57 : decode cX12_bargain 57 = .ok (.bipush (-4), 2) := by decide +kernel
theorem dX12_bargain_59 : decode cX12_bargain 59 = .ok (.ireturn, 1) := by decide +kernel
theorem dX12_bargain_60 : decode cX12_bargain 60 = .ok (.aload_n 0, 1) := by decide +kernel
theorem dX12_bargain_61 : decode cX12_bargain 61 = .ok (.getfield 54, 3) := by decide +kernel
theorem dX12_bargain_64 : decode cX12_bargain 64 = .ok (.aload_n 0, 1) := by decide +kernel
theorem dX12_bargain_65 : decode cX12_bargain 65 = .ok (.getfield 130, 3) := by decide +kernel
theorem dX12_bargain_68 : decode cX12_bargain 68 = .ok (.iload_n 1, 1) := by decide +kernel
theorem dX12_bargain_69 : decode cX12_bargain 69 = .ok (.iastore, 1) := by decide +kernel
theorem dX12_bargain_70 : decode cX12_bargain 70 = .ok (.aload_n 0, 1) := by decide +kernel
theorem dX12_bargain_71 : decode cX12_bargain 71 = .ok (.getfield 57, 3) := by decide +kernel
theorem dX12_bargain_74 : decode cX12_bargain 74 = .ok (.aload_n 0, 1) := by decide +kernel
theorem dX12_bargain_75 : decode cX12_bargain 75 = .ok (.getfield 130, 3) := by decide +kernel
theorem dX12_bargain_78 : decode cX12_bargain 78 = .ok (.iload_n 2, 1) := by decide +kernel
theorem dX12_bargain_79 : decode cX12_bargain 79 = .ok (.iastore, 1) := by decide +kernel
theorem dX12_bargain_80 : decode cX12_bargain 80 = .ok (.aload_n 0, 1) := by decide +kernel
theorem dX12_bargain_81 : decode cX12_bargain 81 = .ok (.getfield 60, 3) := by decide +kernel
theorem dX12_bargain_84 : decode cX12_bargain 84 = .ok (.aload_n 0, 1) := by decide +kernel
theorem dX12_bargain_85 : decode cX12_bargain 85 = .ok (.getfield 130, 3) := by decide +kernel
theorem dX12_bargain_88 : decode cX12_bargain 88 = .ok (.iload_n 3, 1) := by decide +kernel
theorem dX12_bargain_89 : decode cX12_bargain 89 = .ok (.iastore, 1) := by decide +kernel
theorem dX12_bargain_90 : decode cX12_bargain 90 = .ok (.aload_n 0, 1) := by decide +kernel
theorem dX12_bargain_91 : decode cX12_bargain 91 = .ok (.aload_n 0, 1) := by decide +kernel
theorem dX12_bargain_92 : decode cX12_bargain 92 = .ok (.getfield 130, 3) := by decide +kernel
theorem dX12_bargain_95 : decode cX12_bargain 95 = .ok (.invokevirtual 207, 3) := by decide +kernel
theorem dX12_bargain_98 : decode cX12_bargain 98 = .ok (.pop, 1) := by decide +kernel
theorem dX12_bargain_99 : decode cX12_bargain 99 = .ok (.aload_n 0, 1) := by decide +kernel
theorem dX12_bargain_100 : decode cX12_bargain 100 = .ok (.dup, 1) := by decide +kernel
theorem dX12_bargain_101 : decode cX12_bargain 101 = .ok (.getfield 130, 3) := by decide +kernel
theorem dX12_bargain_104 : decode cX12_bargain 104 = .ok (.iconst 1, 1) := by decide +kernel
theorem dX12_bargain_105 : decode cX12_bargain 105 = .ok (.iadd, 1) := by decide +kernel
theorem dX12_bargain_106 : decode cX12_bargain 106 = .ok (.putfield 130, 3) := by decide +kernel
theorem dX12_bargain_109 : decode cX12_bargain 109 = .ok (.aload_n 0, 1) := by decide +kernel
theorem dX12_bargain_110 : decode cX12_bargain 110 = .ok (.getfield 130, 3) := by decide +kernel
theorem dX12_bargain_113 : decode cX12_bargain 113 = .ok (.iconst 1, 1) := by decide +kernel
theorem dX12_bargain_114 : decode cX12_bargain 114 = .ok (.isub, 1) := by decide +kernel
theorem dX12_bargain_115 : decode cX12_bargain 115 = .ok (.ireturn, 1) := by decide +kernel
theorem dX12_reword_0 : decode cX12_reword 0 = .ok (.aload_n 0, 1) := by decide +kernel
theorem dX12_reword_1 : decode cX12_reword 1 = .ok (.iconst 0, 1) := by decide +kernel
theorem dX12_reword_2 : decode cX12_reword 2 = .ok (.putfield 115, 3) := by decide +kernel
theorem dX12_reword_5 : decode cX12_reword 5 = .ok (.aload_n 0, 1) := by decide +kernel
theorem dX12_reword_6 : decode cX12_reword 6 = .ok (.iload_n 1, 1) := by decide +kernel
theorem dX12_reword_7 : decode cX12_reword 7 = .ok (.invokevirtual 210, 3) := by decide +kernel
theorem dX12_reword_10 : decode cX12_reword 10 = .ok (.ifCond .eq 5, 3) := by decide +kernel
theorem dX12_reword_13 : decode cX12_reword 13 = .ok (.iconst (-1), 1) := by decide +kernel
theorem dX12_reword_14 : decode cX12_reword 14 = .ok (.ireturn, 1) := by decide +kernel
theorem dX12_reword_15 : decode cX12_reword 15 = .ok (.aload_n 0, 1) := by decide +kernel
theorem dX12_reword_16 : decode cX12_reword 16 = .ok (.invokevirtual 198, 3) := by decide +kernel
theorem dX12_reword_19 : decode cX12_reword 19 = .ok (.bipush (-9), 2) := by decide +kernel
theorem dX12_reword_21 : decode cX12_reword 21 = .ok (.if_icmp .eq 8, 3) := by decide +kernel
theorem dX12_reword_24 : decode cX12_reword 24 = .ok (.bipush (-3), 2) := by decide +kernel
theorem dX12_reword_26 : decode cX12_reword 26 = .ok (.goto 8, 3) := by decide +kernel
theorem dX12_reword_29 : decode cX12_reword 29 = .ok (.aload_n 0, 1) := by decide +kernel
theorem dX12_reword_30 : decode cX12_reword 30 = .ok (.iload_n 1, 1) := by decide +kernel
theorem dX12_reword_31 : decode cX12_reword 31 = .ok (.invokevirtual 207, 3) := by decide +kernel
theorem dX12_reword_34 : decode cX12_reword 34 = .ok (.ireturn, 1) := by decide +kernel
theorem dX12_said_0 : decode cX12_said 0 = .ok (.aload_n 0, 1) := by decide +kernel
theorem dX12_said_1 : decode cX12_said 1 = .ok (.iconst 0, 1) := by decide +kernel
theorem dX12_said_2 : decode cX12_said 2 = .ok (.putfield 115, 3) := by decide +kernel
theorem dX12_said_5 : decode cX12_said 5 = .ok (.aload_n 0, 1) := by decide +kernel
theorem dX12_said_6 : decode cX12_said 6 = .ok (.iload_n 1, 1) := by decide +kernel
theorem dX12_said_7 : decode cX12_said 7 = .ok (.invokevirtual 210, 3) := by decide +kernel
theorem dX12_said_10 : decode cX12_said 10 = .ok (.ifCond .ne 10, 3) := by decide +kernel
theorem dX12_said_13 : decode cX12_said 13 = .ok (.iload_n 2, 1) := by decide +kernel
theorem dX12_said_14 : decode cX12_said 14 = .ok (.invokestatic 133, 3) := by decide +kernel
theorem dX12_said_17 : decode cX12_said 17 = .ok (.ifCond .eq 7, 3) := by decide +kernel
theorem dX12_said_20 : decode cX12_said 20 = .ok (.iconst (-1), 1) := by decide +kernel
theorem dX12_said_21 : decode cX12_said 21 = .ok (.goto 14, 3) := by decide +kernel
theorem dX12_said_24 : decode cX12_said 24 = .ok (.aload_n 0, 1) := by decide +kernel
theorem dX12_said_25 : decode cX12_said 25 = .ok (.getfield 63, 3) := by decide +kernel
theorem dX12_said_28 : decode cX12_said 28 = .ok (.bipush 6, 2) := by decide +kernel
theorem dX12_said_30 : decode cX12_said 30 = .ok (.iload_n 1, 1) := by decide +kernel
theorem dX12_said_31 : decode cX12_said 31 = .ok (.imul, 1) := by decide +kernel
theorem dX12_said_32 : decode cX12_said 32 = .ok (.iload_n 2, 1) := by decide +kernel
theorem dX12_said_33 : decode cX12_said 33 = .ok (.iadd, 1) := by decide +kernel
theorem dX12_said_34 : decode cX12_said 34 = .ok (.iaload, 1) := by decide +kernel
theorem dX12_said_35 : decode cX12_said 35 = .ok (.ireturn, 1) := by decide +kernel
theorem dX12_lay_0 : decode cX12_lay 0 = .ok (.iload_n 1, 1) := by decide +kernel
theorem dX12_lay_1 : decode cX12_lay 1 = .ok (.istore_n 2, 1) := by decide +kernel
theorem dX12_lay_2 : decode cX12_lay 2 = .ok (.iconst 5, 1) := by decide +kernel
theorem dX12_lay_3 : decode cX12_lay 3 = .ok (.istore_n 3, 1) := by decide +kernel
theorem dX12_lay_4 : decode cX12_lay 4 = .ok (.iload_n 3, 1) := by decide +kernel
theorem dX12_lay_5 : decode cX12_lay 5 = .ok (.ifCond .lt 24, 3) := by decide +kernel
theorem dX12_lay_8 : decode cX12_lay 8 = .ok (.aload_n 0, 1) := by decide +kernel
theorem dX12_lay_9 : decode cX12_lay 9 = .ok (.getfield 90, 3) := by decide +kernel
theorem dX12_lay_12 : decode cX12_lay 12 = .ok (.iload_n 3, 1) := by decide +kernel
theorem dX12_lay_13 : decode cX12_lay 13 = .ok (.iload_n 2, 1) := by decide +kernel
theorem dX12_lay_14 : decode cX12_lay 14 = .ok (.bipush 6, 2) := by decide +kernel
theorem dX12_lay_16 : decode cX12_lay 16 = .ok (.irem, 1) := by decide +kernel
theorem dX12_lay_17 : decode cX12_lay 17 = .ok (.iastore, 1) := by decide +kernel
theorem dX12_lay_18 : decode cX12_lay 18 = .ok (.iload_n 2, 1) := by decide +kernel
theorem dX12_lay_19 : decode cX12_lay 19 = .ok (.bipush 6, 2) := by decide +kernel
theorem dX12_lay_21 : decode cX12_lay 21 = .ok (.idiv, 1) := by decide +kernel
theorem dX12_lay_22 : decode cX12_lay 22 = .ok (.istore_n 2, 1) := by decide +kernel
theorem dX12_lay_23 : decode cX12_lay 23 = .ok (.iinc 3 (-1), 3) := by decide +kernel
theorem dX12_lay_26 : decode cX12_lay 26 = .ok (.goto (-22), 3) := by decide +kernel
theorem dX12_lay_29 : decode cX12_lay 29 = .ok (.return_, 1) := by decide +kernel
theorem dX12_isThere_0 : decode cX12_isThere 0 = .ok (.iload_n 2, 1) := by decide +kernel
theorem dX12_isThere_1 : decode cX12_isThere 1 = .ok (.i2l, 1) := by decide +kernel
theorem dX12_isThere_2 : decode cX12_isThere 2 = .ok (.lconst 1, 1) := by decide +kernel
theorem dX12_isThere_3 : decode cX12_isThere 3 = .ok (.aload_n 0, 1) := by decide +kernel
theorem dX12_isThere_4 : decode cX12_isThere 4 = .ok (.getfield 7, 3) := by decide +kernel
theorem dX12_isThere_7 : decode cX12_isThere 7 = .ok (.iload_n 1, 1) := by decide +kernel
theorem dX12_isThere_8 : decode cX12_isThere 8 = .ok (.iaload, 1) := by decide +kernel
theorem dX12_isThere_9 : decode cX12_isThere 9 = .ok (.i2l, 1) := by decide +kernel
theorem dX12_isThere_10 : decode cX12_isThere 10 = .ok (.invokestatic 120, 3) := by decide +kernel
theorem dX12_isThere_13 : decode cX12_isThere 13 = .ok (.ireturn, 1) := by decide +kernel
theorem dX12_isAsked_0 : decode cX12_isAsked 0 = .ok (.aload_n 0, 1) := by decide +kernel
theorem dX12_isAsked_1 : decode cX12_isAsked 1 = .ok (.getfield 7, 3) := by decide +kernel
theorem dX12_isAsked_4 : decode cX12_isAsked 4 = .ok (.iload_n 1, 1) := by decide +kernel
theorem dX12_isAsked_5 : decode cX12_isAsked 5 = .ok (.iaload, 1) := by decide +kernel
theorem dX12_isAsked_6 : decode cX12_isAsked 6 = .ok (.ifCond .le 38, 3) := by decide +kernel
theorem dX12_isAsked_9 : decode cX12_isAsked 9 = .ok (.aload_n 0, 1) := by decide +kernel
theorem dX12_isAsked_10 : decode cX12_isAsked 10 = .ok (.getfield 17, 3) := by decide +kernel
theorem dX12_isAsked_13 : decode cX12_isAsked 13 = .ok (.iload_n 1, 1) := by decide +kernel
theorem dX12_isAsked_14 : decode cX12_isAsked 14 = .ok (.iaload, 1) := by decide +kernel
theorem dX12_isAsked_15 : decode cX12_isAsked 15 = .ok (.bipush (-9), 2) := by decide +kernel
theorem dX12_isAsked_17 : decode cX12_isAsked 17 = .ok (.if_icmp .eq 23, 3) := by decide +kernel
theorem dX12_isAsked_20 : decode cX12_isAsked 20 = .ok (.aload_n 0, 1) := by decide +kernel
theorem dX12_isAsked_21 : decode cX12_isAsked 21 = .ok (.getfield 90, 3) := by decide +kernel
theorem dX12_isAsked_24 : decode cX12_isAsked 24 = .ok (.aload_n 0, 1) := by decide +kernel
theorem dX12_isAsked_25 : decode cX12_isAsked 25 = .ok (.getfield 17, 3) := by decide +kernel
theorem dX12_isAsked_28 : decode cX12_isAsked 28 = .ok (.iload_n 1, 1) := by decide +kernel
theorem dX12_isAsked_29 : decode cX12_isAsked 29 = .ok (.iaload, 1) := by decide +kernel
theorem dX12_isAsked_30 : decode cX12_isAsked 30 = .ok (.iaload, 1) := by decide +kernel
theorem dX12_isAsked_31 : decode cX12_isAsked 31 = .ok (.aload_n 0, 1) := by decide +kernel
theorem dX12_isAsked_32 : decode cX12_isAsked 32 = .ok (.getfield 20, 3) := by decide +kernel
theorem dX12_isAsked_35 : decode cX12_isAsked 35 = .ok (.iload_n 1, 1) := by decide +kernel
theorem dX12_isAsked_36 : decode cX12_isAsked 36 = .ok (.iaload, 1) := by decide +kernel
theorem dX12_isAsked_37 : decode cX12_isAsked 37 = .ok (.if_icmp .ne 7, 3) := by decide +kernel
theorem dX12_isAsked_40 : decode cX12_isAsked 40 = .ok (.iconst 1, 1) := by decide +kernel
theorem dX12_isAsked_41 : decode cX12_isAsked 41 = .ok (.goto 4, 3) := by decide +kernel
theorem dX12_isAsked_44 : decode cX12_isAsked 44 = .ok (.iconst 0, 1) := by decide +kernel
theorem dX12_isAsked_45 : decode cX12_isAsked 45 = .ok (.ireturn, 1) := by decide +kernel
theorem dX12_ruleFor_0 : decode cX12_ruleFor 0 = .ok (.iconst 0, 1) := by decide +kernel
theorem dX12_ruleFor_1 : decode cX12_ruleFor 1 = .ok (.istore 4, 2) := by decide +kernel
theorem dX12_ruleFor_3 : decode cX12_ruleFor 3 = .ok (.iload 4, 2) := by decide +kernel
theorem dX12_ruleFor_5 : decode cX12_ruleFor 5 = .ok (.aload_n 0, 1) := by decide +kernel
theorem dX12_ruleFor_6 : decode cX12_ruleFor 6 = .ok (.getfield 201, 3) := by decide +kernel
theorem dX12_ruleFor_9 : decode cX12_ruleFor 9 = .ok (.if_icmp .ge 156, 3) := by decide +kernel
theorem dX12_ruleFor_12 : decode cX12_ruleFor 12 = .ok (.bipush 6, 2) := by decide +kernel
theorem dX12_ruleFor_14 : decode cX12_ruleFor 14 = .ok (.iload 4, 2) := by decide +kernel
theorem dX12_ruleFor_16 : decode cX12_ruleFor 16 = .ok (.imul, 1) := by decide +kernel
theorem dX12_ruleFor_17 : decode cX12_ruleFor 17 = .ok (.istore 5, 2) := by decide +kernel
theorem dX12_ruleFor_19 : decode cX12_ruleFor 19 = .ok (.aload_n 0, 1) := by decide +kernel
theorem dX12_ruleFor_20 : decode cX12_ruleFor 20 = .ok (.getfield 42, 3) := by decide +kernel
theorem dX12_ruleFor_23 : decode cX12_ruleFor 23 = .ok (.iload 5, 2) := by decide +kernel
theorem dX12_ruleFor_25 : decode cX12_ruleFor 25 = .ok (.iaload, 1) := by decide +kernel
theorem dX12_ruleFor_26 : decode cX12_ruleFor 26 = .ok (.iload_n 1, 1) := by decide +kernel
theorem dX12_ruleFor_27 : decode cX12_ruleFor 27 = .ok (.if_icmp .ne 37, 3) := by decide +kernel
theorem dX12_ruleFor_30 : decode cX12_ruleFor 30 = .ok (.aload_n 0, 1) := by decide +kernel
theorem dX12_ruleFor_31 : decode cX12_ruleFor 31 = .ok (.getfield 42, 3) := by decide +kernel
theorem dX12_ruleFor_34 : decode cX12_ruleFor 34 = .ok (.iload 5, 2) := by decide +kernel
theorem dX12_ruleFor_36 : decode cX12_ruleFor 36 = .ok (.iconst 1, 1) := by decide +kernel
theorem dX12_ruleFor_37 : decode cX12_ruleFor 37 = .ok (.iadd, 1) := by decide +kernel
theorem dX12_ruleFor_38 : decode cX12_ruleFor 38 = .ok (.iaload, 1) := by decide +kernel
theorem dX12_ruleFor_39 : decode cX12_ruleFor 39 = .ok (.iload_n 3, 1) := by decide +kernel
theorem dX12_ruleFor_40 : decode cX12_ruleFor 40 = .ok (.if_icmp .ne 24, 3) := by decide +kernel
theorem dX12_ruleFor_43 : decode cX12_ruleFor 43 = .ok (.aload_n 0, 1) := by decide +kernel
theorem dX12_ruleFor_44 : decode cX12_ruleFor 44 = .ok (.iload_n 3, 1) := by decide +kernel
theorem dX12_ruleFor_45 : decode cX12_ruleFor 45 = .ok (.aload_n 0, 1) := by decide +kernel
theorem dX12_ruleFor_46 : decode cX12_ruleFor 46 = .ok (.getfield 42, 3) := by decide +kernel
theorem dX12_ruleFor_49 : decode cX12_ruleFor 49 = .ok (.iload 5, 2) := by decide +kernel
theorem dX12_ruleFor_51 : decode cX12_ruleFor 51 = .ok (.iconst 2, 1) := by decide +kernel
theorem dX12_ruleFor_52 : decode cX12_ruleFor 52 = .ok (.iadd, 1) := by decide +kernel
theorem dX12_ruleFor_53 : decode cX12_ruleFor 53 = .ok (.iaload, 1) := by decide +kernel
theorem dX12_ruleFor_54 : decode cX12_ruleFor 54 = .ok (.invokevirtual 213, 3) := by decide +kernel
theorem dX12_ruleFor_57 : decode cX12_ruleFor 57 = .ok (.ifCond .eq 7, 3) := by decide +kernel
theorem dX12_ruleFor_60 : decode cX12_ruleFor 60 = .ok (.iconst 1, 1) := by decide +kernel
theorem dX12_ruleFor_61 : decode cX12_ruleFor 61 = .ok (.goto 4, 3) := by decide +kernel
theorem dX12_ruleFor_64 : decode cX12_ruleFor 64 = .ok (.iconst 0, 1) := by decide +kernel
theorem dX12_ruleFor_65 : decode cX12_ruleFor 65 = .ok (.istore 6, 2) := by decide +kernel
theorem dX12_ruleFor_67 : decode cX12_ruleFor 67 = .ok (.iload 6, 2) := by decide +kernel
theorem dX12_ruleFor_69 : decode cX12_ruleFor 69 = .ok (.ifCond .eq 39, 3) := by decide +kernel
theorem dX12_ruleFor_72 : decode cX12_ruleFor 72 = .ok (.aload_n 0, 1) := by decide +kernel
theorem dX12_ruleFor_73 : decode cX12_ruleFor 73 = .ok (.getfield 42, 3) := by decide +kernel
theorem dX12_ruleFor_76 : decode cX12_ruleFor 76 = .ok (.iload 5, 2) := by decide +kernel
theorem dX12_ruleFor_78 : decode cX12_ruleFor 78 = .ok (.iconst 5, 1) := by decide +kernel
theorem dX12_ruleFor_79 : decode cX12_ruleFor 79 = .ok (.iadd, 1) := by decide +kernel
theorem dX12_ruleFor_80 : decode cX12_ruleFor 80 = .ok (.iaload, 1) := by decide +kernel
theorem dX12_ruleFor_81 : decode cX12_ruleFor 81 = .ok (.bipush (-9), 2) := by decide +kernel
theorem dX12_ruleFor_83 : decode cX12_ruleFor 83 = .ok (.if_icmp .eq 21, 3) := by decide +kernel
theorem dX12_ruleFor_86 : decode cX12_ruleFor 86 = .ok (.aload_n 0, 1) := by decide +kernel
theorem dX12_ruleFor_87 : decode cX12_ruleFor 87 = .ok (.getfield 42, 3) := by decide +kernel
theorem dX12_ruleFor_90 : decode cX12_ruleFor 90 = .ok (.iload 5, 2) := by decide +kernel
theorem dX12_ruleFor_92 : decode cX12_ruleFor 92 = .ok (.iconst 5, 1) := by decide +kernel
theorem dX12_ruleFor_93 : decode cX12_ruleFor 93 = .ok (.iadd, 1) := by decide +kernel
theorem dX12_ruleFor_94 : decode cX12_ruleFor 94 = .ok (.iaload, 1) := by decide +kernel
theorem dX12_ruleFor_95 : decode cX12_ruleFor 95 = .ok (.aload_n 0, 1) := by decide +kernel
theorem dX12_ruleFor_96 : decode cX12_ruleFor 96 = .ok (.getfield 60, 3) := by decide +kernel
theorem dX12_ruleFor_99 : decode cX12_ruleFor 99 = .ok (.iload_n 2, 1) := by decide +kernel
theorem dX12_ruleFor_100 : decode cX12_ruleFor 100 = .ok (.iaload, 1) := by decide +kernel
theorem dX12_ruleFor_101 : decode cX12_ruleFor 101 = .ok (.if_icmp .ne 7, 3) := by decide +kernel
theorem dX12_ruleFor_104 : decode cX12_ruleFor 104 = .ok (.iconst 1, 1) := by decide +kernel
theorem dX12_ruleFor_105 : decode cX12_ruleFor 105 = .ok (.goto 4, 3) := by decide +kernel
theorem dX12_ruleFor_108 : decode cX12_ruleFor 108 = .ok (.iconst 0, 1) := by decide +kernel
theorem dX12_ruleFor_109 : decode cX12_ruleFor 109 = .ok (.istore 6, 2) := by decide +kernel
theorem dX12_ruleFor_111 : decode cX12_ruleFor 111 = .ok (.iload 6, 2) := by decide +kernel
theorem dX12_ruleFor_113 : decode cX12_ruleFor 113 = .ok (.ifCond .eq 46, 3) := by decide +kernel
theorem dX12_ruleFor_116 : decode cX12_ruleFor 116 = .ok (.aload_n 0, 1) := by decide +kernel
theorem dX12_ruleFor_117 : decode cX12_ruleFor 117 = .ok (.getfield 42, 3) := by decide +kernel
theorem dX12_ruleFor_120 : decode cX12_ruleFor 120 = .ok (.iload 5, 2) := by decide +kernel
theorem dX12_ruleFor_122 : decode cX12_ruleFor 122 = .ok (.iconst 3, 1) := by decide +kernel
theorem dX12_ruleFor_123 : decode cX12_ruleFor 123 = .ok (.iadd, 1) := by decide +kernel
theorem dX12_ruleFor_124 : decode cX12_ruleFor 124 = .ok (.iaload, 1) := by decide +kernel
theorem dX12_ruleFor_125 : decode cX12_ruleFor 125 = .ok (.bipush (-9), 2) := by decide +kernel
theorem dX12_ruleFor_127 : decode cX12_ruleFor 127 = .ok (.if_icmp .eq 29, 3) := by decide +kernel
theorem dX12_ruleFor_130 : decode cX12_ruleFor 130 = .ok (.aload_n 0, 1) := by decide +kernel
theorem dX12_ruleFor_131 : decode cX12_ruleFor 131 = .ok (.getfield 90, 3) := by decide +kernel
theorem dX12_ruleFor_134 : decode cX12_ruleFor 134 = .ok (.aload_n 0, 1) := by decide +kernel
theorem dX12_ruleFor_135 : decode cX12_ruleFor 135 = .ok (.getfield 42, 3) := by decide +kernel
theorem dX12_ruleFor_138 : decode cX12_ruleFor 138 = .ok (.iload 5, 2) := by decide +kernel
theorem dX12_ruleFor_140 : decode cX12_ruleFor 140 = .ok (.iconst 3, 1) := by decide +kernel
theorem dX12_ruleFor_141 : decode cX12_ruleFor 141 = .ok (.iadd, 1) := by decide +kernel
theorem dX12_ruleFor_142 : decode cX12_ruleFor 142 = .ok (.iaload, 1) := by decide +kernel
theorem dX12_ruleFor_143 : decode cX12_ruleFor 143 = .ok (.iaload, 1) := by decide +kernel
theorem dX12_ruleFor_144 : decode cX12_ruleFor 144 = .ok (.aload_n 0, 1) := by decide +kernel
theorem dX12_ruleFor_145 : decode cX12_ruleFor 145 = .ok (.getfield 42, 3) := by decide +kernel
theorem dX12_ruleFor_148 : decode cX12_ruleFor 148 = .ok (.iload 5, 2) := by decide +kernel
theorem dX12_ruleFor_150 : decode cX12_ruleFor 150 = .ok (.iconst 4, 1) := by decide +kernel
theorem dX12_ruleFor_151 : decode cX12_ruleFor 151 = .ok (.iadd, 1) := by decide +kernel
theorem dX12_ruleFor_152 : decode cX12_ruleFor 152 = .ok (.iaload, 1) := by decide +kernel
theorem dX12_ruleFor_153 : decode cX12_ruleFor 153 = .ok (.if_icmp .ne 6, 3) := by decide +kernel
theorem dX12_ruleFor_156 : decode cX12_ruleFor 156 = .ok (.iload 4, 2) := by decide +kernel
theorem dX12_ruleFor_158 : decode cX12_ruleFor 158 = .ok (.ireturn, 1) := by decide +kernel
theorem dX12_ruleFor_159 : decode cX12_ruleFor 159 = .ok (.iinc 4 1, 3) := by decide +kernel
theorem dX12_ruleFor_162 : decode cX12_ruleFor 162 = .ok (.goto (-159), 3) := by decide +kernel
theorem dX12_ruleFor_165 : decode cX12_ruleFor 165 = .ok (.bipush (-9), 2) := by decide +kernel
theorem dX12_ruleFor_167 : decode cX12_ruleFor 167 = .ok (.ireturn, 1) := by decide +kernel
theorem dX12_filledBy_0 : decode cX12_filledBy 0 = .ok (.iload_n 1, 1) := by decide +kernel
theorem dX12_filledBy_1 : decode cX12_filledBy 1 = .ok (.ifCond .ne 45, 3) := by decide +kernel
theorem dX12_filledBy_4 : decode cX12_filledBy 4 = .ok (.aload_n 0, 1) := by decide +kernel
theorem dX12_filledBy_5 : decode cX12_filledBy 5 = .ok (.getfield 96, 3) := by decide +kernel
theorem dX12_filledBy_8 : decode cX12_filledBy 8 = .ok (.iload_n 3, 1) := by decide +kernel
theorem dX12_filledBy_9 : decode cX12_filledBy 9 = .ok (.iconst 1, 1) := by decide +kernel
theorem dX12_filledBy_10 : decode cX12_filledBy 10 = .ok (.iastore, 1) := by decide +kernel
theorem dX12_filledBy_11 : decode cX12_filledBy 11 = .ok (.aload_n 0, 1) := by decide +kernel
theorem dX12_filledBy_12 : decode cX12_filledBy 12 = .ok (.iload_n 3, 1) := by decide +kernel
theorem dX12_filledBy_13 : decode cX12_filledBy 13 = .ok (.aload_n 0, 1) := by decide +kernel
theorem dX12_filledBy_14 : decode cX12_filledBy 14 = .ok (.getfield 63, 3) := by decide +kernel
theorem dX12_filledBy_17 : decode cX12_filledBy 17 = .ok (.bipush 6, 2) := by decide +kernel
theorem dX12_filledBy_19 : decode cX12_filledBy 19 = .ok (.iload_n 2, 1) := by decide +kernel
theorem dX12_filledBy_20 : decode cX12_filledBy 20 = .ok (.imul, 1) := by decide +kernel
theorem dX12_filledBy_21 : decode cX12_filledBy 21 = .ok (.iload_n 3, 1) := by decide +kernel
theorem dX12_filledBy_22 : decode cX12_filledBy 22 = .ok (.iadd, 1) := by decide +kernel
theorem dX12_filledBy_23 : decode cX12_filledBy 23 = .ok (.iaload, 1) := by decide +kernel
theorem dX12_filledBy_24 : decode cX12_filledBy 24 = .ok (.invokevirtual 213, 3) := by decide +kernel
theorem dX12_filledBy_27 : decode cX12_filledBy 27 = .ok (.ifCond .eq 17, 3) := by decide +kernel
theorem dX12_filledBy_30 : decode cX12_filledBy 30 = .ok (.aload_n 0, 1) := by decide +kernel
theorem dX12_filledBy_31 : decode cX12_filledBy 31 = .ok (.getfield 63, 3) := by decide +kernel
theorem dX12_filledBy_34 : decode cX12_filledBy 34 = .ok (.bipush 6, 2) := by decide +kernel
theorem dX12_filledBy_36 : decode cX12_filledBy 36 = .ok (.iload_n 2, 1) := by decide +kernel
theorem dX12_filledBy_37 : decode cX12_filledBy 37 = .ok (.imul, 1) := by decide +kernel
theorem dX12_filledBy_38 : decode cX12_filledBy 38 = .ok (.iload_n 3, 1) := by decide +kernel
theorem dX12_filledBy_39 : decode cX12_filledBy 39 = .ok (.iadd, 1) := by decide +kernel
theorem dX12_filledBy_40 : decode cX12_filledBy 40 = .ok (.iaload, 1) := by decide +kernel
theorem dX12_filledBy_41 : decode cX12_filledBy 41 = .ok (.goto 4, 3) := by decide +kernel
theorem dX12_filledBy_44 : decode cX12_filledBy 44 = .ok (.iconst 0, 1) := by decide +kernel
theorem dX12_filledBy_45 : decode cX12_filledBy 45 = .ok (.ireturn, 1) := by decide +kernel
theorem dX12_filledBy_46 : decode cX12_filledBy 46 = .ok (.iload_n 1, 1) := by decide +kernel
theorem dX12_filledBy_47 : decode cX12_filledBy 47 = .ok (.iconst 4, 1) := by decide +kernel
theorem dX12_filledBy_48 : decode cX12_filledBy 48 = .ok (.if_icmp .ge 19, 3) := by decide +kernel
theorem dX12_filledBy_51 : decode cX12_filledBy 51 = .ok (.aload_n 0, 1) := by decide +kernel
theorem dX12_filledBy_52 : decode cX12_filledBy 52 = .ok (.getfield 66, 3) := by decide +kernel
theorem dX12_filledBy_55 : decode cX12_filledBy 55 = .ok (.iload_n 2, 1) := by decide +kernel
theorem dX12_filledBy_56 : decode cX12_filledBy 56 = .ok (.iaload, 1) := by decide +kernel
theorem dX12_filledBy_57 : decode cX12_filledBy 57 = .ok (.iload_n 1, 1) := by decide +kernel
theorem dX12_filledBy_58 : decode cX12_filledBy 58 = .ok (.ishr, 1) := by decide +kernel
theorem dX12_filledBy_59 : decode cX12_filledBy 59 = .ok (.iconst 1, 1) := by decide +kernel
theorem dX12_filledBy_60 : decode cX12_filledBy 60 = .ok (.iand, 1) := by decide +kernel
theorem dX12_filledBy_61 : decode cX12_filledBy 61 = .ok (.iconst 1, 1) := by decide +kernel
theorem dX12_filledBy_62 : decode cX12_filledBy 62 = .ok (.if_icmp .ne 5, 3) := by decide +kernel
theorem dX12_filledBy_65 : decode cX12_filledBy 65 = .ok (.iconst 0, 1) := by decide +kernel
theorem dX12_filledBy_66 : decode cX12_filledBy 66 = .ok (.ireturn, 1) := by decide +kernel
theorem dX12_filledBy_67 : decode cX12_filledBy 67 = .ok (.iload_n 1, 1) := by decide +kernel
theorem dX12_filledBy_68 : decode cX12_filledBy 68 = .ok (.iconst 1, 1) := by decide +kernel
theorem dX12_filledBy_69 : decode cX12_filledBy 69 = .ok (.if_icmp .eq 8, 3) := by decide +kernel
theorem dX12_filledBy_72 : decode cX12_filledBy 72 = .ok (.iload_n 1, 1) := by decide +kernel
theorem dX12_filledBy_73 : decode cX12_filledBy 73 = .ok (.iconst 2, 1) := by decide +kernel
theorem dX12_filledBy_74 : decode cX12_filledBy 74 = .ok (.if_icmp .ne 126, 3) := by decide +kernel
theorem dX12_filledBy_77 : decode cX12_filledBy 77 = .ok (.iload_n 1, 1) := by decide +kernel
theorem dX12_filledBy_78 : decode cX12_filledBy 78 = .ok (.iconst 1, 1) := by decide +kernel
theorem dX12_filledBy_79 : decode cX12_filledBy 79 = .ok (.if_icmp .eq 41, 3) := by decide +kernel
theorem dX12_filledBy_82 : decode cX12_filledBy 82 = .ok (.aload_n 0, 1) := by decide +kernel
theorem dX12_filledBy_83 : decode cX12_filledBy 83 = .ok (.aload_n 0, 1) := by decide +kernel
theorem dX12_filledBy_84 : decode cX12_filledBy 84 = .ok (.getfield 54, 3) := by decide +kernel
theorem dX12_filledBy_87 : decode cX12_filledBy 87 = .ok (.iload_n 2, 1) := by decide +kernel
theorem dX12_filledBy_88 : decode cX12_filledBy 88 = .ok (.iaload, 1) := by decide +kernel
theorem dX12_filledBy_89 : decode cX12_filledBy 89 = .ok (.aload_n 0, 1) := by decide +kernel
theorem dX12_filledBy_90 : decode cX12_filledBy 90 = .ok (.getfield 60, 3) := by decide +kernel
theorem dX12_filledBy_93 : decode cX12_filledBy 93 = .ok (.iload_n 2, 1) := by decide +kernel
theorem dX12_filledBy_94 : decode cX12_filledBy 94 = .ok (.iaload, 1) := by decide +kernel
theorem dX12_filledBy_95 : decode cX12_filledBy 95 = .ok (.invokevirtual 152, 3) := by decide +kernel
theorem dX12_filledBy_98 : decode cX12_filledBy 98 = .ok (.ifCond .eq 26, 3) := by decide +kernel
theorem dX12_filledBy_101 : decode cX12_filledBy 101 = .ok (.aload_n 0, 1) := by decide +kernel
theorem dX12_filledBy_102 : decode cX12_filledBy 102 = .ok (.aload_n 0, 1) := by decide +kernel
theorem dX12_filledBy_103 : decode cX12_filledBy 103 = .ok (.getfield 57, 3) := by decide +kernel
theorem dX12_filledBy_106 : decode cX12_filledBy 106 = .ok (.iload_n 2, 1) := by decide +kernel
theorem dX12_filledBy_107 : decode cX12_filledBy 107 = .ok (.iaload, 1) := by decide +kernel
theorem dX12_filledBy_108 : decode cX12_filledBy 108 = .ok (.aload_n 0, 1) := by decide +kernel
theorem dX12_filledBy_109 : decode cX12_filledBy 109 = .ok (.getfield 60, 3) := by decide +kernel
theorem dX12_filledBy_112 : decode cX12_filledBy 112 = .ok (.iload_n 2, 1) := by decide +kernel
theorem dX12_filledBy_113 : decode cX12_filledBy 113 = .ok (.iaload, 1) := by decide +kernel
theorem dX12_filledBy_114 : decode cX12_filledBy 114 = .ok (.invokevirtual 152, 3) := by decide +kernel
theorem dX12_filledBy_117 : decode cX12_filledBy 117 = .ok (.ifCond .eq 7, 3) := by decide +kernel
theorem dX12_filledBy_120 : decode cX12_filledBy 120 = .ok (.iconst 1, 1) := by decide +kernel
theorem dX12_filledBy_121 : decode cX12_filledBy 121 = .ok (.goto 4, 3) := by decide +kernel
theorem dX12_filledBy_124 : decode cX12_filledBy 124 = .ok (.iconst 0, 1) := by decide +kernel
theorem dX12_filledBy_125 : decode cX12_filledBy 125 = .ok (.istore 4, 2) := by decide +kernel
theorem dX12_filledBy_127 : decode cX12_filledBy 127 = .ok (.iload 4, 2) := by decide +kernel
theorem dX12_filledBy_129 : decode cX12_filledBy 129 = .ok (.ifCond .ne 7, 3) := by decide +kernel
theorem dX12_filledBy_132 : decode cX12_filledBy 132 = .ok (.iconst 0, 1) := by decide +kernel
theorem dX12_filledBy_133 : decode cX12_filledBy 133 = .ok (.goto 39, 3) := by decide +kernel
theorem dX12_filledBy_136 : decode cX12_filledBy 136 = .ok (.iload_n 1, 1) := by decide +kernel
theorem dX12_filledBy_137 : decode cX12_filledBy 137 = .ok (.iconst 1, 1) := by decide +kernel
theorem dX12_filledBy_138 : decode cX12_filledBy 138 = .ok (.if_icmp .ne 23, 3) := by decide +kernel
theorem dX12_filledBy_141 : decode cX12_filledBy 141 = .ok (.aload_n 0, 1) := by decide +kernel
theorem dX12_filledBy_142 : decode cX12_filledBy 142 = .ok (.aload_n 0, 1) := by decide +kernel
theorem dX12_filledBy_143 : decode cX12_filledBy 143 = .ok (.getfield 54, 3) := by decide +kernel
theorem dX12_filledBy_146 : decode cX12_filledBy 146 = .ok (.iload_n 2, 1) := by decide +kernel
theorem dX12_filledBy_147 : decode cX12_filledBy 147 = .ok (.iaload, 1) := by decide +kernel
theorem dX12_filledBy_148 : decode cX12_filledBy 148 = .ok (.aload_n 0, 1) := by decide +kernel
theorem dX12_filledBy_149 : decode cX12_filledBy 149 = .ok (.getfield 57, 3) := by decide +kernel
theorem dX12_filledBy_152 : decode cX12_filledBy 152 = .ok (.iload_n 2, 1) := by decide +kernel
theorem dX12_filledBy_153 : decode cX12_filledBy 153 = .ok (.iaload, 1) := by decide +kernel
theorem dX12_filledBy_154 : decode cX12_filledBy 154 = .ok (.iload_n 3, 1) := by decide +kernel
theorem dX12_filledBy_155 : decode cX12_filledBy 155 = .ok (.invokevirtual 156, 3) := by decide +kernel
theorem dX12_filledBy_158 : decode cX12_filledBy 158 = .ok (.goto 14, 3) := by decide +kernel
theorem dX12_filledBy_161 : decode cX12_filledBy 161 = .ok (.aload_n 0, 1) := by decide +kernel
theorem dX12_filledBy_162 : decode cX12_filledBy 162 = .ok (.aload_n 0, 1) := by decide +kernel
theorem dX12_filledBy_163 : decode cX12_filledBy 163 = .ok (.getfield 60, 3) := by decide +kernel
theorem dX12_filledBy_166 : decode cX12_filledBy 166 = .ok (.iload_n 2, 1) := by decide +kernel
theorem dX12_filledBy_167 : decode cX12_filledBy 167 = .ok (.iaload, 1) := by decide +kernel
theorem dX12_filledBy_168 : decode cX12_filledBy 168 = .ok (.iload_n 3, 1) := by decide +kernel
theorem dX12_filledBy_169 : decode cX12_filledBy 169 = .ok (.invokevirtual 163, 3) := by decide +kernel
theorem dX12_filledBy_172 : decode cX12_filledBy 172 = .ok (.istore 5, 2) := by decide +kernel
theorem dX12_filledBy_174 : decode cX12_filledBy 174 = .ok (.aload_n 0, 1) := by decide +kernel
theorem dX12_filledBy_175 : decode cX12_filledBy 175 = .ok (.getfield 96, 3) := by decide +kernel
theorem dX12_filledBy_178 : decode cX12_filledBy 178 = .ok (.iload_n 3, 1) := by decide +kernel
theorem dX12_filledBy_179 : decode cX12_filledBy 179 = .ok (.iload_n 1, 1) := by decide +kernel
theorem dX12_filledBy_180 : decode cX12_filledBy 180 = .ok (.iconst 1, 1) := by decide +kernel
theorem dX12_filledBy_181 : decode cX12_filledBy 181 = .ok (.iadd, 1) := by decide +kernel
theorem dX12_filledBy_182 : decode cX12_filledBy 182 = .ok (.iastore, 1) := by decide +kernel
theorem dX12_filledBy_183 : decode cX12_filledBy 183 = .ok (.aload_n 0, 1) := by decide +kernel
theorem dX12_filledBy_184 : decode cX12_filledBy 184 = .ok (.iload_n 3, 1) := by decide +kernel
theorem dX12_filledBy_185 : decode cX12_filledBy 185 = .ok (.iload 5, 2) := by decide +kernel
theorem dX12_filledBy_187 : decode cX12_filledBy 187 = .ok (.invokevirtual 213, 3) := by decide +kernel
theorem dX12_filledBy_190 : decode cX12_filledBy 190 = .ok (.ifCond .eq 8, 3) := by decide +kernel
theorem dX12_filledBy_193 : decode cX12_filledBy 193 = .ok (.iload 5, 2) := by decide +kernel
theorem dX12_filledBy_195 : decode cX12_filledBy 195 = .ok (.goto 4, 3) := by decide +kernel
theorem dX12_filledBy_198 : decode cX12_filledBy 198 = .ok (.iconst 0, 1) := by decide +kernel
theorem dX12_filledBy_199 : decode cX12_filledBy 199 = .ok (.ireturn, 1) := by decide +kernel
theorem dX12_filledBy_200 : decode cX12_filledBy 200 = .ok (.iload_n 1, 1) := by decide +kernel
theorem dX12_filledBy_201 : decode cX12_filledBy 201 = .ok (.iconst 3, 1) := by decide +kernel
theorem dX12_filledBy_202 : decode cX12_filledBy 202 = .ok (.if_icmp .ne 36, 3) := by decide +kernel
theorem dX12_filledBy_205 : decode cX12_filledBy 205 = .ok (.aload_n 0, 1) := by decide +kernel
theorem dX12_filledBy_206 : decode cX12_filledBy 206 = .ok (.getfield 87, 3) := by decide +kernel
theorem dX12_filledBy_209 : decode cX12_filledBy 209 = .ok (.iload_n 3, 1) := by decide +kernel
theorem dX12_filledBy_210 : decode cX12_filledBy 210 = .ok (.if_icmp .ne 28, 3) := by decide +kernel
theorem dX12_filledBy_213 : decode cX12_filledBy 213 = .ok (.aload_n 0, 1) := by decide +kernel
theorem dX12_filledBy_214 : decode cX12_filledBy 214 = .ok (.iload_n 3, 1) := by decide +kernel
theorem dX12_filledBy_215 : decode cX12_filledBy 215 = .ok (.aload_n 0, 1) := by decide +kernel
theorem dX12_filledBy_216 : decode cX12_filledBy 216 = .ok (.getfield 216, 3) := by decide +kernel
theorem dX12_filledBy_219 : decode cX12_filledBy 219 = .ok (.invokevirtual 213, 3) := by decide +kernel
theorem dX12_filledBy_222 : decode cX12_filledBy 222 = .ok (.ifCond .eq 16, 3) := by decide +kernel
theorem dX12_filledBy_225 : decode cX12_filledBy 225 = .ok (.aload_n 0, 1) := by decide +kernel
theorem dX12_filledBy_226 : decode cX12_filledBy 226 = .ok (.getfield 96, 3) := by decide +kernel
theorem dX12_filledBy_229 : decode cX12_filledBy 229 = .ok (.iload_n 3, 1) := by decide +kernel
theorem dX12_filledBy_230 : decode cX12_filledBy 230 = .ok (.bipush 9, 2) := by decide +kernel
theorem dX12_filledBy_232 : decode cX12_filledBy 232 = .ok (.iastore, 1) := by decide +kernel
theorem dX12_filledBy_233 : decode cX12_filledBy 233 = .ok (.aload_n 0, 1) := by decide +kernel
theorem dX12_filledBy_234 : decode cX12_filledBy 234 = .ok (.getfield 216, 3) := by decide +kernel
theorem dX12_filledBy_237 : decode cX12_filledBy 237 = .ok (.ireturn, 1) := by decide +kernel
theorem dX12_filledBy_238 : decode cX12_filledBy 238 = .ok (.aload_n 0, 1) := by decide +kernel
theorem dX12_filledBy_239 : decode cX12_filledBy 239 = .ok (.iload_n 1, 1) := by decide +kernel
theorem dX12_filledBy_240 : decode cX12_filledBy 240 = .ok (.iconst 3, 1) := by decide +kernel
theorem dX12_filledBy_241 : decode cX12_filledBy 241 = .ok (.if_icmp .ne 7, 3) := by decide +kernel
theorem dX12_filledBy_244 : decode cX12_filledBy 244 = .ok (.iconst 0, 1) := by decide +kernel
theorem dX12_filledBy_245 : decode cX12_filledBy 245 = .ok (.goto 4, 3) := by decide +kernel
theorem dX12_filledBy_248 : decode cX12_filledBy 248 = .ok (.iconst 2, 1) := by decide +kernel
theorem dX12_filledBy_249 : decode cX12_filledBy 249 = .ok (.iload_n 2, 1) := by decide +kernel
theorem dX12_filledBy_250 : decode cX12_filledBy 250 = .ok (.iload_n 3, 1) := by decide +kernel
theorem dX12_filledBy_251 : decode cX12_filledBy 251 = .ok (.invokevirtual 219, 3) := by decide +kernel
theorem dX12_filledBy_254 : decode cX12_filledBy 254 = .ok (.istore 4, 2) := by decide +kernel
theorem dX12_filledBy_256 : decode cX12_filledBy 256 = .ok (.aload_n 0, 1) := by decide +kernel
theorem dX12_filledBy_257 : decode cX12_filledBy 257 = .ok (.getfield 96, 3) := by decide +kernel
theorem dX12_filledBy_260 : decode cX12_filledBy 260 = .ok (.iload_n 3, 1) := by decide +kernel
theorem dX12_filledBy_261 : decode cX12_filledBy 261 = .ok (.bipush 10, 2) := by decide +kernel
theorem dX12_filledBy_263 : decode cX12_filledBy 263 = .ok (.iload 4, 2) := by decide +kernel
theorem dX12_filledBy_265 : decode cX12_filledBy 265 = .ok (.iadd, 1) := by decide +kernel
theorem dX12_filledBy_266 : decode cX12_filledBy 266 = .ok (.iastore, 1) := by decide +kernel
theorem dX12_filledBy_267 : decode cX12_filledBy 267 = .ok (.iload 4, 2) := by decide +kernel
theorem dX12_filledBy_269 : decode cX12_filledBy 269 = .ok (.bipush (-9), 2) := by decide +kernel
theorem dX12_filledBy_271 : decode cX12_filledBy 271 = .ok (.if_icmp .ne 7, 3) := by decide +kernel
theorem dX12_filledBy_274 : decode cX12_filledBy 274 = .ok (.iconst 0, 1) := by decide +kernel
theorem dX12_filledBy_275 : decode cX12_filledBy 275 = .ok (.goto 15, 3) := by decide +kernel
theorem dX12_filledBy_278 : decode cX12_filledBy 278 = .ok (.aload_n 0, 1) := by decide +kernel
theorem dX12_filledBy_279 : decode cX12_filledBy 279 = .ok (.getfield 42, 3) := by decide +kernel
theorem dX12_filledBy_282 : decode cX12_filledBy 282 = .ok (.bipush 6, 2) := by decide +kernel
theorem dX12_filledBy_284 : decode cX12_filledBy 284 = .ok (.iload 4, 2) := by decide +kernel
theorem dX12_filledBy_286 : decode cX12_filledBy 286 = .ok (.imul, 1) := by decide +kernel
theorem dX12_filledBy_287 : decode cX12_filledBy 287 = .ok (.iconst 2, 1) := by decide +kernel
theorem dX12_filledBy_288 : decode cX12_filledBy 288 = .ok (.iadd, 1) := by decide +kernel
theorem dX12_filledBy_289 : decode cX12_filledBy 289 = .ok (.iaload, 1) := by decide +kernel
theorem dX12_filledBy_290 : decode cX12_filledBy 290 = .ok (.ireturn, 1) := by decide +kernel
theorem dX12_go_0 : decode cX12_go 0 = .ok (.iconst 0, 1) := by decide +kernel
theorem dX12_go_1 : decode cX12_go 1 = .ok (.istore_n 3, 1) := by decide +kernel
theorem dX12_go_2 : decode cX12_go 2 = .ok (.iconst 0, 1) := by decide +kernel
theorem dX12_go_3 : decode cX12_go 3 = .ok (.istore 4, 2) := by decide +kernel
theorem dX12_go_5 : decode cX12_go 5 = .ok (.iload 4, 2) := by decide +kernel
theorem dX12_go_7 : decode cX12_go 7 = .ok (.bipush 6, 2) := by decide +kernel
theorem dX12_go_9 : decode cX12_go 9 = .ok (.if_icmp .ge 184, 3) := by decide +kernel
theorem dX12_go_12 : decode cX12_go 12 = .ok (.aload_n 0, 1) := by decide +kernel
theorem dX12_go_13 : decode cX12_go 13 = .ok (.getfield 93, 3) := by decide +kernel
theorem dX12_go_16 : decode cX12_go 16 = .ok (.iload 4, 2) := by decide +kernel
theorem dX12_go_18 : decode cX12_go 18 = .ok (.iconst 0, 1) := by decide +kernel
theorem dX12_go_19 : decode cX12_go 19 = .ok (.iastore, 1) := by decide +kernel
theorem dX12_go_20 : decode cX12_go 20 = .ok (.aload_n 0, 1) := by decide +kernel
theorem dX12_go_21 : decode cX12_go 21 = .ok (.iload 4, 2) := by decide +kernel
theorem dX12_go_23 : decode cX12_go 23 = .ok (.invokevirtual 222, 3) := by decide +kernel
theorem dX12_go_26 : decode cX12_go 26 = .ok (.istore 5, 2) := by decide +kernel
theorem dX12_go_28 : decode cX12_go 28 = .ok (.iload 5, 2) := by decide +kernel
theorem dX12_go_30 : decode cX12_go 30 = .ok (.ifCond .eq 14, 3) := by decide +kernel
theorem dX12_go_33 : decode cX12_go 33 = .ok (.aload_n 0, 1) := by decide +kernel
theorem dX12_go_34 : decode cX12_go 34 = .ok (.iconst 1, 1) := by decide +kernel
theorem dX12_go_35 : decode cX12_go 35 = .ok (.iload_n 1, 1) := by decide +kernel
theorem dX12_go_36 : decode cX12_go 36 = .ok (.iload 4, 2) := by decide +kernel
theorem dX12_go_38 : decode cX12_go 38 = .ok (.invokevirtual 219, 3) := by decide +kernel
theorem dX12_go_41 : decode cX12_go 41 = .ok (.goto 5, 3) := by decide +kernel
theorem dX12_go_44 : decode cX12_go 44 = .ok (.bipush (-9), 2) := by decide +kernel
theorem dX12_go_46 : decode cX12_go 46 = .ok (.istore 6, 2) := by decide +kernel
theorem dX12_go_48 : decode cX12_go 48 = .ok (.iload 6, 2) := by decide +kernel
theorem dX12_go_50 : decode cX12_go 50 = .ok (.bipush (-9), 2) := by decide +kernel
theorem dX12_go_52 : decode cX12_go 52 = .ok (.if_icmp .eq 34, 3) := by decide +kernel
theorem dX12_go_55 : decode cX12_go 55 = .ok (.aload_n 0, 1) := by decide +kernel
theorem dX12_go_56 : decode cX12_go 56 = .ok (.getfield 93, 3) := by decide +kernel
theorem dX12_go_59 : decode cX12_go 59 = .ok (.iload 4, 2) := by decide +kernel
theorem dX12_go_61 : decode cX12_go 61 = .ok (.aload_n 0, 1) := by decide +kernel
theorem dX12_go_62 : decode cX12_go 62 = .ok (.getfield 42, 3) := by decide +kernel
theorem dX12_go_65 : decode cX12_go 65 = .ok (.bipush 6, 2) := by decide +kernel
theorem dX12_go_67 : decode cX12_go 67 = .ok (.iload 6, 2) := by decide +kernel
theorem dX12_go_69 : decode cX12_go 69 = .ok (.imul, 1) := by decide +kernel
theorem dX12_go_70 : decode cX12_go 70 = .ok (.iconst 2, 1) := by decide +kernel
theorem dX12_go_71 : decode cX12_go 71 = .ok (.iadd, 1) := by decide +kernel
theorem dX12_go_72 : decode cX12_go 72 = .ok (.iaload, 1) := by decide +kernel
theorem dX12_go_73 : decode cX12_go 73 = .ok (.iastore, 1) := by decide +kernel
theorem dX12_go_74 : decode cX12_go 74 = .ok (.aload_n 0, 1) := by decide +kernel
theorem dX12_go_75 : decode cX12_go 75 = .ok (.getfield 96, 3) := by decide +kernel
theorem dX12_go_78 : decode cX12_go 78 = .ok (.iload 4, 2) := by decide +kernel
theorem dX12_go_80 : decode cX12_go 80 = .ok (.bipush 10, 2) := by decide +kernel
theorem dX12_go_82 : decode cX12_go 82 = .ok (.iload 6, 2) := by decide +kernel
theorem dX12_go_84 : decode cX12_go 84 = .ok (.iadd, 1) := by decide +kernel
theorem dX12_go_85 : decode cX12_go 85 = .ok (.iastore, 1) := by decide +kernel
theorem dX12_go_86 : decode cX12_go 86 = .ok (.iconst 0, 1) := by decide +kernel
theorem dX12_go_87 : decode cX12_go 87 = .ok (.istore 7, 2) := by decide +kernel
theorem dX12_go_89 : decode cX12_go 89 = .ok (.iload 7, 2) := by decide +kernel
theorem dX12_go_91 : decode cX12_go 91 = .ok (.aload_n 0, 1) := by decide +kernel
theorem dX12_go_92 : decode cX12_go 92 = .ok (.getfield 51, 3) := by decide +kernel
theorem dX12_go_95 : decode cX12_go 95 = .ok (.iload_n 2, 1) := by decide +kernel
theorem dX12_go_96 : decode cX12_go 96 = .ok (.iaload, 1) := by decide +kernel
theorem dX12_go_97 : decode cX12_go 97 = .ok (.if_icmp .ge 49, 3) := by decide +kernel
theorem dX12_go_100 : decode cX12_go 100 = .ok (.iload 5, 2) := by decide +kernel
theorem dX12_go_102 : decode cX12_go 102 = .ok (.ifCond .eq 44, 3) := by decide +kernel
theorem dX12_go_105 : decode cX12_go 105 = .ok (.aload_n 0, 1) := by decide +kernel
theorem dX12_go_106 : decode cX12_go 106 = .ok (.getfield 93, 3) := by decide +kernel
theorem dX12_go_109 : decode cX12_go 109 = .ok (.iload 4, 2) := by decide +kernel
theorem dX12_go_111 : decode cX12_go 111 = .ok (.iaload, 1) := by decide +kernel
theorem dX12_go_112 : decode cX12_go 112 = .ok (.ifCond .ne 34, 3) := by decide +kernel
theorem dX12_go_115 : decode cX12_go 115 = .ok (.aload_n 0, 1) := by decide +kernel
theorem dX12_go_116 : decode cX12_go 116 = .ok (.getfield 93, 3) := by decide +kernel
theorem dX12_go_119 : decode cX12_go 119 = .ok (.iload 4, 2) := by decide +kernel
theorem dX12_go_121 : decode cX12_go 121 = .ok (.aload_n 0, 1) := by decide +kernel
theorem dX12_go_122 : decode cX12_go 122 = .ok (.aload_n 0, 1) := by decide +kernel
theorem dX12_go_123 : decode cX12_go 123 = .ok (.getfield 48, 3) := by decide +kernel
theorem dX12_go_126 : decode cX12_go 126 = .ok (.iconst 5, 1) := by decide +kernel
theorem dX12_go_127 : decode cX12_go 127 = .ok (.iload_n 2, 1) := by decide +kernel
theorem dX12_go_128 : decode cX12_go 128 = .ok (.imul, 1) := by decide +kernel
theorem dX12_go_129 : decode cX12_go 129 = .ok (.iload 7, 2) := by decide +kernel
theorem dX12_go_131 : decode cX12_go 131 = .ok (.iadd, 1) := by decide +kernel
theorem dX12_go_132 : decode cX12_go 132 = .ok (.iaload, 1) := by decide +kernel
theorem dX12_go_133 : decode cX12_go 133 = .ok (.iload_n 1, 1) := by decide +kernel
theorem dX12_go_134 : decode cX12_go 134 = .ok (.iload 4, 2) := by decide +kernel
theorem dX12_go_136 : decode cX12_go 136 = .ok (.invokevirtual 225, 3) := by decide +kernel
theorem dX12_go_139 : decode cX12_go 139 = .ok (.iastore, 1) := by decide +kernel
theorem dX12_go_140 : decode cX12_go 140 = .ok (.iinc 7 1, 3) := by decide +kernel
theorem dX12_go_143 : decode cX12_go 143 = .ok (.goto (-54), 3) := by decide +kernel
theorem dX12_go_146 : decode cX12_go 146 = .ok (.aload_n 0, 1) := by decide +kernel
theorem dX12_go_147 : decode cX12_go 147 = .ok (.getfield 96, 3) := by decide +kernel
theorem dX12_go_150 : decode cX12_go 150 = .ok (.iload 4, 2) := by decide +kernel
theorem dX12_go_152 : decode cX12_go 152 = .ok (.aload_n 0, 1) := by decide +kernel
theorem dX12_go_153 : decode cX12_go 153 = .ok (.getfield 93, 3) := by decide +kernel
theorem dX12_go_156 : decode cX12_go 156 = .ok (.iload 4, 2) := by decide +kernel
theorem dX12_go_158 : decode cX12_go 158 = .ok (.iaload, 1) := by decide +kernel
theorem dX12_go_159 : decode cX12_go 159 = .ok (.ifCond .ne 7, 3) := by decide +kernel
theorem dX12_go_162 : decode cX12_go 162 = .ok (.iconst 0, 1) := by decide +kernel
theorem dX12_go_163 : decode cX12_go 163 = .ok (.goto 10, 3) := by decide +kernel
theorem dX12_go_166 : decode cX12_go 166 = .ok (.aload_n 0, 1) := by decide +kernel
theorem dX12_go_167 : decode cX12_go 167 = .ok (.getfield 96, 3) := by decide +kernel
theorem dX12_go_170 : decode cX12_go 170 = .ok (.iload 4, 2) := by decide +kernel
theorem dX12_go_172 : decode cX12_go 172 = .ok (.iaload, 1) := by decide +kernel
theorem dX12_go_173 : decode cX12_go 173 = .ok (.iastore, 1) := by decide +kernel
theorem dX12_go_174 : decode cX12_go 174 = .ok (.bipush 6, 2) := by decide +kernel
theorem dX12_go_176 : decode cX12_go 176 = .ok (.iload_n 3, 1) := by decide +kernel
theorem dX12_go_177 : decode cX12_go 177 = .ok (.imul, 1) := by decide +kernel
theorem dX12_go_178 : decode cX12_go 178 = .ok (.aload_n 0, 1) := by decide +kernel
theorem dX12_go_179 : decode cX12_go 179 = .ok (.getfield 93, 3) := by decide +kernel
theorem dX12_go_182 : decode cX12_go 182 = .ok (.iload 4, 2) := by decide +kernel
theorem dX12_go_184 : decode cX12_go 184 = .ok (.iaload, 1) := by decide +kernel
theorem dX12_go_185 : decode cX12_go 185 = .ok (.iadd, 1) := by decide +kernel
theorem dX12_go_186 : decode cX12_go 186 = .ok (.istore_n 3, 1) := by decide +kernel
theorem dX12_go_187 : decode cX12_go 187 = .ok (.iinc 4 1, 3) := by decide +kernel
theorem dX12_go_190 : decode cX12_go 190 = .ok (.goto (-185), 3) := by decide +kernel
theorem dX12_go_193 : decode cX12_go 193 = .ok (.iload_n 3, 1) := by decide +kernel
theorem dX12_go_194 : decode cX12_go 194 = .ok (.ireturn, 1) := by decide +kernel
theorem dX12_nextOf_0 : decode cX12_nextOf 0 = .ok (.aload_n 0, 1) := by decide +kernel
theorem dX12_nextOf_1 : decode cX12_nextOf 1 = .ok (.iload_n 1, 1) := by decide +kernel
theorem dX12_nextOf_2 : decode cX12_nextOf 2 = .ok (.invokevirtual 228, 3) := by decide +kernel
theorem dX12_nextOf_5 : decode cX12_nextOf 5 = .ok (.aload_n 0, 1) := by decide +kernel
theorem dX12_nextOf_6 : decode cX12_nextOf 6 = .ok (.iload_n 2, 1) := by decide +kernel
theorem dX12_nextOf_7 : decode cX12_nextOf 7 = .ok (.iload_n 3, 1) := by decide +kernel
theorem dX12_nextOf_8 : decode cX12_nextOf 8 = .ok (.invokevirtual 232, 3) := by decide +kernel
theorem dX12_nextOf_11 : decode cX12_nextOf 11 = .ok (.ireturn, 1) := by decide +kernel
theorem dX12_readIt_0 : decode cX12_readIt 0 = .ok (.aload_n 0, 1) := by decide +kernel
theorem dX12_readIt_1 : decode cX12_readIt 1 = .ok (.dup, 1) := by decide +kernel
theorem dX12_readIt_2 : decode cX12_readIt 2 = .ok (.getfield 235, 3) := by decide +kernel
theorem dX12_readIt_5 : decode cX12_readIt 5 = .ok (.iconst 1, 1) := by decide +kernel
theorem dX12_readIt_6 : decode cX12_readIt 6 = .ok (.iadd, 1) := by decide +kernel
theorem dX12_readIt_7 : decode cX12_readIt 7 = .ok (.putfield 235, 3) := by decide +kernel
theorem dX12_readIt_10 : decode cX12_readIt 10 = .ok (.iconst 0, 1) := by decide +kernel
theorem dX12_readIt_11 : decode cX12_readIt 11 = .ok (.istore_n 3, 1) := by decide +kernel
theorem dX12_readIt_12 : decode cX12_readIt 12 = .ok (.iconst 0, 1) := by decide +kernel
theorem dX12_readIt_13 : decode cX12_readIt 13 = .ok (.istore 4, 2) := by decide +kernel
theorem dX12_readIt_15 : decode cX12_readIt 15 = .ok (.aload_n 0, 1) := by decide +kernel
theorem dX12_readIt_16 : decode cX12_readIt 16 = .ok (.getfield 100, 3) := by decide +kernel
theorem dX12_readIt_19 : decode cX12_readIt 19 = .ok (.iload_n 3, 1) := by decide +kernel
theorem dX12_readIt_20 : decode cX12_readIt 20 = .ok (.iaload, 1) := by decide +kernel
theorem dX12_readIt_21 : decode cX12_readIt 21 = .ok (.aload_n 0, 1) := by decide +kernel
theorem dX12_readIt_22 : decode cX12_readIt 22 = .ok (.getfield 235, 3) := by decide +kernel
theorem dX12_readIt_25 : decode cX12_readIt 25 = .ok (.if_icmp .eq 35, 3) := by decide +kernel
theorem dX12_readIt_28 : decode cX12_readIt 28 = .ok (.aload_n 0, 1) := by decide +kernel
theorem dX12_readIt_29 : decode cX12_readIt 29 = .ok (.getfield 100, 3) := by decide +kernel
theorem dX12_readIt_32 : decode cX12_readIt 32 = .ok (.iload_n 3, 1) := by decide +kernel
theorem dX12_readIt_33 : decode cX12_readIt 33 = .ok (.aload_n 0, 1) := by decide +kernel
theorem dX12_readIt_34 : decode cX12_readIt 34 = .ok (.getfield 235, 3) := by decide +kernel
theorem dX12_readIt_37 : decode cX12_readIt 37 = .ok (.iastore, 1) := by decide +kernel
theorem dX12_readIt_38 : decode cX12_readIt 38 = .ok (.aload_n 0, 1) := by decide +kernel
theorem dX12_readIt_39 : decode cX12_readIt 39 = .ok (.getfield 103, 3) := by decide +kernel
theorem dX12_readIt_42 : decode cX12_readIt 42 = .ok (.iload_n 3, 1) := by decide +kernel
theorem dX12_readIt_43 : decode cX12_readIt 43 = .ok (.iload 4, 2) := by decide +kernel
theorem dX12_readIt_45 : decode cX12_readIt 45 = .ok (.iastore, 1) := by decide +kernel
theorem dX12_readIt_46 : decode cX12_readIt 46 = .ok (.iinc 4 1, 3) := by decide +kernel
theorem dX12_readIt_49 : decode cX12_readIt 49 = .ok (.aload_n 0, 1) := by decide +kernel
theorem dX12_readIt_50 : decode cX12_readIt 50 = .ok (.iload_n 3, 1) := by decide +kernel
theorem dX12_readIt_51 : decode cX12_readIt 51 = .ok (.iload_n 1, 1) := by decide +kernel
theorem dX12_readIt_52 : decode cX12_readIt 52 = .ok (.iload_n 2, 1) := by decide +kernel
theorem dX12_readIt_53 : decode cX12_readIt 53 = .ok (.invokevirtual 238, 3) := by decide +kernel
theorem dX12_readIt_56 : decode cX12_readIt 56 = .ok (.istore_n 3, 1) := by decide +kernel
theorem dX12_readIt_57 : decode cX12_readIt 57 = .ok (.goto (-42), 3) := by decide +kernel
theorem dX12_readIt_60 : decode cX12_readIt 60 = .ok (.aload_n 0, 1) := by decide +kernel
theorem dX12_readIt_61 : decode cX12_readIt 61 = .ok (.aload_n 0, 1) := by decide +kernel
theorem dX12_readIt_62 : decode cX12_readIt 62 = .ok (.getfield 103, 3) := by decide +kernel
theorem dX12_readIt_65 : decode cX12_readIt 65 = .ok (.iload_n 3, 1) := by decide +kernel
theorem dX12_readIt_66 : decode cX12_readIt 66 = .ok (.iaload, 1) := by decide +kernel
theorem dX12_readIt_67 : decode cX12_readIt 67 = .ok (.putfield 241, 3) := by decide +kernel
theorem dX12_readIt_70 : decode cX12_readIt 70 = .ok (.aload_n 0, 1) := by decide +kernel
theorem dX12_readIt_71 : decode cX12_readIt 71 = .ok (.iload 4, 2) := by decide +kernel
theorem dX12_readIt_73 : decode cX12_readIt 73 = .ok (.aload_n 0, 1) := by decide +kernel
theorem dX12_readIt_74 : decode cX12_readIt 74 = .ok (.getfield 241, 3) := by decide +kernel
theorem dX12_readIt_77 : decode cX12_readIt 77 = .ok (.isub, 1) := by decide +kernel
theorem dX12_readIt_78 : decode cX12_readIt 78 = .ok (.putfield 244, 3) := by decide +kernel
theorem dX12_readIt_81 : decode cX12_readIt 81 = .ok (.aload_n 0, 1) := by decide +kernel
theorem dX12_readIt_82 : decode cX12_readIt 82 = .ok (.iload_n 3, 1) := by decide +kernel
theorem dX12_readIt_83 : decode cX12_readIt 83 = .ok (.invokevirtual 228, 3) := by decide +kernel
theorem dX12_readIt_86 : decode cX12_readIt 86 = .ok (.iconst 0, 1) := by decide +kernel
theorem dX12_readIt_87 : decode cX12_readIt 87 = .ok (.istore 5, 2) := by decide +kernel
theorem dX12_readIt_89 : decode cX12_readIt 89 = .ok (.iload 5, 2) := by decide +kernel
theorem dX12_readIt_91 : decode cX12_readIt 91 = .ok (.bipush 6, 2) := by decide +kernel
theorem dX12_readIt_93 : decode cX12_readIt 93 = .ok (.if_icmp .ge 31, 3) := by decide +kernel
theorem dX12_readIt_96 : decode cX12_readIt 96 = .ok (.aload_n 0, 1) := by decide +kernel
theorem dX12_readIt_97 : decode cX12_readIt 97 = .ok (.getfield 106, 3) := by decide +kernel
theorem dX12_readIt_100 : decode cX12_readIt 100 = .ok (.iload 5, 2) := by decide +kernel
theorem dX12_readIt_102 : decode cX12_readIt 102 = .ok (.aload_n 0, 1) := by decide +kernel
theorem dX12_readIt_103 : decode cX12_readIt 103 = .ok (.getfield 90, 3) := by decide +kernel
theorem dX12_readIt_106 : decode cX12_readIt 106 = .ok (.iload 5, 2) := by decide +kernel
theorem dX12_readIt_108 : decode cX12_readIt 108 = .ok (.iaload, 1) := by decide +kernel
theorem dX12_readIt_109 : decode cX12_readIt 109 = .ok (.iastore, 1) := by decide +kernel
theorem dX12_readIt_110 : decode cX12_readIt 110 = .ok (.aload_n 0, 1) := by decide +kernel
theorem dX12_readIt_111 : decode cX12_readIt 111 = .ok (.getfield 112, 3) := by decide +kernel
theorem dX12_readIt_114 : decode cX12_readIt 114 = .ok (.iload 5, 2) := by decide +kernel
theorem dX12_readIt_116 : decode cX12_readIt 116 = .ok (.iconst 0, 1) := by decide +kernel
theorem dX12_readIt_117 : decode cX12_readIt 117 = .ok (.bastore, 1) := by decide +kernel
theorem dX12_readIt_118 : decode cX12_readIt 118 = .ok (.iinc 5 1, 3) := by decide +kernel
theorem dX12_readIt_121 : decode cX12_readIt 121 = .ok (.goto (-32), 3) := by decide +kernel
theorem dX12_readIt_124 : decode cX12_readIt 124 = .ok (.aload_n 0, 1) := by decide +kernel
theorem dX12_readIt_125 : decode cX12_readIt 125 = .ok (.iload_n 3, 1) := by decide +kernel
theorem dX12_readIt_126 : decode cX12_readIt 126 = .ok (.putfield 247, 3) := by decide +kernel
theorem dX12_readIt_129 : decode cX12_readIt 129 = .ok (.iconst 1, 1) := by decide +kernel
theorem dX12_readIt_130 : decode cX12_readIt 130 = .ok (.istore 5, 2) := by decide +kernel
theorem dX12_readIt_132 : decode cX12_readIt 132 = .ok (.iload 5, 2) := by decide +kernel
theorem dX12_readIt_134 : decode cX12_readIt 134 = .ok (.aload_n 0, 1) := by decide +kernel
theorem dX12_readIt_135 : decode cX12_readIt 135 = .ok (.getfield 244, 3) := by decide +kernel
theorem dX12_readIt_138 : decode cX12_readIt 138 = .ok (.if_icmp .ge 86, 3) := by decide +kernel
theorem dX12_readIt_141 : decode cX12_readIt 141 = .ok (.aload_n 0, 1) := by decide +kernel
theorem dX12_readIt_142 : decode cX12_readIt 142 = .ok (.aload_n 0, 1) := by decide +kernel
theorem dX12_readIt_143 : decode cX12_readIt 143 = .ok (.aload_n 0, 1) := by decide +kernel
theorem dX12_readIt_144 : decode cX12_readIt 144 = .ok (.getfield 247, 3) := by decide +kernel
theorem dX12_readIt_147 : decode cX12_readIt 147 = .ok (.iload_n 1, 1) := by decide +kernel
theorem dX12_readIt_148 : decode cX12_readIt 148 = .ok (.iload_n 2, 1) := by decide +kernel
theorem dX12_readIt_149 : decode cX12_readIt 149 = .ok (.invokevirtual 238, 3) := by decide +kernel
theorem dX12_readIt_152 : decode cX12_readIt 152 = .ok (.putfield 247, 3) := by decide +kernel
theorem dX12_readIt_155 : decode cX12_readIt 155 = .ok (.aload_n 0, 1) := by decide +kernel
theorem dX12_readIt_156 : decode cX12_readIt 156 = .ok (.aload_n 0, 1) := by decide +kernel
theorem dX12_readIt_157 : decode cX12_readIt 157 = .ok (.getfield 247, 3) := by decide +kernel
theorem dX12_readIt_160 : decode cX12_readIt 160 = .ok (.invokevirtual 228, 3) := by decide +kernel
theorem dX12_readIt_163 : decode cX12_readIt 163 = .ok (.iconst 0, 1) := by decide +kernel
theorem dX12_readIt_164 : decode cX12_readIt 164 = .ok (.istore 6, 2) := by decide +kernel
theorem dX12_readIt_166 : decode cX12_readIt 166 = .ok (.iload 6, 2) := by decide +kernel
theorem dX12_readIt_168 : decode cX12_readIt 168 = .ok (.bipush 6, 2) := by decide +kernel
theorem dX12_readIt_170 : decode cX12_readIt 170 = .ok (.if_icmp .ge 48, 3) := by decide +kernel
theorem dX12_readIt_173 : decode cX12_readIt 173 = .ok (.aload_n 0, 1) := by decide +kernel
theorem dX12_readIt_174 : decode cX12_readIt 174 = .ok (.getfield 112, 3) := by decide +kernel
theorem dX12_readIt_177 : decode cX12_readIt 177 = .ok (.iload 6, 2) := by decide +kernel
theorem dX12_readIt_179 : decode cX12_readIt 179 = .ok (.aload_n 0, 1) := by decide +kernel
theorem dX12_readIt_180 : decode cX12_readIt 180 = .ok (.getfield 112, 3) := by decide +kernel
theorem dX12_readIt_183 : decode cX12_readIt 183 = .ok (.iload 6, 2) := by decide +kernel
theorem dX12_readIt_185 : decode cX12_readIt 185 = .ok (.baload, 1) := by decide +kernel
theorem dX12_readIt_186 : decode cX12_readIt 186 = .ok (.ifCond .ne 20, 3) := by decide +kernel
theorem dX12_readIt_189 : decode cX12_readIt 189 = .ok (.aload_n 0, 1) := by decide +kernel
theorem dX12_readIt_190 : decode cX12_readIt 190 = .ok (.getfield 90, 3) := by decide +kernel
theorem dX12_readIt_193 : decode cX12_readIt 193 = .ok (.iload 6, 2) := by decide +kernel
theorem dX12_readIt_195 : decode cX12_readIt 195 = .ok (.iaload, 1) := by decide +kernel
theorem dX12_readIt_196 : decode cX12_readIt 196 = .ok (.aload_n 0, 1) := by decide +kernel
theorem dX12_readIt_197 : decode cX12_readIt 197 = .ok (.getfield 106, 3) := by decide +kernel
theorem dX12_readIt_200 : decode cX12_readIt 200 = .ok (.iload 6, 2) := by decide +kernel
theorem dX12_readIt_202 : decode cX12_readIt 202 = .ok (.iaload, 1) := by decide +kernel
theorem dX12_readIt_203 : decode cX12_readIt 203 = .ok (.if_icmp .eq 7, 3) := by decide +kernel
theorem dX12_readIt_206 : decode cX12_readIt 206 = .ok (.iconst 1, 1) := by decide +kernel
theorem dX12_readIt_207 : decode cX12_readIt 207 = .ok (.goto 4, 3) := by decide +kernel
theorem dX12_readIt_210 : decode cX12_readIt 210 = .ok (.iconst 0, 1) := by decide +kernel
theorem dX12_readIt_211 : decode cX12_readIt 211 = .ok (.bastore, 1) := by decide +kernel
theorem dX12_readIt_212 : decode cX12_readIt 212 = .ok (.iinc 6 1, 3) := by decide +kernel
theorem dX12_readIt_215 : decode cX12_readIt 215 = .ok (.goto (-49), 3) := by decide +kernel
theorem dX12_readIt_218 : decode cX12_readIt 218 = .ok (.iinc 5 1, 3) := by decide +kernel
theorem dX12_readIt_221 : decode cX12_readIt 221 = .ok (.goto (-89), 3) := by decide +kernel
theorem dX12_readIt_224 : decode cX12_readIt 224 = .ok (.iconst 0, 1) := by decide +kernel
theorem dX12_readIt_225 : decode cX12_readIt 225 = .ok (.istore 5, 2) := by decide +kernel
theorem dX12_readIt_227 : decode cX12_readIt 227 = .ok (.iload 5, 2) := by decide +kernel
theorem dX12_readIt_229 : decode cX12_readIt 229 = .ok (.bipush 6, 2) := by decide +kernel
theorem dX12_readIt_231 : decode cX12_readIt 231 = .ok (.if_icmp .ge 37, 3) := by decide +kernel
theorem dX12_readIt_234 : decode cX12_readIt 234 = .ok (.aload_n 0, 1) := by decide +kernel
theorem dX12_readIt_235 : decode cX12_readIt 235 = .ok (.getfield 106, 3) := by decide +kernel
theorem dX12_readIt_238 : decode cX12_readIt 238 = .ok (.iload 5, 2) := by decide +kernel
theorem dX12_readIt_240 : decode cX12_readIt 240 = .ok (.aload_n 0, 1) := by decide +kernel
theorem dX12_readIt_241 : decode cX12_readIt 241 = .ok (.getfield 112, 3) := by decide +kernel
theorem dX12_readIt_244 : decode cX12_readIt 244 = .ok (.iload 5, 2) := by decide +kernel
theorem dX12_readIt_246 : decode cX12_readIt 246 = .ok (.baload, 1) := by decide +kernel
theorem dX12_readIt_247 : decode cX12_readIt 247 = .ok (.ifCond .eq 7, 3) := by decide +kernel
theorem dX12_readIt_250 : decode cX12_readIt 250 = .ok (.iconst 0, 1) := by decide +kernel
theorem dX12_readIt_251 : decode cX12_readIt 251 = .ok (.goto 10, 3) := by decide +kernel
theorem dX12_readIt_254 : decode cX12_readIt 254 = .ok (.aload_n 0, 1) := by decide +kernel
theorem dX12_readIt_255 : decode cX12_readIt 255 = .ok (.getfield 106, 3) := by decide +kernel
theorem dX12_readIt_258 : decode cX12_readIt 258 = .ok (.iload 5, 2) := by decide +kernel
theorem dX12_readIt_260 : decode cX12_readIt 260 = .ok (.iaload, 1) := by decide +kernel
theorem dX12_readIt_261 : decode cX12_readIt 261 = .ok (.iastore, 1) := by decide +kernel
theorem dX12_readIt_262 : decode cX12_readIt 262 = .ok (.iinc 5 1, 3) := by decide +kernel
theorem dX12_readIt_265 : decode cX12_readIt 265 = .ok (.goto (-38), 3) := by decide +kernel
theorem dX12_readIt_268 : decode cX12_readIt 268 = .ok (.return_, 1) := by decide +kernel
theorem dX12_answerNumber_0 : decode cX12_answerNumber 0 = .ok (.iconst 0, 1) := by decide +kernel
theorem dX12_answerNumber_1 : decode cX12_answerNumber 1 = .ok (.istore_n 1, 1) := by decide +kernel
theorem dX12_answerNumber_2 : decode cX12_answerNumber 2 = .ok (.iconst 0, 1) := by decide +kernel
theorem dX12_answerNumber_3 : decode cX12_answerNumber 3 = .ok (.istore_n 2, 1) := by decide +kernel
theorem dX12_answerNumber_4 : decode cX12_answerNumber 4 = .ok (.iload_n 2, 1) := by decide +kernel
theorem dX12_answerNumber_5 : decode cX12_answerNumber 5 = .ok (.bipush 6, 2) := by decide +kernel
theorem dX12_answerNumber_7 : decode cX12_answerNumber 7 = .ok (.if_icmp .ge 21, 3) := by decide +kernel
theorem dX12_answerNumber_10 : decode cX12_answerNumber 10 = .ok (.bipush 6, 2) := by decide +kernel
theorem dX12_answerNumber_12 : decode cX12_answerNumber 12 = .ok (.iload_n 1, 1) := by decide +kernel
theorem dX12_answerNumber_13 : decode cX12_answerNumber 13 = .ok (.imul, 1) := by decide +kernel
theorem dX12_answerNumber_14 : decode cX12_answerNumber 14 = .ok (.aload_n 0, 1) := by decide +kernel
theorem dX12_answerNumber_15 : decode cX12_answerNumber 15 = .ok (.getfield 106, 3) := by decide +kernel
theorem dX12_answerNumber_18 : decode cX12_answerNumber 18 = .ok (.iload_n 2, 1) := by decide +kernel
theorem dX12_answerNumber_19 : decode cX12_answerNumber 19 = .ok (.iaload, 1) := by decide +kernel
theorem dX12_answerNumber_20 : decode cX12_answerNumber 20 = .ok (.iadd, 1) := by decide +kernel
theorem dX12_answerNumber_21 : decode cX12_answerNumber 21 = .ok (.istore_n 1, 1) := by decide +kernel
theorem dX12_answerNumber_22 : decode cX12_answerNumber 22 = .ok (.iinc 2 1, 3) := by decide +kernel
theorem dX12_answerNumber_25 : decode cX12_answerNumber 25 = .ok (.goto (-21), 3) := by decide +kernel
theorem dX12_answerNumber_28 : decode cX12_answerNumber 28 = .ok (.iload_n 1, 1) := by decide +kernel
theorem dX12_answerNumber_29 : decode cX12_answerNumber 29 = .ok (.ireturn, 1) := by decide +kernel
theorem dX12_noReading_0 : decode cX12_noReading 0 = .ok (.aload_n 0, 1) := by decide +kernel
theorem dX12_noReading_1 : decode cX12_noReading 1 = .ok (.iload_n 1, 1) := by decide +kernel
theorem dX12_noReading_2 : decode cX12_noReading 2 = .ok (.invokevirtual 210, 3) := by decide +kernel
theorem dX12_noReading_5 : decode cX12_noReading 5 = .ok (.ifCond .ne 10, 3) := by decide +kernel
theorem dX12_noReading_8 : decode cX12_noReading 8 = .ok (.iload_n 2, 1) := by decide +kernel
theorem dX12_noReading_9 : decode cX12_noReading 9 = .ok (.invokestatic 204, 3) := by decide +kernel
theorem dX12_noReading_12 : decode cX12_noReading 12 = .ok (.ifCond .eq 7, 3) := by decide +kernel
theorem dX12_noReading_15 : decode cX12_noReading 15 = .ok (.iconst 1, 1) := by decide +kernel
theorem dX12_noReading_16 : decode cX12_noReading 16 = .ok (.goto 4, 3) := by decide +kernel
theorem dX12_noReading_19 : decode cX12_noReading 19 = .ok (.iconst 0, 1) := by decide +kernel
theorem dX12_noReading_20 : decode cX12_noReading 20 = .ok (.ireturn, 1) := by decide +kernel
theorem dX12_next_0 : decode cX12_next 0 = .ok (.aload_n 0, 1) := by decide +kernel
theorem dX12_next_1 : decode cX12_next 1 = .ok (.iconst 0, 1) := by decide +kernel
theorem dX12_next_2 : decode cX12_next 2 = .ok (.putfield 115, 3) := by decide +kernel
theorem dX12_next_5 : decode cX12_next 5 = .ok (.aload_n 0, 1) := by decide +kernel
theorem dX12_next_6 : decode cX12_next 6 = .ok (.iload_n 1, 1) := by decide +kernel
theorem dX12_next_7 : decode cX12_next 7 = .ok (.iload_n 2, 1) := by decide +kernel
theorem dX12_next_8 : decode cX12_next 8 = .ok (.invokevirtual 250, 3) := by decide +kernel
theorem dX12_next_11 : decode cX12_next 11 = .ok (.ifCond .eq 5, 3) := by decide +kernel
theorem dX12_next_14 : decode cX12_next 14 = .ok (.iconst (-1), 1) := by decide +kernel
theorem dX12_next_15 : decode cX12_next 15 = .ok (.ireturn, 1) := by decide +kernel
theorem dX12_next_16 : decode cX12_next 16 = .ok (.iload_n 3, 1) := by decide +kernel
theorem dX12_next_17 : decode cX12_next 17 = .ok (.i2l, 1) := by decide +kernel
theorem dX12_next_18 : decode cX12_next 18 = .ok (.lconst 0, 1) := by decide +kernel
theorem dX12_next_19 : decode cX12_next 19 = .ok (.ldc2_w 253, 3) := by decide +kernel
theorem dX12_next_22 : decode cX12_next 22 = .ok (.invokestatic 120, 3) := by decide +kernel
theorem dX12_next_25 : decode cX12_next 25 = .ok (.ifCond .eq 13, 3) := by decide +kernel
theorem dX12_next_28 : decode cX12_next 28 = .ok (.aload_n 0, 1) := by decide +kernel
theorem dX12_next_29 : decode cX12_next 29 = .ok (.iload_n 3, 1) := by decide +kernel
theorem dX12_next_30 : decode cX12_next 30 = .ok (.iload_n 1, 1) := by decide +kernel
theorem dX12_next_31 : decode cX12_next 31 = .ok (.iload_n 2, 1) := by decide +kernel
theorem dX12_next_32 : decode cX12_next 32 = .ok (.invokevirtual 238, 3) := by decide +kernel
theorem dX12_next_35 : decode cX12_next 35 = .ok (.goto 5, 3) := by decide +kernel
theorem dX12_next_38 : decode cX12_next 38 = .ok (.bipush (-2), 2) := by decide +kernel
theorem dX12_next_40 : decode cX12_next 40 = .ok (.ireturn, 1) := by decide +kernel
theorem dX12_rounds_0 : decode cX12_rounds 0 = .ok (.aload_n 0, 1) := by decide +kernel
theorem dX12_rounds_1 : decode cX12_rounds 1 = .ok (.iconst 0, 1) := by decide +kernel
theorem dX12_rounds_2 : decode cX12_rounds 2 = .ok (.putfield 115, 3) := by decide +kernel
theorem dX12_rounds_5 : decode cX12_rounds 5 = .ok (.aload_n 0, 1) := by decide +kernel
theorem dX12_rounds_6 : decode cX12_rounds 6 = .ok (.iload_n 1, 1) := by decide +kernel
theorem dX12_rounds_7 : decode cX12_rounds 7 = .ok (.iload_n 2, 1) := by decide +kernel
theorem dX12_rounds_8 : decode cX12_rounds 8 = .ok (.invokevirtual 250, 3) := by decide +kernel
theorem dX12_rounds_11 : decode cX12_rounds 11 = .ok (.ifCond .eq 5, 3) := by decide +kernel
theorem dX12_rounds_14 : decode cX12_rounds 14 = .ok (.iconst (-1), 1) := by decide +kernel
theorem dX12_rounds_15 : decode cX12_rounds 15 = .ok (.ireturn, 1) := by decide +kernel
theorem dX12_rounds_16 : decode cX12_rounds 16 = .ok (.aload_n 0, 1) := by decide +kernel
theorem dX12_rounds_17 : decode cX12_rounds 17 = .ok (.iload_n 1, 1) := by decide +kernel
theorem dX12_rounds_18 : decode cX12_rounds 18 = .ok (.iload_n 2, 1) := by decide +kernel
theorem dX12_rounds_19 : decode cX12_rounds 19 = .ok (.invokevirtual 255, 3) := by decide +kernel
theorem dX12_rounds_22 : decode cX12_rounds 22 = .ok (.iload_n 3, 1) := by decide +kernel
theorem dX12_rounds_23 : decode cX12_rounds 23 = .ok (.ifCond .eq 10, 3) := by decide +kernel
theorem dX12_rounds_26 : decode cX12_rounds 26 = .ok (.aload_n 0, 1) := by decide +kernel
theorem dX12_rounds_27 : decode cX12_rounds 27 = .ok (.getfield 244, 3) := by decide +kernel
theorem dX12_rounds_30 : decode cX12_rounds 30 = .ok (.goto 7, 3) := by decide +kernel
theorem dX12_rounds_33 : decode cX12_rounds 33 = .ok (.aload_n 0, 1) := by decide +kernel
theorem dX12_rounds_34 : decode cX12_rounds 34 = .ok (.getfield 241, 3) := by decide +kernel
theorem dX12_rounds_37 : decode cX12_rounds 37 = .ok (.ireturn, 1) := by decide +kernel
theorem dX12_answer_0 : decode cX12_answer 0 = .ok (.aload_n 0, 1) := by decide +kernel
theorem dX12_answer_1 : decode cX12_answer 1 = .ok (.iconst 0, 1) := by decide +kernel
theorem dX12_answer_2 : decode cX12_answer 2 = .ok (.putfield 115, 3) := by decide +kernel
theorem dX12_answer_5 : decode cX12_answer 5 = .ok (.aload_n 0, 1) := by decide +kernel
theorem dX12_answer_6 : decode cX12_answer 6 = .ok (.iload_n 1, 1) := by decide +kernel
theorem dX12_answer_7 : decode cX12_answer 7 = .ok (.iload_n 2, 1) := by decide +kernel
theorem dX12_answer_8 : decode cX12_answer 8 = .ok (.invokevirtual 250, 3) := by decide +kernel
theorem dX12_answer_11 : decode cX12_answer 11 = .ok (.ifCond .eq 5, 3) := by decide +kernel
theorem dX12_answer_14 : decode cX12_answer 14 = .ok (.iconst (-1), 1) := by decide +kernel
theorem dX12_answer_15 : decode cX12_answer 15 = .ok (.ireturn, 1) := by decide +kernel
theorem dX12_answer_16 : decode cX12_answer 16 = .ok (.aload_n 0, 1) := by decide +kernel
theorem dX12_answer_17 : decode cX12_answer 17 = .ok (.iload_n 1, 1) := by decide +kernel
theorem dX12_answer_18 : decode cX12_answer 18 = .ok (.iload_n 2, 1) := by decide +kernel
theorem dX12_answer_19 : decode cX12_answer 19 = .ok (.invokevirtual 255, 3) := by decide +kernel
theorem dX12_answer_22 : decode cX12_answer 22 = .ok (.aload_n 0, 1) := by decide +kernel
theorem dX12_answer_23 : decode cX12_answer 23 = .ok (.invokevirtual 259, 3) := by decide +kernel
theorem dX12_answer_26 : decode cX12_answer 26 = .ok (.ireturn, 1) := by decide +kernel
theorem dX12_fills_0 : decode cX12_fills 0 = .ok (.aload_n 0, 1) := by decide +kernel
theorem dX12_fills_1 : decode cX12_fills 1 = .ok (.iconst 0, 1) := by decide +kernel
theorem dX12_fills_2 : decode cX12_fills 2 = .ok (.putfield 115, 3) := by decide +kernel
theorem dX12_fills_5 : decode cX12_fills 5 = .ok (.aload_n 0, 1) := by decide +kernel
theorem dX12_fills_6 : decode cX12_fills 6 = .ok (.iload_n 1, 1) := by decide +kernel
theorem dX12_fills_7 : decode cX12_fills 7 = .ok (.iload_n 2, 1) := by decide +kernel
theorem dX12_fills_8 : decode cX12_fills 8 = .ok (.invokevirtual 250, 3) := by decide +kernel
theorem dX12_fills_11 : decode cX12_fills 11 = .ok (.ifCond .ne 10, 3) := by decide +kernel
theorem dX12_fills_14 : decode cX12_fills 14 = .ok (.iload_n 3, 1) := by decide +kernel
theorem dX12_fills_15 : decode cX12_fills 15 = .ok (.invokestatic 133, 3) := by decide +kernel
theorem dX12_fills_18 : decode cX12_fills 18 = .ok (.ifCond .eq 5, 3) := by decide +kernel
theorem dX12_fills_21 : decode cX12_fills 21 = .ok (.iconst (-1), 1) := by decide +kernel
theorem dX12_fills_22 : decode cX12_fills 22 = .ok (.ireturn, 1) := by decide +kernel
theorem dX12_fills_23 : decode cX12_fills 23 = .ok (.aload_n 0, 1) := by decide +kernel
theorem dX12_fills_24 : decode cX12_fills 24 = .ok (.iload_n 1, 1) := by decide +kernel
theorem dX12_fills_25 : decode cX12_fills 25 = .ok (.iload_n 2, 1) := by decide +kernel
theorem dX12_fills_26 : decode cX12_fills 26 = .ok (.invokevirtual 255, 3) := by decide +kernel
theorem dX12_fills_29 : decode cX12_fills 29 = .ok (.aload_n 0, 1) := by decide +kernel
theorem dX12_fills_30 : decode cX12_fills 30 = .ok (.getfield 106, 3) := by decide +kernel
theorem dX12_fills_33 : decode cX12_fills 33 = .ok (.iload_n 3, 1) := by decide +kernel
theorem dX12_fills_34 : decode cX12_fills 34 = .ok (.iaload, 1) := by decide +kernel
theorem dX12_fills_35 : decode cX12_fills 35 = .ok (.ireturn, 1) := by decide +kernel
theorem dX12_reason_0 : decode cX12_reason 0 = .ok (.aload_n 0, 1) := by decide +kernel
theorem dX12_reason_1 : decode cX12_reason 1 = .ok (.iconst 0, 1) := by decide +kernel
theorem dX12_reason_2 : decode cX12_reason 2 = .ok (.putfield 115, 3) := by decide +kernel
theorem dX12_reason_5 : decode cX12_reason 5 = .ok (.aload_n 0, 1) := by decide +kernel
theorem dX12_reason_6 : decode cX12_reason 6 = .ok (.iload_n 1, 1) := by decide +kernel
theorem dX12_reason_7 : decode cX12_reason 7 = .ok (.iload_n 2, 1) := by decide +kernel
theorem dX12_reason_8 : decode cX12_reason 8 = .ok (.invokevirtual 250, 3) := by decide +kernel
theorem dX12_reason_11 : decode cX12_reason 11 = .ok (.ifCond .ne 10, 3) := by decide +kernel
theorem dX12_reason_14 : decode cX12_reason 14 = .ok (.iload_n 3, 1) := by decide +kernel
theorem dX12_reason_15 : decode cX12_reason 15 = .ok (.invokestatic 133, 3) := by decide +kernel
theorem dX12_reason_18 : decode cX12_reason 18 = .ok (.ifCond .eq 5, 3) := by decide +kernel
theorem dX12_reason_21 : decode cX12_reason 21 = .ok (.iconst (-1), 1) := by decide +kernel
theorem dX12_reason_22 : decode cX12_reason 22 = .ok (.ireturn, 1) := by decide +kernel
theorem dX12_reason_23 : decode cX12_reason 23 = .ok (.aload_n 0, 1) := by decide +kernel
theorem dX12_reason_24 : decode cX12_reason 24 = .ok (.iload_n 1, 1) := by decide +kernel
theorem dX12_reason_25 : decode cX12_reason 25 = .ok (.iload_n 2, 1) := by decide +kernel
theorem dX12_reason_26 : decode cX12_reason 26 = .ok (.invokevirtual 255, 3) := by decide +kernel
theorem dX12_reason_29 : decode cX12_reason 29 = .ok (.aload_n 0, 1) := by decide +kernel
theorem dX12_reason_30 : decode cX12_reason 30 = .ok (.aload_n 0, 1) := by decide +kernel
theorem dX12_reason_31 : decode cX12_reason 31 = .ok (.getfield 247, 3) := by decide +kernel
theorem dX12_reason_34 : decode cX12_reason 34 = .ok (.iload_n 1, 1) := by decide +kernel
theorem dX12_reason_35 : decode cX12_reason 35 = .ok (.iload_n 2, 1) := by decide +kernel
theorem dX12_reason_36 : decode cX12_reason 36 = .ok (.invokevirtual 238, 3) := by decide +kernel
theorem dX12_reason_39 : decode cX12_reason 39 = .ok (.pop, 1) := by decide +kernel
theorem dX12_reason_40 : decode cX12_reason 40 = .ok (.aload_n 0, 1) := by decide +kernel
theorem dX12_reason_41 : decode cX12_reason 41 = .ok (.getfield 112, 3) := by decide +kernel
theorem dX12_reason_44 : decode cX12_reason 44 = .ok (.iload_n 3, 1) := by decide +kernel
theorem dX12_reason_45 : decode cX12_reason 45 = .ok (.baload, 1) := by decide +kernel
theorem dX12_reason_46 : decode cX12_reason 46 = .ok (.ifCond .eq 7, 3) := by decide +kernel
theorem dX12_reason_49 : decode cX12_reason 49 = .ok (.iconst 4, 1) := by decide +kernel
theorem dX12_reason_50 : decode cX12_reason 50 = .ok (.goto 9, 3) := by decide +kernel
theorem dX12_reason_53 : decode cX12_reason 53 = .ok (.aload_n 0, 1) := by decide +kernel
theorem dX12_reason_54 : decode cX12_reason 54 = .ok (.getfield 96, 3) := by decide +kernel
theorem dX12_reason_57 : decode cX12_reason 57 = .ok (.iload_n 3, 1) := by decide +kernel
theorem dX12_reason_58 : decode cX12_reason 58 = .ok (.iaload, 1) := by decide +kernel
theorem dX12_reason_59 : decode cX12_reason 59 = .ok (.ireturn, 1) := by decide +kernel
theorem dX12_opens_0 : decode cX12_opens 0 = .ok (.aload_n 0, 1) := by decide +kernel
theorem dX12_opens_1 : decode cX12_opens 1 = .ok (.aload_n 0, 1) := by decide +kernel
theorem dX12_opens_2 : decode cX12_opens 2 = .ok (.invokevirtual 259, 3) := by decide +kernel
theorem dX12_opens_5 : decode cX12_opens 5 = .ok (.invokevirtual 228, 3) := by decide +kernel
theorem dX12_opens_8 : decode cX12_opens 8 = .ok (.iconst 0, 1) := by decide +kernel
theorem dX12_opens_9 : decode cX12_opens 9 = .ok (.istore_n 2, 1) := by decide +kernel
theorem dX12_opens_10 : decode cX12_opens 10 = .ok (.iconst 0, 1) := by decide +kernel
theorem dX12_opens_11 : decode cX12_opens 11 = .ok (.istore_n 3, 1) := by decide +kernel
theorem dX12_opens_12 : decode cX12_opens 12 = .ok (.iload_n 3, 1) := by decide +kernel
theorem dX12_opens_13 : decode cX12_opens 13 = .ok (.bipush 6, 2) := by decide +kernel
theorem dX12_opens_15 : decode cX12_opens 15 = .ok (.if_icmp .ge 61, 3) := by decide +kernel
theorem dX12_opens_18 : decode cX12_opens 18 = .ok (.iload_n 1, 1) := by decide +kernel
theorem dX12_opens_19 : decode cX12_opens 19 = .ok (.ifCond .eq 12, 3) := by decide +kernel
theorem dX12_opens_22 : decode cX12_opens 22 = .ok (.aload_n 0, 1) := by decide +kernel
theorem dX12_opens_23 : decode cX12_opens 23 = .ok (.getfield 112, 3) := by decide +kernel
theorem dX12_opens_26 : decode cX12_opens 26 = .ok (.iload_n 3, 1) := by decide +kernel
theorem dX12_opens_27 : decode cX12_opens 27 = .ok (.baload, 1) := by decide +kernel
theorem dX12_opens_28 : decode cX12_opens 28 = .ok (.goto 25, 3) := by decide +kernel
theorem dX12_opens_31 : decode cX12_opens 31 = .ok (.aload_n 0, 1) := by decide +kernel
theorem dX12_opens_32 : decode cX12_opens 32 = .ok (.iload_n 3, 1) := by decide +kernel
theorem dX12_opens_33 : decode cX12_opens 33 = .ok (.invokevirtual 222, 3) := by decide +kernel
theorem dX12_opens_36 : decode cX12_opens 36 = .ok (.ifCond .eq 16, 3) := by decide +kernel
theorem dX12_opens_39 : decode cX12_opens 39 = .ok (.aload_n 0, 1) := by decide +kernel
theorem dX12_opens_40 : decode cX12_opens 40 = .ok (.getfield 106, 3) := by decide +kernel
theorem dX12_opens_43 : decode cX12_opens 43 = .ok (.iload_n 3, 1) := by decide +kernel
theorem dX12_opens_44 : decode cX12_opens 44 = .ok (.iaload, 1) := by decide +kernel
theorem dX12_opens_45 : decode cX12_opens 45 = .ok (.ifCond .ne 7, 3) := by decide +kernel
theorem dX12_opens_48 : decode cX12_opens 48 = .ok (.iconst 1, 1) := by decide +kernel
theorem dX12_opens_49 : decode cX12_opens 49 = .ok (.goto 4, 3) := by decide +kernel
theorem dX12_opens_52 : decode cX12_opens 52 = .ok (.iconst 0, 1) := by decide +kernel
theorem dX12_opens_53 : decode cX12_opens 53 = .ok (.istore 4, 2) := by decide +kernel
theorem dX12_opens_55 : decode cX12_opens 55 = .ok (.iload_n 2, 1) := by decide +kernel
theorem dX12_opens_56 : decode cX12_opens 56 = .ok (.iload 4, 2) := by decide +kernel
theorem dX12_opens_58 : decode cX12_opens 58 = .ok (.ifCond .eq 9, 3) := by decide +kernel
theorem dX12_opens_61 : decode cX12_opens 61 = .ok (.iconst 1, 1) := by decide +kernel
theorem dX12_opens_62 : decode cX12_opens 62 = .ok (.iload_n 3, 1) := by decide +kernel
theorem dX12_opens_63 : decode cX12_opens 63 = .ok (.ishl, 1) := by decide +kernel
theorem dX12_opens_64 : decode cX12_opens 64 = .ok (.goto 4, 3) := by decide +kernel
theorem dX12_opens_67 : decode cX12_opens 67 = .ok (.iconst 0, 1) := by decide +kernel
theorem dX12_opens_68 : decode cX12_opens 68 = .ok (.ior, 1) := by decide +kernel
theorem dX12_opens_69 : decode cX12_opens 69 = .ok (.istore_n 2, 1) := by decide +kernel
theorem dX12_opens_70 : decode cX12_opens 70 = .ok (.iinc 3 1, 3) := by decide +kernel
theorem dX12_opens_73 : decode cX12_opens 73 = .ok (.goto (-61), 3) := by decide +kernel
theorem dX12_opens_76 : decode cX12_opens 76 = .ok (.iload_n 2, 1) := by decide +kernel
theorem dX12_opens_77 : decode cX12_opens 77 = .ok (.ireturn, 1) := by decide +kernel
theorem dX12_open_0 : decode cX12_open 0 = .ok (.aload_n 0, 1) := by decide +kernel
theorem dX12_open_1 : decode cX12_open 1 = .ok (.iconst 0, 1) := by decide +kernel
theorem dX12_open_2 : decode cX12_open 2 = .ok (.putfield 115, 3) := by decide +kernel
theorem dX12_open_5 : decode cX12_open 5 = .ok (.aload_n 0, 1) := by decide +kernel
theorem dX12_open_6 : decode cX12_open 6 = .ok (.iload_n 1, 1) := by decide +kernel
theorem dX12_open_7 : decode cX12_open 7 = .ok (.iload_n 2, 1) := by decide +kernel
theorem dX12_open_8 : decode cX12_open 8 = .ok (.invokevirtual 250, 3) := by decide +kernel
theorem dX12_open_11 : decode cX12_open 11 = .ok (.ifCond .eq 5, 3) := by decide +kernel
theorem dX12_open_14 : decode cX12_open 14 = .ok (.iconst (-1), 1) := by decide +kernel
theorem dX12_open_15 : decode cX12_open 15 = .ok (.ireturn, 1) := by decide +kernel
theorem dX12_open_16 : decode cX12_open 16 = .ok (.aload_n 0, 1) := by decide +kernel
theorem dX12_open_17 : decode cX12_open 17 = .ok (.iload_n 1, 1) := by decide +kernel
theorem dX12_open_18 : decode cX12_open 18 = .ok (.iload_n 2, 1) := by decide +kernel
theorem dX12_open_19 : decode cX12_open 19 = .ok (.invokevirtual 255, 3) := by decide +kernel
theorem dX12_open_22 : decode cX12_open 22 = .ok (.aload_n 0, 1) := by decide +kernel
theorem dX12_open_23 : decode cX12_open 23 = .ok (.iload_n 3, 1) := by decide +kernel
theorem dX12_open_24 : decode cX12_open 24 = .ok (.invokevirtual 262, 3) := by decide +kernel
theorem dX12_open_27 : decode cX12_open 27 = .ok (.ireturn, 1) := by decide +kernel
theorem dX12_holds_0 : decode cX12_holds 0 = .ok (.aload_n 0, 1) := by decide +kernel
theorem dX12_holds_1 : decode cX12_holds 1 = .ok (.iconst 0, 1) := by decide +kernel
theorem dX12_holds_2 : decode cX12_holds 2 = .ok (.putfield 115, 3) := by decide +kernel
theorem dX12_holds_5 : decode cX12_holds 5 = .ok (.aload_n 0, 1) := by decide +kernel
theorem dX12_holds_6 : decode cX12_holds 6 = .ok (.iload_n 1, 1) := by decide +kernel
theorem dX12_holds_7 : decode cX12_holds 7 = .ok (.iload_n 2, 1) := by decide +kernel
theorem dX12_holds_8 : decode cX12_holds 8 = .ok (.invokevirtual 250, 3) := by decide +kernel
theorem dX12_holds_11 : decode cX12_holds 11 = .ok (.ifCond .eq 5, 3) := by decide +kernel
theorem dX12_holds_14 : decode cX12_holds 14 = .ok (.iconst (-1), 1) := by decide +kernel
theorem dX12_holds_15 : decode cX12_holds 15 = .ok (.ireturn, 1) := by decide +kernel
theorem dX12_holds_16 : decode cX12_holds 16 = .ok (.aload_n 0, 1) := by decide +kernel
theorem dX12_holds_17 : decode cX12_holds 17 = .ok (.iload_n 1, 1) := by decide +kernel
theorem dX12_holds_18 : decode cX12_holds 18 = .ok (.iload_n 2, 1) := by decide +kernel
theorem dX12_holds_19 : decode cX12_holds 19 = .ok (.invokevirtual 255, 3) := by decide +kernel
theorem dX12_holds_22 : decode cX12_holds 22 = .ok (.aload_n 0, 1) := by decide +kernel
theorem dX12_holds_23 : decode cX12_holds 23 = .ok (.iconst 0, 1) := by decide +kernel
theorem dX12_holds_24 : decode cX12_holds 24 = .ok (.invokevirtual 262, 3) := by decide +kernel
theorem dX12_holds_27 : decode cX12_holds 27 = .ok (.aload_n 0, 1) := by decide +kernel
theorem dX12_holds_28 : decode cX12_holds 28 = .ok (.iconst 1, 1) := by decide +kernel
theorem dX12_holds_29 : decode cX12_holds 29 = .ok (.invokevirtual 262, 3) := by decide +kernel
theorem dX12_holds_32 : decode cX12_holds 32 = .ok (.ior, 1) := by decide +kernel
theorem dX12_holds_33 : decode cX12_holds 33 = .ok (.istore_n 3, 1) := by decide +kernel
theorem dX12_holds_34 : decode cX12_holds 34 = .ok (.iconst 1, 1) := by decide +kernel
theorem dX12_holds_35 : decode cX12_holds 35 = .ok (.istore 4, 2) := by decide +kernel
theorem dX12_holds_37 : decode cX12_holds 37 = .ok (.iconst 0, 1) := by decide +kernel
theorem dX12_holds_38 : decode cX12_holds 38 = .ok (.istore 5, 2) := by decide +kernel
theorem dX12_holds_40 : decode cX12_holds 40 = .ok (.iload 5, 2) := by decide +kernel
theorem dX12_holds_42 : decode cX12_holds 42 = .ok (.bipush 6, 2) := by decide +kernel
theorem dX12_holds_44 : decode cX12_holds 44 = .ok (.if_icmp .ge 41, 3) := by decide +kernel
theorem dX12_holds_47 : decode cX12_holds 47 = .ok (.iload 4, 2) := by decide +kernel
theorem dX12_holds_49 : decode cX12_holds 49 = .ok (.ifCond .eq 27, 3) := by decide +kernel
theorem dX12_holds_52 : decode cX12_holds 52 = .ok (.aload_n 0, 1) := by decide +kernel
theorem dX12_holds_53 : decode cX12_holds 53 = .ok (.getfield 13, 3) := by decide +kernel
theorem dX12_holds_56 : decode cX12_holds 56 = .ok (.iload 5, 2) := by decide +kernel
theorem dX12_holds_58 : decode cX12_holds 58 = .ok (.baload, 1) := by decide +kernel
theorem dX12_holds_59 : decode cX12_holds 59 = .ok (.ifCond .eq 13, 3) := by decide +kernel
theorem dX12_holds_62 : decode cX12_holds 62 = .ok (.iload_n 3, 1) := by decide +kernel
theorem dX12_holds_63 : decode cX12_holds 63 = .ok (.iload 5, 2) := by decide +kernel
theorem dX12_holds_65 : decode cX12_holds 65 = .ok (.ishr, 1) := by decide +kernel
theorem dX12_holds_66 : decode cX12_holds 66 = .ok (.iconst 1, 1) := by decide +kernel
theorem dX12_holds_67 : decode cX12_holds 67 = .ok (.iand, 1) := by decide +kernel
theorem dX12_holds_68 : decode cX12_holds 68 = .ok (.iconst 1, 1) := by decide +kernel
theorem dX12_holds_69 : decode cX12_holds 69 = .ok (.if_icmp .eq 7, 3) := by decide +kernel
theorem dX12_holds_72 : decode cX12_holds 72 = .ok (.iconst 1, 1) := by decide +kernel
theorem dX12_holds_73 : decode cX12_holds 73 = .ok (.goto 4, 3) := by decide +kernel
theorem dX12_holds_76 : decode cX12_holds 76 = .ok (.iconst 0, 1) := by decide +kernel
theorem dX12_holds_77 : decode cX12_holds 77 = .ok (.istore 4, 2) := by decide +kernel
theorem dX12_holds_79 : decode cX12_holds 79 = .ok (.iinc 5 1, 3) := by decide +kernel
theorem dX12_holds_82 : decode cX12_holds 82 = .ok (.goto (-42), 3) := by decide +kernel
theorem dX12_holds_85 : decode cX12_holds 85 = .ok (.iload 4, 2) := by decide +kernel
theorem dX12_holds_87 : decode cX12_holds 87 = .ok (.ifCond .eq 7, 3) := by decide +kernel
theorem dX12_holds_90 : decode cX12_holds 90 = .ok (.iconst 1, 1) := by decide +kernel
theorem dX12_holds_91 : decode cX12_holds 91 = .ok (.goto 4, 3) := by decide +kernel
theorem dX12_holds_94 : decode cX12_holds 94 = .ok (.iconst 0, 1) := by decide +kernel
theorem dX12_holds_95 : decode cX12_holds 95 = .ok (.ireturn, 1) := by decide +kernel
theorem dX12_judge_0 : decode cX12_judge 0 = .ok (.aload_n 0, 1) := by decide +kernel
theorem dX12_judge_1 : decode cX12_judge 1 = .ok (.iconst 0, 1) := by decide +kernel
theorem dX12_judge_2 : decode cX12_judge 2 = .ok (.putfield 115, 3) := by decide +kernel
theorem dX12_judge_5 : decode cX12_judge 5 = .ok (.aload_n 0, 1) := by decide +kernel
theorem dX12_judge_6 : decode cX12_judge 6 = .ok (.iload_n 1, 1) := by decide +kernel
theorem dX12_judge_7 : decode cX12_judge 7 = .ok (.iload_n 2, 1) := by decide +kernel
theorem dX12_judge_8 : decode cX12_judge 8 = .ok (.invokevirtual 250, 3) := by decide +kernel
theorem dX12_judge_11 : decode cX12_judge 11 = .ok (.ifCond .eq 5, 3) := by decide +kernel
theorem dX12_judge_14 : decode cX12_judge 14 = .ok (.iconst (-1), 1) := by decide +kernel
theorem dX12_judge_15 : decode cX12_judge 15 = .ok (.ireturn, 1) := by decide +kernel
theorem dX12_judge_16 : decode cX12_judge 16 = .ok (.iload_n 3, 1) := by decide +kernel
theorem dX12_judge_17 : decode cX12_judge 17 = .ok (.i2l, 1) := by decide +kernel
theorem dX12_judge_18 : decode cX12_judge 18 = .ok (.lconst 0, 1) := by decide +kernel
theorem dX12_judge_19 : decode cX12_judge 19 = .ok (.ldc2_w 253, 3) := by decide +kernel
theorem dX12_judge_22 : decode cX12_judge 22 = .ok (.invokestatic 120, 3) := by decide +kernel
theorem dX12_judge_25 : decode cX12_judge 25 = .ok (.ifCond .ne 6, 3) := by decide +kernel
theorem dX12_judge_28 : decode cX12_judge 28 = .ok (.bipush (-2), 2) := by decide +kernel
theorem dX12_judge_30 : decode cX12_judge 30 = .ok (.ireturn, 1) := by decide +kernel
theorem dX12_judge_31 : decode cX12_judge 31 = .ok (.aload_n 0, 1) := by decide +kernel
theorem dX12_judge_32 : decode cX12_judge 32 = .ok (.iload_n 1, 1) := by decide +kernel
theorem dX12_judge_33 : decode cX12_judge 33 = .ok (.iload_n 2, 1) := by decide +kernel
theorem dX12_judge_34 : decode cX12_judge 34 = .ok (.invokevirtual 255, 3) := by decide +kernel
theorem dX12_judge_37 : decode cX12_judge 37 = .ok (.aload_n 0, 1) := by decide +kernel
theorem dX12_judge_38 : decode cX12_judge 38 = .ok (.iload_n 3, 1) := by decide +kernel
theorem dX12_judge_39 : decode cX12_judge 39 = .ok (.invokevirtual 228, 3) := by decide +kernel
theorem dX12_judge_42 : decode cX12_judge 42 = .ok (.iconst 0, 1) := by decide +kernel
theorem dX12_judge_43 : decode cX12_judge 43 = .ok (.istore 4, 2) := by decide +kernel
theorem dX12_judge_45 : decode cX12_judge 45 = .ok (.iload 4, 2) := by decide +kernel
theorem dX12_judge_47 : decode cX12_judge 47 = .ok (.bipush 6, 2) := by decide +kernel
theorem dX12_judge_49 : decode cX12_judge 49 = .ok (.if_icmp .ge 29, 3) := by decide +kernel
theorem dX12_judge_52 : decode cX12_judge 52 = .ok (.aload_n 0, 1) := by decide +kernel
theorem dX12_judge_53 : decode cX12_judge 53 = .ok (.getfield 90, 3) := by decide +kernel
theorem dX12_judge_56 : decode cX12_judge 56 = .ok (.iload 4, 2) := by decide +kernel
theorem dX12_judge_58 : decode cX12_judge 58 = .ok (.iaload, 1) := by decide +kernel
theorem dX12_judge_59 : decode cX12_judge 59 = .ok (.aload_n 0, 1) := by decide +kernel
theorem dX12_judge_60 : decode cX12_judge 60 = .ok (.getfield 106, 3) := by decide +kernel
theorem dX12_judge_63 : decode cX12_judge 63 = .ok (.iload 4, 2) := by decide +kernel
theorem dX12_judge_65 : decode cX12_judge 65 = .ok (.iaload, 1) := by decide +kernel
theorem dX12_judge_66 : decode cX12_judge 66 = .ok (.if_icmp .eq 6, 3) := by decide +kernel
theorem dX12_judge_69 : decode cX12_judge 69 = .ok (.iload 4, 2) := by decide +kernel
theorem dX12_judge_71 : decode cX12_judge 71 = .ok (.ireturn, 1) := by decide +kernel
theorem dX12_judge_72 : decode cX12_judge 72 = .ok (.iinc 4 1, 3) := by decide +kernel
theorem dX12_judge_75 : decode cX12_judge 75 = .ok (.goto (-30), 3) := by decide +kernel
theorem dX12_judge_78 : decode cX12_judge 78 = .ok (.bipush (-9), 2) := by decide +kernel
theorem dX12_judge_80 : decode cX12_judge 80 = .ok (.ireturn, 1) := by decide +kernel
theorem dX12_put_0 : decode cX12_put 0 = .ok (.iconst 0, 1) := by decide +kernel
theorem dX12_put_1 : decode cX12_put 1 = .ok (.istore_n 1, 1) := by decide +kernel
theorem dX12_put_2 : decode cX12_put 2 = .ok (.iload_n 1, 1) := by decide +kernel
theorem dX12_put_3 : decode cX12_put 3 = .ok (.bipush 6, 2) := by decide +kernel
theorem dX12_put_5 : decode cX12_put 5 = .ok (.if_icmp .ge 21, 3) := by decide +kernel
theorem dX12_put_8 : decode cX12_put 8 = .ok (.aload_n 0, 1) := by decide +kernel
theorem dX12_put_9 : decode cX12_put 9 = .ok (.getfield 109, 3) := by decide +kernel
theorem dX12_put_12 : decode cX12_put 12 = .ok (.iload_n 1, 1) := by decide +kernel
theorem dX12_put_13 : decode cX12_put 13 = .ok (.aload_n 0, 1) := by decide +kernel
theorem dX12_put_14 : decode cX12_put 14 = .ok (.getfield 106, 3) := by decide +kernel
theorem dX12_put_17 : decode cX12_put 17 = .ok (.iload_n 1, 1) := by decide +kernel
theorem dX12_put_18 : decode cX12_put 18 = .ok (.iaload, 1) := by decide +kernel
theorem dX12_put_19 : decode cX12_put 19 = .ok (.iastore, 1) := by decide +kernel
theorem dX12_put_20 : decode cX12_put 20 = .ok (.iinc 1 1, 3) := by decide +kernel
theorem dX12_put_23 : decode cX12_put 23 = .ok (.goto (-21), 3) := by decide +kernel
theorem dX12_put_26 : decode cX12_put 26 = .ok (.return_, 1) := by decide +kernel
theorem dX12_unlike_0 : decode cX12_unlike 0 = .ok (.iconst 0, 1) := by decide +kernel
theorem dX12_unlike_1 : decode cX12_unlike 1 = .ok (.istore_n 1, 1) := by decide +kernel
theorem dX12_unlike_2 : decode cX12_unlike 2 = .ok (.iconst 0, 1) := by decide +kernel
theorem dX12_unlike_3 : decode cX12_unlike 3 = .ok (.istore_n 2, 1) := by decide +kernel
theorem dX12_unlike_4 : decode cX12_unlike 4 = .ok (.iload_n 2, 1) := by decide +kernel
theorem dX12_unlike_5 : decode cX12_unlike 5 = .ok (.bipush 6, 2) := by decide +kernel
theorem dX12_unlike_7 : decode cX12_unlike 7 = .ok (.if_icmp .ge 34, 3) := by decide +kernel
theorem dX12_unlike_10 : decode cX12_unlike 10 = .ok (.iload_n 1, 1) := by decide +kernel
theorem dX12_unlike_11 : decode cX12_unlike 11 = .ok (.aload_n 0, 1) := by decide +kernel
theorem dX12_unlike_12 : decode cX12_unlike 12 = .ok (.getfield 106, 3) := by decide +kernel
theorem dX12_unlike_15 : decode cX12_unlike 15 = .ok (.iload_n 2, 1) := by decide +kernel
theorem dX12_unlike_16 : decode cX12_unlike 16 = .ok (.iaload, 1) := by decide +kernel
theorem dX12_unlike_17 : decode cX12_unlike 17 = .ok (.aload_n 0, 1) := by decide +kernel
theorem dX12_unlike_18 : decode cX12_unlike 18 = .ok (.getfield 109, 3) := by decide +kernel
theorem dX12_unlike_21 : decode cX12_unlike 21 = .ok (.iload_n 2, 1) := by decide +kernel
theorem dX12_unlike_22 : decode cX12_unlike 22 = .ok (.iaload, 1) := by decide +kernel
theorem dX12_unlike_23 : decode cX12_unlike 23 = .ok (.if_icmp .ne 7, 3) := by decide +kernel
theorem dX12_unlike_26 : decode cX12_unlike 26 = .ok (.iconst 0, 1) := by decide +kernel
theorem dX12_unlike_27 : decode cX12_unlike 27 = .ok (.goto 6, 3) := by decide +kernel
theorem dX12_unlike_30 : decode cX12_unlike 30 = .ok (.iconst 1, 1) := by decide +kernel
theorem dX12_unlike_31 : decode cX12_unlike 31 = .ok (.iload_n 2, 1) := by decide +kernel
theorem dX12_unlike_32 : decode cX12_unlike 32 = .ok (.ishl, 1) := by decide +kernel
theorem dX12_unlike_33 : decode cX12_unlike 33 = .ok (.ior, 1) := by decide +kernel
theorem dX12_unlike_34 : decode cX12_unlike 34 = .ok (.istore_n 1, 1) := by decide +kernel
theorem dX12_unlike_35 : decode cX12_unlike 35 = .ok (.iinc 2 1, 3) := by decide +kernel
theorem dX12_unlike_38 : decode cX12_unlike 38 = .ok (.goto (-34), 3) := by decide +kernel
theorem dX12_unlike_41 : decode cX12_unlike 41 = .ok (.iload_n 1, 1) := by decide +kernel
theorem dX12_unlike_42 : decode cX12_unlike 42 = .ok (.ireturn, 1) := by decide +kernel
theorem dX12_bits_0 : decode cX12_bits 0 = .ok (.iconst 0, 1) := by decide +kernel
theorem dX12_bits_1 : decode cX12_bits 1 = .ok (.istore_n 1, 1) := by decide +kernel
theorem dX12_bits_2 : decode cX12_bits 2 = .ok (.iconst 0, 1) := by decide +kernel
theorem dX12_bits_3 : decode cX12_bits 3 = .ok (.istore_n 2, 1) := by decide +kernel
theorem dX12_bits_4 : decode cX12_bits 4 = .ok (.iload_n 2, 1) := by decide +kernel
theorem dX12_bits_5 : decode cX12_bits 5 = .ok (.bipush 6, 2) := by decide +kernel
theorem dX12_bits_7 : decode cX12_bits 7 = .ok (.if_icmp .ge 17, 3) := by decide +kernel
theorem dX12_bits_10 : decode cX12_bits 10 = .ok (.iload_n 1, 1) := by decide +kernel
theorem dX12_bits_11 : decode cX12_bits 11 = .ok (.iload_n 0, 1) := by decide +kernel
theorem dX12_bits_12 : decode cX12_bits 12 = .ok (.iload_n 2, 1) := by decide +kernel
theorem dX12_bits_13 : decode cX12_bits 13 = .ok (.ishr, 1) := by decide +kernel
theorem dX12_bits_14 : decode cX12_bits 14 = .ok (.iconst 1, 1) := by decide +kernel
theorem dX12_bits_15 : decode cX12_bits 15 = .ok (.iand, 1) := by decide +kernel
theorem dX12_bits_16 : decode cX12_bits 16 = .ok (.iadd, 1) := by decide +kernel
theorem dX12_bits_17 : decode cX12_bits 17 = .ok (.istore_n 1, 1) := by decide +kernel
theorem dX12_bits_18 : decode cX12_bits 18 = .ok (.iinc 2 1, 3) := by decide +kernel
theorem dX12_bits_21 : decode cX12_bits 21 = .ok (.goto (-17), 3) := by decide +kernel
theorem dX12_bits_24 : decode cX12_bits 24 = .ok (.iload_n 1, 1) := by decide +kernel
theorem dX12_bits_25 : decode cX12_bits 25 = .ok (.ireturn, 1) := by decide +kernel
theorem dX12_differ_0 : decode cX12_differ 0 = .ok (.aload_n 0, 1) := by decide +kernel
theorem dX12_differ_1 : decode cX12_differ 1 = .ok (.iconst 0, 1) := by decide +kernel
theorem dX12_differ_2 : decode cX12_differ 2 = .ok (.putfield 115, 3) := by decide +kernel
theorem dX12_differ_5 : decode cX12_differ 5 = .ok (.aload_n 0, 1) := by decide +kernel
theorem dX12_differ_6 : decode cX12_differ 6 = .ok (.iload_n 1, 1) := by decide +kernel
theorem dX12_differ_7 : decode cX12_differ 7 = .ok (.iload_n 2, 1) := by decide +kernel
theorem dX12_differ_8 : decode cX12_differ 8 = .ok (.invokevirtual 250, 3) := by decide +kernel
theorem dX12_differ_11 : decode cX12_differ 11 = .ok (.ifCond .ne 10, 3) := by decide +kernel
theorem dX12_differ_14 : decode cX12_differ 14 = .ok (.iload_n 3, 1) := by decide +kernel
theorem dX12_differ_15 : decode cX12_differ 15 = .ok (.invokestatic 204, 3) := by decide +kernel
theorem dX12_differ_18 : decode cX12_differ 18 = .ok (.ifCond .eq 5, 3) := by decide +kernel
theorem dX12_differ_21 : decode cX12_differ 21 = .ok (.iconst (-1), 1) := by decide +kernel
theorem dX12_differ_22 : decode cX12_differ 22 = .ok (.ireturn, 1) := by decide +kernel
theorem dX12_differ_23 : decode cX12_differ 23 = .ok (.aload_n 0, 1) := by decide +kernel
theorem dX12_differ_24 : decode cX12_differ 24 = .ok (.iload_n 1, 1) := by decide +kernel
theorem dX12_differ_25 : decode cX12_differ 25 = .ok (.iload_n 2, 1) := by decide +kernel
theorem dX12_differ_26 : decode cX12_differ 26 = .ok (.invokevirtual 255, 3) := by decide +kernel
theorem dX12_differ_29 : decode cX12_differ 29 = .ok (.aload_n 0, 1) := by decide +kernel
theorem dX12_differ_30 : decode cX12_differ 30 = .ok (.invokevirtual 266, 3) := by decide +kernel
theorem dX12_differ_33 : decode cX12_differ 33 = .ok (.aload_n 0, 1) := by decide +kernel
theorem dX12_differ_34 : decode cX12_differ 34 = .ok (.iload_n 1, 1) := by decide +kernel
theorem dX12_differ_35 : decode cX12_differ 35 = .ok (.iload_n 3, 1) := by decide +kernel
theorem dX12_differ_36 : decode cX12_differ 36 = .ok (.invokevirtual 255, 3) := by decide +kernel
theorem dX12_differ_39 : decode cX12_differ 39 = .ok (.aload_n 0, 1) := by decide +kernel
theorem dX12_differ_40 : decode cX12_differ 40 = .ok (.invokevirtual 269, 3) := by decide +kernel
theorem dX12_differ_43 : decode cX12_differ 43 = .ok (.ireturn, 1) := by decide +kernel
theorem dX12_findStep_0 : decode cX12_findStep 0 = .ok (.aload_n 0, 1) := by decide +kernel
theorem dX12_findStep_1 : decode cX12_findStep 1 = .ok (.iload_n 1, 1) := by decide +kernel
theorem dX12_findStep_2 : decode cX12_findStep 2 = .ok (.iload_n 2, 1) := by decide +kernel
theorem dX12_findStep_3 : decode cX12_findStep 3 = .ok (.invokevirtual 255, 3) := by decide +kernel
theorem dX12_findStep_6 : decode cX12_findStep 6 = .ok (.aload_n 0, 1) := by decide +kernel
theorem dX12_findStep_7 : decode cX12_findStep 7 = .ok (.invokevirtual 266, 3) := by decide +kernel
theorem dX12_findStep_10 : decode cX12_findStep 10 = .ok (.aload_n 0, 1) := by decide +kernel
theorem dX12_findStep_11 : decode cX12_findStep 11 = .ok (.getfield 51, 3) := by decide +kernel
theorem dX12_findStep_14 : decode cX12_findStep 14 = .ok (.iconst 4, 1) := by decide +kernel
theorem dX12_findStep_15 : decode cX12_findStep 15 = .ok (.aload_n 0, 1) := by decide +kernel
theorem dX12_findStep_16 : decode cX12_findStep 16 = .ok (.getfield 51, 3) := by decide +kernel
theorem dX12_findStep_19 : decode cX12_findStep 19 = .ok (.iload_n 2, 1) := by decide +kernel
theorem dX12_findStep_20 : decode cX12_findStep 20 = .ok (.iaload, 1) := by decide +kernel
theorem dX12_findStep_21 : decode cX12_findStep 21 = .ok (.iastore, 1) := by decide +kernel
theorem dX12_findStep_22 : decode cX12_findStep 22 = .ok (.bipush (-9), 2) := by decide +kernel
theorem dX12_findStep_24 : decode cX12_findStep 24 = .ok (.istore_n 3, 1) := by decide +kernel
theorem dX12_findStep_25 : decode cX12_findStep 25 = .ok (.iconst 0, 1) := by decide +kernel
theorem dX12_findStep_26 : decode cX12_findStep 26 = .ok (.istore 4, 2) := by decide +kernel
theorem dX12_findStep_28 : decode cX12_findStep 28 = .ok (.iconst 0, 1) := by decide +kernel
theorem dX12_findStep_29 : decode cX12_findStep 29 = .ok (.istore 5, 2) := by decide +kernel
theorem dX12_findStep_31 : decode cX12_findStep 31 = .ok (.iload 5, 2) := by decide +kernel
theorem dX12_findStep_33 : decode cX12_findStep 33 = .ok (.iconst 1, 1) := by decide +kernel
theorem dX12_findStep_34 : decode cX12_findStep 34 = .ok (.iadd, 1) := by decide +kernel
theorem dX12_findStep_35 : decode cX12_findStep 35 = .ok (.aload_n 0, 1) := by decide +kernel
theorem dX12_findStep_36 : decode cX12_findStep 36 = .ok (.getfield 51, 3) := by decide +kernel
theorem dX12_findStep_39 : decode cX12_findStep 39 = .ok (.iload_n 2, 1) := by decide +kernel
theorem dX12_findStep_40 : decode cX12_findStep 40 = .ok (.iaload, 1) := by decide +kernel
theorem dX12_findStep_41 : decode cX12_findStep 41 = .ok (.if_icmp .ge 117, 3) := by decide +kernel
theorem dX12_findStep_44 : decode cX12_findStep 44 = .ok (.iconst 0, 1) := by decide +kernel
theorem dX12_findStep_45 : decode cX12_findStep 45 = .ok (.istore 6, 2) := by decide +kernel
theorem dX12_findStep_47 : decode cX12_findStep 47 = .ok (.iload 6, 2) := by decide +kernel
theorem dX12_findStep_49 : decode cX12_findStep 49 = .ok (.aload_n 0, 1) := by decide +kernel
theorem dX12_findStep_50 : decode cX12_findStep 50 = .ok (.getfield 51, 3) := by decide +kernel
theorem dX12_findStep_53 : decode cX12_findStep 53 = .ok (.iload_n 2, 1) := by decide +kernel
theorem dX12_findStep_54 : decode cX12_findStep 54 = .ok (.iaload, 1) := by decide +kernel
theorem dX12_findStep_55 : decode cX12_findStep 55 = .ok (.if_icmp .ge 62, 3) := by decide +kernel
theorem dX12_findStep_58 : decode cX12_findStep 58 = .ok (.iload 6, 2) := by decide +kernel
theorem dX12_findStep_60 : decode cX12_findStep 60 = .ok (.iload 5, 2) := by decide +kernel
theorem dX12_findStep_62 : decode cX12_findStep 62 = .ok (.if_icmp .ne 10, 3) := by decide +kernel
theorem dX12_findStep_65 : decode cX12_findStep 65 = .ok (.iload 5, 2) := by decide +kernel
theorem dX12_findStep_67 : decode cX12_findStep 67 = .ok (.iconst 1, 1) := by decide +kernel
theorem dX12_findStep_68 : decode cX12_findStep 68 = .ok (.iadd, 1) := by decide +kernel
theorem dX12_findStep_69 : decode cX12_findStep 69 = .ok (.goto 19, 3) := by decide +kernel
theorem dX12_findStep_72 : decode cX12_findStep 72 = .ok (.iload 6, 2) := by decide +kernel
theorem dX12_findStep_74 : decode cX12_findStep 74 = .ok (.iload 5, 2) := by decide +kernel
theorem dX12_findStep_76 : decode cX12_findStep 76 = .ok (.iconst 1, 1) := by decide +kernel
theorem dX12_findStep_77 : decode cX12_findStep 77 = .ok (.iadd, 1) := by decide +kernel
theorem dX12_findStep_78 : decode cX12_findStep 78 = .ok (.if_icmp .ne 8, 3) := by decide +kernel
theorem dX12_findStep_81 : decode cX12_findStep 81 = .ok (.iload 5, 2) := by decide +kernel
theorem dX12_findStep_83 : decode cX12_findStep 83 = .ok (.goto 5, 3) := by decide +kernel
theorem dX12_findStep_86 : decode cX12_findStep 86 = .ok (.iload 6, 2) := by decide +kernel
theorem dX12_findStep_88 : decode cX12_findStep 88 = .ok (.istore 7, 2) := by decide +kernel
theorem dX12_findStep_90 : decode cX12_findStep 90 = .ok (.aload_n 0, 1) := by decide +kernel
theorem dX12_findStep_91 : decode cX12_findStep 91 = .ok (.getfield 48, 3) := by decide +kernel
theorem dX12_findStep_94 : decode cX12_findStep 94 = .ok (.bipush 20, 2) := by decide +kernel
theorem dX12_findStep_96 : decode cX12_findStep 96 = .ok (.iload 6, 2) := by decide +kernel
theorem dX12_findStep_98 : decode cX12_findStep 98 = .ok (.iadd, 1) := by decide +kernel
theorem dX12_findStep_99 : decode cX12_findStep 99 = .ok (.aload_n 0, 1) := by decide +kernel
theorem dX12_findStep_100 : decode cX12_findStep 100 = .ok (.getfield 48, 3) := by decide +kernel
theorem dX12_findStep_103 : decode cX12_findStep 103 = .ok (.iconst 5, 1) := by decide +kernel
theorem dX12_findStep_104 : decode cX12_findStep 104 = .ok (.iload_n 2, 1) := by decide +kernel
theorem dX12_findStep_105 : decode cX12_findStep 105 = .ok (.imul, 1) := by decide +kernel
theorem dX12_findStep_106 : decode cX12_findStep 106 = .ok (.iload 7, 2) := by decide +kernel
theorem dX12_findStep_108 : decode cX12_findStep 108 = .ok (.iadd, 1) := by decide +kernel
theorem dX12_findStep_109 : decode cX12_findStep 109 = .ok (.iaload, 1) := by decide +kernel
theorem dX12_findStep_110 : decode cX12_findStep 110 = .ok (.iastore, 1) := by decide +kernel
theorem dX12_findStep_111 : decode cX12_findStep 111 = .ok (.iinc 6 1, 3) := by decide +kernel
theorem dX12_findStep_114 : decode cX12_findStep 114 = .ok (.goto (-67), 3) := by decide +kernel
theorem dX12_findStep_117 : decode cX12_findStep 117 = .ok (.aload_n 0, 1) := by decide +kernel
theorem dX12_findStep_118 : decode cX12_findStep 118 = .ok (.iload_n 1, 1) := by decide +kernel
theorem dX12_findStep_119 : decode cX12_findStep 119 = .ok (.iconst 4, 1) := by decide +kernel
theorem dX12_findStep_120 : decode cX12_findStep 120 = .ok (.invokevirtual 255, 3) := by decide +kernel
theorem dX12_findStep_123 : decode cX12_findStep 123 = .ok (.aload_n 0, 1) := by decide +kernel
theorem dX12_findStep_124 : decode cX12_findStep 124 = .ok (.invokevirtual 269, 3) := by decide +kernel
theorem dX12_findStep_127 : decode cX12_findStep 127 = .ok (.invokestatic 272, 3) := by decide +kernel
theorem dX12_findStep_130 : decode cX12_findStep 130 = .ok (.istore 6, 2) := by decide +kernel
theorem dX12_findStep_132 : decode cX12_findStep 132 = .ok (.iload 6, 2) := by decide +kernel
theorem dX12_findStep_134 : decode cX12_findStep 134 = .ok (.iload 4, 2) := by decide +kernel
theorem dX12_findStep_136 : decode cX12_findStep 136 = .ok (.if_icmp .le 16, 3) := by decide +kernel
theorem dX12_findStep_139 : decode cX12_findStep 139 = .ok (.iload 6, 2) := by decide +kernel
theorem dX12_findStep_141 : decode cX12_findStep 141 = .ok (.istore 4, 2) := by decide +kernel
theorem dX12_findStep_143 : decode cX12_findStep 143 = .ok (.bipush 10, 2) := by decide +kernel
theorem dX12_findStep_145 : decode cX12_findStep 145 = .ok (.iload 5, 2) := by decide +kernel
theorem dX12_findStep_147 : decode cX12_findStep 147 = .ok (.imul, 1) := by decide +kernel
theorem dX12_findStep_148 : decode cX12_findStep 148 = .ok (.iload 6, 2) := by decide +kernel
theorem dX12_findStep_150 : decode cX12_findStep 150 = .ok (.iadd, 1) := by decide +kernel
theorem dX12_findStep_151 : decode cX12_findStep 151 = .ok (.istore_n 3, 1) := by decide +kernel
theorem dX12_findStep_152 : decode cX12_findStep 152 = .ok (.iinc 5 1, 3) := by decide +kernel
theorem dX12_findStep_155 : decode cX12_findStep 155 = .ok (.goto (-124), 3) := by decide +kernel
theorem dX12_findStep_158 : decode cX12_findStep 158 = .ok (.iload_n 3, 1) := by decide +kernel
theorem dX12_findStep_159 : decode cX12_findStep 159 = .ok (.ireturn, 1) := by decide +kernel
theorem dX12_step_0 : decode cX12_step 0 = .ok (.aload_n 0, 1) := by decide +kernel
theorem dX12_step_1 : decode cX12_step 1 = .ok (.iconst 0, 1) := by decide +kernel
theorem dX12_step_2 : decode cX12_step 2 = .ok (.putfield 115, 3) := by decide +kernel
theorem dX12_step_5 : decode cX12_step 5 = .ok (.aload_n 0, 1) := by decide +kernel
theorem dX12_step_6 : decode cX12_step 6 = .ok (.iload_n 1, 1) := by decide +kernel
theorem dX12_step_7 : decode cX12_step 7 = .ok (.iload_n 2, 1) := by decide +kernel
theorem dX12_step_8 : decode cX12_step 8 = .ok (.invokevirtual 250, 3) := by decide +kernel
theorem dX12_step_11 : decode cX12_step 11 = .ok (.ifCond .eq 5, 3) := by decide +kernel
theorem dX12_step_14 : decode cX12_step 14 = .ok (.iconst (-1), 1) := by decide +kernel
theorem dX12_step_15 : decode cX12_step 15 = .ok (.ireturn, 1) := by decide +kernel
theorem dX12_step_16 : decode cX12_step 16 = .ok (.aload_n 0, 1) := by decide +kernel
theorem dX12_step_17 : decode cX12_step 17 = .ok (.iload_n 1, 1) := by decide +kernel
theorem dX12_step_18 : decode cX12_step 18 = .ok (.iload_n 2, 1) := by decide +kernel
theorem dX12_step_19 : decode cX12_step 19 = .ok (.invokevirtual 275, 3) := by decide +kernel
theorem dX12_step_22 : decode cX12_step 22 = .ok (.istore_n 3, 1) := by decide +kernel
theorem dX12_step_23 : decode cX12_step 23 = .ok (.iload_n 3, 1) := by decide +kernel
theorem dX12_step_24 : decode cX12_step 24 = .ok (.bipush (-9), 2) := by decide +kernel
theorem dX12_step_26 : decode cX12_step 26 = .ok (.if_icmp .ne 8, 3) := by decide +kernel
theorem dX12_step_29 : decode cX12_step 29 = .ok (.bipush (-9), 2) := by decide +kernel
theorem dX12_step_31 : decode cX12_step 31 = .ok (.goto 7, 3) := by decide +kernel
theorem dX12_step_34 : decode cX12_step 34 = .ok (.iload_n 3, 1) := by decide +kernel
theorem dX12_step_35 : decode cX12_step 35 = .ok (.bipush 10, 2) := by decide +kernel
theorem dX12_step_37 : decode cX12_step 37 = .ok (.idiv, 1) := by decide +kernel
theorem dX12_step_38 : decode cX12_step 38 = .ok (.ireturn, 1) := by decide +kernel
theorem dX12_moves_0 : decode cX12_moves 0 = .ok (.aload_n 0, 1) := by decide +kernel
theorem dX12_moves_1 : decode cX12_moves 1 = .ok (.iconst 0, 1) := by decide +kernel
theorem dX12_moves_2 : decode cX12_moves 2 = .ok (.putfield 115, 3) := by decide +kernel
theorem dX12_moves_5 : decode cX12_moves 5 = .ok (.aload_n 0, 1) := by decide +kernel
theorem dX12_moves_6 : decode cX12_moves 6 = .ok (.iload_n 1, 1) := by decide +kernel
theorem dX12_moves_7 : decode cX12_moves 7 = .ok (.iload_n 2, 1) := by decide +kernel
theorem dX12_moves_8 : decode cX12_moves 8 = .ok (.invokevirtual 250, 3) := by decide +kernel
theorem dX12_moves_11 : decode cX12_moves 11 = .ok (.ifCond .eq 5, 3) := by decide +kernel
theorem dX12_moves_14 : decode cX12_moves 14 = .ok (.iconst (-1), 1) := by decide +kernel
theorem dX12_moves_15 : decode cX12_moves 15 = .ok (.ireturn, 1) := by decide +kernel
theorem dX12_moves_16 : decode cX12_moves 16 = .ok (.aload_n 0, 1) := by decide +kernel
theorem dX12_moves_17 : decode cX12_moves 17 = .ok (.iload_n 1, 1) := by decide +kernel
theorem dX12_moves_18 : decode cX12_moves 18 = .ok (.iload_n 2, 1) := by decide +kernel
theorem dX12_moves_19 : decode cX12_moves 19 = .ok (.invokevirtual 275, 3) := by decide +kernel
theorem dX12_moves_22 : decode cX12_moves 22 = .ok (.istore_n 3, 1) := by decide +kernel
theorem dX12_moves_23 : decode cX12_moves 23 = .ok (.iload_n 3, 1) := by decide +kernel
theorem dX12_moves_24 : decode cX12_moves 24 = .ok (.bipush (-9), 2) := by decide +kernel
theorem dX12_moves_26 : decode cX12_moves 26 = .ok (.if_icmp .ne 7, 3) := by decide +kernel
theorem dX12_moves_29 : decode cX12_moves 29 = .ok (.iconst 0, 1) := by decide +kernel
theorem dX12_moves_30 : decode cX12_moves 30 = .ok (.goto 7, 3) := by decide +kernel
theorem dX12_moves_33 : decode cX12_moves 33 = .ok (.iload_n 3, 1) := by decide +kernel
theorem dX12_moves_34 : decode cX12_moves 34 = .ok (.bipush 10, 2) := by decide +kernel
theorem dX12_moves_36 : decode cX12_moves 36 = .ok (.irem, 1) := by decide +kernel
theorem dX12_moves_37 : decode cX12_moves 37 = .ok (.ireturn, 1) := by decide +kernel
theorem dX12_think_0 : decode cX12_think 0 = .ok (.aload_n 0, 1) := by decide +kernel
theorem dX12_think_1 : decode cX12_think 1 = .ok (.iconst 0, 1) := by decide +kernel
theorem dX12_think_2 : decode cX12_think 2 = .ok (.putfield 115, 3) := by decide +kernel
theorem dX12_think_5 : decode cX12_think 5 = .ok (.aload_n 0, 1) := by decide +kernel
theorem dX12_think_6 : decode cX12_think 6 = .ok (.iload_n 1, 1) := by decide +kernel
theorem dX12_think_7 : decode cX12_think 7 = .ok (.invokevirtual 210, 3) := by decide +kernel
theorem dX12_think_10 : decode cX12_think 10 = .ok (.ifCond .ne 10, 3) := by decide +kernel
theorem dX12_think_13 : decode cX12_think 13 = .ok (.iload_n 3, 1) := by decide +kernel
theorem dX12_think_14 : decode cX12_think 14 = .ok (.invokestatic 133, 3) := by decide +kernel
theorem dX12_think_17 : decode cX12_think 17 = .ok (.ifCond .eq 5, 3) := by decide +kernel
theorem dX12_think_20 : decode cX12_think 20 = .ok (.iconst (-1), 1) := by decide +kernel
theorem dX12_think_21 : decode cX12_think 21 = .ok (.ireturn, 1) := by decide +kernel
theorem dX12_think_22 : decode cX12_think 22 = .ok (.iload_n 2, 1) := by decide +kernel
theorem dX12_think_23 : decode cX12_think 23 = .ok (.i2l, 1) := by decide +kernel
theorem dX12_think_24 : decode cX12_think 24 = .ok (.lconst 0, 1) := by decide +kernel
theorem dX12_think_25 : decode cX12_think 25 = .ok (.lconst 1, 1) := by decide +kernel
theorem dX12_think_26 : decode cX12_think 26 = .ok (.invokestatic 120, 3) := by decide +kernel
theorem dX12_think_29 : decode cX12_think 29 = .ok (.ifCond .eq 16, 3) := by decide +kernel
theorem dX12_think_32 : decode cX12_think 32 = .ok (.iload 4, 2) := by decide +kernel
theorem dX12_think_34 : decode cX12_think 34 = .ok (.i2l, 1) := by decide +kernel
theorem dX12_think_35 : decode cX12_think 35 = .ok (.lconst 0, 1) := by decide +kernel
theorem dX12_think_36 : decode cX12_think 36 = .ok (.ldc2_w 118, 3) := by decide +kernel
theorem dX12_think_39 : decode cX12_think 39 = .ok (.invokestatic 120, 3) := by decide +kernel
theorem dX12_think_42 : decode cX12_think 42 = .ok (.ifCond .ne 6, 3) := by decide +kernel
theorem dX12_think_45 : decode cX12_think 45 = .ok (.bipush (-2), 2) := by decide +kernel
theorem dX12_think_47 : decode cX12_think 47 = .ok (.ireturn, 1) := by decide +kernel
theorem dX12_think_48 : decode cX12_think 48 = .ok (.bipush 12, 2) := by decide +kernel
theorem dX12_think_50 : decode cX12_think 50 = .ok (.iload_n 1, 1) := by decide +kernel
theorem dX12_think_51 : decode cX12_think 51 = .ok (.imul, 1) := by decide +kernel
theorem dX12_think_52 : decode cX12_think 52 = .ok (.bipush 6, 2) := by decide +kernel
theorem dX12_think_54 : decode cX12_think 54 = .ok (.iload_n 2, 1) := by decide +kernel
theorem dX12_think_55 : decode cX12_think 55 = .ok (.imul, 1) := by decide +kernel
theorem dX12_think_56 : decode cX12_think 56 = .ok (.iadd, 1) := by decide +kernel
theorem dX12_think_57 : decode cX12_think 57 = .ok (.iload_n 3, 1) := by decide +kernel
theorem dX12_think_58 : decode cX12_think 58 = .ok (.iadd, 1) := by decide +kernel
theorem dX12_think_59 : decode cX12_think 59 = .ok (.istore 5, 2) := by decide +kernel
theorem dX12_think_61 : decode cX12_think 61 = .ok (.aload_n 0, 1) := by decide +kernel
theorem dX12_think_62 : decode cX12_think 62 = .ok (.getfield 69, 3) := by decide +kernel
theorem dX12_think_65 : decode cX12_think 65 = .ok (.iload 5, 2) := by decide +kernel
theorem dX12_think_67 : decode cX12_think 67 = .ok (.iaload, 1) := by decide +kernel
theorem dX12_think_68 : decode cX12_think 68 = .ok (.istore 6, 2) := by decide +kernel
theorem dX12_think_70 : decode cX12_think 70 = .ok (.aload_n 0, 1) := by decide +kernel
theorem dX12_think_71 : decode cX12_think 71 = .ok (.getfield 69, 3) := by decide +kernel
theorem dX12_think_74 : decode cX12_think 74 = .ok (.iload 5, 2) := by decide +kernel
theorem dX12_think_76 : decode cX12_think 76 = .ok (.iload 4, 2) := by decide +kernel
theorem dX12_think_78 : decode cX12_think 78 = .ok (.iastore, 1) := by decide +kernel
theorem dX12_think_79 : decode cX12_think 79 = .ok (.iload 6, 2) := by decide +kernel
theorem dX12_think_81 : decode cX12_think 81 = .ok (.ireturn, 1) := by decide +kernel
theorem dX12_part_0 : decode cX12_part 0 = .ok (.aload_n 0, 1) := by decide +kernel
theorem dX12_part_1 : decode cX12_part 1 = .ok (.iconst 0, 1) := by decide +kernel
theorem dX12_part_2 : decode cX12_part 2 = .ok (.putfield 115, 3) := by decide +kernel
theorem dX12_part_5 : decode cX12_part 5 = .ok (.aload_n 0, 1) := by decide +kernel
theorem dX12_part_6 : decode cX12_part 6 = .ok (.iload_n 1, 1) := by decide +kernel
theorem dX12_part_7 : decode cX12_part 7 = .ok (.invokevirtual 210, 3) := by decide +kernel
theorem dX12_part_10 : decode cX12_part 10 = .ok (.ifCond .eq 5, 3) := by decide +kernel
theorem dX12_part_13 : decode cX12_part 13 = .ok (.iconst (-1), 1) := by decide +kernel
theorem dX12_part_14 : decode cX12_part 14 = .ok (.ireturn, 1) := by decide +kernel
theorem dX12_part_15 : decode cX12_part 15 = .ok (.iconst 0, 1) := by decide +kernel
theorem dX12_part_16 : decode cX12_part 16 = .ok (.istore_n 2, 1) := by decide +kernel
theorem dX12_part_17 : decode cX12_part 17 = .ok (.iconst 0, 1) := by decide +kernel
theorem dX12_part_18 : decode cX12_part 18 = .ok (.istore_n 3, 1) := by decide +kernel
theorem dX12_part_19 : decode cX12_part 19 = .ok (.iload_n 3, 1) := by decide +kernel
theorem dX12_part_20 : decode cX12_part 20 = .ok (.bipush 6, 2) := by decide +kernel
theorem dX12_part_22 : decode cX12_part 22 = .ok (.if_icmp .ge 65, 3) := by decide +kernel
theorem dX12_part_25 : decode cX12_part 25 = .ok (.aload_n 0, 1) := by decide +kernel
theorem dX12_part_26 : decode cX12_part 26 = .ok (.getfield 69, 3) := by decide +kernel
theorem dX12_part_29 : decode cX12_part 29 = .ok (.bipush 12, 2) := by decide +kernel
theorem dX12_part_31 : decode cX12_part 31 = .ok (.iload_n 1, 1) := by decide +kernel
theorem dX12_part_32 : decode cX12_part 32 = .ok (.imul, 1) := by decide +kernel
theorem dX12_part_33 : decode cX12_part 33 = .ok (.iload_n 3, 1) := by decide +kernel
theorem dX12_part_34 : decode cX12_part 34 = .ok (.iadd, 1) := by decide +kernel
theorem dX12_part_35 : decode cX12_part 35 = .ok (.iaload, 1) := by decide +kernel
theorem dX12_part_36 : decode cX12_part 36 = .ok (.istore 4, 2) := by decide +kernel
theorem dX12_part_38 : decode cX12_part 38 = .ok (.aload_n 0, 1) := by decide +kernel
theorem dX12_part_39 : decode cX12_part 39 = .ok (.getfield 69, 3) := by decide +kernel
theorem dX12_part_42 : decode cX12_part 42 = .ok (.bipush 12, 2) := by decide +kernel
theorem dX12_part_44 : decode cX12_part 44 = .ok (.iload_n 1, 1) := by decide +kernel
theorem dX12_part_45 : decode cX12_part 45 = .ok (.imul, 1) := by decide +kernel
theorem dX12_part_46 : decode cX12_part 46 = .ok (.bipush 6, 2) := by decide +kernel
theorem dX12_part_48 : decode cX12_part 48 = .ok (.iadd, 1) := by decide +kernel
theorem dX12_part_49 : decode cX12_part 49 = .ok (.iload_n 3, 1) := by decide +kernel
theorem dX12_part_50 : decode cX12_part 50 = .ok (.iadd, 1) := by decide +kernel
theorem dX12_part_51 : decode cX12_part 51 = .ok (.iaload, 1) := by decide +kernel
theorem dX12_part_52 : decode cX12_part 52 = .ok (.istore 5, 2) := by decide +kernel
theorem dX12_part_54 : decode cX12_part 54 = .ok (.iload_n 2, 1) := by decide +kernel
theorem dX12_part_55 : decode cX12_part 55 = .ok (.iload 4, 2) := by decide +kernel
theorem dX12_part_57 : decode cX12_part 57 = .ok (.ifCond .le 21, 3) := by decide +kernel
theorem dX12_part_60 : decode cX12_part 60 = .ok (.iload 5, 2) := by decide +kernel
theorem dX12_part_62 : decode cX12_part 62 = .ok (.ifCond .le 16, 3) := by decide +kernel
theorem dX12_part_65 : decode cX12_part 65 = .ok (.iload 4, 2) := by decide +kernel
theorem dX12_part_67 : decode cX12_part 67 = .ok (.iload 5, 2) := by decide +kernel
theorem dX12_part_69 : decode cX12_part 69 = .ok (.if_icmp .eq 9, 3) := by decide +kernel
theorem dX12_part_72 : decode cX12_part 72 = .ok (.iconst 1, 1) := by decide +kernel
theorem dX12_part_73 : decode cX12_part 73 = .ok (.iload_n 3, 1) := by decide +kernel
theorem dX12_part_74 : decode cX12_part 74 = .ok (.ishl, 1) := by decide +kernel
theorem dX12_part_75 : decode cX12_part 75 = .ok (.goto 4, 3) := by decide +kernel
theorem dX12_part_78 : decode cX12_part 78 = .ok (.iconst 0, 1) := by decide +kernel
theorem dX12_part_79 : decode cX12_part 79 = .ok (.ior, 1) := by decide +kernel
theorem dX12_part_80 : decode cX12_part 80 = .ok (.istore_n 2, 1) := by decide +kernel
theorem dX12_part_81 : decode cX12_part 81 = .ok (.iinc 3 1, 3) := by decide +kernel
theorem dX12_part_84 : decode cX12_part 84 = .ok (.goto (-65), 3) := by decide +kernel
theorem dX12_part_87 : decode cX12_part 87 = .ok (.iload_n 2, 1) := by decide +kernel
theorem dX12_part_88 : decode cX12_part 88 = .ok (.ireturn, 1) := by decide +kernel
theorem dX12_fars_0 : decode cX12_fars 0 = .ok (.iconst 0, 1) := by decide +kernel
theorem dX12_fars_1 : decode cX12_fars 1 = .ok (.istore_n 3, 1) := by decide +kernel
theorem dX12_fars_2 : decode cX12_fars 2 = .ok (.iconst 0, 1) := by decide +kernel
theorem dX12_fars_3 : decode cX12_fars 3 = .ok (.istore 4, 2) := by decide +kernel
theorem dX12_fars_5 : decode cX12_fars 5 = .ok (.iload 4, 2) := by decide +kernel
theorem dX12_fars_7 : decode cX12_fars 7 = .ok (.bipush 6, 2) := by decide +kernel
theorem dX12_fars_9 : decode cX12_fars 9 = .ok (.if_icmp .ge 56, 3) := by decide +kernel
theorem dX12_fars_12 : decode cX12_fars 12 = .ok (.aload_n 0, 1) := by decide +kernel
theorem dX12_fars_13 : decode cX12_fars 13 = .ok (.getfield 69, 3) := by decide +kernel
theorem dX12_fars_16 : decode cX12_fars 16 = .ok (.bipush 12, 2) := by decide +kernel
theorem dX12_fars_18 : decode cX12_fars 18 = .ok (.iload_n 1, 1) := by decide +kernel
theorem dX12_fars_19 : decode cX12_fars 19 = .ok (.imul, 1) := by decide +kernel
theorem dX12_fars_20 : decode cX12_fars 20 = .ok (.bipush 6, 2) := by decide +kernel
theorem dX12_fars_22 : decode cX12_fars 22 = .ok (.iload_n 2, 1) := by decide +kernel
theorem dX12_fars_23 : decode cX12_fars 23 = .ok (.imul, 1) := by decide +kernel
theorem dX12_fars_24 : decode cX12_fars 24 = .ok (.iadd, 1) := by decide +kernel
theorem dX12_fars_25 : decode cX12_fars 25 = .ok (.iload 4, 2) := by decide +kernel
theorem dX12_fars_27 : decode cX12_fars 27 = .ok (.iadd, 1) := by decide +kernel
theorem dX12_fars_28 : decode cX12_fars 28 = .ok (.iaload, 1) := by decide +kernel
theorem dX12_fars_29 : decode cX12_fars 29 = .ok (.istore 5, 2) := by decide +kernel
theorem dX12_fars_31 : decode cX12_fars 31 = .ok (.iload_n 3, 1) := by decide +kernel
theorem dX12_fars_32 : decode cX12_fars 32 = .ok (.iload 5, 2) := by decide +kernel
theorem dX12_fars_34 : decode cX12_fars 34 = .ok (.ifCond .le 22, 3) := by decide +kernel
theorem dX12_fars_37 : decode cX12_fars 37 = .ok (.iload 5, 2) := by decide +kernel
theorem dX12_fars_39 : decode cX12_fars 39 = .ok (.aload_n 0, 1) := by decide +kernel
theorem dX12_fars_40 : decode cX12_fars 40 = .ok (.getfield 106, 3) := by decide +kernel
theorem dX12_fars_43 : decode cX12_fars 43 = .ok (.iload 4, 2) := by decide +kernel
theorem dX12_fars_45 : decode cX12_fars 45 = .ok (.iaload, 1) := by decide +kernel
theorem dX12_fars_46 : decode cX12_fars 46 = .ok (.if_icmp .eq 10, 3) := by decide +kernel
theorem dX12_fars_49 : decode cX12_fars 49 = .ok (.iconst 1, 1) := by decide +kernel
theorem dX12_fars_50 : decode cX12_fars 50 = .ok (.iload 4, 2) := by decide +kernel
theorem dX12_fars_52 : decode cX12_fars 52 = .ok (.ishl, 1) := by decide +kernel
theorem dX12_fars_53 : decode cX12_fars 53 = .ok (.goto 4, 3) := by decide +kernel
theorem dX12_fars_56 : decode cX12_fars 56 = .ok (.iconst 0, 1) := by decide +kernel
theorem dX12_fars_57 : decode cX12_fars 57 = .ok (.ior, 1) := by decide +kernel
theorem dX12_fars_58 : decode cX12_fars 58 = .ok (.istore_n 3, 1) := by decide +kernel
theorem dX12_fars_59 : decode cX12_fars 59 = .ok (.iinc 4 1, 3) := by decide +kernel
theorem dX12_fars_62 : decode cX12_fars 62 = .ok (.goto (-57), 3) := by decide +kernel
theorem dX12_fars_65 : decode cX12_fars 65 = .ok (.iload_n 3, 1) := by decide +kernel
theorem dX12_fars_66 : decode cX12_fars 66 = .ok (.ireturn, 1) := by decide +kernel
theorem dX12_far_0 : decode cX12_far 0 = .ok (.aload_n 0, 1) := by decide +kernel
theorem dX12_far_1 : decode cX12_far 1 = .ok (.iconst 0, 1) := by decide +kernel
theorem dX12_far_2 : decode cX12_far 2 = .ok (.putfield 115, 3) := by decide +kernel
theorem dX12_far_5 : decode cX12_far 5 = .ok (.aload_n 0, 1) := by decide +kernel
theorem dX12_far_6 : decode cX12_far 6 = .ok (.iload_n 1, 1) := by decide +kernel
theorem dX12_far_7 : decode cX12_far 7 = .ok (.iload_n 2, 1) := by decide +kernel
theorem dX12_far_8 : decode cX12_far 8 = .ok (.invokevirtual 250, 3) := by decide +kernel
theorem dX12_far_11 : decode cX12_far 11 = .ok (.ifCond .eq 5, 3) := by decide +kernel
theorem dX12_far_14 : decode cX12_far 14 = .ok (.iconst (-1), 1) := by decide +kernel
theorem dX12_far_15 : decode cX12_far 15 = .ok (.ireturn, 1) := by decide +kernel
theorem dX12_far_16 : decode cX12_far 16 = .ok (.iload_n 3, 1) := by decide +kernel
theorem dX12_far_17 : decode cX12_far 17 = .ok (.i2l, 1) := by decide +kernel
theorem dX12_far_18 : decode cX12_far 18 = .ok (.lconst 0, 1) := by decide +kernel
theorem dX12_far_19 : decode cX12_far 19 = .ok (.lconst 1, 1) := by decide +kernel
theorem dX12_far_20 : decode cX12_far 20 = .ok (.invokestatic 120, 3) := by decide +kernel
theorem dX12_far_23 : decode cX12_far 23 = .ok (.ifCond .ne 6, 3) := by decide +kernel
theorem dX12_far_26 : decode cX12_far 26 = .ok (.bipush (-2), 2) := by decide +kernel
theorem dX12_far_28 : decode cX12_far 28 = .ok (.ireturn, 1) := by decide +kernel
theorem dX12_far_29 : decode cX12_far 29 = .ok (.aload_n 0, 1) := by decide +kernel
theorem dX12_far_30 : decode cX12_far 30 = .ok (.iload_n 1, 1) := by decide +kernel
theorem dX12_far_31 : decode cX12_far 31 = .ok (.iload_n 2, 1) := by decide +kernel
theorem dX12_far_32 : decode cX12_far 32 = .ok (.invokevirtual 255, 3) := by decide +kernel
theorem dX12_far_35 : decode cX12_far 35 = .ok (.aload_n 0, 1) := by decide +kernel
theorem dX12_far_36 : decode cX12_far 36 = .ok (.iload_n 1, 1) := by decide +kernel
theorem dX12_far_37 : decode cX12_far 37 = .ok (.iload_n 3, 1) := by decide +kernel
theorem dX12_far_38 : decode cX12_far 38 = .ok (.invokevirtual 278, 3) := by decide +kernel
theorem dX12_far_41 : decode cX12_far 41 = .ok (.ireturn, 1) := by decide +kernel
theorem dX12_alike_0 : decode cX12_alike 0 = .ok (.aload_n 0, 1) := by decide +kernel
theorem dX12_alike_1 : decode cX12_alike 1 = .ok (.getfield 69, 3) := by decide +kernel
theorem dX12_alike_4 : decode cX12_alike 4 = .ok (.bipush 12, 2) := by decide +kernel
theorem dX12_alike_6 : decode cX12_alike 6 = .ok (.iload_n 1, 1) := by decide +kernel
theorem dX12_alike_7 : decode cX12_alike 7 = .ok (.imul, 1) := by decide +kernel
