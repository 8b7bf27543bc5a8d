theorem dX11_doing_46 : decode cX11_doing 46 = .ok (.ireturn, 1) := by decide +kernel
theorem dX11_doing_47 : decode cX11_doing 47 = .ok (.aload_n 0, 1) := by decide +kernel
theorem dX11_doing_48 : decode cX11_doing 48 = .ok (.getfield 31, 3) := by decide +kernel
theorem dX11_doing_51 : decode cX11_doing 51 = .ok (.getfield 128, 3) := by decide +kernel
theorem dX11_doing_54 : decode cX11_doing 54 = .ok (.bipush 24, 2) := by decide +kernel
theorem dX11_doing_56 : decode cX11_doing 56 = .ok (.if_icmp .lt 6, 3) := by decide +kernel
theorem dX11_doing_59 : decode cX11_doing 59 = .ok (.bipush (-4), 2) := by decide +kernel
theorem dX11_doing_61 : decode cX11_doing 61 = .ok (.ireturn, 1) := by decide +kernel
theorem dX11_doing_62 : decode cX11_doing 62 = .ok (.aload_n 0, 1) := by decide +kernel
theorem dX11_doing_63 : decode cX11_doing 63 = .ok (.getfield 31, 3) := by decide +kernel
theorem dX11_doing_66 : decode cX11_doing 66 = .ok (.getfield 128, 3) := by decide +kernel
theorem dX11_doing_69 : decode cX11_doing 69 = .ok (.istore 7, 2) := by decide +kernel
theorem dX11_doing_71 : decode cX11_doing 71 = .ok (.aload_n 0, 1) := by decide +kernel
theorem dX11_doing_72 : decode cX11_doing 72 = .ok (.getfield 31, 3) := by decide +kernel
theorem dX11_doing_75 : decode cX11_doing 75 = .ok (.iload_n 1, 1) := by decide +kernel
theorem dX11_doing_76 : decode cX11_doing 76 = .ok (.iload_n 2, 1) := by decide +kernel
theorem dX11_doing_77 : decode cX11_doing 77 = .ok (.iload_n 3, 1) := by decide +kernel
theorem dX11_doing_78 : decode cX11_doing 78 = .ok (.iload 4, 2) := by decide +kernel
theorem dX11_doing_80 : decode cX11_doing 80 = .ok (.iload 5, 2) := by decide +kernel
theorem dX11_doing_82 : decode cX11_doing 82 = .ok (.iload 6, 2) := by decide +kernel
theorem dX11_doing_84 : decode cX11_doing 84 = .ok (.invokevirtual 131, 3) := by decide +kernel
theorem dX11_doing_87 : decode cX11_doing 87 = .ok (.iload 7, 2) := by decide +kernel
theorem dX11_doing_89 : decode cX11_doing 89 = .ok (.ireturn, 1) := by decide +kernel
theorem dX11_undo_0 : decode cX11_undo 0 = .ok (.aload_n 0, 1) := by decide +kernel
theorem dX11_undo_1 : decode cX11_undo 1 = .ok (.getfield 31, 3) := by decide +kernel
theorem dX11_undo_4 : decode cX11_undo 4 = .ok (.getfield 128, 3) := by decide +kernel
theorem dX11_undo_7 : decode cX11_undo 7 = .ok (.ifCond .ne 6, 3) := by decide +kernel
theorem dX11_undo_10 : decode cX11_undo 10 = .ok (.bipush (-3), 2) := by decide +kernel
theorem dX11_undo_12 : decode cX11_undo 12 = .ok (.ireturn, 1) := by decide +kernel
theorem dX11_undo_13 : decode cX11_undo 13 = .ok (.aload_n 0, 1) := by decide +kernel
theorem dX11_undo_14 : decode cX11_undo 14 = .ok (.getfield 31, 3) := by decide +kernel
theorem dX11_undo_17 : decode cX11_undo 17 = .ok (.dup, 1) := by decide +kernel
theorem dX11_undo_18 : decode cX11_undo 18 = .ok (.getfield 128, 3) := by decide +kernel
theorem dX11_undo_21 : decode cX11_undo 21 = .ok (.iconst 1, 1) := by decide +kernel
theorem dX11_undo_22 : decode cX11_undo 22 = .ok (.isub, 1) := by decide +kernel
theorem dX11_undo_23 : decode cX11_undo 23 = .ok (.putfield 128, 3) := by decide +kernel
theorem dX11_undo_26 : decode cX11_undo 26 = .ok (.aload_n 0, 1) := by decide +kernel
theorem dX11_undo_27 : decode cX11_undo 27 = .ok (.getfield 31, 3) := by decide +kernel
theorem dX11_undo_30 : decode cX11_undo 30 = .ok (.getfield 128, 3) := by decide +kernel
theorem dX11_undo_33 : decode cX11_undo 33 = .ok (.ireturn, 1) := by decide +kernel
theorem dX11_tell_0 : decode cX11_tell 0 = .ok (.iload_n 1, 1) := by decide +kernel
theorem dX11_tell_1 : decode cX11_tell 1 = .ok (.invokestatic 122, 3) := by decide +kernel
theorem dX11_tell_4 : decode cX11_tell 4 = .ok (.ifCond .eq 10, 3) := by decide +kernel
theorem dX11_tell_7 : decode cX11_tell 7 = .ok (.iload_n 2, 1) := by decide +kernel
theorem dX11_tell_8 : decode cX11_tell 8 = .ok (.invokestatic 125, 3) := by decide +kernel
theorem dX11_tell_11 : decode cX11_tell 11 = .ok (.ifCond .ne 5, 3) := by decide +kernel
theorem dX11_tell_14 : decode cX11_tell 14 = .ok (.iconst (-1), 1) := by decide +kernel
theorem dX11_tell_15 : decode cX11_tell 15 = .ok (.ireturn, 1) := by decide +kernel
theorem dX11_tell_16 : decode cX11_tell 16 = .ok (.iload_n 1, 1) := by decide +kernel
theorem dX11_tell_17 : decode cX11_tell 17 = .ok (.iconst 3, 1) := by decide +kernel
theorem dX11_tell_18 : decode cX11_tell 18 = .ok (.imul, 1) := by decide +kernel
theorem dX11_tell_19 : decode cX11_tell 19 = .ok (.iload_n 2, 1) := by decide +kernel
theorem dX11_tell_20 : decode cX11_tell 20 = .ok (.iadd, 1) := by decide +kernel
theorem dX11_tell_21 : decode cX11_tell 21 = .ok (.istore 4, 2) := by decide +kernel
theorem dX11_tell_23 : decode cX11_tell 23 = .ok (.aload_n 0, 1) := by decide +kernel
theorem dX11_tell_24 : decode cX11_tell 24 = .ok (.getfield 31, 3) := by decide +kernel
theorem dX11_tell_27 : decode cX11_tell 27 = .ok (.getfield 135, 3) := by decide +kernel
theorem dX11_tell_30 : decode cX11_tell 30 = .ok (.iload 4, 2) := by decide +kernel
theorem dX11_tell_32 : decode cX11_tell 32 = .ok (.invokestatic 105, 3) := by decide +kernel
theorem dX11_tell_35 : decode cX11_tell 35 = .ok (.istore 5, 2) := by decide +kernel
theorem dX11_tell_37 : decode cX11_tell 37 = .ok (.aload_n 0, 1) := by decide +kernel
theorem dX11_tell_38 : decode cX11_tell 38 = .ok (.getfield 31, 3) := by decide +kernel
theorem dX11_tell_41 : decode cX11_tell 41 = .ok (.aload_n 0, 1) := by decide +kernel
theorem dX11_tell_42 : decode cX11_tell 42 = .ok (.getfield 31, 3) := by decide +kernel
theorem dX11_tell_45 : decode cX11_tell 45 = .ok (.getfield 135, 3) := by decide +kernel
theorem dX11_tell_48 : decode cX11_tell 48 = .ok (.iload 4, 2) := by decide +kernel
theorem dX11_tell_50 : decode cX11_tell 50 = .ok (.iload_n 3, 1) := by decide +kernel
theorem dX11_tell_51 : decode cX11_tell 51 = .ok (.invokestatic 109, 3) := by decide +kernel
theorem dX11_tell_54 : decode cX11_tell 54 = .ok (.putfield 135, 3) := by decide +kernel
theorem dX11_tell_57 : decode cX11_tell 57 = .ok (.iload 5, 2) := by decide +kernel
theorem dX11_tell_59 : decode cX11_tell 59 = .ok (.ireturn, 1) := by decide +kernel
theorem dX11_term_0 : decode cX11_term 0 = .ok (.iload_n 1, 1) := by decide +kernel
theorem dX11_term_1 : decode cX11_term 1 = .ok (.ifCond .lt 8, 3) := by decide +kernel
theorem dX11_term_4 : decode cX11_term 4 = .ok (.iload_n 1, 1) := by decide +kernel
theorem dX11_term_5 : decode cX11_term 5 = .ok (.iconst 2, 1) := by decide +kernel
theorem dX11_term_6 : decode cX11_term 6 = .ok (.if_icmp .le 6, 3) := by decide +kernel
theorem dX11_term_9 : decode cX11_term 9 = .ok (.bipush (-2), 2) := by decide +kernel
theorem dX11_term_11 : decode cX11_term 11 = .ok (.ireturn, 1) := by decide +kernel
theorem dX11_term_12 : decode cX11_term 12 = .ok (.iload_n 2, 1) := by decide +kernel
theorem dX11_term_13 : decode cX11_term 13 = .ok (.getstatic 138, 3) := by decide +kernel
theorem dX11_term_16 : decode cX11_term 16 = .ok (.iload_n 1, 1) := by decide +kernel
theorem dX11_term_17 : decode cX11_term 17 = .ok (.iaload, 1) := by decide +kernel
theorem dX11_term_18 : decode cX11_term 18 = .ok (.if_icmp .lt 12, 3) := by decide +kernel
theorem dX11_term_21 : decode cX11_term 21 = .ok (.iload_n 2, 1) := by decide +kernel
theorem dX11_term_22 : decode cX11_term 22 = .ok (.getstatic 141, 3) := by decide +kernel
theorem dX11_term_25 : decode cX11_term 25 = .ok (.iload_n 1, 1) := by decide +kernel
theorem dX11_term_26 : decode cX11_term 26 = .ok (.iaload, 1) := by decide +kernel
theorem dX11_term_27 : decode cX11_term 27 = .ok (.if_icmp .le 6, 3) := by decide +kernel
theorem dX11_term_30 : decode cX11_term 30 = .ok (.bipush (-2), 2) := by decide +kernel
theorem dX11_term_32 : decode cX11_term 32 = .ok (.ireturn, 1) := by decide +kernel
theorem dX11_term_33 : decode cX11_term 33 = .ok (.aload_n 0, 1) := by decide +kernel
theorem dX11_term_34 : decode cX11_term 34 = .ok (.getfield 25, 3) := by decide +kernel
theorem dX11_term_37 : decode cX11_term 37 = .ok (.iload_n 1, 1) := by decide +kernel
theorem dX11_term_38 : decode cX11_term 38 = .ok (.iaload, 1) := by decide +kernel
theorem dX11_term_39 : decode cX11_term 39 = .ok (.istore_n 3, 1) := by decide +kernel
theorem dX11_term_40 : decode cX11_term 40 = .ok (.aload_n 0, 1) := by decide +kernel
theorem dX11_term_41 : decode cX11_term 41 = .ok (.getfield 25, 3) := by decide +kernel
theorem dX11_term_44 : decode cX11_term 44 = .ok (.iload_n 1, 1) := by decide +kernel
theorem dX11_term_45 : decode cX11_term 45 = .ok (.iload_n 2, 1) := by decide +kernel
theorem dX11_term_46 : decode cX11_term 46 = .ok (.iastore, 1) := by decide +kernel
theorem dX11_term_47 : decode cX11_term 47 = .ok (.iload_n 3, 1) := by decide +kernel
theorem dX11_term_48 : decode cX11_term 48 = .ok (.ireturn, 1) := by decide +kernel
theorem dX11_knows_0 : decode cX11_knows 0 = .ok (.iload_n 1, 1) := by decide +kernel
theorem dX11_knows_1 : decode cX11_knows 1 = .ok (.invokestatic 122, 3) := by decide +kernel
theorem dX11_knows_4 : decode cX11_knows 4 = .ok (.ifCond .eq 10, 3) := by decide +kernel
theorem dX11_knows_7 : decode cX11_knows 7 = .ok (.iload_n 2, 1) := by decide +kernel
theorem dX11_knows_8 : decode cX11_knows 8 = .ok (.invokestatic 125, 3) := by decide +kernel
theorem dX11_knows_11 : decode cX11_knows 11 = .ok (.ifCond .ne 5, 3) := by decide +kernel
theorem dX11_knows_14 : decode cX11_knows 14 = .ok (.iconst (-1), 1) := by decide +kernel
theorem dX11_knows_15 : decode cX11_knows 15 = .ok (.ireturn, 1) := by decide +kernel
theorem dX11_knows_16 : decode cX11_knows 16 = .ok (.aload_n 0, 1) := by decide +kernel
theorem dX11_knows_17 : decode cX11_knows 17 = .ok (.getfield 31, 3) := by decide +kernel
theorem dX11_knows_20 : decode cX11_knows 20 = .ok (.iload_n 1, 1) := by decide +kernel
theorem dX11_knows_21 : decode cX11_knows 21 = .ok (.iload_n 2, 1) := by decide +kernel
theorem dX11_knows_22 : decode cX11_knows 22 = .ok (.invokevirtual 144, 3) := by decide +kernel
theorem dX11_knows_25 : decode cX11_knows 25 = .ok (.ifCond .eq 7, 3) := by decide +kernel
theorem dX11_knows_28 : decode cX11_knows 28 = .ok (.iconst 1, 1) := by decide +kernel
theorem dX11_knows_29 : decode cX11_knows 29 = .ok (.goto 4, 3) := by decide +kernel
theorem dX11_knows_32 : decode cX11_knows 32 = .ok (.iconst 0, 1) := by decide +kernel
theorem dX11_knows_33 : decode cX11_knows 33 = .ok (.ireturn, 1) := by decide +kernel
theorem dX11_before_0 : decode cX11_before 0 = .ok (.iload_n 1, 1) := by decide +kernel
theorem dX11_before_1 : decode cX11_before 1 = .ok (.invokestatic 122, 3) := by decide +kernel
theorem dX11_before_4 : decode cX11_before 4 = .ok (.ifCond .eq 17, 3) := by decide +kernel
theorem dX11_before_7 : decode cX11_before 7 = .ok (.iload_n 2, 1) := by decide +kernel
theorem dX11_before_8 : decode cX11_before 8 = .ok (.invokestatic 122, 3) := by decide +kernel
theorem dX11_before_11 : decode cX11_before 11 = .ok (.ifCond .eq 10, 3) := by decide +kernel
theorem dX11_before_14 : decode cX11_before 14 = .ok (.iload_n 3, 1) := by decide +kernel
theorem dX11_before_15 : decode cX11_before 15 = .ok (.invokestatic 95, 3) := by decide +kernel
theorem dX11_before_18 : decode cX11_before 18 = .ok (.ifCond .ne 5, 3) := by decide +kernel
theorem dX11_before_21 : decode cX11_before 21 = .ok (.iconst (-1), 1) := by decide +kernel
theorem dX11_before_22 : decode cX11_before 22 = .ok (.ireturn, 1) := by decide +kernel
theorem dX11_before_23 : decode cX11_before 23 = .ok (.iload_n 1, 1) := by decide +kernel
theorem dX11_before_24 : decode cX11_before 24 = .ok (.iload_n 2, 1) := by decide +kernel
theorem dX11_before_25 : decode cX11_before 25 = .ok (.if_icmp .ne 6, 3) := by decide +kernel
theorem dX11_before_28 : decode cX11_before 28 = .ok (.bipush (-2), 2) := by decide +kernel
theorem dX11_before_30 : decode cX11_before 30 = .ok (.ireturn, 1) := by decide +kernel
theorem dX11_before_31 : decode cX11_before 31 = .ok (.aload_n 0, 1) := by decide +kernel
theorem dX11_before_32 : decode cX11_before 32 = .ok (.getfield 31, 3) := by decide +kernel
theorem dX11_before_35 : decode cX11_before 35 = .ok (.iload_n 1, 1) := by decide +kernel
theorem dX11_before_36 : decode cX11_before 36 = .ok (.iload_n 2, 1) := by decide +kernel
theorem dX11_before_37 : decode cX11_before 37 = .ok (.iload_n 3, 1) := by decide +kernel
theorem dX11_before_38 : decode cX11_before 38 = .ok (.aload_n 0, 1) := by decide +kernel
theorem dX11_before_39 : decode cX11_before 39 = .ok (.getfield 25, 3) := by decide +kernel
theorem dX11_before_42 : decode cX11_before 42 = .ok (.iconst 0, 1) := by decide +kernel
theorem dX11_before_43 : decode cX11_before 43 = .ok (.iaload, 1) := by decide +kernel
theorem dX11_before_44 : decode cX11_before 44 = .ok (.invokevirtual 148, 3) := by decide +kernel
theorem dX11_before_47 : decode cX11_before 47 = .ok (.ireturn, 1) := by decide +kernel
theorem dX11_custom_0 : decode cX11_custom 0 = .ok (.iload_n 1, 1) := by decide +kernel
theorem dX11_custom_1 : decode cX11_custom 1 = .ok (.invokestatic 125, 3) := by decide +kernel
theorem dX11_custom_4 : decode cX11_custom 4 = .ok (.ifCond .eq 10, 3) := by decide +kernel
theorem dX11_custom_7 : decode cX11_custom 7 = .ok (.iload_n 2, 1) := by decide +kernel
theorem dX11_custom_8 : decode cX11_custom 8 = .ok (.invokestatic 95, 3) := by decide +kernel
theorem dX11_custom_11 : decode cX11_custom 11 = .ok (.ifCond .ne 5, 3) := by decide +kernel
theorem dX11_custom_14 : decode cX11_custom 14 = .ok (.iconst (-1), 1) := by decide +kernel
theorem dX11_custom_15 : decode cX11_custom 15 = .ok (.ireturn, 1) := by decide +kernel
theorem dX11_custom_16 : decode cX11_custom 16 = .ok (.aload_n 0, 1) := by decide +kernel
theorem dX11_custom_17 : decode cX11_custom 17 = .ok (.getfield 31, 3) := by decide +kernel
theorem dX11_custom_20 : decode cX11_custom 20 = .ok (.iload_n 1, 1) := by decide +kernel
theorem dX11_custom_21 : decode cX11_custom 21 = .ok (.iload_n 2, 1) := by decide +kernel
theorem dX11_custom_22 : decode cX11_custom 22 = .ok (.aload_n 0, 1) := by decide +kernel
theorem dX11_custom_23 : decode cX11_custom 23 = .ok (.getfield 25, 3) := by decide +kernel
theorem dX11_custom_26 : decode cX11_custom 26 = .ok (.invokevirtual 152, 3) := by decide +kernel
theorem dX11_custom_29 : decode cX11_custom 29 = .ok (.ireturn, 1) := by decide +kernel
theorem dX11_lacks_0 : decode cX11_lacks 0 = .ok (.iload_n 1, 1) := by decide +kernel
theorem dX11_lacks_1 : decode cX11_lacks 1 = .ok (.invokestatic 125, 3) := by decide +kernel
theorem dX11_lacks_4 : decode cX11_lacks 4 = .ok (.ifCond .eq 10, 3) := by decide +kernel
theorem dX11_lacks_7 : decode cX11_lacks 7 = .ok (.iload_n 2, 1) := by decide +kernel
theorem dX11_lacks_8 : decode cX11_lacks 8 = .ok (.invokestatic 95, 3) := by decide +kernel
theorem dX11_lacks_11 : decode cX11_lacks 11 = .ok (.ifCond .ne 5, 3) := by decide +kernel
theorem dX11_lacks_14 : decode cX11_lacks 14 = .ok (.iconst (-1), 1) := by decide +kernel
theorem dX11_lacks_15 : decode cX11_lacks 15 = .ok (.ireturn, 1) := by decide +kernel
theorem dX11_lacks_16 : decode cX11_lacks 16 = .ok (.iload_n 3, 1) := by decide +kernel
theorem dX11_lacks_17 : decode cX11_lacks 17 = .ok (.invokestatic 113, 3) := by decide +kernel
theorem dX11_lacks_20 : decode cX11_lacks 20 = .ok (.ifCond .ne 6, 3) := by decide +kernel
theorem dX11_lacks_23 : decode cX11_lacks 23 = .ok (.bipush (-2), 2) := by decide +kernel
theorem dX11_lacks_25 : decode cX11_lacks 25 = .ok (.ireturn, 1) := by decide +kernel
theorem dX11_lacks_26 : decode cX11_lacks 26 = .ok (.aload_n 0, 1) := by decide +kernel
theorem dX11_lacks_27 : decode cX11_lacks 27 = .ok (.getfield 31, 3) := by decide +kernel
theorem dX11_lacks_30 : decode cX11_lacks 30 = .ok (.iload_n 1, 1) := by decide +kernel
theorem dX11_lacks_31 : decode cX11_lacks 31 = .ok (.iload_n 2, 1) := by decide +kernel
theorem dX11_lacks_32 : decode cX11_lacks 32 = .ok (.iload_n 3, 1) := by decide +kernel
theorem dX11_lacks_33 : decode cX11_lacks 33 = .ok (.aload_n 0, 1) := by decide +kernel
theorem dX11_lacks_34 : decode cX11_lacks 34 = .ok (.getfield 25, 3) := by decide +kernel
theorem dX11_lacks_37 : decode cX11_lacks 37 = .ok (.invokevirtual 156, 3) := by decide +kernel
theorem dX11_lacks_40 : decode cX11_lacks 40 = .ok (.ireturn, 1) := by decide +kernel
theorem dX11_write_0 : decode cX11_write 0 = .ok (.iload_n 1, 1) := by decide +kernel
theorem dX11_write_1 : decode cX11_write 1 = .ok (.iconst 1, 1) := by decide +kernel
theorem dX11_write_2 : decode cX11_write 2 = .ok (.if_icmp .lt 9, 3) := by decide +kernel
theorem dX11_write_5 : decode cX11_write 5 = .ok (.iload_n 1, 1) := by decide +kernel
theorem dX11_write_6 : decode cX11_write 6 = .ok (.bipush 8, 2) := by decide +kernel
theorem dX11_write_8 : decode cX11_write 8 = .ok (.if_icmp .le 6, 3) := by decide +kernel
theorem dX11_write_11 : decode cX11_write 11 = .ok (.bipush (-2), 2) := by decide +kernel
theorem dX11_write_13 : decode cX11_write 13 = .ok (.ireturn, 1) := by decide +kernel
theorem dX11_write_14 : decode cX11_write 14 = .ok (.aload_n 0, 1) := by decide +kernel
theorem dX11_write_15 : decode cX11_write 15 = .ok (.getfield 46, 3) := by decide +kernel
theorem dX11_write_18 : decode cX11_write 18 = .ok (.getfield 160, 3) := by decide +kernel
theorem dX11_write_21 : decode cX11_write 21 = .ok (.iload_n 1, 1) := by decide +kernel
theorem dX11_write_22 : decode cX11_write 22 = .ok (.iadd, 1) := by decide +kernel
theorem dX11_write_23 : decode cX11_write 23 = .ok (.bipush 24, 2) := by decide +kernel
theorem dX11_write_25 : decode cX11_write 25 = .ok (.if_icmp .le 6, 3) := by decide +kernel
theorem dX11_write_28 : decode cX11_write 28 = .ok (.bipush (-4), 2) := by decide +kernel
theorem dX11_write_30 : decode cX11_write 30 = .ok (.ireturn, 1) := by decide +kernel
theorem dX11_write_31 : decode cX11_write 31 = .ok (.aload_n 0, 1) := by decide +kernel
theorem dX11_write_32 : decode cX11_write 32 = .ok (.getfield 46, 3) := by decide +kernel
theorem dX11_write_35 : decode cX11_write 35 = .ok (.iload_n 1, 1) := by decide +kernel
theorem dX11_write_36 : decode cX11_write 36 = .ok (.lload_n 2, 1) := by decide +kernel
theorem dX11_write_37 : decode cX11_write 37 = .ok (.invokevirtual 163, 3) := by decide +kernel
theorem dX11_write_40 : decode cX11_write 40 = .ok (.aload_n 0, 1) := by decide +kernel
theorem dX11_write_41 : decode cX11_write 41 = .ok (.getfield 46, 3) := by decide +kernel
theorem dX11_write_44 : decode cX11_write 44 = .ok (.getfield 160, 3) := by decide +kernel
theorem dX11_write_47 : decode cX11_write 47 = .ok (.ireturn, 1) := by decide +kernel
theorem dX11_wipe_0 : decode cX11_wipe 0 = .ok (.aload_n 0, 1) := by decide +kernel
theorem dX11_wipe_1 : decode cX11_wipe 1 = .ok (.getfield 46, 3) := by decide +kernel
theorem dX11_wipe_4 : decode cX11_wipe 4 = .ok (.getfield 160, 3) := by decide +kernel
theorem dX11_wipe_7 : decode cX11_wipe 7 = .ok (.istore_n 1, 1) := by decide +kernel
theorem dX11_wipe_8 : decode cX11_wipe 8 = .ok (.aload_n 0, 1) := by decide +kernel
theorem dX11_wipe_9 : decode cX11_wipe 9 = .ok (.getfield 46, 3) := by decide +kernel
theorem dX11_wipe_12 : decode cX11_wipe 12 = .ok (.iconst 0, 1) := by decide +kernel
theorem dX11_wipe_13 : decode cX11_wipe 13 = .ok (.putfield 160, 3) := by decide +kernel
theorem dX11_wipe_16 : decode cX11_wipe 16 = .ok (.iload_n 1, 1) := by decide +kernel
theorem dX11_wipe_17 : decode cX11_wipe 17 = .ok (.ireturn, 1) := by decide +kernel
theorem dX11_fault_0 : decode cX11_fault 0 = .ok (.iload_n 1, 1) := by decide +kernel
theorem dX11_fault_1 : decode cX11_fault 1 = .ok (.tableswitch 66 0 2 #[27, 42, 54], 27) := by decide +kernel
theorem dX11_fault_28 : decode cX11_fault 28 = .ok (.aload_n 0, 1) := by decide +kernel
theorem dX11_fault_29 : decode cX11_fault 29 = .ok (.getfield 53, 3) := by decide +kernel
theorem dX11_fault_32 : decode cX11_fault 32 = .ok (.invokevirtual 167, 3) := by decide +kernel
theorem dX11_fault_35 : decode cX11_fault 35 = .ok (.aload_n 0, 1) := by decide +kernel
theorem dX11_fault_36 : decode cX11_fault 36 = .ok (.getfield 46, 3) := by decide +kernel
theorem dX11_fault_39 : decode cX11_fault 39 = .ok (.invokevirtual 171, 3) := by decide +kernel
theorem dX11_fault_42 : decode cX11_fault 42 = .ok (.ireturn, 1) := by decide +kernel
theorem dX11_fault_43 : decode cX11_fault 43 = .ok (.aload_n 0, 1) := by decide +kernel
theorem dX11_fault_44 : decode cX11_fault 44 = .ok (.getfield 74, 3) := by decide +kernel
theorem dX11_fault_47 : decode cX11_fault 47 = .ok (.aload_n 0, 1) := by decide +kernel
theorem dX11_fault_48 : decode cX11_fault 48 = .ok (.getfield 46, 3) := by decide +kernel
theorem dX11_fault_51 : decode cX11_fault 51 = .ok (.invokevirtual 177, 3) := by decide +kernel
theorem dX11_fault_54 : decode cX11_fault 54 = .ok (.ireturn, 1) := by decide +kernel
theorem dX11_fault_55 : decode cX11_fault 55 = .ok (.aload_n 0, 1) := by decide +kernel
theorem dX11_fault_56 : decode cX11_fault 56 = .ok (.getfield 81, 3) := by decide +kernel
theorem dX11_fault_59 : decode cX11_fault 59 = .ok (.aload_n 0, 1) := by decide +kernel
theorem dX11_fault_60 : decode cX11_fault 60 = .ok (.getfield 46, 3) := by decide +kernel
theorem dX11_fault_63 : decode cX11_fault 63 = .ok (.invokevirtual 178, 3) := by decide +kernel
theorem dX11_fault_66 : decode cX11_fault 66 = .ok (.ireturn, 1) := by decide +kernel
theorem dX11_fault_67 : decode cX11_fault 67 = .ok (.iconst (-1), 1) := by decide +kernel
theorem dX11_fault_68 : decode cX11_fault 68 = .ok (.ireturn, 1) := by decide +kernel
theorem dX11_rule_0 : decode cX11_rule 0 = .ok (.aload_n 0, 1) := by decide +kernel
theorem dX11_rule_1 : decode cX11_rule 1 = .ok (.getfield 53, 3) := by decide +kernel
theorem dX11_rule_4 : decode cX11_rule 4 = .ok (.invokevirtual 167, 3) := by decide +kernel
theorem dX11_rule_7 : decode cX11_rule 7 = .ok (.aload_n 0, 1) := by decide +kernel
theorem dX11_rule_8 : decode cX11_rule 8 = .ok (.getfield 46, 3) := by decide +kernel
theorem dX11_rule_11 : decode cX11_rule 11 = .ok (.invokevirtual 171, 3) := by decide +kernel
theorem dX11_rule_14 : decode cX11_rule 14 = .ok (.bipush (-9), 2) := by decide +kernel
theorem dX11_rule_16 : decode cX11_rule 16 = .ok (.if_icmp .eq 6, 3) := by decide +kernel
theorem dX11_rule_19 : decode cX11_rule 19 = .ok (.bipush (-3), 2) := by decide +kernel
theorem dX11_rule_21 : decode cX11_rule 21 = .ok (.ireturn, 1) := by decide +kernel
theorem dX11_rule_22 : decode cX11_rule 22 = .ok (.aload_n 0, 1) := by decide +kernel
theorem dX11_rule_23 : decode cX11_rule 23 = .ok (.getfield 53, 3) := by decide +kernel
theorem dX11_rule_26 : decode cX11_rule 26 = .ok (.getfield 179, 3) := by decide +kernel
theorem dX11_rule_29 : decode cX11_rule 29 = .ok (.bipush 12, 2) := by decide +kernel
theorem dX11_rule_31 : decode cX11_rule 31 = .ok (.if_icmp .lt 6, 3) := by decide +kernel
theorem dX11_rule_34 : decode cX11_rule 34 = .ok (.bipush (-4), 2) := by decide +kernel
theorem dX11_rule_36 : decode cX11_rule 36 = .ok (.ireturn, 1) := by decide +kernel
theorem dX11_rule_37 : decode cX11_rule 37 = .ok (.aload_n 0, 1) := by decide +kernel
theorem dX11_rule_38 : decode cX11_rule 38 = .ok (.getfield 53, 3) := by decide +kernel
theorem dX11_rule_41 : decode cX11_rule 41 = .ok (.dup, 1) := by decide +kernel
theorem dX11_rule_42 : decode cX11_rule 42 = .ok (.getfield 179, 3) := by decide +kernel
theorem dX11_rule_45 : decode cX11_rule 45 = .ok (.iconst 1, 1) := by decide +kernel
theorem dX11_rule_46 : decode cX11_rule 46 = .ok (.iadd, 1) := by decide +kernel
theorem dX11_rule_47 : decode cX11_rule 47 = .ok (.putfield 179, 3) := by decide +kernel
theorem dX11_rule_50 : decode cX11_rule 50 = .ok (.aload_n 0, 1) := by decide +kernel
theorem dX11_rule_51 : decode cX11_rule 51 = .ok (.getfield 53, 3) := by decide +kernel
theorem dX11_rule_54 : decode cX11_rule 54 = .ok (.getfield 179, 3) := by decide +kernel
theorem dX11_rule_57 : decode cX11_rule 57 = .ok (.iconst 1, 1) := by decide +kernel
theorem dX11_rule_58 : decode cX11_rule 58 = .ok (.isub, 1) := by decide +kernel
theorem dX11_rule_59 : decode cX11_rule 59 = .ok (.ireturn, 1) := by decide +kernel
theorem dX11_unrule_0 : decode cX11_unrule 0 = .ok (.aload_n 0, 1) := by decide +kernel
theorem dX11_unrule_1 : decode cX11_unrule 1 = .ok (.iload_n 1, 1) := by decide +kernel
theorem dX11_unrule_2 : decode cX11_unrule 2 = .ok (.invokevirtual 180, 3) := by decide +kernel
theorem dX11_unrule_5 : decode cX11_unrule 5 = .ok (.ifCond .ne 5, 3) := by decide +kernel
theorem dX11_unrule_8 : decode cX11_unrule 8 = .ok (.iconst (-1), 1) := by decide +kernel
theorem dX11_unrule_9 : decode cX11_unrule 9 = .ok (.ireturn, 1) := by decide +kernel
theorem dX11_unrule_10 : decode cX11_unrule 10 = .ok (.aload_n 0, 1) := by decide +kernel
theorem dX11_unrule_11 : decode cX11_unrule 11 = .ok (.getfield 53, 3) := by decide +kernel
theorem dX11_unrule_14 : decode cX11_unrule 14 = .ok (.iload_n 1, 1) := by decide +kernel
theorem dX11_unrule_15 : decode cX11_unrule 15 = .ok (.invokevirtual 183, 3) := by decide +kernel
theorem dX11_unrule_18 : decode cX11_unrule 18 = .ok (.aload_n 0, 1) := by decide +kernel
theorem dX11_unrule_19 : decode cX11_unrule 19 = .ok (.getfield 53, 3) := by decide +kernel
theorem dX11_unrule_22 : decode cX11_unrule 22 = .ok (.getfield 179, 3) := by decide +kernel
theorem dX11_unrule_25 : decode cX11_unrule 25 = .ok (.ireturn, 1) := by decide +kernel
theorem dX11_ruled_0 : decode cX11_ruled 0 = .ok (.aload_n 0, 1) := by decide +kernel
theorem dX11_ruled_1 : decode cX11_ruled 1 = .ok (.iload_n 1, 1) := by decide +kernel
theorem dX11_ruled_2 : decode cX11_ruled 2 = .ok (.invokevirtual 180, 3) := by decide +kernel
theorem dX11_ruled_5 : decode cX11_ruled 5 = .ok (.ifCond .ne 5, 3) := by decide +kernel
theorem dX11_ruled_8 : decode cX11_ruled 8 = .ok (.iconst (-1), 1) := by decide +kernel
theorem dX11_ruled_9 : decode cX11_ruled 9 = .ok (.ireturn, 1) := by decide +kernel
theorem dX11_ruled_10 : decode cX11_ruled 10 = .ok (.aload_n 0, 1) := by decide +kernel
theorem dX11_ruled_11 : decode cX11_ruled 11 = .ok (.getfield 53, 3) := by decide +kernel
theorem dX11_ruled_14 : decode cX11_ruled 14 = .ok (.getfield 187, 3) := by decide +kernel
theorem dX11_ruled_17 : decode cX11_ruled 17 = .ok (.iload_n 1, 1) := by decide +kernel
theorem dX11_ruled_18 : decode cX11_ruled 18 = .ok (.aaload, 1) := by decide +kernel
theorem dX11_ruled_19 : decode cX11_ruled 19 = .ok (.iload_n 2, 1) := by decide +kernel
theorem dX11_ruled_20 : decode cX11_ruled 20 = .ok (.invokevirtual 191, 3) := by decide +kernel
theorem dX11_ruled_23 : decode cX11_ruled 23 = .ok (.ireturn, 1) := by decide +kernel
theorem dX11_order_0 : decode cX11_order 0 = .ok (.iload_n 1, 1) := by decide +kernel
theorem dX11_order_1 : decode cX11_order 1 = .ok (.invokestatic 195, 3) := by decide +kernel
theorem dX11_order_4 : decode cX11_order 4 = .ok (.ifCond .ne 5, 3) := by decide +kernel
theorem dX11_order_7 : decode cX11_order 7 = .ok (.iconst (-1), 1) := by decide +kernel
theorem dX11_order_8 : decode cX11_order 8 = .ok (.ireturn, 1) := by decide +kernel
theorem dX11_order_9 : decode cX11_order 9 = .ok (.aload_n 0, 1) := by decide +kernel
theorem dX11_order_10 : decode cX11_order 10 = .ok (.getfield 74, 3) := by decide +kernel
theorem dX11_order_13 : decode cX11_order 13 = .ok (.aload_n 0, 1) := by decide +kernel
theorem dX11_order_14 : decode cX11_order 14 = .ok (.getfield 46, 3) := by decide +kernel
theorem dX11_order_17 : decode cX11_order 17 = .ok (.invokevirtual 177, 3) := by decide +kernel
theorem dX11_order_20 : decode cX11_order 20 = .ok (.bipush (-9), 2) := by decide +kernel
theorem dX11_order_22 : decode cX11_order 22 = .ok (.if_icmp .eq 6, 3) := by decide +kernel
theorem dX11_order_25 : decode cX11_order 25 = .ok (.bipush (-3), 2) := by decide +kernel
theorem dX11_order_27 : decode cX11_order 27 = .ok (.ireturn, 1) := by decide +kernel
theorem dX11_order_28 : decode cX11_order 28 = .ok (.aload_n 0, 1) := by decide +kernel
theorem dX11_order_29 : decode cX11_order 29 = .ok (.getfield 59, 3) := by decide +kernel
theorem dX11_order_32 : decode cX11_order 32 = .ok (.iload_n 1, 1) := by decide +kernel
theorem dX11_order_33 : decode cX11_order 33 = .ok (.aaload, 1) := by decide +kernel
theorem dX11_order_34 : decode cX11_order 34 = .ok (.aload_n 0, 1) := by decide +kernel
theorem dX11_order_35 : decode cX11_order 35 = .ok (.getfield 74, 3) := by decide +kernel
theorem dX11_order_38 : decode cX11_order 38 = .ok (.invokevirtual 198, 3) := by decide +kernel
theorem dX11_order_41 : decode cX11_order 41 = .ok (.aload_n 0, 1) := by decide +kernel
theorem dX11_order_42 : decode cX11_order 42 = .ok (.getfield 74, 3) := by decide +kernel
theorem dX11_order_45 : decode cX11_order 45 = .ok (.getfield 202, 3) := by decide +kernel
theorem dX11_order_48 : decode cX11_order 48 = .ok (.ireturn, 1) := by decide +kernel
theorem dX11_ordered_0 : decode cX11_ordered 0 = .ok (.iload_n 1, 1) := by decide +kernel
theorem dX11_ordered_1 : decode cX11_ordered 1 = .ok (.invokestatic 195, 3) := by decide +kernel
theorem dX11_ordered_4 : decode cX11_ordered 4 = .ok (.ifCond .ne 5, 3) := by decide +kernel
theorem dX11_ordered_7 : decode cX11_ordered 7 = .ok (.iconst (-1), 1) := by decide +kernel
theorem dX11_ordered_8 : decode cX11_ordered 8 = .ok (.ireturn, 1) := by decide +kernel
theorem dX11_ordered_9 : decode cX11_ordered 9 = .ok (.iload_n 2, 1) := by decide +kernel
theorem dX11_ordered_10 : decode cX11_ordered 10 = .ok (.ifCond .lt 30, 3) := by decide +kernel
theorem dX11_ordered_13 : decode cX11_ordered 13 = .ok (.iload_n 2, 1) := by decide +kernel
theorem dX11_ordered_14 : decode cX11_ordered 14 = .ok (.aload_n 0, 1) := by decide +kernel
theorem dX11_ordered_15 : decode cX11_ordered 15 = .ok (.getfield 59, 3) := by decide +kernel
theorem dX11_ordered_18 : decode cX11_ordered 18 = .ok (.iload_n 1, 1) := by decide +kernel
theorem dX11_ordered_19 : decode cX11_ordered 19 = .ok (.aaload, 1) := by decide +kernel
theorem dX11_ordered_20 : decode cX11_ordered 20 = .ok (.getfield 202, 3) := by decide +kernel
theorem dX11_ordered_23 : decode cX11_ordered 23 = .ok (.if_icmp .ge 17, 3) := by decide +kernel
theorem dX11_ordered_26 : decode cX11_ordered 26 = .ok (.aload_n 0, 1) := by decide +kernel
theorem dX11_ordered_27 : decode cX11_ordered 27 = .ok (.getfield 59, 3) := by decide +kernel
theorem dX11_ordered_30 : decode cX11_ordered 30 = .ok (.iload_n 1, 1) := by decide +kernel
theorem dX11_ordered_31 : decode cX11_ordered 31 = .ok (.aaload, 1) := by decide +kernel
theorem dX11_ordered_32 : decode cX11_ordered 32 = .ok (.getfield 203, 3) := by decide +kernel
theorem dX11_ordered_35 : decode cX11_ordered 35 = .ok (.iload_n 2, 1) := by decide +kernel
theorem dX11_ordered_36 : decode cX11_ordered 36 = .ok (.iaload, 1) := by decide +kernel
theorem dX11_ordered_37 : decode cX11_ordered 37 = .ok (.goto 5, 3) := by decide +kernel
theorem dX11_ordered_40 : decode cX11_ordered 40 = .ok (.bipush (-9), 2) := by decide +kernel
theorem dX11_ordered_42 : decode cX11_ordered 42 = .ok (.ireturn, 1) := by decide +kernel
theorem dX11_bargain_0 : decode cX11_bargain 0 = .ok (.iload_n 1, 1) := by decide +kernel
theorem dX11_bargain_1 : decode cX11_bargain 1 = .ok (.invokestatic 122, 3) := by decide +kernel
theorem dX11_bargain_4 : decode cX11_bargain 4 = .ok (.ifCond .eq 17, 3) := by decide +kernel
theorem dX11_bargain_7 : decode cX11_bargain 7 = .ok (.iload_n 2, 1) := by decide +kernel
theorem dX11_bargain_8 : decode cX11_bargain 8 = .ok (.invokestatic 122, 3) := by decide +kernel
theorem dX11_bargain_11 : decode cX11_bargain 11 = .ok (.ifCond .eq 10, 3) := by decide +kernel
theorem dX11_bargain_14 : decode cX11_bargain 14 = .ok (.iload_n 3, 1) := by decide +kernel
theorem dX11_bargain_15 : decode cX11_bargain 15 = .ok (.invokestatic 125, 3) := by decide +kernel
theorem dX11_bargain_18 : decode cX11_bargain 18 = .ok (.ifCond .ne 5, 3) := by decide +kernel
theorem dX11_bargain_21 : decode cX11_bargain 21 = .ok (.iconst (-1), 1) := by decide +kernel
theorem dX11_bargain_22 : decode cX11_bargain 22 = .ok (.ireturn, 1) := by decide +kernel
theorem dX11_bargain_23 : decode cX11_bargain 23 = .ok (.iload_n 1, 1) := by decide +kernel
theorem dX11_bargain_24 : decode cX11_bargain 24 = .ok (.iload_n 2, 1) := by decide +kernel
theorem dX11_bargain_25 : decode cX11_bargain 25 = .ok (.if_icmp .ne 6, 3) := by decide +kernel
theorem dX11_bargain_28 : decode cX11_bargain 28 = .ok (.bipush (-2), 2) := by decide +kernel
theorem dX11_bargain_30 : decode cX11_bargain 30 = .ok (.ireturn, 1) := by decide +kernel
theorem dX11_bargain_31 : decode cX11_bargain 31 = .ok (.aload_n 0, 1) := by decide +kernel
theorem dX11_bargain_32 : decode cX11_bargain 32 = .ok (.getfield 81, 3) := by decide +kernel
theorem dX11_bargain_35 : decode cX11_bargain 35 = .ok (.aload_n 0, 1) := by decide +kernel
theorem dX11_bargain_36 : decode cX11_bargain 36 = .ok (.getfield 46, 3) := by decide +kernel
theorem dX11_bargain_39 : decode cX11_bargain 39 = .ok (.invokevirtual 178, 3) := by decide +kernel
theorem dX11_bargain_42 : decode cX11_bargain 42 = .ok (.bipush (-9), 2) := by decide +kernel
theorem dX11_bargain_44 : decode cX11_bargain 44 = .ok (.if_icmp .eq 6, 3) := by decide +kernel
theorem dX11_bargain_47 : decode cX11_bargain 47 = .ok (.bipush (-3), 2) := by decide +kernel
theorem dX11_bargain_49 : decode cX11_bargain 49 = .ok (.ireturn, 1) := by decide +kernel
theorem dX11_bargain_50 : decode cX11_bargain 50 = .ok (.aload_n 0, 1) := by decide +kernel
theorem dX11_bargain_51 : decode cX11_bargain 51 = .ok (.getfield 69, 3) := by decide +kernel
theorem dX11_bargain_54 : decode cX11_bargain 54 = .ok (.bipush 8, 2) := by decide +kernel
theorem dX11_bargain_56 : decode cX11_bargain 56 = .ok (.if_icmp .lt 6, 3) := by decide +kernel
theorem dX11_bargain_59 : decode cX11_bargain 59 = .ok (.bipush (-4), 2) := by decide +kernel
theorem dX11_bargain_61 : decode cX11_bargain 61 = .ok (.ireturn, 1) := by decide +kernel
theorem dX11_bargain_62 : decode cX11_bargain 62 = .ok (.aload_n 0, 1) := by decide +kernel
theorem dX11_bargain_63 : decode cX11_bargain 63 = .ok (.getfield 65, 3) := by decide +kernel
theorem dX11_bargain_66 : decode cX11_bargain 66 = .ok (.aload_n 0, 1) := by decide +kernel
theorem dX11_bargain_67 : decode cX11_bargain 67 = .ok (.getfield 69, 3) := by decide +kernel
theorem dX11_bargain_70 : decode cX11_bargain 70 = .ok (.aaload, 1) := by decide +kernel
theorem dX11_bargain_71 : decode cX11_bargain 71 = .ok (.iload_n 1, 1) := by decide +kernel
theorem dX11_bargain_72 : decode cX11_bargain 72 = .ok (.iload_n 2, 1) := by decide +kernel
theorem dX11_bargain_73 : decode cX11_bargain 73 = .ok (.iload_n 3, 1) := by decide +kernel
theorem dX11_bargain_74 : decode cX11_bargain 74 = .ok (.aload_n 0, 1) := by decide +kernel
theorem dX11_bargain_75 : decode cX11_bargain 75 = .ok (.getfield 81, 3) := by decide +kernel
theorem dX11_bargain_78 : decode cX11_bargain 78 = .ok (.invokevirtual 206, 3) := by decide +kernel
theorem dX11_bargain_81 : decode cX11_bargain 81 = .ok (.aload_n 0, 1) := by decide +kernel
theorem dX11_bargain_82 : decode cX11_bargain 82 = .ok (.dup, 1) := by decide +kernel
theorem dX11_bargain_83 : decode cX11_bargain 83 = .ok (.getfield 69, 3) := by decide +kernel
theorem dX11_bargain_86 : decode cX11_bargain 86 = .ok (.iconst 1, 1) := by decide +kernel
theorem dX11_bargain_87 : decode cX11_bargain 87 = .ok (.iadd, 1) := by decide +kernel
theorem dX11_bargain_88 : decode cX11_bargain 88 = .ok (.putfield 69, 3) := by decide +kernel
theorem dX11_bargain_91 : decode cX11_bargain 91 = .ok (.aload_n 0, 1) := by decide +kernel
theorem dX11_bargain_92 : decode cX11_bargain 92 = .ok (.getfield 69, 3) := by decide +kernel
theorem dX11_bargain_95 : decode cX11_bargain 95 = .ok (.iconst 1, 1) := by decide +kernel
theorem dX11_bargain_96 : decode cX11_bargain 96 = .ok (.isub, 1) := by decide +kernel
theorem dX11_bargain_97 : decode cX11_bargain 97 = .ok (.ireturn, 1) := by decide +kernel
theorem dX11_reword_0 : decode cX11_reword 0 = .ok (.aload_n 0, 1) := by decide +kernel
theorem dX11_reword_1 : decode cX11_reword 1 = .ok (.iload_n 1, 1) := by decide +kernel
theorem dX11_reword_2 : decode cX11_reword 2 = .ok (.invokevirtual 210, 3) := by decide +kernel
theorem dX11_reword_5 : decode cX11_reword 5 = .ok (.ifCond .ne 5, 3) := by decide +kernel
theorem dX11_reword_8 : decode cX11_reword 8 = .ok (.iconst (-1), 1) := by decide +kernel
theorem dX11_reword_9 : decode cX11_reword 9 = .ok (.ireturn, 1) := by decide +kernel
theorem dX11_reword_10 : decode cX11_reword 10 = .ok (.aload_n 0, 1) := by decide +kernel
theorem dX11_reword_11 : decode cX11_reword 11 = .ok (.getfield 81, 3) := by decide +kernel
theorem dX11_reword_14 : decode cX11_reword 14 = .ok (.aload_n 0, 1) := by decide +kernel
theorem dX11_reword_15 : decode cX11_reword 15 = .ok (.getfield 46, 3) := by decide +kernel
theorem dX11_reword_18 : decode cX11_reword 18 = .ok (.invokevirtual 178, 3) := by decide +kernel
theorem dX11_reword_21 : decode cX11_reword 21 = .ok (.bipush (-9), 2) := by decide +kernel
theorem dX11_reword_23 : decode cX11_reword 23 = .ok (.if_icmp .eq 6, 3) := by decide +kernel
theorem dX11_reword_26 : decode cX11_reword 26 = .ok (.bipush (-3), 2) := by decide +kernel
theorem dX11_reword_28 : decode cX11_reword 28 = .ok (.ireturn, 1) := by decide +kernel
theorem dX11_reword_29 : decode cX11_reword 29 = .ok (.aload_n 0, 1) := by decide +kernel
theorem dX11_reword_30 : decode cX11_reword 30 = .ok (.getfield 65, 3) := by decide +kernel
theorem dX11_reword_33 : decode cX11_reword 33 = .ok (.iload_n 1, 1) := by decide +kernel
theorem dX11_reword_34 : decode cX11_reword 34 = .ok (.aaload, 1) := by decide +kernel
theorem dX11_reword_35 : decode cX11_reword 35 = .ok (.getfield 213, 3) := by decide +kernel
theorem dX11_reword_38 : decode cX11_reword 38 = .ok (.aload_n 0, 1) := by decide +kernel
theorem dX11_reword_39 : decode cX11_reword 39 = .ok (.getfield 81, 3) := by decide +kernel
theorem dX11_reword_42 : decode cX11_reword 42 = .ok (.invokevirtual 216, 3) := by decide +kernel
theorem dX11_reword_45 : decode cX11_reword 45 = .ok (.aload_n 0, 1) := by decide +kernel
theorem dX11_reword_46 : decode cX11_reword 46 = .ok (.getfield 81, 3) := by decide +kernel
theorem dX11_reword_49 : decode cX11_reword 49 = .ok (.invokevirtual 219, 3) := by decide +kernel
theorem dX11_reword_52 : decode cX11_reword 52 = .ok (.ireturn, 1) := by decide +kernel
theorem dX11_said_0 : decode cX11_said 0 = .ok (.aload_n 0, 1) := by decide +kernel
theorem dX11_said_1 : decode cX11_said 1 = .ok (.iload_n 1, 1) := by decide +kernel
theorem dX11_said_2 : decode cX11_said 2 = .ok (.invokevirtual 210, 3) := by decide +kernel
theorem dX11_said_5 : decode cX11_said 5 = .ok (.ifCond .eq 10, 3) := by decide +kernel
theorem dX11_said_8 : decode cX11_said 8 = .ok (.iload_n 2, 1) := by decide +kernel
theorem dX11_said_9 : decode cX11_said 9 = .ok (.invokestatic 95, 3) := by decide +kernel
theorem dX11_said_12 : decode cX11_said 12 = .ok (.ifCond .ne 5, 3) := by decide +kernel
theorem dX11_said_15 : decode cX11_said 15 = .ok (.iconst (-1), 1) := by decide +kernel
theorem dX11_said_16 : decode cX11_said 16 = .ok (.ireturn, 1) := by decide +kernel
theorem dX11_said_17 : decode cX11_said 17 = .ok (.aload_n 0, 1) := by decide +kernel
theorem dX11_said_18 : decode cX11_said 18 = .ok (.getfield 65, 3) := by decide +kernel
theorem dX11_said_21 : decode cX11_said 21 = .ok (.iload_n 1, 1) := by decide +kernel
theorem dX11_said_22 : decode cX11_said 22 = .ok (.aaload, 1) := by decide +kernel
theorem dX11_said_23 : decode cX11_said 23 = .ok (.getfield 213, 3) := by decide +kernel
theorem dX11_said_26 : decode cX11_said 26 = .ok (.getfield 223, 3) := by decide +kernel
theorem dX11_said_29 : decode cX11_said 29 = .ok (.iload_n 2, 1) := by decide +kernel
theorem dX11_said_30 : decode cX11_said 30 = .ok (.iaload, 1) := by decide +kernel
theorem dX11_said_31 : decode cX11_said 31 = .ok (.ireturn, 1) := by decide +kernel
theorem dX11_next_0 : decode cX11_next 0 = .ok (.aload_n 0, 1) := by decide +kernel
theorem dX11_next_1 : decode cX11_next 1 = .ok (.iload_n 1, 1) := by decide +kernel
theorem dX11_next_2 : decode cX11_next 2 = .ok (.iload_n 2, 1) := by decide +kernel
theorem dX11_next_3 : decode cX11_next 3 = .ok (.invokevirtual 224, 3) := by decide +kernel
theorem dX11_next_6 : decode cX11_next 6 = .ok (.ifCond .ne 5, 3) := by decide +kernel
theorem dX11_next_9 : decode cX11_next 9 = .ok (.iconst (-1), 1) := by decide +kernel
theorem dX11_next_10 : decode cX11_next 10 = .ok (.ireturn, 1) := by decide +kernel
theorem dX11_next_11 : decode cX11_next 11 = .ok (.iload_n 3, 1) := by decide +kernel
theorem dX11_next_12 : decode cX11_next 12 = .ok (.invokestatic 227, 3) := by decide +kernel
theorem dX11_next_15 : decode cX11_next 15 = .ok (.ifCond .ne 6, 3) := by decide +kernel
theorem dX11_next_18 : decode cX11_next 18 = .ok (.bipush (-2), 2) := by decide +kernel
theorem dX11_next_20 : decode cX11_next 20 = .ok (.ireturn, 1) := by decide +kernel
theorem dX11_next_21 : decode cX11_next 21 = .ok (.aload_n 0, 1) := by decide +kernel
theorem dX11_next_22 : decode cX11_next 22 = .ok (.getfield 90, 3) := by decide +kernel
theorem dX11_next_25 : decode cX11_next 25 = .ok (.aload_n 0, 1) := by decide +kernel
theorem dX11_next_26 : decode cX11_next 26 = .ok (.getfield 65, 3) := by decide +kernel
theorem dX11_next_29 : decode cX11_next 29 = .ok (.iload_n 1, 1) := by decide +kernel
theorem dX11_next_30 : decode cX11_next 30 = .ok (.aaload, 1) := by decide +kernel
theorem dX11_next_31 : decode cX11_next 31 = .ok (.aload_n 0, 1) := by decide +kernel
theorem dX11_next_32 : decode cX11_next 32 = .ok (.getfield 31, 3) := by decide +kernel
theorem dX11_next_35 : decode cX11_next 35 = .ok (.invokevirtual 230, 3) := by decide +kernel
theorem dX11_next_38 : decode cX11_next 38 = .ok (.aload_n 0, 1) := by decide +kernel
theorem dX11_next_39 : decode cX11_next 39 = .ok (.getfield 90, 3) := by decide +kernel
theorem dX11_next_42 : decode cX11_next 42 = .ok (.aload_n 0, 1) := by decide +kernel
theorem dX11_next_43 : decode cX11_next 43 = .ok (.getfield 59, 3) := by decide +kernel
theorem dX11_next_46 : decode cX11_next 46 = .ok (.iload_n 2, 1) := by decide +kernel
theorem dX11_next_47 : decode cX11_next 47 = .ok (.aaload, 1) := by decide +kernel
theorem dX11_next_48 : decode cX11_next 48 = .ok (.invokevirtual 234, 3) := by decide +kernel
theorem dX11_next_51 : decode cX11_next 51 = .ok (.aload_n 0, 1) := by decide +kernel
theorem dX11_next_52 : decode cX11_next 52 = .ok (.getfield 90, 3) := by decide +kernel
theorem dX11_next_55 : decode cX11_next 55 = .ok (.iload_n 3, 1) := by decide +kernel
theorem dX11_next_56 : decode cX11_next 56 = .ok (.invokevirtual 237, 3) := by decide +kernel
theorem dX11_next_59 : decode cX11_next 59 = .ok (.ireturn, 1) := by decide +kernel
theorem dX11_rounds_0 : decode cX11_rounds 0 = .ok (.aload_n 0, 1) := by decide +kernel
theorem dX11_rounds_1 : decode cX11_rounds 1 = .ok (.iload_n 1, 1) := by decide +kernel
theorem dX11_rounds_2 : decode cX11_rounds 2 = .ok (.iload_n 2, 1) := by decide +kernel
theorem dX11_rounds_3 : decode cX11_rounds 3 = .ok (.invokevirtual 224, 3) := by decide +kernel
theorem dX11_rounds_6 : decode cX11_rounds 6 = .ok (.ifCond .ne 5, 3) := by decide +kernel
theorem dX11_rounds_9 : decode cX11_rounds 9 = .ok (.iconst (-1), 1) := by decide +kernel
theorem dX11_rounds_10 : decode cX11_rounds 10 = .ok (.ireturn, 1) := by decide +kernel
theorem dX11_rounds_11 : decode cX11_rounds 11 = .ok (.aload_n 0, 1) := by decide +kernel
theorem dX11_rounds_12 : decode cX11_rounds 12 = .ok (.iload_n 1, 1) := by decide +kernel
theorem dX11_rounds_13 : decode cX11_rounds 13 = .ok (.iload_n 2, 1) := by decide +kernel
theorem dX11_rounds_14 : decode cX11_rounds 14 = .ok (.invokevirtual 240, 3) := by decide +kernel
theorem dX11_rounds_17 : decode cX11_rounds 17 = .ok (.iload_n 3, 1) := by decide +kernel
theorem dX11_rounds_18 : decode cX11_rounds 18 = .ok (.ifCond .eq 13, 3) := by decide +kernel
theorem dX11_rounds_21 : decode cX11_rounds 21 = .ok (.aload_n 0, 1) := by decide +kernel
theorem dX11_rounds_22 : decode cX11_rounds 22 = .ok (.getfield 90, 3) := by decide +kernel
theorem dX11_rounds_25 : decode cX11_rounds 25 = .ok (.getfield 244, 3) := by decide +kernel
theorem dX11_rounds_28 : decode cX11_rounds 28 = .ok (.goto 10, 3) := by decide +kernel
theorem dX11_rounds_31 : decode cX11_rounds 31 = .ok (.aload_n 0, 1) := by decide +kernel
theorem dX11_rounds_32 : decode cX11_rounds 32 = .ok (.getfield 90, 3) := by decide +kernel
theorem dX11_rounds_35 : decode cX11_rounds 35 = .ok (.getfield 247, 3) := by decide +kernel
theorem dX11_rounds_38 : decode cX11_rounds 38 = .ok (.ireturn, 1) := by decide +kernel
theorem dX11_answer_0 : decode cX11_answer 0 = .ok (.aload_n 0, 1) := by decide +kernel
theorem dX11_answer_1 : decode cX11_answer 1 = .ok (.iload_n 1, 1) := by decide +kernel
theorem dX11_answer_2 : decode cX11_answer 2 = .ok (.iload_n 2, 1) := by decide +kernel
theorem dX11_answer_3 : decode cX11_answer 3 = .ok (.invokevirtual 224, 3) := by decide +kernel
theorem dX11_answer_6 : decode cX11_answer 6 = .ok (.ifCond .ne 5, 3) := by decide +kernel
theorem dX11_answer_9 : decode cX11_answer 9 = .ok (.iconst (-1), 1) := by decide +kernel
theorem dX11_answer_10 : decode cX11_answer 10 = .ok (.ireturn, 1) := by decide +kernel
theorem dX11_answer_11 : decode cX11_answer 11 = .ok (.aload_n 0, 1) := by decide +kernel
theorem dX11_answer_12 : decode cX11_answer 12 = .ok (.iload_n 1, 1) := by decide +kernel
theorem dX11_answer_13 : decode cX11_answer 13 = .ok (.iload_n 2, 1) := by decide +kernel
theorem dX11_answer_14 : decode cX11_answer 14 = .ok (.invokevirtual 240, 3) := by decide +kernel
theorem dX11_answer_17 : decode cX11_answer 17 = .ok (.aload_n 0, 1) := by decide +kernel
theorem dX11_answer_18 : decode cX11_answer 18 = .ok (.getfield 90, 3) := by decide +kernel
theorem dX11_answer_21 : decode cX11_answer 21 = .ok (.getfield 250, 3) := by decide +kernel
theorem dX11_answer_24 : decode cX11_answer 24 = .ok (.ireturn, 1) := by decide +kernel
theorem dX11_fills_0 : decode cX11_fills 0 = .ok (.aload_n 0, 1) := by decide +kernel
theorem dX11_fills_1 : decode cX11_fills 1 = .ok (.iload_n 1, 1) := by decide +kernel
theorem dX11_fills_2 : decode cX11_fills 2 = .ok (.iload_n 2, 1) := by decide +kernel
theorem dX11_fills_3 : decode cX11_fills 3 = .ok (.invokevirtual 224, 3) := by decide +kernel
theorem dX11_fills_6 : decode cX11_fills 6 = .ok (.ifCond .eq 10, 3) := by decide +kernel
theorem dX11_fills_9 : decode cX11_fills 9 = .ok (.iload_n 3, 1) := by decide +kernel
theorem dX11_fills_10 : decode cX11_fills 10 = .ok (.invokestatic 95, 3) := by decide +kernel
theorem dX11_fills_13 : decode cX11_fills 13 = .ok (.ifCond .ne 5, 3) := by decide +kernel
theorem dX11_fills_16 : decode cX11_fills 16 = .ok (.iconst (-1), 1) := by decide +kernel
theorem dX11_fills_17 : decode cX11_fills 17 = .ok (.ireturn, 1) := by decide +kernel
theorem dX11_fills_18 : decode cX11_fills 18 = .ok (.aload_n 0, 1) := by decide +kernel
theorem dX11_fills_19 : decode cX11_fills 19 = .ok (.iload_n 1, 1) := by decide +kernel
theorem dX11_fills_20 : decode cX11_fills 20 = .ok (.iload_n 2, 1) := by decide +kernel
theorem dX11_fills_21 : decode cX11_fills 21 = .ok (.invokevirtual 240, 3) := by decide +kernel
theorem dX11_fills_24 : decode cX11_fills 24 = .ok (.aload_n 0, 1) := by decide +kernel
theorem dX11_fills_25 : decode cX11_fills 25 = .ok (.getfield 90, 3) := by decide +kernel
theorem dX11_fills_28 : decode cX11_fills 28 = .ok (.getfield 250, 3) := by decide +kernel
theorem dX11_fills_31 : decode cX11_fills 31 = .ok (.iload_n 3, 1) := by decide +kernel
theorem dX11_fills_32 : decode cX11_fills 32 = .ok (.invokestatic 253, 3) := by decide +kernel
theorem dX11_fills_35 : decode cX11_fills 35 = .ok (.ireturn, 1) := by decide +kernel
theorem dX11_reason_0 : decode cX11_reason 0 = .ok (.aload_n 0, 1) := by decide +kernel
theorem dX11_reason_1 : decode cX11_reason 1 = .ok (.iload_n 1, 1) := by decide +kernel
theorem dX11_reason_2 : decode cX11_reason 2 = .ok (.iload_n 2, 1) := by decide +kernel
theorem dX11_reason_3 : decode cX11_reason 3 = .ok (.invokevirtual 224, 3) := by decide +kernel
theorem dX11_reason_6 : decode cX11_reason 6 = .ok (.ifCond .eq 10, 3) := by decide +kernel
theorem dX11_reason_9 : decode cX11_reason 9 = .ok (.iload_n 3, 1) := by decide +kernel
theorem dX11_reason_10 : decode cX11_reason 10 = .ok (.invokestatic 95, 3) := by decide +kernel
theorem dX11_reason_13 : decode cX11_reason 13 = .ok (.ifCond .ne 5, 3) := by decide +kernel
theorem dX11_reason_16 : decode cX11_reason 16 = .ok (.iconst (-1), 1) := by decide +kernel
theorem dX11_reason_17 : decode cX11_reason 17 = .ok (.ireturn, 1) := by decide +kernel
theorem dX11_reason_18 : decode cX11_reason 18 = .ok (.aload_n 0, 1) := by decide +kernel
theorem dX11_reason_19 : decode cX11_reason 19 = .ok (.iload_n 1, 1) := by decide +kernel
theorem dX11_reason_20 : decode cX11_reason 20 = .ok (.iload_n 2, 1) := by decide +kernel
theorem dX11_reason_21 : decode cX11_reason 21 = .ok (.invokevirtual 240, 3) := by decide +kernel
theorem dX11_reason_24 : decode cX11_reason 24 = .ok (.aload_n 0, 1) := by decide +kernel
theorem dX11_reason_25 : decode cX11_reason 25 = .ok (.getfield 90, 3) := by decide +kernel
theorem dX11_reason_28 : decode cX11_reason 28 = .ok (.iload_n 3, 1) := by decide +kernel
theorem dX11_reason_29 : decode cX11_reason 29 = .ok (.invokevirtual 256, 3) := by decide +kernel
theorem dX11_reason_32 : decode cX11_reason 32 = .ok (.ireturn, 1) := by decide +kernel
theorem dX11_open_0 : decode cX11_open 0 = .ok (.aload_n 0, 1) := by decide +kernel
theorem dX11_open_1 : decode cX11_open 1 = .ok (.iload_n 1, 1) := by decide +kernel
theorem dX11_open_2 : decode cX11_open 2 = .ok (.iload_n 2, 1) := by decide +kernel
theorem dX11_open_3 : decode cX11_open 3 = .ok (.invokevirtual 224, 3) := by decide +kernel
theorem dX11_open_6 : decode cX11_open 6 = .ok (.ifCond .ne 5, 3) := by decide +kernel
theorem dX11_open_9 : decode cX11_open 9 = .ok (.iconst (-1), 1) := by decide +kernel
theorem dX11_open_10 : decode cX11_open 10 = .ok (.ireturn, 1) := by decide +kernel
theorem dX11_open_11 : decode cX11_open 11 = .ok (.aload_n 0, 1) := by decide +kernel
theorem dX11_open_12 : decode cX11_open 12 = .ok (.iload_n 1, 1) := by decide +kernel
theorem dX11_open_13 : decode cX11_open 13 = .ok (.iload_n 2, 1) := by decide +kernel
theorem dX11_open_14 : decode cX11_open 14 = .ok (.invokevirtual 240, 3) := by decide +kernel
theorem dX11_open_17 : decode cX11_open 17 = .ok (.iload_n 3, 1) := by decide +kernel
theorem dX11_open_18 : decode cX11_open 18 = .ok (.ifCond .eq 13, 3) := by decide +kernel
theorem dX11_open_21 : decode cX11_open 21 = .ok (.aload_n 0, 1) := by decide +kernel
theorem dX11_open_22 : decode cX11_open 22 = .ok (.getfield 90, 3) := by decide +kernel
theorem dX11_open_25 : decode cX11_open 25 = .ok (.getfield 259, 3) := by decide +kernel
theorem dX11_open_28 : decode cX11_open 28 = .ok (.goto 10, 3) := by decide +kernel
theorem dX11_open_31 : decode cX11_open 31 = .ok (.aload_n 0, 1) := by decide +kernel
theorem dX11_open_32 : decode cX11_open 32 = .ok (.getfield 90, 3) := by decide +kernel
theorem dX11_open_35 : decode cX11_open 35 = .ok (.invokevirtual 262, 3) := by decide +kernel
theorem dX11_open_38 : decode cX11_open 38 = .ok (.ireturn, 1) := by decide +kernel
theorem dX11_holds_0 : decode cX11_holds 0 = .ok (.aload_n 0, 1) := by decide +kernel
theorem dX11_holds_1 : decode cX11_holds 1 = .ok (.iload_n 1, 1) := by decide +kernel
theorem dX11_holds_2 : decode cX11_holds 2 = .ok (.iload_n 2, 1) := by decide +kernel
theorem dX11_holds_3 : decode cX11_holds 3 = .ok (.invokevirtual 224, 3) := by decide +kernel
theorem dX11_holds_6 : decode cX11_holds 6 = .ok (.ifCond .ne 5, 3) := by decide +kernel
theorem dX11_holds_9 : decode cX11_holds 9 = .ok (.iconst (-1), 1) := by decide +kernel
theorem dX11_holds_10 : decode cX11_holds 10 = .ok (.ireturn, 1) := by decide +kernel
theorem dX11_holds_11 : decode cX11_holds 11 = .ok (.aload_n 0, 1) := by decide +kernel
theorem dX11_holds_12 : decode cX11_holds 12 = .ok (.iload_n 1, 1) := by decide +kernel
theorem dX11_holds_13 : decode cX11_holds 13 = .ok (.iload_n 2, 1) := by decide +kernel
theorem dX11_holds_14 : decode cX11_holds 14 = .ok (.invokevirtual 240, 3) := by decide +kernel
theorem dX11_holds_17 : decode cX11_holds 17 = .ok (.aload_n 0, 1) := by decide +kernel
theorem dX11_holds_18 : decode cX11_holds 18 = .ok (.getfield 90, 3) := by decide +kernel
theorem dX11_holds_21 : decode cX11_holds 21 = .ok (.invokevirtual 262, 3) := by decide +kernel
theorem dX11_holds_24 : decode cX11_holds 24 = .ok (.aload_n 0, 1) := by decide +kernel
theorem dX11_holds_25 : decode cX11_holds 25 = .ok (.getfield 90, 3) := by decide +kernel
theorem dX11_holds_28 : decode cX11_holds 28 = .ok (.getfield 259, 3) := by decide +kernel
theorem dX11_holds_31 : decode cX11_holds 31 = .ok (.ior, 1) := by decide +kernel
theorem dX11_holds_32 : decode cX11_holds 32 = .ok (.istore_n 3, 1) := by decide +kernel
theorem dX11_holds_33 : decode cX11_holds 33 = .ok (.iload_n 3, 1) := by decide +kernel
theorem dX11_holds_34 : decode cX11_holds 34 = .ok (.aload_n 0, 1) := by decide +kernel
theorem dX11_holds_35 : decode cX11_holds 35 = .ok (.getfield 12, 3) := by decide +kernel
theorem dX11_holds_38 : decode cX11_holds 38 = .ok (.getfield 102, 3) := by decide +kernel
theorem dX11_holds_41 : decode cX11_holds 41 = .ok (.iand, 1) := by decide +kernel
theorem dX11_holds_42 : decode cX11_holds 42 = .ok (.ifCond .ne 7, 3) := by decide +kernel
theorem dX11_holds_45 : decode cX11_holds 45 = .ok (.iconst 1, 1) := by decide +kernel
theorem dX11_holds_46 : decode cX11_holds 46 = .ok (.goto 4, 3) := by decide +kernel
theorem dX11_holds_49 : decode cX11_holds 49 = .ok (.iconst 0, 1) := by decide +kernel
theorem dX11_holds_50 : decode cX11_holds 50 = .ok (.ireturn, 1) := by decide +kernel
theorem dX11_judge_0 : decode cX11_judge 0 = .ok (.aload_n 0, 1) := by decide +kernel
theorem dX11_judge_1 : decode cX11_judge 1 = .ok (.iload_n 1, 1) := by decide +kernel
theorem dX11_judge_2 : decode cX11_judge 2 = .ok (.iload_n 2, 1) := by decide +kernel
theorem dX11_judge_3 : decode cX11_judge 3 = .ok (.invokevirtual 224, 3) := by decide +kernel
theorem dX11_judge_6 : decode cX11_judge 6 = .ok (.ifCond .ne 5, 3) := by decide +kernel
theorem dX11_judge_9 : decode cX11_judge 9 = .ok (.iconst (-1), 1) := by decide +kernel
theorem dX11_judge_10 : decode cX11_judge 10 = .ok (.ireturn, 1) := by decide +kernel
theorem dX11_judge_11 : decode cX11_judge 11 = .ok (.iload_n 3, 1) := by decide +kernel
theorem dX11_judge_12 : decode cX11_judge 12 = .ok (.invokestatic 227, 3) := by decide +kernel
theorem dX11_judge_15 : decode cX11_judge 15 = .ok (.ifCond .ne 6, 3) := by decide +kernel
theorem dX11_judge_18 : decode cX11_judge 18 = .ok (.bipush (-2), 2) := by decide +kernel
theorem dX11_judge_20 : decode cX11_judge 20 = .ok (.ireturn, 1) := by decide +kernel
theorem dX11_judge_21 : decode cX11_judge 21 = .ok (.aload_n 0, 1) := by decide +kernel
theorem dX11_judge_22 : decode cX11_judge 22 = .ok (.iload_n 1, 1) := by decide +kernel
theorem dX11_judge_23 : decode cX11_judge 23 = .ok (.iload_n 2, 1) := by decide +kernel
theorem dX11_judge_24 : decode cX11_judge 24 = .ok (.invokevirtual 240, 3) := by decide +kernel
theorem dX11_judge_27 : decode cX11_judge 27 = .ok (.iload_n 3, 1) := by decide +kernel
theorem dX11_judge_28 : decode cX11_judge 28 = .ok (.aload_n 0, 1) := by decide +kernel
theorem dX11_judge_29 : decode cX11_judge 29 = .ok (.getfield 90, 3) := by decide +kernel
theorem dX11_judge_32 : decode cX11_judge 32 = .ok (.getfield 250, 3) := by decide +kernel
theorem dX11_judge_35 : decode cX11_judge 35 = .ok (.invokestatic 265, 3) := by decide +kernel
theorem dX11_judge_38 : decode cX11_judge 38 = .ok (.istore 4, 2) := by decide +kernel
theorem dX11_judge_40 : decode cX11_judge 40 = .ok (.iload 4, 2) := by decide +kernel
theorem dX11_judge_42 : decode cX11_judge 42 = .ok (.ifCond .ne 8, 3) := by decide +kernel
theorem dX11_judge_45 : decode cX11_judge 45 = .ok (.bipush (-9), 2) := by decide +kernel
theorem dX11_judge_47 : decode cX11_judge 47 = .ok (.goto 8, 3) := by decide +kernel
theorem dX11_judge_50 : decode cX11_judge 50 = .ok (.iload 4, 2) := by decide +kernel
theorem dX11_judge_52 : decode cX11_judge 52 = .ok (.invokestatic 268, 3) := by decide +kernel
theorem dX11_judge_55 : decode cX11_judge 55 = .ok (.ireturn, 1) := by decide +kernel
theorem dX11_differ_0 : decode cX11_differ 0 = .ok (.aload_n 0, 1) := by decide +kernel
theorem dX11_differ_1 : decode cX11_differ 1 = .ok (.iload_n 1, 1) := by decide +kernel
theorem dX11_differ_2 : decode cX11_differ 2 = .ok (.iload_n 2, 1) := by decide +kernel
theorem dX11_differ_3 : decode cX11_differ 3 = .ok (.invokevirtual 224, 3) := by decide +kernel
theorem dX11_differ_6 : decode cX11_differ 6 = .ok (.ifCond .eq 10, 3) := by decide +kernel
theorem dX11_differ_9 : decode cX11_differ 9 = .ok (.iload_n 3, 1) := by decide +kernel
theorem dX11_differ_10 : decode cX11_differ 10 = .ok (.invokestatic 195, 3) := by decide +kernel
theorem dX11_differ_13 : decode cX11_differ 13 = .ok (.ifCond .ne 5, 3) := by decide +kernel
theorem dX11_differ_16 : decode cX11_differ 16 = .ok (.iconst (-1), 1) := by decide +kernel
theorem dX11_differ_17 : decode cX11_differ 17 = .ok (.ireturn, 1) := by decide +kernel
theorem dX11_differ_18 : decode cX11_differ 18 = .ok (.aload_n 0, 1) := by decide +kernel
theorem dX11_differ_19 : decode cX11_differ 19 = .ok (.iload_n 1, 1) := by decide +kernel
theorem dX11_differ_20 : decode cX11_differ 20 = .ok (.iload_n 2, 1) := by decide +kernel
theorem dX11_differ_21 : decode cX11_differ 21 = .ok (.invokevirtual 240, 3) := by decide +kernel
theorem dX11_differ_24 : decode cX11_differ 24 = .ok (.aload_n 0, 1) := by decide +kernel
theorem dX11_differ_25 : decode cX11_differ 25 = .ok (.getfield 90, 3) := by decide +kernel
theorem dX11_differ_28 : decode cX11_differ 28 = .ok (.getfield 250, 3) := by decide +kernel
theorem dX11_differ_31 : decode cX11_differ 31 = .ok (.istore 4, 2) := by decide +kernel
theorem dX11_differ_33 : decode cX11_differ 33 = .ok (.aload_n 0, 1) := by decide +kernel
theorem dX11_differ_34 : decode cX11_differ 34 = .ok (.getfield 90, 3) := by decide +kernel
theorem dX11_differ_37 : decode cX11_differ 37 = .ok (.aload_n 0, 1) := by decide +kernel
theorem dX11_differ_38 : decode cX11_differ 38 = .ok (.getfield 59, 3) := by decide +kernel
theorem dX11_differ_41 : decode cX11_differ 41 = .ok (.iload_n 3, 1) := by decide +kernel
theorem dX11_differ_42 : decode cX11_differ 42 = .ok (.aaload, 1) := by decide +kernel
theorem dX11_differ_43 : decode cX11_differ 43 = .ok (.invokevirtual 273, 3) := by decide +kernel
theorem dX11_differ_46 : decode cX11_differ 46 = .ok (.iload 4, 2) := by decide +kernel
theorem dX11_differ_48 : decode cX11_differ 48 = .ok (.aload_n 0, 1) := by decide +kernel
theorem dX11_differ_49 : decode cX11_differ 49 = .ok (.getfield 90, 3) := by decide +kernel
theorem dX11_differ_52 : decode cX11_differ 52 = .ok (.getfield 250, 3) := by decide +kernel
theorem dX11_differ_55 : decode cX11_differ 55 = .ok (.invokestatic 265, 3) := by decide +kernel
theorem dX11_differ_58 : decode cX11_differ 58 = .ok (.ireturn, 1) := by decide +kernel
theorem dX11_step_0 : decode cX11_step 0 = .ok (.aload_n 0, 1) := by decide +kernel
theorem dX11_step_1 : decode cX11_step 1 = .ok (.iload_n 1, 1) := by decide +kernel
theorem dX11_step_2 : decode cX11_step 2 = .ok (.iload_n 2, 1) := by decide +kernel
theorem dX11_step_3 : decode cX11_step 3 = .ok (.invokevirtual 224, 3) := by decide +kernel
theorem dX11_step_6 : decode cX11_step 6 = .ok (.ifCond .ne 5, 3) := by decide +kernel
theorem dX11_step_9 : decode cX11_step 9 = .ok (.iconst (-1), 1) := by decide +kernel
theorem dX11_step_10 : decode cX11_step 10 = .ok (.ireturn, 1) := by decide +kernel
theorem dX11_step_11 : decode cX11_step 11 = .ok (.aload_n 0, 1) := by decide +kernel
theorem dX11_step_12 : decode cX11_step 12 = .ok (.iload_n 1, 1) := by decide +kernel
theorem dX11_step_13 : decode cX11_step 13 = .ok (.iload_n 2, 1) := by decide +kernel
theorem dX11_step_14 : decode cX11_step 14 = .ok (.invokevirtual 240, 3) := by decide +kernel
theorem dX11_step_17 : decode cX11_step 17 = .ok (.aload_n 0, 1) := by decide +kernel
theorem dX11_step_18 : decode cX11_step 18 = .ok (.getfield 90, 3) := by decide +kernel
theorem dX11_step_21 : decode cX11_step 21 = .ok (.getfield 250, 3) := by decide +kernel
theorem dX11_step_24 : decode cX11_step 24 = .ok (.istore_n 3, 1) := by decide +kernel
theorem dX11_step_25 : decode cX11_step 25 = .ok (.bipush (-9), 2) := by decide +kernel
theorem dX11_step_27 : decode cX11_step 27 = .ok (.istore 4, 2) := by decide +kernel
theorem dX11_step_29 : decode cX11_step 29 = .ok (.iconst 0, 1) := by decide +kernel
theorem dX11_step_30 : decode cX11_step 30 = .ok (.istore 5, 2) := by decide +kernel
theorem dX11_step_32 : decode cX11_step 32 = .ok (.iconst 0, 1) := by decide +kernel
theorem dX11_step_33 : decode cX11_step 33 = .ok (.istore 6, 2) := by decide +kernel
theorem dX11_step_35 : decode cX11_step 35 = .ok (.iload 6, 2) := by decide +kernel
theorem dX11_step_37 : decode cX11_step 37 = .ok (.iconst 1, 1) := by decide +kernel
theorem dX11_step_38 : decode cX11_step 38 = .ok (.iadd, 1) := by decide +kernel
theorem dX11_step_39 : decode cX11_step 39 = .ok (.aload_n 0, 1) := by decide +kernel
theorem dX11_step_40 : decode cX11_step 40 = .ok (.getfield 59, 3) := by decide +kernel
theorem dX11_step_43 : decode cX11_step 43 = .ok (.iload_n 2, 1) := by decide +kernel
theorem dX11_step_44 : decode cX11_step 44 = .ok (.aaload, 1) := by decide +kernel
theorem dX11_step_45 : decode cX11_step 45 = .ok (.getfield 202, 3) := by decide +kernel
theorem dX11_step_48 : decode cX11_step 48 = .ok (.if_icmp .ge 39, 3) := by decide +kernel
theorem dX11_step_51 : decode cX11_step 51 = .ok (.aload_n 0, 1) := by decide +kernel
theorem dX11_step_52 : decode cX11_step 52 = .ok (.aload_n 0, 1) := by decide +kernel
theorem dX11_step_53 : decode cX11_step 53 = .ok (.getfield 59, 3) := by decide +kernel
theorem dX11_step_56 : decode cX11_step 56 = .ok (.iload_n 2, 1) := by decide +kernel
theorem dX11_step_57 : decode cX11_step 57 = .ok (.aaload, 1) := by decide +kernel
theorem dX11_step_58 : decode cX11_step 58 = .ok (.iload 6, 2) := by decide +kernel
theorem dX11_step_60 : decode cX11_step 60 = .ok (.iload_n 3, 1) := by decide +kernel
theorem dX11_step_61 : decode cX11_step 61 = .ok (.invokevirtual 275, 3) := by decide +kernel
theorem dX11_step_64 : decode cX11_step 64 = .ok (.istore 7, 2) := by decide +kernel
theorem dX11_step_66 : decode cX11_step 66 = .ok (.iload 7, 2) := by decide +kernel
theorem dX11_step_68 : decode cX11_step 68 = .ok (.iload 5, 2) := by decide +kernel
theorem dX11_step_70 : decode cX11_step 70 = .ok (.if_icmp .le 11, 3) := by decide +kernel
theorem dX11_step_73 : decode cX11_step 73 = .ok (.iload 7, 2) := by decide +kernel
theorem dX11_step_75 : decode cX11_step 75 = .ok (.istore 5, 2) := by decide +kernel
theorem dX11_step_77 : decode cX11_step 77 = .ok (.iload 6, 2) := by decide +kernel
theorem dX11_step_79 : decode cX11_step 79 = .ok (.istore 4, 2) := by decide +kernel
theorem dX11_step_81 : decode cX11_step 81 = .ok (.iinc 6 1, 3) := by decide +kernel
theorem dX11_step_84 : decode cX11_step 84 = .ok (.goto (-49), 3) := by decide +kernel
theorem dX11_step_87 : decode cX11_step 87 = .ok (.iload 4, 2) := by decide +kernel
theorem dX11_step_89 : decode cX11_step 89 = .ok (.ireturn, 1) := by decide +kernel
theorem dX11_moves_0 : decode cX11_moves 0 = .ok (.aload_n 0, 1) := by decide +kernel
theorem dX11_moves_1 : decode cX11_moves 1 = .ok (.iload_n 1, 1) := by decide +kernel
theorem dX11_moves_2 : decode cX11_moves 2 = .ok (.iload_n 2, 1) := by decide +kernel
theorem dX11_moves_3 : decode cX11_moves 3 = .ok (.invokevirtual 224, 3) := by decide +kernel
theorem dX11_moves_6 : decode cX11_moves 6 = .ok (.ifCond .ne 5, 3) := by decide +kernel
theorem dX11_moves_9 : decode cX11_moves 9 = .ok (.iconst (-1), 1) := by decide +kernel
theorem dX11_moves_10 : decode cX11_moves 10 = .ok (.ireturn, 1) := by decide +kernel
theorem dX11_moves_11 : decode cX11_moves 11 = .ok (.aload_n 0, 1) := by decide +kernel
theorem dX11_moves_12 : decode cX11_moves 12 = .ok (.iload_n 1, 1) := by decide +kernel
theorem dX11_moves_13 : decode cX11_moves 13 = .ok (.iload_n 2, 1) := by decide +kernel
theorem dX11_moves_14 : decode cX11_moves 14 = .ok (.invokevirtual 240, 3) := by decide +kernel
theorem dX11_moves_17 : decode cX11_moves 17 = .ok (.aload_n 0, 1) := by decide +kernel
theorem dX11_moves_18 : decode cX11_moves 18 = .ok (.getfield 90, 3) := by decide +kernel
theorem dX11_moves_21 : decode cX11_moves 21 = .ok (.getfield 250, 3) := by decide +kernel
theorem dX11_moves_24 : decode cX11_moves 24 = .ok (.istore_n 3, 1) := by decide +kernel
theorem dX11_moves_25 : decode cX11_moves 25 = .ok (.iconst 0, 1) := by decide +kernel
theorem dX11_moves_26 : decode cX11_moves 26 = .ok (.istore 4, 2) := by decide +kernel
theorem dX11_moves_28 : decode cX11_moves 28 = .ok (.iconst 0, 1) := by decide +kernel
theorem dX11_moves_29 : decode cX11_moves 29 = .ok (.istore 5, 2) := by decide +kernel
theorem dX11_moves_31 : decode cX11_moves 31 = .ok (.iload 5, 2) := by decide +kernel
theorem dX11_moves_33 : decode cX11_moves 33 = .ok (.iconst 1, 1) := by decide +kernel
theorem dX11_moves_34 : decode cX11_moves 34 = .ok (.iadd, 1) := by decide +kernel
theorem dX11_moves_35 : decode cX11_moves 35 = .ok (.aload_n 0, 1) := by decide +kernel
theorem dX11_moves_36 : decode cX11_moves 36 = .ok (.getfield 59, 3) := by decide +kernel
theorem dX11_moves_39 : decode cX11_moves 39 = .ok (.iload_n 2, 1) := by decide +kernel
theorem dX11_moves_40 : decode cX11_moves 40 = .ok (.aaload, 1) := by decide +kernel
theorem dX11_moves_41 : decode cX11_moves 41 = .ok (.getfield 202, 3) := by decide +kernel
theorem dX11_moves_44 : decode cX11_moves 44 = .ok (.if_icmp .ge 29, 3) := by decide +kernel
theorem dX11_moves_47 : decode cX11_moves 47 = .ok (.iload 4, 2) := by decide +kernel
theorem dX11_moves_49 : decode cX11_moves 49 = .ok (.aload_n 0, 1) := by decide +kernel
theorem dX11_moves_50 : decode cX11_moves 50 = .ok (.aload_n 0, 1) := by decide +kernel
theorem dX11_moves_51 : decode cX11_moves 51 = .ok (.getfield 59, 3) := by decide +kernel
theorem dX11_moves_54 : decode cX11_moves 54 = .ok (.iload_n 2, 1) := by decide +kernel
theorem dX11_moves_55 : decode cX11_moves 55 = .ok (.aaload, 1) := by decide +kernel
theorem dX11_moves_56 : decode cX11_moves 56 = .ok (.iload 5, 2) := by decide +kernel
theorem dX11_moves_58 : decode cX11_moves 58 = .ok (.iload_n 3, 1) := by decide +kernel
theorem dX11_moves_59 : decode cX11_moves 59 = .ok (.invokevirtual 275, 3) := by decide +kernel
theorem dX11_moves_62 : decode cX11_moves 62 = .ok (.invokestatic 279, 3) := by decide +kernel
theorem dX11_moves_65 : decode cX11_moves 65 = .ok (.istore 4, 2) := by decide +kernel
theorem dX11_moves_67 : decode cX11_moves 67 = .ok (.iinc 5 1, 3) := by decide +kernel
theorem dX11_moves_70 : decode cX11_moves 70 = .ok (.goto (-39), 3) := by decide +kernel
theorem dX11_moves_73 : decode cX11_moves 73 = .ok (.iload 4, 2) := by decide +kernel
theorem dX11_moves_75 : decode cX11_moves 75 = .ok (.ireturn, 1) := by decide +kernel
theorem dX11_think_0 : decode cX11_think 0 = .ok (.aload_n 0, 1) := by decide +kernel
theorem dX11_think_1 : decode cX11_think 1 = .ok (.iload_n 1, 1) := by decide +kernel
theorem dX11_think_2 : decode cX11_think 2 = .ok (.invokevirtual 210, 3) := by decide +kernel
theorem dX11_think_5 : decode cX11_think 5 = .ok (.ifCond .eq 10, 3) := by decide +kernel
theorem dX11_think_8 : decode cX11_think 8 = .ok (.iload_n 3, 1) := by decide +kernel
theorem dX11_think_9 : decode cX11_think 9 = .ok (.invokestatic 95, 3) := by decide +kernel
theorem dX11_think_12 : decode cX11_think 12 = .ok (.ifCond .ne 5, 3) := by decide +kernel
theorem dX11_think_15 : decode cX11_think 15 = .ok (.iconst (-1), 1) := by decide +kernel
theorem dX11_think_16 : decode cX11_think 16 = .ok (.ireturn, 1) := by decide +kernel
theorem dX11_think_17 : decode cX11_think 17 = .ok (.iload_n 2, 1) := by decide +kernel
theorem dX11_think_18 : decode cX11_think 18 = .ok (.invokestatic 284, 3) := by decide +kernel
theorem dX11_think_21 : decode cX11_think 21 = .ok (.ifCond .eq 14, 3) := by decide +kernel
theorem dX11_think_24 : decode cX11_think 24 = .ok (.iload 4, 2) := by decide +kernel
theorem dX11_think_26 : decode cX11_think 26 = .ok (.ifCond .lt 9, 3) := by decide +kernel
theorem dX11_think_29 : decode cX11_think 29 = .ok (.iload 4, 2) := by decide +kernel
theorem dX11_think_31 : decode cX11_think 31 = .ok (.iconst 5, 1) := by decide +kernel
theorem dX11_think_32 : decode cX11_think 32 = .ok (.if_icmp .le 6, 3) := by decide +kernel
theorem dX11_think_35 : decode cX11_think 35 = .ok (.bipush (-2), 2) := by decide +kernel
theorem dX11_think_37 : decode cX11_think 37 = .ok (.ireturn, 1) := by decide +kernel
theorem dX11_think_38 : decode cX11_think 38 = .ok (.aload_n 0, 1) := by decide +kernel
theorem dX11_think_39 : decode cX11_think 39 = .ok (.getfield 65, 3) := by decide +kernel
theorem dX11_think_42 : decode cX11_think 42 = .ok (.iload_n 1, 1) := by decide +kernel
theorem dX11_think_43 : decode cX11_think 43 = .ok (.aaload, 1) := by decide +kernel
theorem dX11_think_44 : decode cX11_think 44 = .ok (.getfield 287, 3) := by decide +kernel
theorem dX11_think_47 : decode cX11_think 47 = .ok (.iload_n 2, 1) := by decide +kernel
theorem dX11_think_48 : decode cX11_think 48 = .ok (.aaload, 1) := by decide +kernel
theorem dX11_think_49 : decode cX11_think 49 = .ok (.iload_n 3, 1) := by decide +kernel
theorem dX11_think_50 : decode cX11_think 50 = .ok (.iaload, 1) := by decide +kernel
theorem dX11_think_51 : decode cX11_think 51 = .ok (.istore 5, 2) := by decide +kernel
theorem dX11_think_53 : decode cX11_think 53 = .ok (.aload_n 0, 1) := by decide +kernel
theorem dX11_think_54 : decode cX11_think 54 = .ok (.getfield 65, 3) := by decide +kernel
theorem dX11_think_57 : decode cX11_think 57 = .ok (.iload_n 1, 1) := by decide +kernel
theorem dX11_think_58 : decode cX11_think 58 = .ok (.aaload, 1) := by decide +kernel
theorem dX11_think_59 : decode cX11_think 59 = .ok (.getfield 287, 3) := by decide +kernel
theorem dX11_think_62 : decode cX11_think 62 = .ok (.iload_n 2, 1) := by decide +kernel
theorem dX11_think_63 : decode cX11_think 63 = .ok (.aaload, 1) := by decide +kernel
theorem dX11_think_64 : decode cX11_think 64 = .ok (.iload_n 3, 1) := by decide +kernel
theorem dX11_think_65 : decode cX11_think 65 = .ok (.iload 4, 2) := by decide +kernel
theorem dX11_think_67 : decode cX11_think 67 = .ok (.iastore, 1) := by decide +kernel
theorem dX11_think_68 : decode cX11_think 68 = .ok (.iload 5, 2) := by decide +kernel
theorem dX11_think_70 : decode cX11_think 70 = .ok (.ireturn, 1) := by decide +kernel
theorem dX11_part_0 : decode cX11_part 0 = .ok (.aload_n 0, 1) := by decide +kernel
theorem dX11_part_1 : decode cX11_part 1 = .ok (.iload_n 1, 1) := by decide +kernel
theorem dX11_part_2 : decode cX11_part 2 = .ok (.invokevirtual 210, 3) := by decide +kernel
theorem dX11_part_5 : decode cX11_part 5 = .ok (.ifCond .ne 5, 3) := by decide +kernel
theorem dX11_part_8 : decode cX11_part 8 = .ok (.iconst (-1), 1) := by decide +kernel
theorem dX11_part_9 : decode cX11_part 9 = .ok (.ireturn, 1) := by decide +kernel
theorem dX11_part_10 : decode cX11_part 10 = .ok (.aload_n 0, 1) := by decide +kernel
theorem dX11_part_11 : decode cX11_part 11 = .ok (.getfield 65, 3) := by decide +kernel
theorem dX11_part_14 : decode cX11_part 14 = .ok (.iload_n 1, 1) := by decide +kernel
theorem dX11_part_15 : decode cX11_part 15 = .ok (.aaload, 1) := by decide +kernel
theorem dX11_part_16 : decode cX11_part 16 = .ok (.invokevirtual 291, 3) := by decide +kernel
theorem dX11_part_19 : decode cX11_part 19 = .ok (.ireturn, 1) := by decide +kernel
theorem dX11_far_0 : decode cX11_far 0 = .ok (.aload_n 0, 1) := by decide +kernel
theorem dX11_far_1 : decode cX11_far 1 = .ok (.iload_n 1, 1) := by decide +kernel
theorem dX11_far_2 : decode cX11_far 2 = .ok (.iload_n 2, 1) := by decide +kernel
theorem dX11_far_3 : decode cX11_far 3 = .ok (.invokevirtual 224, 3) := by decide +kernel
theorem dX11_far_6 : decode cX11_far 6 = .ok (.ifCond .ne 5, 3) := by decide +kernel
theorem dX11_far_9 : decode cX11_far 9 = .ok (.iconst (-1), 1) := by decide +kernel
theorem dX11_far_10 : decode cX11_far 10 = .ok (.ireturn, 1) := by decide +kernel
theorem dX11_far_11 : decode cX11_far 11 = .ok (.iload_n 3, 1) := by decide +kernel
theorem dX11_far_12 : decode cX11_far 12 = .ok (.invokestatic 284, 3) := by decide +kernel
theorem dX11_far_15 : decode cX11_far 15 = .ok (.ifCond .ne 6, 3) := by decide +kernel
theorem dX11_far_18 : decode cX11_far 18 = .ok (.bipush (-2), 2) := by decide +kernel
theorem dX11_far_20 : decode cX11_far 20 = .ok (.ireturn, 1) := by decide +kernel
theorem dX11_far_21 : decode cX11_far 21 = .ok (.aload_n 0, 1) := by decide +kernel
theorem dX11_far_22 : decode cX11_far 22 = .ok (.iload_n 1, 1) := by decide +kernel
theorem dX11_far_23 : decode cX11_far 23 = .ok (.iload_n 2, 1) := by decide +kernel
theorem dX11_far_24 : decode cX11_far 24 = .ok (.invokevirtual 240, 3) := by decide +kernel
theorem dX11_far_27 : decode cX11_far 27 = .ok (.aload_n 0, 1) := by decide +kernel
theorem dX11_far_28 : decode cX11_far 28 = .ok (.getfield 65, 3) := by decide +kernel
theorem dX11_far_31 : decode cX11_far 31 = .ok (.iload_n 1, 1) := by decide +kernel
theorem dX11_far_32 : decode cX11_far 32 = .ok (.aaload, 1) := by decide +kernel
theorem dX11_far_33 : decode cX11_far 33 = .ok (.iload_n 3, 1) := by decide +kernel
theorem dX11_far_34 : decode cX11_far 34 = .ok (.aload_n 0, 1) := by decide +kernel
theorem dX11_far_35 : decode cX11_far 35 = .ok (.getfield 90, 3) := by decide +kernel
theorem dX11_far_38 : decode cX11_far 38 = .ok (.getfield 250, 3) := by decide +kernel
theorem dX11_far_41 : decode cX11_far 41 = .ok (.invokevirtual 294, 3) := by decide +kernel
theorem dX11_far_44 : decode cX11_far 44 = .ok (.ireturn, 1) := by decide +kernel
theorem dX11_words_0 : decode cX11_words 0 = .ok (.aload_n 0, 1) := by decide +kernel
theorem dX11_words_1 : decode cX11_words 1 = .ok (.iload_n 1, 1) := by decide +kernel
theorem dX11_words_2 : decode cX11_words 2 = .ok (.invokevirtual 210, 3) := by decide +kernel
theorem dX11_words_5 : decode cX11_words 5 = .ok (.ifCond .ne 5, 3) := by decide +kernel
theorem dX11_words_8 : decode cX11_words 8 = .ok (.iconst (-1), 1) := by decide +kernel
theorem dX11_words_9 : decode cX11_words 9 = .ok (.ireturn, 1) := by decide +kernel
theorem dX11_words_10 : decode cX11_words 10 = .ok (.iload_n 2, 1) := by decide +kernel
theorem dX11_words_11 : decode cX11_words 11 = .ok (.iconst 1, 1) := by decide +kernel
theorem dX11_words_12 : decode cX11_words 12 = .ok (.if_icmp .lt 9, 3) := by decide +kernel
theorem dX11_words_15 : decode cX11_words 15 = .ok (.iload_n 2, 1) := by decide +kernel
theorem dX11_words_16 : decode cX11_words 16 = .ok (.bipush 16, 2) := by decide +kernel
theorem dX11_words_18 : decode cX11_words 18 = .ok (.if_icmp .lt 6, 3) := by decide +kernel
theorem dX11_words_21 : decode cX11_words 21 = .ok (.bipush (-2), 2) := by decide +kernel
theorem dX11_words_23 : decode cX11_words 23 = .ok (.ireturn, 1) := by decide +kernel
theorem dX11_words_24 : decode cX11_words 24 = .ok (.aload_n 0, 1) := by decide +kernel
theorem dX11_words_25 : decode cX11_words 25 = .ok (.getfield 90, 3) := by decide +kernel
theorem dX11_words_28 : decode cX11_words 28 = .ok (.aload_n 0, 1) := by decide +kernel
theorem dX11_words_29 : decode cX11_words 29 = .ok (.getfield 65, 3) := by decide +kernel
theorem dX11_words_32 : decode cX11_words 32 = .ok (.iload_n 1, 1) := by decide +kernel
theorem dX11_words_33 : decode cX11_words 33 = .ok (.aaload, 1) := by decide +kernel
theorem dX11_words_34 : decode cX11_words 34 = .ok (.aload_n 0, 1) := by decide +kernel
theorem dX11_words_35 : decode cX11_words 35 = .ok (.getfield 31, 3) := by decide +kernel
theorem dX11_words_38 : decode cX11_words 38 = .ok (.invokevirtual 230, 3) := by decide +kernel
theorem dX11_words_41 : decode cX11_words 41 = .ok (.aload_n 0, 1) := by decide +kernel
theorem dX11_words_42 : decode cX11_words 42 = .ok (.getfield 65, 3) := by decide +kernel
theorem dX11_words_45 : decode cX11_words 45 = .ok (.iload_n 1, 1) := by decide +kernel
theorem dX11_words_46 : decode cX11_words 46 = .ok (.aaload, 1) := by decide +kernel
theorem dX11_words_47 : decode cX11_words 47 = .ok (.invokevirtual 297, 3) := by decide +kernel
theorem dX11_words_50 : decode cX11_words 50 = .ok (.istore_n 3, 1) := by decide +kernel
theorem dX11_words_51 : decode cX11_words 51 = .ok (.iconst 0, 1) := by decide +kernel
theorem dX11_words_52 : decode cX11_words 52 = .ok (.istore 4, 2) := by decide +kernel
theorem dX11_words_54 : decode cX11_words 54 = .ok (.iload 4, 2) := by decide +kernel
theorem dX11_words_56 : decode cX11_words 56 = .ok (.bipush 6, 2) := by decide +kernel
theorem dX11_words_58 : decode cX11_words 58 = .ok (.if_icmp .gt 75, 3) := by decide +kernel
theorem dX11_words_61 : decode cX11_words 61 = .ok (.iconst 0, 1) := by decide +kernel
theorem dX11_words_62 : decode cX11_words 62 = .ok (.istore 5, 2) := by decide +kernel
theorem dX11_words_64 : decode cX11_words 64 = .ok (.iload 5, 2) := by decide +kernel
theorem dX11_words_66 : decode cX11_words 66 = .ok (.bipush 64, 2) := by decide +kernel
theorem dX11_words_68 : decode cX11_words 68 = .ok (.if_icmp .ge 59, 3) := by decide +kernel
theorem dX11_words_71 : decode cX11_words 71 = .ok (.iload 5, 2) := by decide +kernel
theorem dX11_words_73 : decode cX11_words 73 = .ok (.invokestatic 300, 3) := by decide +kernel
theorem dX11_words_76 : decode cX11_words 76 = .ok (.iload 4, 2) := by decide +kernel
theorem dX11_words_78 : decode cX11_words 78 = .ok (.if_icmp .ne 16, 3) := by decide +kernel
theorem dX11_words_81 : decode cX11_words 81 = .ok (.iload 5, 2) := by decide +kernel
theorem dX11_words_83 : decode cX11_words 83 = .ok (.iload_n 3, 1) := by decide +kernel
theorem dX11_words_84 : decode cX11_words 84 = .ok (.iconst (-1), 1) := by decide +kernel
theorem dX11_words_85 : decode cX11_words 85 = .ok (.ixor, 1) := by decide +kernel
theorem dX11_words_86 : decode cX11_words 86 = .ok (.iand, 1) := by decide +kernel
theorem dX11_words_87 : decode cX11_words 87 = .ok (.ifCond .ne 7, 3) := by decide +kernel
theorem dX11_words_90 : decode cX11_words 90 = .ok (.iconst 1, 1) := by decide +kernel
theorem dX11_words_91 : decode cX11_words 91 = .ok (.goto 4, 3) := by decide +kernel
theorem dX11_words_94 : decode cX11_words 94 = .ok (.iconst 0, 1) := by decide +kernel
theorem dX11_words_95 : decode cX11_words 95 = .ok (.istore 6, 2) := by decide +kernel
theorem dX11_words_97 : decode cX11_words 97 = .ok (.iload 6, 2) := by decide +kernel
theorem dX11_words_99 : decode cX11_words 99 = .ok (.ifCond .eq 22, 3) := by decide +kernel
theorem dX11_words_102 : decode cX11_words 102 = .ok (.aload_n 0, 1) := by decide +kernel
theorem dX11_words_103 : decode cX11_words 103 = .ok (.aload_n 0, 1) := by decide +kernel
theorem dX11_words_104 : decode cX11_words 104 = .ok (.getfield 65, 3) := by decide +kernel
theorem dX11_words_107 : decode cX11_words 107 = .ok (.iload_n 1, 1) := by decide +kernel
theorem dX11_words_108 : decode cX11_words 108 = .ok (.aaload, 1) := by decide +kernel
theorem dX11_words_109 : decode cX11_words 109 = .ok (.iload 5, 2) := by decide +kernel
theorem dX11_words_111 : decode cX11_words 111 = .ok (.iload_n 2, 1) := by decide +kernel
theorem dX11_words_112 : decode cX11_words 112 = .ok (.invokevirtual 303, 3) := by decide +kernel
theorem dX11_words_115 : decode cX11_words 115 = .ok (.ifCond .eq 6, 3) := by decide +kernel
theorem dX11_words_118 : decode cX11_words 118 = .ok (.iload 5, 2) := by decide +kernel
theorem dX11_words_120 : decode cX11_words 120 = .ok (.ireturn, 1) := by decide +kernel
theorem dX11_words_121 : decode cX11_words 121 = .ok (.iinc 5 1, 3) := by decide +kernel
theorem dX11_words_124 : decode cX11_words 124 = .ok (.goto (-60), 3) := by decide +kernel
theorem dX11_words_127 : decode cX11_words 127 = .ok (.iinc 4 1, 3) := by decide +kernel
theorem dX11_words_130 : decode cX11_words 130 = .ok (.goto (-76), 3) := by decide +kernel
theorem dX11_words_133 : decode cX11_words 133 = .ok (.bipush (-9), 2) := by decide +kernel
theorem dX11_words_135 : decode cX11_words 135 = .ok (.ireturn, 1) := by decide +kernel
theorem dX11_worth_0 : decode cX11_worth 0 = .ok (.iload_n 1, 1) := by decide +kernel
theorem dX11_worth_1 : decode cX11_worth 1 = .ok (.invokestatic 195, 3) := by decide +kernel
theorem dX11_worth_4 : decode cX11_worth 4 = .ok (.ifCond .eq 10, 3) := by decide +kernel
theorem dX11_worth_7 : decode cX11_worth 7 = .ok (.iload_n 2, 1) := by decide +kernel
theorem dX11_worth_8 : decode cX11_worth 8 = .ok (.invokestatic 95, 3) := by decide +kernel
theorem dX11_worth_11 : decode cX11_worth 11 = .ok (.ifCond .ne 5, 3) := by decide +kernel
theorem dX11_worth_14 : decode cX11_worth 14 = .ok (.iconst (-1), 1) := by decide +kernel
theorem dX11_worth_15 : decode cX11_worth 15 = .ok (.ireturn, 1) := by decide +kernel
theorem dX11_worth_16 : decode cX11_worth 16 = .ok (.iload_n 3, 1) := by decide +kernel
theorem dX11_worth_17 : decode cX11_worth 17 = .ok (.invokestatic 113, 3) := by decide +kernel
theorem dX11_worth_20 : decode cX11_worth 20 = .ok (.ifCond .ne 6, 3) := by decide +kernel
theorem dX11_worth_23 : decode cX11_worth 23 = .ok (.bipush (-2), 2) := by decide +kernel
theorem dX11_worth_25 : decode cX11_worth 25 = .ok (.ireturn, 1) := by decide +kernel
theorem dX11_worth_26 : decode cX11_worth 26 = .ok (.aload_n 0, 1) := by decide +kernel
theorem dX11_worth_27 : decode cX11_worth 27 = .ok (.iload_n 1, 1) := by decide +kernel
theorem dX11_worth_28 : decode cX11_worth 28 = .ok (.iload_n 2, 1) := by decide +kernel
theorem dX11_worth_29 : decode cX11_worth 29 = .ok (.iload_n 3, 1) := by decide +kernel
theorem dX11_worth_30 : decode cX11_worth 30 = .ok (.invokevirtual 307, 3) := by decide +kernel
theorem dX11_worth_33 : decode cX11_worth 33 = .ok (.ireturn, 1) := by decide +kernel
theorem dX11_best_0 : decode cX11_best 0 = .ok (.iload_n 1, 1) := by decide +kernel
theorem dX11_best_1 : decode cX11_best 1 = .ok (.invokestatic 195, 3) := by decide +kernel
theorem dX11_best_4 : decode cX11_best 4 = .ok (.ifCond .eq 10, 3) := by decide +kernel
theorem dX11_best_7 : decode cX11_best 7 = .ok (.iload_n 2, 1) := by decide +kernel
theorem dX11_best_8 : decode cX11_best 8 = .ok (.invokestatic 95, 3) := by decide +kernel
theorem dX11_best_11 : decode cX11_best 11 = .ok (.ifCond .ne 5, 3) := by decide +kernel
theorem dX11_best_14 : decode cX11_best 14 = .ok (.iconst (-1), 1) := by decide +kernel
theorem dX11_best_15 : decode cX11_best 15 = .ok (.ireturn, 1) := by decide +kernel
theorem dX11_best_16 : decode cX11_best 16 = .ok (.bipush (-9), 2) := by decide +kernel
theorem dX11_best_18 : decode cX11_best 18 = .ok (.istore_n 3, 1) := by decide +kernel
theorem dX11_best_19 : decode cX11_best 19 = .ok (.iconst (-1), 1) := by decide +kernel
theorem dX11_best_20 : decode cX11_best 20 = .ok (.istore 4, 2) := by decide +kernel
theorem dX11_best_22 : decode cX11_best 22 = .ok (.iconst 1, 1) := by decide +kernel
theorem dX11_best_23 : decode cX11_best 23 = .ok (.istore 5, 2) := by decide +kernel
theorem dX11_best_25 : decode cX11_best 25 = .ok (.iload 5, 2) := by decide +kernel
theorem dX11_best_27 : decode cX11_best 27 = .ok (.aload_n 0, 1) := by decide +kernel
theorem dX11_best_28 : decode cX11_best 28 = .ok (.getfield 12, 3) := by decide +kernel
theorem dX11_best_31 : decode cX11_best 31 = .ok (.getfield 99, 3) := by decide +kernel
theorem dX11_best_34 : decode cX11_best 34 = .ok (.iload_n 2, 1) := by decide +kernel
theorem dX11_best_35 : decode cX11_best 35 = .ok (.iaload, 1) := by decide +kernel
theorem dX11_best_36 : decode cX11_best 36 = .ok (.if_icmp .gt 33, 3) := by decide +kernel
theorem dX11_best_39 : decode cX11_best 39 = .ok (.aload_n 0, 1) := by decide +kernel
theorem dX11_best_40 : decode cX11_best 40 = .ok (.iload_n 1, 1) := by decide +kernel
theorem dX11_best_41 : decode cX11_best 41 = .ok (.iload_n 2, 1) := by decide +kernel
theorem dX11_best_42 : decode cX11_best 42 = .ok (.iload 5, 2) := by decide +kernel
theorem dX11_best_44 : decode cX11_best 44 = .ok (.invokevirtual 307, 3) := by decide +kernel
theorem dX11_best_47 : decode cX11_best 47 = .ok (.istore 6, 2) := by decide +kernel
theorem dX11_best_49 : decode cX11_best 49 = .ok (.iload 6, 2) := by decide +kernel
theorem dX11_best_51 : decode cX11_best 51 = .ok (.iload 4, 2) := by decide +kernel
theorem dX11_best_53 : decode cX11_best 53 = .ok (.if_icmp .le 10, 3) := by decide +kernel
theorem dX11_best_56 : decode cX11_best 56 = .ok (.iload 6, 2) := by decide +kernel
theorem dX11_best_58 : decode cX11_best 58 = .ok (.istore 4, 2) := by decide +kernel
theorem dX11_best_60 : decode cX11_best 60 = .ok (.iload 5, 2) := by decide +kernel
theorem dX11_best_62 : decode cX11_best 62 = .ok (.istore_n 3, 1) := by decide +kernel
theorem dX11_best_63 : decode cX11_best 63 = .ok (.iinc 5 1, 3) := by decide +kernel
theorem dX11_best_66 : decode cX11_best 66 = .ok (.goto (-41), 3) := by decide +kernel
theorem dX11_best_69 : decode cX11_best 69 = .ok (.iload_n 3, 1) := by decide +kernel
theorem dX11_best_70 : decode cX11_best 70 = .ok (.ireturn, 1) := by decide +kernel
theorem dX11_keep_0 : decode cX11_keep 0 = .ok (.iload_n 1, 1) := by decide +kernel
theorem dX11_keep_1 : decode cX11_keep 1 = .ok (.invokestatic 311, 3) := by decide +kernel
theorem dX11_keep_4 : decode cX11_keep 4 = .ok (.ifCond .ne 5, 3) := by decide +kernel
theorem dX11_keep_7 : decode cX11_keep 7 = .ok (.iconst (-1), 1) := by decide +kernel
theorem dX11_keep_8 : decode cX11_keep 8 = .ok (.ireturn, 1) := by decide +kernel
theorem dX11_keep_9 : decode cX11_keep 9 = .ok (.aload_n 0, 1) := by decide +kernel
theorem dX11_keep_10 : decode cX11_keep 10 = .ok (.getfield 35, 3) := by decide +kernel
theorem dX11_keep_13 : decode cX11_keep 13 = .ok (.iload_n 1, 1) := by decide +kernel
theorem dX11_keep_14 : decode cX11_keep 14 = .ok (.aaload, 1) := by decide +kernel
theorem dX11_keep_15 : decode cX11_keep 15 = .ok (.aload_n 0, 1) := by decide +kernel
theorem dX11_keep_16 : decode cX11_keep 16 = .ok (.getfield 31, 3) := by decide +kernel
theorem dX11_keep_19 : decode cX11_keep 19 = .ok (.invokevirtual 314, 3) := by decide +kernel
theorem dX11_keep_22 : decode cX11_keep 22 = .ok (.aload_n 0, 1) := by decide +kernel
theorem dX11_keep_23 : decode cX11_keep 23 = .ok (.getfield 39, 3) := by decide +kernel
theorem dX11_keep_26 : decode cX11_keep 26 = .ok (.iload_n 1, 1) := by decide +kernel
theorem dX11_keep_27 : decode cX11_keep 27 = .ok (.iconst 1, 1) := by decide +kernel
theorem dX11_keep_28 : decode cX11_keep 28 = .ok (.bastore, 1) := by decide +kernel
theorem dX11_keep_29 : decode cX11_keep 29 = .ok (.aload_n 0, 1) := by decide +kernel
theorem dX11_keep_30 : decode cX11_keep 30 = .ok (.getfield 31, 3) := by decide +kernel
theorem dX11_keep_33 : decode cX11_keep 33 = .ok (.getfield 128, 3) := by decide +kernel
theorem dX11_keep_36 : decode cX11_keep 36 = .ok (.ireturn, 1) := by decide +kernel
theorem dX11_again_0 : decode cX11_again 0 = .ok (.iload_n 1, 1) := by decide +kernel
theorem dX11_again_1 : decode cX11_again 1 = .ok (.invokestatic 311, 3) := by decide +kernel
theorem dX11_again_4 : decode cX11_again 4 = .ok (.ifCond .ne 5, 3) := by decide +kernel
theorem dX11_again_7 : decode cX11_again 7 = .ok (.iconst (-1), 1) := by decide +kernel
theorem dX11_again_8 : decode cX11_again 8 = .ok (.ireturn, 1) := by decide +kernel
theorem dX11_again_9 : decode cX11_again 9 = .ok (.aload_n 0, 1) := by decide +kernel
theorem dX11_again_10 : decode cX11_again 10 = .ok (.getfield 39, 3) := by decide +kernel
theorem dX11_again_13 : decode cX11_again 13 = .ok (.iload_n 1, 1) := by decide +kernel
theorem dX11_again_14 : decode cX11_again 14 = .ok (.baload, 1) := by decide +kernel
theorem dX11_again_15 : decode cX11_again 15 = .ok (.ifCond .ne 6, 3) := by decide +kernel
theorem dX11_again_18 : decode cX11_again 18 = .ok (.bipush (-3), 2) := by decide +kernel
theorem dX11_again_20 : decode cX11_again 20 = .ok (.ireturn, 1) := by decide +kernel
theorem dX11_again_21 : decode cX11_again 21 = .ok (.aload_n 0, 1) := by decide +kernel
theorem dX11_again_22 : decode cX11_again 22 = .ok (.getfield 31, 3) := by decide +kernel
theorem dX11_again_25 : decode cX11_again 25 = .ok (.aload_n 0, 1) := by decide +kernel
theorem dX11_again_26 : decode cX11_again 26 = .ok (.getfield 35, 3) := by decide +kernel
theorem dX11_again_29 : decode cX11_again 29 = .ok (.iload_n 1, 1) := by decide +kernel
theorem dX11_again_30 : decode cX11_again 30 = .ok (.aaload, 1) := by decide +kernel
theorem dX11_again_31 : decode cX11_again 31 = .ok (.invokevirtual 314, 3) := by decide +kernel
theorem dX11_again_34 : decode cX11_again 34 = .ok (.aload_n 0, 1) := by decide +kernel
theorem dX11_again_35 : decode cX11_again 35 = .ok (.getfield 31, 3) := by decide +kernel
theorem dX11_again_38 : decode cX11_again 38 = .ok (.getfield 128, 3) := by decide +kernel
theorem dX11_again_41 : decode cX11_again 41 = .ok (.ireturn, 1) := by decide +kernel
theorem dX11_since_0 : decode cX11_since 0 = .ok (.iload_n 1, 1) := by decide +kernel
theorem dX11_since_1 : decode cX11_since 1 = .ok (.invokestatic 195, 3) := by decide +kernel
theorem dX11_since_4 : decode cX11_since 4 = .ok (.ifCond .eq 10, 3) := by decide +kernel
theorem dX11_since_7 : decode cX11_since 7 = .ok (.iload_n 2, 1) := by decide +kernel
theorem dX11_since_8 : decode cX11_since 8 = .ok (.invokestatic 311, 3) := by decide +kernel
theorem dX11_since_11 : decode cX11_since 11 = .ok (.ifCond .ne 5, 3) := by decide +kernel
theorem dX11_since_14 : decode cX11_since 14 = .ok (.iconst (-1), 1) := by decide +kernel
theorem dX11_since_15 : decode cX11_since 15 = .ok (.ireturn, 1) := by decide +kernel
theorem dX11_since_16 : decode cX11_since 16 = .ok (.aload_n 0, 1) := by decide +kernel
theorem dX11_since_17 : decode cX11_since 17 = .ok (.getfield 39, 3) := by decide +kernel
theorem dX11_since_20 : decode cX11_since 20 = .ok (.iload_n 2, 1) := by decide +kernel
theorem dX11_since_21 : decode cX11_since 21 = .ok (.baload, 1) := by decide +kernel
theorem dX11_since_22 : decode cX11_since 22 = .ok (.ifCond .ne 6, 3) := by decide +kernel
theorem dX11_since_25 : decode cX11_since 25 = .ok (.bipush (-3), 2) := by decide +kernel
theorem dX11_since_27 : decode cX11_since 27 = .ok (.ireturn, 1) := by decide +kernel
theorem dX11_since_28 : decode cX11_since 28 = .ok (.iconst 0, 1) := by decide +kernel
theorem dX11_since_29 : decode cX11_since 29 = .ok (.istore_n 3, 1) := by decide +kernel
theorem dX11_since_30 : decode cX11_since 30 = .ok (.iconst 0, 1) := by decide +kernel
theorem dX11_since_31 : decode cX11_since 31 = .ok (.istore 4, 2) := by decide +kernel
theorem dX11_since_33 : decode cX11_since 33 = .ok (.iload 4, 2) := by decide +kernel
theorem dX11_since_35 : decode cX11_since 35 = .ok (.aload_n 0, 1) := by decide +kernel
theorem dX11_since_36 : decode cX11_since 36 = .ok (.getfield 69, 3) := by decide +kernel
theorem dX11_since_39 : decode cX11_since 39 = .ok (.if_icmp .ge 73, 3) := by decide +kernel
theorem dX11_since_42 : decode cX11_since 42 = .ok (.aload_n 0, 1) := by decide +kernel
theorem dX11_since_43 : decode cX11_since 43 = .ok (.iload 4, 2) := by decide +kernel
theorem dX11_since_45 : decode cX11_since 45 = .ok (.iload_n 1, 1) := by decide +kernel
theorem dX11_since_46 : decode cX11_since 46 = .ok (.invokevirtual 240, 3) := by decide +kernel
theorem dX11_since_49 : decode cX11_since 49 = .ok (.aload_n 0, 1) := by decide +kernel
theorem dX11_since_50 : decode cX11_since 50 = .ok (.getfield 90, 3) := by decide +kernel
theorem dX11_since_53 : decode cX11_since 53 = .ok (.getfield 250, 3) := by decide +kernel
theorem dX11_since_56 : decode cX11_since 56 = .ok (.istore 5, 2) := by decide +kernel
theorem dX11_since_58 : decode cX11_since 58 = .ok (.aload_n 0, 1) := by decide +kernel
theorem dX11_since_59 : decode cX11_since 59 = .ok (.getfield 90, 3) := by decide +kernel
theorem dX11_since_62 : decode cX11_since 62 = .ok (.aload_n 0, 1) := by decide +kernel
theorem dX11_since_63 : decode cX11_since 63 = .ok (.getfield 65, 3) := by decide +kernel
theorem dX11_since_66 : decode cX11_since 66 = .ok (.iload 4, 2) := by decide +kernel
theorem dX11_since_68 : decode cX11_since 68 = .ok (.aaload, 1) := by decide +kernel
theorem dX11_since_69 : decode cX11_since 69 = .ok (.aload_n 0, 1) := by decide +kernel
theorem dX11_since_70 : decode cX11_since 70 = .ok (.getfield 35, 3) := by decide +kernel
theorem dX11_since_73 : decode cX11_since 73 = .ok (.iload_n 2, 1) := by decide +kernel
theorem dX11_since_74 : decode cX11_since 74 = .ok (.aaload, 1) := by decide +kernel
theorem dX11_since_75 : decode cX11_since 75 = .ok (.invokevirtual 230, 3) := by decide +kernel
theorem dX11_since_78 : decode cX11_since 78 = .ok (.aload_n 0, 1) := by decide +kernel
theorem dX11_since_79 : decode cX11_since 79 = .ok (.getfield 90, 3) := by decide +kernel
theorem dX11_since_82 : decode cX11_since 82 = .ok (.aload_n 0, 1) := by decide +kernel
theorem dX11_since_83 : decode cX11_since 83 = .ok (.getfield 59, 3) := by decide +kernel
theorem dX11_since_86 : decode cX11_since 86 = .ok (.iload_n 1, 1) := by decide +kernel
theorem dX11_since_87 : decode cX11_since 87 = .ok (.aaload, 1) := by decide +kernel
theorem dX11_since_88 : decode cX11_since 88 = .ok (.invokevirtual 273, 3) := by decide +kernel
theorem dX11_since_91 : decode cX11_since 91 = .ok (.aload_n 0, 1) := by decide +kernel
theorem dX11_since_92 : decode cX11_since 92 = .ok (.getfield 90, 3) := by decide +kernel
theorem dX11_since_95 : decode cX11_since 95 = .ok (.getfield 250, 3) := by decide +kernel
theorem dX11_since_98 : decode cX11_since 98 = .ok (.iload 5, 2) := by decide +kernel
theorem dX11_since_100 : decode cX11_since 100 = .ok (.if_icmp .eq 6, 3) := by decide +kernel
theorem dX11_since_103 : decode cX11_since 103 = .ok (.iinc 3 1, 3) := by decide +kernel
theorem dX11_since_106 : decode cX11_since 106 = .ok (.iinc 4 1, 3) := by decide +kernel
theorem dX11_since_109 : decode cX11_since 109 = .ok (.goto (-76), 3) := by decide +kernel
theorem dX11_since_112 : decode cX11_since 112 = .ok (.iload_n 3, 1) := by decide +kernel
theorem dX11_since_113 : decode cX11_since 113 = .ok (.ireturn, 1) := by decide +kernel
theorem dX11_count_0 : decode cX11_count 0 = .ok (.iload_n 1, 1) := by decide +kernel
theorem dX11_count_1 : decode cX11_count 1 = .ok (.tableswitch 72 0 4 #[35, 43, 51, 59, 67], 35) := by decide +kernel
theorem dX11_count_36 : decode cX11_count 36 = .ok (.aload_n 0, 1) := by decide +kernel
theorem dX11_count_37 : decode cX11_count 37 = .ok (.getfield 12, 3) := by decide +kernel
theorem dX11_count_40 : decode cX11_count 40 = .ok (.invokevirtual 317, 3) := by decide +kernel
theorem dX11_count_43 : decode cX11_count 43 = .ok (.ireturn, 1) := by decide +kernel
theorem dX11_count_44 : decode cX11_count 44 = .ok (.aload_n 0, 1) := by decide +kernel
theorem dX11_count_45 : decode cX11_count 45 = .ok (.getfield 31, 3) := by decide +kernel
theorem dX11_count_48 : decode cX11_count 48 = .ok (.getfield 128, 3) := by decide +kernel
theorem dX11_count_51 : decode cX11_count 51 = .ok (.ireturn, 1) := by decide +kernel
theorem dX11_count_52 : decode cX11_count 52 = .ok (.aload_n 0, 1) := by decide +kernel
theorem dX11_count_53 : decode cX11_count 53 = .ok (.getfield 46, 3) := by decide +kernel
theorem dX11_count_56 : decode cX11_count 56 = .ok (.getfield 160, 3) := by decide +kernel
theorem dX11_count_59 : decode cX11_count 59 = .ok (.ireturn, 1) := by decide +kernel
theorem dX11_count_60 : decode cX11_count 60 = .ok (.aload_n 0, 1) := by decide +kernel
theorem dX11_count_61 : decode cX11_count 61 = .ok (.getfield 53, 3) := by decide +kernel
theorem dX11_count_64 : decode cX11_count 64 = .ok (.getfield 179, 3) := by decide +kernel
theorem dX11_count_67 : decode cX11_count 67 = .ok (.ireturn, 1) := by decide +kernel
theorem dX11_count_68 : decode cX11_count 68 = .ok (.aload_n 0, 1) := by decide +kernel
theorem dX11_count_69 : decode cX11_count 69 = .ok (.getfield 69, 3) := by decide +kernel
theorem dX11_count_72 : decode cX11_count 72 = .ok (.ireturn, 1) := by decide +kernel
theorem dX11_count_73 : decode cX11_count 73 = .ok (.bipush (-2), 2) := by decide +kernel
theorem dX11_count_75 : decode cX11_count 75 = .ok (.ireturn, 1) := by decide +kernel
theorem dX11_read_0 : decode cX11_read 0 = .ok (.aload_n 0, 1) := by decide +kernel
theorem dX11_read_1 : decode cX11_read 1 = .ok (.getfield 90, 3) := by decide +kernel
theorem dX11_read_4 : decode cX11_read 4 = .ok (.aload_n 0, 1) := by decide +kernel
theorem dX11_read_5 : decode cX11_read 5 = .ok (.getfield 65, 3) := by decide +kernel
theorem dX11_read_8 : decode cX11_read 8 = .ok (.iload_n 1, 1) := by decide +kernel
theorem dX11_read_9 : decode cX11_read 9 = .ok (.aaload, 1) := by decide +kernel
theorem dX11_read_10 : decode cX11_read 10 = .ok (.aload_n 0, 1) := by decide +kernel
theorem dX11_read_11 : decode cX11_read 11 = .ok (.getfield 31, 3) := by decide +kernel
theorem dX11_read_14 : decode cX11_read 14 = .ok (.invokevirtual 230, 3) := by decide +kernel
theorem dX11_read_17 : decode cX11_read 17 = .ok (.aload_n 0, 1) := by decide +kernel
theorem dX11_read_18 : decode cX11_read 18 = .ok (.getfield 90, 3) := by decide +kernel
theorem dX11_read_21 : decode cX11_read 21 = .ok (.aload_n 0, 1) := by decide +kernel
theorem dX11_read_22 : decode cX11_read 22 = .ok (.getfield 59, 3) := by decide +kernel
theorem dX11_read_25 : decode cX11_read 25 = .ok (.iload_n 2, 1) := by decide +kernel
theorem dX11_read_26 : decode cX11_read 26 = .ok (.aaload, 1) := by decide +kernel
theorem dX11_read_27 : decode cX11_read 27 = .ok (.invokevirtual 273, 3) := by decide +kernel
theorem dX11_read_30 : decode cX11_read 30 = .ok (.return_, 1) := by decide +kernel
theorem dX11_movedBy_0 : decode cX11_movedBy 0 = .ok (.aload_n 0, 1) := by decide +kernel
theorem dX11_movedBy_1 : decode cX11_movedBy 1 = .ok (.getfield 74, 3) := by decide +kernel
theorem dX11_movedBy_4 : decode cX11_movedBy 4 = .ok (.aload_n 1, 1) := by decide +kernel
theorem dX11_movedBy_5 : decode cX11_movedBy 5 = .ok (.invokevirtual 198, 3) := by decide +kernel
theorem dX11_movedBy_8 : decode cX11_movedBy 8 = .ok (.aload_n 0, 1) := by decide +kernel
theorem dX11_movedBy_9 : decode cX11_movedBy 9 = .ok (.getfield 74, 3) := by decide +kernel
theorem dX11_movedBy_12 : decode cX11_movedBy 12 = .ok (.iload_n 2, 1) := by decide +kernel
theorem dX11_movedBy_13 : decode cX11_movedBy 13 = .ok (.invokevirtual 320, 3) := by decide +kernel
theorem dX11_movedBy_16 : decode cX11_movedBy 16 = .ok (.aload_n 0, 1) := by decide +kernel
theorem dX11_movedBy_17 : decode cX11_movedBy 17 = .ok (.getfield 90, 3) := by decide +kernel
theorem dX11_movedBy_20 : decode cX11_movedBy 20 = .ok (.aload_n 0, 1) := by decide +kernel
theorem dX11_movedBy_21 : decode cX11_movedBy 21 = .ok (.getfield 74, 3) := by decide +kernel
theorem dX11_movedBy_24 : decode cX11_movedBy 24 = .ok (.invokevirtual 273, 3) := by decide +kernel
theorem dX11_movedBy_27 : decode cX11_movedBy 27 = .ok (.iload_n 3, 1) := by decide +kernel
theorem dX11_movedBy_28 : decode cX11_movedBy 28 = .ok (.aload_n 0, 1) := by decide +kernel
theorem dX11_movedBy_29 : decode cX11_movedBy 29 = .ok (.getfield 90, 3) := by decide +kernel
theorem dX11_movedBy_32 : decode cX11_movedBy 32 = .ok (.getfield 250, 3) := by decide +kernel
theorem dX11_movedBy_35 : decode cX11_movedBy 35 = .ok (.invokestatic 265, 3) := by decide +kernel
theorem dX11_movedBy_38 : decode cX11_movedBy 38 = .ok (.invokestatic 300, 3) := by decide +kernel
theorem dX11_movedBy_41 : decode cX11_movedBy 41 = .ok (.ireturn, 1) := by decide +kernel
theorem dX11_isAsThought_0 : decode cX11_isAsThought 0 = .ok (.aload_n 0, 1) := by decide +kernel
theorem dX11_isAsThought_1 : decode cX11_isAsThought 1 = .ok (.getfield 90, 3) := by decide +kernel
theorem dX11_isAsThought_4 : decode cX11_isAsThought 4 = .ok (.aload_n 1, 1) := by decide +kernel
theorem dX11_isAsThought_5 : decode cX11_isAsThought 5 = .ok (.iload_n 2, 1) := by decide +kernel
theorem dX11_isAsThought_6 : decode cX11_isAsThought 6 = .ok (.invokevirtual 323, 3) := by decide +kernel
theorem dX11_isAsThought_9 : decode cX11_isAsThought 9 = .ok (.iconst 0, 1) := by decide +kernel
theorem dX11_isAsThought_10 : decode cX11_isAsThought 10 = .ok (.istore 4, 2) := by decide +kernel
theorem dX11_isAsThought_12 : decode cX11_isAsThought 12 = .ok (.iload 4, 2) := by decide +kernel
theorem dX11_isAsThought_14 : decode cX11_isAsThought 14 = .ok (.iconst 4, 1) := by decide +kernel
theorem dX11_isAsThought_15 : decode cX11_isAsThought 15 = .ok (.if_icmp .ge 67, 3) := by decide +kernel
theorem dX11_isAsThought_18 : decode cX11_isAsThought 18 = .ok (.iload_n 3, 1) := by decide +kernel
theorem dX11_isAsThought_19 : decode cX11_isAsThought 19 = .ok (.iload 4, 2) := by decide +kernel
theorem dX11_isAsThought_21 : decode cX11_isAsThought 21 = .ok (.invokestatic 105, 3) := by decide +kernel
theorem dX11_isAsThought_24 : decode cX11_isAsThought 24 = .ok (.iconst 1, 1) := by decide +kernel
theorem dX11_isAsThought_25 : decode cX11_isAsThought 25 = .ok (.if_icmp .ne 51, 3) := by decide +kernel
theorem dX11_isAsThought_28 : decode cX11_isAsThought 28 = .ok (.aload_n 0, 1) := by decide +kernel
theorem dX11_isAsThought_29 : decode cX11_isAsThought 29 = .ok (.getfield 90, 3) := by decide +kernel
theorem dX11_isAsThought_32 : decode cX11_isAsThought 32 = .ok (.aload_n 0, 1) := by decide +kernel
theorem dX11_isAsThought_33 : decode cX11_isAsThought 33 = .ok (.getfield 59, 3) := by decide +kernel
theorem dX11_isAsThought_36 : decode cX11_isAsThought 36 = .ok (.iload 4, 2) := by decide +kernel
theorem dX11_isAsThought_38 : decode cX11_isAsThought 38 = .ok (.aaload, 1) := by decide +kernel
theorem dX11_isAsThought_39 : decode cX11_isAsThought 39 = .ok (.invokevirtual 273, 3) := by decide +kernel
theorem dX11_isAsThought_42 : decode cX11_isAsThought 42 = .ok (.aload_n 1, 1) := by decide +kernel
theorem dX11_isAsThought_43 : decode cX11_isAsThought 43 = .ok (.iconst 0, 1) := by decide +kernel
theorem dX11_isAsThought_44 : decode cX11_isAsThought 44 = .ok (.aload_n 0, 1) := by decide +kernel
theorem dX11_isAsThought_45 : decode cX11_isAsThought 45 = .ok (.getfield 90, 3) := by decide +kernel
theorem dX11_isAsThought_48 : decode cX11_isAsThought 48 = .ok (.getfield 250, 3) := by decide +kernel
theorem dX11_isAsThought_51 : decode cX11_isAsThought 51 = .ok (.invokevirtual 294, 3) := by decide +kernel
theorem dX11_isAsThought_54 : decode cX11_isAsThought 54 = .ok (.aload_n 1, 1) := by decide +kernel
theorem dX11_isAsThought_55 : decode cX11_isAsThought 55 = .ok (.iconst 1, 1) := by decide +kernel
theorem dX11_isAsThought_56 : decode cX11_isAsThought 56 = .ok (.aload_n 0, 1) := by decide +kernel
theorem dX11_isAsThought_57 : decode cX11_isAsThought 57 = .ok (.getfield 90, 3) := by decide +kernel
theorem dX11_isAsThought_60 : decode cX11_isAsThought 60 = .ok (.getfield 250, 3) := by decide +kernel
theorem dX11_isAsThought_63 : decode cX11_isAsThought 63 = .ok (.invokevirtual 294, 3) := by decide +kernel
theorem dX11_isAsThought_66 : decode cX11_isAsThought 66 = .ok (.ior, 1) := by decide +kernel
theorem dX11_isAsThought_67 : decode cX11_isAsThought 67 = .ok (.istore 5, 2) := by decide +kernel
theorem dX11_isAsThought_69 : decode cX11_isAsThought 69 = .ok (.iload 5, 2) := by decide +kernel
theorem dX11_isAsThought_71 : decode cX11_isAsThought 71 = .ok (.ifCond .eq 5, 3) := by decide +kernel
theorem dX11_isAsThought_74 : decode cX11_isAsThought 74 = .ok (.iconst 0, 1) := by decide +kernel
theorem dX11_isAsThought_75 : decode cX11_isAsThought 75 = .ok (.ireturn, 1) := by decide +kernel
theorem dX11_isAsThought_76 : decode cX11_isAsThought 76 = .ok (.iinc 4 1, 3) := by decide +kernel
theorem dX11_isAsThought_79 : decode cX11_isAsThought 79 = .ok (.goto (-67), 3) := by decide +kernel
theorem dX11_isAsThought_82 : decode cX11_isAsThought 82 = .ok (.iconst 1, 1) := by decide +kernel
theorem dX11_isAsThought_83 : decode cX11_isAsThought 83 = .ok (.ireturn, 1) := by decide +kernel
theorem dX11_worthOf_0 : decode cX11_worthOf 0 = .ok (.aload_n 0, 1) := by decide +kernel
theorem dX11_worthOf_1 : decode cX11_worthOf 1 = .ok (.getfield 90, 3) := by decide +kernel
theorem dX11_worthOf_4 : decode cX11_worthOf 4 = .ok (.iload_n 2, 1) := by decide +kernel
theorem dX11_worthOf_5 : decode cX11_worthOf 5 = .ok (.putfield 327, 3) := by decide +kernel
theorem dX11_worthOf_8 : decode cX11_worthOf 8 = .ok (.aload_n 0, 1) := by decide +kernel
theorem dX11_worthOf_9 : decode cX11_worthOf 9 = .ok (.getfield 90, 3) := by decide +kernel
theorem dX11_worthOf_12 : decode cX11_worthOf 12 = .ok (.iload_n 3, 1) := by decide +kernel
theorem dX11_worthOf_13 : decode cX11_worthOf 13 = .ok (.putfield 330, 3) := by decide +kernel
theorem dX11_worthOf_16 : decode cX11_worthOf 16 = .ok (.iconst 0, 1) := by decide +kernel
theorem dX11_worthOf_17 : decode cX11_worthOf 17 = .ok (.istore 4, 2) := by decide +kernel
theorem dX11_worthOf_19 : decode cX11_worthOf 19 = .ok (.iconst 0, 1) := by decide +kernel
theorem dX11_worthOf_20 : decode cX11_worthOf 20 = .ok (.istore 5, 2) := by decide +kernel
theorem dX11_worthOf_22 : decode cX11_worthOf 22 = .ok (.iload 5, 2) := by decide +kernel
theorem dX11_worthOf_24 : decode cX11_worthOf 24 = .ok (.aload_n 0, 1) := by decide +kernel
theorem dX11_worthOf_25 : decode cX11_worthOf 25 = .ok (.getfield 69, 3) := by decide +kernel
theorem dX11_worthOf_28 : decode cX11_worthOf 28 = .ok (.if_icmp .ge 84, 3) := by decide +kernel
theorem dX11_worthOf_31 : decode cX11_worthOf 31 = .ok (.aload_n 0, 1) := by decide +kernel
theorem dX11_worthOf_32 : decode cX11_worthOf 32 = .ok (.getfield 65, 3) := by decide +kernel
theorem dX11_worthOf_35 : decode cX11_worthOf 35 = .ok (.iload 5, 2) := by decide +kernel
theorem dX11_worthOf_37 : decode cX11_worthOf 37 = .ok (.aaload, 1) := by decide +kernel
theorem dX11_worthOf_38 : decode cX11_worthOf 38 = .ok (.iload_n 2, 1) := by decide +kernel
theorem dX11_worthOf_39 : decode cX11_worthOf 39 = .ok (.invokevirtual 333, 3) := by decide +kernel
theorem dX11_worthOf_42 : decode cX11_worthOf 42 = .ok (.istore 6, 2) := by decide +kernel
theorem dX11_worthOf_44 : decode cX11_worthOf 44 = .ok (.iload 6, 2) := by decide +kernel
theorem dX11_worthOf_46 : decode cX11_worthOf 46 = .ok (.ifCond .eq 60, 3) := by decide +kernel
theorem dX11_worthOf_49 : decode cX11_worthOf 49 = .ok (.aload_n 0, 1) := by decide +kernel
theorem dX11_worthOf_50 : decode cX11_worthOf 50 = .ok (.getfield 90, 3) := by decide +kernel
theorem dX11_worthOf_53 : decode cX11_worthOf 53 = .ok (.aload_n 0, 1) := by decide +kernel
theorem dX11_worthOf_54 : decode cX11_worthOf 54 = .ok (.getfield 65, 3) := by decide +kernel
theorem dX11_worthOf_57 : decode cX11_worthOf 57 = .ok (.iload 5, 2) := by decide +kernel
theorem dX11_worthOf_59 : decode cX11_worthOf 59 = .ok (.aaload, 1) := by decide +kernel
theorem dX11_worthOf_60 : decode cX11_worthOf 60 = .ok (.aload_n 0, 1) := by decide +kernel
theorem dX11_worthOf_61 : decode cX11_worthOf 61 = .ok (.getfield 31, 3) := by decide +kernel
theorem dX11_worthOf_64 : decode cX11_worthOf 64 = .ok (.invokevirtual 230, 3) := by decide +kernel
theorem dX11_worthOf_67 : decode cX11_worthOf 67 = .ok (.aload_n 0, 1) := by decide +kernel
theorem dX11_worthOf_68 : decode cX11_worthOf 68 = .ok (.getfield 90, 3) := by decide +kernel
theorem dX11_worthOf_71 : decode cX11_worthOf 71 = .ok (.aload_n 0, 1) := by decide +kernel
theorem dX11_worthOf_72 : decode cX11_worthOf 72 = .ok (.getfield 59, 3) := by decide +kernel
theorem dX11_worthOf_75 : decode cX11_worthOf 75 = .ok (.iload_n 1, 1) := by decide +kernel
theorem dX11_worthOf_76 : decode cX11_worthOf 76 = .ok (.aaload, 1) := by decide +kernel
theorem dX11_worthOf_77 : decode cX11_worthOf 77 = .ok (.invokevirtual 273, 3) := by decide +kernel
theorem dX11_worthOf_80 : decode cX11_worthOf 80 = .ok (.iload 4, 2) := by decide +kernel
theorem dX11_worthOf_82 : decode cX11_worthOf 82 = .ok (.aload_n 0, 1) := by decide +kernel
theorem dX11_worthOf_83 : decode cX11_worthOf 83 = .ok (.getfield 90, 3) := by decide +kernel
theorem dX11_worthOf_86 : decode cX11_worthOf 86 = .ok (.getfield 250, 3) := by decide +kernel
theorem dX11_worthOf_89 : decode cX11_worthOf 89 = .ok (.iload_n 2, 1) := by decide +kernel
theorem dX11_worthOf_90 : decode cX11_worthOf 90 = .ok (.invokestatic 253, 3) := by decide +kernel
theorem dX11_worthOf_93 : decode cX11_worthOf 93 = .ok (.iload 6, 2) := by decide +kernel
theorem dX11_worthOf_95 : decode cX11_worthOf 95 = .ok (.if_icmp .ne 7, 3) := by decide +kernel
theorem dX11_worthOf_98 : decode cX11_worthOf 98 = .ok (.iconst 1, 1) := by decide +kernel
theorem dX11_worthOf_99 : decode cX11_worthOf 99 = .ok (.goto 4, 3) := by decide +kernel
theorem dX11_worthOf_102 : decode cX11_worthOf 102 = .ok (.iconst 0, 1) := by decide +kernel
theorem dX11_worthOf_103 : decode cX11_worthOf 103 = .ok (.iadd, 1) := by decide +kernel
theorem dX11_worthOf_104 : decode cX11_worthOf 104 = .ok (.istore 4, 2) := by decide +kernel
theorem dX11_worthOf_106 : decode cX11_worthOf 106 = .ok (.iinc 5 1, 3) := by decide +kernel
theorem dX11_worthOf_109 : decode cX11_worthOf 109 = .ok (.goto (-87), 3) := by decide +kernel
theorem dX11_worthOf_112 : decode cX11_worthOf 112 = .ok (.aload_n 0, 1) := by decide +kernel
theorem dX11_worthOf_113 : decode cX11_worthOf 113 = .ok (.getfield 90, 3) := by decide +kernel
theorem dX11_worthOf_116 : decode cX11_worthOf 116 = .ok (.bipush (-9), 2) := by decide +kernel
theorem dX11_worthOf_118 : decode cX11_worthOf 118 = .ok (.putfield 327, 3) := by decide +kernel
theorem dX11_worthOf_121 : decode cX11_worthOf 121 = .ok (.iload 4, 2) := by decide +kernel
theorem dX11_worthOf_123 : decode cX11_worthOf 123 = .ok (.ireturn, 1) := by decide +kernel
theorem dX11_canRead_0 : decode cX11_canRead 0 = .ok (.aload_n 0, 1) := by decide +kernel
theorem dX11_canRead_1 : decode cX11_canRead 1 = .ok (.iload_n 1, 1) := by decide +kernel
theorem dX11_canRead_2 : decode cX11_canRead 2 = .ok (.invokevirtual 210, 3) := by decide +kernel
theorem dX11_canRead_5 : decode cX11_canRead 5 = .ok (.ifCond .eq 14, 3) := by decide +kernel
theorem dX11_canRead_8 : decode cX11_canRead 8 = .ok (.iload_n 2, 1) := by decide +kernel
theorem dX11_canRead_9 : decode cX11_canRead 9 = .ok (.invokestatic 195, 3) := by decide +kernel
theorem dX11_canRead_12 : decode cX11_canRead 12 = .ok (.ifCond .eq 7, 3) := by decide +kernel
theorem dX11_canRead_15 : decode cX11_canRead 15 = .ok (.iconst 1, 1) := by decide +kernel
theorem dX11_canRead_16 : decode cX11_canRead 16 = .ok (.goto 4, 3) := by decide +kernel
theorem dX11_canRead_19 : decode cX11_canRead 19 = .ok (.iconst 0, 1) := by decide +kernel
theorem dX11_canRead_20 : decode cX11_canRead 20 = .ok (.ireturn, 1) := by decide +kernel
theorem dX11_isBargain_0 : decode cX11_isBargain 0 = .ok (.iload_n 1, 1) := by decide +kernel
theorem dX11_isBargain_1 : decode cX11_isBargain 1 = .ok (.ifCond .lt 15, 3) := by decide +kernel
theorem dX11_isBargain_4 : decode cX11_isBargain 4 = .ok (.iload_n 1, 1) := by decide +kernel
theorem dX11_isBargain_5 : decode cX11_isBargain 5 = .ok (.aload_n 0, 1) := by decide +kernel
theorem dX11_isBargain_6 : decode cX11_isBargain 6 = .ok (.getfield 69, 3) := by decide +kernel
theorem dX11_isBargain_9 : decode cX11_isBargain 9 = .ok (.if_icmp .ge 7, 3) := by decide +kernel
theorem dX11_isBargain_12 : decode cX11_isBargain 12 = .ok (.iconst 1, 1) := by decide +kernel
theorem dX11_isBargain_13 : decode cX11_isBargain 13 = .ok (.goto 4, 3) := by decide +kernel
theorem dX11_isBargain_16 : decode cX11_isBargain 16 = .ok (.iconst 0, 1) := by decide +kernel
theorem dX11_isBargain_17 : decode cX11_isBargain 17 = .ok (.ireturn, 1) := by decide +kernel
theorem dX11_isRule_0 : decode cX11_isRule 0 = .ok (.iload_n 1, 1) := by decide +kernel
theorem dX11_isRule_1 : decode cX11_isRule 1 = .ok (.ifCond .lt 18, 3) := by decide +kernel
theorem dX11_isRule_4 : decode cX11_isRule 4 = .ok (.iload_n 1, 1) := by decide +kernel
theorem dX11_isRule_5 : decode cX11_isRule 5 = .ok (.aload_n 0, 1) := by decide +kernel
theorem dX11_isRule_6 : decode cX11_isRule 6 = .ok (.getfield 53, 3) := by decide +kernel
theorem dX11_isRule_9 : decode cX11_isRule 9 = .ok (.getfield 179, 3) := by decide +kernel
theorem dX11_isRule_12 : decode cX11_isRule 12 = .ok (.if_icmp .ge 7, 3) := by decide +kernel
theorem dX11_isRule_15 : decode cX11_isRule 15 = .ok (.iconst 1, 1) := by decide +kernel
theorem dX11_isRule_16 : decode cX11_isRule 16 = .ok (.goto 4, 3) := by decide +kernel
theorem dX11_isRule_19 : decode cX11_isRule 19 = .ok (.iconst 0, 1) := by decide +kernel
theorem dX11_isRule_20 : decode cX11_isRule 20 = .ok (.ireturn, 1) := by decide +kernel
theorem dX11_isGap_0 : decode cX11_isGap 0 = .ok (.iload_n 0, 1) := by decide +kernel
theorem dX11_isGap_1 : decode cX11_isGap 1 = .ok (.ifCond .lt 13, 3) := by decide +kernel
theorem dX11_isGap_4 : decode cX11_isGap 4 = .ok (.iload_n 0, 1) := by decide +kernel
theorem dX11_isGap_5 : decode cX11_isGap 5 = .ok (.bipush 6, 2) := by decide +kernel
theorem dX11_isGap_7 : decode cX11_isGap 7 = .ok (.if_icmp .ge 7, 3) := by decide +kernel
theorem dX11_isGap_10 : decode cX11_isGap 10 = .ok (.iconst 1, 1) := by decide +kernel
theorem dX11_isGap_11 : decode cX11_isGap 11 = .ok (.goto 4, 3) := by decide +kernel
theorem dX11_isGap_14 : decode cX11_isGap 14 = .ok (.iconst 0, 1) := by decide +kernel
theorem dX11_isGap_15 : decode cX11_isGap 15 = .ok (.ireturn, 1) := by decide +kernel
theorem dX11_isValue_0 : decode cX11_isValue 0 = .ok (.iload_n 0, 1) := by decide +kernel
theorem dX11_isValue_1 : decode cX11_isValue 1 = .ok (.iconst 1, 1) := by decide +kernel
theorem dX11_isValue_2 : decode cX11_isValue 2 = .ok (.if_icmp .lt 12, 3) := by decide +kernel
theorem dX11_isValue_5 : decode cX11_isValue 5 = .ok (.iload_n 0, 1) := by decide +kernel
theorem dX11_isValue_6 : decode cX11_isValue 6 = .ok (.iconst 5, 1) := by decide +kernel
theorem dX11_isValue_7 : decode cX11_isValue 7 = .ok (.if_icmp .gt 7, 3) := by decide +kernel
theorem dX11_isValue_10 : decode cX11_isValue 10 = .ok (.iconst 1, 1) := by decide +kernel
theorem dX11_isValue_11 : decode cX11_isValue 11 = .ok (.goto 4, 3) := by decide +kernel
theorem dX11_isValue_14 : decode cX11_isValue 14 = .ok (.iconst 0, 1) := by decide +kernel
theorem dX11_isValue_15 : decode cX11_isValue 15 = .ok (.ireturn, 1) := by decide +kernel
theorem dX11_isPerson_0 : decode cX11_isPerson 0 = .ok (.iload_n 0, 1) := by decide +kernel
theorem dX11_isPerson_1 : decode cX11_isPerson 1 = .ok (.ifCond .lt 12, 3) := by decide +kernel
theorem dX11_isPerson_4 : decode cX11_isPerson 4 = .ok (.iload_n 0, 1) := by decide +kernel
theorem dX11_isPerson_5 : decode cX11_isPerson 5 = .ok (.iconst 5, 1) := by decide +kernel
theorem dX11_isPerson_6 : decode cX11_isPerson 6 = .ok (.if_icmp .ge 7, 3) := by decide +kernel
theorem dX11_isPerson_9 : decode cX11_isPerson 9 = .ok (.iconst 1, 1) := by decide +kernel
theorem dX11_isPerson_10 : decode cX11_isPerson 10 = .ok (.goto 4, 3) := by decide +kernel
theorem dX11_isPerson_13 : decode cX11_isPerson 13 = .ok (.iconst 0, 1) := by decide +kernel
theorem dX11_isPerson_14 : decode cX11_isPerson 14 = .ok (.ireturn, 1) := by decide +kernel
theorem dX11_isTrade_0 : decode cX11_isTrade 0 = .ok (.iload_n 0, 1) := by decide +kernel
theorem dX11_isTrade_1 : decode cX11_isTrade 1 = .ok (.ifCond .lt 12, 3) := by decide +kernel
theorem dX11_isTrade_4 : decode cX11_isTrade 4 = .ok (.iload_n 0, 1) := by decide +kernel
theorem dX11_isTrade_5 : decode cX11_isTrade 5 = .ok (.iconst 3, 1) := by decide +kernel
theorem dX11_isTrade_6 : decode cX11_isTrade 6 = .ok (.if_icmp .ge 7, 3) := by decide +kernel
theorem dX11_isTrade_9 : decode cX11_isTrade 9 = .ok (.iconst 1, 1) := by decide +kernel
theorem dX11_isTrade_10 : decode cX11_isTrade 10 = .ok (.goto 4, 3) := by decide +kernel
theorem dX11_isTrade_13 : decode cX11_isTrade 13 = .ok (.iconst 0, 1) := by decide +kernel
theorem dX11_isTrade_14 : decode cX11_isTrade 14 = .ok (.ireturn, 1) := by decide +kernel
theorem dX11_isOrder_0 : decode cX11_isOrder 0 = .ok (.iload_n 0, 1) := by decide +kernel
theorem dX11_isOrder_1 : decode cX11_isOrder 1 = .ok (.ifCond .lt 12, 3) := by decide +kernel
theorem dX11_isOrder_4 : decode cX11_isOrder 4 = .ok (.iload_n 0, 1) := by decide +kernel
theorem dX11_isOrder_5 : decode cX11_isOrder 5 = .ok (.iconst 4, 1) := by decide +kernel
theorem dX11_isOrder_6 : decode cX11_isOrder 6 = .ok (.if_icmp .ge 7, 3) := by decide +kernel
theorem dX11_isOrder_9 : decode cX11_isOrder 9 = .ok (.iconst 1, 1) := by decide +kernel
theorem dX11_isOrder_10 : decode cX11_isOrder 10 = .ok (.goto 4, 3) := by decide +kernel
theorem dX11_isOrder_13 : decode cX11_isOrder 13 = .ok (.iconst 0, 1) := by decide +kernel
theorem dX11_isOrder_14 : decode cX11_isOrder 14 = .ok (.ireturn, 1) := by decide +kernel
theorem dX11_isSide_0 : decode cX11_isSide 0 = .ok (.iload_n 0, 1) := by decide +kernel
theorem dX11_isSide_1 : decode cX11_isSide 1 = .ok (.ifCond .lt 12, 3) := by decide +kernel
theorem dX11_isSide_4 : decode cX11_isSide 4 = .ok (.iload_n 0, 1) := by decide +kernel
theorem dX11_isSide_5 : decode cX11_isSide 5 = .ok (.iconst 2, 1) := by decide +kernel
theorem dX11_isSide_6 : decode cX11_isSide 6 = .ok (.if_icmp .ge 7, 3) := by decide +kernel
theorem dX11_isSide_9 : decode cX11_isSide 9 = .ok (.iconst 1, 1) := by decide +kernel
theorem dX11_isSide_10 : decode cX11_isSide 10 = .ok (.goto 4, 3) := by decide +kernel
theorem dX11_isSide_13 : decode cX11_isSide 13 = .ok (.iconst 0, 1) := by decide +kernel
theorem dX11_isSide_14 : decode cX11_isSide 14 = .ok (.ireturn, 1) := by decide +kernel
theorem dX11_isSlot_0 : decode cX11_isSlot 0 = .ok (.iload_n 0, 1) := by decide +kernel
theorem dX11_isSlot_1 : decode cX11_isSlot 1 = .ok (.ifCond .lt 12, 3) := by decide +kernel
theorem dX11_isSlot_4 : decode cX11_isSlot 4 = .ok (.iload_n 0, 1) := by decide +kernel
theorem dX11_isSlot_5 : decode cX11_isSlot 5 = .ok (.iconst 2, 1) := by decide +kernel
theorem dX11_isSlot_6 : decode cX11_isSlot 6 = .ok (.if_icmp .ge 7, 3) := by decide +kernel
theorem dX11_isSlot_9 : decode cX11_isSlot 9 = .ok (.iconst 1, 1) := by decide +kernel
theorem dX11_isSlot_10 : decode cX11_isSlot 10 = .ok (.goto 4, 3) := by decide +kernel
theorem dX11_isSlot_13 : decode cX11_isSlot 13 = .ok (.iconst 0, 1) := by decide +kernel
theorem dX11_isSlot_14 : decode cX11_isSlot 14 = .ok (.ireturn, 1) := by decide +kernel
theorem dX11_isFilling_0 : decode cX11_isFilling 0 = .ok (.iload_n 0, 1) := by decide +kernel
theorem dX11_isFilling_1 : decode cX11_isFilling 1 = .ok (.ifCond .lt 14, 3) := by decide +kernel
theorem dX11_isFilling_4 : decode cX11_isFilling 4 = .ok (.iload_n 0, 1) := by decide +kernel
theorem dX11_isFilling_5 : decode cX11_isFilling 5 = .ok (.ldc_w 336, 3) := by decide +kernel
theorem dX11_isFilling_8 : decode cX11_isFilling 8 = .ok (.if_icmp .ge 7, 3) := by decide +kernel
theorem dX11_isFilling_11 : decode cX11_isFilling 11 = .ok (.iconst 1, 1) := by decide +kernel
theorem dX11_isFilling_12 : decode cX11_isFilling 12 = .ok (.goto 4, 3) := by decide +kernel
theorem dX11_isFilling_15 : decode cX11_isFilling 15 = .ok (.iconst 0, 1) := by decide +kernel
theorem dX11_isFilling_16 : decode cX11_isFilling 16 = .ok (.ireturn, 1) := by decide +kernel
theorem dX11_bit_0 : decode cX11_bit 0 = .ok (.iload_n 0, 1) := by decide +kernel
theorem dX11_bit_1 : decode cX11_bit 1 = .ok (.iload_n 1, 1) := by decide +kernel
theorem dX11_bit_2 : decode cX11_bit 2 = .ok (.ishr, 1) := by decide +kernel
theorem dX11_bit_3 : decode cX11_bit 3 = .ok (.iconst 1, 1) := by decide +kernel
theorem dX11_bit_4 : decode cX11_bit 4 = .ok (.iand, 1) := by decide +kernel
theorem dX11_bit_5 : decode cX11_bit 5 = .ok (.ireturn, 1) := by decide +kernel
theorem dX11_withBit_0 : decode cX11_withBit 0 = .ok (.iload_n 2, 1) := by decide +kernel
theorem dX11_withBit_1 : decode cX11_withBit 1 = .ok (.ifCond .eq 11, 3) := by decide +kernel
theorem dX11_withBit_4 : decode cX11_withBit 4 = .ok (.iload_n 0, 1) := by decide +kernel
theorem dX11_withBit_5 : decode cX11_withBit 5 = .ok (.iconst 1, 1) := by decide +kernel
theorem dX11_withBit_6 : decode cX11_withBit 6 = .ok (.iload_n 1, 1) := by decide +kernel
theorem dX11_withBit_7 : decode cX11_withBit 7 = .ok (.ishl, 1) := by decide +kernel
theorem dX11_withBit_8 : decode cX11_withBit 8 = .ok (.ior, 1) := by decide +kernel
theorem dX11_withBit_9 : decode cX11_withBit 9 = .ok (.goto 10, 3) := by decide +kernel
theorem dX11_withBit_12 : decode cX11_withBit 12 = .ok (.iload_n 0, 1) := by decide +kernel
theorem dX11_withBit_13 : decode cX11_withBit 13 = .ok (.iconst 1, 1) := by decide +kernel
theorem dX11_withBit_14 : decode cX11_withBit 14 = .ok (.iload_n 1, 1) := by decide +kernel
theorem dX11_withBit_15 : decode cX11_withBit 15 = .ok (.ishl, 1) := by decide +kernel
theorem dX11_withBit_16 : decode cX11_withBit 16 = .ok (.iconst (-1), 1) := by decide +kernel
theorem dX11_withBit_17 : decode cX11_withBit 17 = .ok (.ixor, 1) := by decide +kernel
theorem dX11_withBit_18 : decode cX11_withBit 18 = .ok (.iand, 1) := by decide +kernel
theorem dX11_withBit_19 : decode cX11_withBit 19 = .ok (.ireturn, 1) := by decide +kernel
theorem dX11_figure_0 : decode cX11_figure 0 = .ok (.iload_n 0, 1) := by decide +kernel
theorem dX11_figure_1 : decode cX11_figure 1 = .ok (.bipush 48, 2) := by decide +kernel
theorem dX11_figure_3 : decode cX11_figure 3 = .ok (.isub, 1) := by decide +kernel
theorem dX11_figure_4 : decode cX11_figure 4 = .ok (.istore_n 3, 1) := by decide +kernel
theorem dX11_figure_5 : decode cX11_figure 5 = .ok (.iload_n 3, 1) := by decide +kernel
theorem dX11_figure_6 : decode cX11_figure 6 = .ok (.iload_n 1, 1) := by decide +kernel
theorem dX11_figure_7 : decode cX11_figure 7 = .ok (.if_icmp .lt 12, 3) := by decide +kernel
theorem dX11_figure_10 : decode cX11_figure 10 = .ok (.iload_n 3, 1) := by decide +kernel
theorem dX11_figure_11 : decode cX11_figure 11 = .ok (.iload_n 2, 1) := by decide +kernel
theorem dX11_figure_12 : decode cX11_figure 12 = .ok (.if_icmp .gt 7, 3) := by decide +kernel
theorem dX11_figure_15 : decode cX11_figure 15 = .ok (.iload_n 3, 1) := by decide +kernel
theorem dX11_figure_16 : decode cX11_figure 16 = .ok (.goto 5, 3) := by decide +kernel
theorem dX11_figure_19 : decode cX11_figure 19 = .ok (.bipush (-9), 2) := by decide +kernel
theorem dX11_figure_21 : decode cX11_figure 21 = .ok (.ireturn, 1) := by decide +kernel
theorem dX11_valueAt_0 : decode cX11_valueAt 0 = .ok (.iload_n 0, 1) := by decide +kernel
theorem dX11_valueAt_1 : decode cX11_valueAt 1 = .ok (.istore_n 2, 1) := by decide +kernel
theorem dX11_valueAt_2 : decode cX11_valueAt 2 = .ok (.iconst 5, 1) := by decide +kernel
theorem dX11_valueAt_3 : decode cX11_valueAt 3 = .ok (.istore_n 3, 1) := by decide +kernel
theorem dX11_valueAt_4 : decode cX11_valueAt 4 = .ok (.iload_n 3, 1) := by decide +kernel
theorem dX11_valueAt_5 : decode cX11_valueAt 5 = .ok (.iload_n 1, 1) := by decide +kernel
theorem dX11_valueAt_6 : decode cX11_valueAt 6 = .ok (.if_icmp .le 14, 3) := by decide +kernel
theorem dX11_valueAt_9 : decode cX11_valueAt 9 = .ok (.iload_n 2, 1) := by decide +kernel
theorem dX11_valueAt_10 : decode cX11_valueAt 10 = .ok (.bipush 6, 2) := by decide +kernel
theorem dX11_valueAt_12 : decode cX11_valueAt 12 = .ok (.idiv, 1) := by decide +kernel
theorem dX11_valueAt_13 : decode cX11_valueAt 13 = .ok (.istore_n 2, 1) := by decide +kernel
theorem dX11_valueAt_14 : decode cX11_valueAt 14 = .ok (.iinc 3 (-1), 3) := by decide +kernel
theorem dX11_valueAt_17 : decode cX11_valueAt 17 = .ok (.goto (-13), 3) := by decide +kernel
theorem dX11_valueAt_20 : decode cX11_valueAt 20 = .ok (.iload_n 2, 1) := by decide +kernel
theorem dX11_valueAt_21 : decode cX11_valueAt 21 = .ok (.bipush 6, 2) := by decide +kernel
theorem dX11_valueAt_23 : decode cX11_valueAt 23 = .ok (.irem, 1) := by decide +kernel
theorem dX11_valueAt_24 : decode cX11_valueAt 24 = .ok (.ireturn, 1) := by decide +kernel
theorem dX11_spread_0 : decode cX11_spread 0 = .ok (.iload_n 0, 1) := by decide +kernel
theorem dX11_spread_1 : decode cX11_spread 1 = .ok (.istore_n 2, 1) := by decide +kernel
theorem dX11_spread_2 : decode cX11_spread 2 = .ok (.aload_n 1, 1) := by decide +kernel
theorem dX11_spread_3 : decode cX11_spread 3 = .ok (.arraylength, 1) := by decide +kernel
theorem dX11_spread_4 : decode cX11_spread 4 = .ok (.iconst 1, 1) := by decide +kernel
theorem dX11_spread_5 : decode cX11_spread 5 = .ok (.isub, 1) := by decide +kernel
theorem dX11_spread_6 : decode cX11_spread 6 = .ok (.istore_n 3, 1) := by decide +kernel
theorem dX11_spread_7 : decode cX11_spread 7 = .ok (.iload_n 3, 1) := by decide +kernel
theorem dX11_spread_8 : decode cX11_spread 8 = .ok (.ifCond .lt 21, 3) := by decide +kernel
theorem dX11_spread_11 : decode cX11_spread 11 = .ok (.aload_n 1, 1) := by decide +kernel
theorem dX11_spread_12 : decode cX11_spread 12 = .ok (.iload_n 3, 1) := by decide +kernel
theorem dX11_spread_13 : decode cX11_spread 13 = .ok (.iload_n 2, 1) := by decide +kernel
theorem dX11_spread_14 : decode cX11_spread 14 = .ok (.bipush 6, 2) := by decide +kernel
theorem dX11_spread_16 : decode cX11_spread 16 = .ok (.irem, 1) := by decide +kernel
theorem dX11_spread_17 : decode cX11_spread 17 = .ok (.iastore, 1) := by decide +kernel
theorem dX11_spread_18 : decode cX11_spread 18 = .ok (.iload_n 2, 1) := by decide +kernel
theorem dX11_spread_19 : decode cX11_spread 19 = .ok (.bipush 6, 2) := by decide +kernel
theorem dX11_spread_21 : decode cX11_spread 21 = .ok (.idiv, 1) := by decide +kernel
theorem dX11_spread_22 : decode cX11_spread 22 = .ok (.istore_n 2, 1) := by decide +kernel
theorem dX11_spread_23 : decode cX11_spread 23 = .ok (.iinc 3 (-1), 3) := by decide +kernel
theorem dX11_spread_26 : decode cX11_spread 26 = .ok (.goto (-19), 3) := by decide +kernel
theorem dX11_spread_29 : decode cX11_spread 29 = .ok (.return_, 1) := by decide +kernel
theorem dX11_unlike_0 : decode cX11_unlike 0 = .ok (.iconst 0, 1) := by decide +kernel
theorem dX11_unlike_1 : decode cX11_unlike 1 = .ok (.istore_n 2, 1) := by decide +kernel
theorem dX11_unlike_2 : decode cX11_unlike 2 = .ok (.iload_n 0, 1) := by decide +kernel
theorem dX11_unlike_3 : decode cX11_unlike 3 = .ok (.istore_n 3, 1) := by decide +kernel
theorem dX11_unlike_4 : decode cX11_unlike 4 = .ok (.iload_n 1, 1) := by decide +kernel
theorem dX11_unlike_5 : decode cX11_unlike 5 = .ok (.istore 4, 2) := by decide +kernel
theorem dX11_unlike_7 : decode cX11_unlike 7 = .ok (.iconst 5, 1) := by decide +kernel
theorem dX11_unlike_8 : decode cX11_unlike 8 = .ok (.istore 5, 2) := by decide +kernel
theorem dX11_unlike_10 : decode cX11_unlike 10 = .ok (.iload 5, 2) := by decide +kernel
theorem dX11_unlike_12 : decode cX11_unlike 12 = .ok (.ifCond .lt 40, 3) := by decide +kernel
theorem dX11_unlike_15 : decode cX11_unlike 15 = .ok (.iload_n 3, 1) := by decide +kernel
theorem dX11_unlike_16 : decode cX11_unlike 16 = .ok (.bipush 6, 2) := by decide +kernel
theorem dX11_unlike_18 : decode cX11_unlike 18 = .ok (.irem, 1) := by decide +kernel
theorem dX11_unlike_19 : decode cX11_unlike 19 = .ok (.iload 4, 2) := by decide +kernel
theorem dX11_unlike_21 : decode cX11_unlike 21 = .ok (.bipush 6, 2) := by decide +kernel
theorem dX11_unlike_23 : decode cX11_unlike 23 = .ok (.irem, 1) := by decide +kernel
theorem dX11_unlike_24 : decode cX11_unlike 24 = .ok (.if_icmp .eq 10, 3) := by decide +kernel
theorem dX11_unlike_27 : decode cX11_unlike 27 = .ok (.iload_n 2, 1) := by decide +kernel
theorem dX11_unlike_28 : decode cX11_unlike 28 = .ok (.iconst 1, 1) := by decide +kernel
theorem dX11_unlike_29 : decode cX11_unlike 29 = .ok (.iload 5, 2) := by decide +kernel
theorem dX11_unlike_31 : decode cX11_unlike 31 = .ok (.ishl, 1) := by decide +kernel
theorem dX11_unlike_32 : decode cX11_unlike 32 = .ok (.ior, 1) := by decide +kernel
theorem dX11_unlike_33 : decode cX11_unlike 33 = .ok (.istore_n 2, 1) := by decide +kernel
theorem dX11_unlike_34 : decode cX11_unlike 34 = .ok (.iload_n 3, 1) := by decide +kernel
theorem dX11_unlike_35 : decode cX11_unlike 35 = .ok (.bipush 6, 2) := by decide +kernel
theorem dX11_unlike_37 : decode cX11_unlike 37 = .ok (.idiv, 1) := by decide +kernel
theorem dX11_unlike_38 : decode cX11_unlike 38 = .ok (.istore_n 3, 1) := by decide +kernel
theorem dX11_unlike_39 : decode cX11_unlike 39 = .ok (.iload 4, 2) := by decide +kernel
theorem dX11_unlike_41 : decode cX11_unlike 41 = .ok (.bipush 6, 2) := by decide +kernel
theorem dX11_unlike_43 : decode cX11_unlike 43 = .ok (.idiv, 1) := by decide +kernel
theorem dX11_unlike_44 : decode cX11_unlike 44 = .ok (.istore 4, 2) := by decide +kernel
theorem dX11_unlike_46 : decode cX11_unlike 46 = .ok (.iinc 5 (-1), 3) := by decide +kernel
theorem dX11_unlike_49 : decode cX11_unlike 49 = .ok (.goto (-39), 3) := by decide +kernel
theorem dX11_unlike_52 : decode cX11_unlike 52 = .ok (.iload_n 2, 1) := by decide +kernel
theorem dX11_unlike_53 : decode cX11_unlike 53 = .ok (.ireturn, 1) := by decide +kernel
theorem dX12_init_0 : decode cX12_init 0 = .ok (.aload_n 0, 1) := by decide +kernel
theorem dX12_init_1 : decode cX12_init 1 = .ok (.invokespecial 1, 3) := by decide +kernel
theorem dX12_init_4 : decode cX12_init 4 = .ok (.aload_n 0, 1) := by decide +kernel
theorem dX12_init_5 : decode cX12_init 5 = .ok (.bipush 6, 2) := by decide +kernel
theorem dX12_init_7 : decode cX12_init 7 = .ok (.newarray .int, 2) := by decide +kernel
theorem dX12_init_9 : decode cX12_init 9 = .ok (.putfield 7, 3) := by decide +kernel
theorem dX12_init_12 : decode cX12_init 12 = .ok (.aload_n 0, 1) := by decide +kernel
theorem dX12_init_13 : decode cX12_init 13 = .ok (.bipush 6, 2) := by decide +kernel
theorem dX12_init_15 : decode cX12_init 15 = .ok (.newarray .boolean, 2) := by decide +kernel
theorem dX12_init_17 : decode cX12_init 17 = .ok (.putfield 13, 3) := by decide +kernel
theorem dX12_init_20 : decode cX12_init 20 = .ok (.aload_n 0, 1) := by decide +kernel
theorem dX12_init_21 : decode cX12_init 21 = .ok (.bipush 6, 2) := by decide +kernel
theorem dX12_init_23 : decode cX12_init 23 = .ok (.newarray .int, 2) := by decide +kernel
theorem dX12_init_25 : decode cX12_init 25 = .ok (.putfield 17, 3) := by decide +kernel
theorem dX12_init_28 : decode cX12_init 28 = .ok (.aload_n 0, 1) := by decide +kernel
theorem dX12_init_29 : decode cX12_init 29 = .ok (.bipush 6, 2) := by decide +kernel
theorem dX12_init_31 : decode cX12_init 31 = .ok (.newarray .int, 2) := by decide +kernel
theorem dX12_init_33 : decode cX12_init 33 = .ok (.putfield 20, 3) := by decide +kernel
theorem dX12_init_36 : decode cX12_init 36 = .ok (.aload_n 0, 1) := by decide +kernel
theorem dX12_init_37 : decode cX12_init 37 = .ok (.sipush 144, 3) := by decide +kernel
theorem dX12_init_40 : decode cX12_init 40 = .ok (.newarray .int, 2) := by decide +kernel
theorem dX12_init_42 : decode cX12_init 42 = .ok (.putfield 23, 3) := by decide +kernel
theorem dX12_init_45 : decode cX12_init 45 = .ok (.aload_n 0, 1) := by decide +kernel
theorem dX12_init_46 : decode cX12_init 46 = .ok (.bipush 15, 2) := by decide +kernel
theorem dX12_init_48 : decode cX12_init 48 = .ok (.newarray .boolean, 2) := by decide +kernel
theorem dX12_init_50 : decode cX12_init 50 = .ok (.putfield 26, 3) := by decide +kernel
theorem dX12_init_53 : decode cX12_init 53 = .ok (.aload_n 0, 1) := by decide +kernel
theorem dX12_init_54 : decode cX12_init 54 = .ok (.iconst 2, 1) := by decide +kernel
theorem dX12_init_55 : decode cX12_init 55 = .ok (.putfield 29, 3) := by decide +kernel
theorem dX12_init_58 : decode cX12_init 58 = .ok (.aload_n 0, 1) := by decide +kernel
theorem dX12_init_59 : decode cX12_init 59 = .ok (.iconst 3, 1) := by decide +kernel
theorem dX12_init_60 : decode cX12_init 60 = .ok (.putfield 33, 3) := by decide +kernel
theorem dX12_init_63 : decode cX12_init 63 = .ok (.aload_n 0, 1) := by decide +kernel
theorem dX12_init_64 : decode cX12_init 64 = .ok (.bipush 60, 2) := by decide +kernel
theorem dX12_init_66 : decode cX12_init 66 = .ok (.putfield 36, 3) := by decide +kernel
theorem dX12_init_69 : decode cX12_init 69 = .ok (.aload_n 0, 1) := by decide +kernel
theorem dX12_init_70 : decode cX12_init 70 = .ok (.bipush 24, 2) := by decide +kernel
theorem dX12_init_72 : decode cX12_init 72 = .ok (.newarray .int, 2) := by decide +kernel
theorem dX12_init_74 : decode cX12_init 74 = .ok (.putfield 39, 3) := by decide +kernel
theorem dX12_init_77 : decode cX12_init 77 = .ok (.aload_n 0, 1) := by decide +kernel
theorem dX12_init_78 : decode cX12_init 78 = .ok (.bipush 72, 2) := by decide +kernel
theorem dX12_init_80 : decode cX12_init 80 = .ok (.newarray .int, 2) := by decide +kernel
theorem dX12_init_82 : decode cX12_init 82 = .ok (.putfield 42, 3) := by decide +kernel
theorem dX12_init_85 : decode cX12_init 85 = .ok (.aload_n 0, 1) := by decide +kernel
theorem dX12_init_86 : decode cX12_init 86 = .ok (.bipush 6, 2) := by decide +kernel
theorem dX12_init_88 : decode cX12_init 88 = .ok (.newarray .int, 2) := by decide +kernel
theorem dX12_init_90 : decode cX12_init 90 = .ok (.putfield 45, 3) := by decide +kernel
theorem dX12_init_93 : decode cX12_init 93 = .ok (.aload_n 0, 1) := by decide +kernel
theorem dX12_init_94 : decode cX12_init 94 = .ok (.bipush 25, 2) := by decide +kernel
theorem dX12_init_96 : decode cX12_init 96 = .ok (.newarray .int, 2) := by decide +kernel
theorem dX12_init_98 : decode cX12_init 98 = .ok (.putfield 48, 3) := by decide +kernel
theorem dX12_init_101 : decode cX12_init 101 = .ok (.aload_n 0, 1) := by decide +kernel
theorem dX12_init_102 : decode cX12_init 102 = .ok (.iconst 5, 1) := by decide +kernel
theorem dX12_init_103 : decode cX12_init 103 = .ok (.newarray .int, 2) := by decide +kernel
theorem dX12_init_105 : decode cX12_init 105 = .ok (.putfield 51, 3) := by decide +kernel
theorem dX12_init_108 : decode cX12_init 108 = .ok (.aload_n 0, 1) := by decide +kernel
theorem dX12_init_109 : decode cX12_init 109 = .ok (.bipush 8, 2) := by decide +kernel
theorem dX12_init_111 : decode cX12_init 111 = .ok (.newarray .int, 2) := by decide +kernel
theorem dX12_init_113 : decode cX12_init 113 = .ok (.putfield 54, 3) := by decide +kernel
theorem dX12_init_116 : decode cX12_init 116 = .ok (.aload_n 0, 1) := by decide +kernel
theorem dX12_init_117 : decode cX12_init 117 = .ok (.bipush 8, 2) := by decide +kernel
theorem dX12_init_119 : decode cX12_init 119 = .ok (.newarray .int, 2) := by decide +kernel
theorem dX12_init_121 : decode cX12_init 121 = .ok (.putfield 57, 3) := by decide +kernel
theorem dX12_init_124 : decode cX12_init 124 = .ok (.aload_n 0, 1) := by decide +kernel
theorem dX12_init_125 : decode cX12_init 125 = .ok (.bipush 8, 2) := by decide +kernel
theorem dX12_init_127 : decode cX12_init 127 = .ok (.newarray .int, 2) := by decide +kernel
theorem dX12_init_129 : decode cX12_init 129 = .ok (.putfield 60, 3) := by decide +kernel
theorem dX12_init_132 : decode cX12_init 132 = .ok (.aload_n 0, 1) := by decide +kernel
theorem dX12_init_133 : decode cX12_init 133 = .ok (.bipush 48, 2) := by decide +kernel
theorem dX12_init_135 : decode cX12_init 135 = .ok (.newarray .int, 2) := by decide +kernel
theorem dX12_init_137 : decode cX12_init 137 = .ok (.putfield 63, 3) := by decide +kernel
theorem dX12_init_140 : decode cX12_init 140 = .ok (.aload_n 0, 1) := by decide +kernel
theorem dX12_init_141 : decode cX12_init 141 = .ok (.bipush 8, 2) := by decide +kernel
theorem dX12_init_143 : decode cX12_init 143 = .ok (.newarray .int, 2) := by decide +kernel
theorem dX12_init_145 : decode cX12_init 145 = .ok (.putfield 66, 3) := by decide +kernel
theorem dX12_init_148 : decode cX12_init 148 = .ok (.aload_n 0, 1) := by decide +kernel
theorem dX12_init_149 : decode cX12_init 149 = .ok (.bipush 96, 2) := by decide +kernel
theorem dX12_init_151 : decode cX12_init 151 = .ok (.newarray .int, 2) := by decide +kernel
theorem dX12_init_153 : decode cX12_init 153 = .ok (.putfield 69, 3) := by decide +kernel
theorem dX12_init_156 : decode cX12_init 156 = .ok (.aload_n 0, 1) := by decide +kernel
theorem dX12_init_157 : decode cX12_init 157 = .ok (.bipush 6, 2) := by decide +kernel
theorem dX12_init_159 : decode cX12_init 159 = .ok (.newarray .int, 2) := by decide +kernel
theorem dX12_init_161 : decode cX12_init 161 = .ok (.putfield 72, 3) := by decide +kernel
theorem dX12_init_164 : decode cX12_init 164 = .ok (.aload_n 0, 1) := by decide +kernel
theorem dX12_init_165 : decode cX12_init 165 = .ok (.sipush 432, 3) := by decide +kernel
theorem dX12_init_168 : decode cX12_init 168 = .ok (.newarray .int, 2) := by decide +kernel
theorem dX12_init_170 : decode cX12_init 170 = .ok (.putfield 75, 3) := by decide +kernel
theorem dX12_init_173 : decode cX12_init 173 = .ok (.aload_n 0, 1) := by decide +kernel
theorem dX12_init_174 : decode cX12_init 174 = .ok (.iconst 3, 1) := by decide +kernel
theorem dX12_init_175 : decode cX12_init 175 = .ok (.newarray .int, 2) := by decide +kernel
theorem dX12_init_177 : decode cX12_init 177 = .ok (.putfield 78, 3) := by decide +kernel
theorem dX12_init_180 : decode cX12_init 180 = .ok (.aload_n 0, 1) := by decide +kernel
theorem dX12_init_181 : decode cX12_init 181 = .ok (.bipush 45, 2) := by decide +kernel
theorem dX12_init_183 : decode cX12_init 183 = .ok (.newarray .boolean, 2) := by decide +kernel
theorem dX12_init_185 : decode cX12_init 185 = .ok (.putfield 81, 3) := by decide +kernel
theorem dX12_init_188 : decode cX12_init 188 = .ok (.aload_n 0, 1) := by decide +kernel
theorem dX12_init_189 : decode cX12_init 189 = .ok (.iconst 3, 1) := by decide +kernel
theorem dX12_init_190 : decode cX12_init 190 = .ok (.newarray .boolean, 2) := by decide +kernel
theorem dX12_init_192 : decode cX12_init 192 = .ok (.putfield 84, 3) := by decide +kernel
theorem dX12_init_195 : decode cX12_init 195 = .ok (.aload_n 0, 1) := by decide +kernel
theorem dX12_init_196 : decode cX12_init 196 = .ok (.bipush (-9), 2) := by decide +kernel
theorem dX12_init_198 : decode cX12_init 198 = .ok (.putfield 87, 3) := by decide +kernel
theorem dX12_init_201 : decode cX12_init 201 = .ok (.aload_n 0, 1) := by decide +kernel
theorem dX12_init_202 : decode cX12_init 202 = .ok (.bipush 6, 2) := by decide +kernel
theorem dX12_init_204 : decode cX12_init 204 = .ok (.newarray .int, 2) := by decide +kernel
theorem dX12_init_206 : decode cX12_init 206 = .ok (.putfield 90, 3) := by decide +kernel
theorem dX12_init_209 : decode cX12_init 209 = .ok (.aload_n 0, 1) := by decide +kernel
theorem dX12_init_210 : decode cX12_init 210 = .ok (.bipush 6, 2) := by decide +kernel
theorem dX12_init_212 : decode cX12_init 212 = .ok (.newarray .int, 2) := by decide +kernel
theorem dX12_init_214 : decode cX12_init 214 = .ok (.putfield 93, 3) := by decide +kernel
theorem dX12_init_217 : decode cX12_init 217 = .ok (.aload_n 0, 1) := by decide +kernel
theorem dX12_init_218 : decode cX12_init 218 = .ok (.bipush 6, 2) := by decide +kernel
theorem dX12_init_220 : decode cX12_init 220 = .ok (.newarray .int, 2) := by decide +kernel
theorem dX12_init_222 : decode cX12_init 222 = .ok (.putfield 96, 3) := by decide +kernel
theorem dX12_init_225 : decode cX12_init 225 = .ok (.aload_n 0, 1) := by decide +kernel
theorem dX12_init_226 : decode cX12_init 226 = .ok (.ldc 99, 2) := by decide +kernel
theorem dX12_init_228 : decode cX12_init 228 = .ok (.newarray .int, 2) := by decide +kernel
theorem dX12_init_230 : decode cX12_init 230 = .ok (.putfield 100, 3) := by decide +kernel
theorem dX12_init_233 : decode cX12_init 233 = .ok (.aload_n 0, 1) := by decide +kernel
theorem dX12_init_234 : decode cX12_init 234 = .ok (.ldc 99, 2) := by decide +kernel
theorem dX12_init_236 : decode cX12_init 236 = .ok (.newarray .int, 2) := by decide +kernel
theorem dX12_init_238 : decode cX12_init 238 = .ok (.putfield 103, 3) := by decide +kernel
theorem dX12_init_241 : decode cX12_init 241 = .ok (.aload_n 0, 1) := by decide +kernel
theorem dX12_init_242 : decode cX12_init 242 = .ok (.bipush 6, 2) := by decide +kernel
theorem dX12_init_244 : decode cX12_init 244 = .ok (.newarray .int, 2) := by decide +kernel
theorem dX12_init_246 : decode cX12_init 246 = .ok (.putfield 106, 3) := by decide +kernel
theorem dX12_init_249 : decode cX12_init 249 = .ok (.aload_n 0, 1) := by decide +kernel
theorem dX12_init_250 : decode cX12_init 250 = .ok (.bipush 6, 2) := by decide +kernel
theorem dX12_init_252 : decode cX12_init 252 = .ok (.newarray .int, 2) := by decide +kernel
theorem dX12_init_254 : decode cX12_init 254 = .ok (.putfield 109, 3) := by decide +kernel
theorem dX12_init_257 : decode cX12_init 257 = .ok (.aload_n 0, 1) := by decide +kernel
theorem dX12_init_258 : decode cX12_init 258 = .ok (.bipush 6, 2) := by decide +kernel
theorem dX12_init_260 : decode cX12_init 260 = .ok (.newarray .boolean, 2) := by decide +kernel
theorem dX12_init_262 : decode cX12_init 262 = .ok (.putfield 112, 3) := by decide +kernel
theorem dX12_init_265 : decode cX12_init 265 = .ok (.iconst 0, 1) := by decide +kernel
theorem dX12_init_266 : decode cX12_init 266 = .ok (.istore_n 1, 1) := by decide +kernel
theorem dX12_init_267 : decode cX12_init 267 = .ok (.iload_n 1, 1) := by decide +kernel
theorem dX12_init_268 : decode cX12_init 268 = .ok (.bipush 6, 2) := by decide +kernel
theorem dX12_init_270 : decode cX12_init 270 = .ok (.if_icmp .ge 17, 3) := by decide +kernel
theorem dX12_init_273 : decode cX12_init 273 = .ok (.aload_n 0, 1) := by decide +kernel
theorem dX12_init_274 : decode cX12_init 274 = .ok (.getfield 17, 3) := by decide +kernel
theorem dX12_init_277 : decode cX12_init 277 = .ok (.iload_n 1, 1) := by decide +kernel
theorem dX12_init_278 : decode cX12_init 278 = .ok (.bipush (-9), 2) := by decide +kernel
theorem dX12_init_280 : decode cX12_init 280 = .ok (.iastore, 1) := by decide +kernel
theorem dX12_init_281 : decode cX12_init 281 = .ok (.iinc 1 1, 3) := by decide +kernel
theorem dX12_init_284 : decode cX12_init 284 = .ok (.goto (-17), 3) := by decide +kernel
theorem dX12_init_287 : decode cX12_init 287 = .ok (.iconst 0, 1) := by decide +kernel
theorem dX12_init_288 : decode cX12_init 288 = .ok (.istore_n 1, 1) := by decide +kernel
theorem dX12_init_289 : decode cX12_init 289 = .ok (.iload_n 1, 1) := by decide +kernel
theorem dX12_init_290 : decode cX12_init 290 = .ok (.iconst 4, 1) := by decide +kernel
theorem dX12_init_291 : decode cX12_init 291 = .ok (.if_icmp .ge 40, 3) := by decide +kernel
theorem dX12_init_294 : decode cX12_init 294 = .ok (.aload_n 0, 1) := by decide +kernel
theorem dX12_init_295 : decode cX12_init 295 = .ok (.getfield 51, 3) := by decide +kernel
theorem dX12_init_298 : decode cX12_init 298 = .ok (.iload_n 1, 1) := by decide +kernel
theorem dX12_init_299 : decode cX12_init 299 = .ok (.iconst 5, 1) := by decide +kernel
theorem dX12_init_300 : decode cX12_init 300 = .ok (.iastore, 1) := by decide +kernel
theorem dX12_init_301 : decode cX12_init 301 = .ok (.iconst 0, 1) := by decide +kernel
theorem dX12_init_302 : decode cX12_init 302 = .ok (.istore_n 2, 1) := by decide +kernel
theorem dX12_init_303 : decode cX12_init 303 = .ok (.iload_n 2, 1) := by decide +kernel
theorem dX12_init_304 : decode cX12_init 304 = .ok (.iconst 5, 1) := by decide +kernel
theorem dX12_init_305 : decode cX12_init 305 = .ok (.if_icmp .ge 20, 3) := by decide +kernel
theorem dX12_init_308 : decode cX12_init 308 = .ok (.aload_n 0, 1) := by decide +kernel
theorem dX12_init_309 : decode cX12_init 309 = .ok (.getfield 48, 3) := by decide +kernel
theorem dX12_init_312 : decode cX12_init 312 = .ok (.iconst 5, 1) := by decide +kernel
theorem dX12_init_313 : decode cX12_init 313 = .ok (.iload_n 1, 1) := by decide +kernel
theorem dX12_init_314 : decode cX12_init 314 = .ok (.imul, 1) := by decide +kernel
theorem dX12_init_315 : decode cX12_init 315 = .ok (.iload_n 2, 1) := by decide +kernel
theorem dX12_init_316 : decode cX12_init 316 = .ok (.iadd, 1) := by decide +kernel
theorem dX12_init_317 : decode cX12_init 317 = .ok (.iload_n 2, 1) := by decide +kernel
theorem dX12_init_318 : decode cX12_init 318 = .ok (.iastore, 1) := by decide +kernel
theorem dX12_init_319 : decode cX12_init 319 = .ok (.iinc 2 1, 3) := by decide +kernel
theorem dX12_init_322 : decode cX12_init 322 = .ok (.goto (-19), 3) := by decide +kernel
theorem dX12_init_325 : decode cX12_init 325 = .ok (.iinc 1 1, 3) := by decide +kernel
theorem dX12_init_328 : decode cX12_init 328 = .ok (.goto (-39), 3) := by decide +kernel
theorem dX12_init_331 : decode cX12_init 331 = .ok (.return_, 1) := by decide +kernel
theorem dX12_in_0 : decode cX12_in 0 = .ok (.lload_n 0, 1) := by decide +kernel
theorem dX12_in_1 : decode cX12_in 1 = .ok (.lload_n 2, 1) := by decide +kernel
theorem dX12_in_2 : decode cX12_in 2 = .ok (.lcmp, 1) := by decide +kernel
theorem dX12_in_3 : decode cX12_in 3 = .ok (.ifCond .lt 14, 3) := by decide +kernel
theorem dX12_in_6 : decode cX12_in 6 = .ok (.lload_n 0, 1) := by decide +kernel
theorem dX12_in_7 : decode cX12_in 7 = .ok (.lload 4, 2) := by decide +kernel
theorem dX12_in_9 : decode cX12_in 9 = .ok (.lcmp, 1) := by decide +kernel
theorem dX12_in_10 : decode cX12_in 10 = .ok (.ifCond .gt 7, 3) := by decide +kernel
theorem dX12_in_13 : decode cX12_in 13 = .ok (.iconst 1, 1) := by decide +kernel
theorem dX12_in_14 : decode cX12_in 14 = .ok (.goto 4, 3) := by decide +kernel
theorem dX12_in_17 : decode cX12_in 17 = .ok (.iconst 0, 1) := by decide +kernel
theorem dX12_in_18 : decode cX12_in 18 = .ok (.ireturn, 1) := by decide +kernel
theorem dX12_noGap_0 : decode cX12_noGap 0 = .ok (.iload_n 0, 1) := by decide +kernel
theorem dX12_noGap_1 : decode cX12_noGap 1 = .ok (.i2l, 1) := by decide +kernel
theorem dX12_noGap_2 : decode cX12_noGap 2 = .ok (.lconst 0, 1) := by decide +kernel
theorem dX12_noGap_3 : decode cX12_noGap 3 = .ok (.ldc2_w 118, 3) := by decide +kernel
theorem dX12_noGap_6 : decode cX12_noGap 6 = .ok (.invokestatic 120, 3) := by decide +kernel
theorem dX12_noGap_9 : decode cX12_noGap 9 = .ok (.ifCond .ne 7, 3) := by decide +kernel
theorem dX12_noGap_12 : decode cX12_noGap 12 = .ok (.iconst 1, 1) := by decide +kernel
theorem dX12_noGap_13 : decode cX12_noGap 13 = .ok (.goto 4, 3) := by decide +kernel
theorem dX12_noGap_16 : decode cX12_noGap 16 = .ok (.iconst 0, 1) := by decide +kernel
theorem dX12_noGap_17 : decode cX12_noGap 17 = .ok (.ireturn, 1) := by decide +kernel
theorem dX12_noPerson_0 : decode cX12_noPerson 0 = .ok (.iload_n 0, 1) := by decide +kernel
theorem dX12_noPerson_1 : decode cX12_noPerson 1 = .ok (.i2l, 1) := by decide +kernel
theorem dX12_noPerson_2 : decode cX12_noPerson 2 = .ok (.lconst 0, 1) := by decide +kernel
theorem dX12_noPerson_3 : decode cX12_noPerson 3 = .ok (.ldc2_w 124, 3) := by decide +kernel
theorem dX12_noPerson_6 : decode cX12_noPerson 6 = .ok (.invokestatic 120, 3) := by decide +kernel
theorem dX12_noPerson_9 : decode cX12_noPerson 9 = .ok (.ifCond .ne 7, 3) := by decide +kernel
theorem dX12_noPerson_12 : decode cX12_noPerson 12 = .ok (.iconst 1, 1) := by decide +kernel
theorem dX12_noPerson_13 : decode cX12_noPerson 13 = .ok (.goto 4, 3) := by decide +kernel
theorem dX12_noPerson_16 : decode cX12_noPerson 16 = .ok (.iconst 0, 1) := by decide +kernel
theorem dX12_noPerson_17 : decode cX12_noPerson 17 = .ok (.ireturn, 1) := by decide +kernel
theorem dX12_noTrade_0 : decode cX12_noTrade 0 = .ok (.iload_n 0, 1) := by decide +kernel
theorem dX12_noTrade_1 : decode cX12_noTrade 1 = .ok (.i2l, 1) := by decide +kernel
theorem dX12_noTrade_2 : decode cX12_noTrade 2 = .ok (.lconst 0, 1) := by decide +kernel
theorem dX12_noTrade_3 : decode cX12_noTrade 3 = .ok (.ldc2_w 126, 3) := by decide +kernel
theorem dX12_noTrade_6 : decode cX12_noTrade 6 = .ok (.invokestatic 120, 3) := by decide +kernel
theorem dX12_noTrade_9 : decode cX12_noTrade 9 = .ok (.ifCond .ne 7, 3) := by decide +kernel
theorem dX12_noTrade_12 : decode cX12_noTrade 12 = .ok (.iconst 1, 1) := by decide +kernel
theorem dX12_noTrade_13 : decode cX12_noTrade 13 = .ok (.goto 4, 3) := by decide +kernel
theorem dX12_noTrade_16 : decode cX12_noTrade 16 = .ok (.iconst 0, 1) := by decide +kernel
theorem dX12_noTrade_17 : decode cX12_noTrade 17 = .ok (.ireturn, 1) := by decide +kernel
theorem dX12_noOrder_0 : decode cX12_noOrder 0 = .ok (.iload_n 0, 1) := by decide +kernel
theorem dX12_noOrder_1 : decode cX12_noOrder 1 = .ok (.i2l, 1) := by decide +kernel
theorem dX12_noOrder_2 : decode cX12_noOrder 2 = .ok (.lconst 0, 1) := by decide +kernel
theorem dX12_noOrder_3 : decode cX12_noOrder 3 = .ok (.ldc2_w 128, 3) := by decide +kernel
theorem dX12_noOrder_6 : decode cX12_noOrder 6 = .ok (.invokestatic 120, 3) := by decide +kernel
theorem dX12_noOrder_9 : decode cX12_noOrder 9 = .ok (.ifCond .ne 7, 3) := by decide +kernel
theorem dX12_noOrder_12 : decode cX12_noOrder 12 = .ok (.iconst 1, 1) := by decide +kernel
theorem dX12_noOrder_13 : decode cX12_noOrder 13 = .ok (.goto 4, 3) := by decide +kernel
theorem dX12_noOrder_16 : decode cX12_noOrder 16 = .ok (.iconst 0, 1) := by decide +kernel
theorem dX12_noOrder_17 : decode cX12_noOrder 17 = .ok (.ireturn, 1) := by decide +kernel
theorem dX12_noBargain_0 : decode cX12_noBargain 0 = .ok (.iload_n 1, 1) := by decide +kernel
theorem dX12_noBargain_1 : decode cX12_noBargain 1 = .ok (.i2l, 1) := by decide +kernel
theorem dX12_noBargain_2 : decode cX12_noBargain 2 = .ok (.lconst 0, 1) := by decide +kernel
theorem dX12_noBargain_3 : decode cX12_noBargain 3 = .ok (.aload_n 0, 1) := by decide +kernel
theorem dX12_noBargain_4 : decode cX12_noBargain 4 = .ok (.getfield 130, 3) := by decide +kernel
theorem dX12_noBargain_7 : decode cX12_noBargain 7 = .ok (.iconst 1, 1) := by decide +kernel
theorem dX12_noBargain_8 : decode cX12_noBargain 8 = .ok (.isub, 1) := by decide +kernel
theorem dX12_noBargain_9 : decode cX12_noBargain 9 = .ok (.i2l, 1) := by decide +kernel
theorem dX12_noBargain_10 : decode cX12_noBargain 10 = .ok (.invokestatic 120, 3) := by decide +kernel
theorem dX12_noBargain_13 : decode cX12_noBargain 13 = .ok (.ifCond .ne 7, 3) := by decide +kernel
theorem dX12_noBargain_16 : decode cX12_noBargain 16 = .ok (.iconst 1, 1) := by decide +kernel
theorem dX12_noBargain_17 : decode cX12_noBargain 17 = .ok (.goto 4, 3) := by decide +kernel
theorem dX12_noBargain_20 : decode cX12_noBargain 20 = .ok (.iconst 0, 1) := by decide +kernel
theorem dX12_noBargain_21 : decode cX12_noBargain 21 = .ok (.ireturn, 1) := by decide +kernel
theorem dX12_gap_0 : decode cX12_gap 0 = .ok (.aload_n 0, 1) := by decide +kernel
theorem dX12_gap_1 : decode cX12_gap 1 = .ok (.iconst 0, 1) := by decide +kernel
theorem dX12_gap_2 : decode cX12_gap 2 = .ok (.putfield 115, 3) := by decide +kernel
theorem dX12_gap_5 : decode cX12_gap 5 = .ok (.iload_n 1, 1) := by decide +kernel
theorem dX12_gap_6 : decode cX12_gap 6 = .ok (.invokestatic 133, 3) := by decide +kernel
theorem dX12_gap_9 : decode cX12_gap 9 = .ok (.ifCond .eq 5, 3) := by decide +kernel
theorem dX12_gap_12 : decode cX12_gap 12 = .ok (.iconst (-1), 1) := by decide +kernel
theorem dX12_gap_13 : decode cX12_gap 13 = .ok (.ireturn, 1) := by decide +kernel
theorem dX12_gap_14 : decode cX12_gap 14 = .ok (.iload_n 2, 1) := by decide +kernel
theorem dX12_gap_15 : decode cX12_gap 15 = .ok (.i2l, 1) := by decide +kernel
theorem dX12_gap_16 : decode cX12_gap 16 = .ok (.lconst 0, 1) := by decide +kernel
theorem dX12_gap_17 : decode cX12_gap 17 = .ok (.ldc2_w 118, 3) := by decide +kernel
theorem dX12_gap_20 : decode cX12_gap 20 = .ok (.invokestatic 120, 3) := by decide +kernel
theorem dX12_gap_23 : decode cX12_gap 23 = .ok (.ifCond .ne 6, 3) := by decide +kernel
theorem dX12_gap_26 : decode cX12_gap 26 = .ok (.bipush (-2), 2) := by decide +kernel
theorem dX12_gap_28 : decode cX12_gap 28 = .ok (.ireturn, 1) := by decide +kernel
theorem dX12_gap_29 : decode cX12_gap 29 = .ok (.aload_n 0, 1) := by decide +kernel
theorem dX12_gap_30 : decode cX12_gap 30 = .ok (.getfield 7, 3) := by decide +kernel
theorem dX12_gap_33 : decode cX12_gap 33 = .ok (.iload_n 1, 1) := by decide +kernel
theorem dX12_gap_34 : decode cX12_gap 34 = .ok (.iaload, 1) := by decide +kernel
theorem dX12_gap_35 : decode cX12_gap 35 = .ok (.istore_n 3, 1) := by decide +kernel
theorem dX12_gap_36 : decode cX12_gap 36 = .ok (.aload_n 0, 1) := by decide +kernel
theorem dX12_gap_37 : decode cX12_gap 37 = .ok (.getfield 7, 3) := by decide +kernel
theorem dX12_gap_40 : decode cX12_gap 40 = .ok (.iload_n 1, 1) := by decide +kernel
theorem dX12_gap_41 : decode cX12_gap 41 = .ok (.iload_n 2, 1) := by decide +kernel
theorem dX12_gap_42 : decode cX12_gap 42 = .ok (.iastore, 1) := by decide +kernel
theorem dX12_gap_43 : decode cX12_gap 43 = .ok (.iload_n 3, 1) := by decide +kernel
theorem dX12_gap_44 : decode cX12_gap 44 = .ok (.ireturn, 1) := by decide +kernel
theorem dX12_need_0 : decode cX12_need 0 = .ok (.aload_n 0, 1) := by decide +kernel
theorem dX12_need_1 : decode cX12_need 1 = .ok (.iconst 0, 1) := by decide +kernel
theorem dX12_need_2 : decode cX12_need 2 = .ok (.putfield 115, 3) := by decide +kernel
theorem dX12_need_5 : decode cX12_need 5 = .ok (.iload_n 1, 1) := by decide +kernel
theorem dX12_need_6 : decode cX12_need 6 = .ok (.invokestatic 133, 3) := by decide +kernel
theorem dX12_need_9 : decode cX12_need 9 = .ok (.ifCond .eq 5, 3) := by decide +kernel
theorem dX12_need_12 : decode cX12_need 12 = .ok (.iconst (-1), 1) := by decide +kernel
theorem dX12_need_13 : decode cX12_need 13 = .ok (.ireturn, 1) := by decide +kernel
theorem dX12_need_14 : decode cX12_need 14 = .ok (.aload_n 0, 1) := by decide +kernel
theorem dX12_need_15 : decode cX12_need 15 = .ok (.getfield 13, 3) := by decide +kernel
theorem dX12_need_18 : decode cX12_need 18 = .ok (.iload_n 1, 1) := by decide +kernel
theorem dX12_need_19 : decode cX12_need 19 = .ok (.baload, 1) := by decide +kernel
theorem dX12_need_20 : decode cX12_need 20 = .ok (.ifCond .eq 7, 3) := by decide +kernel
theorem dX12_need_23 : decode cX12_need 23 = .ok (.iconst 1, 1) := by decide +kernel
theorem dX12_need_24 : decode cX12_need 24 = .ok (.goto 4, 3) := by decide +kernel
theorem dX12_need_27 : decode cX12_need 27 = .ok (.iconst 0, 1) := by decide +kernel
theorem dX12_need_28 : decode cX12_need 28 = .ok (.istore_n 3, 1) := by decide +kernel
theorem dX12_need_29 : decode cX12_need 29 = .ok (.aload_n 0, 1) := by decide +kernel
theorem dX12_need_30 : decode cX12_need 30 = .ok (.getfield 13, 3) := by decide +kernel
theorem dX12_need_33 : decode cX12_need 33 = .ok (.iload_n 1, 1) := by decide +kernel
theorem dX12_need_34 : decode cX12_need 34 = .ok (.iload_n 2, 1) := by decide +kernel
theorem dX12_need_35 : decode cX12_need 35 = .ok (.bastore, 1) := by decide +kernel
theorem dX12_need_36 : decode cX12_need 36 = .ok (.iload_n 3, 1) := by decide +kernel
theorem dX12_need_37 : decode cX12_need 37 = .ok (.ireturn, 1) := by decide +kernel
theorem dX12_hang_0 : decode cX12_hang 0 = .ok (.aload_n 0, 1) := by decide +kernel
theorem dX12_hang_1 : decode cX12_hang 1 = .ok (.iconst 0, 1) := by decide +kernel
theorem dX12_hang_2 : decode cX12_hang 2 = .ok (.putfield 115, 3) := by decide +kernel
theorem dX12_hang_5 : decode cX12_hang 5 = .ok (.iload_n 1, 1) := by decide +kernel
theorem dX12_hang_6 : decode cX12_hang 6 = .ok (.invokestatic 133, 3) := by decide +kernel
theorem dX12_hang_9 : decode cX12_hang 9 = .ok (.ifCond .ne 16, 3) := by decide +kernel
theorem dX12_hang_12 : decode cX12_hang 12 = .ok (.iload_n 2, 1) := by decide +kernel
theorem dX12_hang_13 : decode cX12_hang 13 = .ok (.bipush (-9), 2) := by decide +kernel
theorem dX12_hang_15 : decode cX12_hang 15 = .ok (.if_icmp .eq 12, 3) := by decide +kernel
theorem dX12_hang_18 : decode cX12_hang 18 = .ok (.iload_n 2, 1) := by decide +kernel
theorem dX12_hang_19 : decode cX12_hang 19 = .ok (.invokestatic 133, 3) := by decide +kernel
theorem dX12_hang_22 : decode cX12_hang 22 = .ok (.ifCond .eq 5, 3) := by decide +kernel
theorem dX12_hang_25 : decode cX12_hang 25 = .ok (.iconst (-1), 1) := by decide +kernel
theorem dX12_hang_26 : decode cX12_hang 26 = .ok (.ireturn, 1) := by decide +kernel
theorem dX12_hang_27 : decode cX12_hang 27 = .ok (.iload_n 2, 1) := by decide +kernel
theorem dX12_hang_28 : decode cX12_hang 28 = .ok (.bipush (-9), 2) := by decide +kernel
theorem dX12_hang_30 : decode cX12_hang 30 = .ok (.if_icmp .eq 18, 3) := by decide +kernel
theorem dX12_hang_33 : decode cX12_hang 33 = .ok (.iload_n 3, 1) := by decide +kernel
theorem dX12_hang_34 : decode cX12_hang 34 = .ok (.i2l, 1) := by decide +kernel
theorem dX12_hang_35 : decode cX12_hang 35 = .ok (.lconst 1, 1) := by decide +kernel
theorem dX12_hang_36 : decode cX12_hang 36 = .ok (.ldc2_w 118, 3) := by decide +kernel
theorem dX12_hang_39 : decode cX12_hang 39 = .ok (.invokestatic 120, 3) := by decide +kernel
theorem dX12_hang_42 : decode cX12_hang 42 = .ok (.ifCond .ne 6, 3) := by decide +kernel
theorem dX12_hang_45 : decode cX12_hang 45 = .ok (.bipush (-2), 2) := by decide +kernel
theorem dX12_hang_47 : decode cX12_hang 47 = .ok (.ireturn, 1) := by decide +kernel
theorem dX12_hang_48 : decode cX12_hang 48 = .ok (.iload_n 2, 1) := by decide +kernel
theorem dX12_hang_49 : decode cX12_hang 49 = .ok (.iload_n 1, 1) := by decide +kernel
theorem dX12_hang_50 : decode cX12_hang 50 = .ok (.if_icmp .ne 6, 3) := by decide +kernel
theorem dX12_hang_53 : decode cX12_hang 53 = .ok (.bipush (-3), 2) := by decide +kernel
theorem dX12_hang_55 : decode cX12_hang 55 = .ok (.ireturn, 1) := by decide +kernel
theorem dX12_hang_56 : decode cX12_hang 56 = .ok (.aload_n 0, 1) := by decide +kernel
theorem dX12_hang_57 : decode cX12_hang 57 = .ok (.getfield 17, 3) := by decide +kernel
theorem dX12_hang_60 : decode cX12_hang 60 = .ok (.iload_n 1, 1) := by decide +kernel
theorem dX12_hang_61 : decode cX12_hang 61 = .ok (.iaload, 1) := by decide +kernel
theorem dX12_hang_62 : decode cX12_hang 62 = .ok (.istore 4, 2) := by decide +kernel
theorem dX12_hang_64 : decode cX12_hang 64 = .ok (.aload_n 0, 1) := by decide +kernel
theorem dX12_hang_65 : decode cX12_hang 65 = .ok (.getfield 17, 3) := by decide +kernel
theorem dX12_hang_68 : decode cX12_hang 68 = .ok (.iload_n 1, 1) := by decide +kernel
theorem dX12_hang_69 : decode cX12_hang 69 = .ok (.iload_n 2, 1) := by decide +kernel
theorem dX12_hang_70 : decode cX12_hang 70 = .ok (.iastore, 1) := by decide +kernel
theorem dX12_hang_71 : decode cX12_hang 71 = .ok (.aload_n 0, 1) := by decide +kernel
theorem dX12_hang_72 : decode cX12_hang 72 = .ok (.getfield 20, 3) := by decide +kernel
theorem dX12_hang_75 : decode cX12_hang 75 = .ok (.iload_n 1, 1) := by decide +kernel
theorem dX12_hang_76 : decode cX12_hang 76 = .ok (.iload_n 3, 1) := by decide +kernel
theorem dX12_hang_77 : decode cX12_hang 77 = .ok (.iastore, 1) := by decide +kernel
theorem dX12_hang_78 : decode cX12_hang 78 = .ok (.iload 4, 2) := by decide +kernel
theorem dX12_hang_80 : decode cX12_hang 80 = .ok (.ireturn, 1) := by decide +kernel
theorem dX12_doing_0 : decode cX12_doing 0 = .ok (.aload_n 0, 1) := by decide +kernel
theorem dX12_doing_1 : decode cX12_doing 1 = .ok (.iconst 0, 1) := by decide +kernel
theorem dX12_doing_2 : decode cX12_doing 2 = .ok (.putfield 115, 3) := by decide +kernel
theorem dX12_doing_5 : decode cX12_doing 5 = .ok (.iload_n 1, 1) := by decide +kernel
theorem dX12_doing_6 : decode cX12_doing 6 = .ok (.invokestatic 137, 3) := by decide +kernel
theorem dX12_doing_9 : decode cX12_doing 9 = .ok (.ifCond .ne 25, 3) := by decide +kernel
theorem dX12_doing_12 : decode cX12_doing 12 = .ok (.iload_n 2, 1) := by decide +kernel
theorem dX12_doing_13 : decode cX12_doing 13 = .ok (.invokestatic 137, 3) := by decide +kernel
theorem dX12_doing_16 : decode cX12_doing 16 = .ok (.ifCond .ne 18, 3) := by decide +kernel
theorem dX12_doing_19 : decode cX12_doing 19 = .ok (.iload_n 3, 1) := by decide +kernel
theorem dX12_doing_20 : decode cX12_doing 20 = .ok (.invokestatic 140, 3) := by decide +kernel
theorem dX12_doing_23 : decode cX12_doing 23 = .ok (.ifCond .ne 11, 3) := by decide +kernel
theorem dX12_doing_26 : decode cX12_doing 26 = .ok (.iload 4, 2) := by decide +kernel
theorem dX12_doing_28 : decode cX12_doing 28 = .ok (.invokestatic 133, 3) := by decide +kernel
theorem dX12_doing_31 : decode cX12_doing 31 = .ok (.ifCond .eq 5, 3) := by decide +kernel
theorem dX12_doing_34 : decode cX12_doing 34 = .ok (.iconst (-1), 1) := by decide +kernel
theorem dX12_doing_35 : decode cX12_doing 35 = .ok (.ireturn, 1) := by decide +kernel
theorem dX12_doing_36 : decode cX12_doing 36 = .ok (.iload 5, 2) := by decide +kernel
theorem dX12_doing_38 : decode cX12_doing 38 = .ok (.i2l, 1) := by decide +kernel
theorem dX12_doing_39 : decode cX12_doing 39 = .ok (.lconst 1, 1) := by decide +kernel
theorem dX12_doing_40 : decode cX12_doing 40 = .ok (.ldc2_w 118, 3) := by decide +kernel
theorem dX12_doing_43 : decode cX12_doing 43 = .ok (.invokestatic 120, 3) := by decide +kernel
theorem dX12_doing_46 : decode cX12_doing 46 = .ok (.ifCond .eq 8, 3) := by decide +kernel
theorem dX12_doing_49 : decode cX12_doing 49 = .ok (.iload_n 1, 1) := by decide +kernel
theorem dX12_doing_50 : decode cX12_doing 50 = .ok (.iload_n 2, 1) := by decide +kernel
theorem dX12_doing_51 : decode cX12_doing 51 = .ok (.if_icmp .ne 6, 3) := by decide +kernel
theorem dX12_doing_54 : decode cX12_doing 54 = .ok (.bipush (-2), 2) := by decide +kernel
theorem dX12_doing_56 : decode cX12_doing 56 = .ok (.ireturn, 1) := by decide +kernel
theorem dX12_doing_57 : decode cX12_doing 57 = .ok (.aload_n 0, 1) := by decide +kernel
theorem dX12_doing_58 : decode cX12_doing 58 = .ok (.getfield 143, 3) := by decide +kernel
theorem dX12_doing_61 : decode cX12_doing 61 = .ok (.bipush 24, 2) := by decide +kernel
theorem dX12_doing_63 : decode cX12_doing 63 = .ok (.if_icmp .ne 6, 3) := by decide +kernel
theorem dX12_doing_66 : decode cX12_doing 66 = .ok (.bipush (-4), 2) := by decide +kernel
theorem dX12_doing_68 : decode cX12_doing 68 = .ok (.ireturn, 1) := by decide +kernel
theorem dX12_doing_69 : decode cX12_doing 69 = .ok (.bipush 6, 2) := by decide +kernel
theorem dX12_doing_71 : decode cX12_doing 71 = .ok (.aload_n 0, 1) := by decide +kernel
theorem dX12_doing_72 : decode cX12_doing 72 = .ok (.getfield 143, 3) := by decide +kernel
theorem dX12_doing_75 : decode cX12_doing 75 = .ok (.imul, 1) := by decide +kernel
theorem dX12_doing_76 : decode cX12_doing 76 = .ok (.istore 7, 2) := by decide +kernel
theorem dX12_doing_78 : decode cX12_doing 78 = .ok (.aload_n 0, 1) := by decide +kernel
theorem dX12_doing_79 : decode cX12_doing 79 = .ok (.getfield 23, 3) := by decide +kernel
theorem dX12_doing_82 : decode cX12_doing 82 = .ok (.iload 7, 2) := by decide +kernel
theorem dX12_doing_84 : decode cX12_doing 84 = .ok (.iload_n 1, 1) := by decide +kernel
theorem dX12_doing_85 : decode cX12_doing 85 = .ok (.iastore, 1) := by decide +kernel
theorem dX12_doing_86 : decode cX12_doing 86 = .ok (.aload_n 0, 1) := by decide +kernel
theorem dX12_doing_87 : decode cX12_doing 87 = .ok (.getfield 23, 3) := by decide +kernel
theorem dX12_doing_90 : decode cX12_doing 90 = .ok (.iload 7, 2) := by decide +kernel
theorem dX12_doing_92 : decode cX12_doing 92 = .ok (.iconst 1, 1) := by decide +kernel
theorem dX12_doing_93 : decode cX12_doing 93 = .ok (.iadd, 1) := by decide +kernel
theorem dX12_doing_94 : decode cX12_doing 94 = .ok (.iload_n 2, 1) := by decide +kernel
theorem dX12_doing_95 : decode cX12_doing 95 = .ok (.iastore, 1) := by decide +kernel
theorem dX12_doing_96 : decode cX12_doing 96 = .ok (.aload_n 0, 1) := by decide +kernel
theorem dX12_doing_97 : decode cX12_doing 97 = .ok (.getfield 23, 3) := by decide +kernel
theorem dX12_doing_100 : decode cX12_doing 100 = .ok (.iload 7, 2) := by decide +kernel
theorem dX12_doing_102 : decode cX12_doing 102 = .ok (.iconst 2, 1) := by decide +kernel
theorem dX12_doing_103 : decode cX12_doing 103 = .ok (.iadd, 1) := by decide +kernel
theorem dX12_doing_104 : decode cX12_doing 104 = .ok (.iload_n 3, 1) := by decide +kernel
theorem dX12_doing_105 : decode cX12_doing 105 = .ok (.iastore, 1) := by decide +kernel
theorem dX12_doing_106 : decode cX12_doing 106 = .ok (.aload_n 0, 1) := by decide +kernel
theorem dX12_doing_107 : decode cX12_doing 107 = .ok (.getfield 23, 3) := by decide +kernel
theorem dX12_doing_110 : decode cX12_doing 110 = .ok (.iload 7, 2) := by decide +kernel
theorem dX12_doing_112 : decode cX12_doing 112 = .ok (.iconst 3, 1) := by decide +kernel
theorem dX12_doing_113 : decode cX12_doing 113 = .ok (.iadd, 1) := by decide +kernel
theorem dX12_doing_114 : decode cX12_doing 114 = .ok (.iload 4, 2) := by decide +kernel
theorem dX12_doing_116 : decode cX12_doing 116 = .ok (.iastore, 1) := by decide +kernel
theorem dX12_doing_117 : decode cX12_doing 117 = .ok (.aload_n 0, 1) := by decide +kernel
theorem dX12_doing_118 : decode cX12_doing 118 = .ok (.getfield 23, 3) := by decide +kernel
theorem dX12_doing_121 : decode cX12_doing 121 = .ok (.iload 7, 2) := by decide +kernel
theorem dX12_doing_123 : decode cX12_doing 123 = .ok (.iconst 4, 1) := by decide +kernel
theorem dX12_doing_124 : decode cX12_doing 124 = .ok (.iadd, 1) := by decide +kernel
theorem dX12_doing_125 : decode cX12_doing 125 = .ok (.iload 5, 2) := by decide +kernel
theorem dX12_doing_127 : decode cX12_doing 127 = .ok (.iastore, 1) := by decide +kernel
theorem dX12_doing_128 : decode cX12_doing 128 = .ok (.aload_n 0, 1) := by decide +kernel
theorem dX12_doing_129 : decode cX12_doing 129 = .ok (.getfield 23, 3) := by decide +kernel
theorem dX12_doing_132 : decode cX12_doing 132 = .ok (.iload 7, 2) := by decide +kernel
theorem dX12_doing_134 : decode cX12_doing 134 = .ok (.iconst 5, 1) := by decide +kernel
theorem dX12_doing_135 : decode cX12_doing 135 = .ok (.iadd, 1) := by decide +kernel
theorem dX12_doing_136 : decode cX12_doing 136 = .ok (.iload 6, 2) := by decide +kernel
theorem dX12_doing_138 : decode cX12_doing 138 = .ok (.ifCond .eq 7, 3) := by decide +kernel
theorem dX12_doing_141 : decode cX12_doing 141 = .ok (.iconst 1, 1) := by decide +kernel
theorem dX12_doing_142 : decode cX12_doing 142 = .ok (.goto 4, 3) := by decide +kernel
theorem dX12_doing_145 : decode cX12_doing 145 = .ok (.iconst 0, 1) := by decide +kernel
theorem dX12_doing_146 : decode cX12_doing 146 = .ok (.iastore, 1) := by decide +kernel
theorem dX12_doing_147 : decode cX12_doing 147 = .ok (.aload_n 0, 1) := by decide +kernel
theorem dX12_doing_148 : decode cX12_doing 148 = .ok (.dup, 1) := by decide +kernel
theorem dX12_doing_149 : decode cX12_doing 149 = .ok (.getfield 143, 3) := by decide +kernel
theorem dX12_doing_152 : decode cX12_doing 152 = .ok (.iconst 1, 1) := by decide +kernel
theorem dX12_doing_153 : decode cX12_doing 153 = .ok (.iadd, 1) := by decide +kernel
theorem dX12_doing_154 : decode cX12_doing 154 = .ok (.putfield 143, 3) := by decide +kernel
theorem dX12_doing_157 : decode cX12_doing 157 = .ok (.aload_n 0, 1) := by decide +kernel
theorem dX12_doing_158 : decode cX12_doing 158 = .ok (.getfield 143, 3) := by decide +kernel
theorem dX12_doing_161 : decode cX12_doing 161 = .ok (.iconst 1, 1) := by decide +kernel
theorem dX12_doing_162 : decode cX12_doing 162 = .ok (.isub, 1) := by decide +kernel
theorem dX12_doing_163 : decode cX12_doing 163 = .ok (.ireturn, 1) := by decide +kernel
theorem dX12_undo_0 : decode cX12_undo 0 = .ok (.aload_n 0, 1) := by decide +kernel
theorem dX12_undo_1 : decode cX12_undo 1 = .ok (.iconst 0, 1) := by decide +kernel
theorem dX12_undo_2 : decode cX12_undo 2 = .ok (.putfield 115, 3) := by decide +kernel
theorem dX12_undo_5 : decode cX12_undo 5 = .ok (.aload_n 0, 1) := by decide +kernel
theorem dX12_undo_6 : decode cX12_undo 6 = .ok (.getfield 143, 3) := by decide +kernel
theorem dX12_undo_9 : decode cX12_undo 9 = .ok (.ifCond .ne 6, 3) := by decide +kernel
theorem dX12_undo_12 : decode cX12_undo 12 = .ok (.bipush (-3), 2) := by decide +kernel
theorem dX12_undo_14 : decode cX12_undo 14 = .ok (.ireturn, 1) := by decide +kernel
theorem dX12_undo_15 : decode cX12_undo 15 = .ok (.aload_n 0, 1) := by decide +kernel
theorem dX12_undo_16 : decode cX12_undo 16 = .ok (.dup, 1) := by decide +kernel
theorem dX12_undo_17 : decode cX12_undo 17 = .ok (.getfield 143, 3) := by decide +kernel
theorem dX12_undo_20 : decode cX12_undo 20 = .ok (.iconst 1, 1) := by decide +kernel
theorem dX12_undo_21 : decode cX12_undo 21 = .ok (.isub, 1) := by decide +kernel
theorem dX12_undo_22 : decode cX12_undo 22 = .ok (.putfield 143, 3) := by decide +kernel
theorem dX12_undo_25 : decode cX12_undo 25 = .ok (.aload_n 0, 1) := by decide +kernel
theorem dX12_undo_26 : decode cX12_undo 26 = .ok (.getfield 143, 3) := by decide +kernel
theorem dX12_undo_29 : decode cX12_undo 29 = .ok (.ireturn, 1) := by decide +kernel
theorem dX12_tell_0 : decode cX12_tell 0 = .ok (.aload_n 0, 1) := by decide +kernel
theorem dX12_tell_1 : decode cX12_tell 1 = .ok (.iconst 0, 1) := by decide +kernel
theorem dX12_tell_2 : decode cX12_tell 2 = .ok (.putfield 115, 3) := by decide +kernel
theorem dX12_tell_5 : decode cX12_tell 5 = .ok (.iload_n 1, 1) := by decide +kernel
theorem dX12_tell_6 : decode cX12_tell 6 = .ok (.invokestatic 137, 3) := by decide +kernel
theorem dX12_tell_9 : decode cX12_tell 9 = .ok (.ifCond .ne 10, 3) := by decide +kernel
theorem dX12_tell_12 : decode cX12_tell 12 = .ok (.iload_n 2, 1) := by decide +kernel
theorem dX12_tell_13 : decode cX12_tell 13 = .ok (.invokestatic 140, 3) := by decide +kernel
theorem dX12_tell_16 : decode cX12_tell 16 = .ok (.ifCond .eq 5, 3) := by decide +kernel
theorem dX12_tell_19 : decode cX12_tell 19 = .ok (.iconst (-1), 1) := by decide +kernel
theorem dX12_tell_20 : decode cX12_tell 20 = .ok (.ireturn, 1) := by decide +kernel
theorem dX12_tell_21 : decode cX12_tell 21 = .ok (.aload_n 0, 1) := by decide +kernel
theorem dX12_tell_22 : decode cX12_tell 22 = .ok (.getfield 26, 3) := by decide +kernel
theorem dX12_tell_25 : decode cX12_tell 25 = .ok (.iconst 3, 1) := by decide +kernel
theorem dX12_tell_26 : decode cX12_tell 26 = .ok (.iload_n 1, 1) := by decide +kernel
theorem dX12_tell_27 : decode cX12_tell 27 = .ok (.imul, 1) := by decide +kernel
theorem dX12_tell_28 : decode cX12_tell 28 = .ok (.iload_n 2, 1) := by decide +kernel
theorem dX12_tell_29 : decode cX12_tell 29 = .ok (.iadd, 1) := by decide +kernel
theorem dX12_tell_30 : decode cX12_tell 30 = .ok (.baload, 1) := by decide +kernel
theorem dX12_tell_31 : decode cX12_tell 31 = .ok (.ifCond .eq 7, 3) := by decide +kernel
theorem dX12_tell_34 : decode cX12_tell 34 = .ok (.iconst 1, 1) := by decide +kernel
theorem dX12_tell_35 : decode cX12_tell 35 = .ok (.goto 4, 3) := by decide +kernel
theorem dX12_tell_38 : decode cX12_tell 38 = .ok (.iconst 0, 1) := by decide +kernel
theorem dX12_tell_39 : decode cX12_tell 39 = .ok (.istore 4, 2) := by decide +kernel
theorem dX12_tell_41 : decode cX12_tell 41 = .ok (.aload_n 0, 1) := by decide +kernel
theorem dX12_tell_42 : decode cX12_tell 42 = .ok (.getfield 26, 3) := by decide +kernel
theorem dX12_tell_45 : decode cX12_tell 45 = .ok (.iconst 3, 1) := by decide +kernel
theorem dX12_tell_46 : decode cX12_tell 46 = .ok (.iload_n 1, 1) := by decide +kernel
theorem dX12_tell_47 : decode cX12_tell 47 = .ok (.imul, 1) := by decide +kernel
theorem dX12_tell_48 : decode cX12_tell 48 = .ok (.iload_n 2, 1) := by decide +kernel
theorem dX12_tell_49 : decode cX12_tell 49 = .ok (.iadd, 1) := by decide +kernel
theorem dX12_tell_50 : decode cX12_tell 50 = .ok (.iload_n 3, 1) := by decide +kernel
theorem dX12_tell_51 : decode cX12_tell 51 = .ok (.bastore, 1) := by decide +kernel
theorem dX12_tell_52 : decode cX12_tell 52 = .ok (.iload 4, 2) := by decide +kernel
theorem dX12_tell_54 : decode cX12_tell 54 = .ok (.ireturn, 1) := by decide +kernel
theorem dX12_term_0 : decode cX12_term 0 = .ok (.aload_n 0, 1) := by decide +kernel
theorem dX12_term_1 : decode cX12_term 1 = .ok (.iconst 0, 1) := by decide +kernel
theorem dX12_term_2 : decode cX12_term 2 = .ok (.putfield 115, 3) := by decide +kernel
theorem dX12_term_5 : decode cX12_term 5 = .ok (.iload_n 1, 1) := by decide +kernel
theorem dX12_term_6 : decode cX12_term 6 = .ok (.ifCond .ne 15, 3) := by decide +kernel
theorem dX12_term_9 : decode cX12_term 9 = .ok (.iload_n 2, 1) := by decide +kernel
theorem dX12_term_10 : decode cX12_term 10 = .ok (.i2l, 1) := by decide +kernel
theorem dX12_term_11 : decode cX12_term 11 = .ok (.lconst 1, 1) := by decide +kernel
theorem dX12_term_12 : decode cX12_term 12 = .ok (.ldc2_w 118, 3) := by decide +kernel
theorem dX12_term_15 : decode cX12_term 15 = .ok (.invokestatic 120, 3) := by decide +kernel
theorem dX12_term_18 : decode cX12_term 18 = .ok (.ifCond .ne 39, 3) := by decide +kernel
theorem dX12_term_21 : decode cX12_term 21 = .ok (.iload_n 1, 1) := by decide +kernel
theorem dX12_term_22 : decode cX12_term 22 = .ok (.iconst 1, 1) := by decide +kernel
theorem dX12_term_23 : decode cX12_term 23 = .ok (.if_icmp .ne 15, 3) := by decide +kernel
theorem dX12_term_26 : decode cX12_term 26 = .ok (.iload_n 2, 1) := by decide +kernel
theorem dX12_term_27 : decode cX12_term 27 = .ok (.i2l, 1) := by decide +kernel
theorem dX12_term_28 : decode cX12_term 28 = .ok (.lconst 1, 1) := by decide +kernel
theorem dX12_term_29 : decode cX12_term 29 = .ok (.ldc2_w 146, 3) := by decide +kernel
theorem dX12_term_32 : decode cX12_term 32 = .ok (.invokestatic 120, 3) := by decide +kernel
theorem dX12_term_35 : decode cX12_term 35 = .ok (.ifCond .ne 22, 3) := by decide +kernel
theorem dX12_term_38 : decode cX12_term 38 = .ok (.iload_n 1, 1) := by decide +kernel
theorem dX12_term_39 : decode cX12_term 39 = .ok (.iconst 2, 1) := by decide +kernel
theorem dX12_term_40 : decode cX12_term 40 = .ok (.if_icmp .ne 21, 3) := by decide +kernel
theorem dX12_term_43 : decode cX12_term 43 = .ok (.iload_n 2, 1) := by decide +kernel
theorem dX12_term_44 : decode cX12_term 44 = .ok (.i2l, 1) := by decide +kernel
theorem dX12_term_45 : decode cX12_term 45 = .ok (.ldc2_w 148, 3) := by decide +kernel
theorem dX12_term_48 : decode cX12_term 48 = .ok (.ldc2_w 150, 3) := by decide +kernel
theorem dX12_term_51 : decode cX12_term 51 = .ok (.invokestatic 120, 3) := by decide +kernel
theorem dX12_term_54 : decode cX12_term 54 = .ok (.ifCond .eq 7, 3) := by decide +kernel
theorem dX12_term_57 : decode cX12_term 57 = .ok (.iconst 1, 1) := by decide +kernel
theorem dX12_term_58 : decode cX12_term 58 = .ok (.goto 4, 3) := by decide +kernel
theorem dX12_term_61 : decode cX12_term 61 = .ok (.iconst 0, 1) := by decide +kernel
theorem dX12_term_62 : decode cX12_term 62 = .ok (.istore_n 3, 1) := by decide +kernel
theorem dX12_term_63 : decode cX12_term 63 = .ok (.iload_n 3, 1) := by decide +kernel
theorem dX12_term_64 : decode cX12_term 64 = .ok (.ifCond .ne 6, 3) := by decide +kernel
theorem dX12_term_67 : decode cX12_term 67 = .ok (.bipush (-2), 2) := by decide +kernel
theorem dX12_term_69 : decode cX12_term 69 = .ok (.ireturn, 1) := by decide +kernel
theorem dX12_term_70 : decode cX12_term 70 = .ok (.iload_n 1, 1) := by decide +kernel
theorem dX12_term_71 : decode cX12_term 71 = .ok (.ifCond .ne 10, 3) := by decide +kernel
theorem dX12_term_74 : decode cX12_term 74 = .ok (.aload_n 0, 1) := by decide +kernel
theorem dX12_term_75 : decode cX12_term 75 = .ok (.getfield 29, 3) := by decide +kernel
theorem dX12_term_78 : decode cX12_term 78 = .ok (.goto 19, 3) := by decide +kernel
theorem dX12_term_81 : decode cX12_term 81 = .ok (.iload_n 1, 1) := by decide +kernel
theorem dX12_term_82 : decode cX12_term 82 = .ok (.iconst 1, 1) := by decide +kernel
theorem dX12_term_83 : decode cX12_term 83 = .ok (.if_icmp .ne 10, 3) := by decide +kernel
theorem dX12_term_86 : decode cX12_term 86 = .ok (.aload_n 0, 1) := by decide +kernel
theorem dX12_term_87 : decode cX12_term 87 = .ok (.getfield 33, 3) := by decide +kernel
theorem dX12_term_90 : decode cX12_term 90 = .ok (.goto 7, 3) := by decide +kernel
theorem dX12_term_93 : decode cX12_term 93 = .ok (.aload_n 0, 1) := by decide +kernel
theorem dX12_term_94 : decode cX12_term 94 = .ok (.getfield 36, 3) := by decide +kernel
theorem dX12_term_97 : decode cX12_term 97 = .ok (.istore 4, 2) := by decide +kernel
theorem dX12_term_99 : decode cX12_term 99 = .ok (.iload_n 1, 1) := by decide +kernel
theorem dX12_term_100 : decode cX12_term 100 = .ok (.ifCond .ne 11, 3) := by decide +kernel
theorem dX12_term_103 : decode cX12_term 103 = .ok (.aload_n 0, 1) := by decide +kernel
theorem dX12_term_104 : decode cX12_term 104 = .ok (.iload_n 2, 1) := by decide +kernel
theorem dX12_term_105 : decode cX12_term 105 = .ok (.putfield 29, 3) := by decide +kernel
theorem dX12_term_108 : decode cX12_term 108 = .ok (.goto 21, 3) := by decide +kernel
theorem dX12_term_111 : decode cX12_term 111 = .ok (.iload_n 1, 1) := by decide +kernel
theorem dX12_term_112 : decode cX12_term 112 = .ok (.iconst 1, 1) := by decide +kernel
theorem dX12_term_113 : decode cX12_term 113 = .ok (.if_icmp .ne 11, 3) := by decide +kernel
theorem dX12_term_116 : decode cX12_term 116 = .ok (.aload_n 0, 1) := by decide +kernel
theorem dX12_term_117 : decode cX12_term 117 = .ok (.iload_n 2, 1) := by decide +kernel
theorem dX12_term_118 : decode cX12_term 118 = .ok (.putfield 33, 3) := by decide +kernel
theorem dX12_term_121 : decode cX12_term 121 = .ok (.goto 8, 3) := by decide +kernel
theorem dX12_term_124 : decode cX12_term 124 = .ok (.aload_n 0, 1) := by decide +kernel
theorem dX12_term_125 : decode cX12_term 125 = .ok (.iload_n 2, 1) := by decide +kernel
theorem dX12_term_126 : decode cX12_term 126 = .ok (.putfield 36, 3) := by decide +kernel
theorem dX12_term_129 : decode cX12_term 129 = .ok (.iload 4, 2) := by decide +kernel
theorem dX12_term_131 : decode cX12_term 131 = .ok (.ireturn, 1) := by decide +kernel
theorem dX12_isKnowing_0 : decode cX12_isKnowing 0 = .ok (.aload_n 0, 1) := by decide +kernel
theorem dX12_isKnowing_1 : decode cX12_isKnowing 1 = .ok (.getfield 26, 3) := by decide +kernel
theorem dX12_isKnowing_4 : decode cX12_isKnowing 4 = .ok (.iconst 3, 1) := by decide +kernel
theorem dX12_isKnowing_5 : decode cX12_isKnowing 5 = .ok (.iload_n 1, 1) := by decide +kernel
theorem dX12_isKnowing_6 : decode cX12_isKnowing 6 = .ok (.imul, 1) := by decide +kernel
theorem dX12_isKnowing_7 : decode cX12_isKnowing 7 = .ok (.iload_n 2, 1) := by decide +kernel
theorem dX12_isKnowing_8 : decode cX12_isKnowing 8 = .ok (.iadd, 1) := by decide +kernel
theorem dX12_isKnowing_9 : decode cX12_isKnowing 9 = .ok (.baload, 1) := by decide +kernel
theorem dX12_isKnowing_10 : decode cX12_isKnowing 10 = .ok (.istore_n 3, 1) := by decide +kernel
theorem dX12_isKnowing_11 : decode cX12_isKnowing 11 = .ok (.iconst 0, 1) := by decide +kernel
theorem dX12_isKnowing_12 : decode cX12_isKnowing 12 = .ok (.istore 4, 2) := by decide +kernel
theorem dX12_isKnowing_14 : decode cX12_isKnowing 14 = .ok (.iload 4, 2) := by decide +kernel
theorem dX12_isKnowing_16 : decode cX12_isKnowing 16 = .ok (.aload_n 0, 1) := by decide +kernel
theorem dX12_isKnowing_17 : decode cX12_isKnowing 17 = .ok (.getfield 143, 3) := by decide +kernel
theorem dX12_isKnowing_20 : decode cX12_isKnowing 20 = .ok (.if_icmp .ge 65, 3) := by decide +kernel
theorem dX12_isKnowing_23 : decode cX12_isKnowing 23 = .ok (.iload_n 3, 1) := by decide +kernel
theorem dX12_isKnowing_24 : decode cX12_isKnowing 24 = .ok (.ifCond .ne 49, 3) := by decide +kernel
theorem dX12_isKnowing_27 : decode cX12_isKnowing 27 = .ok (.aload_n 0, 1) := by decide +kernel
theorem dX12_isKnowing_28 : decode cX12_isKnowing 28 = .ok (.getfield 23, 3) := by decide +kernel
theorem dX12_isKnowing_31 : decode cX12_isKnowing 31 = .ok (.bipush 6, 2) := by decide +kernel
theorem dX12_isKnowing_33 : decode cX12_isKnowing 33 = .ok (.iload 4, 2) := by decide +kernel
theorem dX12_isKnowing_35 : decode cX12_isKnowing 35 = .ok (.imul, 1) := by decide +kernel
theorem dX12_isKnowing_36 : decode cX12_isKnowing 36 = .ok (.iconst 2, 1) := by decide +kernel
theorem dX12_isKnowing_37 : decode cX12_isKnowing 37 = .ok (.iadd, 1) := by decide +kernel
theorem dX12_isKnowing_38 : decode cX12_isKnowing 38 = .ok (.iaload, 1) := by decide +kernel
theorem dX12_isKnowing_39 : decode cX12_isKnowing 39 = .ok (.iload_n 2, 1) := by decide +kernel
theorem dX12_isKnowing_40 : decode cX12_isKnowing 40 = .ok (.if_icmp .ne 37, 3) := by decide +kernel
theorem dX12_isKnowing_43 : decode cX12_isKnowing 43 = .ok (.aload_n 0, 1) := by decide +kernel
theorem dX12_isKnowing_44 : decode cX12_isKnowing 44 = .ok (.getfield 23, 3) := by decide +kernel
theorem dX12_isKnowing_47 : decode cX12_isKnowing 47 = .ok (.bipush 6, 2) := by decide +kernel
theorem dX12_isKnowing_49 : decode cX12_isKnowing 49 = .ok (.iload 4, 2) := by decide +kernel
theorem dX12_isKnowing_51 : decode cX12_isKnowing 51 = .ok (.imul, 1) := by decide +kernel
theorem dX12_isKnowing_52 : decode cX12_isKnowing 52 = .ok (.iaload, 1) := by decide +kernel
theorem dX12_isKnowing_53 : decode cX12_isKnowing 53 = .ok (.iload_n 1, 1) := by decide +kernel
theorem dX12_isKnowing_54 : decode cX12_isKnowing 54 = .ok (.if_icmp .eq 19, 3) := by decide +kernel
theorem dX12_isKnowing_57 : decode cX12_isKnowing 57 = .ok (.aload_n 0, 1) := by decide +kernel
theorem dX12_isKnowing_58 : decode cX12_isKnowing 58 = .ok (.getfield 23, 3) := by decide +kernel
theorem dX12_isKnowing_61 : decode cX12_isKnowing 61 = .ok (.bipush 6, 2) := by decide +kernel
theorem dX12_isKnowing_63 : decode cX12_isKnowing 63 = .ok (.iload 4, 2) := by decide +kernel
theorem dX12_isKnowing_65 : decode cX12_isKnowing 65 = .ok (.imul, 1) := by decide +kernel
theorem dX12_isKnowing_66 : decode cX12_isKnowing 66 = .ok (.iconst 1, 1) := by decide +kernel
theorem dX12_isKnowing_67 : decode cX12_isKnowing 67 = .ok (.iadd, 1) := by decide +kernel
theorem dX12_isKnowing_68 : decode cX12_isKnowing 68 = .ok (.iaload, 1) := by decide +kernel
theorem dX12_isKnowing_69 : decode cX12_isKnowing 69 = .ok (.iload_n 1, 1) := by decide +kernel
theorem dX12_isKnowing_70 : decode cX12_isKnowing 70 = .ok (.if_icmp .ne 7, 3) := by decide +kernel
theorem dX12_isKnowing_73 : decode cX12_isKnowing 73 = .ok (.iconst 1, 1) := by decide +kernel
theorem dX12_isKnowing_74 : decode cX12_isKnowing 74 = .ok (.goto 4, 3) := by decide +kernel
theorem dX12_isKnowing_77 : decode cX12_isKnowing 77 = .ok (.iconst 0, 1) := by decide +kernel
theorem dX12_isKnowing_78 : decode cX12_isKnowing 78 = .ok (.istore_n 3, 1) := by decide +kernel
theorem dX12_isKnowing_79 : decode cX12_isKnowing 79 = .ok (.iinc 4 1, 3) := by decide +kernel
theorem dX12_isKnowing_82 : decode cX12_isKnowing 82 = .ok (.goto (-68), 3) := by decide +kernel
theorem dX12_isKnowing_85 : decode cX12_isKnowing 85 = .ok (.iload_n 3, 1) := by decide +kernel
theorem dX12_isKnowing_86 : decode cX12_isKnowing 86 = .ok (.ireturn, 1) := by decide +kernel
theorem dX12_knows_0 : decode cX12_knows 0 = .ok (.aload_n 0, 1) := by decide +kernel
theorem dX12_knows_1 : decode cX12_knows 1 = .ok (.iconst 0, 1) := by decide +kernel
theorem dX12_knows_2 : decode cX12_knows 2 = .ok (.putfield 115, 3) := by decide +kernel
theorem dX12_knows_5 : decode cX12_knows 5 = .ok (.iload_n 1, 1) := by decide +kernel
theorem dX12_knows_6 : decode cX12_knows 6 = .ok (.invokestatic 137, 3) := by decide +kernel
theorem dX12_knows_9 : decode cX12_knows 9 = .ok (.ifCond .ne 10, 3) := by decide +kernel
theorem dX12_knows_12 : decode cX12_knows 12 = .ok (.iload_n 2, 1) := by decide +kernel
theorem dX12_knows_13 : decode cX12_knows 13 = .ok (.invokestatic 140, 3) := by decide +kernel
theorem dX12_knows_16 : decode cX12_knows 16 = .ok (.ifCond .eq 7, 3) := by decide +kernel
theorem dX12_knows_19 : decode cX12_knows 19 = .ok (.iconst (-1), 1) := by decide +kernel
theorem dX12_knows_20 : decode cX12_knows 20 = .ok (.goto 17, 3) := by decide +kernel
theorem dX12_knows_23 : decode cX12_knows 23 = .ok (.aload_n 0, 1) := by decide +kernel
theorem dX12_knows_24 : decode cX12_knows 24 = .ok (.iload_n 1, 1) := by decide +kernel
theorem dX12_knows_25 : decode cX12_knows 25 = .ok (.iload_n 2, 1) := by decide +kernel
theorem dX12_knows_26 : decode cX12_knows 26 = .ok (.invokevirtual 152, 3) := by decide +kernel
theorem dX12_knows_29 : decode cX12_knows 29 = .ok (.ifCond .eq 7, 3) := by decide +kernel
theorem dX12_knows_32 : decode cX12_knows 32 = .ok (.iconst 1, 1) := by decide +kernel
theorem dX12_knows_33 : decode cX12_knows 33 = .ok (.goto 4, 3) := by decide +kernel
theorem dX12_knows_36 : decode cX12_knows 36 = .ok (.iconst 0, 1) := by decide +kernel
theorem dX12_knows_37 : decode cX12_knows 37 = .ok (.ireturn, 1) := by decide +kernel
theorem dX12_beforeOf_0 : decode cX12_beforeOf 0 = .ok (.aload_n 0, 1) := by decide +kernel
theorem dX12_beforeOf_1 : decode cX12_beforeOf 1 = .ok (.getfield 29, 3) := by decide +kernel
theorem dX12_beforeOf_4 : decode cX12_beforeOf 4 = .ok (.istore 4, 2) := by decide +kernel
theorem dX12_beforeOf_6 : decode cX12_beforeOf 6 = .ok (.iconst 0, 1) := by decide +kernel
theorem dX12_beforeOf_7 : decode cX12_beforeOf 7 = .ok (.istore 5, 2) := by decide +kernel
theorem dX12_beforeOf_9 : decode cX12_beforeOf 9 = .ok (.iconst 1, 1) := by decide +kernel
theorem dX12_beforeOf_10 : decode cX12_beforeOf 10 = .ok (.istore 6, 2) := by decide +kernel
theorem dX12_beforeOf_12 : decode cX12_beforeOf 12 = .ok (.aload_n 0, 1) := by decide +kernel
theorem dX12_beforeOf_13 : decode cX12_beforeOf 13 = .ok (.getfield 143, 3) := by decide +kernel
theorem dX12_beforeOf_16 : decode cX12_beforeOf 16 = .ok (.iconst 1, 1) := by decide +kernel
theorem dX12_beforeOf_17 : decode cX12_beforeOf 17 = .ok (.isub, 1) := by decide +kernel
theorem dX12_beforeOf_18 : decode cX12_beforeOf 18 = .ok (.istore 7, 2) := by decide +kernel
theorem dX12_beforeOf_20 : decode cX12_beforeOf 20 = .ok (.iload 7, 2) := by decide +kernel
theorem dX12_beforeOf_22 : decode cX12_beforeOf 22 = .ok (.ifCond .lt 155, 3) := by decide +kernel
theorem dX12_beforeOf_25 : decode cX12_beforeOf 25 = .ok (.iload 4, 2) := by decide +kernel
theorem dX12_beforeOf_27 : decode cX12_beforeOf 27 = .ok (.ifCond .le 150, 3) := by decide +kernel
theorem dX12_beforeOf_30 : decode cX12_beforeOf 30 = .ok (.bipush 6, 2) := by decide +kernel
theorem dX12_beforeOf_32 : decode cX12_beforeOf 32 = .ok (.iload 7, 2) := by decide +kernel
theorem dX12_beforeOf_34 : decode cX12_beforeOf 34 = .ok (.imul, 1) := by decide +kernel
theorem dX12_beforeOf_35 : decode cX12_beforeOf 35 = .ok (.istore 8, 2) := by decide +kernel
theorem dX12_beforeOf_37 : decode cX12_beforeOf 37 = .ok (.aload_n 0, 1) := by decide +kernel
theorem dX12_beforeOf_38 : decode cX12_beforeOf 38 = .ok (.getfield 23, 3) := by decide +kernel
theorem dX12_beforeOf_41 : decode cX12_beforeOf 41 = .ok (.iload 8, 2) := by decide +kernel
theorem dX12_beforeOf_43 : decode cX12_beforeOf 43 = .ok (.iaload, 1) := by decide +kernel
theorem dX12_beforeOf_44 : decode cX12_beforeOf 44 = .ok (.iload_n 1, 1) := by decide +kernel
theorem dX12_beforeOf_45 : decode cX12_beforeOf 45 = .ok (.if_icmp .ne 16, 3) := by decide +kernel
theorem dX12_beforeOf_48 : decode cX12_beforeOf 48 = .ok (.aload_n 0, 1) := by decide +kernel
theorem dX12_beforeOf_49 : decode cX12_beforeOf 49 = .ok (.getfield 23, 3) := by decide +kernel
theorem dX12_beforeOf_52 : decode cX12_beforeOf 52 = .ok (.iload 8, 2) := by decide +kernel
theorem dX12_beforeOf_54 : decode cX12_beforeOf 54 = .ok (.iconst 1, 1) := by decide +kernel
theorem dX12_beforeOf_55 : decode cX12_beforeOf 55 = .ok (.iadd, 1) := by decide +kernel
theorem dX12_beforeOf_56 : decode cX12_beforeOf 56 = .ok (.iaload, 1) := by decide +kernel
theorem dX12_beforeOf_57 : decode cX12_beforeOf 57 = .ok (.iload_n 2, 1) := by decide +kernel
theorem dX12_beforeOf_58 : decode cX12_beforeOf 58 = .ok (.if_icmp .eq 27, 3) := by decide +kernel
theorem dX12_beforeOf_61 : decode cX12_beforeOf 61 = .ok (.aload_n 0, 1) := by decide +kernel
theorem dX12_beforeOf_62 : decode cX12_beforeOf 62 = .ok (.getfield 23, 3) := by decide +kernel
theorem dX12_beforeOf_65 : decode cX12_beforeOf 65 = .ok (.iload 8, 2) := by decide +kernel
theorem dX12_beforeOf_67 : decode cX12_beforeOf 67 = .ok (.iaload, 1) := by decide +kernel
theorem dX12_beforeOf_68 : decode cX12_beforeOf 68 = .ok (.iload_n 2, 1) := by decide +kernel
theorem dX12_beforeOf_69 : decode cX12_beforeOf 69 = .ok (.if_icmp .ne 20, 3) := by decide +kernel
theorem dX12_beforeOf_72 : decode cX12_beforeOf 72 = .ok (.aload_n 0, 1) := by decide +kernel
theorem dX12_beforeOf_73 : decode cX12_beforeOf 73 = .ok (.getfield 23, 3) := by decide +kernel
theorem dX12_beforeOf_76 : decode cX12_beforeOf 76 = .ok (.iload 8, 2) := by decide +kernel
theorem dX12_beforeOf_78 : decode cX12_beforeOf 78 = .ok (.iconst 1, 1) := by decide +kernel
theorem dX12_beforeOf_79 : decode cX12_beforeOf 79 = .ok (.iadd, 1) := by decide +kernel
theorem dX12_beforeOf_80 : decode cX12_beforeOf 80 = .ok (.iaload, 1) := by decide +kernel
theorem dX12_beforeOf_81 : decode cX12_beforeOf 81 = .ok (.iload_n 1, 1) := by decide +kernel
theorem dX12_beforeOf_82 : decode cX12_beforeOf 82 = .ok (.if_icmp .ne 7, 3) := by decide +kernel
theorem dX12_beforeOf_85 : decode cX12_beforeOf 85 = .ok (.iconst 1, 1) := by decide +kernel
theorem dX12_beforeOf_86 : decode cX12_beforeOf 86 = .ok (.goto 4, 3) := by decide +kernel
theorem dX12_beforeOf_89 : decode cX12_beforeOf 89 = .ok (.iconst 0, 1) := by decide +kernel
theorem dX12_beforeOf_90 : decode cX12_beforeOf 90 = .ok (.istore 9, 2) := by decide +kernel
theorem dX12_beforeOf_92 : decode cX12_beforeOf 92 = .ok (.iload 9, 2) := by decide +kernel
theorem dX12_beforeOf_94 : decode cX12_beforeOf 94 = .ok (.ifCond .eq 77, 3) := by decide +kernel
theorem dX12_beforeOf_97 : decode cX12_beforeOf 97 = .ok (.aload_n 0, 1) := by decide +kernel
theorem dX12_beforeOf_98 : decode cX12_beforeOf 98 = .ok (.getfield 23, 3) := by decide +kernel
theorem dX12_beforeOf_101 : decode cX12_beforeOf 101 = .ok (.iload 8, 2) := by decide +kernel
theorem dX12_beforeOf_103 : decode cX12_beforeOf 103 = .ok (.iconst 3, 1) := by decide +kernel
theorem dX12_beforeOf_104 : decode cX12_beforeOf 104 = .ok (.iadd, 1) := by decide +kernel
theorem dX12_beforeOf_105 : decode cX12_beforeOf 105 = .ok (.iaload, 1) := by decide +kernel
theorem dX12_beforeOf_106 : decode cX12_beforeOf 106 = .ok (.iload_n 3, 1) := by decide +kernel
theorem dX12_beforeOf_107 : decode cX12_beforeOf 107 = .ok (.if_icmp .ne 64, 3) := by decide +kernel
theorem dX12_beforeOf_110 : decode cX12_beforeOf 110 = .ok (.iload 6, 2) := by decide +kernel
theorem dX12_beforeOf_112 : decode cX12_beforeOf 112 = .ok (.ifCond .eq 42, 3) := by decide +kernel
theorem dX12_beforeOf_115 : decode cX12_beforeOf 115 = .ok (.aload_n 0, 1) := by decide +kernel
theorem dX12_beforeOf_116 : decode cX12_beforeOf 116 = .ok (.getfield 23, 3) := by decide +kernel
theorem dX12_beforeOf_119 : decode cX12_beforeOf 119 = .ok (.iload 8, 2) := by decide +kernel
theorem dX12_beforeOf_121 : decode cX12_beforeOf 121 = .ok (.iconst 5, 1) := by decide +kernel
theorem dX12_beforeOf_122 : decode cX12_beforeOf 122 = .ok (.iadd, 1) := by decide +kernel
theorem dX12_beforeOf_123 : decode cX12_beforeOf 123 = .ok (.iaload, 1) := by decide +kernel
theorem dX12_beforeOf_124 : decode cX12_beforeOf 124 = .ok (.ifCond .ne 30, 3) := by decide +kernel
theorem dX12_beforeOf_127 : decode cX12_beforeOf 127 = .ok (.iload 4, 2) := by decide +kernel
theorem dX12_beforeOf_129 : decode cX12_beforeOf 129 = .ok (.aload_n 0, 1) := by decide +kernel
theorem dX12_beforeOf_130 : decode cX12_beforeOf 130 = .ok (.getfield 29, 3) := by decide +kernel
theorem dX12_beforeOf_133 : decode cX12_beforeOf 133 = .ok (.if_icmp .eq 17, 3) := by decide +kernel
theorem dX12_beforeOf_136 : decode cX12_beforeOf 136 = .ok (.aload_n 0, 1) := by decide +kernel
theorem dX12_beforeOf_137 : decode cX12_beforeOf 137 = .ok (.getfield 23, 3) := by decide +kernel
theorem dX12_beforeOf_140 : decode cX12_beforeOf 140 = .ok (.iload 8, 2) := by decide +kernel
theorem dX12_beforeOf_142 : decode cX12_beforeOf 142 = .ok (.iconst 4, 1) := by decide +kernel
theorem dX12_beforeOf_143 : decode cX12_beforeOf 143 = .ok (.iadd, 1) := by decide +kernel
theorem dX12_beforeOf_144 : decode cX12_beforeOf 144 = .ok (.iaload, 1) := by decide +kernel
theorem dX12_beforeOf_145 : decode cX12_beforeOf 145 = .ok (.iload 5, 2) := by decide +kernel
theorem dX12_beforeOf_147 : decode cX12_beforeOf 147 = .ok (.if_icmp .ne 7, 3) := by decide +kernel
theorem dX12_beforeOf_150 : decode cX12_beforeOf 150 = .ok (.iconst 1, 1) := by decide +kernel
theorem dX12_beforeOf_151 : decode cX12_beforeOf 151 = .ok (.goto 4, 3) := by decide +kernel
theorem dX12_beforeOf_154 : decode cX12_beforeOf 154 = .ok (.iconst 0, 1) := by decide +kernel
theorem dX12_beforeOf_155 : decode cX12_beforeOf 155 = .ok (.istore 6, 2) := by decide +kernel
theorem dX12_beforeOf_157 : decode cX12_beforeOf 157 = .ok (.aload_n 0, 1) := by decide +kernel
theorem dX12_beforeOf_158 : decode cX12_beforeOf 158 = .ok (.getfield 23, 3) := by decide +kernel
theorem dX12_beforeOf_161 : decode cX12_beforeOf 161 = .ok (.iload 8, 2) := by decide +kernel
theorem dX12_beforeOf_163 : decode cX12_beforeOf 163 = .ok (.iconst 4, 1) := by decide +kernel
theorem dX12_beforeOf_164 : decode cX12_beforeOf 164 = .ok (.iadd, 1) := by decide +kernel
theorem dX12_beforeOf_165 : decode cX12_beforeOf 165 = .ok (.iaload, 1) := by decide +kernel
theorem dX12_beforeOf_166 : decode cX12_beforeOf 166 = .ok (.istore 5, 2) := by decide +kernel
theorem dX12_beforeOf_168 : decode cX12_beforeOf 168 = .ok (.iinc 4 (-1), 3) := by decide +kernel
theorem dX12_beforeOf_171 : decode cX12_beforeOf 171 = .ok (.iinc 7 (-1), 3) := by decide +kernel
theorem dX12_beforeOf_174 : decode cX12_beforeOf 174 = .ok (.goto (-154), 3) := by decide +kernel
theorem dX12_beforeOf_177 : decode cX12_beforeOf 177 = .ok (.iload 6, 2) := by decide +kernel
theorem dX12_beforeOf_179 : decode cX12_beforeOf 179 = .ok (.ifCond .eq 13, 3) := by decide +kernel
theorem dX12_beforeOf_182 : decode cX12_beforeOf 182 = .ok (.iload 4, 2) := by decide +kernel
theorem dX12_beforeOf_184 : decode cX12_beforeOf 184 = .ok (.ifCond .ne 8, 3) := by decide +kernel
theorem dX12_beforeOf_187 : decode cX12_beforeOf 187 = .ok (.iload 5, 2) := by decide +kernel
theorem dX12_beforeOf_189 : decode cX12_beforeOf 189 = .ok (.goto 4, 3) := by decide +kernel
theorem dX12_beforeOf_192 : decode cX12_beforeOf 192 = .ok (.iconst 0, 1) := by decide +kernel
theorem dX12_beforeOf_193 : decode cX12_beforeOf 193 = .ok (.ireturn, 1) := by decide +kernel
theorem dX12_before_0 : decode cX12_before 0 = .ok (.aload_n 0, 1) := by decide +kernel
theorem dX12_before_1 : decode cX12_before 1 = .ok (.iconst 0, 1) := by decide +kernel
theorem dX12_before_2 : decode cX12_before 2 = .ok (.putfield 115, 3) := by decide +kernel
theorem dX12_before_5 : decode cX12_before 5 = .ok (.iload_n 1, 1) := by decide +kernel
theorem dX12_before_6 : decode cX12_before 6 = .ok (.invokestatic 137, 3) := by decide +kernel
theorem dX12_before_9 : decode cX12_before 9 = .ok (.ifCond .ne 17, 3) := by decide +kernel
theorem dX12_before_12 : decode cX12_before 12 = .ok (.iload_n 2, 1) := by decide +kernel
theorem dX12_before_13 : decode cX12_before 13 = .ok (.invokestatic 137, 3) := by decide +kernel
theorem dX12_before_16 : decode cX12_before 16 = .ok (.ifCond .ne 10, 3) := by decide +kernel
theorem dX12_before_19 : decode cX12_before 19 = .ok (.iload_n 3, 1) := by decide +kernel
theorem dX12_before_20 : decode cX12_before 20 = .ok (.invokestatic 133, 3) := by decide +kernel
theorem dX12_before_23 : decode cX12_before 23 = .ok (.ifCond .eq 5, 3) := by decide +kernel
theorem dX12_before_26 : decode cX12_before 26 = .ok (.iconst (-1), 1) := by decide +kernel
theorem dX12_before_27 : decode cX12_before 27 = .ok (.ireturn, 1) := by decide +kernel
theorem dX12_before_28 : decode cX12_before 28 = .ok (.iload_n 1, 1) := by decide +kernel
theorem dX12_before_29 : decode cX12_before 29 = .ok (.iload_n 2, 1) := by decide +kernel
theorem dX12_before_30 : decode cX12_before 30 = .ok (.if_icmp .ne 8, 3) := by decide +kernel
theorem dX12_before_33 : decode cX12_before 33 = .ok (.bipush (-2), 2) := by decide +kernel
theorem dX12_before_35 : decode cX12_before 35 = .ok (.goto 10, 3) := by decide +kernel
theorem dX12_before_38 : decode cX12_before 38 = .ok (.aload_n 0, 1) := by decide +kernel
theorem dX12_before_39 : decode cX12_before 39 = .ok (.iload_n 1, 1) := by decide +kernel
theorem dX12_before_40 : decode cX12_before 40 = .ok (.iload_n 2, 1) := by decide +kernel
theorem dX12_before_41 : decode cX12_before 41 = .ok (.iload_n 3, 1) := by decide +kernel
theorem dX12_before_42 : decode cX12_before 42 = .ok (.invokevirtual 156, 3) := by decide +kernel
theorem dX12_before_45 : decode cX12_before 45 = .ok (.ireturn, 1) := by decide +kernel
theorem dX12_many_0 : decode cX12_many 0 = .ok (.iconst 0, 1) := by decide +kernel
theorem dX12_many_1 : decode cX12_many 1 = .ok (.istore 4, 2) := by decide +kernel
theorem dX12_many_3 : decode cX12_many 3 = .ok (.iconst 0, 1) := by decide +kernel
theorem dX12_many_4 : decode cX12_many 4 = .ok (.istore 5, 2) := by decide +kernel
theorem dX12_many_6 : decode cX12_many 6 = .ok (.iload 5, 2) := by decide +kernel
theorem dX12_many_8 : decode cX12_many 8 = .ok (.aload_n 0, 1) := by decide +kernel
theorem dX12_many_9 : decode cX12_many 9 = .ok (.getfield 143, 3) := by decide +kernel
theorem dX12_many_12 : decode cX12_many 12 = .ok (.if_icmp .ge 93, 3) := by decide +kernel
theorem dX12_many_15 : decode cX12_many 15 = .ok (.bipush 6, 2) := by decide +kernel
theorem dX12_many_17 : decode cX12_many 17 = .ok (.iload 5, 2) := by decide +kernel
theorem dX12_many_19 : decode cX12_many 19 = .ok (.imul, 1) := by decide +kernel
theorem dX12_many_20 : decode cX12_many 20 = .ok (.istore 6, 2) := by decide +kernel
theorem dX12_many_22 : decode cX12_many 22 = .ok (.aload_n 0, 1) := by decide +kernel
theorem dX12_many_23 : decode cX12_many 23 = .ok (.getfield 23, 3) := by decide +kernel
theorem dX12_many_26 : decode cX12_many 26 = .ok (.iload 6, 2) := by decide +kernel
theorem dX12_many_28 : decode cX12_many 28 = .ok (.iconst 2, 1) := by decide +kernel
theorem dX12_many_29 : decode cX12_many 29 = .ok (.iadd, 1) := by decide +kernel
theorem dX12_many_30 : decode cX12_many 30 = .ok (.iaload, 1) := by decide +kernel
theorem dX12_many_31 : decode cX12_many 31 = .ok (.iload_n 1, 1) := by decide +kernel
theorem dX12_many_32 : decode cX12_many 32 = .ok (.if_icmp .ne 20, 3) := by decide +kernel
theorem dX12_many_35 : decode cX12_many 35 = .ok (.aload_n 0, 1) := by decide +kernel
theorem dX12_many_36 : decode cX12_many 36 = .ok (.getfield 23, 3) := by decide +kernel
theorem dX12_many_39 : decode cX12_many 39 = .ok (.iload 6, 2) := by decide +kernel
theorem dX12_many_41 : decode cX12_many 41 = .ok (.iconst 3, 1) := by decide +kernel
theorem dX12_many_42 : decode cX12_many 42 = .ok (.iadd, 1) := by decide +kernel
theorem dX12_many_43 : decode cX12_many 43 = .ok (.iaload, 1) := by decide +kernel
theorem dX12_many_44 : decode cX12_many 44 = .ok (.iload_n 2, 1) := by decide +kernel
theorem dX12_many_45 : decode cX12_many 45 = .ok (.if_icmp .ne 7, 3) := by decide +kernel
theorem dX12_many_48 : decode cX12_many 48 = .ok (.iconst 1, 1) := by decide +kernel
theorem dX12_many_49 : decode cX12_many 49 = .ok (.goto 4, 3) := by decide +kernel
theorem dX12_many_52 : decode cX12_many 52 = .ok (.iconst 0, 1) := by decide +kernel
theorem dX12_many_53 : decode cX12_many 53 = .ok (.istore 7, 2) := by decide +kernel
theorem dX12_many_55 : decode cX12_many 55 = .ok (.iload 4, 2) := by decide +kernel
theorem dX12_many_57 : decode cX12_many 57 = .ok (.iload 7, 2) := by decide +kernel
theorem dX12_many_59 : decode cX12_many 59 = .ok (.ifCond .eq 36, 3) := by decide +kernel
theorem dX12_many_62 : decode cX12_many 62 = .ok (.iload_n 3, 1) := by decide +kernel
theorem dX12_many_63 : decode cX12_many 63 = .ok (.ifCond .eq 28, 3) := by decide +kernel
theorem dX12_many_66 : decode cX12_many 66 = .ok (.aload_n 0, 1) := by decide +kernel
theorem dX12_many_67 : decode cX12_many 67 = .ok (.getfield 23, 3) := by decide +kernel
theorem dX12_many_70 : decode cX12_many 70 = .ok (.iload 6, 2) := by decide +kernel
theorem dX12_many_72 : decode cX12_many 72 = .ok (.iconst 4, 1) := by decide +kernel
theorem dX12_many_73 : decode cX12_many 73 = .ok (.iadd, 1) := by decide +kernel
theorem dX12_many_74 : decode cX12_many 74 = .ok (.iaload, 1) := by decide +kernel
theorem dX12_many_75 : decode cX12_many 75 = .ok (.iload_n 3, 1) := by decide +kernel
theorem dX12_many_76 : decode cX12_many 76 = .ok (.if_icmp .ne 19, 3) := by decide +kernel
theorem dX12_many_79 : decode cX12_many 79 = .ok (.aload_n 0, 1) := by decide +kernel
theorem dX12_many_80 : decode cX12_many 80 = .ok (.getfield 23, 3) := by decide +kernel
theorem dX12_many_83 : decode cX12_many 83 = .ok (.iload 6, 2) := by decide +kernel
theorem dX12_many_85 : decode cX12_many 85 = .ok (.iconst 5, 1) := by decide +kernel
theorem dX12_many_86 : decode cX12_many 86 = .ok (.iadd, 1) := by decide +kernel
theorem dX12_many_87 : decode cX12_many 87 = .ok (.iaload, 1) := by decide +kernel
theorem dX12_many_88 : decode cX12_many 88 = .ok (.ifCond .ne 7, 3) := by decide +kernel
theorem dX12_many_91 : decode cX12_many 91 = .ok (.iconst 1, 1) := by decide +kernel
theorem dX12_many_92 : decode cX12_many 92 = .ok (.goto 4, 3) := by decide +kernel
theorem dX12_many_95 : decode cX12_many 95 = .ok (.iconst 0, 1) := by decide +kernel
theorem dX12_many_96 : decode cX12_many 96 = .ok (.iadd, 1) := by decide +kernel
theorem dX12_many_97 : decode cX12_many 97 = .ok (.istore 4, 2) := by decide +kernel
theorem dX12_many_99 : decode cX12_many 99 = .ok (.iinc 5 1, 3) := by decide +kernel
theorem dX12_many_102 : decode cX12_many 102 = .ok (.goto (-96), 3) := by decide +kernel
