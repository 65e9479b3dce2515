theorem dX5_init_0 : decode cX5_init 0 = .ok (.aload_n 0, 1) := by decide +kernel
theorem dX5_init_1 : decode cX5_init 1 = .ok (.invokespecial 1, 3) := by decide +kernel
theorem dX5_init_4 : decode cX5_init 4 = .ok (.aload_n 0, 1) := by decide +kernel
theorem dX5_init_5 : decode cX5_init 5 = .ok (.bipush 8, 2) := by decide +kernel
theorem dX5_init_7 : decode cX5_init 7 = .ok (.anewarray 9, 3) := by decide +kernel
theorem dX5_init_10 : decode cX5_init 10 = .ok (.putfield 11, 3) := by decide +kernel
theorem dX5_init_13 : decode cX5_init 13 = .ok (.aload_n 0, 1) := by decide +kernel
theorem dX5_init_14 : decode cX5_init 14 = .ok (.sipush 200, 3) := by decide +kernel
theorem dX5_init_17 : decode cX5_init 17 = .ok (.anewarray 15, 3) := by decide +kernel
theorem dX5_init_20 : decode cX5_init 20 = .ok (.putfield 17, 3) := by decide +kernel
theorem dX5_init_23 : decode cX5_init 23 = .ok (.aload_n 0, 1) := by decide +kernel
theorem dX5_init_24 : decode cX5_init 24 = .ok (.bipush 40, 2) := by decide +kernel
theorem dX5_init_26 : decode cX5_init 26 = .ok (.anewarray 21, 3) := by decide +kernel
theorem dX5_init_29 : decode cX5_init 29 = .ok (.putfield 23, 3) := by decide +kernel
theorem dX5_init_32 : decode cX5_init 32 = .ok (.aload_n 0, 1) := by decide +kernel
theorem dX5_init_33 : decode cX5_init 33 = .ok (.new 27, 3) := by decide +kernel
theorem dX5_init_36 : decode cX5_init 36 = .ok (.dup, 1) := by decide +kernel
theorem dX5_init_37 : decode cX5_init 37 = .ok (.invokespecial 29, 3) := by decide +kernel
theorem dX5_init_40 : decode cX5_init 40 = .ok (.putfield 30, 3) := by decide +kernel
theorem dX5_init_43 : decode cX5_init 43 = .ok (.aload_n 0, 1) := by decide +kernel
theorem dX5_init_44 : decode cX5_init 44 = .ok (.iconst 1, 1) := by decide +kernel
theorem dX5_init_45 : decode cX5_init 45 = .ok (.iload_n 1, 1) := by decide +kernel
theorem dX5_init_46 : decode cX5_init 46 = .ok (.sipush 30000, 3) := by decide +kernel
theorem dX5_init_49 : decode cX5_init 49 = .ok (.invokestatic 34, 3) := by decide +kernel
theorem dX5_init_52 : decode cX5_init 52 = .ok (.invokestatic 40, 3) := by decide +kernel
theorem dX5_init_55 : decode cX5_init 55 = .ok (.putfield 43, 3) := by decide +kernel
theorem dX5_init_58 : decode cX5_init 58 = .ok (.return_, 1) := by decide +kernel
theorem dX5_cls_0 : decode cX5_cls 0 = .ok (.iload_n 1, 1) := by decide +kernel
theorem dX5_cls_1 : decode cX5_cls 1 = .ok (.iconst (-1), 1) := by decide +kernel
theorem dX5_cls_2 : decode cX5_cls 2 = .ok (.sipush 10000, 3) := by decide +kernel
theorem dX5_cls_5 : decode cX5_cls 5 = .ok (.invokestatic 47, 3) := by decide +kernel
theorem dX5_cls_8 : decode cX5_cls 8 = .ok (.ifCond .eq 14, 3) := by decide +kernel
theorem dX5_cls_11 : decode cX5_cls 11 = .ok (.iload_n 2, 1) := by decide +kernel
theorem dX5_cls_12 : decode cX5_cls 12 = .ok (.iconst 0, 1) := by decide +kernel
theorem dX5_cls_13 : decode cX5_cls 13 = .ok (.sipush 10000, 3) := by decide +kernel
theorem dX5_cls_16 : decode cX5_cls 16 = .ok (.invokestatic 47, 3) := by decide +kernel
theorem dX5_cls_19 : decode cX5_cls 19 = .ok (.ifCond .ne 6, 3) := by decide +kernel
theorem dX5_cls_22 : decode cX5_cls 22 = .ok (.bipush (-2), 2) := by decide +kernel
theorem dX5_cls_24 : decode cX5_cls 24 = .ok (.ireturn, 1) := by decide +kernel
theorem dX5_cls_25 : decode cX5_cls 25 = .ok (.aload_n 0, 1) := by decide +kernel
theorem dX5_cls_26 : decode cX5_cls 26 = .ok (.getfield 51, 3) := by decide +kernel
theorem dX5_cls_29 : decode cX5_cls 29 = .ok (.bipush 8, 2) := by decide +kernel
theorem dX5_cls_31 : decode cX5_cls 31 = .ok (.if_icmp .lt 6, 3) := by decide +kernel
theorem dX5_cls_34 : decode cX5_cls 34 = .ok (.bipush (-4), 2) := by decide +kernel
theorem dX5_cls_36 : decode cX5_cls 36 = .ok (.ireturn, 1) := by decide +kernel
theorem dX5_cls_37 : decode cX5_cls 37 = .ok (.aload_n 0, 1) := by decide +kernel
theorem dX5_cls_38 : decode cX5_cls 38 = .ok (.getfield 51, 3) := by decide +kernel
theorem dX5_cls_41 : decode cX5_cls 41 = .ok (.istore 4, 2) := by decide +kernel
theorem dX5_cls_43 : decode cX5_cls 43 = .ok (.aload_n 0, 1) := by decide +kernel
theorem dX5_cls_44 : decode cX5_cls 44 = .ok (.getfield 11, 3) := by decide +kernel
theorem dX5_cls_47 : decode cX5_cls 47 = .ok (.iload 4, 2) := by decide +kernel
theorem dX5_cls_49 : decode cX5_cls 49 = .ok (.new 9, 3) := by decide +kernel
theorem dX5_cls_52 : decode cX5_cls 52 = .ok (.dup, 1) := by decide +kernel
theorem dX5_cls_53 : decode cX5_cls 53 = .ok (.iload_n 1, 1) := by decide +kernel
theorem dX5_cls_54 : decode cX5_cls 54 = .ok (.iconst (-1), 1) := by decide +kernel
theorem dX5_cls_55 : decode cX5_cls 55 = .ok (.if_icmp .ne 10, 3) := by decide +kernel
theorem dX5_cls_58 : decode cX5_cls 58 = .ok (.aload_n 0, 1) := by decide +kernel
theorem dX5_cls_59 : decode cX5_cls 59 = .ok (.getfield 43, 3) := by decide +kernel
theorem dX5_cls_62 : decode cX5_cls 62 = .ok (.goto 4, 3) := by decide +kernel
theorem dX5_cls_65 : decode cX5_cls 65 = .ok (.iload_n 1, 1) := by decide +kernel
theorem dX5_cls_66 : decode cX5_cls 66 = .ok (.iload_n 2, 1) := by decide +kernel
theorem dX5_cls_67 : decode cX5_cls 67 = .ok (.iload_n 3, 1) := by decide +kernel
theorem dX5_cls_68 : decode cX5_cls 68 = .ok (.invokespecial 54, 3) := by decide +kernel
theorem dX5_cls_71 : decode cX5_cls 71 = .ok (.aastore, 1) := by decide +kernel
theorem dX5_cls_72 : decode cX5_cls 72 = .ok (.aload_n 0, 1) := by decide +kernel
theorem dX5_cls_73 : decode cX5_cls 73 = .ok (.dup, 1) := by decide +kernel
theorem dX5_cls_74 : decode cX5_cls 74 = .ok (.getfield 51, 3) := by decide +kernel
theorem dX5_cls_77 : decode cX5_cls 77 = .ok (.iconst 1, 1) := by decide +kernel
theorem dX5_cls_78 : decode cX5_cls 78 = .ok (.iadd, 1) := by decide +kernel
theorem dX5_cls_79 : decode cX5_cls 79 = .ok (.putfield 51, 3) := by decide +kernel
theorem dX5_cls_82 : decode cX5_cls 82 = .ok (.iload 4, 2) := by decide +kernel
theorem dX5_cls_84 : decode cX5_cls 84 = .ok (.ireturn, 1) := by decide +kernel
theorem dX5_insert_0 : decode cX5_insert 0 = .ok (.aload_n 0, 1) := by decide +kernel
theorem dX5_insert_1 : decode cX5_insert 1 = .ok (.iload_n 1, 1) := by decide +kernel
theorem dX5_insert_2 : decode cX5_insert 2 = .ok (.invokevirtual 57, 3) := by decide +kernel
theorem dX5_insert_5 : decode cX5_insert 5 = .ok (.astore 4, 2) := by decide +kernel
theorem dX5_insert_7 : decode cX5_insert 7 = .ok (.aload 4, 2) := by decide +kernel
theorem dX5_insert_9 : decode cX5_insert 9 = .ok (.ifnonnull 5, 3) := by decide +kernel
theorem dX5_insert_12 : decode cX5_insert 12 = .ok (.iconst (-1), 1) := by decide +kernel
theorem dX5_insert_13 : decode cX5_insert 13 = .ok (.ireturn, 1) := by decide +kernel
theorem dX5_insert_14 : decode cX5_insert 14 = .ok (.iload_n 2, 1) := by decide +kernel
theorem dX5_insert_15 : decode cX5_insert 15 = .ok (.iconst 1, 1) := by decide +kernel
theorem dX5_insert_16 : decode cX5_insert 16 = .ok (.sipush 10000, 3) := by decide +kernel
theorem dX5_insert_19 : decode cX5_insert 19 = .ok (.invokestatic 47, 3) := by decide +kernel
theorem dX5_insert_22 : decode cX5_insert 22 = .ok (.ifCond .eq 10, 3) := by decide +kernel
theorem dX5_insert_25 : decode cX5_insert 25 = .ok (.iload_n 3, 1) := by decide +kernel
theorem dX5_insert_26 : decode cX5_insert 26 = .ok (.invokestatic 61, 3) := by decide +kernel
theorem dX5_insert_29 : decode cX5_insert 29 = .ok (.ifCond .ne 6, 3) := by decide +kernel
theorem dX5_insert_32 : decode cX5_insert 32 = .ok (.bipush (-2), 2) := by decide +kernel
theorem dX5_insert_34 : decode cX5_insert 34 = .ok (.ireturn, 1) := by decide +kernel
theorem dX5_insert_35 : decode cX5_insert 35 = .ok (.aload_n 0, 1) := by decide +kernel
theorem dX5_insert_36 : decode cX5_insert 36 = .ok (.iload_n 3, 1) := by decide +kernel
theorem dX5_insert_37 : decode cX5_insert 37 = .ok (.invokevirtual 65, 3) := by decide +kernel
theorem dX5_insert_40 : decode cX5_insert 40 = .ok (.ifCond .eq 6, 3) := by decide +kernel
theorem dX5_insert_43 : decode cX5_insert 43 = .ok (.bipush (-3), 2) := by decide +kernel
theorem dX5_insert_45 : decode cX5_insert 45 = .ok (.ireturn, 1) := by decide +kernel
theorem dX5_insert_46 : decode cX5_insert 46 = .ok (.aload_n 0, 1) := by decide +kernel
theorem dX5_insert_47 : decode cX5_insert 47 = .ok (.getfield 68, 3) := by decide +kernel
theorem dX5_insert_50 : decode cX5_insert 50 = .ok (.sipush 200, 3) := by decide +kernel
theorem dX5_insert_53 : decode cX5_insert 53 = .ok (.if_icmp .lt 6, 3) := by decide +kernel
theorem dX5_insert_56 : decode cX5_insert 56 = .ok (.bipush (-4), 2) := by decide +kernel
theorem dX5_insert_58 : decode cX5_insert 58 = .ok (.ireturn, 1) := by decide +kernel
theorem dX5_insert_59 : decode cX5_insert 59 = .ok (.aload_n 0, 1) := by decide +kernel
theorem dX5_insert_60 : decode cX5_insert 60 = .ok (.getfield 68, 3) := by decide +kernel
theorem dX5_insert_63 : decode cX5_insert 63 = .ok (.istore 5, 2) := by decide +kernel
theorem dX5_insert_65 : decode cX5_insert 65 = .ok (.aload_n 0, 1) := by decide +kernel
theorem dX5_insert_66 : decode cX5_insert 66 = .ok (.getfield 17, 3) := by decide +kernel
theorem dX5_insert_69 : decode cX5_insert 69 = .ok (.iload 5, 2) := by decide +kernel
theorem dX5_insert_71 : decode cX5_insert 71 = .ok (.new 15, 3) := by decide +kernel
theorem dX5_insert_74 : decode cX5_insert 74 = .ok (.dup, 1) := by decide +kernel
theorem dX5_insert_75 : decode cX5_insert 75 = .ok (.iload 5, 2) := by decide +kernel
theorem dX5_insert_77 : decode cX5_insert 77 = .ok (.aload 4, 2) := by decide +kernel
theorem dX5_insert_79 : decode cX5_insert 79 = .ok (.iload_n 2, 1) := by decide +kernel
theorem dX5_insert_80 : decode cX5_insert 80 = .ok (.iload_n 3, 1) := by decide +kernel
theorem dX5_insert_81 : decode cX5_insert 81 = .ok (.invokespecial 71, 3) := by decide +kernel
theorem dX5_insert_84 : decode cX5_insert 84 = .ok (.aastore, 1) := by decide +kernel
theorem dX5_insert_85 : decode cX5_insert 85 = .ok (.aload_n 0, 1) := by decide +kernel
theorem dX5_insert_86 : decode cX5_insert 86 = .ok (.dup, 1) := by decide +kernel
theorem dX5_insert_87 : decode cX5_insert 87 = .ok (.getfield 68, 3) := by decide +kernel
theorem dX5_insert_90 : decode cX5_insert 90 = .ok (.iconst 1, 1) := by decide +kernel
theorem dX5_insert_91 : decode cX5_insert 91 = .ok (.iadd, 1) := by decide +kernel
theorem dX5_insert_92 : decode cX5_insert 92 = .ok (.putfield 68, 3) := by decide +kernel
theorem dX5_insert_95 : decode cX5_insert 95 = .ok (.iload 5, 2) := by decide +kernel
theorem dX5_insert_97 : decode cX5_insert 97 = .ok (.ireturn, 1) := by decide +kernel
theorem dX5_mark_0 : decode cX5_mark 0 = .ok (.aload_n 0, 1) := by decide +kernel
theorem dX5_mark_1 : decode cX5_mark 1 = .ok (.iload_n 1, 1) := by decide +kernel
theorem dX5_mark_2 : decode cX5_mark 2 = .ok (.invokevirtual 57, 3) := by decide +kernel
theorem dX5_mark_5 : decode cX5_mark 5 = .ok (.astore 4, 2) := by decide +kernel
theorem dX5_mark_7 : decode cX5_mark 7 = .ok (.aload 4, 2) := by decide +kernel
theorem dX5_mark_9 : decode cX5_mark 9 = .ok (.ifnonnull 5, 3) := by decide +kernel
theorem dX5_mark_12 : decode cX5_mark 12 = .ok (.iconst (-1), 1) := by decide +kernel
theorem dX5_mark_13 : decode cX5_mark 13 = .ok (.ireturn, 1) := by decide +kernel
theorem dX5_mark_14 : decode cX5_mark 14 = .ok (.iload_n 3, 1) := by decide +kernel
theorem dX5_mark_15 : decode cX5_mark 15 = .ok (.invokestatic 61, 3) := by decide +kernel
theorem dX5_mark_18 : decode cX5_mark 18 = .ok (.ifCond .ne 6, 3) := by decide +kernel
theorem dX5_mark_21 : decode cX5_mark 21 = .ok (.bipush (-2), 2) := by decide +kernel
theorem dX5_mark_23 : decode cX5_mark 23 = .ok (.ireturn, 1) := by decide +kernel
theorem dX5_mark_24 : decode cX5_mark 24 = .ok (.aload_n 0, 1) := by decide +kernel
theorem dX5_mark_25 : decode cX5_mark 25 = .ok (.iload_n 3, 1) := by decide +kernel
theorem dX5_mark_26 : decode cX5_mark 26 = .ok (.invokevirtual 65, 3) := by decide +kernel
theorem dX5_mark_29 : decode cX5_mark 29 = .ok (.ifCond .eq 6, 3) := by decide +kernel
theorem dX5_mark_32 : decode cX5_mark 32 = .ok (.bipush (-3), 2) := by decide +kernel
theorem dX5_mark_34 : decode cX5_mark 34 = .ok (.ireturn, 1) := by decide +kernel
theorem dX5_mark_35 : decode cX5_mark 35 = .ok (.aload_n 0, 1) := by decide +kernel
theorem dX5_mark_36 : decode cX5_mark 36 = .ok (.getfield 74, 3) := by decide +kernel
theorem dX5_mark_39 : decode cX5_mark 39 = .ok (.sipush 300, 3) := by decide +kernel
theorem dX5_mark_42 : decode cX5_mark 42 = .ok (.if_icmp .lt 6, 3) := by decide +kernel
theorem dX5_mark_45 : decode cX5_mark 45 = .ok (.bipush (-4), 2) := by decide +kernel
theorem dX5_mark_47 : decode cX5_mark 47 = .ok (.ireturn, 1) := by decide +kernel
theorem dX5_mark_48 : decode cX5_mark 48 = .ok (.aload 4, 2) := by decide +kernel
theorem dX5_mark_50 : decode cX5_mark 50 = .ok (.iload_n 3, 1) := by decide +kernel
theorem dX5_mark_51 : decode cX5_mark 51 = .ok (.iload_n 2, 1) := by decide +kernel
theorem dX5_mark_52 : decode cX5_mark 52 = .ok (.invokevirtual 77, 3) := by decide +kernel
theorem dX5_mark_55 : decode cX5_mark 55 = .ok (.aload_n 0, 1) := by decide +kernel
theorem dX5_mark_56 : decode cX5_mark 56 = .ok (.dup, 1) := by decide +kernel
theorem dX5_mark_57 : decode cX5_mark 57 = .ok (.getfield 74, 3) := by decide +kernel
theorem dX5_mark_60 : decode cX5_mark 60 = .ok (.iconst 1, 1) := by decide +kernel
theorem dX5_mark_61 : decode cX5_mark 61 = .ok (.iadd, 1) := by decide +kernel
theorem dX5_mark_62 : decode cX5_mark 62 = .ok (.putfield 74, 3) := by decide +kernel
theorem dX5_mark_65 : decode cX5_mark 65 = .ok (.aload_n 0, 1) := by decide +kernel
theorem dX5_mark_66 : decode cX5_mark 66 = .ok (.getfield 74, 3) := by decide +kernel
theorem dX5_mark_69 : decode cX5_mark 69 = .ok (.ireturn, 1) := by decide +kernel
theorem dX5_close_0 : decode cX5_close 0 = .ok (.aload_n 0, 1) := by decide +kernel
theorem dX5_close_1 : decode cX5_close 1 = .ok (.getfield 81, 3) := by decide +kernel
theorem dX5_close_4 : decode cX5_close 4 = .ok (.bipush 40, 2) := by decide +kernel
theorem dX5_close_6 : decode cX5_close 6 = .ok (.if_icmp .lt 6, 3) := by decide +kernel
theorem dX5_close_9 : decode cX5_close 9 = .ok (.bipush (-3), 2) := by decide +kernel
theorem dX5_close_11 : decode cX5_close 11 = .ok (.ireturn, 1) := by decide +kernel
theorem dX5_close_12 : decode cX5_close 12 = .ok (.aload_n 0, 1) := by decide +kernel
theorem dX5_close_13 : decode cX5_close 13 = .ok (.invokevirtual 84, 3) := by decide +kernel
theorem dX5_close_16 : decode cX5_close 16 = .ok (.ireturn, 1) := by decide +kernel
theorem dX5_flush_0 : decode cX5_flush 0 = .ok (.bipush 40, 2) := by decide +kernel
theorem dX5_flush_2 : decode cX5_flush 2 = .ok (.aload_n 0, 1) := by decide +kernel
theorem dX5_flush_3 : decode cX5_flush 3 = .ok (.getfield 81, 3) := by decide +kernel
theorem dX5_flush_6 : decode cX5_flush 6 = .ok (.isub, 1) := by decide +kernel
theorem dX5_flush_7 : decode cX5_flush 7 = .ok (.istore_n 1, 1) := by decide +kernel
theorem dX5_flush_8 : decode cX5_flush 8 = .ok (.iconst 0, 1) := by decide +kernel
theorem dX5_flush_9 : decode cX5_flush 9 = .ok (.istore_n 2, 1) := by decide +kernel
theorem dX5_flush_10 : decode cX5_flush 10 = .ok (.iload_n 2, 1) := by decide +kernel
theorem dX5_flush_11 : decode cX5_flush 11 = .ok (.iload_n 1, 1) := by decide +kernel
theorem dX5_flush_12 : decode cX5_flush 12 = .ok (.if_icmp .ge 24, 3) := by decide +kernel
theorem dX5_flush_15 : decode cX5_flush 15 = .ok (.aload_n 0, 1) := by decide +kernel
theorem dX5_flush_16 : decode cX5_flush 16 = .ok (.getfield 30, 3) := by decide +kernel
theorem dX5_flush_19 : decode cX5_flush 19 = .ok (.getfield 88, 3) := by decide +kernel
theorem dX5_flush_22 : decode cX5_flush 22 = .ok (.ifCond .le 14, 3) := by decide +kernel
theorem dX5_flush_25 : decode cX5_flush 25 = .ok (.aload_n 0, 1) := by decide +kernel
theorem dX5_flush_26 : decode cX5_flush 26 = .ok (.invokevirtual 84, 3) := by decide +kernel
theorem dX5_flush_29 : decode cX5_flush 29 = .ok (.pop, 1) := by decide +kernel
theorem dX5_flush_30 : decode cX5_flush 30 = .ok (.iinc 2 1, 3) := by decide +kernel
theorem dX5_flush_33 : decode cX5_flush 33 = .ok (.goto (-23), 3) := by decide +kernel
theorem dX5_flush_36 : decode cX5_flush 36 = .ok (.iload_n 2, 1) := by decide +kernel
theorem dX5_flush_37 : decode cX5_flush 37 = .ok (.ireturn, 1) := by decide +kernel
theorem dX5_cancel_0 : decode cX5_cancel 0 = .ok (.aload_n 0, 1) := by decide +kernel
theorem dX5_cancel_1 : decode cX5_cancel 1 = .ok (.iload_n 1, 1) := by decide +kernel
theorem dX5_cancel_2 : decode cX5_cancel 2 = .ok (.invokevirtual 91, 3) := by decide +kernel
theorem dX5_cancel_5 : decode cX5_cancel 5 = .ok (.astore_n 2, 1) := by decide +kernel
theorem dX5_cancel_6 : decode cX5_cancel 6 = .ok (.aload_n 2, 1) := by decide +kernel
theorem dX5_cancel_7 : decode cX5_cancel 7 = .ok (.ifnonnull 5, 3) := by decide +kernel
theorem dX5_cancel_10 : decode cX5_cancel 10 = .ok (.iconst (-1), 1) := by decide +kernel
theorem dX5_cancel_11 : decode cX5_cancel 11 = .ok (.ireturn, 1) := by decide +kernel
theorem dX5_cancel_12 : decode cX5_cancel 12 = .ok (.aload_n 2, 1) := by decide +kernel
theorem dX5_cancel_13 : decode cX5_cancel 13 = .ok (.getfield 95, 3) := by decide +kernel
theorem dX5_cancel_16 : decode cX5_cancel 16 = .ok (.ifCond .gt 10, 3) := by decide +kernel
theorem dX5_cancel_19 : decode cX5_cancel 19 = .ok (.aload_n 2, 1) := by decide +kernel
theorem dX5_cancel_20 : decode cX5_cancel 20 = .ok (.invokevirtual 98, 3) := by decide +kernel
theorem dX5_cancel_23 : decode cX5_cancel 23 = .ok (.ifCond .eq 6, 3) := by decide +kernel
theorem dX5_cancel_26 : decode cX5_cancel 26 = .ok (.bipush (-3), 2) := by decide +kernel
theorem dX5_cancel_28 : decode cX5_cancel 28 = .ok (.ireturn, 1) := by decide +kernel
theorem dX5_cancel_29 : decode cX5_cancel 29 = .ok (.aload_n 2, 1) := by decide +kernel
theorem dX5_cancel_30 : decode cX5_cancel 30 = .ok (.iconst 0, 1) := by decide +kernel
theorem dX5_cancel_31 : decode cX5_cancel 31 = .ok (.putfield 102, 3) := by decide +kernel
theorem dX5_cancel_34 : decode cX5_cancel 34 = .ok (.aload_n 0, 1) := by decide +kernel
theorem dX5_cancel_35 : decode cX5_cancel 35 = .ok (.getfield 30, 3) := by decide +kernel
theorem dX5_cancel_38 : decode cX5_cancel 38 = .ok (.iload_n 1, 1) := by decide +kernel
theorem dX5_cancel_39 : decode cX5_cancel 39 = .ok (.invokevirtual 105, 3) := by decide +kernel
theorem dX5_cancel_42 : decode cX5_cancel 42 = .ok (.iconst 1, 1) := by decide +kernel
theorem dX5_cancel_43 : decode cX5_cancel 43 = .ok (.ireturn, 1) := by decide +kernel
theorem dX5_placed_0 : decode cX5_placed 0 = .ok (.aload_n 0, 1) := by decide +kernel
theorem dX5_placed_1 : decode cX5_placed 1 = .ok (.iload_n 1, 1) := by decide +kernel
theorem dX5_placed_2 : decode cX5_placed 2 = .ok (.invokevirtual 109, 3) := by decide +kernel
theorem dX5_placed_5 : decode cX5_placed 5 = .ok (.astore 4, 2) := by decide +kernel
theorem dX5_placed_7 : decode cX5_placed 7 = .ok (.aload 4, 2) := by decide +kernel
theorem dX5_placed_9 : decode cX5_placed 9 = .ok (.ifnonnull 5, 3) := by decide +kernel
theorem dX5_placed_12 : decode cX5_placed 12 = .ok (.iconst (-1), 1) := by decide +kernel
theorem dX5_placed_13 : decode cX5_placed 13 = .ok (.ireturn, 1) := by decide +kernel
theorem dX5_placed_14 : decode cX5_placed 14 = .ok (.aload 4, 2) := by decide +kernel
theorem dX5_placed_16 : decode cX5_placed 16 = .ok (.iload_n 2, 1) := by decide +kernel
theorem dX5_placed_17 : decode cX5_placed 17 = .ok (.invokevirtual 113, 3) := by decide +kernel
theorem dX5_placed_20 : decode cX5_placed 20 = .ok (.astore 5, 2) := by decide +kernel
theorem dX5_placed_22 : decode cX5_placed 22 = .ok (.aload 5, 2) := by decide +kernel
theorem dX5_placed_24 : decode cX5_placed 24 = .ok (.ifnonnull 5, 3) := by decide +kernel
theorem dX5_placed_27 : decode cX5_placed 27 = .ok (.iconst (-1), 1) := by decide +kernel
theorem dX5_placed_28 : decode cX5_placed 28 = .ok (.ireturn, 1) := by decide +kernel
theorem dX5_placed_29 : decode cX5_placed 29 = .ok (.iload_n 3, 1) := by decide +kernel
theorem dX5_placed_30 : decode cX5_placed 30 = .ok (.tableswitch 68 0 3 #[30, 39, 45, 54], 30) := by decide +kernel
theorem dX5_placed_60 : decode cX5_placed 60 = .ok (.aload 5, 2) := by decide +kernel
theorem dX5_placed_62 : decode cX5_placed 62 = .ok (.getfield 117, 3) := by decide +kernel
theorem dX5_placed_65 : decode cX5_placed 65 = .ok (.getfield 123, 3) := by decide +kernel
theorem dX5_placed_68 : decode cX5_placed 68 = .ok (.ireturn, 1) := by decide +kernel
theorem dX5_placed_69 : decode cX5_placed 69 = .ok (.aload 5, 2) := by decide +kernel
theorem dX5_placed_71 : decode cX5_placed 71 = .ok (.getfield 126, 3) := by decide +kernel
theorem dX5_placed_74 : decode cX5_placed 74 = .ok (.ireturn, 1) := by decide +kernel
theorem dX5_placed_75 : decode cX5_placed 75 = .ok (.aload 5, 2) := by decide +kernel
theorem dX5_placed_77 : decode cX5_placed 77 = .ok (.getfield 117, 3) := by decide +kernel
theorem dX5_placed_80 : decode cX5_placed 80 = .ok (.getfield 129, 3) := by decide +kernel
theorem dX5_placed_83 : decode cX5_placed 83 = .ok (.ireturn, 1) := by decide +kernel
theorem dX5_placed_84 : decode cX5_placed 84 = .ok (.aload 5, 2) := by decide +kernel
theorem dX5_placed_86 : decode cX5_placed 86 = .ok (.getfield 132, 3) := by decide +kernel
theorem dX5_placed_89 : decode cX5_placed 89 = .ok (.ifCond .eq 7, 3) := by decide +kernel
theorem dX5_placed_92 : decode cX5_placed 92 = .ok (.iconst 1, 1) := by decide +kernel
theorem dX5_placed_93 : decode cX5_placed 93 = .ok (.goto 4, 3) := by decide +kernel
theorem dX5_placed_96 : decode cX5_placed 96 = .ok (.iconst 0, 1) := by decide +kernel
theorem dX5_placed_97 : decode cX5_placed 97 = .ok (.ireturn, 1) := by decide +kernel
theorem dX5_placed_98 : decode cX5_placed 98 = .ok (.iconst (-1), 1) := by decide +kernel
theorem dX5_placed_99 : decode cX5_placed 99 = .ok (.ireturn, 1) := by decide +kernel
theorem dX5_about_0 : decode cX5_about 0 = .ok (.aload_n 0, 1) := by decide +kernel
theorem dX5_about_1 : decode cX5_about 1 = .ok (.iload_n 1, 1) := by decide +kernel
theorem dX5_about_2 : decode cX5_about 2 = .ok (.invokevirtual 91, 3) := by decide +kernel
theorem dX5_about_5 : decode cX5_about 5 = .ok (.astore_n 3, 1) := by decide +kernel
theorem dX5_about_6 : decode cX5_about 6 = .ok (.aload_n 3, 1) := by decide +kernel
theorem dX5_about_7 : decode cX5_about 7 = .ok (.ifnonnull 5, 3) := by decide +kernel
theorem dX5_about_10 : decode cX5_about 10 = .ok (.iconst (-1), 1) := by decide +kernel
theorem dX5_about_11 : decode cX5_about 11 = .ok (.ireturn, 1) := by decide +kernel
theorem dX5_about_12 : decode cX5_about 12 = .ok (.iload_n 2, 1) := by decide +kernel
theorem dX5_about_13 : decode cX5_about 13 = .ok (.tableswitch 60 0 4 #[35, 40, 45, 50, 55], 35) := by decide +kernel
theorem dX5_about_48 : decode cX5_about 48 = .ok (.aload_n 3, 1) := by decide +kernel
theorem dX5_about_49 : decode cX5_about 49 = .ok (.getfield 102, 3) := by decide +kernel
theorem dX5_about_52 : decode cX5_about 52 = .ok (.ireturn, 1) := by decide +kernel
theorem dX5_about_53 : decode cX5_about 53 = .ok (.aload_n 3, 1) := by decide +kernel
theorem dX5_about_54 : decode cX5_about 54 = .ok (.getfield 136, 3) := by decide +kernel
theorem dX5_about_57 : decode cX5_about 57 = .ok (.ireturn, 1) := by decide +kernel
theorem dX5_about_58 : decode cX5_about 58 = .ok (.aload_n 3, 1) := by decide +kernel
theorem dX5_about_59 : decode cX5_about 59 = .ok (.getfield 139, 3) := by decide +kernel
theorem dX5_about_62 : decode cX5_about 62 = .ok (.ireturn, 1) := by decide +kernel
theorem dX5_about_63 : decode cX5_about 63 = .ok (.aload_n 3, 1) := by decide +kernel
theorem dX5_about_64 : decode cX5_about 64 = .ok (.getfield 129, 3) := by decide +kernel
theorem dX5_about_67 : decode cX5_about 67 = .ok (.ireturn, 1) := by decide +kernel
theorem dX5_about_68 : decode cX5_about 68 = .ok (.aload_n 3, 1) := by decide +kernel
theorem dX5_about_69 : decode cX5_about 69 = .ok (.getfield 95, 3) := by decide +kernel
theorem dX5_about_72 : decode cX5_about 72 = .ok (.ireturn, 1) := by decide +kernel
theorem dX5_about_73 : decode cX5_about 73 = .ok (.bipush (-2), 2) := by decide +kernel
theorem dX5_about_75 : decode cX5_about 75 = .ok (.ireturn, 1) := by decide +kernel
theorem dX5_held_0 : decode cX5_held 0 = .ok (.aload_n 0, 1) := by decide +kernel
theorem dX5_held_1 : decode cX5_held 1 = .ok (.getfield 30, 3) := by decide +kernel
theorem dX5_held_4 : decode cX5_held 4 = .ok (.iload_n 1, 1) := by decide +kernel
theorem dX5_held_5 : decode cX5_held 5 = .ok (.invokevirtual 142, 3) := by decide +kernel
theorem dX5_held_8 : decode cX5_held 8 = .ok (.ireturn, 1) := by decide +kernel
theorem dX5_used_0 : decode cX5_used 0 = .ok (.aload_n 0, 1) := by decide +kernel
theorem dX5_used_1 : decode cX5_used 1 = .ok (.iload_n 2, 1) := by decide +kernel
theorem dX5_used_2 : decode cX5_used 2 = .ok (.invokevirtual 57, 3) := by decide +kernel
theorem dX5_used_5 : decode cX5_used 5 = .ok (.astore_n 3, 1) := by decide +kernel
theorem dX5_used_6 : decode cX5_used 6 = .ok (.iload_n 1, 1) := by decide +kernel
theorem dX5_used_7 : decode cX5_used 7 = .ok (.invokestatic 61, 3) := by decide +kernel
theorem dX5_used_10 : decode cX5_used 10 = .ok (.ifCond .eq 12, 3) := by decide +kernel
theorem dX5_used_13 : decode cX5_used 13 = .ok (.aload_n 3, 1) := by decide +kernel
theorem dX5_used_14 : decode cX5_used 14 = .ok (.ifnonnull 10, 3) := by decide +kernel
theorem dX5_used_17 : decode cX5_used 17 = .ok (.iload_n 2, 1) := by decide +kernel
theorem dX5_used_18 : decode cX5_used 18 = .ok (.iconst (-1), 1) := by decide +kernel
theorem dX5_used_19 : decode cX5_used 19 = .ok (.if_icmp .eq 5, 3) := by decide +kernel
theorem dX5_used_22 : decode cX5_used 22 = .ok (.iconst (-1), 1) := by decide +kernel
theorem dX5_used_23 : decode cX5_used 23 = .ok (.ireturn, 1) := by decide +kernel
theorem dX5_used_24 : decode cX5_used 24 = .ok (.aload_n 3, 1) := by decide +kernel
theorem dX5_used_25 : decode cX5_used 25 = .ok (.ifnull 10, 3) := by decide +kernel
theorem dX5_used_28 : decode cX5_used 28 = .ok (.aload_n 3, 1) := by decide +kernel
theorem dX5_used_29 : decode cX5_used 29 = .ok (.getfield 146, 3) := by decide +kernel
theorem dX5_used_32 : decode cX5_used 32 = .ok (.iload_n 1, 1) := by decide +kernel
theorem dX5_used_33 : decode cX5_used 33 = .ok (.iaload, 1) := by decide +kernel
theorem dX5_used_34 : decode cX5_used 34 = .ok (.ireturn, 1) := by decide +kernel
theorem dX5_used_35 : decode cX5_used 35 = .ok (.aload_n 0, 1) := by decide +kernel
theorem dX5_used_36 : decode cX5_used 36 = .ok (.iload_n 1, 1) := by decide +kernel
theorem dX5_used_37 : decode cX5_used 37 = .ok (.invokevirtual 109, 3) := by decide +kernel
theorem dX5_used_40 : decode cX5_used 40 = .ok (.astore 4, 2) := by decide +kernel
theorem dX5_used_42 : decode cX5_used 42 = .ok (.aload 4, 2) := by decide +kernel
theorem dX5_used_44 : decode cX5_used 44 = .ok (.ifnonnull 7, 3) := by decide +kernel
theorem dX5_used_47 : decode cX5_used 47 = .ok (.iconst 0, 1) := by decide +kernel
theorem dX5_used_48 : decode cX5_used 48 = .ok (.goto 8, 3) := by decide +kernel
theorem dX5_used_51 : decode cX5_used 51 = .ok (.aload 4, 2) := by decide +kernel
theorem dX5_used_53 : decode cX5_used 53 = .ok (.getfield 150, 3) := by decide +kernel
theorem dX5_used_56 : decode cX5_used 56 = .ok (.ireturn, 1) := by decide +kernel
theorem dX5_seen_0 : decode cX5_seen 0 = .ok (.aload_n 0, 1) := by decide +kernel
theorem dX5_seen_1 : decode cX5_seen 1 = .ok (.iload_n 1, 1) := by decide +kernel
theorem dX5_seen_2 : decode cX5_seen 2 = .ok (.invokevirtual 57, 3) := by decide +kernel
theorem dX5_seen_5 : decode cX5_seen 5 = .ok (.astore 4, 2) := by decide +kernel
theorem dX5_seen_7 : decode cX5_seen 7 = .ok (.aload 4, 2) := by decide +kernel
theorem dX5_seen_9 : decode cX5_seen 9 = .ok (.ifnull 10, 3) := by decide +kernel
theorem dX5_seen_12 : decode cX5_seen 12 = .ok (.iload_n 2, 1) := by decide +kernel
theorem dX5_seen_13 : decode cX5_seen 13 = .ok (.invokestatic 61, 3) := by decide +kernel
theorem dX5_seen_16 : decode cX5_seen 16 = .ok (.ifCond .ne 5, 3) := by decide +kernel
theorem dX5_seen_19 : decode cX5_seen 19 = .ok (.iconst 0, 1) := by decide +kernel
theorem dX5_seen_20 : decode cX5_seen 20 = .ok (.ireturn, 1) := by decide +kernel
theorem dX5_seen_21 : decode cX5_seen 21 = .ok (.iload_n 3, 1) := by decide +kernel
theorem dX5_seen_22 : decode cX5_seen 22 = .ok (.tableswitch 47 0 2 #[26, 33, 40], 26) := by decide +kernel
theorem dX5_seen_48 : decode cX5_seen 48 = .ok (.aload 4, 2) := by decide +kernel
theorem dX5_seen_50 : decode cX5_seen 50 = .ok (.iload_n 2, 1) := by decide +kernel
theorem dX5_seen_51 : decode cX5_seen 51 = .ok (.invokevirtual 151, 3) := by decide +kernel
theorem dX5_seen_54 : decode cX5_seen 54 = .ok (.ireturn, 1) := by decide +kernel
theorem dX5_seen_55 : decode cX5_seen 55 = .ok (.aload 4, 2) := by decide +kernel
theorem dX5_seen_57 : decode cX5_seen 57 = .ok (.iload_n 2, 1) := by decide +kernel
theorem dX5_seen_58 : decode cX5_seen 58 = .ok (.invokevirtual 154, 3) := by decide +kernel
theorem dX5_seen_61 : decode cX5_seen 61 = .ok (.ireturn, 1) := by decide +kernel
theorem dX5_seen_62 : decode cX5_seen 62 = .ok (.aload 4, 2) := by decide +kernel
theorem dX5_seen_64 : decode cX5_seen 64 = .ok (.iload_n 2, 1) := by decide +kernel
theorem dX5_seen_65 : decode cX5_seen 65 = .ok (.invokevirtual 157, 3) := by decide +kernel
theorem dX5_seen_68 : decode cX5_seen 68 = .ok (.ireturn, 1) := by decide +kernel
theorem dX5_seen_69 : decode cX5_seen 69 = .ok (.iconst 0, 1) := by decide +kernel
theorem dX5_seen_70 : decode cX5_seen 70 = .ok (.ireturn, 1) := by decide +kernel
theorem dX5_count_0 : decode cX5_count 0 = .ok (.iload_n 1, 1) := by decide +kernel
theorem dX5_count_1 : decode cX5_count 1 = .ok (.tableswitch 63 0 4 #[35, 40, 45, 50, 55], 35) := by decide +kernel
theorem dX5_count_36 : decode cX5_count 36 = .ok (.aload_n 0, 1) := by decide +kernel
theorem dX5_count_37 : decode cX5_count 37 = .ok (.getfield 51, 3) := by decide +kernel
theorem dX5_count_40 : decode cX5_count 40 = .ok (.ireturn, 1) := by decide +kernel
theorem dX5_count_41 : decode cX5_count 41 = .ok (.aload_n 0, 1) := by decide +kernel
theorem dX5_count_42 : decode cX5_count 42 = .ok (.getfield 68, 3) := by decide +kernel
theorem dX5_count_45 : decode cX5_count 45 = .ok (.ireturn, 1) := by decide +kernel
theorem dX5_count_46 : decode cX5_count 46 = .ok (.aload_n 0, 1) := by decide +kernel
theorem dX5_count_47 : decode cX5_count 47 = .ok (.getfield 74, 3) := by decide +kernel
theorem dX5_count_50 : decode cX5_count 50 = .ok (.ireturn, 1) := by decide +kernel
theorem dX5_count_51 : decode cX5_count 51 = .ok (.aload_n 0, 1) := by decide +kernel
theorem dX5_count_52 : decode cX5_count 52 = .ok (.getfield 81, 3) := by decide +kernel
theorem dX5_count_55 : decode cX5_count 55 = .ok (.ireturn, 1) := by decide +kernel
theorem dX5_count_56 : decode cX5_count 56 = .ok (.aload_n 0, 1) := by decide +kernel
theorem dX5_count_57 : decode cX5_count 57 = .ok (.getfield 30, 3) := by decide +kernel
theorem dX5_count_60 : decode cX5_count 60 = .ok (.getfield 88, 3) := by decide +kernel
theorem dX5_count_63 : decode cX5_count 63 = .ok (.ireturn, 1) := by decide +kernel
theorem dX5_count_64 : decode cX5_count 64 = .ok (.bipush (-2), 2) := by decide +kernel
theorem dX5_count_66 : decode cX5_count 66 = .ok (.ireturn, 1) := by decide +kernel
theorem dX5_isWithin_0 : decode cX5_isWithin 0 = .ok (.iload_n 1, 1) := by decide +kernel
theorem dX5_isWithin_1 : decode cX5_isWithin 1 = .ok (.iload_n 0, 1) := by decide +kernel
theorem dX5_isWithin_2 : decode cX5_isWithin 2 = .ok (.if_icmp .gt 12, 3) := by decide +kernel
theorem dX5_isWithin_5 : decode cX5_isWithin 5 = .ok (.iload_n 0, 1) := by decide +kernel
theorem dX5_isWithin_6 : decode cX5_isWithin 6 = .ok (.iload_n 2, 1) := by decide +kernel
theorem dX5_isWithin_7 : decode cX5_isWithin 7 = .ok (.if_icmp .gt 7, 3) := by decide +kernel
theorem dX5_isWithin_10 : decode cX5_isWithin 10 = .ok (.iconst 1, 1) := by decide +kernel
theorem dX5_isWithin_11 : decode cX5_isWithin 11 = .ok (.goto 4, 3) := by decide +kernel
theorem dX5_isWithin_14 : decode cX5_isWithin 14 = .ok (.iconst 0, 1) := by decide +kernel
theorem dX5_isWithin_15 : decode cX5_isWithin 15 = .ok (.ireturn, 1) := by decide +kernel
theorem dX5_isPage_0 : decode cX5_isPage 0 = .ok (.iload_n 0, 1) := by decide +kernel
theorem dX5_isPage_1 : decode cX5_isPage 1 = .ok (.iconst 0, 1) := by decide +kernel
theorem dX5_isPage_2 : decode cX5_isPage 2 = .ok (.bipush 39, 2) := by decide +kernel
theorem dX5_isPage_4 : decode cX5_isPage 4 = .ok (.invokestatic 47, 3) := by decide +kernel
theorem dX5_isPage_7 : decode cX5_isPage 7 = .ok (.ireturn, 1) := by decide +kernel
theorem dX5_isClosed_0 : decode cX5_isClosed 0 = .ok (.iload_n 1, 1) := by decide +kernel
theorem dX5_isClosed_1 : decode cX5_isClosed 1 = .ok (.aload_n 0, 1) := by decide +kernel
theorem dX5_isClosed_2 : decode cX5_isClosed 2 = .ok (.getfield 81, 3) := by decide +kernel
theorem dX5_isClosed_5 : decode cX5_isClosed 5 = .ok (.if_icmp .ge 7, 3) := by decide +kernel
theorem dX5_isClosed_8 : decode cX5_isClosed 8 = .ok (.iconst 1, 1) := by decide +kernel
theorem dX5_isClosed_9 : decode cX5_isClosed 9 = .ok (.goto 4, 3) := by decide +kernel
theorem dX5_isClosed_12 : decode cX5_isClosed 12 = .ok (.iconst 0, 1) := by decide +kernel
theorem dX5_isClosed_13 : decode cX5_isClosed 13 = .ok (.ireturn, 1) := by decide +kernel
theorem dX5_kindAt_0 : decode cX5_kindAt 0 = .ok (.iload_n 1, 1) := by decide +kernel
theorem dX5_kindAt_1 : decode cX5_kindAt 1 = .ok (.iconst 0, 1) := by decide +kernel
theorem dX5_kindAt_2 : decode cX5_kindAt 2 = .ok (.bipush 7, 2) := by decide +kernel
theorem dX5_kindAt_4 : decode cX5_kindAt 4 = .ok (.invokestatic 47, 3) := by decide +kernel
theorem dX5_kindAt_7 : decode cX5_kindAt 7 = .ok (.ifCond .eq 12, 3) := by decide +kernel
theorem dX5_kindAt_10 : decode cX5_kindAt 10 = .ok (.aload_n 0, 1) := by decide +kernel
theorem dX5_kindAt_11 : decode cX5_kindAt 11 = .ok (.getfield 11, 3) := by decide +kernel
theorem dX5_kindAt_14 : decode cX5_kindAt 14 = .ok (.iload_n 1, 1) := by decide +kernel
theorem dX5_kindAt_15 : decode cX5_kindAt 15 = .ok (.aaload, 1) := by decide +kernel
theorem dX5_kindAt_16 : decode cX5_kindAt 16 = .ok (.goto 4, 3) := by decide +kernel
theorem dX5_kindAt_19 : decode cX5_kindAt 19 = .ok (.aconst_null, 1) := by decide +kernel
theorem dX5_kindAt_20 : decode cX5_kindAt 20 = .ok (.areturn, 1) := by decide +kernel
theorem dX5_insertAt_0 : decode cX5_insertAt 0 = .ok (.iload_n 1, 1) := by decide +kernel
theorem dX5_insertAt_1 : decode cX5_insertAt 1 = .ok (.iconst 0, 1) := by decide +kernel
theorem dX5_insertAt_2 : decode cX5_insertAt 2 = .ok (.sipush 199, 3) := by decide +kernel
theorem dX5_insertAt_5 : decode cX5_insertAt 5 = .ok (.invokestatic 47, 3) := by decide +kernel
theorem dX5_insertAt_8 : decode cX5_insertAt 8 = .ok (.ifCond .eq 12, 3) := by decide +kernel
theorem dX5_insertAt_11 : decode cX5_insertAt 11 = .ok (.aload_n 0, 1) := by decide +kernel
theorem dX5_insertAt_12 : decode cX5_insertAt 12 = .ok (.getfield 17, 3) := by decide +kernel
theorem dX5_insertAt_15 : decode cX5_insertAt 15 = .ok (.iload_n 1, 1) := by decide +kernel
theorem dX5_insertAt_16 : decode cX5_insertAt 16 = .ok (.aaload, 1) := by decide +kernel
theorem dX5_insertAt_17 : decode cX5_insertAt 17 = .ok (.goto 4, 3) := by decide +kernel
theorem dX5_insertAt_20 : decode cX5_insertAt 20 = .ok (.aconst_null, 1) := by decide +kernel
theorem dX5_insertAt_21 : decode cX5_insertAt 21 = .ok (.areturn, 1) := by decide +kernel
theorem dX5_closedPageAt_0 : decode cX5_closedPageAt 0 = .ok (.iload_n 1, 1) := by decide +kernel
theorem dX5_closedPageAt_1 : decode cX5_closedPageAt 1 = .ok (.invokestatic 61, 3) := by decide +kernel
theorem dX5_closedPageAt_4 : decode cX5_closedPageAt 4 = .ok (.ifCond .eq 12, 3) := by decide +kernel
theorem dX5_closedPageAt_7 : decode cX5_closedPageAt 7 = .ok (.aload_n 0, 1) := by decide +kernel
theorem dX5_closedPageAt_8 : decode cX5_closedPageAt 8 = .ok (.getfield 23, 3) := by decide +kernel
theorem dX5_closedPageAt_11 : decode cX5_closedPageAt 11 = .ok (.iload_n 1, 1) := by decide +kernel
theorem dX5_closedPageAt_12 : decode cX5_closedPageAt 12 = .ok (.aaload, 1) := by decide +kernel
theorem dX5_closedPageAt_13 : decode cX5_closedPageAt 13 = .ok (.goto 4, 3) := by decide +kernel
theorem dX5_closedPageAt_16 : decode cX5_closedPageAt 16 = .ok (.aconst_null, 1) := by decide +kernel
theorem dX5_closedPageAt_17 : decode cX5_closedPageAt 17 = .ok (.areturn, 1) := by decide +kernel
theorem dX5_closeNextPage_0 : decode cX5_closeNextPage 0 = .ok (.aload_n 0, 1) := by decide +kernel
theorem dX5_closeNextPage_1 : decode cX5_closeNextPage 1 = .ok (.aload_n 0, 1) := by decide +kernel
theorem dX5_closeNextPage_2 : decode cX5_closeNextPage 2 = .ok (.getfield 81, 3) := by decide +kernel
theorem dX5_closeNextPage_5 : decode cX5_closeNextPage 5 = .ok (.invokevirtual 160, 3) := by decide +kernel
theorem dX5_closeNextPage_8 : decode cX5_closeNextPage 8 = .ok (.aload_n 0, 1) := by decide +kernel
theorem dX5_closeNextPage_9 : decode cX5_closeNextPage 9 = .ok (.invokevirtual 163, 3) := by decide +kernel
theorem dX5_closeNextPage_12 : decode cX5_closeNextPage 12 = .ok (.new 21, 3) := by decide +kernel
theorem dX5_closeNextPage_15 : decode cX5_closeNextPage 15 = .ok (.dup, 1) := by decide +kernel
theorem dX5_closeNextPage_16 : decode cX5_closeNextPage 16 = .ok (.aload_n 0, 1) := by decide +kernel
theorem dX5_closeNextPage_17 : decode cX5_closeNextPage 17 = .ok (.getfield 81, 3) := by decide +kernel
theorem dX5_closeNextPage_20 : decode cX5_closeNextPage 20 = .ok (.aload_n 0, 1) := by decide +kernel
theorem dX5_closeNextPage_21 : decode cX5_closeNextPage 21 = .ok (.getfield 30, 3) := by decide +kernel
theorem dX5_closeNextPage_24 : decode cX5_closeNextPage 24 = .ok (.getfield 88, 3) := by decide +kernel
theorem dX5_closeNextPage_27 : decode cX5_closeNextPage 27 = .ok (.invokespecial 166, 3) := by decide +kernel
theorem dX5_closeNextPage_30 : decode cX5_closeNextPage 30 = .ok (.astore_n 1, 1) := by decide +kernel
theorem dX5_closeNextPage_31 : decode cX5_closeNextPage 31 = .ok (.aload_n 0, 1) := by decide +kernel
theorem dX5_closeNextPage_32 : decode cX5_closeNextPage 32 = .ok (.aload_n 1, 1) := by decide +kernel
theorem dX5_closeNextPage_33 : decode cX5_closeNextPage 33 = .ok (.invokevirtual 168, 3) := by decide +kernel
theorem dX5_closeNextPage_36 : decode cX5_closeNextPage 36 = .ok (.aload_n 0, 1) := by decide +kernel
theorem dX5_closeNextPage_37 : decode cX5_closeNextPage 37 = .ok (.getfield 23, 3) := by decide +kernel
theorem dX5_closeNextPage_40 : decode cX5_closeNextPage 40 = .ok (.aload_n 0, 1) := by decide +kernel
theorem dX5_closeNextPage_41 : decode cX5_closeNextPage 41 = .ok (.getfield 81, 3) := by decide +kernel
theorem dX5_closeNextPage_44 : decode cX5_closeNextPage 44 = .ok (.aload_n 1, 1) := by decide +kernel
theorem dX5_closeNextPage_45 : decode cX5_closeNextPage 45 = .ok (.aastore, 1) := by decide +kernel
theorem dX5_closeNextPage_46 : decode cX5_closeNextPage 46 = .ok (.aload_n 0, 1) := by decide +kernel
theorem dX5_closeNextPage_47 : decode cX5_closeNextPage 47 = .ok (.dup, 1) := by decide +kernel
theorem dX5_closeNextPage_48 : decode cX5_closeNextPage 48 = .ok (.getfield 81, 3) := by decide +kernel
theorem dX5_closeNextPage_51 : decode cX5_closeNextPage 51 = .ok (.iconst 1, 1) := by decide +kernel
theorem dX5_closeNextPage_52 : decode cX5_closeNextPage 52 = .ok (.iadd, 1) := by decide +kernel
theorem dX5_closeNextPage_53 : decode cX5_closeNextPage 53 = .ok (.putfield 81, 3) := by decide +kernel
theorem dX5_closeNextPage_56 : decode cX5_closeNextPage 56 = .ok (.aload_n 1, 1) := by decide +kernel
theorem dX5_closeNextPage_57 : decode cX5_closeNextPage 57 = .ok (.getfield 172, 3) := by decide +kernel
theorem dX5_closeNextPage_60 : decode cX5_closeNextPage 60 = .ok (.ireturn, 1) := by decide +kernel
theorem dX5_goThroughLine_0 : decode cX5_goThroughLine 0 = .ok (.aload_n 0, 1) := by decide +kernel
theorem dX5_goThroughLine_1 : decode cX5_goThroughLine 1 = .ok (.getfield 30, 3) := by decide +kernel
theorem dX5_goThroughLine_4 : decode cX5_goThroughLine 4 = .ok (.getfield 88, 3) := by decide +kernel
theorem dX5_goThroughLine_7 : decode cX5_goThroughLine 7 = .ok (.istore_n 2, 1) := by decide +kernel
theorem dX5_goThroughLine_8 : decode cX5_goThroughLine 8 = .ok (.aload_n 0, 1) := by decide +kernel
theorem dX5_goThroughLine_9 : decode cX5_goThroughLine 9 = .ok (.getfield 30, 3) := by decide +kernel
theorem dX5_goThroughLine_12 : decode cX5_goThroughLine 12 = .ok (.iconst 0, 1) := by decide +kernel
theorem dX5_goThroughLine_13 : decode cX5_goThroughLine 13 = .ok (.putfield 88, 3) := by decide +kernel
theorem dX5_goThroughLine_16 : decode cX5_goThroughLine 16 = .ok (.iconst 0, 1) := by decide +kernel
theorem dX5_goThroughLine_17 : decode cX5_goThroughLine 17 = .ok (.istore_n 3, 1) := by decide +kernel
theorem dX5_goThroughLine_18 : decode cX5_goThroughLine 18 = .ok (.iload_n 3, 1) := by decide +kernel
theorem dX5_goThroughLine_19 : decode cX5_goThroughLine 19 = .ok (.iload_n 2, 1) := by decide +kernel
theorem dX5_goThroughLine_20 : decode cX5_goThroughLine 20 = .ok (.if_icmp .ge 52, 3) := by decide +kernel
theorem dX5_goThroughLine_23 : decode cX5_goThroughLine 23 = .ok (.aload_n 0, 1) := by decide +kernel
theorem dX5_goThroughLine_24 : decode cX5_goThroughLine 24 = .ok (.getfield 30, 3) := by decide +kernel
theorem dX5_goThroughLine_27 : decode cX5_goThroughLine 27 = .ok (.getfield 173, 3) := by decide +kernel
theorem dX5_goThroughLine_30 : decode cX5_goThroughLine 30 = .ok (.iload_n 3, 1) := by decide +kernel
theorem dX5_goThroughLine_31 : decode cX5_goThroughLine 31 = .ok (.iaload, 1) := by decide +kernel
theorem dX5_goThroughLine_32 : decode cX5_goThroughLine 32 = .ok (.istore 4, 2) := by decide +kernel
theorem dX5_goThroughLine_34 : decode cX5_goThroughLine 34 = .ok (.aload_n 0, 1) := by decide +kernel
theorem dX5_goThroughLine_35 : decode cX5_goThroughLine 35 = .ok (.iload 4, 2) := by decide +kernel
theorem dX5_goThroughLine_37 : decode cX5_goThroughLine 37 = .ok (.invokevirtual 91, 3) := by decide +kernel
theorem dX5_goThroughLine_40 : decode cX5_goThroughLine 40 = .ok (.astore 5, 2) := by decide +kernel
theorem dX5_goThroughLine_42 : decode cX5_goThroughLine 42 = .ok (.aload 5, 2) := by decide +kernel
theorem dX5_goThroughLine_44 : decode cX5_goThroughLine 44 = .ok (.ifnull 22, 3) := by decide +kernel
theorem dX5_goThroughLine_47 : decode cX5_goThroughLine 47 = .ok (.aload_n 0, 1) := by decide +kernel
theorem dX5_goThroughLine_48 : decode cX5_goThroughLine 48 = .ok (.aload_n 1, 1) := by decide +kernel
theorem dX5_goThroughLine_49 : decode cX5_goThroughLine 49 = .ok (.aload 5, 2) := by decide +kernel
theorem dX5_goThroughLine_51 : decode cX5_goThroughLine 51 = .ok (.invokevirtual 176, 3) := by decide +kernel
theorem dX5_goThroughLine_54 : decode cX5_goThroughLine 54 = .ok (.ifCond .eq 12, 3) := by decide +kernel
theorem dX5_goThroughLine_57 : decode cX5_goThroughLine 57 = .ok (.aload_n 0, 1) := by decide +kernel
theorem dX5_goThroughLine_58 : decode cX5_goThroughLine 58 = .ok (.getfield 30, 3) := by decide +kernel
theorem dX5_goThroughLine_61 : decode cX5_goThroughLine 61 = .ok (.iload 4, 2) := by decide +kernel
theorem dX5_goThroughLine_63 : decode cX5_goThroughLine 63 = .ok (.invokevirtual 180, 3) := by decide +kernel
theorem dX5_goThroughLine_66 : decode cX5_goThroughLine 66 = .ok (.iinc 3 1, 3) := by decide +kernel
theorem dX5_goThroughLine_69 : decode cX5_goThroughLine 69 = .ok (.goto (-51), 3) := by decide +kernel
theorem dX5_goThroughLine_72 : decode cX5_goThroughLine 72 = .ok (.return_, 1) := by decide +kernel
theorem dX5_lineUpInsertsOf_0 : decode cX5_lineUpInsertsOf 0 = .ok (.iconst 0, 1) := by decide +kernel
theorem dX5_lineUpInsertsOf_1 : decode cX5_lineUpInsertsOf 1 = .ok (.istore_n 2, 1) := by decide +kernel
theorem dX5_lineUpInsertsOf_2 : decode cX5_lineUpInsertsOf 2 = .ok (.iload_n 2, 1) := by decide +kernel
theorem dX5_lineUpInsertsOf_3 : decode cX5_lineUpInsertsOf 3 = .ok (.aload_n 0, 1) := by decide +kernel
theorem dX5_lineUpInsertsOf_4 : decode cX5_lineUpInsertsOf 4 = .ok (.getfield 68, 3) := by decide +kernel
theorem dX5_lineUpInsertsOf_7 : decode cX5_lineUpInsertsOf 7 = .ok (.if_icmp .ge 42, 3) := by decide +kernel
theorem dX5_lineUpInsertsOf_10 : decode cX5_lineUpInsertsOf 10 = .ok (.aload_n 0, 1) := by decide +kernel
theorem dX5_lineUpInsertsOf_11 : decode cX5_lineUpInsertsOf 11 = .ok (.iload_n 2, 1) := by decide +kernel
theorem dX5_lineUpInsertsOf_12 : decode cX5_lineUpInsertsOf 12 = .ok (.invokevirtual 91, 3) := by decide +kernel
theorem dX5_lineUpInsertsOf_15 : decode cX5_lineUpInsertsOf 15 = .ok (.astore_n 3, 1) := by decide +kernel
theorem dX5_lineUpInsertsOf_16 : decode cX5_lineUpInsertsOf 16 = .ok (.aload_n 3, 1) := by decide +kernel
theorem dX5_lineUpInsertsOf_17 : decode cX5_lineUpInsertsOf 17 = .ok (.ifnull 26, 3) := by decide +kernel
theorem dX5_lineUpInsertsOf_20 : decode cX5_lineUpInsertsOf 20 = .ok (.aload_n 3, 1) := by decide +kernel
theorem dX5_lineUpInsertsOf_21 : decode cX5_lineUpInsertsOf 21 = .ok (.getfield 183, 3) := by decide +kernel
theorem dX5_lineUpInsertsOf_24 : decode cX5_lineUpInsertsOf 24 = .ok (.iload_n 1, 1) := by decide +kernel
theorem dX5_lineUpInsertsOf_25 : decode cX5_lineUpInsertsOf 25 = .ok (.if_icmp .ne 18, 3) := by decide +kernel
theorem dX5_lineUpInsertsOf_28 : decode cX5_lineUpInsertsOf 28 = .ok (.aload_n 3, 1) := by decide +kernel
theorem dX5_lineUpInsertsOf_29 : decode cX5_lineUpInsertsOf 29 = .ok (.getfield 102, 3) := by decide +kernel
theorem dX5_lineUpInsertsOf_32 : decode cX5_lineUpInsertsOf 32 = .ok (.ifCond .le 11, 3) := by decide +kernel
theorem dX5_lineUpInsertsOf_35 : decode cX5_lineUpInsertsOf 35 = .ok (.aload_n 0, 1) := by decide +kernel
theorem dX5_lineUpInsertsOf_36 : decode cX5_lineUpInsertsOf 36 = .ok (.getfield 30, 3) := by decide +kernel
theorem dX5_lineUpInsertsOf_39 : decode cX5_lineUpInsertsOf 39 = .ok (.iload_n 2, 1) := by decide +kernel
theorem dX5_lineUpInsertsOf_40 : decode cX5_lineUpInsertsOf 40 = .ok (.invokevirtual 180, 3) := by decide +kernel
theorem dX5_lineUpInsertsOf_43 : decode cX5_lineUpInsertsOf 43 = .ok (.iinc 2 1, 3) := by decide +kernel
theorem dX5_lineUpInsertsOf_46 : decode cX5_lineUpInsertsOf 46 = .ok (.goto (-44), 3) := by decide +kernel
theorem dX5_lineUpInsertsOf_49 : decode cX5_lineUpInsertsOf 49 = .ok (.return_, 1) := by decide +kernel
theorem dX5_startPageInKinds_0 : decode cX5_startPageInKinds 0 = .ok (.iconst 0, 1) := by decide +kernel
theorem dX5_startPageInKinds_1 : decode cX5_startPageInKinds 1 = .ok (.istore_n 1, 1) := by decide +kernel
theorem dX5_startPageInKinds_2 : decode cX5_startPageInKinds 2 = .ok (.iload_n 1, 1) := by decide +kernel
theorem dX5_startPageInKinds_3 : decode cX5_startPageInKinds 3 = .ok (.aload_n 0, 1) := by decide +kernel
theorem dX5_startPageInKinds_4 : decode cX5_startPageInKinds 4 = .ok (.getfield 51, 3) := by decide +kernel
theorem dX5_startPageInKinds_7 : decode cX5_startPageInKinds 7 = .ok (.if_icmp .ge 23, 3) := by decide +kernel
theorem dX5_startPageInKinds_10 : decode cX5_startPageInKinds 10 = .ok (.aload_n 0, 1) := by decide +kernel
theorem dX5_startPageInKinds_11 : decode cX5_startPageInKinds 11 = .ok (.iload_n 1, 1) := by decide +kernel
theorem dX5_startPageInKinds_12 : decode cX5_startPageInKinds 12 = .ok (.invokevirtual 57, 3) := by decide +kernel
theorem dX5_startPageInKinds_15 : decode cX5_startPageInKinds 15 = .ok (.astore_n 2, 1) := by decide +kernel
theorem dX5_startPageInKinds_16 : decode cX5_startPageInKinds 16 = .ok (.aload_n 2, 1) := by decide +kernel
theorem dX5_startPageInKinds_17 : decode cX5_startPageInKinds 17 = .ok (.ifnull 7, 3) := by decide +kernel
theorem dX5_startPageInKinds_20 : decode cX5_startPageInKinds 20 = .ok (.aload_n 2, 1) := by decide +kernel
theorem dX5_startPageInKinds_21 : decode cX5_startPageInKinds 21 = .ok (.invokevirtual 186, 3) := by decide +kernel
theorem dX5_startPageInKinds_24 : decode cX5_startPageInKinds 24 = .ok (.iinc 1 1, 3) := by decide +kernel
theorem dX5_startPageInKinds_27 : decode cX5_startPageInKinds 27 = .ok (.goto (-25), 3) := by decide +kernel
theorem dX5_startPageInKinds_30 : decode cX5_startPageInKinds 30 = .ok (.return_, 1) := by decide +kernel
theorem dX5_goThrough_0 : decode cX5_goThrough 0 = .ok (.aload_n 2, 1) := by decide +kernel
theorem dX5_goThrough_1 : decode cX5_goThrough 1 = .ok (.getfield 189, 3) := by decide +kernel
theorem dX5_goThrough_4 : decode cX5_goThrough 4 = .ok (.astore_n 3, 1) := by decide +kernel
theorem dX5_goThrough_5 : decode cX5_goThrough 5 = .ok (.aload_n 3, 1) := by decide +kernel
theorem dX5_goThrough_6 : decode cX5_goThrough 6 = .ok (.getfield 193, 3) := by decide +kernel
theorem dX5_goThrough_9 : decode cX5_goThrough 9 = .ok (.ifCond .eq 5, 3) := by decide +kernel
theorem dX5_goThrough_12 : decode cX5_goThrough 12 = .ok (.iconst 1, 1) := by decide +kernel
theorem dX5_goThrough_13 : decode cX5_goThrough 13 = .ok (.ireturn, 1) := by decide +kernel
theorem dX5_goThrough_14 : decode cX5_goThrough 14 = .ok (.aload_n 0, 1) := by decide +kernel
theorem dX5_goThrough_15 : decode cX5_goThrough 15 = .ok (.aload_n 1, 1) := by decide +kernel
theorem dX5_goThrough_16 : decode cX5_goThrough 16 = .ok (.aload_n 3, 1) := by decide +kernel
theorem dX5_goThrough_17 : decode cX5_goThrough 17 = .ok (.invokevirtual 196, 3) := by decide +kernel
theorem dX5_goThrough_20 : decode cX5_goThrough 20 = .ok (.istore 4, 2) := by decide +kernel
theorem dX5_goThrough_22 : decode cX5_goThrough 22 = .ok (.aload_n 2, 1) := by decide +kernel
theorem dX5_goThrough_23 : decode cX5_goThrough 23 = .ok (.getfield 102, 3) := by decide +kernel
theorem dX5_goThrough_26 : decode cX5_goThrough 26 = .ok (.iload 4, 2) := by decide +kernel
theorem dX5_goThrough_28 : decode cX5_goThrough 28 = .ok (.if_icmp .gt 16, 3) := by decide +kernel
theorem dX5_goThrough_31 : decode cX5_goThrough 31 = .ok (.aload_n 1, 1) := by decide +kernel
theorem dX5_goThrough_32 : decode cX5_goThrough 32 = .ok (.aload_n 2, 1) := by decide +kernel
theorem dX5_goThrough_33 : decode cX5_goThrough 33 = .ok (.aload_n 2, 1) := by decide +kernel
theorem dX5_goThrough_34 : decode cX5_goThrough 34 = .ok (.getfield 102, 3) := by decide +kernel
theorem dX5_goThrough_37 : decode cX5_goThrough 37 = .ok (.iconst 0, 1) := by decide +kernel
theorem dX5_goThrough_38 : decode cX5_goThrough 38 = .ok (.invokevirtual 200, 3) := by decide +kernel
theorem dX5_goThrough_41 : decode cX5_goThrough 41 = .ok (.goto 57, 3) := by decide +kernel
theorem dX5_goThrough_44 : decode cX5_goThrough 44 = .ok (.aload_n 3, 1) := by decide +kernel
theorem dX5_goThrough_45 : decode cX5_goThrough 45 = .ok (.aload_n 2, 1) := by decide +kernel
theorem dX5_goThrough_46 : decode cX5_goThrough 46 = .ok (.getfield 102, 3) := by decide +kernel
theorem dX5_goThrough_49 : decode cX5_goThrough 49 = .ok (.iload 4, 2) := by decide +kernel
theorem dX5_goThrough_51 : decode cX5_goThrough 51 = .ok (.invokevirtual 204, 3) := by decide +kernel
theorem dX5_goThrough_54 : decode cX5_goThrough 54 = .ok (.ifCond .eq 19, 3) := by decide +kernel
theorem dX5_goThrough_57 : decode cX5_goThrough 57 = .ok (.aload_n 1, 1) := by decide +kernel
theorem dX5_goThrough_58 : decode cX5_goThrough 58 = .ok (.aload_n 2, 1) := by decide +kernel
theorem dX5_goThrough_59 : decode cX5_goThrough 59 = .ok (.iload 4, 2) := by decide +kernel
theorem dX5_goThrough_61 : decode cX5_goThrough 61 = .ok (.iconst 0, 1) := by decide +kernel
theorem dX5_goThrough_62 : decode cX5_goThrough 62 = .ok (.invokevirtual 200, 3) := by decide +kernel
theorem dX5_goThrough_65 : decode cX5_goThrough 65 = .ok (.aload_n 3, 1) := by decide +kernel
theorem dX5_goThrough_66 : decode cX5_goThrough 66 = .ok (.iconst 1, 1) := by decide +kernel
theorem dX5_goThrough_67 : decode cX5_goThrough 67 = .ok (.putfield 193, 3) := by decide +kernel
theorem dX5_goThrough_70 : decode cX5_goThrough 70 = .ok (.goto 28, 3) := by decide +kernel
theorem dX5_goThrough_73 : decode cX5_goThrough 73 = .ok (.aload_n 1, 1) := by decide +kernel
theorem dX5_goThrough_74 : decode cX5_goThrough 74 = .ok (.getfield 150, 3) := by decide +kernel
theorem dX5_goThrough_77 : decode cX5_goThrough 77 = .ok (.ifCond .ne 16, 3) := by decide +kernel
theorem dX5_goThrough_80 : decode cX5_goThrough 80 = .ok (.aload_n 1, 1) := by decide +kernel
theorem dX5_goThrough_81 : decode cX5_goThrough 81 = .ok (.aload_n 2, 1) := by decide +kernel
theorem dX5_goThrough_82 : decode cX5_goThrough 82 = .ok (.aload_n 2, 1) := by decide +kernel
theorem dX5_goThrough_83 : decode cX5_goThrough 83 = .ok (.getfield 102, 3) := by decide +kernel
theorem dX5_goThrough_86 : decode cX5_goThrough 86 = .ok (.iconst 1, 1) := by decide +kernel
theorem dX5_goThrough_87 : decode cX5_goThrough 87 = .ok (.invokevirtual 200, 3) := by decide +kernel
theorem dX5_goThrough_90 : decode cX5_goThrough 90 = .ok (.goto 8, 3) := by decide +kernel
theorem dX5_goThrough_93 : decode cX5_goThrough 93 = .ok (.aload_n 3, 1) := by decide +kernel
theorem dX5_goThrough_94 : decode cX5_goThrough 94 = .ok (.iconst 1, 1) := by decide +kernel
theorem dX5_goThrough_95 : decode cX5_goThrough 95 = .ok (.putfield 193, 3) := by decide +kernel
theorem dX5_goThrough_98 : decode cX5_goThrough 98 = .ok (.aload_n 3, 1) := by decide +kernel
theorem dX5_goThrough_99 : decode cX5_goThrough 99 = .ok (.getfield 193, 3) := by decide +kernel
theorem dX5_goThrough_102 : decode cX5_goThrough 102 = .ok (.ireturn, 1) := by decide +kernel
theorem dX5_freeOn_0 : decode cX5_freeOn 0 = .ok (.aload_n 2, 1) := by decide +kernel
theorem dX5_freeOn_1 : decode cX5_freeOn 1 = .ok (.getfield 208, 3) := by decide +kernel
theorem dX5_freeOn_4 : decode cX5_freeOn 4 = .ok (.aload_n 2, 1) := by decide +kernel
theorem dX5_freeOn_5 : decode cX5_freeOn 5 = .ok (.getfield 146, 3) := by decide +kernel
theorem dX5_freeOn_8 : decode cX5_freeOn 8 = .ok (.aload_n 1, 1) := by decide +kernel
theorem dX5_freeOn_9 : decode cX5_freeOn 9 = .ok (.getfield 211, 3) := by decide +kernel
theorem dX5_freeOn_12 : decode cX5_freeOn 12 = .ok (.iaload, 1) := by decide +kernel
theorem dX5_freeOn_13 : decode cX5_freeOn 13 = .ok (.isub, 1) := by decide +kernel
theorem dX5_freeOn_14 : decode cX5_freeOn 14 = .ok (.istore_n 3, 1) := by decide +kernel
theorem dX5_freeOn_15 : decode cX5_freeOn 15 = .ok (.aload_n 0, 1) := by decide +kernel
theorem dX5_freeOn_16 : decode cX5_freeOn 16 = .ok (.getfield 43, 3) := by decide +kernel
theorem dX5_freeOn_19 : decode cX5_freeOn 19 = .ok (.aload_n 1, 1) := by decide +kernel
theorem dX5_freeOn_20 : decode cX5_freeOn 20 = .ok (.getfield 150, 3) := by decide +kernel
theorem dX5_freeOn_23 : decode cX5_freeOn 23 = .ok (.isub, 1) := by decide +kernel
theorem dX5_freeOn_24 : decode cX5_freeOn 24 = .ok (.istore 4, 2) := by decide +kernel
theorem dX5_freeOn_26 : decode cX5_freeOn 26 = .ok (.iconst 0, 1) := by decide +kernel
theorem dX5_freeOn_27 : decode cX5_freeOn 27 = .ok (.iload_n 3, 1) := by decide +kernel
theorem dX5_freeOn_28 : decode cX5_freeOn 28 = .ok (.iload 4, 2) := by decide +kernel
theorem dX5_freeOn_30 : decode cX5_freeOn 30 = .ok (.invokestatic 34, 3) := by decide +kernel
theorem dX5_freeOn_33 : decode cX5_freeOn 33 = .ok (.invokestatic 40, 3) := by decide +kernel
theorem dX5_freeOn_36 : decode cX5_freeOn 36 = .ok (.ireturn, 1) := by decide +kernel
theorem dX0_init_0 : decode cX0_init 0 = .ok (.aload_n 0, 1) := by decide +kernel
theorem dX0_init_1 : decode cX0_init 1 = .ok (.invokespecial 3, 3) := by decide +kernel
theorem dX0_init_4 : decode cX0_init 4 = .ok (.aload_n 0, 1) := by decide +kernel
theorem dX0_init_5 : decode cX0_init 5 = .ok (.iconst (-1), 1) := by decide +kernel
theorem dX0_init_6 : decode cX0_init 6 = .ok (.putfield 9, 3) := by decide +kernel
theorem dX0_init_9 : decode cX0_init 9 = .ok (.aload_n 0, 1) := by decide +kernel
theorem dX0_init_10 : decode cX0_init 10 = .ok (.iconst (-1), 1) := by decide +kernel
theorem dX0_init_11 : decode cX0_init 11 = .ok (.putfield 15, 3) := by decide +kernel
theorem dX0_init_14 : decode cX0_init 14 = .ok (.aload_n 0, 1) := by decide +kernel
theorem dX0_init_15 : decode cX0_init 15 = .ok (.iconst (-1), 1) := by decide +kernel
theorem dX0_init_16 : decode cX0_init 16 = .ok (.putfield 18, 3) := by decide +kernel
theorem dX0_init_19 : decode cX0_init 19 = .ok (.aload_n 0, 1) := by decide +kernel
theorem dX0_init_20 : decode cX0_init 20 = .ok (.iload_n 1, 1) := by decide +kernel
theorem dX0_init_21 : decode cX0_init 21 = .ok (.putfield 21, 3) := by decide +kernel
theorem dX0_init_24 : decode cX0_init 24 = .ok (.aload_n 0, 1) := by decide +kernel
theorem dX0_init_25 : decode cX0_init 25 = .ok (.aload_n 2, 1) := by decide +kernel
theorem dX0_init_26 : decode cX0_init 26 = .ok (.putfield 24, 3) := by decide +kernel
theorem dX0_init_29 : decode cX0_init 29 = .ok (.aload_n 0, 1) := by decide +kernel
theorem dX0_init_30 : decode cX0_init 30 = .ok (.iload 4, 2) := by decide +kernel
theorem dX0_init_32 : decode cX0_init 32 = .ok (.putfield 28, 3) := by decide +kernel
theorem dX0_init_35 : decode cX0_init 35 = .ok (.aload_n 0, 1) := by decide +kernel
theorem dX0_init_36 : decode cX0_init 36 = .ok (.iload_n 3, 1) := by decide +kernel
theorem dX0_init_37 : decode cX0_init 37 = .ok (.putfield 31, 3) := by decide +kernel
theorem dX0_init_40 : decode cX0_init 40 = .ok (.return_, 1) := by decide +kernel
theorem dX0_isTakenBack_0 : decode cX0_isTakenBack 0 = .ok (.aload_n 0, 1) := by decide +kernel
theorem dX0_isTakenBack_1 : decode cX0_isTakenBack 1 = .ok (.getfield 31, 3) := by decide +kernel
theorem dX0_isTakenBack_4 : decode cX0_isTakenBack 4 = .ok (.ifCond .ne 14, 3) := by decide +kernel
theorem dX0_isTakenBack_7 : decode cX0_isTakenBack 7 = .ok (.aload_n 0, 1) := by decide +kernel
theorem dX0_isTakenBack_8 : decode cX0_isTakenBack 8 = .ok (.getfield 34, 3) := by decide +kernel
theorem dX0_isTakenBack_11 : decode cX0_isTakenBack 11 = .ok (.ifCond .ne 7, 3) := by decide +kernel
theorem dX0_isTakenBack_14 : decode cX0_isTakenBack 14 = .ok (.iconst 1, 1) := by decide +kernel
theorem dX0_isTakenBack_15 : decode cX0_isTakenBack 15 = .ok (.goto 4, 3) := by decide +kernel
theorem dX0_isTakenBack_18 : decode cX0_isTakenBack 18 = .ok (.iconst 0, 1) := by decide +kernel
theorem dX0_isTakenBack_19 : decode cX0_isTakenBack 19 = .ok (.ireturn, 1) := by decide +kernel
theorem dX0_addPart_0 : decode cX0_addPart 0 = .ok (.aload_n 0, 1) := by decide +kernel
theorem dX0_addPart_1 : decode cX0_addPart 1 = .ok (.getfield 34, 3) := by decide +kernel
theorem dX0_addPart_4 : decode cX0_addPart 4 = .ok (.ifCond .ne 19, 3) := by decide +kernel
theorem dX0_addPart_7 : decode cX0_addPart 7 = .ok (.aload_n 0, 1) := by decide +kernel
theorem dX0_addPart_8 : decode cX0_addPart 8 = .ok (.iload_n 1, 1) := by decide +kernel
theorem dX0_addPart_9 : decode cX0_addPart 9 = .ok (.putfield 15, 3) := by decide +kernel
theorem dX0_addPart_12 : decode cX0_addPart 12 = .ok (.aload_n 0, 1) := by decide +kernel
theorem dX0_addPart_13 : decode cX0_addPart 13 = .ok (.aload_n 0, 1) := by decide +kernel
theorem dX0_addPart_14 : decode cX0_addPart 14 = .ok (.getfield 24, 3) := by decide +kernel
theorem dX0_addPart_17 : decode cX0_addPart 17 = .ok (.invokevirtual 37, 3) := by decide +kernel
theorem dX0_addPart_20 : decode cX0_addPart 20 = .ok (.putfield 9, 3) := by decide +kernel
theorem dX0_addPart_23 : decode cX0_addPart 23 = .ok (.aload_n 0, 1) := by decide +kernel
theorem dX0_addPart_24 : decode cX0_addPart 24 = .ok (.iload_n 1, 1) := by decide +kernel
theorem dX0_addPart_25 : decode cX0_addPart 25 = .ok (.putfield 18, 3) := by decide +kernel
theorem dX0_addPart_28 : decode cX0_addPart 28 = .ok (.aload_n 0, 1) := by decide +kernel
theorem dX0_addPart_29 : decode cX0_addPart 29 = .ok (.dup, 1) := by decide +kernel
theorem dX0_addPart_30 : decode cX0_addPart 30 = .ok (.getfield 34, 3) := by decide +kernel
theorem dX0_addPart_33 : decode cX0_addPart 33 = .ok (.iconst 1, 1) := by decide +kernel
theorem dX0_addPart_34 : decode cX0_addPart 34 = .ok (.iadd, 1) := by decide +kernel
theorem dX0_addPart_35 : decode cX0_addPart 35 = .ok (.putfield 34, 3) := by decide +kernel
theorem dX0_addPart_38 : decode cX0_addPart 38 = .ok (.aload_n 0, 1) := by decide +kernel
theorem dX0_addPart_39 : decode cX0_addPart 39 = .ok (.dup, 1) := by decide +kernel
theorem dX0_addPart_40 : decode cX0_addPart 40 = .ok (.getfield 31, 3) := by decide +kernel
theorem dX0_addPart_43 : decode cX0_addPart 43 = .ok (.iload_n 2, 1) := by decide +kernel
theorem dX0_addPart_44 : decode cX0_addPart 44 = .ok (.isub, 1) := by decide +kernel
theorem dX0_addPart_45 : decode cX0_addPart 45 = .ok (.putfield 31, 3) := by decide +kernel
theorem dX0_addPart_48 : decode cX0_addPart 48 = .ok (.return_, 1) := by decide +kernel
theorem dX1_init_0 : decode cX1_init 0 = .ok (.aload_n 0, 1) := by decide +kernel
theorem dX1_init_1 : decode cX1_init 1 = .ok (.invokespecial 3, 3) := by decide +kernel
theorem dX1_init_4 : decode cX1_init 4 = .ok (.aload_n 0, 1) := by decide +kernel
theorem dX1_init_5 : decode cX1_init 5 = .ok (.bipush 40, 2) := by decide +kernel
theorem dX1_init_7 : decode cX1_init 7 = .ok (.newarray .int, 2) := by decide +kernel
theorem dX1_init_9 : decode cX1_init 9 = .ok (.putfield 9, 3) := by decide +kernel
theorem dX1_init_12 : decode cX1_init 12 = .ok (.aload_n 0, 1) := by decide +kernel
theorem dX1_init_13 : decode cX1_init 13 = .ok (.bipush 40, 2) := by decide +kernel
theorem dX1_init_15 : decode cX1_init 15 = .ok (.newarray .boolean, 2) := by decide +kernel
theorem dX1_init_17 : decode cX1_init 17 = .ok (.putfield 15, 3) := by decide +kernel
theorem dX1_init_20 : decode cX1_init 20 = .ok (.aload_n 0, 1) := by decide +kernel
theorem dX1_init_21 : decode cX1_init 21 = .ok (.bipush 40, 2) := by decide +kernel
theorem dX1_init_23 : decode cX1_init 23 = .ok (.newarray .int, 2) := by decide +kernel
theorem dX1_init_25 : decode cX1_init 25 = .ok (.putfield 19, 3) := by decide +kernel
theorem dX1_init_28 : decode cX1_init 28 = .ok (.aload_n 0, 1) := by decide +kernel
theorem dX1_init_29 : decode cX1_init 29 = .ok (.bipush 40, 2) := by decide +kernel
theorem dX1_init_31 : decode cX1_init 31 = .ok (.newarray .int, 2) := by decide +kernel
theorem dX1_init_33 : decode cX1_init 33 = .ok (.putfield 22, 3) := by decide +kernel
theorem dX1_init_36 : decode cX1_init 36 = .ok (.aload_n 0, 1) := by decide +kernel
theorem dX1_init_37 : decode cX1_init 37 = .ok (.iload_n 1, 1) := by decide +kernel
theorem dX1_init_38 : decode cX1_init 38 = .ok (.putfield 25, 3) := by decide +kernel
theorem dX1_init_41 : decode cX1_init 41 = .ok (.aload_n 0, 1) := by decide +kernel
theorem dX1_init_42 : decode cX1_init 42 = .ok (.iload_n 2, 1) := by decide +kernel
theorem dX1_init_43 : decode cX1_init 43 = .ok (.putfield 29, 3) := by decide +kernel
theorem dX1_init_46 : decode cX1_init 46 = .ok (.aload_n 0, 1) := by decide +kernel
theorem dX1_init_47 : decode cX1_init 47 = .ok (.iload_n 3, 1) := by decide +kernel
theorem dX1_init_48 : decode cX1_init 48 = .ok (.putfield 32, 3) := by decide +kernel
theorem dX1_init_51 : decode cX1_init 51 = .ok (.return_, 1) := by decide +kernel
theorem dX1_startPage_0 : decode cX1_startPage 0 = .ok (.aload_n 0, 1) := by decide +kernel
theorem dX1_startPage_1 : decode cX1_startPage 1 = .ok (.iconst 0, 1) := by decide +kernel
theorem dX1_startPage_2 : decode cX1_startPage 2 = .ok (.putfield 36, 3) := by decide +kernel
theorem dX1_startPage_5 : decode cX1_startPage 5 = .ok (.aload_n 0, 1) := by decide +kernel
theorem dX1_startPage_6 : decode cX1_startPage 6 = .ok (.getfield 32, 3) := by decide +kernel
theorem dX1_startPage_9 : decode cX1_startPage 9 = .ok (.ifCond .eq 8, 3) := by decide +kernel
theorem dX1_startPage_12 : decode cX1_startPage 12 = .ok (.aload_n 0, 1) := by decide +kernel
theorem dX1_startPage_13 : decode cX1_startPage 13 = .ok (.iconst 0, 1) := by decide +kernel
theorem dX1_startPage_14 : decode cX1_startPage 14 = .ok (.putfield 39, 3) := by decide +kernel
theorem dX1_startPage_17 : decode cX1_startPage 17 = .ok (.return_, 1) := by decide +kernel
theorem dX1_mayCut_0 : decode cX1_mayCut 0 = .ok (.aload_n 0, 1) := by decide +kernel
theorem dX1_mayCut_1 : decode cX1_mayCut 1 = .ok (.getfield 29, 3) := by decide +kernel
theorem dX1_mayCut_4 : decode cX1_mayCut 4 = .ok (.ifCond .le 25, 3) := by decide +kernel
theorem dX1_mayCut_7 : decode cX1_mayCut 7 = .ok (.iload_n 2, 1) := by decide +kernel
theorem dX1_mayCut_8 : decode cX1_mayCut 8 = .ok (.aload_n 0, 1) := by decide +kernel
theorem dX1_mayCut_9 : decode cX1_mayCut 9 = .ok (.getfield 29, 3) := by decide +kernel
theorem dX1_mayCut_12 : decode cX1_mayCut 12 = .ok (.if_icmp .lt 17, 3) := by decide +kernel
theorem dX1_mayCut_15 : decode cX1_mayCut 15 = .ok (.iload_n 1, 1) := by decide +kernel
theorem dX1_mayCut_16 : decode cX1_mayCut 16 = .ok (.iload_n 2, 1) := by decide +kernel
theorem dX1_mayCut_17 : decode cX1_mayCut 17 = .ok (.isub, 1) := by decide +kernel
theorem dX1_mayCut_18 : decode cX1_mayCut 18 = .ok (.aload_n 0, 1) := by decide +kernel
theorem dX1_mayCut_19 : decode cX1_mayCut 19 = .ok (.getfield 29, 3) := by decide +kernel
theorem dX1_mayCut_22 : decode cX1_mayCut 22 = .ok (.if_icmp .lt 7, 3) := by decide +kernel
theorem dX1_mayCut_25 : decode cX1_mayCut 25 = .ok (.iconst 1, 1) := by decide +kernel
theorem dX1_mayCut_26 : decode cX1_mayCut 26 = .ok (.goto 4, 3) := by decide +kernel
theorem dX1_mayCut_29 : decode cX1_mayCut 29 = .ok (.iconst 0, 1) := by decide +kernel
theorem dX1_mayCut_30 : decode cX1_mayCut 30 = .ok (.ireturn, 1) := by decide +kernel
theorem dX1_nextNumber_0 : decode cX1_nextNumber 0 = .ok (.aload_n 0, 1) := by decide +kernel
theorem dX1_nextNumber_1 : decode cX1_nextNumber 1 = .ok (.dup, 1) := by decide +kernel
theorem dX1_nextNumber_2 : decode cX1_nextNumber 2 = .ok (.getfield 39, 3) := by decide +kernel
theorem dX1_nextNumber_5 : decode cX1_nextNumber 5 = .ok (.iconst 1, 1) := by decide +kernel
theorem dX1_nextNumber_6 : decode cX1_nextNumber 6 = .ok (.iadd, 1) := by decide +kernel
theorem dX1_nextNumber_7 : decode cX1_nextNumber 7 = .ok (.putfield 39, 3) := by decide +kernel
theorem dX1_nextNumber_10 : decode cX1_nextNumber 10 = .ok (.aload_n 0, 1) := by decide +kernel
theorem dX1_nextNumber_11 : decode cX1_nextNumber 11 = .ok (.getfield 39, 3) := by decide +kernel
theorem dX1_nextNumber_14 : decode cX1_nextNumber 14 = .ok (.ireturn, 1) := by decide +kernel
theorem dX1_addMark_0 : decode cX1_addMark 0 = .ok (.aload_n 0, 1) := by decide +kernel
theorem dX1_addMark_1 : decode cX1_addMark 1 = .ok (.getfield 15, 3) := by decide +kernel
theorem dX1_addMark_4 : decode cX1_addMark 4 = .ok (.iload_n 1, 1) := by decide +kernel
theorem dX1_addMark_5 : decode cX1_addMark 5 = .ok (.baload, 1) := by decide +kernel
theorem dX1_addMark_6 : decode cX1_addMark 6 = .ok (.ifCond .ne 17, 3) := by decide +kernel
theorem dX1_addMark_9 : decode cX1_addMark 9 = .ok (.aload_n 0, 1) := by decide +kernel
theorem dX1_addMark_10 : decode cX1_addMark 10 = .ok (.getfield 15, 3) := by decide +kernel
theorem dX1_addMark_13 : decode cX1_addMark 13 = .ok (.iload_n 1, 1) := by decide +kernel
theorem dX1_addMark_14 : decode cX1_addMark 14 = .ok (.iconst 1, 1) := by decide +kernel
theorem dX1_addMark_15 : decode cX1_addMark 15 = .ok (.bastore, 1) := by decide +kernel
theorem dX1_addMark_16 : decode cX1_addMark 16 = .ok (.aload_n 0, 1) := by decide +kernel
theorem dX1_addMark_17 : decode cX1_addMark 17 = .ok (.getfield 19, 3) := by decide +kernel
theorem dX1_addMark_20 : decode cX1_addMark 20 = .ok (.iload_n 1, 1) := by decide +kernel
theorem dX1_addMark_21 : decode cX1_addMark 21 = .ok (.iload_n 2, 1) := by decide +kernel
theorem dX1_addMark_22 : decode cX1_addMark 22 = .ok (.iastore, 1) := by decide +kernel
theorem dX1_addMark_23 : decode cX1_addMark 23 = .ok (.aload_n 0, 1) := by decide +kernel
theorem dX1_addMark_24 : decode cX1_addMark 24 = .ok (.getfield 22, 3) := by decide +kernel
theorem dX1_addMark_27 : decode cX1_addMark 27 = .ok (.iload_n 1, 1) := by decide +kernel
theorem dX1_addMark_28 : decode cX1_addMark 28 = .ok (.iload_n 2, 1) := by decide +kernel
theorem dX1_addMark_29 : decode cX1_addMark 29 = .ok (.iastore, 1) := by decide +kernel
theorem dX1_addMark_30 : decode cX1_addMark 30 = .ok (.return_, 1) := by decide +kernel
theorem dX1_topMark_0 : decode cX1_topMark 0 = .ok (.iload_n 1, 1) := by decide +kernel
theorem dX1_topMark_1 : decode cX1_topMark 1 = .ok (.iconst 1, 1) := by decide +kernel
theorem dX1_topMark_2 : decode cX1_topMark 2 = .ok (.isub, 1) := by decide +kernel
theorem dX1_topMark_3 : decode cX1_topMark 3 = .ok (.istore_n 2, 1) := by decide +kernel
theorem dX1_topMark_4 : decode cX1_topMark 4 = .ok (.iload_n 2, 1) := by decide +kernel
theorem dX1_topMark_5 : decode cX1_topMark 5 = .ok (.ifCond .lt 25, 3) := by decide +kernel
theorem dX1_topMark_8 : decode cX1_topMark 8 = .ok (.aload_n 0, 1) := by decide +kernel
theorem dX1_topMark_9 : decode cX1_topMark 9 = .ok (.getfield 15, 3) := by decide +kernel
theorem dX1_topMark_12 : decode cX1_topMark 12 = .ok (.iload_n 2, 1) := by decide +kernel
theorem dX1_topMark_13 : decode cX1_topMark 13 = .ok (.baload, 1) := by decide +kernel
theorem dX1_topMark_14 : decode cX1_topMark 14 = .ok (.ifCond .eq 10, 3) := by decide +kernel
theorem dX1_topMark_17 : decode cX1_topMark 17 = .ok (.aload_n 0, 1) := by decide +kernel
theorem dX1_topMark_18 : decode cX1_topMark 18 = .ok (.getfield 22, 3) := by decide +kernel
theorem dX1_topMark_21 : decode cX1_topMark 21 = .ok (.iload_n 2, 1) := by decide +kernel
theorem dX1_topMark_22 : decode cX1_topMark 22 = .ok (.iaload, 1) := by decide +kernel
theorem dX1_topMark_23 : decode cX1_topMark 23 = .ok (.ireturn, 1) := by decide +kernel
theorem dX1_topMark_24 : decode cX1_topMark 24 = .ok (.iinc 2 (-1), 3) := by decide +kernel
theorem dX1_topMark_27 : decode cX1_topMark 27 = .ok (.goto (-23), 3) := by decide +kernel
theorem dX1_topMark_30 : decode cX1_topMark 30 = .ok (.iconst 0, 1) := by decide +kernel
theorem dX1_topMark_31 : decode cX1_topMark 31 = .ok (.ireturn, 1) := by decide +kernel
theorem dX1_firstMark_0 : decode cX1_firstMark 0 = .ok (.aload_n 0, 1) := by decide +kernel
theorem dX1_firstMark_1 : decode cX1_firstMark 1 = .ok (.getfield 15, 3) := by decide +kernel
theorem dX1_firstMark_4 : decode cX1_firstMark 4 = .ok (.iload_n 1, 1) := by decide +kernel
theorem dX1_firstMark_5 : decode cX1_firstMark 5 = .ok (.baload, 1) := by decide +kernel
theorem dX1_firstMark_6 : decode cX1_firstMark 6 = .ok (.ifCond .eq 12, 3) := by decide +kernel
theorem dX1_firstMark_9 : decode cX1_firstMark 9 = .ok (.aload_n 0, 1) := by decide +kernel
theorem dX1_firstMark_10 : decode cX1_firstMark 10 = .ok (.getfield 19, 3) := by decide +kernel
theorem dX1_firstMark_13 : decode cX1_firstMark 13 = .ok (.iload_n 1, 1) := by decide +kernel
theorem dX1_firstMark_14 : decode cX1_firstMark 14 = .ok (.iaload, 1) := by decide +kernel
theorem dX1_firstMark_15 : decode cX1_firstMark 15 = .ok (.goto 8, 3) := by decide +kernel
theorem dX1_firstMark_18 : decode cX1_firstMark 18 = .ok (.aload_n 0, 1) := by decide +kernel
theorem dX1_firstMark_19 : decode cX1_firstMark 19 = .ok (.iload_n 1, 1) := by decide +kernel
theorem dX1_firstMark_20 : decode cX1_firstMark 20 = .ok (.invokevirtual 42, 3) := by decide +kernel
theorem dX1_firstMark_23 : decode cX1_firstMark 23 = .ok (.ireturn, 1) := by decide +kernel
theorem dX1_lastMark_0 : decode cX1_lastMark 0 = .ok (.aload_n 0, 1) := by decide +kernel
theorem dX1_lastMark_1 : decode cX1_lastMark 1 = .ok (.getfield 15, 3) := by decide +kernel
theorem dX1_lastMark_4 : decode cX1_lastMark 4 = .ok (.iload_n 1, 1) := by decide +kernel
theorem dX1_lastMark_5 : decode cX1_lastMark 5 = .ok (.baload, 1) := by decide +kernel
theorem dX1_lastMark_6 : decode cX1_lastMark 6 = .ok (.ifCond .eq 12, 3) := by decide +kernel
theorem dX1_lastMark_9 : decode cX1_lastMark 9 = .ok (.aload_n 0, 1) := by decide +kernel
theorem dX1_lastMark_10 : decode cX1_lastMark 10 = .ok (.getfield 22, 3) := by decide +kernel
theorem dX1_lastMark_13 : decode cX1_lastMark 13 = .ok (.iload_n 1, 1) := by decide +kernel
theorem dX1_lastMark_14 : decode cX1_lastMark 14 = .ok (.iaload, 1) := by decide +kernel
theorem dX1_lastMark_15 : decode cX1_lastMark 15 = .ok (.goto 8, 3) := by decide +kernel
theorem dX1_lastMark_18 : decode cX1_lastMark 18 = .ok (.aload_n 0, 1) := by decide +kernel
theorem dX1_lastMark_19 : decode cX1_lastMark 19 = .ok (.iload_n 1, 1) := by decide +kernel
theorem dX1_lastMark_20 : decode cX1_lastMark 20 = .ok (.invokevirtual 42, 3) := by decide +kernel
theorem dX1_lastMark_23 : decode cX1_lastMark 23 = .ok (.ireturn, 1) := by decide +kernel
theorem dX2_init_0 : decode cX2_init 0 = .ok (.aload_n 0, 1) := by decide +kernel
theorem dX2_init_1 : decode cX2_init 1 = .ok (.invokespecial 3, 3) := by decide +kernel
theorem dX2_init_4 : decode cX2_init 4 = .ok (.aload_n 0, 1) := by decide +kernel
theorem dX2_init_5 : decode cX2_init 5 = .ok (.sipush 200, 3) := by decide +kernel
theorem dX2_init_8 : decode cX2_init 8 = .ok (.newarray .int, 2) := by decide +kernel
theorem dX2_init_10 : decode cX2_init 10 = .ok (.putfield 9, 3) := by decide +kernel
theorem dX2_init_13 : decode cX2_init 13 = .ok (.return_, 1) := by decide +kernel
theorem dX2_append_0 : decode cX2_append 0 = .ok (.aload_n 0, 1) := by decide +kernel
theorem dX2_append_1 : decode cX2_append 1 = .ok (.getfield 15, 3) := by decide +kernel
theorem dX2_append_4 : decode cX2_append 4 = .ok (.aload_n 0, 1) := by decide +kernel
theorem dX2_append_5 : decode cX2_append 5 = .ok (.getfield 9, 3) := by decide +kernel
theorem dX2_append_8 : decode cX2_append 8 = .ok (.arraylength, 1) := by decide +kernel
theorem dX2_append_9 : decode cX2_append 9 = .ok (.if_icmp .ge 23, 3) := by decide +kernel
theorem dX2_append_12 : decode cX2_append 12 = .ok (.aload_n 0, 1) := by decide +kernel
theorem dX2_append_13 : decode cX2_append 13 = .ok (.getfield 9, 3) := by decide +kernel
theorem dX2_append_16 : decode cX2_append 16 = .ok (.aload_n 0, 1) := by decide +kernel
theorem dX2_append_17 : decode cX2_append 17 = .ok (.getfield 15, 3) := by decide +kernel
theorem dX2_append_20 : decode cX2_append 20 = .ok (.iload_n 1, 1) := by decide +kernel
theorem dX2_append_21 : decode cX2_append 21 = .ok (.iastore, 1) := by decide +kernel
theorem dX2_append_22 : decode cX2_append 22 = .ok (.aload_n 0, 1) := by decide +kernel
theorem dX2_append_23 : decode cX2_append 23 = .ok (.dup, 1) := by decide +kernel
theorem dX2_append_24 : decode cX2_append 24 = .ok (.getfield 15, 3) := by decide +kernel
theorem dX2_append_27 : decode cX2_append 27 = .ok (.iconst 1, 1) := by decide +kernel
theorem dX2_append_28 : decode cX2_append 28 = .ok (.iadd, 1) := by decide +kernel
theorem dX2_append_29 : decode cX2_append 29 = .ok (.putfield 15, 3) := by decide +kernel
theorem dX2_append_32 : decode cX2_append 32 = .ok (.return_, 1) := by decide +kernel
theorem dX2_indexAt_0 : decode cX2_indexAt 0 = .ok (.iload_n 1, 1) := by decide +kernel
theorem dX2_indexAt_1 : decode cX2_indexAt 1 = .ok (.iconst 0, 1) := by decide +kernel
theorem dX2_indexAt_2 : decode cX2_indexAt 2 = .ok (.aload_n 0, 1) := by decide +kernel
theorem dX2_indexAt_3 : decode cX2_indexAt 3 = .ok (.getfield 15, 3) := by decide +kernel
theorem dX2_indexAt_6 : decode cX2_indexAt 6 = .ok (.iconst 1, 1) := by decide +kernel
theorem dX2_indexAt_7 : decode cX2_indexAt 7 = .ok (.isub, 1) := by decide +kernel
theorem dX2_indexAt_8 : decode cX2_indexAt 8 = .ok (.invokestatic 19, 3) := by decide +kernel
theorem dX2_indexAt_11 : decode cX2_indexAt 11 = .ok (.ifCond .eq 12, 3) := by decide +kernel
theorem dX2_indexAt_14 : decode cX2_indexAt 14 = .ok (.aload_n 0, 1) := by decide +kernel
theorem dX2_indexAt_15 : decode cX2_indexAt 15 = .ok (.getfield 9, 3) := by decide +kernel
theorem dX2_indexAt_18 : decode cX2_indexAt 18 = .ok (.iload_n 1, 1) := by decide +kernel
theorem dX2_indexAt_19 : decode cX2_indexAt 19 = .ok (.iaload, 1) := by decide +kernel
theorem dX2_indexAt_20 : decode cX2_indexAt 20 = .ok (.goto 4, 3) := by decide +kernel
theorem dX2_indexAt_23 : decode cX2_indexAt 23 = .ok (.iconst (-1), 1) := by decide +kernel
theorem dX2_indexAt_24 : decode cX2_indexAt 24 = .ok (.ireturn, 1) := by decide +kernel
theorem dX2_takeOut_0 : decode cX2_takeOut 0 = .ok (.iconst 0, 1) := by decide +kernel
theorem dX2_takeOut_1 : decode cX2_takeOut 1 = .ok (.istore_n 2, 1) := by decide +kernel
theorem dX2_takeOut_2 : decode cX2_takeOut 2 = .ok (.iconst 0, 1) := by decide +kernel
theorem dX2_takeOut_3 : decode cX2_takeOut 3 = .ok (.istore_n 3, 1) := by decide +kernel
theorem dX2_takeOut_4 : decode cX2_takeOut 4 = .ok (.iload_n 3, 1) := by decide +kernel
theorem dX2_takeOut_5 : decode cX2_takeOut 5 = .ok (.aload_n 0, 1) := by decide +kernel
theorem dX2_takeOut_6 : decode cX2_takeOut 6 = .ok (.getfield 15, 3) := by decide +kernel
theorem dX2_takeOut_9 : decode cX2_takeOut 9 = .ok (.if_icmp .ge 34, 3) := by decide +kernel
theorem dX2_takeOut_12 : decode cX2_takeOut 12 = .ok (.aload_n 0, 1) := by decide +kernel
theorem dX2_takeOut_13 : decode cX2_takeOut 13 = .ok (.getfield 9, 3) := by decide +kernel
theorem dX2_takeOut_16 : decode cX2_takeOut 16 = .ok (.iload_n 3, 1) := by decide +kernel
theorem dX2_takeOut_17 : decode cX2_takeOut 17 = .ok (.iaload, 1) := by decide +kernel
theorem dX2_takeOut_18 : decode cX2_takeOut 18 = .ok (.iload_n 1, 1) := by decide +kernel
theorem dX2_takeOut_19 : decode cX2_takeOut 19 = .ok (.if_icmp .eq 18, 3) := by decide +kernel
theorem dX2_takeOut_22 : decode cX2_takeOut 22 = .ok (.aload_n 0, 1) := by decide +kernel
theorem dX2_takeOut_23 : decode cX2_takeOut 23 = .ok (.getfield 9, 3) := by decide +kernel
theorem dX2_takeOut_26 : decode cX2_takeOut 26 = .ok (.iload_n 2, 1) := by decide +kernel
theorem dX2_takeOut_27 : decode cX2_takeOut 27 = .ok (.aload_n 0, 1) := by decide +kernel
theorem dX2_takeOut_28 : decode cX2_takeOut 28 = .ok (.getfield 9, 3) := by decide +kernel
theorem dX2_takeOut_31 : decode cX2_takeOut 31 = .ok (.iload_n 3, 1) := by decide +kernel
theorem dX2_takeOut_32 : decode cX2_takeOut 32 = .ok (.iaload, 1) := by decide +kernel
theorem dX2_takeOut_33 : decode cX2_takeOut 33 = .ok (.iastore, 1) := by decide +kernel
theorem dX2_takeOut_34 : decode cX2_takeOut 34 = .ok (.iinc 2 1, 3) := by decide +kernel
theorem dX2_takeOut_37 : decode cX2_takeOut 37 = .ok (.iinc 3 1, 3) := by decide +kernel
theorem dX2_takeOut_40 : decode cX2_takeOut 40 = .ok (.goto (-36), 3) := by decide +kernel
theorem dX2_takeOut_43 : decode cX2_takeOut 43 = .ok (.aload_n 0, 1) := by decide +kernel
theorem dX2_takeOut_44 : decode cX2_takeOut 44 = .ok (.iload_n 2, 1) := by decide +kernel
theorem dX2_takeOut_45 : decode cX2_takeOut 45 = .ok (.putfield 15, 3) := by decide +kernel
theorem dX2_takeOut_48 : decode cX2_takeOut 48 = .ok (.return_, 1) := by decide +kernel
theorem dX3_init_0 : decode cX3_init 0 = .ok (.aload_n 0, 1) := by decide +kernel
theorem dX3_init_1 : decode cX3_init 1 = .ok (.invokespecial 1, 3) := by decide +kernel
theorem dX3_init_4 : decode cX3_init 4 = .ok (.aload_n 0, 1) := by decide +kernel
theorem dX3_init_5 : decode cX3_init 5 = .ok (.iload_n 1, 1) := by decide +kernel
theorem dX3_init_6 : decode cX3_init 6 = .ok (.putfield 7, 3) := by decide +kernel
theorem dX3_init_9 : decode cX3_init 9 = .ok (.aload_n 0, 1) := by decide +kernel
theorem dX3_init_10 : decode cX3_init 10 = .ok (.iconst 0, 1) := by decide +kernel
theorem dX3_init_11 : decode cX3_init 11 = .ok (.iload_n 2, 1) := by decide +kernel
theorem dX3_init_12 : decode cX3_init 12 = .ok (.invokestatic 13, 3) := by decide +kernel
theorem dX3_init_15 : decode cX3_init 15 = .ok (.anewarray 19, 3) := by decide +kernel
theorem dX3_init_18 : decode cX3_init 18 = .ok (.putfield 21, 3) := by decide +kernel
theorem dX3_init_21 : decode cX3_init 21 = .ok (.return_, 1) := by decide +kernel
theorem dX3_place_0 : decode cX3_place 0 = .ok (.aload_n 0, 1) := by decide +kernel
theorem dX3_place_1 : decode cX3_place 1 = .ok (.getfield 25, 3) := by decide +kernel
theorem dX3_place_4 : decode cX3_place 4 = .ok (.aload_n 0, 1) := by decide +kernel
theorem dX3_place_5 : decode cX3_place 5 = .ok (.getfield 21, 3) := by decide +kernel
theorem dX3_place_8 : decode cX3_place 8 = .ok (.arraylength, 1) := by decide +kernel
theorem dX3_place_9 : decode cX3_place 9 = .ok (.if_icmp .lt 4, 3) := by decide +kernel
theorem dX3_place_12 : decode cX3_place 12 = .ok (.return_, 1) := by decide +kernel
theorem dX3_place_13 : decode cX3_place 13 = .ok (.aload_n 1, 1) := by decide +kernel
theorem dX3_place_14 : decode cX3_place 14 = .ok (.aload_n 0, 1) := by decide +kernel
theorem dX3_place_15 : decode cX3_place 15 = .ok (.getfield 7, 3) := by decide +kernel
theorem dX3_place_18 : decode cX3_place 18 = .ok (.iload_n 2, 1) := by decide +kernel
theorem dX3_place_19 : decode cX3_place 19 = .ok (.invokevirtual 28, 3) := by decide +kernel
theorem dX3_place_22 : decode cX3_place 22 = .ok (.aload_n 0, 1) := by decide +kernel
theorem dX3_place_23 : decode cX3_place 23 = .ok (.getfield 21, 3) := by decide +kernel
theorem dX3_place_26 : decode cX3_place 26 = .ok (.aload_n 0, 1) := by decide +kernel
theorem dX3_place_27 : decode cX3_place 27 = .ok (.getfield 25, 3) := by decide +kernel
theorem dX3_place_30 : decode cX3_place 30 = .ok (.new 19, 3) := by decide +kernel
theorem dX3_place_33 : decode cX3_place 33 = .ok (.dup, 1) := by decide +kernel
theorem dX3_place_34 : decode cX3_place 34 = .ok (.aload_n 1, 1) := by decide +kernel
theorem dX3_place_35 : decode cX3_place 35 = .ok (.iload_n 2, 1) := by decide +kernel
theorem dX3_place_36 : decode cX3_place 36 = .ok (.iload_n 3, 1) := by decide +kernel
theorem dX3_place_37 : decode cX3_place 37 = .ok (.invokespecial 34, 3) := by decide +kernel
theorem dX3_place_40 : decode cX3_place 40 = .ok (.aastore, 1) := by decide +kernel
theorem dX3_place_41 : decode cX3_place 41 = .ok (.aload_n 0, 1) := by decide +kernel
theorem dX3_place_42 : decode cX3_place 42 = .ok (.dup, 1) := by decide +kernel
theorem dX3_place_43 : decode cX3_place 43 = .ok (.getfield 25, 3) := by decide +kernel
theorem dX3_place_46 : decode cX3_place 46 = .ok (.iconst 1, 1) := by decide +kernel
theorem dX3_place_47 : decode cX3_place 47 = .ok (.iadd, 1) := by decide +kernel
theorem dX3_place_48 : decode cX3_place 48 = .ok (.putfield 25, 3) := by decide +kernel
theorem dX3_place_51 : decode cX3_place 51 = .ok (.aload_n 0, 1) := by decide +kernel
theorem dX3_place_52 : decode cX3_place 52 = .ok (.dup, 1) := by decide +kernel
theorem dX3_place_53 : decode cX3_place 53 = .ok (.getfield 37, 3) := by decide +kernel
theorem dX3_place_56 : decode cX3_place 56 = .ok (.iload_n 2, 1) := by decide +kernel
theorem dX3_place_57 : decode cX3_place 57 = .ok (.iadd, 1) := by decide +kernel
theorem dX3_place_58 : decode cX3_place 58 = .ok (.putfield 37, 3) := by decide +kernel
theorem dX3_place_61 : decode cX3_place 61 = .ok (.aload_n 1, 1) := by decide +kernel
theorem dX3_place_62 : decode cX3_place 62 = .ok (.getfield 40, 3) := by decide +kernel
theorem dX3_place_65 : decode cX3_place 65 = .ok (.getfield 44, 3) := by decide +kernel
theorem dX3_place_68 : decode cX3_place 68 = .ok (.aload_n 0, 1) := by decide +kernel
theorem dX3_place_69 : decode cX3_place 69 = .ok (.getfield 7, 3) := by decide +kernel
theorem dX3_place_72 : decode cX3_place 72 = .ok (.dup2, 1) := by decide +kernel
theorem dX3_place_73 : decode cX3_place 73 = .ok (.iaload, 1) := by decide +kernel
theorem dX3_place_74 : decode cX3_place 74 = .ok (.iload_n 2, 1) := by decide +kernel
theorem dX3_place_75 : decode cX3_place 75 = .ok (.iadd, 1) := by decide +kernel
theorem dX3_place_76 : decode cX3_place 76 = .ok (.iastore, 1) := by decide +kernel
theorem dX3_place_77 : decode cX3_place 77 = .ok (.return_, 1) := by decide +kernel
theorem dX3_partAt_0 : decode cX3_partAt 0 = .ok (.iload_n 1, 1) := by decide +kernel
theorem dX3_partAt_1 : decode cX3_partAt 1 = .ok (.iconst 0, 1) := by decide +kernel
theorem dX3_partAt_2 : decode cX3_partAt 2 = .ok (.aload_n 0, 1) := by decide +kernel
theorem dX3_partAt_3 : decode cX3_partAt 3 = .ok (.getfield 25, 3) := by decide +kernel
theorem dX3_partAt_6 : decode cX3_partAt 6 = .ok (.iconst 1, 1) := by decide +kernel
theorem dX3_partAt_7 : decode cX3_partAt 7 = .ok (.isub, 1) := by decide +kernel
theorem dX3_partAt_8 : decode cX3_partAt 8 = .ok (.invokestatic 50, 3) := by decide +kernel
theorem dX3_partAt_11 : decode cX3_partAt 11 = .ok (.ifCond .eq 12, 3) := by decide +kernel
theorem dX3_partAt_14 : decode cX3_partAt 14 = .ok (.aload_n 0, 1) := by decide +kernel
theorem dX3_partAt_15 : decode cX3_partAt 15 = .ok (.getfield 21, 3) := by decide +kernel
theorem dX3_partAt_18 : decode cX3_partAt 18 = .ok (.iload_n 1, 1) := by decide +kernel
theorem dX3_partAt_19 : decode cX3_partAt 19 = .ok (.aaload, 1) := by decide +kernel
theorem dX3_partAt_20 : decode cX3_partAt 20 = .ok (.goto 4, 3) := by decide +kernel
theorem dX3_partAt_23 : decode cX3_partAt 23 = .ok (.aconst_null, 1) := by decide +kernel
theorem dX3_partAt_24 : decode cX3_partAt 24 = .ok (.areturn, 1) := by decide +kernel
theorem dX4_init_0 : decode cX4_init 0 = .ok (.aload_n 0, 1) := by decide +kernel
theorem dX4_init_1 : decode cX4_init 1 = .ok (.invokespecial 1, 3) := by decide +kernel
theorem dX4_init_4 : decode cX4_init 4 = .ok (.aload_n 0, 1) := by decide +kernel
theorem dX4_init_5 : decode cX4_init 5 = .ok (.aload_n 1, 1) := by decide +kernel
theorem dX4_init_6 : decode cX4_init 6 = .ok (.putfield 7, 3) := by decide +kernel
theorem dX4_init_9 : decode cX4_init 9 = .ok (.aload_n 0, 1) := by decide +kernel
theorem dX4_init_10 : decode cX4_init 10 = .ok (.iload_n 2, 1) := by decide +kernel
theorem dX4_init_11 : decode cX4_init 11 = .ok (.putfield 13, 3) := by decide +kernel
theorem dX4_init_14 : decode cX4_init 14 = .ok (.aload_n 0, 1) := by decide +kernel
theorem dX4_init_15 : decode cX4_init 15 = .ok (.iload_n 3, 1) := by decide +kernel
theorem dX4_init_16 : decode cX4_init 16 = .ok (.putfield 17, 3) := by decide +kernel
theorem dX4_init_19 : decode cX4_init 19 = .ok (.return_, 1) := by decide +kernel
