theorem dX3_init_0 : decode cX3_init 0 = .ok (.aload_n 0, 1) := by decide +kernel
theorem dX3_init_1 : decode cX3_init 1 = .ok (.invokespecial 1, 3) := by decide +kernel
theorem dX3_init_4 : decode cX3_init 4 = .ok (.aload_n 0, 1) := by decide +kernel
theorem dX3_init_5 : decode cX3_init 5 = .ok (.bipush 120, 2) := by decide +kernel
theorem dX3_init_7 : decode cX3_init 7 = .ok (.newarray .long, 2) := by decide +kernel
theorem dX3_init_9 : decode cX3_init 9 = .ok (.putfield 9, 3) := by decide +kernel
theorem dX3_init_12 : decode cX3_init 12 = .ok (.aload_n 0, 1) := by decide +kernel
theorem dX3_init_13 : decode cX3_init 13 = .ok (.iconst 0, 1) := by decide +kernel
theorem dX3_init_14 : decode cX3_init 14 = .ok (.putfield 13, 3) := by decide +kernel
theorem dX3_init_17 : decode cX3_init 17 = .ok (.aload_n 0, 1) := by decide +kernel
theorem dX3_init_18 : decode cX3_init 18 = .ok (.bipush 8, 2) := by decide +kernel
theorem dX3_init_20 : decode cX3_init 20 = .ok (.newarray .long, 2) := by decide +kernel
theorem dX3_init_22 : decode cX3_init 22 = .ok (.putfield 17, 3) := by decide +kernel
theorem dX3_init_25 : decode cX3_init 25 = .ok (.aload_n 0, 1) := by decide +kernel
theorem dX3_init_26 : decode cX3_init 26 = .ok (.bipush 40, 2) := by decide +kernel
theorem dX3_init_28 : decode cX3_init 28 = .ok (.newarray .int, 2) := by decide +kernel
theorem dX3_init_30 : decode cX3_init 30 = .ok (.putfield 20, 3) := by decide +kernel
theorem dX3_init_33 : decode cX3_init 33 = .ok (.aload_n 0, 1) := by decide +kernel
theorem dX3_init_34 : decode cX3_init 34 = .ok (.bipush 40, 2) := by decide +kernel
theorem dX3_init_36 : decode cX3_init 36 = .ok (.newarray .int, 2) := by decide +kernel
theorem dX3_init_38 : decode cX3_init 38 = .ok (.putfield 24, 3) := by decide +kernel
theorem dX3_init_41 : decode cX3_init 41 = .ok (.aload_n 0, 1) := by decide +kernel
theorem dX3_init_42 : decode cX3_init 42 = .ok (.iconst 0, 1) := by decide +kernel
theorem dX3_init_43 : decode cX3_init 43 = .ok (.putfield 27, 3) := by decide +kernel
theorem dX3_init_46 : decode cX3_init 46 = .ok (.aload_n 0, 1) := by decide +kernel
theorem dX3_init_47 : decode cX3_init 47 = .ok (.new 30, 3) := by decide +kernel
theorem dX3_init_50 : decode cX3_init 50 = .ok (.dup, 1) := by decide +kernel
theorem dX3_init_51 : decode cX3_init 51 = .ok (.invokespecial 32, 3) := by decide +kernel
theorem dX3_init_54 : decode cX3_init 54 = .ok (.putfield 33, 3) := by decide +kernel
theorem dX3_init_57 : decode cX3_init 57 = .ok (.aload_n 0, 1) := by decide +kernel
theorem dX3_init_58 : decode cX3_init 58 = .ok (.new 30, 3) := by decide +kernel
theorem dX3_init_61 : decode cX3_init 61 = .ok (.dup, 1) := by decide +kernel
theorem dX3_init_62 : decode cX3_init 62 = .ok (.invokespecial 32, 3) := by decide +kernel
theorem dX3_init_65 : decode cX3_init 65 = .ok (.putfield 37, 3) := by decide +kernel
theorem dX3_init_68 : decode cX3_init 68 = .ok (.aload_n 0, 1) := by decide +kernel
theorem dX3_init_69 : decode cX3_init 69 = .ok (.new 30, 3) := by decide +kernel
theorem dX3_init_72 : decode cX3_init 72 = .ok (.dup, 1) := by decide +kernel
theorem dX3_init_73 : decode cX3_init 73 = .ok (.invokespecial 32, 3) := by decide +kernel
theorem dX3_init_76 : decode cX3_init 76 = .ok (.putfield 40, 3) := by decide +kernel
theorem dX3_init_79 : decode cX3_init 79 = .ok (.aload_n 0, 1) := by decide +kernel
theorem dX3_init_80 : decode cX3_init 80 = .ok (.new 43, 3) := by decide +kernel
theorem dX3_init_83 : decode cX3_init 83 = .ok (.dup, 1) := by decide +kernel
theorem dX3_init_84 : decode cX3_init 84 = .ok (.invokespecial 45, 3) := by decide +kernel
theorem dX3_init_87 : decode cX3_init 87 = .ok (.putfield 46, 3) := by decide +kernel
theorem dX3_init_90 : decode cX3_init 90 = .ok (.aload_n 0, 1) := by decide +kernel
theorem dX3_init_91 : decode cX3_init 91 = .ok (.new 43, 3) := by decide +kernel
theorem dX3_init_94 : decode cX3_init 94 = .ok (.dup, 1) := by decide +kernel
theorem dX3_init_95 : decode cX3_init 95 = .ok (.invokespecial 45, 3) := by decide +kernel
theorem dX3_init_98 : decode cX3_init 98 = .ok (.putfield 50, 3) := by decide +kernel
theorem dX3_init_101 : decode cX3_init 101 = .ok (.aload_n 0, 1) := by decide +kernel
theorem dX3_init_102 : decode cX3_init 102 = .ok (.new 53, 3) := by decide +kernel
theorem dX3_init_105 : decode cX3_init 105 = .ok (.dup, 1) := by decide +kernel
theorem dX3_init_106 : decode cX3_init 106 = .ok (.invokespecial 55, 3) := by decide +kernel
theorem dX3_init_109 : decode cX3_init 109 = .ok (.putfield 56, 3) := by decide +kernel
theorem dX3_init_112 : decode cX3_init 112 = .ok (.aload_n 0, 1) := by decide +kernel
theorem dX3_init_113 : decode cX3_init 113 = .ok (.lconst 0, 1) := by decide +kernel
theorem dX3_init_114 : decode cX3_init 114 = .ok (.putfield 60, 3) := by decide +kernel
theorem dX3_init_117 : decode cX3_init 117 = .ok (.return_, 1) := by decide +kernel
theorem dX3_thing_0 : decode cX3_thing 0 = .ok (.aload_n 0, 1) := by decide +kernel
theorem dX3_thing_1 : decode cX3_thing 1 = .ok (.getfield 13, 3) := by decide +kernel
theorem dX3_thing_4 : decode cX3_thing 4 = .ok (.bipush 40, 2) := by decide +kernel
theorem dX3_thing_6 : decode cX3_thing 6 = .ok (.if_icmp .lt 6, 3) := by decide +kernel
theorem dX3_thing_9 : decode cX3_thing 9 = .ok (.bipush (-2), 2) := by decide +kernel
theorem dX3_thing_11 : decode cX3_thing 11 = .ok (.ireturn, 1) := by decide +kernel
theorem dX3_thing_12 : decode cX3_thing 12 = .ok (.aload_n 0, 1) := by decide +kernel
theorem dX3_thing_13 : decode cX3_thing 13 = .ok (.getfield 13, 3) := by decide +kernel
theorem dX3_thing_16 : decode cX3_thing 16 = .ok (.istore 7, 2) := by decide +kernel
theorem dX3_thing_18 : decode cX3_thing 18 = .ok (.aload_n 0, 1) := by decide +kernel
theorem dX3_thing_19 : decode cX3_thing 19 = .ok (.getfield 9, 3) := by decide +kernel
theorem dX3_thing_22 : decode cX3_thing 22 = .ok (.iload 7, 2) := by decide +kernel
theorem dX3_thing_24 : decode cX3_thing 24 = .ok (.iconst 0, 1) := by decide +kernel
theorem dX3_thing_25 : decode cX3_thing 25 = .ok (.invokestatic 64, 3) := by decide +kernel
theorem dX3_thing_28 : decode cX3_thing 28 = .ok (.lload_n 1, 1) := by decide +kernel
theorem dX3_thing_29 : decode cX3_thing 29 = .ok (.lastore, 1) := by decide +kernel
theorem dX3_thing_30 : decode cX3_thing 30 = .ok (.aload_n 0, 1) := by decide +kernel
theorem dX3_thing_31 : decode cX3_thing 31 = .ok (.getfield 9, 3) := by decide +kernel
theorem dX3_thing_34 : decode cX3_thing 34 = .ok (.iload 7, 2) := by decide +kernel
theorem dX3_thing_36 : decode cX3_thing 36 = .ok (.iconst 1, 1) := by decide +kernel
theorem dX3_thing_37 : decode cX3_thing 37 = .ok (.invokestatic 64, 3) := by decide +kernel
theorem dX3_thing_40 : decode cX3_thing 40 = .ok (.lload_n 3, 1) := by decide +kernel
theorem dX3_thing_41 : decode cX3_thing 41 = .ok (.lastore, 1) := by decide +kernel
theorem dX3_thing_42 : decode cX3_thing 42 = .ok (.aload_n 0, 1) := by decide +kernel
theorem dX3_thing_43 : decode cX3_thing 43 = .ok (.getfield 9, 3) := by decide +kernel
theorem dX3_thing_46 : decode cX3_thing 46 = .ok (.iload 7, 2) := by decide +kernel
theorem dX3_thing_48 : decode cX3_thing 48 = .ok (.iconst 2, 1) := by decide +kernel
theorem dX3_thing_49 : decode cX3_thing 49 = .ok (.invokestatic 64, 3) := by decide +kernel
theorem dX3_thing_52 : decode cX3_thing 52 = .ok (.lload 5, 2) := by decide +kernel
theorem dX3_thing_54 : decode cX3_thing 54 = .ok (.lastore, 1) := by decide +kernel
theorem dX3_thing_55 : decode cX3_thing 55 = .ok (.aload_n 0, 1) := by decide +kernel
theorem dX3_thing_56 : decode cX3_thing 56 = .ok (.dup, 1) := by decide +kernel
theorem dX3_thing_57 : decode cX3_thing 57 = .ok (.getfield 13, 3) := by decide +kernel
theorem dX3_thing_60 : decode cX3_thing 60 = .ok (.iconst 1, 1) := by decide +kernel
theorem dX3_thing_61 : decode cX3_thing 61 = .ok (.iadd, 1) := by decide +kernel
theorem dX3_thing_62 : decode cX3_thing 62 = .ok (.putfield 13, 3) := by decide +kernel
theorem dX3_thing_65 : decode cX3_thing 65 = .ok (.aload_n 0, 1) := by decide +kernel
theorem dX3_thing_66 : decode cX3_thing 66 = .ok (.getfield 20, 3) := by decide +kernel
theorem dX3_thing_69 : decode cX3_thing 69 = .ok (.aload_n 0, 1) := by decide +kernel
theorem dX3_thing_70 : decode cX3_thing 70 = .ok (.getfield 27, 3) := by decide +kernel
theorem dX3_thing_73 : decode cX3_thing 73 = .ok (.iload 7, 2) := by decide +kernel
theorem dX3_thing_75 : decode cX3_thing 75 = .ok (.iastore, 1) := by decide +kernel
theorem dX3_thing_76 : decode cX3_thing 76 = .ok (.aload_n 0, 1) := by decide +kernel
theorem dX3_thing_77 : decode cX3_thing 77 = .ok (.dup, 1) := by decide +kernel
theorem dX3_thing_78 : decode cX3_thing 78 = .ok (.getfield 27, 3) := by decide +kernel
theorem dX3_thing_81 : decode cX3_thing 81 = .ok (.iconst 1, 1) := by decide +kernel
theorem dX3_thing_82 : decode cX3_thing 82 = .ok (.iadd, 1) := by decide +kernel
theorem dX3_thing_83 : decode cX3_thing 83 = .ok (.putfield 27, 3) := by decide +kernel
theorem dX3_thing_86 : decode cX3_thing 86 = .ok (.iload 7, 2) := by decide +kernel
theorem dX3_thing_88 : decode cX3_thing 88 = .ok (.ireturn, 1) := by decide +kernel
theorem dX3_change_0 : decode cX3_change 0 = .ok (.aload_n 0, 1) := by decide +kernel
theorem dX3_change_1 : decode cX3_change 1 = .ok (.iload_n 1, 1) := by decide +kernel
theorem dX3_change_2 : decode cX3_change 2 = .ok (.invokevirtual 68, 3) := by decide +kernel
theorem dX3_change_5 : decode cX3_change 5 = .ok (.ifCond .eq 10, 3) := by decide +kernel
theorem dX3_change_8 : decode cX3_change 8 = .ok (.iload_n 2, 1) := by decide +kernel
theorem dX3_change_9 : decode cX3_change 9 = .ok (.invokestatic 72, 3) := by decide +kernel
theorem dX3_change_12 : decode cX3_change 12 = .ok (.ifCond .ne 5, 3) := by decide +kernel
theorem dX3_change_15 : decode cX3_change 15 = .ok (.iconst (-1), 1) := by decide +kernel
theorem dX3_change_16 : decode cX3_change 16 = .ok (.ireturn, 1) := by decide +kernel
theorem dX3_change_17 : decode cX3_change 17 = .ok (.aload_n 0, 1) := by decide +kernel
theorem dX3_change_18 : decode cX3_change 18 = .ok (.getfield 9, 3) := by decide +kernel
theorem dX3_change_21 : decode cX3_change 21 = .ok (.iload_n 1, 1) := by decide +kernel
theorem dX3_change_22 : decode cX3_change 22 = .ok (.iload_n 2, 1) := by decide +kernel
theorem dX3_change_23 : decode cX3_change 23 = .ok (.invokestatic 64, 3) := by decide +kernel
theorem dX3_change_26 : decode cX3_change 26 = .ok (.lload_n 3, 1) := by decide +kernel
theorem dX3_change_27 : decode cX3_change 27 = .ok (.lastore, 1) := by decide +kernel
theorem dX3_change_28 : decode cX3_change 28 = .ok (.iconst 1, 1) := by decide +kernel
theorem dX3_change_29 : decode cX3_change 29 = .ok (.ireturn, 1) := by decide +kernel
theorem dX3_get_0 : decode cX3_get 0 = .ok (.aload_n 0, 1) := by decide +kernel
theorem dX3_get_1 : decode cX3_get 1 = .ok (.iload_n 1, 1) := by decide +kernel
theorem dX3_get_2 : decode cX3_get 2 = .ok (.invokevirtual 68, 3) := by decide +kernel
theorem dX3_get_5 : decode cX3_get 5 = .ok (.ifCond .eq 10, 3) := by decide +kernel
theorem dX3_get_8 : decode cX3_get 8 = .ok (.iload_n 2, 1) := by decide +kernel
theorem dX3_get_9 : decode cX3_get 9 = .ok (.invokestatic 72, 3) := by decide +kernel
theorem dX3_get_12 : decode cX3_get 12 = .ok (.ifCond .ne 5, 3) := by decide +kernel
theorem dX3_get_15 : decode cX3_get 15 = .ok (.lconst 0, 1) := by decide +kernel
theorem dX3_get_16 : decode cX3_get 16 = .ok (.lreturn, 1) := by decide +kernel
theorem dX3_get_17 : decode cX3_get 17 = .ok (.aload_n 0, 1) := by decide +kernel
theorem dX3_get_18 : decode cX3_get 18 = .ok (.getfield 9, 3) := by decide +kernel
theorem dX3_get_21 : decode cX3_get 21 = .ok (.iload_n 1, 1) := by decide +kernel
theorem dX3_get_22 : decode cX3_get 22 = .ok (.iload_n 2, 1) := by decide +kernel
theorem dX3_get_23 : decode cX3_get 23 = .ok (.invokestatic 64, 3) := by decide +kernel
theorem dX3_get_26 : decode cX3_get 26 = .ok (.laload, 1) := by decide +kernel
theorem dX3_get_27 : decode cX3_get 27 = .ok (.lreturn, 1) := by decide +kernel
theorem dX3_item_0 : decode cX3_item 0 = .ok (.iload_n 1, 1) := by decide +kernel
theorem dX3_item_1 : decode cX3_item 1 = .ok (.i2l, 1) := by decide +kernel
theorem dX3_item_2 : decode cX3_item 2 = .ok (.invokestatic 75, 3) := by decide +kernel
theorem dX3_item_5 : decode cX3_item 5 = .ok (.ifCond .ne 5, 3) := by decide +kernel
theorem dX3_item_8 : decode cX3_item 8 = .ok (.iconst (-1), 1) := by decide +kernel
theorem dX3_item_9 : decode cX3_item 9 = .ok (.ireturn, 1) := by decide +kernel
theorem dX3_item_10 : decode cX3_item 10 = .ok (.aload_n 0, 1) := by decide +kernel
theorem dX3_item_11 : decode cX3_item 11 = .ok (.getfield 17, 3) := by decide +kernel
theorem dX3_item_14 : decode cX3_item 14 = .ok (.iload_n 1, 1) := by decide +kernel
theorem dX3_item_15 : decode cX3_item 15 = .ok (.lload_n 2, 1) := by decide +kernel
theorem dX3_item_16 : decode cX3_item 16 = .ok (.lastore, 1) := by decide +kernel
theorem dX3_item_17 : decode cX3_item 17 = .ok (.iconst 1, 1) := by decide +kernel
theorem dX3_item_18 : decode cX3_item 18 = .ok (.ireturn, 1) := by decide +kernel
theorem dX3_all_0 : decode cX3_all 0 = .ok (.iconst 0, 1) := by decide +kernel
theorem dX3_all_1 : decode cX3_all 1 = .ok (.istore_n 1, 1) := by decide +kernel
theorem dX3_all_2 : decode cX3_all 2 = .ok (.iload_n 1, 1) := by decide +kernel
theorem dX3_all_3 : decode cX3_all 3 = .ok (.aload_n 0, 1) := by decide +kernel
theorem dX3_all_4 : decode cX3_all 4 = .ok (.getfield 13, 3) := by decide +kernel
theorem dX3_all_7 : decode cX3_all 7 = .ok (.if_icmp .ge 16, 3) := by decide +kernel
theorem dX3_all_10 : decode cX3_all 10 = .ok (.aload_n 0, 1) := by decide +kernel
theorem dX3_all_11 : decode cX3_all 11 = .ok (.getfield 20, 3) := by decide +kernel
theorem dX3_all_14 : decode cX3_all 14 = .ok (.iload_n 1, 1) := by decide +kernel
theorem dX3_all_15 : decode cX3_all 15 = .ok (.iload_n 1, 1) := by decide +kernel
theorem dX3_all_16 : decode cX3_all 16 = .ok (.iastore, 1) := by decide +kernel
theorem dX3_all_17 : decode cX3_all 17 = .ok (.iinc 1 1, 3) := by decide +kernel
theorem dX3_all_20 : decode cX3_all 20 = .ok (.goto (-18), 3) := by decide +kernel
theorem dX3_all_23 : decode cX3_all 23 = .ok (.aload_n 0, 1) := by decide +kernel
theorem dX3_all_24 : decode cX3_all 24 = .ok (.aload_n 0, 1) := by decide +kernel
theorem dX3_all_25 : decode cX3_all 25 = .ok (.getfield 13, 3) := by decide +kernel
theorem dX3_all_28 : decode cX3_all 28 = .ok (.putfield 27, 3) := by decide +kernel
theorem dX3_all_31 : decode cX3_all 31 = .ok (.aload_n 0, 1) := by decide +kernel
theorem dX3_all_32 : decode cX3_all 32 = .ok (.getfield 27, 3) := by decide +kernel
theorem dX3_all_35 : decode cX3_all 35 = .ok (.ireturn, 1) := by decide +kernel
theorem dX3_list_0 : decode cX3_list 0 = .ok (.iload_n 1, 1) := by decide +kernel
theorem dX3_list_1 : decode cX3_list 1 = .ok (.ifCond .lt 20, 3) := by decide +kernel
theorem dX3_list_4 : decode cX3_list 4 = .ok (.iload_n 1, 1) := by decide +kernel
theorem dX3_list_5 : decode cX3_list 5 = .ok (.aload_n 0, 1) := by decide +kernel
theorem dX3_list_6 : decode cX3_list 6 = .ok (.getfield 27, 3) := by decide +kernel
theorem dX3_list_9 : decode cX3_list 9 = .ok (.if_icmp .ge 12, 3) := by decide +kernel
theorem dX3_list_12 : decode cX3_list 12 = .ok (.aload_n 0, 1) := by decide +kernel
theorem dX3_list_13 : decode cX3_list 13 = .ok (.getfield 20, 3) := by decide +kernel
theorem dX3_list_16 : decode cX3_list 16 = .ok (.iload_n 1, 1) := by decide +kernel
theorem dX3_list_17 : decode cX3_list 17 = .ok (.iaload, 1) := by decide +kernel
theorem dX3_list_18 : decode cX3_list 18 = .ok (.goto 4, 3) := by decide +kernel
theorem dX3_list_21 : decode cX3_list 21 = .ok (.iconst (-1), 1) := by decide +kernel
theorem dX3_list_22 : decode cX3_list 22 = .ok (.ireturn, 1) := by decide +kernel
theorem dX3_scale_0 : decode cX3_scale 0 = .ok (.aload_n 0, 1) := by decide +kernel
theorem dX3_scale_1 : decode cX3_scale 1 = .ok (.iload_n 1, 1) := by decide +kernel
theorem dX3_scale_2 : decode cX3_scale 2 = .ok (.iload_n 2, 1) := by decide +kernel
theorem dX3_scale_3 : decode cX3_scale 3 = .ok (.iload_n 3, 1) := by decide +kernel
theorem dX3_scale_4 : decode cX3_scale 4 = .ok (.invokevirtual 79, 3) := by decide +kernel
theorem dX3_scale_7 : decode cX3_scale 7 = .ok (.ifCond .ne 5, 3) := by decide +kernel
theorem dX3_scale_10 : decode cX3_scale 10 = .ok (.iconst (-1), 1) := by decide +kernel
theorem dX3_scale_11 : decode cX3_scale 11 = .ok (.ireturn, 1) := by decide +kernel
theorem dX3_scale_12 : decode cX3_scale 12 = .ok (.aload_n 0, 1) := by decide +kernel
theorem dX3_scale_13 : decode cX3_scale 13 = .ok (.getfield 33, 3) := by decide +kernel
theorem dX3_scale_16 : decode cX3_scale 16 = .ok (.invokevirtual 83, 3) := by decide +kernel
theorem dX3_scale_19 : decode cX3_scale 19 = .ok (.ifCond .eq 6, 3) := by decide +kernel
theorem dX3_scale_22 : decode cX3_scale 22 = .ok (.bipush (-2), 2) := by decide +kernel
theorem dX3_scale_24 : decode cX3_scale 24 = .ok (.ireturn, 1) := by decide +kernel
theorem dX3_scale_25 : decode cX3_scale 25 = .ok (.iload_n 1, 1) := by decide +kernel
theorem dX3_scale_26 : decode cX3_scale 26 = .ok (.bipush 9, 2) := by decide +kernel
theorem dX3_scale_28 : decode cX3_scale 28 = .ok (.if_icmp .ne 10, 3) := by decide +kernel
theorem dX3_scale_31 : decode cX3_scale 31 = .ok (.aload_n 0, 1) := by decide +kernel
theorem dX3_scale_32 : decode cX3_scale 32 = .ok (.iload_n 2, 1) := by decide +kernel
theorem dX3_scale_33 : decode cX3_scale 33 = .ok (.iload_n 3, 1) := by decide +kernel
theorem dX3_scale_34 : decode cX3_scale 34 = .ok (.invokevirtual 87, 3) := by decide +kernel
theorem dX3_scale_37 : decode cX3_scale 37 = .ok (.ireturn, 1) := by decide +kernel
theorem dX3_scale_38 : decode cX3_scale 38 = .ok (.aload_n 0, 1) := by decide +kernel
theorem dX3_scale_39 : decode cX3_scale 39 = .ok (.getfield 33, 3) := by decide +kernel
theorem dX3_scale_42 : decode cX3_scale 42 = .ok (.iload_n 1, 1) := by decide +kernel
theorem dX3_scale_43 : decode cX3_scale 43 = .ok (.iload_n 2, 1) := by decide +kernel
theorem dX3_scale_44 : decode cX3_scale 44 = .ok (.iload_n 3, 1) := by decide +kernel
theorem dX3_scale_45 : decode cX3_scale 45 = .ok (.iload_n 1, 1) := by decide +kernel
theorem dX3_scale_46 : decode cX3_scale 46 = .ok (.bipush 8, 2) := by decide +kernel
theorem dX3_scale_48 : decode cX3_scale 48 = .ok (.if_icmp .ne 12, 3) := by decide +kernel
theorem dX3_scale_51 : decode cX3_scale 51 = .ok (.aload_n 0, 1) := by decide +kernel
theorem dX3_scale_52 : decode cX3_scale 52 = .ok (.getfield 17, 3) := by decide +kernel
theorem dX3_scale_55 : decode cX3_scale 55 = .ok (.iload_n 2, 1) := by decide +kernel
theorem dX3_scale_56 : decode cX3_scale 56 = .ok (.laload, 1) := by decide +kernel
theorem dX3_scale_57 : decode cX3_scale 57 = .ok (.goto 4, 3) := by decide +kernel
theorem dX3_scale_60 : decode cX3_scale 60 = .ok (.lconst 0, 1) := by decide +kernel
theorem dX3_scale_61 : decode cX3_scale 61 = .ok (.invokevirtual 90, 3) := by decide +kernel
theorem dX3_scale_64 : decode cX3_scale 64 = .ok (.ireturn, 1) := by decide +kernel
theorem dX3_sieve_0 : decode cX3_sieve 0 = .ok (.aload_n 0, 1) := by decide +kernel
theorem dX3_sieve_1 : decode cX3_sieve 1 = .ok (.iload_n 1, 1) := by decide +kernel
theorem dX3_sieve_2 : decode cX3_sieve 2 = .ok (.iload_n 2, 1) := by decide +kernel
theorem dX3_sieve_3 : decode cX3_sieve 3 = .ok (.iload_n 3, 1) := by decide +kernel
theorem dX3_sieve_4 : decode cX3_sieve 4 = .ok (.invokevirtual 94, 3) := by decide +kernel
theorem dX3_sieve_7 : decode cX3_sieve 7 = .ok (.ifCond .ne 5, 3) := by decide +kernel
theorem dX3_sieve_10 : decode cX3_sieve 10 = .ok (.iconst (-1), 1) := by decide +kernel
theorem dX3_sieve_11 : decode cX3_sieve 11 = .ok (.ireturn, 1) := by decide +kernel
theorem dX3_sieve_12 : decode cX3_sieve 12 = .ok (.aload_n 0, 1) := by decide +kernel
theorem dX3_sieve_13 : decode cX3_sieve 13 = .ok (.getfield 37, 3) := by decide +kernel
theorem dX3_sieve_16 : decode cX3_sieve 16 = .ok (.invokevirtual 83, 3) := by decide +kernel
theorem dX3_sieve_19 : decode cX3_sieve 19 = .ok (.ifCond .eq 8, 3) := by decide +kernel
theorem dX3_sieve_22 : decode cX3_sieve 22 = .ok (.bipush (-2), 2) := by decide +kernel
theorem dX3_sieve_24 : decode cX3_sieve 24 = .ok (.goto 14, 3) := by decide +kernel
theorem dX3_sieve_27 : decode cX3_sieve 27 = .ok (.aload_n 0, 1) := by decide +kernel
theorem dX3_sieve_28 : decode cX3_sieve 28 = .ok (.getfield 37, 3) := by decide +kernel
theorem dX3_sieve_31 : decode cX3_sieve 31 = .ok (.iload_n 1, 1) := by decide +kernel
theorem dX3_sieve_32 : decode cX3_sieve 32 = .ok (.iload_n 2, 1) := by decide +kernel
theorem dX3_sieve_33 : decode cX3_sieve 33 = .ok (.iload_n 3, 1) := by decide +kernel
theorem dX3_sieve_34 : decode cX3_sieve 34 = .ok (.lconst 0, 1) := by decide +kernel
theorem dX3_sieve_35 : decode cX3_sieve 35 = .ok (.invokevirtual 90, 3) := by decide +kernel
theorem dX3_sieve_38 : decode cX3_sieve 38 = .ok (.ireturn, 1) := by decide +kernel
theorem dX3_order_0 : decode cX3_order 0 = .ok (.aload_n 0, 1) := by decide +kernel
theorem dX3_order_1 : decode cX3_order 1 = .ok (.iload_n 1, 1) := by decide +kernel
theorem dX3_order_2 : decode cX3_order 2 = .ok (.iload_n 2, 1) := by decide +kernel
theorem dX3_order_3 : decode cX3_order 3 = .ok (.iload_n 3, 1) := by decide +kernel
theorem dX3_order_4 : decode cX3_order 4 = .ok (.invokevirtual 97, 3) := by decide +kernel
theorem dX3_order_7 : decode cX3_order 7 = .ok (.ifCond .ne 5, 3) := by decide +kernel
theorem dX3_order_10 : decode cX3_order 10 = .ok (.iconst (-1), 1) := by decide +kernel
theorem dX3_order_11 : decode cX3_order 11 = .ok (.ireturn, 1) := by decide +kernel
theorem dX3_order_12 : decode cX3_order 12 = .ok (.aload_n 0, 1) := by decide +kernel
theorem dX3_order_13 : decode cX3_order 13 = .ok (.getfield 40, 3) := by decide +kernel
theorem dX3_order_16 : decode cX3_order 16 = .ok (.invokevirtual 83, 3) := by decide +kernel
theorem dX3_order_19 : decode cX3_order 19 = .ok (.ifCond .eq 8, 3) := by decide +kernel
theorem dX3_order_22 : decode cX3_order 22 = .ok (.bipush (-2), 2) := by decide +kernel
theorem dX3_order_24 : decode cX3_order 24 = .ok (.goto 14, 3) := by decide +kernel
theorem dX3_order_27 : decode cX3_order 27 = .ok (.aload_n 0, 1) := by decide +kernel
theorem dX3_order_28 : decode cX3_order 28 = .ok (.getfield 40, 3) := by decide +kernel
theorem dX3_order_31 : decode cX3_order 31 = .ok (.iload_n 1, 1) := by decide +kernel
theorem dX3_order_32 : decode cX3_order 32 = .ok (.iload_n 2, 1) := by decide +kernel
theorem dX3_order_33 : decode cX3_order 33 = .ok (.iload_n 3, 1) := by decide +kernel
theorem dX3_order_34 : decode cX3_order 34 = .ok (.lconst 0, 1) := by decide +kernel
theorem dX3_order_35 : decode cX3_order 35 = .ok (.invokevirtual 90, 3) := by decide +kernel
theorem dX3_order_38 : decode cX3_order 38 = .ok (.ireturn, 1) := by decide +kernel
theorem dX3_tell_0 : decode cX3_tell 0 = .ok (.aload_n 0, 1) := by decide +kernel
theorem dX3_tell_1 : decode cX3_tell 1 = .ok (.getfield 33, 3) := by decide +kernel
theorem dX3_tell_4 : decode cX3_tell 4 = .ok (.iload_n 1, 1) := by decide +kernel
theorem dX3_tell_5 : decode cX3_tell 5 = .ok (.invokevirtual 100, 3) := by decide +kernel
theorem dX3_tell_8 : decode cX3_tell 8 = .ok (.ifCond .eq 11, 3) := by decide +kernel
theorem dX3_tell_11 : decode cX3_tell 11 = .ok (.aload_n 0, 1) := by decide +kernel
theorem dX3_tell_12 : decode cX3_tell 12 = .ok (.iload_n 2, 1) := by decide +kernel
theorem dX3_tell_13 : decode cX3_tell 13 = .ok (.invokevirtual 68, 3) := by decide +kernel
theorem dX3_tell_16 : decode cX3_tell 16 = .ok (.ifCond .ne 5, 3) := by decide +kernel
theorem dX3_tell_19 : decode cX3_tell 19 = .ok (.iconst (-1), 1) := by decide +kernel
theorem dX3_tell_20 : decode cX3_tell 20 = .ok (.ireturn, 1) := by decide +kernel
theorem dX3_tell_21 : decode cX3_tell 21 = .ok (.aload_n 0, 1) := by decide +kernel
theorem dX3_tell_22 : decode cX3_tell 22 = .ok (.getfield 56, 3) := by decide +kernel
theorem dX3_tell_25 : decode cX3_tell 25 = .ok (.invokevirtual 103, 3) := by decide +kernel
theorem dX3_tell_28 : decode cX3_tell 28 = .ok (.ifCond .ne 6, 3) := by decide +kernel
theorem dX3_tell_31 : decode cX3_tell 31 = .ok (.bipush (-2), 2) := by decide +kernel
theorem dX3_tell_33 : decode cX3_tell 33 = .ok (.ireturn, 1) := by decide +kernel
theorem dX3_tell_34 : decode cX3_tell 34 = .ok (.aload_n 0, 1) := by decide +kernel
theorem dX3_tell_35 : decode cX3_tell 35 = .ok (.iload_n 1, 1) := by decide +kernel
theorem dX3_tell_36 : decode cX3_tell 36 = .ok (.iload_n 2, 1) := by decide +kernel
theorem dX3_tell_37 : decode cX3_tell 37 = .ok (.invokevirtual 106, 3) := by decide +kernel
theorem dX3_tell_40 : decode cX3_tell 40 = .ok (.lstore_n 3, 1) := by decide +kernel
theorem dX3_tell_41 : decode cX3_tell 41 = .ok (.aload_n 0, 1) := by decide +kernel
theorem dX3_tell_42 : decode cX3_tell 42 = .ok (.getfield 56, 3) := by decide +kernel
theorem dX3_tell_45 : decode cX3_tell 45 = .ok (.invokevirtual 110, 3) := by decide +kernel
theorem dX3_tell_48 : decode cX3_tell 48 = .ok (.ifCond .eq 11, 3) := by decide +kernel
theorem dX3_tell_51 : decode cX3_tell 51 = .ok (.aload_n 0, 1) := by decide +kernel
theorem dX3_tell_52 : decode cX3_tell 52 = .ok (.getfield 56, 3) := by decide +kernel
theorem dX3_tell_55 : decode cX3_tell 55 = .ok (.invokevirtual 113, 3) := by decide +kernel
theorem dX3_tell_58 : decode cX3_tell 58 = .ok (.ireturn, 1) := by decide +kernel
theorem dX3_tell_59 : decode cX3_tell 59 = .ok (.aload_n 0, 1) := by decide +kernel
theorem dX3_tell_60 : decode cX3_tell 60 = .ok (.lload_n 3, 1) := by decide +kernel
theorem dX3_tell_61 : decode cX3_tell 61 = .ok (.putfield 60, 3) := by decide +kernel
theorem dX3_tell_64 : decode cX3_tell 64 = .ok (.iconst 1, 1) := by decide +kernel
theorem dX3_tell_65 : decode cX3_tell 65 = .ok (.ireturn, 1) := by decide +kernel
theorem dX3_sift_0 : decode cX3_sift 0 = .ok (.aload_n 0, 1) := by decide +kernel
theorem dX3_sift_1 : decode cX3_sift 1 = .ok (.getfield 37, 3) := by decide +kernel
theorem dX3_sift_4 : decode cX3_sift 4 = .ok (.iload_n 1, 1) := by decide +kernel
theorem dX3_sift_5 : decode cX3_sift 5 = .ok (.invokevirtual 100, 3) := by decide +kernel
theorem dX3_sift_8 : decode cX3_sift 8 = .ok (.ifCond .ne 5, 3) := by decide +kernel
theorem dX3_sift_11 : decode cX3_sift 11 = .ok (.iconst (-1), 1) := by decide +kernel
theorem dX3_sift_12 : decode cX3_sift 12 = .ok (.ireturn, 1) := by decide +kernel
theorem dX3_sift_13 : decode cX3_sift 13 = .ok (.aload_n 0, 1) := by decide +kernel
theorem dX3_sift_14 : decode cX3_sift 14 = .ok (.getfield 56, 3) := by decide +kernel
theorem dX3_sift_17 : decode cX3_sift 17 = .ok (.invokevirtual 103, 3) := by decide +kernel
theorem dX3_sift_20 : decode cX3_sift 20 = .ok (.ifCond .ne 6, 3) := by decide +kernel
theorem dX3_sift_23 : decode cX3_sift 23 = .ok (.bipush (-2), 2) := by decide +kernel
theorem dX3_sift_25 : decode cX3_sift 25 = .ok (.ireturn, 1) := by decide +kernel
theorem dX3_sift_26 : decode cX3_sift 26 = .ok (.iconst 0, 1) := by decide +kernel
theorem dX3_sift_27 : decode cX3_sift 27 = .ok (.istore_n 2, 1) := by decide +kernel
theorem dX3_sift_28 : decode cX3_sift 28 = .ok (.iconst 0, 1) := by decide +kernel
theorem dX3_sift_29 : decode cX3_sift 29 = .ok (.istore_n 3, 1) := by decide +kernel
theorem dX3_sift_30 : decode cX3_sift 30 = .ok (.iload_n 3, 1) := by decide +kernel
theorem dX3_sift_31 : decode cX3_sift 31 = .ok (.aload_n 0, 1) := by decide +kernel
theorem dX3_sift_32 : decode cX3_sift 32 = .ok (.getfield 27, 3) := by decide +kernel
theorem dX3_sift_35 : decode cX3_sift 35 = .ok (.if_icmp .ge 48, 3) := by decide +kernel
theorem dX3_sift_38 : decode cX3_sift 38 = .ok (.aload_n 0, 1) := by decide +kernel
theorem dX3_sift_39 : decode cX3_sift 39 = .ok (.getfield 56, 3) := by decide +kernel
theorem dX3_sift_42 : decode cX3_sift 42 = .ok (.invokevirtual 110, 3) := by decide +kernel
theorem dX3_sift_45 : decode cX3_sift 45 = .ok (.ifCond .ne 38, 3) := by decide +kernel
theorem dX3_sift_48 : decode cX3_sift 48 = .ok (.aload_n 0, 1) := by decide +kernel
theorem dX3_sift_49 : decode cX3_sift 49 = .ok (.iload_n 1, 1) := by decide +kernel
theorem dX3_sift_50 : decode cX3_sift 50 = .ok (.aload_n 0, 1) := by decide +kernel
theorem dX3_sift_51 : decode cX3_sift 51 = .ok (.getfield 20, 3) := by decide +kernel
theorem dX3_sift_54 : decode cX3_sift 54 = .ok (.iload_n 3, 1) := by decide +kernel
theorem dX3_sift_55 : decode cX3_sift 55 = .ok (.iaload, 1) := by decide +kernel
theorem dX3_sift_56 : decode cX3_sift 56 = .ok (.invokevirtual 117, 3) := by decide +kernel
theorem dX3_sift_59 : decode cX3_sift 59 = .ok (.ifCond .eq 18, 3) := by decide +kernel
theorem dX3_sift_62 : decode cX3_sift 62 = .ok (.aload_n 0, 1) := by decide +kernel
theorem dX3_sift_63 : decode cX3_sift 63 = .ok (.getfield 24, 3) := by decide +kernel
theorem dX3_sift_66 : decode cX3_sift 66 = .ok (.iload_n 2, 1) := by decide +kernel
theorem dX3_sift_67 : decode cX3_sift 67 = .ok (.aload_n 0, 1) := by decide +kernel
theorem dX3_sift_68 : decode cX3_sift 68 = .ok (.getfield 20, 3) := by decide +kernel
theorem dX3_sift_71 : decode cX3_sift 71 = .ok (.iload_n 3, 1) := by decide +kernel
theorem dX3_sift_72 : decode cX3_sift 72 = .ok (.iaload, 1) := by decide +kernel
theorem dX3_sift_73 : decode cX3_sift 73 = .ok (.iastore, 1) := by decide +kernel
theorem dX3_sift_74 : decode cX3_sift 74 = .ok (.iinc 2 1, 3) := by decide +kernel
theorem dX3_sift_77 : decode cX3_sift 77 = .ok (.iinc 3 1, 3) := by decide +kernel
theorem dX3_sift_80 : decode cX3_sift 80 = .ok (.goto (-50), 3) := by decide +kernel
theorem dX3_sift_83 : decode cX3_sift 83 = .ok (.aload_n 0, 1) := by decide +kernel
theorem dX3_sift_84 : decode cX3_sift 84 = .ok (.getfield 56, 3) := by decide +kernel
theorem dX3_sift_87 : decode cX3_sift 87 = .ok (.invokevirtual 110, 3) := by decide +kernel
theorem dX3_sift_90 : decode cX3_sift 90 = .ok (.ifCond .eq 11, 3) := by decide +kernel
theorem dX3_sift_93 : decode cX3_sift 93 = .ok (.aload_n 0, 1) := by decide +kernel
theorem dX3_sift_94 : decode cX3_sift 94 = .ok (.getfield 56, 3) := by decide +kernel
theorem dX3_sift_97 : decode cX3_sift 97 = .ok (.invokevirtual 113, 3) := by decide +kernel
theorem dX3_sift_100 : decode cX3_sift 100 = .ok (.ireturn, 1) := by decide +kernel
theorem dX3_sift_101 : decode cX3_sift 101 = .ok (.aload_n 0, 1) := by decide +kernel
theorem dX3_sift_102 : decode cX3_sift 102 = .ok (.iload_n 2, 1) := by decide +kernel
theorem dX3_sift_103 : decode cX3_sift 103 = .ok (.invokevirtual 121, 3) := by decide +kernel
theorem dX3_sift_106 : decode cX3_sift 106 = .ok (.iload_n 2, 1) := by decide +kernel
theorem dX3_sift_107 : decode cX3_sift 107 = .ok (.ireturn, 1) := by decide +kernel
theorem dX3_sort_0 : decode cX3_sort 0 = .ok (.aload_n 0, 1) := by decide +kernel
theorem dX3_sort_1 : decode cX3_sort 1 = .ok (.getfield 40, 3) := by decide +kernel
theorem dX3_sort_4 : decode cX3_sort 4 = .ok (.iload_n 1, 1) := by decide +kernel
theorem dX3_sort_5 : decode cX3_sort 5 = .ok (.invokevirtual 100, 3) := by decide +kernel
theorem dX3_sort_8 : decode cX3_sort 8 = .ok (.ifCond .ne 5, 3) := by decide +kernel
theorem dX3_sort_11 : decode cX3_sort 11 = .ok (.iconst (-1), 1) := by decide +kernel
theorem dX3_sort_12 : decode cX3_sort 12 = .ok (.ireturn, 1) := by decide +kernel
theorem dX3_sort_13 : decode cX3_sort 13 = .ok (.aload_n 0, 1) := by decide +kernel
theorem dX3_sort_14 : decode cX3_sort 14 = .ok (.getfield 56, 3) := by decide +kernel
theorem dX3_sort_17 : decode cX3_sort 17 = .ok (.invokevirtual 103, 3) := by decide +kernel
theorem dX3_sort_20 : decode cX3_sort 20 = .ok (.ifCond .ne 6, 3) := by decide +kernel
theorem dX3_sort_23 : decode cX3_sort 23 = .ok (.bipush (-2), 2) := by decide +kernel
theorem dX3_sort_25 : decode cX3_sort 25 = .ok (.ireturn, 1) := by decide +kernel
theorem dX3_sort_26 : decode cX3_sort 26 = .ok (.aload_n 0, 1) := by decide +kernel
theorem dX3_sort_27 : decode cX3_sort 27 = .ok (.getfield 20, 3) := by decide +kernel
theorem dX3_sort_30 : decode cX3_sort 30 = .ok (.iconst 0, 1) := by decide +kernel
theorem dX3_sort_31 : decode cX3_sort 31 = .ok (.aload_n 0, 1) := by decide +kernel
theorem dX3_sort_32 : decode cX3_sort 32 = .ok (.getfield 24, 3) := by decide +kernel
theorem dX3_sort_35 : decode cX3_sort 35 = .ok (.iconst 0, 1) := by decide +kernel
theorem dX3_sort_36 : decode cX3_sort 36 = .ok (.aload_n 0, 1) := by decide +kernel
theorem dX3_sort_37 : decode cX3_sort 37 = .ok (.getfield 27, 3) := by decide +kernel
theorem dX3_sort_40 : decode cX3_sort 40 = .ok (.invokestatic 125, 3) := by decide +kernel
theorem dX3_sort_43 : decode cX3_sort 43 = .ok (.iconst 0, 1) := by decide +kernel
theorem dX3_sort_44 : decode cX3_sort 44 = .ok (.istore_n 2, 1) := by decide +kernel
theorem dX3_sort_45 : decode cX3_sort 45 = .ok (.iconst 1, 1) := by decide +kernel
theorem dX3_sort_46 : decode cX3_sort 46 = .ok (.istore_n 3, 1) := by decide +kernel
theorem dX3_sort_47 : decode cX3_sort 47 = .ok (.iload_n 3, 1) := by decide +kernel
theorem dX3_sort_48 : decode cX3_sort 48 = .ok (.aload_n 0, 1) := by decide +kernel
theorem dX3_sort_49 : decode cX3_sort 49 = .ok (.getfield 27, 3) := by decide +kernel
theorem dX3_sort_52 : decode cX3_sort 52 = .ok (.if_icmp .ge 28, 3) := by decide +kernel
theorem dX3_sort_55 : decode cX3_sort 55 = .ok (.aload_n 0, 1) := by decide +kernel
theorem dX3_sort_56 : decode cX3_sort 56 = .ok (.getfield 56, 3) := by decide +kernel
theorem dX3_sort_59 : decode cX3_sort 59 = .ok (.invokevirtual 110, 3) := by decide +kernel
theorem dX3_sort_62 : decode cX3_sort 62 = .ok (.ifCond .ne 18, 3) := by decide +kernel
theorem dX3_sort_65 : decode cX3_sort 65 = .ok (.iload_n 2, 1) := by decide +kernel
theorem dX3_sort_66 : decode cX3_sort 66 = .ok (.aload_n 0, 1) := by decide +kernel
theorem dX3_sort_67 : decode cX3_sort 67 = .ok (.iload_n 1, 1) := by decide +kernel
theorem dX3_sort_68 : decode cX3_sort 68 = .ok (.iload_n 3, 1) := by decide +kernel
theorem dX3_sort_69 : decode cX3_sort 69 = .ok (.invokevirtual 131, 3) := by decide +kernel
theorem dX3_sort_72 : decode cX3_sort 72 = .ok (.iadd, 1) := by decide +kernel
theorem dX3_sort_73 : decode cX3_sort 73 = .ok (.istore_n 2, 1) := by decide +kernel
theorem dX3_sort_74 : decode cX3_sort 74 = .ok (.iinc 3 1, 3) := by decide +kernel
theorem dX3_sort_77 : decode cX3_sort 77 = .ok (.goto (-30), 3) := by decide +kernel
theorem dX3_sort_80 : decode cX3_sort 80 = .ok (.aload_n 0, 1) := by decide +kernel
theorem dX3_sort_81 : decode cX3_sort 81 = .ok (.getfield 56, 3) := by decide +kernel
theorem dX3_sort_84 : decode cX3_sort 84 = .ok (.invokevirtual 110, 3) := by decide +kernel
theorem dX3_sort_87 : decode cX3_sort 87 = .ok (.ifCond .eq 11, 3) := by decide +kernel
theorem dX3_sort_90 : decode cX3_sort 90 = .ok (.aload_n 0, 1) := by decide +kernel
theorem dX3_sort_91 : decode cX3_sort 91 = .ok (.getfield 56, 3) := by decide +kernel
theorem dX3_sort_94 : decode cX3_sort 94 = .ok (.invokevirtual 113, 3) := by decide +kernel
theorem dX3_sort_97 : decode cX3_sort 97 = .ok (.ireturn, 1) := by decide +kernel
theorem dX3_sort_98 : decode cX3_sort 98 = .ok (.aload_n 0, 1) := by decide +kernel
theorem dX3_sort_99 : decode cX3_sort 99 = .ok (.aload_n 0, 1) := by decide +kernel
theorem dX3_sort_100 : decode cX3_sort 100 = .ok (.getfield 27, 3) := by decide +kernel
theorem dX3_sort_103 : decode cX3_sort 103 = .ok (.invokevirtual 121, 3) := by decide +kernel
theorem dX3_sort_106 : decode cX3_sort 106 = .ok (.iload_n 2, 1) := by decide +kernel
theorem dX3_sort_107 : decode cX3_sort 107 = .ok (.ireturn, 1) := by decide +kernel
theorem dX3_sum_0 : decode cX3_sum 0 = .ok (.aload_n 0, 1) := by decide +kernel
theorem dX3_sum_1 : decode cX3_sum 1 = .ok (.getfield 33, 3) := by decide +kernel
theorem dX3_sum_4 : decode cX3_sum 4 = .ok (.iload_n 1, 1) := by decide +kernel
theorem dX3_sum_5 : decode cX3_sum 5 = .ok (.invokevirtual 100, 3) := by decide +kernel
theorem dX3_sum_8 : decode cX3_sum 8 = .ok (.ifCond .ne 5, 3) := by decide +kernel
theorem dX3_sum_11 : decode cX3_sum 11 = .ok (.iconst (-1), 1) := by decide +kernel
theorem dX3_sum_12 : decode cX3_sum 12 = .ok (.ireturn, 1) := by decide +kernel
theorem dX3_sum_13 : decode cX3_sum 13 = .ok (.aload_n 0, 1) := by decide +kernel
theorem dX3_sum_14 : decode cX3_sum 14 = .ok (.getfield 56, 3) := by decide +kernel
theorem dX3_sum_17 : decode cX3_sum 17 = .ok (.invokevirtual 103, 3) := by decide +kernel
theorem dX3_sum_20 : decode cX3_sum 20 = .ok (.ifCond .ne 6, 3) := by decide +kernel
theorem dX3_sum_23 : decode cX3_sum 23 = .ok (.bipush (-2), 2) := by decide +kernel
theorem dX3_sum_25 : decode cX3_sum 25 = .ok (.ireturn, 1) := by decide +kernel
theorem dX3_sum_26 : decode cX3_sum 26 = .ok (.lconst 0, 1) := by decide +kernel
theorem dX3_sum_27 : decode cX3_sum 27 = .ok (.lstore_n 2, 1) := by decide +kernel
theorem dX3_sum_28 : decode cX3_sum 28 = .ok (.iconst 0, 1) := by decide +kernel
theorem dX3_sum_29 : decode cX3_sum 29 = .ok (.istore 4, 2) := by decide +kernel
theorem dX3_sum_31 : decode cX3_sum 31 = .ok (.iload 4, 2) := by decide +kernel
theorem dX3_sum_33 : decode cX3_sum 33 = .ok (.aload_n 0, 1) := by decide +kernel
theorem dX3_sum_34 : decode cX3_sum 34 = .ok (.getfield 27, 3) := by decide +kernel
theorem dX3_sum_37 : decode cX3_sum 37 = .ok (.if_icmp .ge 34, 3) := by decide +kernel
theorem dX3_sum_40 : decode cX3_sum 40 = .ok (.aload_n 0, 1) := by decide +kernel
theorem dX3_sum_41 : decode cX3_sum 41 = .ok (.getfield 56, 3) := by decide +kernel
theorem dX3_sum_44 : decode cX3_sum 44 = .ok (.invokevirtual 110, 3) := by decide +kernel
theorem dX3_sum_47 : decode cX3_sum 47 = .ok (.ifCond .ne 24, 3) := by decide +kernel
theorem dX3_sum_50 : decode cX3_sum 50 = .ok (.lload_n 2, 1) := by decide +kernel
theorem dX3_sum_51 : decode cX3_sum 51 = .ok (.aload_n 0, 1) := by decide +kernel
theorem dX3_sum_52 : decode cX3_sum 52 = .ok (.iload_n 1, 1) := by decide +kernel
theorem dX3_sum_53 : decode cX3_sum 53 = .ok (.aload_n 0, 1) := by decide +kernel
theorem dX3_sum_54 : decode cX3_sum 54 = .ok (.getfield 20, 3) := by decide +kernel
theorem dX3_sum_57 : decode cX3_sum 57 = .ok (.iload 4, 2) := by decide +kernel
theorem dX3_sum_59 : decode cX3_sum 59 = .ok (.iaload, 1) := by decide +kernel
theorem dX3_sum_60 : decode cX3_sum 60 = .ok (.invokevirtual 106, 3) := by decide +kernel
theorem dX3_sum_63 : decode cX3_sum 63 = .ok (.ladd, 1) := by decide +kernel
theorem dX3_sum_64 : decode cX3_sum 64 = .ok (.lstore_n 2, 1) := by decide +kernel
theorem dX3_sum_65 : decode cX3_sum 65 = .ok (.iinc 4 1, 3) := by decide +kernel
theorem dX3_sum_68 : decode cX3_sum 68 = .ok (.goto (-37), 3) := by decide +kernel
theorem dX3_sum_71 : decode cX3_sum 71 = .ok (.aload_n 0, 1) := by decide +kernel
theorem dX3_sum_72 : decode cX3_sum 72 = .ok (.getfield 56, 3) := by decide +kernel
theorem dX3_sum_75 : decode cX3_sum 75 = .ok (.invokevirtual 110, 3) := by decide +kernel
theorem dX3_sum_78 : decode cX3_sum 78 = .ok (.ifCond .eq 11, 3) := by decide +kernel
theorem dX3_sum_81 : decode cX3_sum 81 = .ok (.aload_n 0, 1) := by decide +kernel
theorem dX3_sum_82 : decode cX3_sum 82 = .ok (.getfield 56, 3) := by decide +kernel
theorem dX3_sum_85 : decode cX3_sum 85 = .ok (.invokevirtual 113, 3) := by decide +kernel
theorem dX3_sum_88 : decode cX3_sum 88 = .ok (.ireturn, 1) := by decide +kernel
theorem dX3_sum_89 : decode cX3_sum 89 = .ok (.aload_n 0, 1) := by decide +kernel
theorem dX3_sum_90 : decode cX3_sum 90 = .ok (.lload_n 2, 1) := by decide +kernel
theorem dX3_sum_91 : decode cX3_sum 91 = .ok (.putfield 60, 3) := by decide +kernel
theorem dX3_sum_94 : decode cX3_sum 94 = .ok (.iconst 1, 1) := by decide +kernel
theorem dX3_sum_95 : decode cX3_sum 95 = .ok (.ireturn, 1) := by decide +kernel
theorem dX3_group_0 : decode cX3_group 0 = .ok (.aload_n 0, 1) := by decide +kernel
theorem dX3_group_1 : decode cX3_group 1 = .ok (.getfield 33, 3) := by decide +kernel
theorem dX3_group_4 : decode cX3_group 4 = .ok (.iload_n 1, 1) := by decide +kernel
theorem dX3_group_5 : decode cX3_group 5 = .ok (.invokevirtual 100, 3) := by decide +kernel
theorem dX3_group_8 : decode cX3_group 8 = .ok (.ifCond .eq 14, 3) := by decide +kernel
theorem dX3_group_11 : decode cX3_group 11 = .ok (.aload_n 0, 1) := by decide +kernel
theorem dX3_group_12 : decode cX3_group 12 = .ok (.getfield 33, 3) := by decide +kernel
theorem dX3_group_15 : decode cX3_group 15 = .ok (.iload_n 2, 1) := by decide +kernel
theorem dX3_group_16 : decode cX3_group 16 = .ok (.invokevirtual 100, 3) := by decide +kernel
theorem dX3_group_19 : decode cX3_group 19 = .ok (.ifCond .ne 5, 3) := by decide +kernel
theorem dX3_group_22 : decode cX3_group 22 = .ok (.iconst (-1), 1) := by decide +kernel
theorem dX3_group_23 : decode cX3_group 23 = .ok (.ireturn, 1) := by decide +kernel
theorem dX3_group_24 : decode cX3_group 24 = .ok (.aload_n 0, 1) := by decide +kernel
theorem dX3_group_25 : decode cX3_group 25 = .ok (.getfield 56, 3) := by decide +kernel
theorem dX3_group_28 : decode cX3_group 28 = .ok (.invokevirtual 103, 3) := by decide +kernel
theorem dX3_group_31 : decode cX3_group 31 = .ok (.ifCond .ne 6, 3) := by decide +kernel
theorem dX3_group_34 : decode cX3_group 34 = .ok (.bipush (-2), 2) := by decide +kernel
theorem dX3_group_36 : decode cX3_group 36 = .ok (.ireturn, 1) := by decide +kernel
theorem dX3_group_37 : decode cX3_group 37 = .ok (.aload_n 0, 1) := by decide +kernel
theorem dX3_group_38 : decode cX3_group 38 = .ok (.getfield 50, 3) := by decide +kernel
theorem dX3_group_41 : decode cX3_group 41 = .ok (.invokevirtual 134, 3) := by decide +kernel
theorem dX3_group_44 : decode cX3_group 44 = .ok (.iconst 0, 1) := by decide +kernel
theorem dX3_group_45 : decode cX3_group 45 = .ok (.istore_n 3, 1) := by decide +kernel
theorem dX3_group_46 : decode cX3_group 46 = .ok (.iload_n 3, 1) := by decide +kernel
theorem dX3_group_47 : decode cX3_group 47 = .ok (.aload_n 0, 1) := by decide +kernel
theorem dX3_group_48 : decode cX3_group 48 = .ok (.getfield 27, 3) := by decide +kernel
theorem dX3_group_51 : decode cX3_group 51 = .ok (.if_icmp .ge 58, 3) := by decide +kernel
theorem dX3_group_54 : decode cX3_group 54 = .ok (.aload_n 0, 1) := by decide +kernel
theorem dX3_group_55 : decode cX3_group 55 = .ok (.getfield 56, 3) := by decide +kernel
theorem dX3_group_58 : decode cX3_group 58 = .ok (.invokevirtual 110, 3) := by decide +kernel
theorem dX3_group_61 : decode cX3_group 61 = .ok (.ifCond .ne 48, 3) := by decide +kernel
theorem dX3_group_64 : decode cX3_group 64 = .ok (.aload_n 0, 1) := by decide +kernel
theorem dX3_group_65 : decode cX3_group 65 = .ok (.iload_n 1, 1) := by decide +kernel
theorem dX3_group_66 : decode cX3_group 66 = .ok (.aload_n 0, 1) := by decide +kernel
theorem dX3_group_67 : decode cX3_group 67 = .ok (.getfield 20, 3) := by decide +kernel
theorem dX3_group_70 : decode cX3_group 70 = .ok (.iload_n 3, 1) := by decide +kernel
theorem dX3_group_71 : decode cX3_group 71 = .ok (.iaload, 1) := by decide +kernel
theorem dX3_group_72 : decode cX3_group 72 = .ok (.invokevirtual 106, 3) := by decide +kernel
theorem dX3_group_75 : decode cX3_group 75 = .ok (.lstore 4, 2) := by decide +kernel
theorem dX3_group_77 : decode cX3_group 77 = .ok (.aload_n 0, 1) := by decide +kernel
theorem dX3_group_78 : decode cX3_group 78 = .ok (.getfield 50, 3) := by decide +kernel
theorem dX3_group_81 : decode cX3_group 81 = .ok (.lload 4, 2) := by decide +kernel
theorem dX3_group_83 : decode cX3_group 83 = .ok (.aload_n 0, 1) := by decide +kernel
theorem dX3_group_84 : decode cX3_group 84 = .ok (.iload_n 2, 1) := by decide +kernel
theorem dX3_group_85 : decode cX3_group 85 = .ok (.aload_n 0, 1) := by decide +kernel
theorem dX3_group_86 : decode cX3_group 86 = .ok (.getfield 20, 3) := by decide +kernel
theorem dX3_group_89 : decode cX3_group 89 = .ok (.iload_n 3, 1) := by decide +kernel
theorem dX3_group_90 : decode cX3_group 90 = .ok (.iaload, 1) := by decide +kernel
theorem dX3_group_91 : decode cX3_group 91 = .ok (.invokevirtual 106, 3) := by decide +kernel
theorem dX3_group_94 : decode cX3_group 94 = .ok (.aload_n 0, 1) := by decide +kernel
theorem dX3_group_95 : decode cX3_group 95 = .ok (.getfield 20, 3) := by decide +kernel
theorem dX3_group_98 : decode cX3_group 98 = .ok (.iload_n 3, 1) := by decide +kernel
theorem dX3_group_99 : decode cX3_group 99 = .ok (.iaload, 1) := by decide +kernel
theorem dX3_group_100 : decode cX3_group 100 = .ok (.invokevirtual 137, 3) := by decide +kernel
theorem dX3_group_103 : decode cX3_group 103 = .ok (.iinc 3 1, 3) := by decide +kernel
theorem dX3_group_106 : decode cX3_group 106 = .ok (.goto (-60), 3) := by decide +kernel
theorem dX3_group_109 : decode cX3_group 109 = .ok (.aload_n 0, 1) := by decide +kernel
theorem dX3_group_110 : decode cX3_group 110 = .ok (.getfield 56, 3) := by decide +kernel
theorem dX3_group_113 : decode cX3_group 113 = .ok (.invokevirtual 110, 3) := by decide +kernel
theorem dX3_group_116 : decode cX3_group 116 = .ok (.ifCond .eq 11, 3) := by decide +kernel
theorem dX3_group_119 : decode cX3_group 119 = .ok (.aload_n 0, 1) := by decide +kernel
theorem dX3_group_120 : decode cX3_group 120 = .ok (.getfield 56, 3) := by decide +kernel
theorem dX3_group_123 : decode cX3_group 123 = .ok (.invokevirtual 113, 3) := by decide +kernel
theorem dX3_group_126 : decode cX3_group 126 = .ok (.ireturn, 1) := by decide +kernel
theorem dX3_group_127 : decode cX3_group 127 = .ok (.aload_n 0, 1) := by decide +kernel
theorem dX3_group_128 : decode cX3_group 128 = .ok (.getfield 46, 3) := by decide +kernel
theorem dX3_group_131 : decode cX3_group 131 = .ok (.astore_n 3, 1) := by decide +kernel
theorem dX3_group_132 : decode cX3_group 132 = .ok (.aload_n 0, 1) := by decide +kernel
theorem dX3_group_133 : decode cX3_group 133 = .ok (.aload_n 0, 1) := by decide +kernel
theorem dX3_group_134 : decode cX3_group 134 = .ok (.getfield 50, 3) := by decide +kernel
theorem dX3_group_137 : decode cX3_group 137 = .ok (.putfield 46, 3) := by decide +kernel
theorem dX3_group_140 : decode cX3_group 140 = .ok (.aload_n 0, 1) := by decide +kernel
theorem dX3_group_141 : decode cX3_group 141 = .ok (.aload_n 3, 1) := by decide +kernel
theorem dX3_group_142 : decode cX3_group 142 = .ok (.putfield 50, 3) := by decide +kernel
theorem dX3_group_145 : decode cX3_group 145 = .ok (.aload_n 0, 1) := by decide +kernel
theorem dX3_group_146 : decode cX3_group 146 = .ok (.getfield 46, 3) := by decide +kernel
theorem dX3_group_149 : decode cX3_group 149 = .ok (.getfield 141, 3) := by decide +kernel
theorem dX3_group_152 : decode cX3_group 152 = .ok (.ireturn, 1) := by decide +kernel
theorem dX3_answer_0 : decode cX3_answer 0 = .ok (.aload_n 0, 1) := by decide +kernel
theorem dX3_answer_1 : decode cX3_answer 1 = .ok (.getfield 60, 3) := by decide +kernel
theorem dX3_answer_4 : decode cX3_answer 4 = .ok (.lreturn, 1) := by decide +kernel
theorem dX3_groups_0 : decode cX3_groups 0 = .ok (.aload_n 0, 1) := by decide +kernel
theorem dX3_groups_1 : decode cX3_groups 1 = .ok (.getfield 46, 3) := by decide +kernel
theorem dX3_groups_4 : decode cX3_groups 4 = .ok (.iload_n 1, 1) := by decide +kernel
theorem dX3_groups_5 : decode cX3_groups 5 = .ok (.iload_n 2, 1) := by decide +kernel
theorem dX3_groups_6 : decode cX3_groups 6 = .ok (.invokevirtual 144, 3) := by decide +kernel
theorem dX3_groups_9 : decode cX3_groups 9 = .ok (.lreturn, 1) := by decide +kernel
theorem dX3_count_0 : decode cX3_count 0 = .ok (.iload_n 1, 1) := by decide +kernel
theorem dX3_count_1 : decode cX3_count 1 = .ok (.tableswitch 141 0 10 #[59, 64, 72, 80, 88, 93, 101, 109, 117, 125, 133], 59) := by decide +kernel
theorem dX3_count_60 : decode cX3_count 60 = .ok (.aload_n 0, 1) := by decide +kernel
theorem dX3_count_61 : decode cX3_count 61 = .ok (.getfield 13, 3) := by decide +kernel
theorem dX3_count_64 : decode cX3_count 64 = .ok (.ireturn, 1) := by decide +kernel
theorem dX3_count_65 : decode cX3_count 65 = .ok (.aload_n 0, 1) := by decide +kernel
theorem dX3_count_66 : decode cX3_count 66 = .ok (.getfield 33, 3) := by decide +kernel
theorem dX3_count_69 : decode cX3_count 69 = .ok (.getfield 147, 3) := by decide +kernel
theorem dX3_count_72 : decode cX3_count 72 = .ok (.ireturn, 1) := by decide +kernel
theorem dX3_count_73 : decode cX3_count 73 = .ok (.aload_n 0, 1) := by decide +kernel
theorem dX3_count_74 : decode cX3_count 74 = .ok (.getfield 37, 3) := by decide +kernel
theorem dX3_count_77 : decode cX3_count 77 = .ok (.getfield 147, 3) := by decide +kernel
theorem dX3_count_80 : decode cX3_count 80 = .ok (.ireturn, 1) := by decide +kernel
theorem dX3_count_81 : decode cX3_count 81 = .ok (.aload_n 0, 1) := by decide +kernel
theorem dX3_count_82 : decode cX3_count 82 = .ok (.getfield 40, 3) := by decide +kernel
theorem dX3_count_85 : decode cX3_count 85 = .ok (.getfield 147, 3) := by decide +kernel
theorem dX3_count_88 : decode cX3_count 88 = .ok (.ireturn, 1) := by decide +kernel
theorem dX3_count_89 : decode cX3_count 89 = .ok (.aload_n 0, 1) := by decide +kernel
theorem dX3_count_90 : decode cX3_count 90 = .ok (.getfield 27, 3) := by decide +kernel
theorem dX3_count_93 : decode cX3_count 93 = .ok (.ireturn, 1) := by decide +kernel
theorem dX3_count_94 : decode cX3_count 94 = .ok (.aload_n 0, 1) := by decide +kernel
theorem dX3_count_95 : decode cX3_count 95 = .ok (.getfield 46, 3) := by decide +kernel
theorem dX3_count_98 : decode cX3_count 98 = .ok (.getfield 141, 3) := by decide +kernel
theorem dX3_count_101 : decode cX3_count 101 = .ok (.ireturn, 1) := by decide +kernel
theorem dX3_count_102 : decode cX3_count 102 = .ok (.aload_n 0, 1) := by decide +kernel
theorem dX3_count_103 : decode cX3_count 103 = .ok (.getfield 56, 3) := by decide +kernel
theorem dX3_count_106 : decode cX3_count 106 = .ok (.getfield 148, 3) := by decide +kernel
theorem dX3_count_109 : decode cX3_count 109 = .ok (.ireturn, 1) := by decide +kernel
theorem dX3_count_110 : decode cX3_count 110 = .ok (.aload_n 0, 1) := by decide +kernel
theorem dX3_count_111 : decode cX3_count 111 = .ok (.getfield 56, 3) := by decide +kernel
theorem dX3_count_114 : decode cX3_count 114 = .ok (.getfield 151, 3) := by decide +kernel
theorem dX3_count_117 : decode cX3_count 117 = .ok (.ireturn, 1) := by decide +kernel
theorem dX3_count_118 : decode cX3_count 118 = .ok (.aload_n 0, 1) := by decide +kernel
theorem dX3_count_119 : decode cX3_count 119 = .ok (.getfield 56, 3) := by decide +kernel
theorem dX3_count_122 : decode cX3_count 122 = .ok (.getfield 154, 3) := by decide +kernel
theorem dX3_count_125 : decode cX3_count 125 = .ok (.ireturn, 1) := by decide +kernel
theorem dX3_count_126 : decode cX3_count 126 = .ok (.aload_n 0, 1) := by decide +kernel
theorem dX3_count_127 : decode cX3_count 127 = .ok (.getfield 56, 3) := by decide +kernel
theorem dX3_count_130 : decode cX3_count 130 = .ok (.getfield 157, 3) := by decide +kernel
theorem dX3_count_133 : decode cX3_count 133 = .ok (.ireturn, 1) := by decide +kernel
theorem dX3_count_134 : decode cX3_count 134 = .ok (.aload_n 0, 1) := by decide +kernel
theorem dX3_count_135 : decode cX3_count 135 = .ok (.getfield 56, 3) := by decide +kernel
theorem dX3_count_138 : decode cX3_count 138 = .ok (.getfield 160, 3) := by decide +kernel
theorem dX3_count_141 : decode cX3_count 141 = .ok (.ireturn, 1) := by decide +kernel
theorem dX3_count_142 : decode cX3_count 142 = .ok (.iconst (-1), 1) := by decide +kernel
theorem dX3_count_143 : decode cX3_count 143 = .ok (.ireturn, 1) := by decide +kernel
theorem dX3_isThing_0 : decode cX3_isThing 0 = .ok (.iload_n 1, 1) := by decide +kernel
theorem dX3_isThing_1 : decode cX3_isThing 1 = .ok (.ifCond .lt 15, 3) := by decide +kernel
theorem dX3_isThing_4 : decode cX3_isThing 4 = .ok (.iload_n 1, 1) := by decide +kernel
theorem dX3_isThing_5 : decode cX3_isThing 5 = .ok (.aload_n 0, 1) := by decide +kernel
theorem dX3_isThing_6 : decode cX3_isThing 6 = .ok (.getfield 13, 3) := by decide +kernel
theorem dX3_isThing_9 : decode cX3_isThing 9 = .ok (.if_icmp .ge 7, 3) := by decide +kernel
theorem dX3_isThing_12 : decode cX3_isThing 12 = .ok (.iconst 1, 1) := by decide +kernel
theorem dX3_isThing_13 : decode cX3_isThing 13 = .ok (.goto 4, 3) := by decide +kernel
theorem dX3_isThing_16 : decode cX3_isThing 16 = .ok (.iconst 0, 1) := by decide +kernel
theorem dX3_isThing_17 : decode cX3_isThing 17 = .ok (.ireturn, 1) := by decide +kernel
theorem dX3_isColumn_0 : decode cX3_isColumn 0 = .ok (.iload_n 0, 1) := by decide +kernel
theorem dX3_isColumn_1 : decode cX3_isColumn 1 = .ok (.ifCond .lt 12, 3) := by decide +kernel
theorem dX3_isColumn_4 : decode cX3_isColumn 4 = .ok (.iload_n 0, 1) := by decide +kernel
theorem dX3_isColumn_5 : decode cX3_isColumn 5 = .ok (.iconst 3, 1) := by decide +kernel
theorem dX3_isColumn_6 : decode cX3_isColumn 6 = .ok (.if_icmp .ge 7, 3) := by decide +kernel
theorem dX3_isColumn_9 : decode cX3_isColumn 9 = .ok (.iconst 1, 1) := by decide +kernel
theorem dX3_isColumn_10 : decode cX3_isColumn 10 = .ok (.goto 4, 3) := by decide +kernel
theorem dX3_isColumn_13 : decode cX3_isColumn 13 = .ok (.iconst 0, 1) := by decide +kernel
theorem dX3_isColumn_14 : decode cX3_isColumn 14 = .ok (.ireturn, 1) := by decide +kernel
theorem dX3_isPlaceOfRow_0 : decode cX3_isPlaceOfRow 0 = .ok (.lload_n 0, 1) := by decide +kernel
theorem dX3_isPlaceOfRow_1 : decode cX3_isPlaceOfRow 1 = .ok (.lconst 0, 1) := by decide +kernel
theorem dX3_isPlaceOfRow_2 : decode cX3_isPlaceOfRow 2 = .ok (.lcmp, 1) := by decide +kernel
theorem dX3_isPlaceOfRow_3 : decode cX3_isPlaceOfRow 3 = .ok (.ifCond .lt 15, 3) := by decide +kernel
theorem dX3_isPlaceOfRow_6 : decode cX3_isPlaceOfRow 6 = .ok (.lload_n 0, 1) := by decide +kernel
theorem dX3_isPlaceOfRow_7 : decode cX3_isPlaceOfRow 7 = .ok (.ldc2_w 163, 3) := by decide +kernel
theorem dX3_isPlaceOfRow_10 : decode cX3_isPlaceOfRow 10 = .ok (.lcmp, 1) := by decide +kernel
theorem dX3_isPlaceOfRow_11 : decode cX3_isPlaceOfRow 11 = .ok (.ifCond .ge 7, 3) := by decide +kernel
theorem dX3_isPlaceOfRow_14 : decode cX3_isPlaceOfRow 14 = .ok (.iconst 1, 1) := by decide +kernel
theorem dX3_isPlaceOfRow_15 : decode cX3_isPlaceOfRow 15 = .ok (.goto 4, 3) := by decide +kernel
theorem dX3_isPlaceOfRow_18 : decode cX3_isPlaceOfRow 18 = .ok (.iconst 0, 1) := by decide +kernel
theorem dX3_isPlaceOfRow_19 : decode cX3_isPlaceOfRow 19 = .ok (.ireturn, 1) := by decide +kernel
theorem dX3_cellOf_0 : decode cX3_cellOf 0 = .ok (.iload_n 0, 1) := by decide +kernel
theorem dX3_cellOf_1 : decode cX3_cellOf 1 = .ok (.iconst 3, 1) := by decide +kernel
theorem dX3_cellOf_2 : decode cX3_cellOf 2 = .ok (.imul, 1) := by decide +kernel
theorem dX3_cellOf_3 : decode cX3_cellOf 3 = .ok (.iload_n 1, 1) := by decide +kernel
theorem dX3_cellOf_4 : decode cX3_cellOf 4 = .ok (.iadd, 1) := by decide +kernel
theorem dX3_cellOf_5 : decode cX3_cellOf 5 = .ok (.ireturn, 1) := by decide +kernel
theorem dX3_canMakeScale_0 : decode cX3_canMakeScale 0 = .ok (.iload_n 1, 1) := by decide +kernel
theorem dX3_canMakeScale_1 : decode cX3_canMakeScale 1 = .ok (.tableswitch 166 0 11 #[63, 164, 68, 68, 68, 68, 96, 124, 133, 139, 164, 164], 63) := by decide +kernel
theorem dX3_canMakeScale_64 : decode cX3_canMakeScale 64 = .ok (.iload_n 2, 1) := by decide +kernel
theorem dX3_canMakeScale_65 : decode cX3_canMakeScale 65 = .ok (.invokestatic 72, 3) := by decide +kernel
theorem dX3_canMakeScale_68 : decode cX3_canMakeScale 68 = .ok (.ireturn, 1) := by decide +kernel
theorem dX3_canMakeScale_69 : decode cX3_canMakeScale 69 = .ok (.aload_n 0, 1) := by decide +kernel
theorem dX3_canMakeScale_70 : decode cX3_canMakeScale 70 = .ok (.getfield 33, 3) := by decide +kernel
theorem dX3_canMakeScale_73 : decode cX3_canMakeScale 73 = .ok (.iload_n 2, 1) := by decide +kernel
theorem dX3_canMakeScale_74 : decode cX3_canMakeScale 74 = .ok (.invokevirtual 100, 3) := by decide +kernel
theorem dX3_canMakeScale_77 : decode cX3_canMakeScale 77 = .ok (.ifCond .eq 18, 3) := by decide +kernel
theorem dX3_canMakeScale_80 : decode cX3_canMakeScale 80 = .ok (.aload_n 0, 1) := by decide +kernel
theorem dX3_canMakeScale_81 : decode cX3_canMakeScale 81 = .ok (.getfield 33, 3) := by decide +kernel
theorem dX3_canMakeScale_84 : decode cX3_canMakeScale 84 = .ok (.iload_n 3, 1) := by decide +kernel
theorem dX3_canMakeScale_85 : decode cX3_canMakeScale 85 = .ok (.invokevirtual 100, 3) := by decide +kernel
theorem dX3_canMakeScale_88 : decode cX3_canMakeScale 88 = .ok (.ifCond .eq 7, 3) := by decide +kernel
theorem dX3_canMakeScale_91 : decode cX3_canMakeScale 91 = .ok (.iconst 1, 1) := by decide +kernel
theorem dX3_canMakeScale_92 : decode cX3_canMakeScale 92 = .ok (.goto 4, 3) := by decide +kernel
theorem dX3_canMakeScale_95 : decode cX3_canMakeScale 95 = .ok (.iconst 0, 1) := by decide +kernel
theorem dX3_canMakeScale_96 : decode cX3_canMakeScale 96 = .ok (.ireturn, 1) := by decide +kernel
theorem dX3_canMakeScale_97 : decode cX3_canMakeScale 97 = .ok (.aload_n 0, 1) := by decide +kernel
theorem dX3_canMakeScale_98 : decode cX3_canMakeScale 98 = .ok (.getfield 37, 3) := by decide +kernel
theorem dX3_canMakeScale_101 : decode cX3_canMakeScale 101 = .ok (.iload_n 2, 1) := by decide +kernel
theorem dX3_canMakeScale_102 : decode cX3_canMakeScale 102 = .ok (.invokevirtual 100, 3) := by decide +kernel
theorem dX3_canMakeScale_105 : decode cX3_canMakeScale 105 = .ok (.ifCond .eq 18, 3) := by decide +kernel
theorem dX3_canMakeScale_108 : decode cX3_canMakeScale 108 = .ok (.aload_n 0, 1) := by decide +kernel
theorem dX3_canMakeScale_109 : decode cX3_canMakeScale 109 = .ok (.getfield 33, 3) := by decide +kernel
theorem dX3_canMakeScale_112 : decode cX3_canMakeScale 112 = .ok (.iload_n 3, 1) := by decide +kernel
theorem dX3_canMakeScale_113 : decode cX3_canMakeScale 113 = .ok (.invokevirtual 100, 3) := by decide +kernel
theorem dX3_canMakeScale_116 : decode cX3_canMakeScale 116 = .ok (.ifCond .eq 7, 3) := by decide +kernel
theorem dX3_canMakeScale_119 : decode cX3_canMakeScale 119 = .ok (.iconst 1, 1) := by decide +kernel
theorem dX3_canMakeScale_120 : decode cX3_canMakeScale 120 = .ok (.goto 4, 3) := by decide +kernel
theorem dX3_canMakeScale_123 : decode cX3_canMakeScale 123 = .ok (.iconst 0, 1) := by decide +kernel
theorem dX3_canMakeScale_124 : decode cX3_canMakeScale 124 = .ok (.ireturn, 1) := by decide +kernel
theorem dX3_canMakeScale_125 : decode cX3_canMakeScale 125 = .ok (.aload_n 0, 1) := by decide +kernel
theorem dX3_canMakeScale_126 : decode cX3_canMakeScale 126 = .ok (.getfield 33, 3) := by decide +kernel
theorem dX3_canMakeScale_129 : decode cX3_canMakeScale 129 = .ok (.iload_n 2, 1) := by decide +kernel
theorem dX3_canMakeScale_130 : decode cX3_canMakeScale 130 = .ok (.invokevirtual 100, 3) := by decide +kernel
theorem dX3_canMakeScale_133 : decode cX3_canMakeScale 133 = .ok (.ireturn, 1) := by decide +kernel
theorem dX3_canMakeScale_134 : decode cX3_canMakeScale 134 = .ok (.iload_n 2, 1) := by decide +kernel
theorem dX3_canMakeScale_135 : decode cX3_canMakeScale 135 = .ok (.i2l, 1) := by decide +kernel
theorem dX3_canMakeScale_136 : decode cX3_canMakeScale 136 = .ok (.invokestatic 75, 3) := by decide +kernel
theorem dX3_canMakeScale_139 : decode cX3_canMakeScale 139 = .ok (.ireturn, 1) := by decide +kernel
theorem dX3_canMakeScale_140 : decode cX3_canMakeScale 140 = .ok (.aload_n 0, 1) := by decide +kernel
theorem dX3_canMakeScale_141 : decode cX3_canMakeScale 141 = .ok (.getfield 33, 3) := by decide +kernel
theorem dX3_canMakeScale_144 : decode cX3_canMakeScale 144 = .ok (.iload_n 2, 1) := by decide +kernel
theorem dX3_canMakeScale_145 : decode cX3_canMakeScale 145 = .ok (.invokevirtual 100, 3) := by decide +kernel
theorem dX3_canMakeScale_148 : decode cX3_canMakeScale 148 = .ok (.ifCond .eq 15, 3) := by decide +kernel
theorem dX3_canMakeScale_151 : decode cX3_canMakeScale 151 = .ok (.aload_n 0, 1) := by decide +kernel
theorem dX3_canMakeScale_152 : decode cX3_canMakeScale 152 = .ok (.iload_n 3, 1) := by decide +kernel
theorem dX3_canMakeScale_153 : decode cX3_canMakeScale 153 = .ok (.invokevirtual 68, 3) := by decide +kernel
theorem dX3_canMakeScale_156 : decode cX3_canMakeScale 156 = .ok (.ifCond .eq 7, 3) := by decide +kernel
theorem dX3_canMakeScale_159 : decode cX3_canMakeScale 159 = .ok (.iconst 1, 1) := by decide +kernel
theorem dX3_canMakeScale_160 : decode cX3_canMakeScale 160 = .ok (.goto 4, 3) := by decide +kernel
theorem dX3_canMakeScale_163 : decode cX3_canMakeScale 163 = .ok (.iconst 0, 1) := by decide +kernel
theorem dX3_canMakeScale_164 : decode cX3_canMakeScale 164 = .ok (.ireturn, 1) := by decide +kernel
theorem dX3_canMakeScale_165 : decode cX3_canMakeScale 165 = .ok (.iconst 1, 1) := by decide +kernel
theorem dX3_canMakeScale_166 : decode cX3_canMakeScale 166 = .ok (.ireturn, 1) := by decide +kernel
theorem dX3_canMakeScale_167 : decode cX3_canMakeScale 167 = .ok (.iconst 0, 1) := by decide +kernel
theorem dX3_canMakeScale_168 : decode cX3_canMakeScale 168 = .ok (.ireturn, 1) := by decide +kernel
theorem dX3_canMakeSieve_0 : decode cX3_canMakeSieve 0 = .ok (.iload_n 1, 1) := by decide +kernel
theorem dX3_canMakeSieve_1 : decode cX3_canMakeSieve 1 = .ok (.tableswitch 122 0 9 #[120, 55, 55, 83, 92, 92, 120, 120, 83, 120], 55) := by decide +kernel
theorem dX3_canMakeSieve_56 : decode cX3_canMakeSieve 56 = .ok (.aload_n 0, 1) := by decide +kernel
theorem dX3_canMakeSieve_57 : decode cX3_canMakeSieve 57 = .ok (.getfield 33, 3) := by decide +kernel
theorem dX3_canMakeSieve_60 : decode cX3_canMakeSieve 60 = .ok (.iload_n 2, 1) := by decide +kernel
theorem dX3_canMakeSieve_61 : decode cX3_canMakeSieve 61 = .ok (.invokevirtual 100, 3) := by decide +kernel
theorem dX3_canMakeSieve_64 : decode cX3_canMakeSieve 64 = .ok (.ifCond .eq 18, 3) := by decide +kernel
theorem dX3_canMakeSieve_67 : decode cX3_canMakeSieve 67 = .ok (.aload_n 0, 1) := by decide +kernel
theorem dX3_canMakeSieve_68 : decode cX3_canMakeSieve 68 = .ok (.getfield 33, 3) := by decide +kernel
theorem dX3_canMakeSieve_71 : decode cX3_canMakeSieve 71 = .ok (.iload_n 3, 1) := by decide +kernel
theorem dX3_canMakeSieve_72 : decode cX3_canMakeSieve 72 = .ok (.invokevirtual 100, 3) := by decide +kernel
theorem dX3_canMakeSieve_75 : decode cX3_canMakeSieve 75 = .ok (.ifCond .eq 7, 3) := by decide +kernel
theorem dX3_canMakeSieve_78 : decode cX3_canMakeSieve 78 = .ok (.iconst 1, 1) := by decide +kernel
theorem dX3_canMakeSieve_79 : decode cX3_canMakeSieve 79 = .ok (.goto 4, 3) := by decide +kernel
theorem dX3_canMakeSieve_82 : decode cX3_canMakeSieve 82 = .ok (.iconst 0, 1) := by decide +kernel
theorem dX3_canMakeSieve_83 : decode cX3_canMakeSieve 83 = .ok (.ireturn, 1) := by decide +kernel
theorem dX3_canMakeSieve_84 : decode cX3_canMakeSieve 84 = .ok (.aload_n 0, 1) := by decide +kernel
theorem dX3_canMakeSieve_85 : decode cX3_canMakeSieve 85 = .ok (.getfield 37, 3) := by decide +kernel
theorem dX3_canMakeSieve_88 : decode cX3_canMakeSieve 88 = .ok (.iload_n 2, 1) := by decide +kernel
theorem dX3_canMakeSieve_89 : decode cX3_canMakeSieve 89 = .ok (.invokevirtual 100, 3) := by decide +kernel
theorem dX3_canMakeSieve_92 : decode cX3_canMakeSieve 92 = .ok (.ireturn, 1) := by decide +kernel
theorem dX3_canMakeSieve_93 : decode cX3_canMakeSieve 93 = .ok (.aload_n 0, 1) := by decide +kernel
theorem dX3_canMakeSieve_94 : decode cX3_canMakeSieve 94 = .ok (.getfield 37, 3) := by decide +kernel
theorem dX3_canMakeSieve_97 : decode cX3_canMakeSieve 97 = .ok (.iload_n 2, 1) := by decide +kernel
theorem dX3_canMakeSieve_98 : decode cX3_canMakeSieve 98 = .ok (.invokevirtual 100, 3) := by decide +kernel
theorem dX3_canMakeSieve_101 : decode cX3_canMakeSieve 101 = .ok (.ifCond .eq 18, 3) := by decide +kernel
theorem dX3_canMakeSieve_104 : decode cX3_canMakeSieve 104 = .ok (.aload_n 0, 1) := by decide +kernel
theorem dX3_canMakeSieve_105 : decode cX3_canMakeSieve 105 = .ok (.getfield 37, 3) := by decide +kernel
theorem dX3_canMakeSieve_108 : decode cX3_canMakeSieve 108 = .ok (.iload_n 3, 1) := by decide +kernel
theorem dX3_canMakeSieve_109 : decode cX3_canMakeSieve 109 = .ok (.invokevirtual 100, 3) := by decide +kernel
theorem dX3_canMakeSieve_112 : decode cX3_canMakeSieve 112 = .ok (.ifCond .eq 7, 3) := by decide +kernel
theorem dX3_canMakeSieve_115 : decode cX3_canMakeSieve 115 = .ok (.iconst 1, 1) := by decide +kernel
theorem dX3_canMakeSieve_116 : decode cX3_canMakeSieve 116 = .ok (.goto 4, 3) := by decide +kernel
theorem dX3_canMakeSieve_119 : decode cX3_canMakeSieve 119 = .ok (.iconst 0, 1) := by decide +kernel
theorem dX3_canMakeSieve_120 : decode cX3_canMakeSieve 120 = .ok (.ireturn, 1) := by decide +kernel
theorem dX3_canMakeSieve_121 : decode cX3_canMakeSieve 121 = .ok (.iconst 1, 1) := by decide +kernel
theorem dX3_canMakeSieve_122 : decode cX3_canMakeSieve 122 = .ok (.ireturn, 1) := by decide +kernel
theorem dX3_canMakeSieve_123 : decode cX3_canMakeSieve 123 = .ok (.iconst 0, 1) := by decide +kernel
theorem dX3_canMakeSieve_124 : decode cX3_canMakeSieve 124 = .ok (.ireturn, 1) := by decide +kernel
theorem dX3_canMakeOrder_0 : decode cX3_canMakeOrder 0 = .ok (.iload_n 1, 1) := by decide +kernel
theorem dX3_canMakeOrder_1 : decode cX3_canMakeOrder 1 = .ok (.tableswitch 96 0 5 #[39, 48, 57, 85, 94, 94], 39) := by decide +kernel
theorem dX3_canMakeOrder_40 : decode cX3_canMakeOrder 40 = .ok (.aload_n 0, 1) := by decide +kernel
theorem dX3_canMakeOrder_41 : decode cX3_canMakeOrder 41 = .ok (.getfield 33, 3) := by decide +kernel
theorem dX3_canMakeOrder_44 : decode cX3_canMakeOrder 44 = .ok (.iload_n 2, 1) := by decide +kernel
theorem dX3_canMakeOrder_45 : decode cX3_canMakeOrder 45 = .ok (.invokevirtual 100, 3) := by decide +kernel
theorem dX3_canMakeOrder_48 : decode cX3_canMakeOrder 48 = .ok (.ireturn, 1) := by decide +kernel
theorem dX3_canMakeOrder_49 : decode cX3_canMakeOrder 49 = .ok (.aload_n 0, 1) := by decide +kernel
theorem dX3_canMakeOrder_50 : decode cX3_canMakeOrder 50 = .ok (.getfield 40, 3) := by decide +kernel
theorem dX3_canMakeOrder_53 : decode cX3_canMakeOrder 53 = .ok (.iload_n 2, 1) := by decide +kernel
theorem dX3_canMakeOrder_54 : decode cX3_canMakeOrder 54 = .ok (.invokevirtual 100, 3) := by decide +kernel
theorem dX3_canMakeOrder_57 : decode cX3_canMakeOrder 57 = .ok (.ireturn, 1) := by decide +kernel
theorem dX3_canMakeOrder_58 : decode cX3_canMakeOrder 58 = .ok (.aload_n 0, 1) := by decide +kernel
theorem dX3_canMakeOrder_59 : decode cX3_canMakeOrder 59 = .ok (.getfield 40, 3) := by decide +kernel
theorem dX3_canMakeOrder_62 : decode cX3_canMakeOrder 62 = .ok (.iload_n 2, 1) := by decide +kernel
theorem dX3_canMakeOrder_63 : decode cX3_canMakeOrder 63 = .ok (.invokevirtual 100, 3) := by decide +kernel
theorem dX3_canMakeOrder_66 : decode cX3_canMakeOrder 66 = .ok (.ifCond .eq 18, 3) := by decide +kernel
theorem dX3_canMakeOrder_69 : decode cX3_canMakeOrder 69 = .ok (.aload_n 0, 1) := by decide +kernel
theorem dX3_canMakeOrder_70 : decode cX3_canMakeOrder 70 = .ok (.getfield 40, 3) := by decide +kernel
theorem dX3_canMakeOrder_73 : decode cX3_canMakeOrder 73 = .ok (.iload_n 3, 1) := by decide +kernel
theorem dX3_canMakeOrder_74 : decode cX3_canMakeOrder 74 = .ok (.invokevirtual 100, 3) := by decide +kernel
theorem dX3_canMakeOrder_77 : decode cX3_canMakeOrder 77 = .ok (.ifCond .eq 7, 3) := by decide +kernel
theorem dX3_canMakeOrder_80 : decode cX3_canMakeOrder 80 = .ok (.iconst 1, 1) := by decide +kernel
theorem dX3_canMakeOrder_81 : decode cX3_canMakeOrder 81 = .ok (.goto 4, 3) := by decide +kernel
theorem dX3_canMakeOrder_84 : decode cX3_canMakeOrder 84 = .ok (.iconst 0, 1) := by decide +kernel
theorem dX3_canMakeOrder_85 : decode cX3_canMakeOrder 85 = .ok (.ireturn, 1) := by decide +kernel
theorem dX3_canMakeOrder_86 : decode cX3_canMakeOrder 86 = .ok (.aload_n 0, 1) := by decide +kernel
theorem dX3_canMakeOrder_87 : decode cX3_canMakeOrder 87 = .ok (.getfield 37, 3) := by decide +kernel
theorem dX3_canMakeOrder_90 : decode cX3_canMakeOrder 90 = .ok (.iload_n 2, 1) := by decide +kernel
theorem dX3_canMakeOrder_91 : decode cX3_canMakeOrder 91 = .ok (.invokevirtual 100, 3) := by decide +kernel
theorem dX3_canMakeOrder_94 : decode cX3_canMakeOrder 94 = .ok (.ireturn, 1) := by decide +kernel
theorem dX3_canMakeOrder_95 : decode cX3_canMakeOrder 95 = .ok (.iconst 1, 1) := by decide +kernel
theorem dX3_canMakeOrder_96 : decode cX3_canMakeOrder 96 = .ok (.ireturn, 1) := by decide +kernel
theorem dX3_canMakeOrder_97 : decode cX3_canMakeOrder 97 = .ok (.iconst 0, 1) := by decide +kernel
theorem dX3_canMakeOrder_98 : decode cX3_canMakeOrder 98 = .ok (.ireturn, 1) := by decide +kernel
theorem dX3_makeNow_0 : decode cX3_makeNow 0 = .ok (.aload_n 0, 1) := by decide +kernel
theorem dX3_makeNow_1 : decode cX3_makeNow 1 = .ok (.getfield 56, 3) := by decide +kernel
theorem dX3_makeNow_4 : decode cX3_makeNow 4 = .ok (.invokevirtual 103, 3) := by decide +kernel
theorem dX3_makeNow_7 : decode cX3_makeNow 7 = .ok (.ifCond .ne 6, 3) := by decide +kernel
theorem dX3_makeNow_10 : decode cX3_makeNow 10 = .ok (.bipush (-2), 2) := by decide +kernel
theorem dX3_makeNow_12 : decode cX3_makeNow 12 = .ok (.ireturn, 1) := by decide +kernel
theorem dX3_makeNow_13 : decode cX3_makeNow 13 = .ok (.aload_n 0, 1) := by decide +kernel
theorem dX3_makeNow_14 : decode cX3_makeNow 14 = .ok (.iload_n 1, 1) := by decide +kernel
theorem dX3_makeNow_15 : decode cX3_makeNow 15 = .ok (.iload_n 2, 1) := by decide +kernel
theorem dX3_makeNow_16 : decode cX3_makeNow 16 = .ok (.invokevirtual 106, 3) := by decide +kernel
theorem dX3_makeNow_19 : decode cX3_makeNow 19 = .ok (.lstore_n 3, 1) := by decide +kernel
theorem dX3_makeNow_20 : decode cX3_makeNow 20 = .ok (.aload_n 0, 1) := by decide +kernel
theorem dX3_makeNow_21 : decode cX3_makeNow 21 = .ok (.getfield 56, 3) := by decide +kernel
theorem dX3_makeNow_24 : decode cX3_makeNow 24 = .ok (.invokevirtual 110, 3) := by decide +kernel
theorem dX3_makeNow_27 : decode cX3_makeNow 27 = .ok (.ifCond .eq 11, 3) := by decide +kernel
theorem dX3_makeNow_30 : decode cX3_makeNow 30 = .ok (.aload_n 0, 1) := by decide +kernel
theorem dX3_makeNow_31 : decode cX3_makeNow 31 = .ok (.getfield 56, 3) := by decide +kernel
theorem dX3_makeNow_34 : decode cX3_makeNow 34 = .ok (.invokevirtual 113, 3) := by decide +kernel
theorem dX3_makeNow_37 : decode cX3_makeNow 37 = .ok (.ireturn, 1) := by decide +kernel
theorem dX3_makeNow_38 : decode cX3_makeNow 38 = .ok (.aload_n 0, 1) := by decide +kernel
theorem dX3_makeNow_39 : decode cX3_makeNow 39 = .ok (.getfield 33, 3) := by decide +kernel
theorem dX3_makeNow_42 : decode cX3_makeNow 42 = .ok (.bipush 9, 2) := by decide +kernel
theorem dX3_makeNow_44 : decode cX3_makeNow 44 = .ok (.iload_n 1, 1) := by decide +kernel
theorem dX3_makeNow_45 : decode cX3_makeNow 45 = .ok (.iload_n 2, 1) := by decide +kernel
theorem dX3_makeNow_46 : decode cX3_makeNow 46 = .ok (.lload_n 3, 1) := by decide +kernel
theorem dX3_makeNow_47 : decode cX3_makeNow 47 = .ok (.invokevirtual 90, 3) := by decide +kernel
theorem dX3_makeNow_50 : decode cX3_makeNow 50 = .ok (.ireturn, 1) := by decide +kernel
theorem dX3_takeDraft_0 : decode cX3_takeDraft 0 = .ok (.aload_n 0, 1) := by decide +kernel
theorem dX3_takeDraft_1 : decode cX3_takeDraft 1 = .ok (.getfield 24, 3) := by decide +kernel
theorem dX3_takeDraft_4 : decode cX3_takeDraft 4 = .ok (.iconst 0, 1) := by decide +kernel
theorem dX3_takeDraft_5 : decode cX3_takeDraft 5 = .ok (.aload_n 0, 1) := by decide +kernel
theorem dX3_takeDraft_6 : decode cX3_takeDraft 6 = .ok (.getfield 20, 3) := by decide +kernel
theorem dX3_takeDraft_9 : decode cX3_takeDraft 9 = .ok (.iconst 0, 1) := by decide +kernel
theorem dX3_takeDraft_10 : decode cX3_takeDraft 10 = .ok (.iload_n 1, 1) := by decide +kernel
theorem dX3_takeDraft_11 : decode cX3_takeDraft 11 = .ok (.invokestatic 125, 3) := by decide +kernel
theorem dX3_takeDraft_14 : decode cX3_takeDraft 14 = .ok (.aload_n 0, 1) := by decide +kernel
theorem dX3_takeDraft_15 : decode cX3_takeDraft 15 = .ok (.iload_n 1, 1) := by decide +kernel
theorem dX3_takeDraft_16 : decode cX3_takeDraft 16 = .ok (.putfield 27, 3) := by decide +kernel
theorem dX3_takeDraft_19 : decode cX3_takeDraft 19 = .ok (.return_, 1) := by decide +kernel
theorem dX3_moveForward_0 : decode cX3_moveForward 0 = .ok (.aload_n 0, 1) := by decide +kernel
theorem dX3_moveForward_1 : decode cX3_moveForward 1 = .ok (.getfield 24, 3) := by decide +kernel
theorem dX3_moveForward_4 : decode cX3_moveForward 4 = .ok (.iload_n 2, 1) := by decide +kernel
theorem dX3_moveForward_5 : decode cX3_moveForward 5 = .ok (.iaload, 1) := by decide +kernel
theorem dX3_moveForward_6 : decode cX3_moveForward 6 = .ok (.istore_n 3, 1) := by decide +kernel
theorem dX3_moveForward_7 : decode cX3_moveForward 7 = .ok (.iload_n 2, 1) := by decide +kernel
theorem dX3_moveForward_8 : decode cX3_moveForward 8 = .ok (.istore 4, 2) := by decide +kernel
theorem dX3_moveForward_10 : decode cX3_moveForward 10 = .ok (.iload 4, 2) := by decide +kernel
theorem dX3_moveForward_12 : decode cX3_moveForward 12 = .ok (.ifCond .le 44, 3) := by decide +kernel
theorem dX3_moveForward_15 : decode cX3_moveForward 15 = .ok (.aload_n 0, 1) := by decide +kernel
theorem dX3_moveForward_16 : decode cX3_moveForward 16 = .ok (.iload_n 1, 1) := by decide +kernel
theorem dX3_moveForward_17 : decode cX3_moveForward 17 = .ok (.aload_n 0, 1) := by decide +kernel
theorem dX3_moveForward_18 : decode cX3_moveForward 18 = .ok (.getfield 24, 3) := by decide +kernel
theorem dX3_moveForward_21 : decode cX3_moveForward 21 = .ok (.iload 4, 2) := by decide +kernel
theorem dX3_moveForward_23 : decode cX3_moveForward 23 = .ok (.iconst 1, 1) := by decide +kernel
theorem dX3_moveForward_24 : decode cX3_moveForward 24 = .ok (.isub, 1) := by decide +kernel
theorem dX3_moveForward_25 : decode cX3_moveForward 25 = .ok (.iaload, 1) := by decide +kernel
theorem dX3_moveForward_26 : decode cX3_moveForward 26 = .ok (.iload_n 3, 1) := by decide +kernel
theorem dX3_moveForward_27 : decode cX3_moveForward 27 = .ok (.invokevirtual 165, 3) := by decide +kernel
theorem dX3_moveForward_30 : decode cX3_moveForward 30 = .ok (.iconst 1, 1) := by decide +kernel
theorem dX3_moveForward_31 : decode cX3_moveForward 31 = .ok (.if_icmp .ne 25, 3) := by decide +kernel
theorem dX3_moveForward_34 : decode cX3_moveForward 34 = .ok (.aload_n 0, 1) := by decide +kernel
theorem dX3_moveForward_35 : decode cX3_moveForward 35 = .ok (.getfield 24, 3) := by decide +kernel
theorem dX3_moveForward_38 : decode cX3_moveForward 38 = .ok (.iload 4, 2) := by decide +kernel
theorem dX3_moveForward_40 : decode cX3_moveForward 40 = .ok (.aload_n 0, 1) := by decide +kernel
theorem dX3_moveForward_41 : decode cX3_moveForward 41 = .ok (.getfield 24, 3) := by decide +kernel
theorem dX3_moveForward_44 : decode cX3_moveForward 44 = .ok (.iload 4, 2) := by decide +kernel
theorem dX3_moveForward_46 : decode cX3_moveForward 46 = .ok (.iconst 1, 1) := by decide +kernel
theorem dX3_moveForward_47 : decode cX3_moveForward 47 = .ok (.isub, 1) := by decide +kernel
theorem dX3_moveForward_48 : decode cX3_moveForward 48 = .ok (.iaload, 1) := by decide +kernel
theorem dX3_moveForward_49 : decode cX3_moveForward 49 = .ok (.iastore, 1) := by decide +kernel
theorem dX3_moveForward_50 : decode cX3_moveForward 50 = .ok (.iinc 4 (-1), 3) := by decide +kernel
theorem dX3_moveForward_53 : decode cX3_moveForward 53 = .ok (.goto (-43), 3) := by decide +kernel
theorem dX3_moveForward_56 : decode cX3_moveForward 56 = .ok (.aload_n 0, 1) := by decide +kernel
theorem dX3_moveForward_57 : decode cX3_moveForward 57 = .ok (.getfield 24, 3) := by decide +kernel
theorem dX3_moveForward_60 : decode cX3_moveForward 60 = .ok (.iload 4, 2) := by decide +kernel
theorem dX3_moveForward_62 : decode cX3_moveForward 62 = .ok (.iload_n 3, 1) := by decide +kernel
theorem dX3_moveForward_63 : decode cX3_moveForward 63 = .ok (.iastore, 1) := by decide +kernel
theorem dX3_moveForward_64 : decode cX3_moveForward 64 = .ok (.iload_n 2, 1) := by decide +kernel
theorem dX3_moveForward_65 : decode cX3_moveForward 65 = .ok (.iload 4, 2) := by decide +kernel
theorem dX3_moveForward_67 : decode cX3_moveForward 67 = .ok (.isub, 1) := by decide +kernel
theorem dX3_moveForward_68 : decode cX3_moveForward 68 = .ok (.ireturn, 1) := by decide +kernel
theorem dX3_askScale_0 : decode cX3_askScale 0 = .ok (.aload_n 0, 1) := by decide +kernel
theorem dX3_askScale_1 : decode cX3_askScale 1 = .ok (.getfield 56, 3) := by decide +kernel
theorem dX3_askScale_4 : decode cX3_askScale 4 = .ok (.invokevirtual 169, 3) := by decide +kernel
theorem dX3_askScale_7 : decode cX3_askScale 7 = .ok (.ifCond .ne 5, 3) := by decide +kernel
theorem dX3_askScale_10 : decode cX3_askScale 10 = .ok (.lconst 0, 1) := by decide +kernel
theorem dX3_askScale_11 : decode cX3_askScale 11 = .ok (.lreturn, 1) := by decide +kernel
theorem dX3_askScale_12 : decode cX3_askScale 12 = .ok (.aload_n 0, 1) := by decide +kernel
theorem dX3_askScale_13 : decode cX3_askScale 13 = .ok (.getfield 33, 3) := by decide +kernel
theorem dX3_askScale_16 : decode cX3_askScale 16 = .ok (.getfield 172, 3) := by decide +kernel
theorem dX3_askScale_19 : decode cX3_askScale 19 = .ok (.iload_n 1, 1) := by decide +kernel
theorem dX3_askScale_20 : decode cX3_askScale 20 = .ok (.iaload, 1) := by decide +kernel
theorem dX3_askScale_21 : decode cX3_askScale 21 = .ok (.istore_n 3, 1) := by decide +kernel
theorem dX3_askScale_22 : decode cX3_askScale 22 = .ok (.aload_n 0, 1) := by decide +kernel
theorem dX3_askScale_23 : decode cX3_askScale 23 = .ok (.getfield 33, 3) := by decide +kernel
theorem dX3_askScale_26 : decode cX3_askScale 26 = .ok (.getfield 175, 3) := by decide +kernel
theorem dX3_askScale_29 : decode cX3_askScale 29 = .ok (.iload_n 1, 1) := by decide +kernel
theorem dX3_askScale_30 : decode cX3_askScale 30 = .ok (.iaload, 1) := by decide +kernel
theorem dX3_askScale_31 : decode cX3_askScale 31 = .ok (.istore 4, 2) := by decide +kernel
theorem dX3_askScale_33 : decode cX3_askScale 33 = .ok (.aload_n 0, 1) := by decide +kernel
theorem dX3_askScale_34 : decode cX3_askScale 34 = .ok (.getfield 33, 3) := by decide +kernel
theorem dX3_askScale_37 : decode cX3_askScale 37 = .ok (.getfield 178, 3) := by decide +kernel
theorem dX3_askScale_40 : decode cX3_askScale 40 = .ok (.iload_n 1, 1) := by decide +kernel
theorem dX3_askScale_41 : decode cX3_askScale 41 = .ok (.iaload, 1) := by decide +kernel
theorem dX3_askScale_42 : decode cX3_askScale 42 = .ok (.tableswitch 201 0 10 #[58, 69, 76, 91, 106, 124, 141, 162, 173, 173, 183], 58) := by decide +kernel
theorem dX3_askScale_100 : decode cX3_askScale 100 = .ok (.aload_n 0, 1) := by decide +kernel
theorem dX3_askScale_101 : decode cX3_askScale 101 = .ok (.getfield 9, 3) := by decide +kernel
theorem dX3_askScale_104 : decode cX3_askScale 104 = .ok (.iload_n 2, 1) := by decide +kernel
theorem dX3_askScale_105 : decode cX3_askScale 105 = .ok (.iload_n 3, 1) := by decide +kernel
theorem dX3_askScale_106 : decode cX3_askScale 106 = .ok (.invokestatic 64, 3) := by decide +kernel
theorem dX3_askScale_109 : decode cX3_askScale 109 = .ok (.laload, 1) := by decide +kernel
theorem dX3_askScale_110 : decode cX3_askScale 110 = .ok (.lreturn, 1) := by decide +kernel
theorem dX3_askScale_111 : decode cX3_askScale 111 = .ok (.iload_n 3, 1) := by decide +kernel
theorem dX3_askScale_112 : decode cX3_askScale 112 = .ok (.i2l, 1) := by decide +kernel
theorem dX3_askScale_113 : decode cX3_askScale 113 = .ok (.iload 4, 2) := by decide +kernel
theorem dX3_askScale_115 : decode cX3_askScale 115 = .ok (.i2l, 1) := by decide +kernel
theorem dX3_askScale_116 : decode cX3_askScale 116 = .ok (.ladd, 1) := by decide +kernel
theorem dX3_askScale_117 : decode cX3_askScale 117 = .ok (.lreturn, 1) := by decide +kernel
theorem dX3_askScale_118 : decode cX3_askScale 118 = .ok (.aload_n 0, 1) := by decide +kernel
theorem dX3_askScale_119 : decode cX3_askScale 119 = .ok (.iload_n 3, 1) := by decide +kernel
theorem dX3_askScale_120 : decode cX3_askScale 120 = .ok (.iload_n 2, 1) := by decide +kernel
theorem dX3_askScale_121 : decode cX3_askScale 121 = .ok (.invokevirtual 106, 3) := by decide +kernel
theorem dX3_askScale_124 : decode cX3_askScale 124 = .ok (.aload_n 0, 1) := by decide +kernel
theorem dX3_askScale_125 : decode cX3_askScale 125 = .ok (.iload 4, 2) := by decide +kernel
theorem dX3_askScale_127 : decode cX3_askScale 127 = .ok (.iload_n 2, 1) := by decide +kernel
theorem dX3_askScale_128 : decode cX3_askScale 128 = .ok (.invokevirtual 106, 3) := by decide +kernel
theorem dX3_askScale_131 : decode cX3_askScale 131 = .ok (.ladd, 1) := by decide +kernel
theorem dX3_askScale_132 : decode cX3_askScale 132 = .ok (.lreturn, 1) := by decide +kernel
theorem dX3_askScale_133 : decode cX3_askScale 133 = .ok (.aload_n 0, 1) := by decide +kernel
theorem dX3_askScale_134 : decode cX3_askScale 134 = .ok (.iload_n 3, 1) := by decide +kernel
theorem dX3_askScale_135 : decode cX3_askScale 135 = .ok (.iload_n 2, 1) := by decide +kernel
theorem dX3_askScale_136 : decode cX3_askScale 136 = .ok (.invokevirtual 106, 3) := by decide +kernel
theorem dX3_askScale_139 : decode cX3_askScale 139 = .ok (.aload_n 0, 1) := by decide +kernel
theorem dX3_askScale_140 : decode cX3_askScale 140 = .ok (.iload 4, 2) := by decide +kernel
theorem dX3_askScale_142 : decode cX3_askScale 142 = .ok (.iload_n 2, 1) := by decide +kernel
theorem dX3_askScale_143 : decode cX3_askScale 143 = .ok (.invokevirtual 106, 3) := by decide +kernel
theorem dX3_askScale_146 : decode cX3_askScale 146 = .ok (.lmul, 1) := by decide +kernel
theorem dX3_askScale_147 : decode cX3_askScale 147 = .ok (.lreturn, 1) := by decide +kernel
theorem dX3_askScale_148 : decode cX3_askScale 148 = .ok (.aload_n 0, 1) := by decide +kernel
theorem dX3_askScale_149 : decode cX3_askScale 149 = .ok (.aload_n 0, 1) := by decide +kernel
theorem dX3_askScale_150 : decode cX3_askScale 150 = .ok (.iload_n 3, 1) := by decide +kernel
theorem dX3_askScale_151 : decode cX3_askScale 151 = .ok (.iload_n 2, 1) := by decide +kernel
theorem dX3_askScale_152 : decode cX3_askScale 152 = .ok (.invokevirtual 106, 3) := by decide +kernel
theorem dX3_askScale_155 : decode cX3_askScale 155 = .ok (.aload_n 0, 1) := by decide +kernel
theorem dX3_askScale_156 : decode cX3_askScale 156 = .ok (.iload 4, 2) := by decide +kernel
theorem dX3_askScale_158 : decode cX3_askScale 158 = .ok (.iload_n 2, 1) := by decide +kernel
theorem dX3_askScale_159 : decode cX3_askScale 159 = .ok (.invokevirtual 106, 3) := by decide +kernel
theorem dX3_askScale_162 : decode cX3_askScale 162 = .ok (.invokevirtual 181, 3) := by decide +kernel
theorem dX3_askScale_165 : decode cX3_askScale 165 = .ok (.lreturn, 1) := by decide +kernel
theorem dX3_askScale_166 : decode cX3_askScale 166 = .ok (.aload_n 0, 1) := by decide +kernel
theorem dX3_askScale_167 : decode cX3_askScale 167 = .ok (.iload_n 3, 1) := by decide +kernel
theorem dX3_askScale_168 : decode cX3_askScale 168 = .ok (.iload_n 2, 1) := by decide +kernel
theorem dX3_askScale_169 : decode cX3_askScale 169 = .ok (.invokevirtual 106, 3) := by decide +kernel
theorem dX3_askScale_172 : decode cX3_askScale 172 = .ok (.aload_n 0, 1) := by decide +kernel
theorem dX3_askScale_173 : decode cX3_askScale 173 = .ok (.iload 4, 2) := by decide +kernel
theorem dX3_askScale_175 : decode cX3_askScale 175 = .ok (.iload_n 2, 1) := by decide +kernel
theorem dX3_askScale_176 : decode cX3_askScale 176 = .ok (.invokevirtual 106, 3) := by decide +kernel
theorem dX3_askScale_179 : decode cX3_askScale 179 = .ok (.invokestatic 185, 3) := by decide +kernel
theorem dX3_askScale_182 : decode cX3_askScale 182 = .ok (.lreturn, 1) := by decide +kernel
theorem dX3_askScale_183 : decode cX3_askScale 183 = .ok (.aload_n 0, 1) := by decide +kernel
theorem dX3_askScale_184 : decode cX3_askScale 184 = .ok (.iload_n 3, 1) := by decide +kernel
theorem dX3_askScale_185 : decode cX3_askScale 185 = .ok (.iload_n 2, 1) := by decide +kernel
theorem dX3_askScale_186 : decode cX3_askScale 186 = .ok (.invokevirtual 117, 3) := by decide +kernel
theorem dX3_askScale_189 : decode cX3_askScale 189 = .ok (.ifCond .eq 13, 3) := by decide +kernel
theorem dX3_askScale_192 : decode cX3_askScale 192 = .ok (.aload_n 0, 1) := by decide +kernel
theorem dX3_askScale_193 : decode cX3_askScale 193 = .ok (.iload 4, 2) := by decide +kernel
theorem dX3_askScale_195 : decode cX3_askScale 195 = .ok (.iload_n 2, 1) := by decide +kernel
theorem dX3_askScale_196 : decode cX3_askScale 196 = .ok (.invokevirtual 106, 3) := by decide +kernel
theorem dX3_askScale_199 : decode cX3_askScale 199 = .ok (.goto 4, 3) := by decide +kernel
theorem dX3_askScale_202 : decode cX3_askScale 202 = .ok (.lconst 0, 1) := by decide +kernel
theorem dX3_askScale_203 : decode cX3_askScale 203 = .ok (.lreturn, 1) := by decide +kernel
theorem dX3_askScale_204 : decode cX3_askScale 204 = .ok (.aload_n 0, 1) := by decide +kernel
theorem dX3_askScale_205 : decode cX3_askScale 205 = .ok (.aload_n 0, 1) := by decide +kernel
theorem dX3_askScale_206 : decode cX3_askScale 206 = .ok (.iload_n 3, 1) := by decide +kernel
theorem dX3_askScale_207 : decode cX3_askScale 207 = .ok (.iload_n 2, 1) := by decide +kernel
theorem dX3_askScale_208 : decode cX3_askScale 208 = .ok (.invokevirtual 106, 3) := by decide +kernel
theorem dX3_askScale_211 : decode cX3_askScale 211 = .ok (.invokevirtual 190, 3) := by decide +kernel
theorem dX3_askScale_214 : decode cX3_askScale 214 = .ok (.lreturn, 1) := by decide +kernel
theorem dX3_askScale_215 : decode cX3_askScale 215 = .ok (.aload_n 0, 1) := by decide +kernel
theorem dX3_askScale_216 : decode cX3_askScale 216 = .ok (.getfield 33, 3) := by decide +kernel
theorem dX3_askScale_219 : decode cX3_askScale 219 = .ok (.getfield 194, 3) := by decide +kernel
theorem dX3_askScale_222 : decode cX3_askScale 222 = .ok (.iload_n 1, 1) := by decide +kernel
theorem dX3_askScale_223 : decode cX3_askScale 223 = .ok (.laload, 1) := by decide +kernel
theorem dX3_askScale_224 : decode cX3_askScale 224 = .ok (.lreturn, 1) := by decide +kernel
theorem dX3_askScale_225 : decode cX3_askScale 225 = .ok (.aload_n 0, 1) := by decide +kernel
theorem dX3_askScale_226 : decode cX3_askScale 226 = .ok (.getfield 33, 3) := by decide +kernel
theorem dX3_askScale_229 : decode cX3_askScale 229 = .ok (.iload_n 1, 1) := by decide +kernel
theorem dX3_askScale_230 : decode cX3_askScale 230 = .ok (.invokevirtual 197, 3) := by decide +kernel
theorem dX3_askScale_233 : decode cX3_askScale 233 = .ok (.lconst 1, 1) := by decide +kernel
theorem dX3_askScale_234 : decode cX3_askScale 234 = .ok (.lsub, 1) := by decide +kernel
theorem dX3_askScale_235 : decode cX3_askScale 235 = .ok (.iload_n 3, 1) := by decide +kernel
theorem dX3_askScale_236 : decode cX3_askScale 236 = .ok (.i2l, 1) := by decide +kernel
theorem dX3_askScale_237 : decode cX3_askScale 237 = .ok (.lmul, 1) := by decide +kernel
theorem dX3_askScale_238 : decode cX3_askScale 238 = .ok (.iload 4, 2) := by decide +kernel
theorem dX3_askScale_240 : decode cX3_askScale 240 = .ok (.i2l, 1) := by decide +kernel
theorem dX3_askScale_241 : decode cX3_askScale 241 = .ok (.ladd, 1) := by decide +kernel
theorem dX3_askScale_242 : decode cX3_askScale 242 = .ok (.lreturn, 1) := by decide +kernel
theorem dX3_askScale_243 : decode cX3_askScale 243 = .ok (.aload_n 0, 1) := by decide +kernel
theorem dX3_askScale_244 : decode cX3_askScale 244 = .ok (.getfield 56, 3) := by decide +kernel
theorem dX3_askScale_247 : decode cX3_askScale 247 = .ok (.iconst 3, 1) := by decide +kernel
theorem dX3_askScale_248 : decode cX3_askScale 248 = .ok (.invokevirtual 201, 3) := by decide +kernel
theorem dX3_askScale_251 : decode cX3_askScale 251 = .ok (.lconst 0, 1) := by decide +kernel
theorem dX3_askScale_252 : decode cX3_askScale 252 = .ok (.lreturn, 1) := by decide +kernel
theorem dX3_askSieve_0 : decode cX3_askSieve 0 = .ok (.aload_n 0, 1) := by decide +kernel
theorem dX3_askSieve_1 : decode cX3_askSieve 1 = .ok (.getfield 56, 3) := by decide +kernel
theorem dX3_askSieve_4 : decode cX3_askSieve 4 = .ok (.invokevirtual 169, 3) := by decide +kernel
theorem dX3_askSieve_7 : decode cX3_askSieve 7 = .ok (.ifCond .ne 5, 3) := by decide +kernel
theorem dX3_askSieve_10 : decode cX3_askSieve 10 = .ok (.iconst 0, 1) := by decide +kernel
theorem dX3_askSieve_11 : decode cX3_askSieve 11 = .ok (.ireturn, 1) := by decide +kernel
theorem dX3_askSieve_12 : decode cX3_askSieve 12 = .ok (.aload_n 0, 1) := by decide +kernel
theorem dX3_askSieve_13 : decode cX3_askSieve 13 = .ok (.getfield 37, 3) := by decide +kernel
theorem dX3_askSieve_16 : decode cX3_askSieve 16 = .ok (.getfield 172, 3) := by decide +kernel
theorem dX3_askSieve_19 : decode cX3_askSieve 19 = .ok (.iload_n 1, 1) := by decide +kernel
theorem dX3_askSieve_20 : decode cX3_askSieve 20 = .ok (.iaload, 1) := by decide +kernel
theorem dX3_askSieve_21 : decode cX3_askSieve 21 = .ok (.istore_n 3, 1) := by decide +kernel
theorem dX3_askSieve_22 : decode cX3_askSieve 22 = .ok (.aload_n 0, 1) := by decide +kernel
theorem dX3_askSieve_23 : decode cX3_askSieve 23 = .ok (.getfield 37, 3) := by decide +kernel
theorem dX3_askSieve_26 : decode cX3_askSieve 26 = .ok (.getfield 175, 3) := by decide +kernel
theorem dX3_askSieve_29 : decode cX3_askSieve 29 = .ok (.iload_n 1, 1) := by decide +kernel
theorem dX3_askSieve_30 : decode cX3_askSieve 30 = .ok (.iaload, 1) := by decide +kernel
theorem dX3_askSieve_31 : decode cX3_askSieve 31 = .ok (.istore 4, 2) := by decide +kernel
theorem dX3_askSieve_33 : decode cX3_askSieve 33 = .ok (.aload_n 0, 1) := by decide +kernel
theorem dX3_askSieve_34 : decode cX3_askSieve 34 = .ok (.getfield 37, 3) := by decide +kernel
theorem dX3_askSieve_37 : decode cX3_askSieve 37 = .ok (.getfield 178, 3) := by decide +kernel
theorem dX3_askSieve_40 : decode cX3_askSieve 40 = .ok (.iload_n 1, 1) := by decide +kernel
theorem dX3_askSieve_41 : decode cX3_askSieve 41 = .ok (.iaload, 1) := by decide +kernel
theorem dX3_askSieve_42 : decode cX3_askSieve 42 = .ok (.tableswitch 207 0 8 #[50, 52, 75, 98, 113, 138, 163, 189, 200], 50) := by decide +kernel
theorem dX3_askSieve_92 : decode cX3_askSieve 92 = .ok (.iconst 1, 1) := by decide +kernel
theorem dX3_askSieve_93 : decode cX3_askSieve 93 = .ok (.ireturn, 1) := by decide +kernel
theorem dX3_askSieve_94 : decode cX3_askSieve 94 = .ok (.aload_n 0, 1) := by decide +kernel
theorem dX3_askSieve_95 : decode cX3_askSieve 95 = .ok (.iload_n 3, 1) := by decide +kernel
theorem dX3_askSieve_96 : decode cX3_askSieve 96 = .ok (.iload_n 2, 1) := by decide +kernel
theorem dX3_askSieve_97 : decode cX3_askSieve 97 = .ok (.invokevirtual 106, 3) := by decide +kernel
theorem dX3_askSieve_100 : decode cX3_askSieve 100 = .ok (.aload_n 0, 1) := by decide +kernel
theorem dX3_askSieve_101 : decode cX3_askSieve 101 = .ok (.iload 4, 2) := by decide +kernel
theorem dX3_askSieve_103 : decode cX3_askSieve 103 = .ok (.iload_n 2, 1) := by decide +kernel
theorem dX3_askSieve_104 : decode cX3_askSieve 104 = .ok (.invokevirtual 106, 3) := by decide +kernel
theorem dX3_askSieve_107 : decode cX3_askSieve 107 = .ok (.lcmp, 1) := by decide +kernel
theorem dX3_askSieve_108 : decode cX3_askSieve 108 = .ok (.ifCond .le 7, 3) := by decide +kernel
theorem dX3_askSieve_111 : decode cX3_askSieve 111 = .ok (.iconst 1, 1) := by decide +kernel
theorem dX3_askSieve_112 : decode cX3_askSieve 112 = .ok (.goto 4, 3) := by decide +kernel
theorem dX3_askSieve_115 : decode cX3_askSieve 115 = .ok (.iconst 0, 1) := by decide +kernel
theorem dX3_askSieve_116 : decode cX3_askSieve 116 = .ok (.ireturn, 1) := by decide +kernel
theorem dX3_askSieve_117 : decode cX3_askSieve 117 = .ok (.aload_n 0, 1) := by decide +kernel
theorem dX3_askSieve_118 : decode cX3_askSieve 118 = .ok (.iload_n 3, 1) := by decide +kernel
theorem dX3_askSieve_119 : decode cX3_askSieve 119 = .ok (.iload_n 2, 1) := by decide +kernel
theorem dX3_askSieve_120 : decode cX3_askSieve 120 = .ok (.invokevirtual 106, 3) := by decide +kernel
theorem dX3_askSieve_123 : decode cX3_askSieve 123 = .ok (.aload_n 0, 1) := by decide +kernel
theorem dX3_askSieve_124 : decode cX3_askSieve 124 = .ok (.iload 4, 2) := by decide +kernel
theorem dX3_askSieve_126 : decode cX3_askSieve 126 = .ok (.iload_n 2, 1) := by decide +kernel
theorem dX3_askSieve_127 : decode cX3_askSieve 127 = .ok (.invokevirtual 106, 3) := by decide +kernel
theorem dX3_askSieve_130 : decode cX3_askSieve 130 = .ok (.lcmp, 1) := by decide +kernel
theorem dX3_askSieve_131 : decode cX3_askSieve 131 = .ok (.ifCond .ne 7, 3) := by decide +kernel
theorem dX3_askSieve_134 : decode cX3_askSieve 134 = .ok (.iconst 1, 1) := by decide +kernel
theorem dX3_askSieve_135 : decode cX3_askSieve 135 = .ok (.goto 4, 3) := by decide +kernel
theorem dX3_askSieve_138 : decode cX3_askSieve 138 = .ok (.iconst 0, 1) := by decide +kernel
theorem dX3_askSieve_139 : decode cX3_askSieve 139 = .ok (.ireturn, 1) := by decide +kernel
theorem dX3_askSieve_140 : decode cX3_askSieve 140 = .ok (.aload_n 0, 1) := by decide +kernel
theorem dX3_askSieve_141 : decode cX3_askSieve 141 = .ok (.iload_n 3, 1) := by decide +kernel
theorem dX3_askSieve_142 : decode cX3_askSieve 142 = .ok (.iload_n 2, 1) := by decide +kernel
theorem dX3_askSieve_143 : decode cX3_askSieve 143 = .ok (.invokevirtual 117, 3) := by decide +kernel
theorem dX3_askSieve_146 : decode cX3_askSieve 146 = .ok (.ifCond .ne 7, 3) := by decide +kernel
theorem dX3_askSieve_149 : decode cX3_askSieve 149 = .ok (.iconst 1, 1) := by decide +kernel
theorem dX3_askSieve_150 : decode cX3_askSieve 150 = .ok (.goto 4, 3) := by decide +kernel
theorem dX3_askSieve_153 : decode cX3_askSieve 153 = .ok (.iconst 0, 1) := by decide +kernel
theorem dX3_askSieve_154 : decode cX3_askSieve 154 = .ok (.ireturn, 1) := by decide +kernel
theorem dX3_askSieve_155 : decode cX3_askSieve 155 = .ok (.aload_n 0, 1) := by decide +kernel
theorem dX3_askSieve_156 : decode cX3_askSieve 156 = .ok (.iload_n 3, 1) := by decide +kernel
theorem dX3_askSieve_157 : decode cX3_askSieve 157 = .ok (.iload_n 2, 1) := by decide +kernel
theorem dX3_askSieve_158 : decode cX3_askSieve 158 = .ok (.invokevirtual 117, 3) := by decide +kernel
theorem dX3_askSieve_161 : decode cX3_askSieve 161 = .ok (.ifCond .eq 17, 3) := by decide +kernel
theorem dX3_askSieve_164 : decode cX3_askSieve 164 = .ok (.aload_n 0, 1) := by decide +kernel
theorem dX3_askSieve_165 : decode cX3_askSieve 165 = .ok (.iload 4, 2) := by decide +kernel
theorem dX3_askSieve_167 : decode cX3_askSieve 167 = .ok (.iload_n 2, 1) := by decide +kernel
theorem dX3_askSieve_168 : decode cX3_askSieve 168 = .ok (.invokevirtual 117, 3) := by decide +kernel
theorem dX3_askSieve_171 : decode cX3_askSieve 171 = .ok (.ifCond .eq 7, 3) := by decide +kernel
theorem dX3_askSieve_174 : decode cX3_askSieve 174 = .ok (.iconst 1, 1) := by decide +kernel
theorem dX3_askSieve_175 : decode cX3_askSieve 175 = .ok (.goto 4, 3) := by decide +kernel
theorem dX3_askSieve_178 : decode cX3_askSieve 178 = .ok (.iconst 0, 1) := by decide +kernel
theorem dX3_askSieve_179 : decode cX3_askSieve 179 = .ok (.ireturn, 1) := by decide +kernel
theorem dX3_askSieve_180 : decode cX3_askSieve 180 = .ok (.aload_n 0, 1) := by decide +kernel
theorem dX3_askSieve_181 : decode cX3_askSieve 181 = .ok (.iload_n 3, 1) := by decide +kernel
theorem dX3_askSieve_182 : decode cX3_askSieve 182 = .ok (.iload_n 2, 1) := by decide +kernel
theorem dX3_askSieve_183 : decode cX3_askSieve 183 = .ok (.invokevirtual 117, 3) := by decide +kernel
theorem dX3_askSieve_186 : decode cX3_askSieve 186 = .ok (.ifCond .ne 13, 3) := by decide +kernel
theorem dX3_askSieve_189 : decode cX3_askSieve 189 = .ok (.aload_n 0, 1) := by decide +kernel
theorem dX3_askSieve_190 : decode cX3_askSieve 190 = .ok (.iload 4, 2) := by decide +kernel
theorem dX3_askSieve_192 : decode cX3_askSieve 192 = .ok (.iload_n 2, 1) := by decide +kernel
theorem dX3_askSieve_193 : decode cX3_askSieve 193 = .ok (.invokevirtual 117, 3) := by decide +kernel
theorem dX3_askSieve_196 : decode cX3_askSieve 196 = .ok (.ifCond .eq 7, 3) := by decide +kernel
theorem dX3_askSieve_199 : decode cX3_askSieve 199 = .ok (.iconst 1, 1) := by decide +kernel
theorem dX3_askSieve_200 : decode cX3_askSieve 200 = .ok (.goto 4, 3) := by decide +kernel
theorem dX3_askSieve_203 : decode cX3_askSieve 203 = .ok (.iconst 0, 1) := by decide +kernel
theorem dX3_askSieve_204 : decode cX3_askSieve 204 = .ok (.ireturn, 1) := by decide +kernel
theorem dX3_askSieve_205 : decode cX3_askSieve 205 = .ok (.aload_n 0, 1) := by decide +kernel
theorem dX3_askSieve_206 : decode cX3_askSieve 206 = .ok (.getfield 37, 3) := by decide +kernel
theorem dX3_askSieve_209 : decode cX3_askSieve 209 = .ok (.iload_n 1, 1) := by decide +kernel
theorem dX3_askSieve_210 : decode cX3_askSieve 210 = .ok (.invokevirtual 197, 3) := by decide +kernel
theorem dX3_askSieve_213 : decode cX3_askSieve 213 = .ok (.iload_n 3, 1) := by decide +kernel
theorem dX3_askSieve_214 : decode cX3_askSieve 214 = .ok (.iconst 1, 1) := by decide +kernel
theorem dX3_askSieve_215 : decode cX3_askSieve 215 = .ok (.invokestatic 204, 3) := by decide +kernel
theorem dX3_askSieve_218 : decode cX3_askSieve 218 = .ok (.i2l, 1) := by decide +kernel
theorem dX3_askSieve_219 : decode cX3_askSieve 219 = .ok (.lrem, 1) := by decide +kernel
theorem dX3_askSieve_220 : decode cX3_askSieve 220 = .ok (.lconst 0, 1) := by decide +kernel
theorem dX3_askSieve_221 : decode cX3_askSieve 221 = .ok (.lcmp, 1) := by decide +kernel
theorem dX3_askSieve_222 : decode cX3_askSieve 222 = .ok (.ifCond .ne 7, 3) := by decide +kernel
theorem dX3_askSieve_225 : decode cX3_askSieve 225 = .ok (.iconst 1, 1) := by decide +kernel
theorem dX3_askSieve_226 : decode cX3_askSieve 226 = .ok (.goto 4, 3) := by decide +kernel
theorem dX3_askSieve_229 : decode cX3_askSieve 229 = .ok (.iconst 0, 1) := by decide +kernel
theorem dX3_askSieve_230 : decode cX3_askSieve 230 = .ok (.ireturn, 1) := by decide +kernel
theorem dX3_askSieve_231 : decode cX3_askSieve 231 = .ok (.iload_n 2, 1) := by decide +kernel
theorem dX3_askSieve_232 : decode cX3_askSieve 232 = .ok (.iload_n 3, 1) := by decide +kernel
theorem dX3_askSieve_233 : decode cX3_askSieve 233 = .ok (.if_icmp .ge 7, 3) := by decide +kernel
theorem dX3_askSieve_236 : decode cX3_askSieve 236 = .ok (.iconst 1, 1) := by decide +kernel
theorem dX3_askSieve_237 : decode cX3_askSieve 237 = .ok (.goto 4, 3) := by decide +kernel
theorem dX3_askSieve_240 : decode cX3_askSieve 240 = .ok (.iconst 0, 1) := by decide +kernel
theorem dX3_askSieve_241 : decode cX3_askSieve 241 = .ok (.ireturn, 1) := by decide +kernel
theorem dX3_askSieve_242 : decode cX3_askSieve 242 = .ok (.aload_n 0, 1) := by decide +kernel
theorem dX3_askSieve_243 : decode cX3_askSieve 243 = .ok (.iload_n 3, 1) := by decide +kernel
theorem dX3_askSieve_244 : decode cX3_askSieve 244 = .ok (.iload_n 2, 1) := by decide +kernel
theorem dX3_askSieve_245 : decode cX3_askSieve 245 = .ok (.invokevirtual 207, 3) := by decide +kernel
theorem dX3_askSieve_248 : decode cX3_askSieve 248 = .ok (.ireturn, 1) := by decide +kernel
theorem dX3_askSieve_249 : decode cX3_askSieve 249 = .ok (.aload_n 0, 1) := by decide +kernel
theorem dX3_askSieve_250 : decode cX3_askSieve 250 = .ok (.getfield 56, 3) := by decide +kernel
theorem dX3_askSieve_253 : decode cX3_askSieve 253 = .ok (.iconst 3, 1) := by decide +kernel
theorem dX3_askSieve_254 : decode cX3_askSieve 254 = .ok (.invokevirtual 201, 3) := by decide +kernel
theorem dX3_askSieve_257 : decode cX3_askSieve 257 = .ok (.iconst 0, 1) := by decide +kernel
theorem dX3_askSieve_258 : decode cX3_askSieve 258 = .ok (.ireturn, 1) := by decide +kernel
theorem dX3_askOrder_0 : decode cX3_askOrder 0 = .ok (.aload_n 0, 1) := by decide +kernel
theorem dX3_askOrder_1 : decode cX3_askOrder 1 = .ok (.getfield 56, 3) := by decide +kernel
theorem dX3_askOrder_4 : decode cX3_askOrder 4 = .ok (.invokevirtual 169, 3) := by decide +kernel
theorem dX3_askOrder_7 : decode cX3_askOrder 7 = .ok (.ifCond .ne 5, 3) := by decide +kernel
theorem dX3_askOrder_10 : decode cX3_askOrder 10 = .ok (.iconst 0, 1) := by decide +kernel
theorem dX3_askOrder_11 : decode cX3_askOrder 11 = .ok (.ireturn, 1) := by decide +kernel
theorem dX3_askOrder_12 : decode cX3_askOrder 12 = .ok (.aload_n 0, 1) := by decide +kernel
theorem dX3_askOrder_13 : decode cX3_askOrder 13 = .ok (.getfield 40, 3) := by decide +kernel
theorem dX3_askOrder_16 : decode cX3_askOrder 16 = .ok (.getfield 172, 3) := by decide +kernel
theorem dX3_askOrder_19 : decode cX3_askOrder 19 = .ok (.iload_n 1, 1) := by decide +kernel
theorem dX3_askOrder_20 : decode cX3_askOrder 20 = .ok (.iaload, 1) := by decide +kernel
theorem dX3_askOrder_21 : decode cX3_askOrder 21 = .ok (.istore 4, 2) := by decide +kernel
theorem dX3_askOrder_23 : decode cX3_askOrder 23 = .ok (.aload_n 0, 1) := by decide +kernel
theorem dX3_askOrder_24 : decode cX3_askOrder 24 = .ok (.getfield 40, 3) := by decide +kernel
theorem dX3_askOrder_27 : decode cX3_askOrder 27 = .ok (.getfield 175, 3) := by decide +kernel
theorem dX3_askOrder_30 : decode cX3_askOrder 30 = .ok (.iload_n 1, 1) := by decide +kernel
theorem dX3_askOrder_31 : decode cX3_askOrder 31 = .ok (.iaload, 1) := by decide +kernel
theorem dX3_askOrder_32 : decode cX3_askOrder 32 = .ok (.istore 5, 2) := by decide +kernel
theorem dX3_askOrder_34 : decode cX3_askOrder 34 = .ok (.aload_n 0, 1) := by decide +kernel
theorem dX3_askOrder_35 : decode cX3_askOrder 35 = .ok (.getfield 40, 3) := by decide +kernel
theorem dX3_askOrder_38 : decode cX3_askOrder 38 = .ok (.getfield 178, 3) := by decide +kernel
theorem dX3_askOrder_41 : decode cX3_askOrder 41 = .ok (.iload_n 1, 1) := by decide +kernel
theorem dX3_askOrder_42 : decode cX3_askOrder 42 = .ok (.iaload, 1) := by decide +kernel
theorem dX3_askOrder_43 : decode cX3_askOrder 43 = .ok (.tableswitch 100 0 4 #[33, 51, 61, 72, 92], 33) := by decide +kernel
theorem dX3_askOrder_76 : decode cX3_askOrder 76 = .ok (.aload_n 0, 1) := by decide +kernel
theorem dX3_askOrder_77 : decode cX3_askOrder 77 = .ok (.iload 4, 2) := by decide +kernel
theorem dX3_askOrder_79 : decode cX3_askOrder 79 = .ok (.iload_n 2, 1) := by decide +kernel
theorem dX3_askOrder_80 : decode cX3_askOrder 80 = .ok (.invokevirtual 106, 3) := by decide +kernel
theorem dX3_askOrder_83 : decode cX3_askOrder 83 = .ok (.aload_n 0, 1) := by decide +kernel
theorem dX3_askOrder_84 : decode cX3_askOrder 84 = .ok (.iload 4, 2) := by decide +kernel
theorem dX3_askOrder_86 : decode cX3_askOrder 86 = .ok (.iload_n 3, 1) := by decide +kernel
theorem dX3_askOrder_87 : decode cX3_askOrder 87 = .ok (.invokevirtual 106, 3) := by decide +kernel
theorem dX3_askOrder_90 : decode cX3_askOrder 90 = .ok (.invokestatic 210, 3) := by decide +kernel
theorem dX3_askOrder_93 : decode cX3_askOrder 93 = .ok (.ireturn, 1) := by decide +kernel
theorem dX3_askOrder_94 : decode cX3_askOrder 94 = .ok (.aload_n 0, 1) := by decide +kernel
theorem dX3_askOrder_95 : decode cX3_askOrder 95 = .ok (.iload 4, 2) := by decide +kernel
theorem dX3_askOrder_97 : decode cX3_askOrder 97 = .ok (.iload_n 2, 1) := by decide +kernel
theorem dX3_askOrder_98 : decode cX3_askOrder 98 = .ok (.iload_n 3, 1) := by decide +kernel
theorem dX3_askOrder_99 : decode cX3_askOrder 99 = .ok (.invokevirtual 165, 3) := by decide +kernel
theorem dX3_askOrder_102 : decode cX3_askOrder 102 = .ok (.ineg, 1) := by decide +kernel
theorem dX3_askOrder_103 : decode cX3_askOrder 103 = .ok (.ireturn, 1) := by decide +kernel
theorem dX3_askOrder_104 : decode cX3_askOrder 104 = .ok (.aload_n 0, 1) := by decide +kernel
theorem dX3_askOrder_105 : decode cX3_askOrder 105 = .ok (.iload 4, 2) := by decide +kernel
theorem dX3_askOrder_107 : decode cX3_askOrder 107 = .ok (.iload 5, 2) := by decide +kernel
theorem dX3_askOrder_109 : decode cX3_askOrder 109 = .ok (.iload_n 2, 1) := by decide +kernel
theorem dX3_askOrder_110 : decode cX3_askOrder 110 = .ok (.iload_n 3, 1) := by decide +kernel
theorem dX3_askOrder_111 : decode cX3_askOrder 111 = .ok (.invokevirtual 214, 3) := by decide +kernel
theorem dX3_askOrder_114 : decode cX3_askOrder 114 = .ok (.ireturn, 1) := by decide +kernel
theorem dX3_askOrder_115 : decode cX3_askOrder 115 = .ok (.aload_n 0, 1) := by decide +kernel
theorem dX3_askOrder_116 : decode cX3_askOrder 116 = .ok (.iload 4, 2) := by decide +kernel
theorem dX3_askOrder_118 : decode cX3_askOrder 118 = .ok (.iload_n 2, 1) := by decide +kernel
theorem dX3_askOrder_119 : decode cX3_askOrder 119 = .ok (.invokevirtual 218, 3) := by decide +kernel
theorem dX3_askOrder_122 : decode cX3_askOrder 122 = .ok (.i2l, 1) := by decide +kernel
theorem dX3_askOrder_123 : decode cX3_askOrder 123 = .ok (.aload_n 0, 1) := by decide +kernel
theorem dX3_askOrder_124 : decode cX3_askOrder 124 = .ok (.iload 4, 2) := by decide +kernel
theorem dX3_askOrder_126 : decode cX3_askOrder 126 = .ok (.iload_n 3, 1) := by decide +kernel
theorem dX3_askOrder_127 : decode cX3_askOrder 127 = .ok (.invokevirtual 218, 3) := by decide +kernel
theorem dX3_askOrder_130 : decode cX3_askOrder 130 = .ok (.i2l, 1) := by decide +kernel
theorem dX3_askOrder_131 : decode cX3_askOrder 131 = .ok (.invokestatic 210, 3) := by decide +kernel
theorem dX3_askOrder_134 : decode cX3_askOrder 134 = .ok (.ireturn, 1) := by decide +kernel
theorem dX3_askOrder_135 : decode cX3_askOrder 135 = .ok (.iload_n 2, 1) := by decide +kernel
theorem dX3_askOrder_136 : decode cX3_askOrder 136 = .ok (.i2l, 1) := by decide +kernel
theorem dX3_askOrder_137 : decode cX3_askOrder 137 = .ok (.iload_n 3, 1) := by decide +kernel
theorem dX3_askOrder_138 : decode cX3_askOrder 138 = .ok (.i2l, 1) := by decide +kernel
theorem dX3_askOrder_139 : decode cX3_askOrder 139 = .ok (.invokestatic 210, 3) := by decide +kernel
theorem dX3_askOrder_142 : decode cX3_askOrder 142 = .ok (.ireturn, 1) := by decide +kernel
theorem dX3_askOrder_143 : decode cX3_askOrder 143 = .ok (.aload_n 0, 1) := by decide +kernel
theorem dX3_askOrder_144 : decode cX3_askOrder 144 = .ok (.getfield 56, 3) := by decide +kernel
theorem dX3_askOrder_147 : decode cX3_askOrder 147 = .ok (.iconst 3, 1) := by decide +kernel
theorem dX3_askOrder_148 : decode cX3_askOrder 148 = .ok (.invokevirtual 201, 3) := by decide +kernel
theorem dX3_askOrder_151 : decode cX3_askOrder 151 = .ok (.iconst 0, 1) := by decide +kernel
theorem dX3_askOrder_152 : decode cX3_askOrder 152 = .ok (.ireturn, 1) := by decide +kernel
theorem dX3_askSafely_0 : decode cX3_askSafely 0 = .ok (.aload_n 0, 1) := by decide +kernel
theorem dX3_askSafely_1 : decode cX3_askSafely 1 = .ok (.iload_n 1, 1) := by decide +kernel
theorem dX3_askSafely_2 : decode cX3_askSafely 2 = .ok (.iload_n 2, 1) := by decide +kernel
theorem dX3_askSafely_3 : decode cX3_askSafely 3 = .ok (.invokevirtual 117, 3) := by decide +kernel
theorem dX3_askSafely_6 : decode cX3_askSafely 6 = .ok (.istore_n 3, 1) := by decide +kernel
theorem dX3_askSafely_7 : decode cX3_askSafely 7 = .ok (.aload_n 0, 1) := by decide +kernel
theorem dX3_askSafely_8 : decode cX3_askSafely 8 = .ok (.getfield 56, 3) := by decide +kernel
theorem dX3_askSafely_11 : decode cX3_askSafely 11 = .ok (.invokevirtual 221, 3) := by decide +kernel
theorem dX3_askSafely_14 : decode cX3_askSafely 14 = .ok (.ifCond .ne 11, 3) := by decide +kernel
theorem dX3_askSafely_17 : decode cX3_askSafely 17 = .ok (.iload_n 3, 1) := by decide +kernel
theorem dX3_askSafely_18 : decode cX3_askSafely 18 = .ok (.ifCond .eq 7, 3) := by decide +kernel
theorem dX3_askSafely_21 : decode cX3_askSafely 21 = .ok (.iconst 1, 1) := by decide +kernel
theorem dX3_askSafely_22 : decode cX3_askSafely 22 = .ok (.goto 4, 3) := by decide +kernel
theorem dX3_askSafely_25 : decode cX3_askSafely 25 = .ok (.iconst 0, 1) := by decide +kernel
theorem dX3_askSafely_26 : decode cX3_askSafely 26 = .ok (.ireturn, 1) := by decide +kernel
theorem dX3_askThen_0 : decode cX3_askThen 0 = .ok (.aload_n 0, 1) := by decide +kernel
theorem dX3_askThen_1 : decode cX3_askThen 1 = .ok (.iload_n 1, 1) := by decide +kernel
theorem dX3_askThen_2 : decode cX3_askThen 2 = .ok (.iload_n 3, 1) := by decide +kernel
theorem dX3_askThen_3 : decode cX3_askThen 3 = .ok (.iload 4, 2) := by decide +kernel
theorem dX3_askThen_5 : decode cX3_askThen 5 = .ok (.invokevirtual 165, 3) := by decide +kernel
theorem dX3_askThen_8 : decode cX3_askThen 8 = .ok (.istore 5, 2) := by decide +kernel
theorem dX3_askThen_10 : decode cX3_askThen 10 = .ok (.iload 5, 2) := by decide +kernel
theorem dX3_askThen_12 : decode cX3_askThen 12 = .ok (.ifCond .eq 8, 3) := by decide +kernel
theorem dX3_askThen_15 : decode cX3_askThen 15 = .ok (.iload 5, 2) := by decide +kernel
theorem dX3_askThen_17 : decode cX3_askThen 17 = .ok (.goto 11, 3) := by decide +kernel
theorem dX3_askThen_20 : decode cX3_askThen 20 = .ok (.aload_n 0, 1) := by decide +kernel
theorem dX3_askThen_21 : decode cX3_askThen 21 = .ok (.iload_n 2, 1) := by decide +kernel
theorem dX3_askThen_22 : decode cX3_askThen 22 = .ok (.iload_n 3, 1) := by decide +kernel
theorem dX3_askThen_23 : decode cX3_askThen 23 = .ok (.iload 4, 2) := by decide +kernel
theorem dX3_askThen_25 : decode cX3_askThen 25 = .ok (.invokevirtual 165, 3) := by decide +kernel
theorem dX3_askThen_28 : decode cX3_askThen 28 = .ok (.ireturn, 1) := by decide +kernel
theorem dX3_rankBySieve_0 : decode cX3_rankBySieve 0 = .ok (.aload_n 0, 1) := by decide +kernel
theorem dX3_rankBySieve_1 : decode cX3_rankBySieve 1 = .ok (.iload_n 1, 1) := by decide +kernel
theorem dX3_rankBySieve_2 : decode cX3_rankBySieve 2 = .ok (.iload_n 2, 1) := by decide +kernel
theorem dX3_rankBySieve_3 : decode cX3_rankBySieve 3 = .ok (.invokevirtual 117, 3) := by decide +kernel
theorem dX3_rankBySieve_6 : decode cX3_rankBySieve 6 = .ok (.ifCond .eq 7, 3) := by decide +kernel
theorem dX3_rankBySieve_9 : decode cX3_rankBySieve 9 = .ok (.iconst 0, 1) := by decide +kernel
theorem dX3_rankBySieve_10 : decode cX3_rankBySieve 10 = .ok (.goto 4, 3) := by decide +kernel
theorem dX3_rankBySieve_13 : decode cX3_rankBySieve 13 = .ok (.iconst 1, 1) := by decide +kernel
theorem dX3_rankBySieve_14 : decode cX3_rankBySieve 14 = .ok (.ireturn, 1) := by decide +kernel
theorem dX3_lesserFirst_0 : decode cX3_lesserFirst 0 = .ok (.lload_n 0, 1) := by decide +kernel
theorem dX3_lesserFirst_1 : decode cX3_lesserFirst 1 = .ok (.lload_n 2, 1) := by decide +kernel
theorem dX3_lesserFirst_2 : decode cX3_lesserFirst 2 = .ok (.lcmp, 1) := by decide +kernel
theorem dX3_lesserFirst_3 : decode cX3_lesserFirst 3 = .ok (.ifCond .ne 5, 3) := by decide +kernel
theorem dX3_lesserFirst_6 : decode cX3_lesserFirst 6 = .ok (.iconst 0, 1) := by decide +kernel
theorem dX3_lesserFirst_7 : decode cX3_lesserFirst 7 = .ok (.ireturn, 1) := by decide +kernel
theorem dX3_lesserFirst_8 : decode cX3_lesserFirst 8 = .ok (.lload_n 0, 1) := by decide +kernel
theorem dX3_lesserFirst_9 : decode cX3_lesserFirst 9 = .ok (.lload_n 2, 1) := by decide +kernel
theorem dX3_lesserFirst_10 : decode cX3_lesserFirst 10 = .ok (.lcmp, 1) := by decide +kernel
theorem dX3_lesserFirst_11 : decode cX3_lesserFirst 11 = .ok (.ifCond .ge 7, 3) := by decide +kernel
theorem dX3_lesserFirst_14 : decode cX3_lesserFirst 14 = .ok (.iconst (-1), 1) := by decide +kernel
theorem dX3_lesserFirst_15 : decode cX3_lesserFirst 15 = .ok (.goto 4, 3) := by decide +kernel
theorem dX3_lesserFirst_18 : decode cX3_lesserFirst 18 = .ok (.iconst 1, 1) := by decide +kernel
theorem dX3_lesserFirst_19 : decode cX3_lesserFirst 19 = .ok (.ireturn, 1) := by decide +kernel
theorem dX3_quotient_0 : decode cX3_quotient 0 = .ok (.lload_n 3, 1) := by decide +kernel
theorem dX3_quotient_1 : decode cX3_quotient 1 = .ok (.lconst 0, 1) := by decide +kernel
theorem dX3_quotient_2 : decode cX3_quotient 2 = .ok (.lcmp, 1) := by decide +kernel
theorem dX3_quotient_3 : decode cX3_quotient 3 = .ok (.ifCond .ne 13, 3) := by decide +kernel
theorem dX3_quotient_6 : decode cX3_quotient 6 = .ok (.aload_n 0, 1) := by decide +kernel
theorem dX3_quotient_7 : decode cX3_quotient 7 = .ok (.getfield 56, 3) := by decide +kernel
theorem dX3_quotient_10 : decode cX3_quotient 10 = .ok (.iconst 1, 1) := by decide +kernel
theorem dX3_quotient_11 : decode cX3_quotient 11 = .ok (.invokevirtual 201, 3) := by decide +kernel
theorem dX3_quotient_14 : decode cX3_quotient 14 = .ok (.lconst 0, 1) := by decide +kernel
theorem dX3_quotient_15 : decode cX3_quotient 15 = .ok (.lreturn, 1) := by decide +kernel
theorem dX3_quotient_16 : decode cX3_quotient 16 = .ok (.lload_n 1, 1) := by decide +kernel
theorem dX3_quotient_17 : decode cX3_quotient 17 = .ok (.lload_n 3, 1) := by decide +kernel
theorem dX3_quotient_18 : decode cX3_quotient 18 = .ok (.ldiv, 1) := by decide +kernel
theorem dX3_quotient_19 : decode cX3_quotient 19 = .ok (.lreturn, 1) := by decide +kernel
theorem dX3_itemAt_0 : decode cX3_itemAt 0 = .ok (.lload_n 1, 1) := by decide +kernel
theorem dX3_itemAt_1 : decode cX3_itemAt 1 = .ok (.invokestatic 75, 3) := by decide +kernel
theorem dX3_itemAt_4 : decode cX3_itemAt 4 = .ok (.ifCond .ne 13, 3) := by decide +kernel
theorem dX3_itemAt_7 : decode cX3_itemAt 7 = .ok (.aload_n 0, 1) := by decide +kernel
theorem dX3_itemAt_8 : decode cX3_itemAt 8 = .ok (.getfield 56, 3) := by decide +kernel
theorem dX3_itemAt_11 : decode cX3_itemAt 11 = .ok (.iconst 2, 1) := by decide +kernel
theorem dX3_itemAt_12 : decode cX3_itemAt 12 = .ok (.invokevirtual 201, 3) := by decide +kernel
theorem dX3_itemAt_15 : decode cX3_itemAt 15 = .ok (.lconst 0, 1) := by decide +kernel
theorem dX3_itemAt_16 : decode cX3_itemAt 16 = .ok (.lreturn, 1) := by decide +kernel
theorem dX3_itemAt_17 : decode cX3_itemAt 17 = .ok (.aload_n 0, 1) := by decide +kernel
theorem dX3_itemAt_18 : decode cX3_itemAt 18 = .ok (.getfield 17, 3) := by decide +kernel
theorem dX3_itemAt_21 : decode cX3_itemAt 21 = .ok (.lload_n 1, 1) := by decide +kernel
theorem dX3_itemAt_22 : decode cX3_itemAt 22 = .ok (.l2i, 1) := by decide +kernel
theorem dX3_itemAt_23 : decode cX3_itemAt 23 = .ok (.laload, 1) := by decide +kernel
theorem dX3_itemAt_24 : decode cX3_itemAt 24 = .ok (.lreturn, 1) := by decide +kernel
