theorem dX0_init_0 : decode cX0_init 0 = .ok (.aload_n 0, 1) := by decide +kernel
theorem dX0_init_1 : decode cX0_init 1 = .ok (.invokespecial 3, 3) := by decide +kernel
theorem dX0_init_4 : decode cX0_init 4 = .ok (.aload_n 0, 1) := by decide +kernel
theorem dX0_init_5 : decode cX0_init 5 = .ok (.bipush 40, 2) := by decide +kernel
theorem dX0_init_7 : decode cX0_init 7 = .ok (.newarray .long, 2) := by decide +kernel
theorem dX0_init_9 : decode cX0_init 9 = .ok (.putfield 9, 3) := by decide +kernel
theorem dX0_init_12 : decode cX0_init 12 = .ok (.aload_n 0, 1) := by decide +kernel
theorem dX0_init_13 : decode cX0_init 13 = .ok (.bipush 40, 2) := by decide +kernel
theorem dX0_init_15 : decode cX0_init 15 = .ok (.newarray .int, 2) := by decide +kernel
theorem dX0_init_17 : decode cX0_init 17 = .ok (.putfield 15, 3) := by decide +kernel
theorem dX0_init_20 : decode cX0_init 20 = .ok (.aload_n 0, 1) := by decide +kernel
theorem dX0_init_21 : decode cX0_init 21 = .ok (.bipush 40, 2) := by decide +kernel
theorem dX0_init_23 : decode cX0_init 23 = .ok (.newarray .long, 2) := by decide +kernel
theorem dX0_init_25 : decode cX0_init 25 = .ok (.putfield 19, 3) := by decide +kernel
theorem dX0_init_28 : decode cX0_init 28 = .ok (.aload_n 0, 1) := by decide +kernel
theorem dX0_init_29 : decode cX0_init 29 = .ok (.bipush 40, 2) := by decide +kernel
theorem dX0_init_31 : decode cX0_init 31 = .ok (.newarray .int, 2) := by decide +kernel
theorem dX0_init_33 : decode cX0_init 33 = .ok (.putfield 22, 3) := by decide +kernel
theorem dX0_init_36 : decode cX0_init 36 = .ok (.aload_n 0, 1) := by decide +kernel
theorem dX0_init_37 : decode cX0_init 37 = .ok (.iconst 0, 1) := by decide +kernel
theorem dX0_init_38 : decode cX0_init 38 = .ok (.putfield 25, 3) := by decide +kernel
theorem dX0_init_41 : decode cX0_init 41 = .ok (.return_, 1) := by decide +kernel
theorem dX0_clear_0 : decode cX0_clear 0 = .ok (.aload_n 0, 1) := by decide +kernel
theorem dX0_clear_1 : decode cX0_clear 1 = .ok (.iconst 0, 1) := by decide +kernel
theorem dX0_clear_2 : decode cX0_clear 2 = .ok (.putfield 25, 3) := by decide +kernel
theorem dX0_clear_5 : decode cX0_clear 5 = .ok (.return_, 1) := by decide +kernel
theorem dX0_add_0 : decode cX0_add 0 = .ok (.aload_n 0, 1) := by decide +kernel
theorem dX0_add_1 : decode cX0_add 1 = .ok (.lload_n 1, 1) := by decide +kernel
theorem dX0_add_2 : decode cX0_add 2 = .ok (.invokevirtual 29, 3) := by decide +kernel
theorem dX0_add_5 : decode cX0_add 5 = .ok (.istore 6, 2) := by decide +kernel
theorem dX0_add_7 : decode cX0_add 7 = .ok (.iload 6, 2) := by decide +kernel
theorem dX0_add_9 : decode cX0_add 9 = .ok (.aload_n 0, 1) := by decide +kernel
theorem dX0_add_10 : decode cX0_add 10 = .ok (.getfield 25, 3) := by decide +kernel
theorem dX0_add_13 : decode cX0_add 13 = .ok (.if_icmp .ne 46, 3) := by decide +kernel
theorem dX0_add_16 : decode cX0_add 16 = .ok (.aload_n 0, 1) := by decide +kernel
theorem dX0_add_17 : decode cX0_add 17 = .ok (.getfield 9, 3) := by decide +kernel
theorem dX0_add_20 : decode cX0_add 20 = .ok (.iload 6, 2) := by decide +kernel
theorem dX0_add_22 : decode cX0_add 22 = .ok (.lload_n 1, 1) := by decide +kernel
theorem dX0_add_23 : decode cX0_add 23 = .ok (.lastore, 1) := by decide +kernel
theorem dX0_add_24 : decode cX0_add 24 = .ok (.aload_n 0, 1) := by decide +kernel
theorem dX0_add_25 : decode cX0_add 25 = .ok (.getfield 15, 3) := by decide +kernel
theorem dX0_add_28 : decode cX0_add 28 = .ok (.iload 6, 2) := by decide +kernel
theorem dX0_add_30 : decode cX0_add 30 = .ok (.iconst 0, 1) := by decide +kernel
theorem dX0_add_31 : decode cX0_add 31 = .ok (.iastore, 1) := by decide +kernel
theorem dX0_add_32 : decode cX0_add 32 = .ok (.aload_n 0, 1) := by decide +kernel
theorem dX0_add_33 : decode cX0_add 33 = .ok (.getfield 19, 3) := by decide +kernel
theorem dX0_add_36 : decode cX0_add 36 = .ok (.iload 6, 2) := by decide +kernel
theorem dX0_add_38 : decode cX0_add 38 = .ok (.lconst 0, 1) := by decide +kernel
theorem dX0_add_39 : decode cX0_add 39 = .ok (.lastore, 1) := by decide +kernel
theorem dX0_add_40 : decode cX0_add 40 = .ok (.aload_n 0, 1) := by decide +kernel
theorem dX0_add_41 : decode cX0_add 41 = .ok (.getfield 22, 3) := by decide +kernel
theorem dX0_add_44 : decode cX0_add 44 = .ok (.iload 6, 2) := by decide +kernel
theorem dX0_add_46 : decode cX0_add 46 = .ok (.iload 5, 2) := by decide +kernel
theorem dX0_add_48 : decode cX0_add 48 = .ok (.iastore, 1) := by decide +kernel
theorem dX0_add_49 : decode cX0_add 49 = .ok (.aload_n 0, 1) := by decide +kernel
theorem dX0_add_50 : decode cX0_add 50 = .ok (.dup, 1) := by decide +kernel
theorem dX0_add_51 : decode cX0_add 51 = .ok (.getfield 25, 3) := by decide +kernel
theorem dX0_add_54 : decode cX0_add 54 = .ok (.iconst 1, 1) := by decide +kernel
theorem dX0_add_55 : decode cX0_add 55 = .ok (.iadd, 1) := by decide +kernel
theorem dX0_add_56 : decode cX0_add 56 = .ok (.putfield 25, 3) := by decide +kernel
theorem dX0_add_59 : decode cX0_add 59 = .ok (.aload_n 0, 1) := by decide +kernel
theorem dX0_add_60 : decode cX0_add 60 = .ok (.getfield 15, 3) := by decide +kernel
theorem dX0_add_63 : decode cX0_add 63 = .ok (.iload 6, 2) := by decide +kernel
theorem dX0_add_65 : decode cX0_add 65 = .ok (.dup2, 1) := by decide +kernel
theorem dX0_add_66 : decode cX0_add 66 = .ok (.iaload, 1) := by decide +kernel
theorem dX0_add_67 : decode cX0_add 67 = .ok (.iconst 1, 1) := by decide +kernel
theorem dX0_add_68 : decode cX0_add 68 = .ok (.iadd, 1) := by decide +kernel
theorem dX0_add_69 : decode cX0_add 69 = .ok (.iastore, 1) := by decide +kernel
theorem dX0_add_70 : decode cX0_add 70 = .ok (.aload_n 0, 1) := by decide +kernel
theorem dX0_add_71 : decode cX0_add 71 = .ok (.getfield 19, 3) := by decide +kernel
theorem dX0_add_74 : decode cX0_add 74 = .ok (.iload 6, 2) := by decide +kernel
theorem dX0_add_76 : decode cX0_add 76 = .ok (.dup2, 1) := by decide +kernel
theorem dX0_add_77 : decode cX0_add 77 = .ok (.laload, 1) := by decide +kernel
theorem dX0_add_78 : decode cX0_add 78 = .ok (.lload_n 3, 1) := by decide +kernel
theorem dX0_add_79 : decode cX0_add 79 = .ok (.ladd, 1) := by decide +kernel
theorem dX0_add_80 : decode cX0_add 80 = .ok (.lastore, 1) := by decide +kernel
theorem dX0_add_81 : decode cX0_add 81 = .ok (.return_, 1) := by decide +kernel
theorem dX0_tellOf_0 : decode cX0_tellOf 0 = .ok (.iload_n 1, 1) := by decide +kernel
theorem dX0_tellOf_1 : decode cX0_tellOf 1 = .ok (.ifCond .lt 11, 3) := by decide +kernel
theorem dX0_tellOf_4 : decode cX0_tellOf 4 = .ok (.iload_n 1, 1) := by decide +kernel
theorem dX0_tellOf_5 : decode cX0_tellOf 5 = .ok (.aload_n 0, 1) := by decide +kernel
theorem dX0_tellOf_6 : decode cX0_tellOf 6 = .ok (.getfield 25, 3) := by decide +kernel
theorem dX0_tellOf_9 : decode cX0_tellOf 9 = .ok (.if_icmp .lt 5, 3) := by decide +kernel
theorem dX0_tellOf_12 : decode cX0_tellOf 12 = .ok (.lconst 0, 1) := by decide +kernel
theorem dX0_tellOf_13 : decode cX0_tellOf 13 = .ok (.lreturn, 1) := by decide +kernel
theorem dX0_tellOf_14 : decode cX0_tellOf 14 = .ok (.iload_n 2, 1) := by decide +kernel
theorem dX0_tellOf_15 : decode cX0_tellOf 15 = .ok (.tableswitch 59 0 3 #[29, 36, 44, 51], 29) := by decide +kernel
theorem dX0_tellOf_44 : decode cX0_tellOf 44 = .ok (.aload_n 0, 1) := by decide +kernel
theorem dX0_tellOf_45 : decode cX0_tellOf 45 = .ok (.getfield 9, 3) := by decide +kernel
theorem dX0_tellOf_48 : decode cX0_tellOf 48 = .ok (.iload_n 1, 1) := by decide +kernel
theorem dX0_tellOf_49 : decode cX0_tellOf 49 = .ok (.laload, 1) := by decide +kernel
theorem dX0_tellOf_50 : decode cX0_tellOf 50 = .ok (.lreturn, 1) := by decide +kernel
theorem dX0_tellOf_51 : decode cX0_tellOf 51 = .ok (.aload_n 0, 1) := by decide +kernel
theorem dX0_tellOf_52 : decode cX0_tellOf 52 = .ok (.getfield 15, 3) := by decide +kernel
theorem dX0_tellOf_55 : decode cX0_tellOf 55 = .ok (.iload_n 1, 1) := by decide +kernel
theorem dX0_tellOf_56 : decode cX0_tellOf 56 = .ok (.iaload, 1) := by decide +kernel
theorem dX0_tellOf_57 : decode cX0_tellOf 57 = .ok (.i2l, 1) := by decide +kernel
theorem dX0_tellOf_58 : decode cX0_tellOf 58 = .ok (.lreturn, 1) := by decide +kernel
theorem dX0_tellOf_59 : decode cX0_tellOf 59 = .ok (.aload_n 0, 1) := by decide +kernel
theorem dX0_tellOf_60 : decode cX0_tellOf 60 = .ok (.getfield 19, 3) := by decide +kernel
theorem dX0_tellOf_63 : decode cX0_tellOf 63 = .ok (.iload_n 1, 1) := by decide +kernel
theorem dX0_tellOf_64 : decode cX0_tellOf 64 = .ok (.laload, 1) := by decide +kernel
theorem dX0_tellOf_65 : decode cX0_tellOf 65 = .ok (.lreturn, 1) := by decide +kernel
theorem dX0_tellOf_66 : decode cX0_tellOf 66 = .ok (.aload_n 0, 1) := by decide +kernel
theorem dX0_tellOf_67 : decode cX0_tellOf 67 = .ok (.getfield 22, 3) := by decide +kernel
theorem dX0_tellOf_70 : decode cX0_tellOf 70 = .ok (.iload_n 1, 1) := by decide +kernel
theorem dX0_tellOf_71 : decode cX0_tellOf 71 = .ok (.iaload, 1) := by decide +kernel
theorem dX0_tellOf_72 : decode cX0_tellOf 72 = .ok (.i2l, 1) := by decide +kernel
theorem dX0_tellOf_73 : decode cX0_tellOf 73 = .ok (.lreturn, 1) := by decide +kernel
theorem dX0_tellOf_74 : decode cX0_tellOf 74 = .ok (.lconst 0, 1) := by decide +kernel
theorem dX0_tellOf_75 : decode cX0_tellOf 75 = .ok (.lreturn, 1) := by decide +kernel
theorem dX0_placeOf_0 : decode cX0_placeOf 0 = .ok (.iconst 0, 1) := by decide +kernel
theorem dX0_placeOf_1 : decode cX0_placeOf 1 = .ok (.istore_n 3, 1) := by decide +kernel
theorem dX0_placeOf_2 : decode cX0_placeOf 2 = .ok (.iload_n 3, 1) := by decide +kernel
theorem dX0_placeOf_3 : decode cX0_placeOf 3 = .ok (.aload_n 0, 1) := by decide +kernel
theorem dX0_placeOf_4 : decode cX0_placeOf 4 = .ok (.getfield 25, 3) := by decide +kernel
theorem dX0_placeOf_7 : decode cX0_placeOf 7 = .ok (.if_icmp .ge 22, 3) := by decide +kernel
theorem dX0_placeOf_10 : decode cX0_placeOf 10 = .ok (.aload_n 0, 1) := by decide +kernel
theorem dX0_placeOf_11 : decode cX0_placeOf 11 = .ok (.getfield 9, 3) := by decide +kernel
theorem dX0_placeOf_14 : decode cX0_placeOf 14 = .ok (.iload_n 3, 1) := by decide +kernel
theorem dX0_placeOf_15 : decode cX0_placeOf 15 = .ok (.laload, 1) := by decide +kernel
theorem dX0_placeOf_16 : decode cX0_placeOf 16 = .ok (.lload_n 1, 1) := by decide +kernel
theorem dX0_placeOf_17 : decode cX0_placeOf 17 = .ok (.lcmp, 1) := by decide +kernel
theorem dX0_placeOf_18 : decode cX0_placeOf 18 = .ok (.ifCond .ne 5, 3) := by decide +kernel
theorem dX0_placeOf_21 : decode cX0_placeOf 21 = .ok (.iload_n 3, 1) := by decide +kernel
theorem dX0_placeOf_22 : decode cX0_placeOf 22 = .ok (.ireturn, 1) := by decide +kernel
theorem dX0_placeOf_23 : decode cX0_placeOf 23 = .ok (.iinc 3 1, 3) := by decide +kernel
theorem dX0_placeOf_26 : decode cX0_placeOf 26 = .ok (.goto (-24), 3) := by decide +kernel
theorem dX0_placeOf_29 : decode cX0_placeOf 29 = .ok (.aload_n 0, 1) := by decide +kernel
theorem dX0_placeOf_30 : decode cX0_placeOf 30 = .ok (.getfield 25, 3) := by decide +kernel
theorem dX0_placeOf_33 : decode cX0_placeOf 33 = .ok (.ireturn, 1) := by decide +kernel
theorem dX1_init_0 : decode cX1_init 0 = .ok (.aload_n 0, 1) := by decide +kernel
theorem dX1_init_1 : decode cX1_init 1 = .ok (.invokespecial 1, 3) := by decide +kernel
theorem dX1_init_4 : decode cX1_init 4 = .ok (.aload_n 0, 1) := by decide +kernel
theorem dX1_init_5 : decode cX1_init 5 = .ok (.bipush 24, 2) := by decide +kernel
theorem dX1_init_7 : decode cX1_init 7 = .ok (.newarray .int, 2) := by decide +kernel
theorem dX1_init_9 : decode cX1_init 9 = .ok (.putfield 9, 3) := by decide +kernel
theorem dX1_init_12 : decode cX1_init 12 = .ok (.aload_n 0, 1) := by decide +kernel
theorem dX1_init_13 : decode cX1_init 13 = .ok (.bipush 24, 2) := by decide +kernel
theorem dX1_init_15 : decode cX1_init 15 = .ok (.newarray .int, 2) := by decide +kernel
theorem dX1_init_17 : decode cX1_init 17 = .ok (.putfield 13, 3) := by decide +kernel
theorem dX1_init_20 : decode cX1_init 20 = .ok (.aload_n 0, 1) := by decide +kernel
theorem dX1_init_21 : decode cX1_init 21 = .ok (.bipush 24, 2) := by decide +kernel
theorem dX1_init_23 : decode cX1_init 23 = .ok (.newarray .int, 2) := by decide +kernel
theorem dX1_init_25 : decode cX1_init 25 = .ok (.putfield 16, 3) := by decide +kernel
theorem dX1_init_28 : decode cX1_init 28 = .ok (.aload_n 0, 1) := by decide +kernel
theorem dX1_init_29 : decode cX1_init 29 = .ok (.bipush 24, 2) := by decide +kernel
theorem dX1_init_31 : decode cX1_init 31 = .ok (.newarray .long, 2) := by decide +kernel
theorem dX1_init_33 : decode cX1_init 33 = .ok (.putfield 19, 3) := by decide +kernel
theorem dX1_init_36 : decode cX1_init 36 = .ok (.aload_n 0, 1) := by decide +kernel
theorem dX1_init_37 : decode cX1_init 37 = .ok (.iconst 0, 1) := by decide +kernel
theorem dX1_init_38 : decode cX1_init 38 = .ok (.putfield 23, 3) := by decide +kernel
theorem dX1_init_41 : decode cX1_init 41 = .ok (.return_, 1) := by decide +kernel
theorem dX1_has_0 : decode cX1_has 0 = .ok (.iload_n 1, 1) := by decide +kernel
theorem dX1_has_1 : decode cX1_has 1 = .ok (.ifCond .lt 15, 3) := by decide +kernel
theorem dX1_has_4 : decode cX1_has 4 = .ok (.iload_n 1, 1) := by decide +kernel
theorem dX1_has_5 : decode cX1_has 5 = .ok (.aload_n 0, 1) := by decide +kernel
theorem dX1_has_6 : decode cX1_has 6 = .ok (.getfield 23, 3) := by decide +kernel
theorem dX1_has_9 : decode cX1_has 9 = .ok (.if_icmp .ge 7, 3) := by decide +kernel
theorem dX1_has_12 : decode cX1_has 12 = .ok (.iconst 1, 1) := by decide +kernel
theorem dX1_has_13 : decode cX1_has 13 = .ok (.goto 4, 3) := by decide +kernel
theorem dX1_has_16 : decode cX1_has 16 = .ok (.iconst 0, 1) := by decide +kernel
theorem dX1_has_17 : decode cX1_has 17 = .ok (.ireturn, 1) := by decide +kernel
theorem dX1_isFull_0 : decode cX1_isFull 0 = .ok (.aload_n 0, 1) := by decide +kernel
theorem dX1_isFull_1 : decode cX1_isFull 1 = .ok (.getfield 23, 3) := by decide +kernel
theorem dX1_isFull_4 : decode cX1_isFull 4 = .ok (.bipush 24, 2) := by decide +kernel
theorem dX1_isFull_6 : decode cX1_isFull 6 = .ok (.if_icmp .lt 7, 3) := by decide +kernel
theorem dX1_isFull_9 : decode cX1_isFull 9 = .ok (.iconst 1, 1) := by decide +kernel
theorem dX1_isFull_10 : decode cX1_isFull 10 = .ok (.goto 4, 3) := by decide +kernel
theorem dX1_isFull_13 : decode cX1_isFull 13 = .ok (.iconst 0, 1) := by decide +kernel
theorem dX1_isFull_14 : decode cX1_isFull 14 = .ok (.ireturn, 1) := by decide +kernel
theorem dX1_make_0 : decode cX1_make 0 = .ok (.aload_n 0, 1) := by decide +kernel
theorem dX1_make_1 : decode cX1_make 1 = .ok (.getfield 23, 3) := by decide +kernel
theorem dX1_make_4 : decode cX1_make 4 = .ok (.istore 6, 2) := by decide +kernel
theorem dX1_make_6 : decode cX1_make 6 = .ok (.aload_n 0, 1) := by decide +kernel
theorem dX1_make_7 : decode cX1_make 7 = .ok (.getfield 9, 3) := by decide +kernel
theorem dX1_make_10 : decode cX1_make 10 = .ok (.iload 6, 2) := by decide +kernel
theorem dX1_make_12 : decode cX1_make 12 = .ok (.iload_n 1, 1) := by decide +kernel
theorem dX1_make_13 : decode cX1_make 13 = .ok (.iastore, 1) := by decide +kernel
theorem dX1_make_14 : decode cX1_make 14 = .ok (.aload_n 0, 1) := by decide +kernel
theorem dX1_make_15 : decode cX1_make 15 = .ok (.getfield 13, 3) := by decide +kernel
theorem dX1_make_18 : decode cX1_make 18 = .ok (.iload 6, 2) := by decide +kernel
theorem dX1_make_20 : decode cX1_make 20 = .ok (.iload_n 2, 1) := by decide +kernel
theorem dX1_make_21 : decode cX1_make 21 = .ok (.iastore, 1) := by decide +kernel
theorem dX1_make_22 : decode cX1_make 22 = .ok (.aload_n 0, 1) := by decide +kernel
theorem dX1_make_23 : decode cX1_make 23 = .ok (.getfield 16, 3) := by decide +kernel
theorem dX1_make_26 : decode cX1_make 26 = .ok (.iload 6, 2) := by decide +kernel
theorem dX1_make_28 : decode cX1_make 28 = .ok (.iload_n 3, 1) := by decide +kernel
theorem dX1_make_29 : decode cX1_make 29 = .ok (.iastore, 1) := by decide +kernel
theorem dX1_make_30 : decode cX1_make 30 = .ok (.aload_n 0, 1) := by decide +kernel
theorem dX1_make_31 : decode cX1_make 31 = .ok (.getfield 19, 3) := by decide +kernel
theorem dX1_make_34 : decode cX1_make 34 = .ok (.iload 6, 2) := by decide +kernel
theorem dX1_make_36 : decode cX1_make 36 = .ok (.lload 4, 2) := by decide +kernel
theorem dX1_make_38 : decode cX1_make 38 = .ok (.lastore, 1) := by decide +kernel
theorem dX1_make_39 : decode cX1_make 39 = .ok (.aload_n 0, 1) := by decide +kernel
theorem dX1_make_40 : decode cX1_make 40 = .ok (.dup, 1) := by decide +kernel
theorem dX1_make_41 : decode cX1_make 41 = .ok (.getfield 23, 3) := by decide +kernel
theorem dX1_make_44 : decode cX1_make 44 = .ok (.iconst 1, 1) := by decide +kernel
theorem dX1_make_45 : decode cX1_make 45 = .ok (.iadd, 1) := by decide +kernel
theorem dX1_make_46 : decode cX1_make 46 = .ok (.putfield 23, 3) := by decide +kernel
theorem dX1_make_49 : decode cX1_make 49 = .ok (.iload 6, 2) := by decide +kernel
theorem dX1_make_51 : decode cX1_make 51 = .ok (.ireturn, 1) := by decide +kernel
theorem dX1_countAsked_0 : decode cX1_countAsked 0 = .ok (.aload_n 0, 1) := by decide +kernel
theorem dX1_countAsked_1 : decode cX1_countAsked 1 = .ok (.getfield 19, 3) := by decide +kernel
theorem dX1_countAsked_4 : decode cX1_countAsked 4 = .ok (.iload_n 1, 1) := by decide +kernel
theorem dX1_countAsked_5 : decode cX1_countAsked 5 = .ok (.dup2, 1) := by decide +kernel
theorem dX1_countAsked_6 : decode cX1_countAsked 6 = .ok (.laload, 1) := by decide +kernel
theorem dX1_countAsked_7 : decode cX1_countAsked 7 = .ok (.lconst 1, 1) := by decide +kernel
theorem dX1_countAsked_8 : decode cX1_countAsked 8 = .ok (.ladd, 1) := by decide +kernel
theorem dX1_countAsked_9 : decode cX1_countAsked 9 = .ok (.lastore, 1) := by decide +kernel
theorem dX1_countAsked_10 : decode cX1_countAsked 10 = .ok (.aload_n 0, 1) := by decide +kernel
theorem dX1_countAsked_11 : decode cX1_countAsked 11 = .ok (.getfield 19, 3) := by decide +kernel
theorem dX1_countAsked_14 : decode cX1_countAsked 14 = .ok (.iload_n 1, 1) := by decide +kernel
theorem dX1_countAsked_15 : decode cX1_countAsked 15 = .ok (.laload, 1) := by decide +kernel
theorem dX1_countAsked_16 : decode cX1_countAsked 16 = .ok (.lreturn, 1) := by decide +kernel
theorem dX2_init_0 : decode cX2_init 0 = .ok (.aload_n 0, 1) := by decide +kernel
theorem dX2_init_1 : decode cX2_init 1 = .ok (.invokespecial 3, 3) := by decide +kernel
theorem dX2_init_4 : decode cX2_init 4 = .ok (.aload_n 0, 1) := by decide +kernel
theorem dX2_init_5 : decode cX2_init 5 = .ok (.iconst 0, 1) := by decide +kernel
theorem dX2_init_6 : decode cX2_init 6 = .ok (.putfield 9, 3) := by decide +kernel
theorem dX2_init_9 : decode cX2_init 9 = .ok (.aload_n 0, 1) := by decide +kernel
theorem dX2_init_10 : decode cX2_init 10 = .ok (.iconst 0, 1) := by decide +kernel
theorem dX2_init_11 : decode cX2_init 11 = .ok (.putfield 15, 3) := by decide +kernel
theorem dX2_init_14 : decode cX2_init 14 = .ok (.aload_n 0, 1) := by decide +kernel
theorem dX2_init_15 : decode cX2_init 15 = .ok (.iconst 0, 1) := by decide +kernel
theorem dX2_init_16 : decode cX2_init 16 = .ok (.putfield 18, 3) := by decide +kernel
theorem dX2_init_19 : decode cX2_init 19 = .ok (.aload_n 0, 1) := by decide +kernel
theorem dX2_init_20 : decode cX2_init 20 = .ok (.iconst 0, 1) := by decide +kernel
theorem dX2_init_21 : decode cX2_init 21 = .ok (.putfield 21, 3) := by decide +kernel
theorem dX2_init_24 : decode cX2_init 24 = .ok (.aload_n 0, 1) := by decide +kernel
theorem dX2_init_25 : decode cX2_init 25 = .ok (.iconst 0, 1) := by decide +kernel
theorem dX2_init_26 : decode cX2_init 26 = .ok (.putfield 24, 3) := by decide +kernel
theorem dX2_init_29 : decode cX2_init 29 = .ok (.aload_n 0, 1) := by decide +kernel
theorem dX2_init_30 : decode cX2_init 30 = .ok (.iconst 0, 1) := by decide +kernel
theorem dX2_init_31 : decode cX2_init 31 = .ok (.putfield 27, 3) := by decide +kernel
theorem dX2_init_34 : decode cX2_init 34 = .ok (.return_, 1) := by decide +kernel
theorem dX2_opensCall_0 : decode cX2_opensCall 0 = .ok (.aload_n 0, 1) := by decide +kernel
theorem dX2_opensCall_1 : decode cX2_opensCall 1 = .ok (.getfield 18, 3) := by decide +kernel
theorem dX2_opensCall_4 : decode cX2_opensCall 4 = .ok (.sipush 2000, 3) := by decide +kernel
theorem dX2_opensCall_7 : decode cX2_opensCall 7 = .ok (.if_icmp .lt 5, 3) := by decide +kernel
theorem dX2_opensCall_10 : decode cX2_opensCall 10 = .ok (.iconst 0, 1) := by decide +kernel
theorem dX2_opensCall_11 : decode cX2_opensCall 11 = .ok (.ireturn, 1) := by decide +kernel
theorem dX2_opensCall_12 : decode cX2_opensCall 12 = .ok (.aload_n 0, 1) := by decide +kernel
theorem dX2_opensCall_13 : decode cX2_opensCall 13 = .ok (.iconst 0, 1) := by decide +kernel
theorem dX2_opensCall_14 : decode cX2_opensCall 14 = .ok (.putfield 9, 3) := by decide +kernel
theorem dX2_opensCall_17 : decode cX2_opensCall 17 = .ok (.aload_n 0, 1) := by decide +kernel
theorem dX2_opensCall_18 : decode cX2_opensCall 18 = .ok (.iconst 0, 1) := by decide +kernel
theorem dX2_opensCall_19 : decode cX2_opensCall 19 = .ok (.putfield 27, 3) := by decide +kernel
theorem dX2_opensCall_22 : decode cX2_opensCall 22 = .ok (.iconst 1, 1) := by decide +kernel
theorem dX2_opensCall_23 : decode cX2_opensCall 23 = .ok (.ireturn, 1) := by decide +kernel
theorem dX2_beginsAsking_0 : decode cX2_beginsAsking 0 = .ok (.aload_n 0, 1) := by decide +kernel
theorem dX2_beginsAsking_1 : decode cX2_beginsAsking 1 = .ok (.invokevirtual 30, 3) := by decide +kernel
theorem dX2_beginsAsking_4 : decode cX2_beginsAsking 4 = .ok (.ifCond .eq 5, 3) := by decide +kernel
theorem dX2_beginsAsking_7 : decode cX2_beginsAsking 7 = .ok (.iconst 0, 1) := by decide +kernel
theorem dX2_beginsAsking_8 : decode cX2_beginsAsking 8 = .ok (.ireturn, 1) := by decide +kernel
theorem dX2_beginsAsking_9 : decode cX2_beginsAsking 9 = .ok (.aload_n 0, 1) := by decide +kernel
theorem dX2_beginsAsking_10 : decode cX2_beginsAsking 10 = .ok (.getfield 9, 3) := by decide +kernel
theorem dX2_beginsAsking_13 : decode cX2_beginsAsking 13 = .ok (.sipush 2000, 3) := by decide +kernel
theorem dX2_beginsAsking_16 : decode cX2_beginsAsking 16 = .ok (.if_icmp .lt 10, 3) := by decide +kernel
theorem dX2_beginsAsking_19 : decode cX2_beginsAsking 19 = .ok (.aload_n 0, 1) := by decide +kernel
theorem dX2_beginsAsking_20 : decode cX2_beginsAsking 20 = .ok (.iconst 4, 1) := by decide +kernel
theorem dX2_beginsAsking_21 : decode cX2_beginsAsking 21 = .ok (.invokevirtual 34, 3) := by decide +kernel
theorem dX2_beginsAsking_24 : decode cX2_beginsAsking 24 = .ok (.iconst 0, 1) := by decide +kernel
theorem dX2_beginsAsking_25 : decode cX2_beginsAsking 25 = .ok (.ireturn, 1) := by decide +kernel
theorem dX2_beginsAsking_26 : decode cX2_beginsAsking 26 = .ok (.aload_n 0, 1) := by decide +kernel
theorem dX2_beginsAsking_27 : decode cX2_beginsAsking 27 = .ok (.dup, 1) := by decide +kernel
theorem dX2_beginsAsking_28 : decode cX2_beginsAsking 28 = .ok (.getfield 9, 3) := by decide +kernel
theorem dX2_beginsAsking_31 : decode cX2_beginsAsking 31 = .ok (.iconst 1, 1) := by decide +kernel
theorem dX2_beginsAsking_32 : decode cX2_beginsAsking 32 = .ok (.iadd, 1) := by decide +kernel
theorem dX2_beginsAsking_33 : decode cX2_beginsAsking 33 = .ok (.putfield 9, 3) := by decide +kernel
theorem dX2_beginsAsking_36 : decode cX2_beginsAsking 36 = .ok (.aload_n 0, 1) := by decide +kernel
theorem dX2_beginsAsking_37 : decode cX2_beginsAsking 37 = .ok (.dup, 1) := by decide +kernel
theorem dX2_beginsAsking_38 : decode cX2_beginsAsking 38 = .ok (.getfield 15, 3) := by decide +kernel
theorem dX2_beginsAsking_41 : decode cX2_beginsAsking 41 = .ok (.iconst 1, 1) := by decide +kernel
theorem dX2_beginsAsking_42 : decode cX2_beginsAsking 42 = .ok (.iadd, 1) := by decide +kernel
theorem dX2_beginsAsking_43 : decode cX2_beginsAsking 43 = .ok (.putfield 15, 3) := by decide +kernel
theorem dX2_beginsAsking_46 : decode cX2_beginsAsking 46 = .ok (.iconst 1, 1) := by decide +kernel
theorem dX2_beginsAsking_47 : decode cX2_beginsAsking 47 = .ok (.ireturn, 1) := by decide +kernel
theorem dX2_hasFailure_0 : decode cX2_hasFailure 0 = .ok (.aload_n 0, 1) := by decide +kernel
theorem dX2_hasFailure_1 : decode cX2_hasFailure 1 = .ok (.getfield 27, 3) := by decide +kernel
theorem dX2_hasFailure_4 : decode cX2_hasFailure 4 = .ok (.ifCond .eq 7, 3) := by decide +kernel
theorem dX2_hasFailure_7 : decode cX2_hasFailure 7 = .ok (.iconst 1, 1) := by decide +kernel
theorem dX2_hasFailure_8 : decode cX2_hasFailure 8 = .ok (.goto 4, 3) := by decide +kernel
theorem dX2_hasFailure_11 : decode cX2_hasFailure 11 = .ok (.iconst 0, 1) := by decide +kernel
theorem dX2_hasFailure_12 : decode cX2_hasFailure 12 = .ok (.ireturn, 1) := by decide +kernel
theorem dX2_fail_0 : decode cX2_fail 0 = .ok (.aload_n 0, 1) := by decide +kernel
theorem dX2_fail_1 : decode cX2_fail 1 = .ok (.invokevirtual 30, 3) := by decide +kernel
theorem dX2_fail_4 : decode cX2_fail 4 = .ok (.ifCond .ne 8, 3) := by decide +kernel
theorem dX2_fail_7 : decode cX2_fail 7 = .ok (.aload_n 0, 1) := by decide +kernel
theorem dX2_fail_8 : decode cX2_fail 8 = .ok (.iload_n 1, 1) := by decide +kernel
theorem dX2_fail_9 : decode cX2_fail 9 = .ok (.putfield 27, 3) := by decide +kernel
theorem dX2_fail_12 : decode cX2_fail 12 = .ok (.return_, 1) := by decide +kernel
theorem dX2_meetsFailure_0 : decode cX2_meetsFailure 0 = .ok (.aload_n 0, 1) := by decide +kernel
theorem dX2_meetsFailure_1 : decode cX2_meetsFailure 1 = .ok (.invokevirtual 30, 3) := by decide +kernel
theorem dX2_meetsFailure_4 : decode cX2_meetsFailure 4 = .ok (.ifCond .eq 11, 3) := by decide +kernel
theorem dX2_meetsFailure_7 : decode cX2_meetsFailure 7 = .ok (.aload_n 0, 1) := by decide +kernel
theorem dX2_meetsFailure_8 : decode cX2_meetsFailure 8 = .ok (.getfield 27, 3) := by decide +kernel
theorem dX2_meetsFailure_11 : decode cX2_meetsFailure 11 = .ok (.iconst 4, 1) := by decide +kernel
theorem dX2_meetsFailure_12 : decode cX2_meetsFailure 12 = .ok (.if_icmp .ne 5, 3) := by decide +kernel
theorem dX2_meetsFailure_15 : decode cX2_meetsFailure 15 = .ok (.iconst 0, 1) := by decide +kernel
theorem dX2_meetsFailure_16 : decode cX2_meetsFailure 16 = .ok (.ireturn, 1) := by decide +kernel
theorem dX2_meetsFailure_17 : decode cX2_meetsFailure 17 = .ok (.aload_n 0, 1) := by decide +kernel
theorem dX2_meetsFailure_18 : decode cX2_meetsFailure 18 = .ok (.iconst 0, 1) := by decide +kernel
theorem dX2_meetsFailure_19 : decode cX2_meetsFailure 19 = .ok (.putfield 27, 3) := by decide +kernel
theorem dX2_meetsFailure_22 : decode cX2_meetsFailure 22 = .ok (.aload_n 0, 1) := by decide +kernel
theorem dX2_meetsFailure_23 : decode cX2_meetsFailure 23 = .ok (.dup, 1) := by decide +kernel
theorem dX2_meetsFailure_24 : decode cX2_meetsFailure 24 = .ok (.getfield 18, 3) := by decide +kernel
theorem dX2_meetsFailure_27 : decode cX2_meetsFailure 27 = .ok (.iconst 1, 1) := by decide +kernel
theorem dX2_meetsFailure_28 : decode cX2_meetsFailure 28 = .ok (.iadd, 1) := by decide +kernel
theorem dX2_meetsFailure_29 : decode cX2_meetsFailure 29 = .ok (.putfield 18, 3) := by decide +kernel
theorem dX2_meetsFailure_32 : decode cX2_meetsFailure 32 = .ok (.iconst 1, 1) := by decide +kernel
theorem dX2_meetsFailure_33 : decode cX2_meetsFailure 33 = .ok (.ireturn, 1) := by decide +kernel
theorem dX2_endFailedCall_0 : decode cX2_endFailedCall 0 = .ok (.aload_n 0, 1) := by decide +kernel
theorem dX2_endFailedCall_1 : decode cX2_endFailedCall 1 = .ok (.dup, 1) := by decide +kernel
theorem dX2_endFailedCall_2 : decode cX2_endFailedCall 2 = .ok (.getfield 18, 3) := by decide +kernel
theorem dX2_endFailedCall_5 : decode cX2_endFailedCall 5 = .ok (.iconst 1, 1) := by decide +kernel
theorem dX2_endFailedCall_6 : decode cX2_endFailedCall 6 = .ok (.iadd, 1) := by decide +kernel
theorem dX2_endFailedCall_7 : decode cX2_endFailedCall 7 = .ok (.putfield 18, 3) := by decide +kernel
theorem dX2_endFailedCall_10 : decode cX2_endFailedCall 10 = .ok (.aload_n 0, 1) := by decide +kernel
theorem dX2_endFailedCall_11 : decode cX2_endFailedCall 11 = .ok (.dup, 1) := by decide +kernel
theorem dX2_endFailedCall_12 : decode cX2_endFailedCall 12 = .ok (.getfield 21, 3) := by decide +kernel
theorem dX2_endFailedCall_15 : decode cX2_endFailedCall 15 = .ok (.iconst 1, 1) := by decide +kernel
theorem dX2_endFailedCall_16 : decode cX2_endFailedCall 16 = .ok (.iadd, 1) := by decide +kernel
theorem dX2_endFailedCall_17 : decode cX2_endFailedCall 17 = .ok (.putfield 21, 3) := by decide +kernel
theorem dX2_endFailedCall_20 : decode cX2_endFailedCall 20 = .ok (.aload_n 0, 1) := by decide +kernel
theorem dX2_endFailedCall_21 : decode cX2_endFailedCall 21 = .ok (.aload_n 0, 1) := by decide +kernel
theorem dX2_endFailedCall_22 : decode cX2_endFailedCall 22 = .ok (.getfield 27, 3) := by decide +kernel
theorem dX2_endFailedCall_25 : decode cX2_endFailedCall 25 = .ok (.putfield 24, 3) := by decide +kernel
theorem dX2_endFailedCall_28 : decode cX2_endFailedCall 28 = .ok (.bipush (-10), 2) := by decide +kernel
theorem dX2_endFailedCall_30 : decode cX2_endFailedCall 30 = .ok (.aload_n 0, 1) := by decide +kernel
theorem dX2_endFailedCall_31 : decode cX2_endFailedCall 31 = .ok (.getfield 27, 3) := by decide +kernel
theorem dX2_endFailedCall_34 : decode cX2_endFailedCall 34 = .ok (.isub, 1) := by decide +kernel
theorem dX2_endFailedCall_35 : decode cX2_endFailedCall 35 = .ok (.ireturn, 1) := by decide +kernel
