theorem dT_init_0 : decode cT_init 0 = .ok (.aload_n 0, 1) := by decide +kernel
theorem dT_init_1 : decode cT_init 1 = .ok (.invokespecial 1, 3) := by decide +kernel
theorem dT_init_4 : decode cT_init 4 = .ok (.aload_n 0, 1) := by decide +kernel
theorem dT_init_5 : decode cT_init 5 = .ok (.sipush 816, 3) := by decide +kernel
theorem dT_init_8 : decode cT_init 8 = .ok (.newarray .long, 2) := by decide +kernel
theorem dT_init_10 : decode cT_init 10 = .ok (.putfield 7, 3) := by decide +kernel
theorem dT_init_13 : decode cT_init 13 = .ok (.aload_n 0, 1) := by decide +kernel
theorem dT_init_14 : decode cT_init 14 = .ok (.bipush 16, 2) := by decide +kernel
theorem dT_init_16 : decode cT_init 16 = .ok (.newarray .long, 2) := by decide +kernel
theorem dT_init_18 : decode cT_init 18 = .ok (.putfield 13, 3) := by decide +kernel
theorem dT_init_21 : decode cT_init 21 = .ok (.aload_n 0, 1) := by decide +kernel
theorem dT_init_22 : decode cT_init 22 = .ok (.bipush 16, 2) := by decide +kernel
theorem dT_init_24 : decode cT_init 24 = .ok (.newarray .long, 2) := by decide +kernel
theorem dT_init_26 : decode cT_init 26 = .ok (.putfield 16, 3) := by decide +kernel
theorem dT_init_29 : decode cT_init 29 = .ok (.aload_n 0, 1) := by decide +kernel
theorem dT_init_30 : decode cT_init 30 = .ok (.bipush 16, 2) := by decide +kernel
theorem dT_init_32 : decode cT_init 32 = .ok (.newarray .long, 2) := by decide +kernel
theorem dT_init_34 : decode cT_init 34 = .ok (.putfield 19, 3) := by decide +kernel
theorem dT_init_37 : decode cT_init 37 = .ok (.aload_n 0, 1) := by decide +kernel
theorem dT_init_38 : decode cT_init 38 = .ok (.iconst 3, 1) := by decide +kernel
theorem dT_init_39 : decode cT_init 39 = .ok (.newarray .long, 2) := by decide +kernel
theorem dT_init_41 : decode cT_init 41 = .ok (.putfield 22, 3) := by decide +kernel
theorem dT_init_44 : decode cT_init 44 = .ok (.aload_n 0, 1) := by decide +kernel
theorem dT_init_45 : decode cT_init 45 = .ok (.bipush 32, 2) := by decide +kernel
theorem dT_init_47 : decode cT_init 47 = .ok (.newarray .long, 2) := by decide +kernel
theorem dT_init_49 : decode cT_init 49 = .ok (.putfield 25, 3) := by decide +kernel
theorem dT_init_52 : decode cT_init 52 = .ok (.aload_n 0, 1) := by decide +kernel
theorem dT_init_53 : decode cT_init 53 = .ok (.bipush 48, 2) := by decide +kernel
theorem dT_init_55 : decode cT_init 55 = .ok (.newarray .long, 2) := by decide +kernel
theorem dT_init_57 : decode cT_init 57 = .ok (.putfield 28, 3) := by decide +kernel
theorem dT_init_60 : decode cT_init 60 = .ok (.aload_n 0, 1) := by decide +kernel
theorem dT_init_61 : decode cT_init 61 = .ok (.bipush 32, 2) := by decide +kernel
theorem dT_init_63 : decode cT_init 63 = .ok (.newarray .long, 2) := by decide +kernel
theorem dT_init_65 : decode cT_init 65 = .ok (.putfield 31, 3) := by decide +kernel
theorem dT_init_68 : decode cT_init 68 = .ok (.aload_n 0, 1) := by decide +kernel
theorem dT_init_69 : decode cT_init 69 = .ok (.getfield 13, 3) := by decide +kernel
theorem dT_init_72 : decode cT_init 72 = .ok (.iconst 0, 1) := by decide +kernel
theorem dT_init_73 : decode cT_init 73 = .ok (.lconst 1, 1) := by decide +kernel
theorem dT_init_74 : decode cT_init 74 = .ok (.lastore, 1) := by decide +kernel
theorem dT_init_75 : decode cT_init 75 = .ok (.aload_n 0, 1) := by decide +kernel
theorem dT_init_76 : decode cT_init 76 = .ok (.getfield 16, 3) := by decide +kernel
theorem dT_init_79 : decode cT_init 79 = .ok (.iconst 0, 1) := by decide +kernel
theorem dT_init_80 : decode cT_init 80 = .ok (.lconst 1, 1) := by decide +kernel
theorem dT_init_81 : decode cT_init 81 = .ok (.lastore, 1) := by decide +kernel
theorem dT_init_82 : decode cT_init 82 = .ok (.return_, 1) := by decide +kernel
theorem dT_about_0 : decode cT_about 0 = .ok (.aload_n 0, 1) := by decide +kernel
theorem dT_about_1 : decode cT_about 1 = .ok (.iconst 0, 1) := by decide +kernel
theorem dT_about_2 : decode cT_about 2 = .ok (.putfield 34, 3) := by decide +kernel
theorem dT_about_5 : decode cT_about 5 = .ok (.iload_n 1, 1) := by decide +kernel
theorem dT_about_6 : decode cT_about 6 = .ok (.tableswitch 75 0 4 #[34, 39, 44, 49, 62], 34) := by decide +kernel
theorem dT_about_40 : decode cT_about 40 = .ok (.aload_n 0, 1) := by decide +kernel
theorem dT_about_41 : decode cT_about 41 = .ok (.getfield 46, 3) := by decide +kernel
theorem dT_about_44 : decode cT_about 44 = .ok (.ireturn, 1) := by decide +kernel
theorem dT_about_45 : decode cT_about 45 = .ok (.aload_n 0, 1) := by decide +kernel
theorem dT_about_46 : decode cT_about 46 = .ok (.invokevirtual 68, 3) := by decide +kernel
theorem dT_about_49 : decode cT_about 49 = .ok (.ireturn, 1) := by decide +kernel
theorem dT_about_50 : decode cT_about 50 = .ok (.aload_n 0, 1) := by decide +kernel
theorem dT_about_51 : decode cT_about 51 = .ok (.getfield 57, 3) := by decide +kernel
theorem dT_about_54 : decode cT_about 54 = .ok (.ireturn, 1) := by decide +kernel
theorem dT_about_55 : decode cT_about 55 = .ok (.aload_n 0, 1) := by decide +kernel
theorem dT_about_56 : decode cT_about 56 = .ok (.getfield 53, 3) := by decide +kernel
theorem dT_about_59 : decode cT_about 59 = .ok (.ifCond .eq 7, 3) := by decide +kernel
theorem dT_about_62 : decode cT_about 62 = .ok (.iconst 1, 1) := by decide +kernel
theorem dT_about_63 : decode cT_about 63 = .ok (.goto 4, 3) := by decide +kernel
theorem dT_about_66 : decode cT_about 66 = .ok (.iconst 0, 1) := by decide +kernel
theorem dT_about_67 : decode cT_about 67 = .ok (.ireturn, 1) := by decide +kernel
theorem dT_about_68 : decode cT_about 68 = .ok (.aload_n 0, 1) := by decide +kernel
theorem dT_about_69 : decode cT_about 69 = .ok (.getfield 119, 3) := by decide +kernel
theorem dT_about_72 : decode cT_about 72 = .ok (.ifCond .eq 7, 3) := by decide +kernel
theorem dT_about_75 : decode cT_about 75 = .ok (.iconst 1, 1) := by decide +kernel
theorem dT_about_76 : decode cT_about 76 = .ok (.goto 4, 3) := by decide +kernel
theorem dT_about_79 : decode cT_about 79 = .ok (.iconst 0, 1) := by decide +kernel
theorem dT_about_80 : decode cT_about 80 = .ok (.ireturn, 1) := by decide +kernel
theorem dT_about_81 : decode cT_about 81 = .ok (.iconst (-1), 1) := by decide +kernel
theorem dT_about_82 : decode cT_about 82 = .ok (.ireturn, 1) := by decide +kernel
theorem dT_alter_0 : decode cT_alter 0 = .ok (.aload_n 0, 1) := by decide +kernel
theorem dT_alter_1 : decode cT_alter 1 = .ok (.iload_n 1, 1) := by decide +kernel
theorem dT_alter_2 : decode cT_alter 2 = .ok (.ifCond .lt 15, 3) := by decide +kernel
theorem dT_alter_5 : decode cT_alter 5 = .ok (.iload_n 1, 1) := by decide +kernel
theorem dT_alter_6 : decode cT_alter 6 = .ok (.iconst 2, 1) := by decide +kernel
theorem dT_alter_7 : decode cT_alter 7 = .ok (.if_icmp .gt 10, 3) := by decide +kernel
theorem dT_alter_10 : decode cT_alter 10 = .ok (.iload_n 2, 1) := by decide +kernel
theorem dT_alter_11 : decode cT_alter 11 = .ok (.invokestatic 49, 3) := by decide +kernel
theorem dT_alter_14 : decode cT_alter 14 = .ok (.ifCond .ne 7, 3) := by decide +kernel
theorem dT_alter_17 : decode cT_alter 17 = .ok (.iconst 1, 1) := by decide +kernel
theorem dT_alter_18 : decode cT_alter 18 = .ok (.goto 15, 3) := by decide +kernel
theorem dT_alter_21 : decode cT_alter 21 = .ok (.aload_n 0, 1) := by decide +kernel
theorem dT_alter_22 : decode cT_alter 22 = .ok (.getfield 119, 3) := by decide +kernel
theorem dT_alter_25 : decode cT_alter 25 = .ok (.ifCond .ne 7, 3) := by decide +kernel
theorem dT_alter_28 : decode cT_alter 28 = .ok (.iconst 2, 1) := by decide +kernel
theorem dT_alter_29 : decode cT_alter 29 = .ok (.goto 4, 3) := by decide +kernel
theorem dT_alter_32 : decode cT_alter 32 = .ok (.iconst 0, 1) := by decide +kernel
theorem dT_alter_33 : decode cT_alter 33 = .ok (.putfield 34, 3) := by decide +kernel
theorem dT_alter_36 : decode cT_alter 36 = .ok (.aload_n 0, 1) := by decide +kernel
theorem dT_alter_37 : decode cT_alter 37 = .ok (.getfield 34, 3) := by decide +kernel
theorem dT_alter_40 : decode cT_alter 40 = .ok (.ifCond .le 5, 3) := by decide +kernel
theorem dT_alter_43 : decode cT_alter 43 = .ok (.iconst 0, 1) := by decide +kernel
theorem dT_alter_44 : decode cT_alter 44 = .ok (.ireturn, 1) := by decide +kernel
theorem dT_alter_45 : decode cT_alter 45 = .ok (.aload_n 0, 1) := by decide +kernel
theorem dT_alter_46 : decode cT_alter 46 = .ok (.getfield 22, 3) := by decide +kernel
theorem dT_alter_49 : decode cT_alter 49 = .ok (.iload_n 1, 1) := by decide +kernel
theorem dT_alter_50 : decode cT_alter 50 = .ok (.iload_n 2, 1) := by decide +kernel
theorem dT_alter_51 : decode cT_alter 51 = .ok (.i2l, 1) := by decide +kernel
theorem dT_alter_52 : decode cT_alter 52 = .ok (.lastore, 1) := by decide +kernel
theorem dT_alter_53 : decode cT_alter 53 = .ok (.iconst 1, 1) := by decide +kernel
theorem dT_alter_54 : decode cT_alter 54 = .ok (.ireturn, 1) := by decide +kernel
theorem dT_atTau_0 : decode cT_atTau 0 = .ok (.lconst 0, 1) := by decide +kernel
theorem dT_atTau_1 : decode cT_atTau 1 = .ok (.lstore_n 3, 1) := by decide +kernel
theorem dT_atTau_2 : decode cT_atTau 2 = .ok (.iconst 0, 1) := by decide +kernel
theorem dT_atTau_3 : decode cT_atTau 3 = .ok (.istore 5, 2) := by decide +kernel
theorem dT_atTau_5 : decode cT_atTau 5 = .ok (.iload 5, 2) := by decide +kernel
theorem dT_atTau_7 : decode cT_atTau 7 = .ok (.aload_n 0, 1) := by decide +kernel
theorem dT_atTau_8 : decode cT_atTau 8 = .ok (.invokevirtual 68, 3) := by decide +kernel
theorem dT_atTau_11 : decode cT_atTau 11 = .ok (.if_icmp .ge 35, 3) := by decide +kernel
theorem dT_atTau_14 : decode cT_atTau 14 = .ok (.lload_n 3, 1) := by decide +kernel
theorem dT_atTau_15 : decode cT_atTau 15 = .ok (.aload_n 0, 1) := by decide +kernel
theorem dT_atTau_16 : decode cT_atTau 16 = .ok (.iload_n 1, 1) := by decide +kernel
theorem dT_atTau_17 : decode cT_atTau 17 = .ok (.iload_n 2, 1) := by decide +kernel
theorem dT_atTau_18 : decode cT_atTau 18 = .ok (.iload 5, 2) := by decide +kernel
theorem dT_atTau_20 : decode cT_atTau 20 = .ok (.invokevirtual 79, 3) := by decide +kernel
theorem dT_atTau_23 : decode cT_atTau 23 = .ok (.aload_n 0, 1) := by decide +kernel
theorem dT_atTau_24 : decode cT_atTau 24 = .ok (.getfield 83, 3) := by decide +kernel
theorem dT_atTau_27 : decode cT_atTau 27 = .ok (.iload 5, 2) := by decide +kernel
theorem dT_atTau_29 : decode cT_atTau 29 = .ok (.i2l, 1) := by decide +kernel
theorem dT_atTau_30 : decode cT_atTau 30 = .ok (.invokestatic 42, 3) := by decide +kernel
theorem dT_atTau_33 : decode cT_atTau 33 = .ok (.lmul, 1) := by decide +kernel
theorem dT_atTau_34 : decode cT_atTau 34 = .ok (.ladd, 1) := by decide +kernel
theorem dT_atTau_35 : decode cT_atTau 35 = .ok (.ldc2_w 38, 3) := by decide +kernel
theorem dT_atTau_38 : decode cT_atTau 38 = .ok (.lrem, 1) := by decide +kernel
theorem dT_atTau_39 : decode cT_atTau 39 = .ok (.lstore_n 3, 1) := by decide +kernel
theorem dT_atTau_40 : decode cT_atTau 40 = .ok (.iinc 5 1, 3) := by decide +kernel
theorem dT_atTau_43 : decode cT_atTau 43 = .ok (.goto (-38), 3) := by decide +kernel
theorem dT_atTau_46 : decode cT_atTau 46 = .ok (.lload_n 3, 1) := by decide +kernel
theorem dT_atTau_47 : decode cT_atTau 47 = .ok (.lreturn, 1) := by decide +kernel
theorem dT_coefficient_0 : decode cT_coefficient 0 = .ok (.aload_n 0, 1) := by decide +kernel
theorem dT_coefficient_1 : decode cT_coefficient 1 = .ok (.invokevirtual 68, 3) := by decide +kernel
theorem dT_coefficient_4 : decode cT_coefficient 4 = .ok (.istore 4, 2) := by decide +kernel
theorem dT_coefficient_6 : decode cT_coefficient 6 = .ok (.ldc2_w 71, 3) := by decide +kernel
theorem dT_coefficient_9 : decode cT_coefficient 9 = .ok (.ldc2_w 73, 3) := by decide +kernel
theorem dT_coefficient_12 : decode cT_coefficient 12 = .ok (.iload 4, 2) := by decide +kernel
theorem dT_coefficient_14 : decode cT_coefficient 14 = .ok (.i2l, 1) := by decide +kernel
theorem dT_coefficient_15 : decode cT_coefficient 15 = .ok (.ldiv, 1) := by decide +kernel
theorem dT_coefficient_16 : decode cT_coefficient 16 = .ok (.invokestatic 42, 3) := by decide +kernel
theorem dT_coefficient_19 : decode cT_coefficient 19 = .ok (.lstore 5, 2) := by decide +kernel
theorem dT_coefficient_21 : decode cT_coefficient 21 = .ok (.lload 5, 2) := by decide +kernel
theorem dT_coefficient_23 : decode cT_coefficient 23 = .ok (.invokestatic 75, 3) := by decide +kernel
theorem dT_coefficient_26 : decode cT_coefficient 26 = .ok (.iload_n 3, 1) := by decide +kernel
theorem dT_coefficient_27 : decode cT_coefficient 27 = .ok (.i2l, 1) := by decide +kernel
theorem dT_coefficient_28 : decode cT_coefficient 28 = .ok (.invokestatic 42, 3) := by decide +kernel
theorem dT_coefficient_31 : decode cT_coefficient 31 = .ok (.lstore 7, 2) := by decide +kernel
theorem dT_coefficient_33 : decode cT_coefficient 33 = .ok (.lconst 1, 1) := by decide +kernel
theorem dT_coefficient_34 : decode cT_coefficient 34 = .ok (.lstore 9, 2) := by decide +kernel
theorem dT_coefficient_36 : decode cT_coefficient 36 = .ok (.lconst 0, 1) := by decide +kernel
theorem dT_coefficient_37 : decode cT_coefficient 37 = .ok (.lstore 11, 2) := by decide +kernel
theorem dT_coefficient_39 : decode cT_coefficient 39 = .ok (.iconst 0, 1) := by decide +kernel
theorem dT_coefficient_40 : decode cT_coefficient 40 = .ok (.istore 13, 2) := by decide +kernel
theorem dT_coefficient_42 : decode cT_coefficient 42 = .ok (.iload 13, 2) := by decide +kernel
theorem dT_coefficient_44 : decode cT_coefficient 44 = .ok (.aload_n 0, 1) := by decide +kernel
theorem dT_coefficient_45 : decode cT_coefficient 45 = .ok (.getfield 46, 3) := by decide +kernel
theorem dT_coefficient_48 : decode cT_coefficient 48 = .ok (.if_icmp .ge 49, 3) := by decide +kernel
theorem dT_coefficient_51 : decode cT_coefficient 51 = .ok (.lload 11, 2) := by decide +kernel
theorem dT_coefficient_53 : decode cT_coefficient 53 = .ok (.aload_n 0, 1) := by decide +kernel
theorem dT_coefficient_54 : decode cT_coefficient 54 = .ok (.getfield 7, 3) := by decide +kernel
theorem dT_coefficient_57 : decode cT_coefficient 57 = .ok (.bipush 48, 2) := by decide +kernel
theorem dT_coefficient_59 : decode cT_coefficient 59 = .ok (.iload 13, 2) := by decide +kernel
theorem dT_coefficient_61 : decode cT_coefficient 61 = .ok (.imul, 1) := by decide +kernel
theorem dT_coefficient_62 : decode cT_coefficient 62 = .ok (.bipush 16, 2) := by decide +kernel
theorem dT_coefficient_64 : decode cT_coefficient 64 = .ok (.iload_n 1, 1) := by decide +kernel
theorem dT_coefficient_65 : decode cT_coefficient 65 = .ok (.imul, 1) := by decide +kernel
theorem dT_coefficient_66 : decode cT_coefficient 66 = .ok (.iadd, 1) := by decide +kernel
theorem dT_coefficient_67 : decode cT_coefficient 67 = .ok (.iload_n 2, 1) := by decide +kernel
theorem dT_coefficient_68 : decode cT_coefficient 68 = .ok (.iadd, 1) := by decide +kernel
theorem dT_coefficient_69 : decode cT_coefficient 69 = .ok (.laload, 1) := by decide +kernel
theorem dT_coefficient_70 : decode cT_coefficient 70 = .ok (.lload 9, 2) := by decide +kernel
theorem dT_coefficient_72 : decode cT_coefficient 72 = .ok (.lmul, 1) := by decide +kernel
theorem dT_coefficient_73 : decode cT_coefficient 73 = .ok (.ladd, 1) := by decide +kernel
theorem dT_coefficient_74 : decode cT_coefficient 74 = .ok (.ldc2_w 38, 3) := by decide +kernel
theorem dT_coefficient_77 : decode cT_coefficient 77 = .ok (.lrem, 1) := by decide +kernel
theorem dT_coefficient_78 : decode cT_coefficient 78 = .ok (.lstore 11, 2) := by decide +kernel
theorem dT_coefficient_80 : decode cT_coefficient 80 = .ok (.lload 9, 2) := by decide +kernel
theorem dT_coefficient_82 : decode cT_coefficient 82 = .ok (.lload 7, 2) := by decide +kernel
theorem dT_coefficient_84 : decode cT_coefficient 84 = .ok (.lmul, 1) := by decide +kernel
theorem dT_coefficient_85 : decode cT_coefficient 85 = .ok (.ldc2_w 38, 3) := by decide +kernel
theorem dT_coefficient_88 : decode cT_coefficient 88 = .ok (.lrem, 1) := by decide +kernel
theorem dT_coefficient_89 : decode cT_coefficient 89 = .ok (.lstore 9, 2) := by decide +kernel
theorem dT_coefficient_91 : decode cT_coefficient 91 = .ok (.iinc 13 1, 3) := by decide +kernel
theorem dT_coefficient_94 : decode cT_coefficient 94 = .ok (.goto (-52), 3) := by decide +kernel
theorem dT_coefficient_97 : decode cT_coefficient 97 = .ok (.lload 11, 2) := by decide +kernel
theorem dT_coefficient_99 : decode cT_coefficient 99 = .ok (.iload 4, 2) := by decide +kernel
theorem dT_coefficient_101 : decode cT_coefficient 101 = .ok (.i2l, 1) := by decide +kernel
theorem dT_coefficient_102 : decode cT_coefficient 102 = .ok (.invokestatic 75, 3) := by decide +kernel
theorem dT_coefficient_105 : decode cT_coefficient 105 = .ok (.lmul, 1) := by decide +kernel
theorem dT_coefficient_106 : decode cT_coefficient 106 = .ok (.ldc2_w 38, 3) := by decide +kernel
theorem dT_coefficient_109 : decode cT_coefficient 109 = .ok (.lrem, 1) := by decide +kernel
theorem dT_coefficient_110 : decode cT_coefficient 110 = .ok (.lreturn, 1) := by decide +kernel
theorem dT_constraint_0 : decode cT_constraint 0 = .ok (.aload_n 0, 1) := by decide +kernel
theorem dT_constraint_1 : decode cT_constraint 1 = .ok (.aload_n 0, 1) := by decide +kernel
theorem dT_constraint_2 : decode cT_constraint 2 = .ok (.getfield 46, 3) := by decide +kernel
theorem dT_constraint_5 : decode cT_constraint 5 = .ok (.bipush 16, 2) := by decide +kernel
theorem dT_constraint_7 : decode cT_constraint 7 = .ok (.if_icmp .ne 7, 3) := by decide +kernel
theorem dT_constraint_10 : decode cT_constraint 10 = .ok (.iconst 1, 1) := by decide +kernel
theorem dT_constraint_11 : decode cT_constraint 11 = .ok (.goto 4, 3) := by decide +kernel
theorem dT_constraint_14 : decode cT_constraint 14 = .ok (.iconst 0, 1) := by decide +kernel
theorem dT_constraint_15 : decode cT_constraint 15 = .ok (.putfield 34, 3) := by decide +kernel
theorem dT_constraint_18 : decode cT_constraint 18 = .ok (.aload_n 0, 1) := by decide +kernel
theorem dT_constraint_19 : decode cT_constraint 19 = .ok (.getfield 34, 3) := by decide +kernel
theorem dT_constraint_22 : decode cT_constraint 22 = .ok (.ifCond .le 5, 3) := by decide +kernel
theorem dT_constraint_25 : decode cT_constraint 25 = .ok (.iconst 0, 1) := by decide +kernel
theorem dT_constraint_26 : decode cT_constraint 26 = .ok (.ireturn, 1) := by decide +kernel
theorem dT_constraint_27 : decode cT_constraint 27 = .ok (.aload_n 0, 1) := by decide +kernel
theorem dT_constraint_28 : decode cT_constraint 28 = .ok (.dup, 1) := by decide +kernel
theorem dT_constraint_29 : decode cT_constraint 29 = .ok (.getfield 46, 3) := by decide +kernel
theorem dT_constraint_32 : decode cT_constraint 32 = .ok (.iconst 1, 1) := by decide +kernel
theorem dT_constraint_33 : decode cT_constraint 33 = .ok (.iadd, 1) := by decide +kernel
theorem dT_constraint_34 : decode cT_constraint 34 = .ok (.putfield 46, 3) := by decide +kernel
theorem dT_constraint_37 : decode cT_constraint 37 = .ok (.bipush 48, 2) := by decide +kernel
theorem dT_constraint_39 : decode cT_constraint 39 = .ok (.aload_n 0, 1) := by decide +kernel
theorem dT_constraint_40 : decode cT_constraint 40 = .ok (.getfield 46, 3) := by decide +kernel
theorem dT_constraint_43 : decode cT_constraint 43 = .ok (.imul, 1) := by decide +kernel
theorem dT_constraint_44 : decode cT_constraint 44 = .ok (.istore_n 1, 1) := by decide +kernel
theorem dT_constraint_45 : decode cT_constraint 45 = .ok (.iload_n 1, 1) := by decide +kernel
theorem dT_constraint_46 : decode cT_constraint 46 = .ok (.bipush 48, 2) := by decide +kernel
theorem dT_constraint_48 : decode cT_constraint 48 = .ok (.aload_n 0, 1) := by decide +kernel
theorem dT_constraint_49 : decode cT_constraint 49 = .ok (.getfield 46, 3) := by decide +kernel
theorem dT_constraint_52 : decode cT_constraint 52 = .ok (.imul, 1) := by decide +kernel
theorem dT_constraint_53 : decode cT_constraint 53 = .ok (.bipush 48, 2) := by decide +kernel
theorem dT_constraint_55 : decode cT_constraint 55 = .ok (.iadd, 1) := by decide +kernel
theorem dT_constraint_56 : decode cT_constraint 56 = .ok (.if_icmp .ge 16, 3) := by decide +kernel
theorem dT_constraint_59 : decode cT_constraint 59 = .ok (.aload_n 0, 1) := by decide +kernel
theorem dT_constraint_60 : decode cT_constraint 60 = .ok (.getfield 7, 3) := by decide +kernel
theorem dT_constraint_63 : decode cT_constraint 63 = .ok (.iload_n 1, 1) := by decide +kernel
theorem dT_constraint_64 : decode cT_constraint 64 = .ok (.lconst 0, 1) := by decide +kernel
theorem dT_constraint_65 : decode cT_constraint 65 = .ok (.lastore, 1) := by decide +kernel
theorem dT_constraint_66 : decode cT_constraint 66 = .ok (.iinc 1 1, 3) := by decide +kernel
theorem dT_constraint_69 : decode cT_constraint 69 = .ok (.goto (-24), 3) := by decide +kernel
theorem dT_constraint_72 : decode cT_constraint 72 = .ok (.aload_n 0, 1) := by decide +kernel
theorem dT_constraint_73 : decode cT_constraint 73 = .ok (.iconst 0, 1) := by decide +kernel
theorem dT_constraint_74 : decode cT_constraint 74 = .ok (.putfield 53, 3) := by decide +kernel
theorem dT_constraint_77 : decode cT_constraint 77 = .ok (.aload_n 0, 1) := by decide +kernel
theorem dT_constraint_78 : decode cT_constraint 78 = .ok (.getfield 46, 3) := by decide +kernel
theorem dT_constraint_81 : decode cT_constraint 81 = .ok (.iconst 1, 1) := by decide +kernel
theorem dT_constraint_82 : decode cT_constraint 82 = .ok (.isub, 1) := by decide +kernel
theorem dT_constraint_83 : decode cT_constraint 83 = .ok (.ireturn, 1) := by decide +kernel
theorem dT_divide_0 : decode cT_divide 0 = .ok (.aload_n 0, 1) := by decide +kernel
theorem dT_divide_1 : decode cT_divide 1 = .ok (.invokevirtual 68, 3) := by decide +kernel
theorem dT_divide_4 : decode cT_divide 4 = .ok (.istore_n 1, 1) := by decide +kernel
theorem dT_divide_5 : decode cT_divide 5 = .ok (.iconst 0, 1) := by decide +kernel
theorem dT_divide_6 : decode cT_divide 6 = .ok (.istore_n 2, 1) := by decide +kernel
theorem dT_divide_7 : decode cT_divide 7 = .ok (.iload_n 2, 1) := by decide +kernel
theorem dT_divide_8 : decode cT_divide 8 = .ok (.bipush 32, 2) := by decide +kernel
theorem dT_divide_10 : decode cT_divide 10 = .ok (.if_icmp .ge 23, 3) := by decide +kernel
theorem dT_divide_13 : decode cT_divide 13 = .ok (.aload_n 0, 1) := by decide +kernel
theorem dT_divide_14 : decode cT_divide 14 = .ok (.getfield 31, 3) := by decide +kernel
theorem dT_divide_17 : decode cT_divide 17 = .ok (.iload_n 2, 1) := by decide +kernel
theorem dT_divide_18 : decode cT_divide 18 = .ok (.lconst 0, 1) := by decide +kernel
theorem dT_divide_19 : decode cT_divide 19 = .ok (.lastore, 1) := by decide +kernel
theorem dT_divide_20 : decode cT_divide 20 = .ok (.aload_n 0, 1) := by decide +kernel
theorem dT_divide_21 : decode cT_divide 21 = .ok (.getfield 25, 3) := by decide +kernel
theorem dT_divide_24 : decode cT_divide 24 = .ok (.iload_n 2, 1) := by decide +kernel
theorem dT_divide_25 : decode cT_divide 25 = .ok (.lconst 0, 1) := by decide +kernel
theorem dT_divide_26 : decode cT_divide 26 = .ok (.lastore, 1) := by decide +kernel
theorem dT_divide_27 : decode cT_divide 27 = .ok (.iinc 2 1, 3) := by decide +kernel
theorem dT_divide_30 : decode cT_divide 30 = .ok (.goto (-23), 3) := by decide +kernel
theorem dT_divide_33 : decode cT_divide 33 = .ok (.iconst 0, 1) := by decide +kernel
theorem dT_divide_34 : decode cT_divide 34 = .ok (.istore_n 2, 1) := by decide +kernel
theorem dT_divide_35 : decode cT_divide 35 = .ok (.iload_n 2, 1) := by decide +kernel
theorem dT_divide_36 : decode cT_divide 36 = .ok (.iload_n 1, 1) := by decide +kernel
theorem dT_divide_37 : decode cT_divide 37 = .ok (.if_icmp .ge 59, 3) := by decide +kernel
theorem dT_divide_40 : decode cT_divide 40 = .ok (.iconst 0, 1) := by decide +kernel
theorem dT_divide_41 : decode cT_divide 41 = .ok (.istore_n 3, 1) := by decide +kernel
theorem dT_divide_42 : decode cT_divide 42 = .ok (.iload_n 3, 1) := by decide +kernel
theorem dT_divide_43 : decode cT_divide 43 = .ok (.iload_n 1, 1) := by decide +kernel
theorem dT_divide_44 : decode cT_divide 44 = .ok (.if_icmp .ge 46, 3) := by decide +kernel
theorem dT_divide_47 : decode cT_divide 47 = .ok (.aload_n 0, 1) := by decide +kernel
theorem dT_divide_48 : decode cT_divide 48 = .ok (.getfield 31, 3) := by decide +kernel
theorem dT_divide_51 : decode cT_divide 51 = .ok (.iload_n 2, 1) := by decide +kernel
theorem dT_divide_52 : decode cT_divide 52 = .ok (.iload_n 3, 1) := by decide +kernel
theorem dT_divide_53 : decode cT_divide 53 = .ok (.iadd, 1) := by decide +kernel
theorem dT_divide_54 : decode cT_divide 54 = .ok (.aload_n 0, 1) := by decide +kernel
theorem dT_divide_55 : decode cT_divide 55 = .ok (.getfield 31, 3) := by decide +kernel
theorem dT_divide_58 : decode cT_divide 58 = .ok (.iload_n 2, 1) := by decide +kernel
theorem dT_divide_59 : decode cT_divide 59 = .ok (.iload_n 3, 1) := by decide +kernel
theorem dT_divide_60 : decode cT_divide 60 = .ok (.iadd, 1) := by decide +kernel
theorem dT_divide_61 : decode cT_divide 61 = .ok (.laload, 1) := by decide +kernel
theorem dT_divide_62 : decode cT_divide 62 = .ok (.aload_n 0, 1) := by decide +kernel
theorem dT_divide_63 : decode cT_divide 63 = .ok (.getfield 28, 3) := by decide +kernel
theorem dT_divide_66 : decode cT_divide 66 = .ok (.iload_n 2, 1) := by decide +kernel
theorem dT_divide_67 : decode cT_divide 67 = .ok (.laload, 1) := by decide +kernel
theorem dT_divide_68 : decode cT_divide 68 = .ok (.aload_n 0, 1) := by decide +kernel
theorem dT_divide_69 : decode cT_divide 69 = .ok (.getfield 28, 3) := by decide +kernel
theorem dT_divide_72 : decode cT_divide 72 = .ok (.bipush 16, 2) := by decide +kernel
theorem dT_divide_74 : decode cT_divide 74 = .ok (.iload_n 3, 1) := by decide +kernel
theorem dT_divide_75 : decode cT_divide 75 = .ok (.iadd, 1) := by decide +kernel
theorem dT_divide_76 : decode cT_divide 76 = .ok (.laload, 1) := by decide +kernel
theorem dT_divide_77 : decode cT_divide 77 = .ok (.lmul, 1) := by decide +kernel
theorem dT_divide_78 : decode cT_divide 78 = .ok (.ladd, 1) := by decide +kernel
theorem dT_divide_79 : decode cT_divide 79 = .ok (.ldc2_w 38, 3) := by decide +kernel
theorem dT_divide_82 : decode cT_divide 82 = .ok (.lrem, 1) := by decide +kernel
theorem dT_divide_83 : decode cT_divide 83 = .ok (.lastore, 1) := by decide +kernel
theorem dT_divide_84 : decode cT_divide 84 = .ok (.iinc 3 1, 3) := by decide +kernel
theorem dT_divide_87 : decode cT_divide 87 = .ok (.goto (-45), 3) := by decide +kernel
theorem dT_divide_90 : decode cT_divide 90 = .ok (.iinc 2 1, 3) := by decide +kernel
theorem dT_divide_93 : decode cT_divide 93 = .ok (.goto (-58), 3) := by decide +kernel
theorem dT_divide_96 : decode cT_divide 96 = .ok (.iconst 0, 1) := by decide +kernel
theorem dT_divide_97 : decode cT_divide 97 = .ok (.istore_n 2, 1) := by decide +kernel
theorem dT_divide_98 : decode cT_divide 98 = .ok (.iload_n 2, 1) := by decide +kernel
theorem dT_divide_99 : decode cT_divide 99 = .ok (.iload_n 1, 1) := by decide +kernel
theorem dT_divide_100 : decode cT_divide 100 = .ok (.if_icmp .ge 33, 3) := by decide +kernel
theorem dT_divide_103 : decode cT_divide 103 = .ok (.aload_n 0, 1) := by decide +kernel
theorem dT_divide_104 : decode cT_divide 104 = .ok (.getfield 31, 3) := by decide +kernel
theorem dT_divide_107 : decode cT_divide 107 = .ok (.iload_n 2, 1) := by decide +kernel
theorem dT_divide_108 : decode cT_divide 108 = .ok (.aload_n 0, 1) := by decide +kernel
theorem dT_divide_109 : decode cT_divide 109 = .ok (.getfield 31, 3) := by decide +kernel
theorem dT_divide_112 : decode cT_divide 112 = .ok (.iload_n 2, 1) := by decide +kernel
theorem dT_divide_113 : decode cT_divide 113 = .ok (.laload, 1) := by decide +kernel
theorem dT_divide_114 : decode cT_divide 114 = .ok (.aload_n 0, 1) := by decide +kernel
theorem dT_divide_115 : decode cT_divide 115 = .ok (.getfield 28, 3) := by decide +kernel
theorem dT_divide_118 : decode cT_divide 118 = .ok (.bipush 32, 2) := by decide +kernel
theorem dT_divide_120 : decode cT_divide 120 = .ok (.iload_n 2, 1) := by decide +kernel
theorem dT_divide_121 : decode cT_divide 121 = .ok (.iadd, 1) := by decide +kernel
theorem dT_divide_122 : decode cT_divide 122 = .ok (.laload, 1) := by decide +kernel
theorem dT_divide_123 : decode cT_divide 123 = .ok (.invokestatic 87, 3) := by decide +kernel
theorem dT_divide_126 : decode cT_divide 126 = .ok (.lastore, 1) := by decide +kernel
theorem dT_divide_127 : decode cT_divide 127 = .ok (.iinc 2 1, 3) := by decide +kernel
theorem dT_divide_130 : decode cT_divide 130 = .ok (.goto (-32), 3) := by decide +kernel
theorem dT_divide_133 : decode cT_divide 133 = .ok (.iconst 2, 1) := by decide +kernel
theorem dT_divide_134 : decode cT_divide 134 = .ok (.iload_n 1, 1) := by decide +kernel
theorem dT_divide_135 : decode cT_divide 135 = .ok (.imul, 1) := by decide +kernel
theorem dT_divide_136 : decode cT_divide 136 = .ok (.iconst 1, 1) := by decide +kernel
theorem dT_divide_137 : decode cT_divide 137 = .ok (.isub, 1) := by decide +kernel
theorem dT_divide_138 : decode cT_divide 138 = .ok (.istore_n 2, 1) := by decide +kernel
theorem dT_divide_139 : decode cT_divide 139 = .ok (.iload_n 2, 1) := by decide +kernel
theorem dT_divide_140 : decode cT_divide 140 = .ok (.iload_n 1, 1) := by decide +kernel
theorem dT_divide_141 : decode cT_divide 141 = .ok (.if_icmp .lt 54, 3) := by decide +kernel
theorem dT_divide_144 : decode cT_divide 144 = .ok (.aload_n 0, 1) := by decide +kernel
theorem dT_divide_145 : decode cT_divide 145 = .ok (.getfield 31, 3) := by decide +kernel
theorem dT_divide_148 : decode cT_divide 148 = .ok (.iload_n 2, 1) := by decide +kernel
theorem dT_divide_149 : decode cT_divide 149 = .ok (.laload, 1) := by decide +kernel
theorem dT_divide_150 : decode cT_divide 150 = .ok (.lstore_n 3, 1) := by decide +kernel
theorem dT_divide_151 : decode cT_divide 151 = .ok (.aload_n 0, 1) := by decide +kernel
theorem dT_divide_152 : decode cT_divide 152 = .ok (.getfield 25, 3) := by decide +kernel
theorem dT_divide_155 : decode cT_divide 155 = .ok (.iload_n 2, 1) := by decide +kernel
theorem dT_divide_156 : decode cT_divide 156 = .ok (.iload_n 1, 1) := by decide +kernel
theorem dT_divide_157 : decode cT_divide 157 = .ok (.isub, 1) := by decide +kernel
theorem dT_divide_158 : decode cT_divide 158 = .ok (.lload_n 3, 1) := by decide +kernel
theorem dT_divide_159 : decode cT_divide 159 = .ok (.lastore, 1) := by decide +kernel
theorem dT_divide_160 : decode cT_divide 160 = .ok (.aload_n 0, 1) := by decide +kernel
theorem dT_divide_161 : decode cT_divide 161 = .ok (.getfield 31, 3) := by decide +kernel
theorem dT_divide_164 : decode cT_divide 164 = .ok (.iload_n 2, 1) := by decide +kernel
theorem dT_divide_165 : decode cT_divide 165 = .ok (.lconst 0, 1) := by decide +kernel
theorem dT_divide_166 : decode cT_divide 166 = .ok (.lastore, 1) := by decide +kernel
theorem dT_divide_167 : decode cT_divide 167 = .ok (.aload_n 0, 1) := by decide +kernel
theorem dT_divide_168 : decode cT_divide 168 = .ok (.getfield 31, 3) := by decide +kernel
theorem dT_divide_171 : decode cT_divide 171 = .ok (.iload_n 2, 1) := by decide +kernel
theorem dT_divide_172 : decode cT_divide 172 = .ok (.iload_n 1, 1) := by decide +kernel
theorem dT_divide_173 : decode cT_divide 173 = .ok (.isub, 1) := by decide +kernel
theorem dT_divide_174 : decode cT_divide 174 = .ok (.aload_n 0, 1) := by decide +kernel
theorem dT_divide_175 : decode cT_divide 175 = .ok (.getfield 31, 3) := by decide +kernel
theorem dT_divide_178 : decode cT_divide 178 = .ok (.iload_n 2, 1) := by decide +kernel
theorem dT_divide_179 : decode cT_divide 179 = .ok (.iload_n 1, 1) := by decide +kernel
theorem dT_divide_180 : decode cT_divide 180 = .ok (.isub, 1) := by decide +kernel
theorem dT_divide_181 : decode cT_divide 181 = .ok (.laload, 1) := by decide +kernel
theorem dT_divide_182 : decode cT_divide 182 = .ok (.lload_n 3, 1) := by decide +kernel
theorem dT_divide_183 : decode cT_divide 183 = .ok (.ladd, 1) := by decide +kernel
theorem dT_divide_184 : decode cT_divide 184 = .ok (.ldc2_w 38, 3) := by decide +kernel
theorem dT_divide_187 : decode cT_divide 187 = .ok (.lrem, 1) := by decide +kernel
theorem dT_divide_188 : decode cT_divide 188 = .ok (.lastore, 1) := by decide +kernel
theorem dT_divide_189 : decode cT_divide 189 = .ok (.iinc 2 (-1), 3) := by decide +kernel
theorem dT_divide_192 : decode cT_divide 192 = .ok (.goto (-53), 3) := by decide +kernel
theorem dT_divide_195 : decode cT_divide 195 = .ok (.return_, 1) := by decide +kernel
theorem dT_firstOpen_0 : decode cT_firstOpen 0 = .ok (.iconst 0, 1) := by decide +kernel
theorem dT_firstOpen_1 : decode cT_firstOpen 1 = .ok (.istore_n 1, 1) := by decide +kernel
theorem dT_firstOpen_2 : decode cT_firstOpen 2 = .ok (.iload_n 1, 1) := by decide +kernel
theorem dT_firstOpen_3 : decode cT_firstOpen 3 = .ok (.aload_n 0, 1) := by decide +kernel
theorem dT_firstOpen_4 : decode cT_firstOpen 4 = .ok (.getfield 46, 3) := by decide +kernel
theorem dT_firstOpen_7 : decode cT_firstOpen 7 = .ok (.if_icmp .ge 40, 3) := by decide +kernel
theorem dT_firstOpen_10 : decode cT_firstOpen 10 = .ok (.aload_n 0, 1) := by decide +kernel
theorem dT_firstOpen_11 : decode cT_firstOpen 11 = .ok (.iload_n 1, 1) := by decide +kernel
theorem dT_firstOpen_12 : decode cT_firstOpen 12 = .ok (.iconst 0, 1) := by decide +kernel
theorem dT_firstOpen_13 : decode cT_firstOpen 13 = .ok (.invokevirtual 60, 3) := by decide +kernel
theorem dT_firstOpen_16 : decode cT_firstOpen 16 = .ok (.aload_n 0, 1) := by decide +kernel
theorem dT_firstOpen_17 : decode cT_firstOpen 17 = .ok (.iload_n 1, 1) := by decide +kernel
theorem dT_firstOpen_18 : decode cT_firstOpen 18 = .ok (.iconst 1, 1) := by decide +kernel
theorem dT_firstOpen_19 : decode cT_firstOpen 19 = .ok (.invokevirtual 60, 3) := by decide +kernel
theorem dT_firstOpen_22 : decode cT_firstOpen 22 = .ok (.lmul, 1) := by decide +kernel
theorem dT_firstOpen_23 : decode cT_firstOpen 23 = .ok (.ldc2_w 38, 3) := by decide +kernel
theorem dT_firstOpen_26 : decode cT_firstOpen 26 = .ok (.lrem, 1) := by decide +kernel
theorem dT_firstOpen_27 : decode cT_firstOpen 27 = .ok (.lstore_n 2, 1) := by decide +kernel
theorem dT_firstOpen_28 : decode cT_firstOpen 28 = .ok (.lload_n 2, 1) := by decide +kernel
theorem dT_firstOpen_29 : decode cT_firstOpen 29 = .ok (.aload_n 0, 1) := by decide +kernel
theorem dT_firstOpen_30 : decode cT_firstOpen 30 = .ok (.iload_n 1, 1) := by decide +kernel
theorem dT_firstOpen_31 : decode cT_firstOpen 31 = .ok (.iconst 2, 1) := by decide +kernel
theorem dT_firstOpen_32 : decode cT_firstOpen 32 = .ok (.invokevirtual 60, 3) := by decide +kernel
theorem dT_firstOpen_35 : decode cT_firstOpen 35 = .ok (.lcmp, 1) := by decide +kernel
theorem dT_firstOpen_36 : decode cT_firstOpen 36 = .ok (.ifCond .eq 5, 3) := by decide +kernel
theorem dT_firstOpen_39 : decode cT_firstOpen 39 = .ok (.iload_n 1, 1) := by decide +kernel
theorem dT_firstOpen_40 : decode cT_firstOpen 40 = .ok (.ireturn, 1) := by decide +kernel
theorem dT_firstOpen_41 : decode cT_firstOpen 41 = .ok (.iinc 1 1, 3) := by decide +kernel
theorem dT_firstOpen_44 : decode cT_firstOpen 44 = .ok (.goto (-42), 3) := by decide +kernel
theorem dT_firstOpen_47 : decode cT_firstOpen 47 = .ok (.iconst (-1), 1) := by decide +kernel
theorem dT_firstOpen_48 : decode cT_firstOpen 48 = .ok (.ireturn, 1) := by decide +kernel
theorem dT_input_0 : decode cT_input 0 = .ok (.aload_n 0, 1) := by decide +kernel
theorem dT_input_1 : decode cT_input 1 = .ok (.iload_n 1, 1) := by decide +kernel
theorem dT_input_2 : decode cT_input 2 = .ok (.iconst 1, 1) := by decide +kernel
theorem dT_input_3 : decode cT_input 3 = .ok (.if_icmp .lt 16, 3) := by decide +kernel
theorem dT_input_6 : decode cT_input 6 = .ok (.iload_n 1, 1) := by decide +kernel
theorem dT_input_7 : decode cT_input 7 = .ok (.bipush 6, 2) := by decide +kernel
theorem dT_input_9 : decode cT_input 9 = .ok (.if_icmp .gt 10, 3) := by decide +kernel
theorem dT_input_12 : decode cT_input 12 = .ok (.iload_n 2, 1) := by decide +kernel
theorem dT_input_13 : decode cT_input 13 = .ok (.invokestatic 49, 3) := by decide +kernel
theorem dT_input_16 : decode cT_input 16 = .ok (.ifCond .ne 7, 3) := by decide +kernel
theorem dT_input_19 : decode cT_input 19 = .ok (.iconst 1, 1) := by decide +kernel
theorem dT_input_20 : decode cT_input 20 = .ok (.goto 4, 3) := by decide +kernel
theorem dT_input_23 : decode cT_input 23 = .ok (.iconst 0, 1) := by decide +kernel
theorem dT_input_24 : decode cT_input 24 = .ok (.putfield 34, 3) := by decide +kernel
theorem dT_input_27 : decode cT_input 27 = .ok (.aload_n 0, 1) := by decide +kernel
theorem dT_input_28 : decode cT_input 28 = .ok (.getfield 34, 3) := by decide +kernel
theorem dT_input_31 : decode cT_input 31 = .ok (.ifCond .le 5, 3) := by decide +kernel
theorem dT_input_34 : decode cT_input 34 = .ok (.iconst 0, 1) := by decide +kernel
theorem dT_input_35 : decode cT_input 35 = .ok (.ireturn, 1) := by decide +kernel
theorem dT_input_36 : decode cT_input 36 = .ok (.aload_n 0, 1) := by decide +kernel
theorem dT_input_37 : decode cT_input 37 = .ok (.getfield 16, 3) := by decide +kernel
theorem dT_input_40 : decode cT_input 40 = .ok (.iload_n 1, 1) := by decide +kernel
theorem dT_input_41 : decode cT_input 41 = .ok (.iload_n 2, 1) := by decide +kernel
theorem dT_input_42 : decode cT_input 42 = .ok (.i2l, 1) := by decide +kernel
theorem dT_input_43 : decode cT_input 43 = .ok (.lastore, 1) := by decide +kernel
theorem dT_input_44 : decode cT_input 44 = .ok (.iconst 1, 1) := by decide +kernel
theorem dT_input_45 : decode cT_input 45 = .ok (.ireturn, 1) := by decide +kernel
theorem dT_inverse_0 : decode cT_inverse 0 = .ok (.lload_n 0, 1) := by decide +kernel
theorem dT_inverse_1 : decode cT_inverse 1 = .ok (.ldc2_w 40, 3) := by decide +kernel
theorem dT_inverse_4 : decode cT_inverse 4 = .ok (.invokestatic 42, 3) := by decide +kernel
theorem dT_inverse_7 : decode cT_inverse 7 = .ok (.lreturn, 1) := by decide +kernel
theorem dT_isNumber_0 : decode cT_isNumber 0 = .ok (.iload_n 0, 1) := by decide +kernel
theorem dT_isNumber_1 : decode cT_isNumber 1 = .ok (.ifCond .lt 16, 3) := by decide +kernel
theorem dT_isNumber_4 : decode cT_isNumber 4 = .ok (.iload_n 0, 1) := by decide +kernel
theorem dT_isNumber_5 : decode cT_isNumber 5 = .ok (.i2l, 1) := by decide +kernel
theorem dT_isNumber_6 : decode cT_isNumber 6 = .ok (.ldc2_w 38, 3) := by decide +kernel
theorem dT_isNumber_9 : decode cT_isNumber 9 = .ok (.lcmp, 1) := by decide +kernel
theorem dT_isNumber_10 : decode cT_isNumber 10 = .ok (.ifCond .ge 7, 3) := by decide +kernel
theorem dT_isNumber_13 : decode cT_isNumber 13 = .ok (.iconst 1, 1) := by decide +kernel
theorem dT_isNumber_14 : decode cT_isNumber 14 = .ok (.goto 4, 3) := by decide +kernel
theorem dT_isNumber_17 : decode cT_isNumber 17 = .ok (.iconst 0, 1) := by decide +kernel
theorem dT_isNumber_18 : decode cT_isNumber 18 = .ok (.ireturn, 1) := by decide +kernel
theorem dT_key_0 : decode cT_key 0 = .ok (.aload_n 0, 1) := by decide +kernel
theorem dT_key_1 : decode cT_key 1 = .ok (.iconst 0, 1) := by decide +kernel
theorem dT_key_2 : decode cT_key 2 = .ok (.putfield 34, 3) := by decide +kernel
theorem dT_key_5 : decode cT_key 5 = .ok (.aload_n 0, 1) := by decide +kernel
theorem dT_key_6 : decode cT_key 6 = .ok (.getfield 53, 3) := by decide +kernel
theorem dT_key_9 : decode cT_key 9 = .ok (.ifCond .eq 7, 3) := by decide +kernel
theorem dT_key_12 : decode cT_key 12 = .ok (.iload_n 2, 1) := by decide +kernel
theorem dT_key_13 : decode cT_key 13 = .ok (.ifCond .ge 5, 3) := by decide +kernel
theorem dT_key_16 : decode cT_key 16 = .ok (.iconst (-1), 1) := by decide +kernel
theorem dT_key_17 : decode cT_key 17 = .ok (.ireturn, 1) := by decide +kernel
theorem dT_key_18 : decode cT_key 18 = .ok (.iload_n 1, 1) := by decide +kernel
theorem dT_key_19 : decode cT_key 19 = .ok (.tableswitch 139 0 2 #[25, 48, 93], 25) := by decide +kernel
theorem dT_key_44 : decode cT_key 44 = .ok (.iload_n 2, 1) := by decide +kernel
theorem dT_key_45 : decode cT_key 45 = .ok (.aload_n 0, 1) := by decide +kernel
theorem dT_key_46 : decode cT_key 46 = .ok (.invokevirtual 68, 3) := by decide +kernel
theorem dT_key_49 : decode cT_key 49 = .ok (.if_icmp .lt 7, 3) := by decide +kernel
theorem dT_key_52 : decode cT_key 52 = .ok (.iconst (-1), 1) := by decide +kernel
theorem dT_key_53 : decode cT_key 53 = .ok (.goto 13, 3) := by decide +kernel
theorem dT_key_56 : decode cT_key 56 = .ok (.aload_n 0, 1) := by decide +kernel
theorem dT_key_57 : decode cT_key 57 = .ok (.getfield 83, 3) := by decide +kernel
theorem dT_key_60 : decode cT_key 60 = .ok (.iload_n 2, 1) := by decide +kernel
theorem dT_key_61 : decode cT_key 61 = .ok (.i2l, 1) := by decide +kernel
theorem dT_key_62 : decode cT_key 62 = .ok (.invokestatic 42, 3) := by decide +kernel
theorem dT_key_65 : decode cT_key 65 = .ok (.l2i, 1) := by decide +kernel
theorem dT_key_66 : decode cT_key 66 = .ok (.ireturn, 1) := by decide +kernel
theorem dT_key_67 : decode cT_key 67 = .ok (.iload_n 2, 1) := by decide +kernel
theorem dT_key_68 : decode cT_key 68 = .ok (.bipush 15, 2) := by decide +kernel
theorem dT_key_70 : decode cT_key 70 = .ok (.if_icmp .le 7, 3) := by decide +kernel
theorem dT_key_73 : decode cT_key 73 = .ok (.iconst (-1), 1) := by decide +kernel
theorem dT_key_74 : decode cT_key 74 = .ok (.goto 37, 3) := by decide +kernel
theorem dT_key_77 : decode cT_key 77 = .ok (.aload_n 0, 1) := by decide +kernel
theorem dT_key_78 : decode cT_key 78 = .ok (.getfield 19, 3) := by decide +kernel
theorem dT_key_81 : decode cT_key 81 = .ok (.iload_n 2, 1) := by decide +kernel
theorem dT_key_82 : decode cT_key 82 = .ok (.laload, 1) := by decide +kernel
theorem dT_key_83 : decode cT_key 83 = .ok (.iload_n 2, 1) := by decide +kernel
theorem dT_key_84 : decode cT_key 84 = .ok (.aload_n 0, 1) := by decide +kernel
theorem dT_key_85 : decode cT_key 85 = .ok (.getfield 57, 3) := by decide +kernel
theorem dT_key_88 : decode cT_key 88 = .ok (.if_icmp .gt 10, 3) := by decide +kernel
theorem dT_key_91 : decode cT_key 91 = .ok (.aload_n 0, 1) := by decide +kernel
theorem dT_key_92 : decode cT_key 92 = .ok (.getfield 96, 3) := by decide +kernel
theorem dT_key_95 : decode cT_key 95 = .ok (.goto 7, 3) := by decide +kernel
theorem dT_key_98 : decode cT_key 98 = .ok (.aload_n 0, 1) := by decide +kernel
theorem dT_key_99 : decode cT_key 99 = .ok (.getfield 99, 3) := by decide +kernel
theorem dT_key_102 : decode cT_key 102 = .ok (.invokestatic 75, 3) := by decide +kernel
theorem dT_key_105 : decode cT_key 105 = .ok (.lmul, 1) := by decide +kernel
theorem dT_key_106 : decode cT_key 106 = .ok (.ldc2_w 38, 3) := by decide +kernel
theorem dT_key_109 : decode cT_key 109 = .ok (.lrem, 1) := by decide +kernel
theorem dT_key_110 : decode cT_key 110 = .ok (.l2i, 1) := by decide +kernel
theorem dT_key_111 : decode cT_key 111 = .ok (.ireturn, 1) := by decide +kernel
theorem dT_key_112 : decode cT_key 112 = .ok (.iload_n 2, 1) := by decide +kernel
theorem dT_key_113 : decode cT_key 113 = .ok (.aload_n 0, 1) := by decide +kernel
theorem dT_key_114 : decode cT_key 114 = .ok (.invokevirtual 68, 3) := by decide +kernel
theorem dT_key_117 : decode cT_key 117 = .ok (.iconst 2, 1) := by decide +kernel
theorem dT_key_118 : decode cT_key 118 = .ok (.isub, 1) := by decide +kernel
theorem dT_key_119 : decode cT_key 119 = .ok (.if_icmp .le 7, 3) := by decide +kernel
theorem dT_key_122 : decode cT_key 122 = .ok (.iconst (-1), 1) := by decide +kernel
theorem dT_key_123 : decode cT_key 123 = .ok (.goto 34, 3) := by decide +kernel
theorem dT_key_126 : decode cT_key 126 = .ok (.aload_n 0, 1) := by decide +kernel
theorem dT_key_127 : decode cT_key 127 = .ok (.getfield 83, 3) := by decide +kernel
theorem dT_key_130 : decode cT_key 130 = .ok (.iload_n 2, 1) := by decide +kernel
theorem dT_key_131 : decode cT_key 131 = .ok (.i2l, 1) := by decide +kernel
theorem dT_key_132 : decode cT_key 132 = .ok (.invokestatic 42, 3) := by decide +kernel
theorem dT_key_135 : decode cT_key 135 = .ok (.aload_n 0, 1) := by decide +kernel
theorem dT_key_136 : decode cT_key 136 = .ok (.getfield 102, 3) := by decide +kernel
theorem dT_key_139 : decode cT_key 139 = .ok (.lmul, 1) := by decide +kernel
theorem dT_key_140 : decode cT_key 140 = .ok (.ldc2_w 38, 3) := by decide +kernel
theorem dT_key_143 : decode cT_key 143 = .ok (.lrem, 1) := by decide +kernel
theorem dT_key_144 : decode cT_key 144 = .ok (.aload_n 0, 1) := by decide +kernel
theorem dT_key_145 : decode cT_key 145 = .ok (.getfield 99, 3) := by decide +kernel
theorem dT_key_148 : decode cT_key 148 = .ok (.invokestatic 75, 3) := by decide +kernel
theorem dT_key_151 : decode cT_key 151 = .ok (.lmul, 1) := by decide +kernel
theorem dT_key_152 : decode cT_key 152 = .ok (.ldc2_w 38, 3) := by decide +kernel
theorem dT_key_155 : decode cT_key 155 = .ok (.lrem, 1) := by decide +kernel
theorem dT_key_156 : decode cT_key 156 = .ok (.l2i, 1) := by decide +kernel
theorem dT_key_157 : decode cT_key 157 = .ok (.ireturn, 1) := by decide +kernel
theorem dT_key_158 : decode cT_key 158 = .ok (.iconst (-1), 1) := by decide +kernel
theorem dT_key_159 : decode cT_key 159 = .ok (.ireturn, 1) := by decide +kernel
theorem dT_less_0 : decode cT_less 0 = .ok (.lload_n 0, 1) := by decide +kernel
theorem dT_less_1 : decode cT_less 1 = .ok (.lload_n 2, 1) := by decide +kernel
theorem dT_less_2 : decode cT_less 2 = .ok (.lsub, 1) := by decide +kernel
theorem dT_less_3 : decode cT_less 3 = .ok (.ldc2_w 38, 3) := by decide +kernel
theorem dT_less_6 : decode cT_less 6 = .ok (.ladd, 1) := by decide +kernel
theorem dT_less_7 : decode cT_less 7 = .ok (.ldc2_w 38, 3) := by decide +kernel
theorem dT_less_10 : decode cT_less 10 = .ok (.lrem, 1) := by decide +kernel
theorem dT_less_11 : decode cT_less 11 = .ok (.lreturn, 1) := by decide +kernel
theorem dT_open_0 : decode cT_open 0 = .ok (.aload_n 0, 1) := by decide +kernel
theorem dT_open_1 : decode cT_open 1 = .ok (.iconst 0, 1) := by decide +kernel
theorem dT_open_2 : decode cT_open 2 = .ok (.putfield 34, 3) := by decide +kernel
theorem dT_open_5 : decode cT_open 5 = .ok (.aload_n 0, 1) := by decide +kernel
theorem dT_open_6 : decode cT_open 6 = .ok (.invokevirtual 64, 3) := by decide +kernel
theorem dT_open_9 : decode cT_open 9 = .ok (.ireturn, 1) := by decide +kernel
theorem dT_polynomial_0 : decode cT_polynomial 0 = .ok (.aload_n 0, 1) := by decide +kernel
theorem dT_polynomial_1 : decode cT_polynomial 1 = .ok (.iconst 0, 1) := by decide +kernel
theorem dT_polynomial_2 : decode cT_polynomial 2 = .ok (.putfield 34, 3) := by decide +kernel
theorem dT_polynomial_5 : decode cT_polynomial 5 = .ok (.iload_n 1, 1) := by decide +kernel
theorem dT_polynomial_6 : decode cT_polynomial 6 = .ok (.ifCond .lt 30, 3) := by decide +kernel
theorem dT_polynomial_9 : decode cT_polynomial 9 = .ok (.iload_n 1, 1) := by decide +kernel
theorem dT_polynomial_10 : decode cT_polynomial 10 = .ok (.iconst 2, 1) := by decide +kernel
theorem dT_polynomial_11 : decode cT_polynomial 11 = .ok (.if_icmp .gt 25, 3) := by decide +kernel
theorem dT_polynomial_14 : decode cT_polynomial 14 = .ok (.iload_n 2, 1) := by decide +kernel
theorem dT_polynomial_15 : decode cT_polynomial 15 = .ok (.ifCond .lt 21, 3) := by decide +kernel
theorem dT_polynomial_18 : decode cT_polynomial 18 = .ok (.iload_n 2, 1) := by decide +kernel
theorem dT_polynomial_19 : decode cT_polynomial 19 = .ok (.bipush 15, 2) := by decide +kernel
theorem dT_polynomial_21 : decode cT_polynomial 21 = .ok (.if_icmp .gt 15, 3) := by decide +kernel
theorem dT_polynomial_24 : decode cT_polynomial 24 = .ok (.iload_n 3, 1) := by decide +kernel
theorem dT_polynomial_25 : decode cT_polynomial 25 = .ok (.ifCond .lt 11, 3) := by decide +kernel
theorem dT_polynomial_28 : decode cT_polynomial 28 = .ok (.iload_n 3, 1) := by decide +kernel
theorem dT_polynomial_29 : decode cT_polynomial 29 = .ok (.aload_n 0, 1) := by decide +kernel
theorem dT_polynomial_30 : decode cT_polynomial 30 = .ok (.invokevirtual 68, 3) := by decide +kernel
theorem dT_polynomial_33 : decode cT_polynomial 33 = .ok (.if_icmp .lt 7, 3) := by decide +kernel
theorem dT_polynomial_36 : decode cT_polynomial 36 = .ok (.iconst (-1), 1) := by decide +kernel
theorem dT_polynomial_37 : decode cT_polynomial 37 = .ok (.goto 11, 3) := by decide +kernel
theorem dT_polynomial_40 : decode cT_polynomial 40 = .ok (.aload_n 0, 1) := by decide +kernel
theorem dT_polynomial_41 : decode cT_polynomial 41 = .ok (.iload_n 1, 1) := by decide +kernel
theorem dT_polynomial_42 : decode cT_polynomial 42 = .ok (.iload_n 2, 1) := by decide +kernel
theorem dT_polynomial_43 : decode cT_polynomial 43 = .ok (.iload_n 3, 1) := by decide +kernel
theorem dT_polynomial_44 : decode cT_polynomial 44 = .ok (.invokevirtual 79, 3) := by decide +kernel
theorem dT_polynomial_47 : decode cT_polynomial 47 = .ok (.l2i, 1) := by decide +kernel
theorem dT_polynomial_48 : decode cT_polynomial 48 = .ok (.ireturn, 1) := by decide +kernel
theorem dT_power_0 : decode cT_power 0 = .ok (.lconst 1, 1) := by decide +kernel
theorem dT_power_1 : decode cT_power 1 = .ok (.lstore 4, 2) := by decide +kernel
theorem dT_power_3 : decode cT_power 3 = .ok (.lload_n 0, 1) := by decide +kernel
theorem dT_power_4 : decode cT_power 4 = .ok (.lstore 6, 2) := by decide +kernel
theorem dT_power_6 : decode cT_power 6 = .ok (.iconst 0, 1) := by decide +kernel
theorem dT_power_7 : decode cT_power 7 = .ok (.istore 8, 2) := by decide +kernel
theorem dT_power_9 : decode cT_power 9 = .ok (.iload 8, 2) := by decide +kernel
theorem dT_power_11 : decode cT_power 11 = .ok (.bipush 30, 2) := by decide +kernel
theorem dT_power_13 : decode cT_power 13 = .ok (.if_icmp .ge 47, 3) := by decide +kernel
theorem dT_power_16 : decode cT_power 16 = .ok (.lload_n 2, 1) := by decide +kernel
theorem dT_power_17 : decode cT_power 17 = .ok (.iload 8, 2) := by decide +kernel
theorem dT_power_19 : decode cT_power 19 = .ok (.lshr, 1) := by decide +kernel
theorem dT_power_20 : decode cT_power 20 = .ok (.lconst 1, 1) := by decide +kernel
theorem dT_power_21 : decode cT_power 21 = .ok (.land, 1) := by decide +kernel
theorem dT_power_22 : decode cT_power 22 = .ok (.lconst 1, 1) := by decide +kernel
theorem dT_power_23 : decode cT_power 23 = .ok (.lcmp, 1) := by decide +kernel
theorem dT_power_24 : decode cT_power 24 = .ok (.ifCond .ne 15, 3) := by decide +kernel
theorem dT_power_27 : decode cT_power 27 = .ok (.lload 4, 2) := by decide +kernel
theorem dT_power_29 : decode cT_power 29 = .ok (.lload 6, 2) := by decide +kernel
theorem dT_power_31 : decode cT_power 31 = .ok (.lmul, 1) := by decide +kernel
theorem dT_power_32 : decode cT_power 32 = .ok (.ldc2_w 38, 3) := by decide +kernel
theorem dT_power_35 : decode cT_power 35 = .ok (.lrem, 1) := by decide +kernel
theorem dT_power_36 : decode cT_power 36 = .ok (.goto 5, 3) := by decide +kernel
theorem dT_power_39 : decode cT_power 39 = .ok (.lload 4, 2) := by decide +kernel
theorem dT_power_41 : decode cT_power 41 = .ok (.lstore 4, 2) := by decide +kernel
theorem dT_power_43 : decode cT_power 43 = .ok (.lload 6, 2) := by decide +kernel
theorem dT_power_45 : decode cT_power 45 = .ok (.lload 6, 2) := by decide +kernel
theorem dT_power_47 : decode cT_power 47 = .ok (.lmul, 1) := by decide +kernel
theorem dT_power_48 : decode cT_power 48 = .ok (.ldc2_w 38, 3) := by decide +kernel
theorem dT_power_51 : decode cT_power 51 = .ok (.lrem, 1) := by decide +kernel
theorem dT_power_52 : decode cT_power 52 = .ok (.lstore 6, 2) := by decide +kernel
theorem dT_power_54 : decode cT_power 54 = .ok (.iinc 8 1, 3) := by decide +kernel
theorem dT_power_57 : decode cT_power 57 = .ok (.goto (-48), 3) := by decide +kernel
theorem dT_power_60 : decode cT_power 60 = .ok (.lload 4, 2) := by decide +kernel
theorem dT_power_62 : decode cT_power 62 = .ok (.lreturn, 1) := by decide +kernel
theorem dT_proof_0 : decode cT_proof 0 = .ok (.aload_n 0, 1) := by decide +kernel
theorem dT_proof_1 : decode cT_proof 1 = .ok (.iconst 0, 1) := by decide +kernel
theorem dT_proof_2 : decode cT_proof 2 = .ok (.putfield 34, 3) := by decide +kernel
theorem dT_proof_5 : decode cT_proof 5 = .ok (.aload_n 0, 1) := by decide +kernel
theorem dT_proof_6 : decode cT_proof 6 = .ok (.getfield 119, 3) := by decide +kernel
theorem dT_proof_9 : decode cT_proof 9 = .ok (.ifCond .eq 12, 3) := by decide +kernel
theorem dT_proof_12 : decode cT_proof 12 = .ok (.iload_n 1, 1) := by decide +kernel
theorem dT_proof_13 : decode cT_proof 13 = .ok (.ifCond .lt 8, 3) := by decide +kernel
theorem dT_proof_16 : decode cT_proof 16 = .ok (.iload_n 1, 1) := by decide +kernel
theorem dT_proof_17 : decode cT_proof 17 = .ok (.iconst 2, 1) := by decide +kernel
theorem dT_proof_18 : decode cT_proof 18 = .ok (.if_icmp .le 7, 3) := by decide +kernel
theorem dT_proof_21 : decode cT_proof 21 = .ok (.iconst (-1), 1) := by decide +kernel
theorem dT_proof_22 : decode cT_proof 22 = .ok (.goto 10, 3) := by decide +kernel
theorem dT_proof_25 : decode cT_proof 25 = .ok (.aload_n 0, 1) := by decide +kernel
theorem dT_proof_26 : decode cT_proof 26 = .ok (.getfield 22, 3) := by decide +kernel
theorem dT_proof_29 : decode cT_proof 29 = .ok (.iload_n 1, 1) := by decide +kernel
theorem dT_proof_30 : decode cT_proof 30 = .ok (.laload, 1) := by decide +kernel
theorem dT_proof_31 : decode cT_proof 31 = .ok (.l2i, 1) := by decide +kernel
theorem dT_proof_32 : decode cT_proof 32 = .ok (.ireturn, 1) := by decide +kernel
theorem dT_prove_0 : decode cT_prove 0 = .ok (.aload_n 0, 1) := by decide +kernel
theorem dT_prove_1 : decode cT_prove 1 = .ok (.iload_n 1, 1) := by decide +kernel
theorem dT_prove_2 : decode cT_prove 2 = .ok (.invokestatic 49, 3) := by decide +kernel
theorem dT_prove_5 : decode cT_prove 5 = .ok (.ifCond .eq 10, 3) := by decide +kernel
theorem dT_prove_8 : decode cT_prove 8 = .ok (.iload_n 2, 1) := by decide +kernel
theorem dT_prove_9 : decode cT_prove 9 = .ok (.invokestatic 49, 3) := by decide +kernel
theorem dT_prove_12 : decode cT_prove 12 = .ok (.ifCond .ne 7, 3) := by decide +kernel
theorem dT_prove_15 : decode cT_prove 15 = .ok (.iconst 1, 1) := by decide +kernel
theorem dT_prove_16 : decode cT_prove 16 = .ok (.goto 27, 3) := by decide +kernel
theorem dT_prove_19 : decode cT_prove 19 = .ok (.aload_n 0, 1) := by decide +kernel
theorem dT_prove_20 : decode cT_prove 20 = .ok (.getfield 53, 3) := by decide +kernel
theorem dT_prove_23 : decode cT_prove 23 = .ok (.ifCond .ne 7, 3) := by decide +kernel
theorem dT_prove_26 : decode cT_prove 26 = .ok (.iconst 2, 1) := by decide +kernel
theorem dT_prove_27 : decode cT_prove 27 = .ok (.goto 16, 3) := by decide +kernel
theorem dT_prove_30 : decode cT_prove 30 = .ok (.aload_n 0, 1) := by decide +kernel
theorem dT_prove_31 : decode cT_prove 31 = .ok (.invokevirtual 64, 3) := by decide +kernel
theorem dT_prove_34 : decode cT_prove 34 = .ok (.iconst (-1), 1) := by decide +kernel
theorem dT_prove_35 : decode cT_prove 35 = .ok (.if_icmp .eq 7, 3) := by decide +kernel
theorem dT_prove_38 : decode cT_prove 38 = .ok (.iconst 3, 1) := by decide +kernel
theorem dT_prove_39 : decode cT_prove 39 = .ok (.goto 4, 3) := by decide +kernel
theorem dT_prove_42 : decode cT_prove 42 = .ok (.iconst 0, 1) := by decide +kernel
theorem dT_prove_43 : decode cT_prove 43 = .ok (.putfield 34, 3) := by decide +kernel
theorem dT_prove_46 : decode cT_prove 46 = .ok (.aload_n 0, 1) := by decide +kernel
theorem dT_prove_47 : decode cT_prove 47 = .ok (.getfield 34, 3) := by decide +kernel
