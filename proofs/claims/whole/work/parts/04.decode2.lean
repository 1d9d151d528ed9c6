theorem dM_init_0 : decode cM_init 0 = .ok (.aload_n 0, 1) := by decide +kernel
theorem dM_init_1 : decode cM_init 1 = .ok (.invokespecial 1, 3) := by decide +kernel
theorem dM_init_4 : decode cM_init 4 = .ok (.aload_n 0, 1) := by decide +kernel
theorem dM_init_5 : decode cM_init 5 = .ok (.new 7, 3) := by decide +kernel
theorem dM_init_8 : decode cM_init 8 = .ok (.dup, 1) := by decide +kernel
theorem dM_init_9 : decode cM_init 9 = .ok (.invokespecial 9, 3) := by decide +kernel
theorem dM_init_12 : decode cM_init 12 = .ok (.putfield 10, 3) := by decide +kernel
theorem dM_init_15 : decode cM_init 15 = .ok (.aload_n 0, 1) := by decide +kernel
theorem dM_init_16 : decode cM_init 16 = .ok (.new 16, 3) := by decide +kernel
theorem dM_init_19 : decode cM_init 19 = .ok (.dup, 1) := by decide +kernel
theorem dM_init_20 : decode cM_init 20 = .ok (.invokespecial 18, 3) := by decide +kernel
theorem dM_init_23 : decode cM_init 23 = .ok (.putfield 19, 3) := by decide +kernel
theorem dM_init_26 : decode cM_init 26 = .ok (.aload_n 0, 1) := by decide +kernel
theorem dM_init_27 : decode cM_init 27 = .ok (.new 23, 3) := by decide +kernel
theorem dM_init_30 : decode cM_init 30 = .ok (.dup, 1) := by decide +kernel
theorem dM_init_31 : decode cM_init 31 = .ok (.invokespecial 25, 3) := by decide +kernel
theorem dM_init_34 : decode cM_init 34 = .ok (.putfield 26, 3) := by decide +kernel
theorem dM_init_37 : decode cM_init 37 = .ok (.aload_n 0, 1) := by decide +kernel
theorem dM_init_38 : decode cM_init 38 = .ok (.new 30, 3) := by decide +kernel
theorem dM_init_41 : decode cM_init 41 = .ok (.dup, 1) := by decide +kernel
theorem dM_init_42 : decode cM_init 42 = .ok (.invokespecial 32, 3) := by decide +kernel
theorem dM_init_45 : decode cM_init 45 = .ok (.putfield 33, 3) := by decide +kernel
theorem dM_init_48 : decode cM_init 48 = .ok (.aload_n 0, 1) := by decide +kernel
theorem dM_init_49 : decode cM_init 49 = .ok (.bipush 16, 2) := by decide +kernel
theorem dM_init_51 : decode cM_init 51 = .ok (.newarray .int, 2) := by decide +kernel
theorem dM_init_53 : decode cM_init 53 = .ok (.putfield 37, 3) := by decide +kernel
theorem dM_init_56 : decode cM_init 56 = .ok (.aload_n 0, 1) := by decide +kernel
theorem dM_init_57 : decode cM_init 57 = .ok (.getfield 37, 3) := by decide +kernel
theorem dM_init_60 : decode cM_init 60 = .ok (.iconst 0, 1) := by decide +kernel
theorem dM_init_61 : decode cM_init 61 = .ok (.iconst 1, 1) := by decide +kernel
theorem dM_init_62 : decode cM_init 62 = .ok (.iastore, 1) := by decide +kernel
theorem dM_init_63 : decode cM_init 63 = .ok (.aload_n 0, 1) := by decide +kernel
theorem dM_init_64 : decode cM_init 64 = .ok (.bipush 7, 2) := by decide +kernel
theorem dM_init_66 : decode cM_init 66 = .ok (.newarray .int, 2) := by decide +kernel
theorem dM_init_68 : decode cM_init 68 = .ok (.putfield 41, 3) := by decide +kernel
theorem dM_init_71 : decode cM_init 71 = .ok (.aload_n 0, 1) := by decide +kernel
theorem dM_init_72 : decode cM_init 72 = .ok (.getfield 41, 3) := by decide +kernel
theorem dM_init_75 : decode cM_init 75 = .ok (.iconst 0, 1) := by decide +kernel
theorem dM_init_76 : decode cM_init 76 = .ok (.iconst 1, 1) := by decide +kernel
theorem dM_init_77 : decode cM_init 77 = .ok (.iastore, 1) := by decide +kernel
theorem dM_init_78 : decode cM_init 78 = .ok (.aload_n 0, 1) := by decide +kernel
theorem dM_init_79 : decode cM_init 79 = .ok (.bipush 16, 2) := by decide +kernel
theorem dM_init_81 : decode cM_init 81 = .ok (.newarray .int, 2) := by decide +kernel
theorem dM_init_83 : decode cM_init 83 = .ok (.putfield 44, 3) := by decide +kernel
theorem dM_init_86 : decode cM_init 86 = .ok (.aload_n 0, 1) := by decide +kernel
theorem dM_init_87 : decode cM_init 87 = .ok (.bipush 16, 2) := by decide +kernel
theorem dM_init_89 : decode cM_init 89 = .ok (.newarray .int, 2) := by decide +kernel
theorem dM_init_91 : decode cM_init 91 = .ok (.putfield 47, 3) := by decide +kernel
theorem dM_init_94 : decode cM_init 94 = .ok (.aload_n 0, 1) := by decide +kernel
theorem dM_init_95 : decode cM_init 95 = .ok (.bipush 16, 2) := by decide +kernel
theorem dM_init_97 : decode cM_init 97 = .ok (.newarray .int, 2) := by decide +kernel
theorem dM_init_99 : decode cM_init 99 = .ok (.putfield 50, 3) := by decide +kernel
theorem dM_init_102 : decode cM_init 102 = .ok (.aload_n 0, 1) := by decide +kernel
theorem dM_init_103 : decode cM_init 103 = .ok (.bipush 16, 2) := by decide +kernel
theorem dM_init_105 : decode cM_init 105 = .ok (.newarray .int, 2) := by decide +kernel
theorem dM_init_107 : decode cM_init 107 = .ok (.putfield 53, 3) := by decide +kernel
theorem dM_init_110 : decode cM_init 110 = .ok (.return_, 1) := by decide +kernel
theorem dM_about_0 : decode cM_about 0 = .ok (.iload_n 1, 1) := by decide +kernel
theorem dM_about_1 : decode cM_about 1 = .ok (.tableswitch 88 0 4 #[35, 43, 51, 56, 72], 35) := by decide +kernel
theorem dM_about_36 : decode cM_about 36 = .ok (.aload_n 0, 1) := by decide +kernel
theorem dM_about_37 : decode cM_about 37 = .ok (.getfield 10, 3) := by decide +kernel
theorem dM_about_40 : decode cM_about 40 = .ok (.invokevirtual 68, 3) := by decide +kernel
theorem dM_about_43 : decode cM_about 43 = .ok (.ireturn, 1) := by decide +kernel
theorem dM_about_44 : decode cM_about 44 = .ok (.aload_n 0, 1) := by decide +kernel
theorem dM_about_45 : decode cM_about 45 = .ok (.getfield 19, 3) := by decide +kernel
theorem dM_about_48 : decode cM_about 48 = .ok (.invokevirtual 112, 3) := by decide +kernel
theorem dM_about_51 : decode cM_about 51 = .ok (.ireturn, 1) := by decide +kernel
theorem dM_about_52 : decode cM_about 52 = .ok (.aload_n 0, 1) := by decide +kernel
theorem dM_about_53 : decode cM_about 53 = .ok (.getfield 85, 3) := by decide +kernel
theorem dM_about_56 : decode cM_about 56 = .ok (.ireturn, 1) := by decide +kernel
theorem dM_about_57 : decode cM_about 57 = .ok (.aload_n 0, 1) := by decide +kernel
theorem dM_about_58 : decode cM_about 58 = .ok (.getfield 26, 3) := by decide +kernel
theorem dM_about_61 : decode cM_about 61 = .ok (.invokevirtual 115, 3) := by decide +kernel
theorem dM_about_64 : decode cM_about 64 = .ok (.ifCond .eq 7, 3) := by decide +kernel
theorem dM_about_67 : decode cM_about 67 = .ok (.iconst 1, 1) := by decide +kernel
theorem dM_about_68 : decode cM_about 68 = .ok (.goto 4, 3) := by decide +kernel
theorem dM_about_71 : decode cM_about 71 = .ok (.iconst 0, 1) := by decide +kernel
theorem dM_about_72 : decode cM_about 72 = .ok (.ireturn, 1) := by decide +kernel
theorem dM_about_73 : decode cM_about 73 = .ok (.aload_n 0, 1) := by decide +kernel
theorem dM_about_74 : decode cM_about 74 = .ok (.getfield 33, 3) := by decide +kernel
theorem dM_about_77 : decode cM_about 77 = .ok (.invokevirtual 176, 3) := by decide +kernel
theorem dM_about_80 : decode cM_about 80 = .ok (.ifCond .eq 7, 3) := by decide +kernel
theorem dM_about_83 : decode cM_about 83 = .ok (.iconst 1, 1) := by decide +kernel
theorem dM_about_84 : decode cM_about 84 = .ok (.goto 4, 3) := by decide +kernel
theorem dM_about_87 : decode cM_about 87 = .ok (.iconst 0, 1) := by decide +kernel
theorem dM_about_88 : decode cM_about 88 = .ok (.ireturn, 1) := by decide +kernel
theorem dM_about_89 : decode cM_about 89 = .ok (.iconst (-1), 1) := by decide +kernel
theorem dM_about_90 : decode cM_about 90 = .ok (.ireturn, 1) := by decide +kernel
theorem dM_alter_0 : decode cM_alter 0 = .ok (.iload_n 1, 1) := by decide +kernel
theorem dM_alter_1 : decode cM_alter 1 = .ok (.iconst 3, 1) := by decide +kernel
theorem dM_alter_2 : decode cM_alter 2 = .ok (.invokestatic 56, 3) := by decide +kernel
theorem dM_alter_5 : decode cM_alter 5 = .ok (.ifCond .eq 12, 3) := by decide +kernel
theorem dM_alter_8 : decode cM_alter 8 = .ok (.iload_n 2, 1) := by decide +kernel
theorem dM_alter_9 : decode cM_alter 9 = .ok (.ldc 60, 2) := by decide +kernel
theorem dM_alter_11 : decode cM_alter 11 = .ok (.invokestatic 56, 3) := by decide +kernel
theorem dM_alter_14 : decode cM_alter 14 = .ok (.ifCond .ne 11, 3) := by decide +kernel
theorem dM_alter_17 : decode cM_alter 17 = .ok (.new 61, 3) := by decide +kernel
theorem dM_alter_20 : decode cM_alter 20 = .ok (.dup, 1) := by decide +kernel
theorem dM_alter_21 : decode cM_alter 21 = .ok (.invokespecial 63, 3) := by decide +kernel
theorem dM_alter_24 : decode cM_alter 24 = .ok (.athrow, 1) := by decide +kernel
theorem dM_alter_25 : decode cM_alter 25 = .ok (.aload_n 0, 1) := by decide +kernel
theorem dM_alter_26 : decode cM_alter 26 = .ok (.getfield 33, 3) := by decide +kernel
theorem dM_alter_29 : decode cM_alter 29 = .ok (.invokevirtual 176, 3) := by decide +kernel
theorem dM_alter_32 : decode cM_alter 32 = .ok (.ifCond .ne 11, 3) := by decide +kernel
theorem dM_alter_35 : decode cM_alter 35 = .ok (.new 72, 3) := by decide +kernel
theorem dM_alter_38 : decode cM_alter 38 = .ok (.dup, 1) := by decide +kernel
theorem dM_alter_39 : decode cM_alter 39 = .ok (.invokespecial 74, 3) := by decide +kernel
theorem dM_alter_42 : decode cM_alter 42 = .ok (.athrow, 1) := by decide +kernel
theorem dM_alter_43 : decode cM_alter 43 = .ok (.aload_n 0, 1) := by decide +kernel
theorem dM_alter_44 : decode cM_alter 44 = .ok (.getfield 33, 3) := by decide +kernel
theorem dM_alter_47 : decode cM_alter 47 = .ok (.iload_n 1, 1) := by decide +kernel
theorem dM_alter_48 : decode cM_alter 48 = .ok (.iload_n 2, 1) := by decide +kernel
theorem dM_alter_49 : decode cM_alter 49 = .ok (.invokevirtual 177, 3) := by decide +kernel
theorem dM_alter_52 : decode cM_alter 52 = .ok (.iconst 1, 1) := by decide +kernel
theorem dM_alter_53 : decode cM_alter 53 = .ok (.ireturn, 1) := by decide +kernel
theorem dM_constraint_0 : decode cM_constraint 0 = .ok (.aload_n 0, 1) := by decide +kernel
theorem dM_constraint_1 : decode cM_constraint 1 = .ok (.getfield 10, 3) := by decide +kernel
theorem dM_constraint_4 : decode cM_constraint 4 = .ok (.invokevirtual 68, 3) := by decide +kernel
theorem dM_constraint_7 : decode cM_constraint 7 = .ok (.bipush 16, 2) := by decide +kernel
theorem dM_constraint_9 : decode cM_constraint 9 = .ok (.if_icmp .lt 11, 3) := by decide +kernel
theorem dM_constraint_12 : decode cM_constraint 12 = .ok (.new 72, 3) := by decide +kernel
theorem dM_constraint_15 : decode cM_constraint 15 = .ok (.dup, 1) := by decide +kernel
theorem dM_constraint_16 : decode cM_constraint 16 = .ok (.invokespecial 74, 3) := by decide +kernel
theorem dM_constraint_19 : decode cM_constraint 19 = .ok (.athrow, 1) := by decide +kernel
theorem dM_constraint_20 : decode cM_constraint 20 = .ok (.aload_n 0, 1) := by decide +kernel
theorem dM_constraint_21 : decode cM_constraint 21 = .ok (.getfield 10, 3) := by decide +kernel
theorem dM_constraint_24 : decode cM_constraint 24 = .ok (.invokevirtual 75, 3) := by decide +kernel
theorem dM_constraint_27 : decode cM_constraint 27 = .ok (.istore_n 1, 1) := by decide +kernel
theorem dM_constraint_28 : decode cM_constraint 28 = .ok (.aload_n 0, 1) := by decide +kernel
theorem dM_constraint_29 : decode cM_constraint 29 = .ok (.getfield 19, 3) := by decide +kernel
theorem dM_constraint_32 : decode cM_constraint 32 = .ok (.aload_n 0, 1) := by decide +kernel
theorem dM_constraint_33 : decode cM_constraint 33 = .ok (.getfield 10, 3) := by decide +kernel
theorem dM_constraint_36 : decode cM_constraint 36 = .ok (.invokevirtual 68, 3) := by decide +kernel
theorem dM_constraint_39 : decode cM_constraint 39 = .ok (.invokevirtual 78, 3) := by decide +kernel
theorem dM_constraint_42 : decode cM_constraint 42 = .ok (.aload_n 0, 1) := by decide +kernel
theorem dM_constraint_43 : decode cM_constraint 43 = .ok (.getfield 26, 3) := by decide +kernel
theorem dM_constraint_46 : decode cM_constraint 46 = .ok (.invokevirtual 82, 3) := by decide +kernel
theorem dM_constraint_49 : decode cM_constraint 49 = .ok (.iload_n 1, 1) := by decide +kernel
theorem dM_constraint_50 : decode cM_constraint 50 = .ok (.ireturn, 1) := by decide +kernel
theorem dM_input_0 : decode cM_input 0 = .ok (.iload_n 1, 1) := by decide +kernel
theorem dM_input_1 : decode cM_input 1 = .ok (.ifCond .eq 21, 3) := by decide +kernel
theorem dM_input_4 : decode cM_input 4 = .ok (.iload_n 1, 1) := by decide +kernel
theorem dM_input_5 : decode cM_input 5 = .ok (.bipush 7, 2) := by decide +kernel
theorem dM_input_7 : decode cM_input 7 = .ok (.invokestatic 56, 3) := by decide +kernel
theorem dM_input_10 : decode cM_input 10 = .ok (.ifCond .eq 12, 3) := by decide +kernel
theorem dM_input_13 : decode cM_input 13 = .ok (.iload_n 2, 1) := by decide +kernel
theorem dM_input_14 : decode cM_input 14 = .ok (.ldc 60, 2) := by decide +kernel
theorem dM_input_16 : decode cM_input 16 = .ok (.invokestatic 56, 3) := by decide +kernel
theorem dM_input_19 : decode cM_input 19 = .ok (.ifCond .ne 11, 3) := by decide +kernel
theorem dM_input_22 : decode cM_input 22 = .ok (.new 61, 3) := by decide +kernel
theorem dM_input_25 : decode cM_input 25 = .ok (.dup, 1) := by decide +kernel
theorem dM_input_26 : decode cM_input 26 = .ok (.invokespecial 63, 3) := by decide +kernel
theorem dM_input_29 : decode cM_input 29 = .ok (.athrow, 1) := by decide +kernel
theorem dM_input_30 : decode cM_input 30 = .ok (.aload_n 0, 1) := by decide +kernel
theorem dM_input_31 : decode cM_input 31 = .ok (.getfield 41, 3) := by decide +kernel
theorem dM_input_34 : decode cM_input 34 = .ok (.iload_n 1, 1) := by decide +kernel
theorem dM_input_35 : decode cM_input 35 = .ok (.iload_n 2, 1) := by decide +kernel
theorem dM_input_36 : decode cM_input 36 = .ok (.iastore, 1) := by decide +kernel
theorem dM_input_37 : decode cM_input 37 = .ok (.iconst 1, 1) := by decide +kernel
theorem dM_input_38 : decode cM_input 38 = .ok (.ireturn, 1) := by decide +kernel
theorem dM_isBelow_0 : decode cM_isBelow 0 = .ok (.iload_n 0, 1) := by decide +kernel
theorem dM_isBelow_1 : decode cM_isBelow 1 = .ok (.ifCond .lt 12, 3) := by decide +kernel
theorem dM_isBelow_4 : decode cM_isBelow 4 = .ok (.iload_n 0, 1) := by decide +kernel
theorem dM_isBelow_5 : decode cM_isBelow 5 = .ok (.iload_n 1, 1) := by decide +kernel
theorem dM_isBelow_6 : decode cM_isBelow 6 = .ok (.if_icmp .ge 7, 3) := by decide +kernel
theorem dM_isBelow_9 : decode cM_isBelow 9 = .ok (.iconst 1, 1) := by decide +kernel
theorem dM_isBelow_10 : decode cM_isBelow 10 = .ok (.goto 4, 3) := by decide +kernel
theorem dM_isBelow_13 : decode cM_isBelow 13 = .ok (.iconst 0, 1) := by decide +kernel
theorem dM_isBelow_14 : decode cM_isBelow 14 = .ok (.ireturn, 1) := by decide +kernel
theorem dM_isUnit_0 : decode cM_isUnit 0 = .ok (.iload_n 0, 1) := by decide +kernel
theorem dM_isUnit_1 : decode cM_isUnit 1 = .ok (.ifCond .le 13, 3) := by decide +kernel
theorem dM_isUnit_4 : decode cM_isUnit 4 = .ok (.iload_n 0, 1) := by decide +kernel
theorem dM_isUnit_5 : decode cM_isUnit 5 = .ok (.ldc 60, 2) := by decide +kernel
theorem dM_isUnit_7 : decode cM_isUnit 7 = .ok (.if_icmp .ge 7, 3) := by decide +kernel
theorem dM_isUnit_10 : decode cM_isUnit 10 = .ok (.iconst 1, 1) := by decide +kernel
theorem dM_isUnit_11 : decode cM_isUnit 11 = .ok (.goto 4, 3) := by decide +kernel
theorem dM_isUnit_14 : decode cM_isUnit 14 = .ok (.iconst 0, 1) := by decide +kernel
theorem dM_isUnit_15 : decode cM_isUnit 15 = .ok (.ireturn, 1) := by decide +kernel
theorem dM_key_0 : decode cM_key 0 = .ok (.aload_n 0, 1) := by decide +kernel
theorem dM_key_1 : decode cM_key 1 = .ok (.getfield 26, 3) := by decide +kernel
theorem dM_key_4 : decode cM_key 4 = .ok (.invokevirtual 115, 3) := by decide +kernel
theorem dM_key_7 : decode cM_key 7 = .ok (.ifCond .ne 5, 3) := by decide +kernel
theorem dM_key_10 : decode cM_key 10 = .ok (.iconst (-1), 1) := by decide +kernel
theorem dM_key_11 : decode cM_key 11 = .ok (.ireturn, 1) := by decide +kernel
theorem dM_key_12 : decode cM_key 12 = .ok (.iload_n 1, 1) := by decide +kernel
theorem dM_key_13 : decode cM_key 13 = .ok (.tableswitch 112 0 2 #[27, 57, 83], 27) := by decide +kernel
theorem dM_key_40 : decode cM_key 40 = .ok (.iload_n 2, 1) := by decide +kernel
theorem dM_key_41 : decode cM_key 41 = .ok (.aload_n 0, 1) := by decide +kernel
theorem dM_key_42 : decode cM_key 42 = .ok (.getfield 19, 3) := by decide +kernel
theorem dM_key_45 : decode cM_key 45 = .ok (.invokevirtual 112, 3) := by decide +kernel
theorem dM_key_48 : decode cM_key 48 = .ok (.invokestatic 56, 3) := by decide +kernel
theorem dM_key_51 : decode cM_key 51 = .ok (.ifCond .eq 17, 3) := by decide +kernel
theorem dM_key_54 : decode cM_key 54 = .ok (.aload_n 0, 1) := by decide +kernel
theorem dM_key_55 : decode cM_key 55 = .ok (.getfield 26, 3) := by decide +kernel
theorem dM_key_58 : decode cM_key 58 = .ok (.invokevirtual 157, 3) := by decide +kernel
theorem dM_key_61 : decode cM_key 61 = .ok (.iload_n 2, 1) := by decide +kernel
theorem dM_key_62 : decode cM_key 62 = .ok (.invokestatic 200, 3) := by decide +kernel
theorem dM_key_65 : decode cM_key 65 = .ok (.goto 4, 3) := by decide +kernel
theorem dM_key_68 : decode cM_key 68 = .ok (.iconst (-1), 1) := by decide +kernel
theorem dM_key_69 : decode cM_key 69 = .ok (.ireturn, 1) := by decide +kernel
theorem dM_key_70 : decode cM_key 70 = .ok (.iload_n 2, 1) := by decide +kernel
theorem dM_key_71 : decode cM_key 71 = .ok (.bipush 16, 2) := by decide +kernel
theorem dM_key_73 : decode cM_key 73 = .ok (.invokestatic 56, 3) := by decide +kernel
theorem dM_key_76 : decode cM_key 76 = .ok (.ifCond .eq 18, 3) := by decide +kernel
theorem dM_key_79 : decode cM_key 79 = .ok (.aload_n 0, 1) := by decide +kernel
theorem dM_key_80 : decode cM_key 80 = .ok (.getfield 26, 3) := by decide +kernel
theorem dM_key_83 : decode cM_key 83 = .ok (.iload_n 2, 1) := by decide +kernel
theorem dM_key_84 : decode cM_key 84 = .ok (.aload_n 0, 1) := by decide +kernel
theorem dM_key_85 : decode cM_key 85 = .ok (.getfield 85, 3) := by decide +kernel
theorem dM_key_88 : decode cM_key 88 = .ok (.invokevirtual 203, 3) := by decide +kernel
theorem dM_key_91 : decode cM_key 91 = .ok (.goto 4, 3) := by decide +kernel
theorem dM_key_94 : decode cM_key 94 = .ok (.iconst (-1), 1) := by decide +kernel
theorem dM_key_95 : decode cM_key 95 = .ok (.ireturn, 1) := by decide +kernel
theorem dM_key_96 : decode cM_key 96 = .ok (.iload_n 2, 1) := by decide +kernel
theorem dM_key_97 : decode cM_key 97 = .ok (.aload_n 0, 1) := by decide +kernel
theorem dM_key_98 : decode cM_key 98 = .ok (.getfield 19, 3) := by decide +kernel
theorem dM_key_101 : decode cM_key 101 = .ok (.invokevirtual 112, 3) := by decide +kernel
theorem dM_key_104 : decode cM_key 104 = .ok (.iconst 1, 1) := by decide +kernel
theorem dM_key_105 : decode cM_key 105 = .ok (.isub, 1) := by decide +kernel
theorem dM_key_106 : decode cM_key 106 = .ok (.invokestatic 56, 3) := by decide +kernel
theorem dM_key_109 : decode cM_key 109 = .ok (.ifCond .eq 14, 3) := by decide +kernel
theorem dM_key_112 : decode cM_key 112 = .ok (.aload_n 0, 1) := by decide +kernel
theorem dM_key_113 : decode cM_key 113 = .ok (.getfield 26, 3) := by decide +kernel
theorem dM_key_116 : decode cM_key 116 = .ok (.iload_n 2, 1) := by decide +kernel
theorem dM_key_117 : decode cM_key 117 = .ok (.invokevirtual 206, 3) := by decide +kernel
theorem dM_key_120 : decode cM_key 120 = .ok (.goto 4, 3) := by decide +kernel
theorem dM_key_123 : decode cM_key 123 = .ok (.iconst (-1), 1) := by decide +kernel
theorem dM_key_124 : decode cM_key 124 = .ok (.ireturn, 1) := by decide +kernel
theorem dM_key_125 : decode cM_key 125 = .ok (.iconst (-1), 1) := by decide +kernel
theorem dM_key_126 : decode cM_key 126 = .ok (.ireturn, 1) := by decide +kernel
theorem dM_makeElements_0 : decode cM_makeElements 0 = .ok (.aload_n 0, 1) := by decide +kernel
theorem dM_makeElements_1 : decode cM_makeElements 1 = .ok (.getfield 26, 3) := by decide +kernel
theorem dM_makeElements_4 : decode cM_makeElements 4 = .ok (.invokevirtual 135, 3) := by decide +kernel
theorem dM_makeElements_7 : decode cM_makeElements 7 = .ok (.istore_n 3, 1) := by decide +kernel
theorem dM_makeElements_8 : decode cM_makeElements 8 = .ok (.aload_n 0, 1) := by decide +kernel
theorem dM_makeElements_9 : decode cM_makeElements 9 = .ok (.getfield 26, 3) := by decide +kernel
theorem dM_makeElements_12 : decode cM_makeElements 12 = .ok (.aload_n 0, 1) := by decide +kernel
theorem dM_makeElements_13 : decode cM_makeElements 13 = .ok (.getfield 44, 3) := by decide +kernel
theorem dM_makeElements_16 : decode cM_makeElements 16 = .ok (.invokevirtual 138, 3) := by decide +kernel
theorem dM_makeElements_19 : decode cM_makeElements 19 = .ok (.iload_n 1, 1) := by decide +kernel
theorem dM_makeElements_20 : decode cM_makeElements 20 = .ok (.iload_n 3, 1) := by decide +kernel
theorem dM_makeElements_21 : decode cM_makeElements 21 = .ok (.invokestatic 141, 3) := by decide +kernel
theorem dM_makeElements_24 : decode cM_makeElements 24 = .ok (.invokestatic 147, 3) := by decide +kernel
theorem dM_makeElements_27 : decode cM_makeElements 27 = .ok (.istore 4, 2) := by decide +kernel
theorem dM_makeElements_29 : decode cM_makeElements 29 = .ok (.aload_n 0, 1) := by decide +kernel
theorem dM_makeElements_30 : decode cM_makeElements 30 = .ok (.getfield 26, 3) := by decide +kernel
theorem dM_makeElements_33 : decode cM_makeElements 33 = .ok (.aload_n 0, 1) := by decide +kernel
theorem dM_makeElements_34 : decode cM_makeElements 34 = .ok (.getfield 47, 3) := by decide +kernel
theorem dM_makeElements_37 : decode cM_makeElements 37 = .ok (.invokevirtual 150, 3) := by decide +kernel
theorem dM_makeElements_40 : decode cM_makeElements 40 = .ok (.iload_n 2, 1) := by decide +kernel
theorem dM_makeElements_41 : decode cM_makeElements 41 = .ok (.iload_n 3, 1) := by decide +kernel
theorem dM_makeElements_42 : decode cM_makeElements 42 = .ok (.invokestatic 141, 3) := by decide +kernel
theorem dM_makeElements_45 : decode cM_makeElements 45 = .ok (.invokestatic 147, 3) := by decide +kernel
theorem dM_makeElements_48 : decode cM_makeElements 48 = .ok (.istore 5, 2) := by decide +kernel
theorem dM_makeElements_50 : decode cM_makeElements 50 = .ok (.aload_n 0, 1) := by decide +kernel
theorem dM_makeElements_51 : decode cM_makeElements 51 = .ok (.getfield 26, 3) := by decide +kernel
theorem dM_makeElements_54 : decode cM_makeElements 54 = .ok (.aload_n 0, 1) := by decide +kernel
theorem dM_makeElements_55 : decode cM_makeElements 55 = .ok (.getfield 37, 3) := by decide +kernel
theorem dM_makeElements_58 : decode cM_makeElements 58 = .ok (.aload_n 0, 1) := by decide +kernel
theorem dM_makeElements_59 : decode cM_makeElements 59 = .ok (.getfield 85, 3) := by decide +kernel
theorem dM_makeElements_62 : decode cM_makeElements 62 = .ok (.iconst 1, 1) := by decide +kernel
theorem dM_makeElements_63 : decode cM_makeElements 63 = .ok (.iadd, 1) := by decide +kernel
theorem dM_makeElements_64 : decode cM_makeElements 64 = .ok (.bipush 15, 2) := by decide +kernel
theorem dM_makeElements_66 : decode cM_makeElements 66 = .ok (.invokevirtual 153, 3) := by decide +kernel
theorem dM_makeElements_69 : decode cM_makeElements 69 = .ok (.aload_n 0, 1) := by decide +kernel
theorem dM_makeElements_70 : decode cM_makeElements 70 = .ok (.getfield 33, 3) := by decide +kernel
theorem dM_makeElements_73 : decode cM_makeElements 73 = .ok (.aload_n 0, 1) := by decide +kernel
theorem dM_makeElements_74 : decode cM_makeElements 74 = .ok (.getfield 26, 3) := by decide +kernel
theorem dM_makeElements_77 : decode cM_makeElements 77 = .ok (.invokevirtual 157, 3) := by decide +kernel
theorem dM_makeElements_80 : decode cM_makeElements 80 = .ok (.invokevirtual 160, 3) := by decide +kernel
theorem dM_makeElements_83 : decode cM_makeElements 83 = .ok (.aload_n 0, 1) := by decide +kernel
theorem dM_makeElements_84 : decode cM_makeElements 84 = .ok (.getfield 26, 3) := by decide +kernel
theorem dM_makeElements_87 : decode cM_makeElements 87 = .ok (.invokevirtual 163, 3) := by decide +kernel
theorem dM_makeElements_90 : decode cM_makeElements 90 = .ok (.invokestatic 141, 3) := by decide +kernel
theorem dM_makeElements_93 : decode cM_makeElements 93 = .ok (.invokestatic 147, 3) := by decide +kernel
theorem dM_makeElements_96 : decode cM_makeElements 96 = .ok (.istore 6, 2) := by decide +kernel
theorem dM_makeElements_98 : decode cM_makeElements 98 = .ok (.iload 6, 2) := by decide +kernel
theorem dM_makeElements_100 : decode cM_makeElements 100 = .ok (.iload_n 3, 1) := by decide +kernel
theorem dM_makeElements_101 : decode cM_makeElements 101 = .ok (.invokestatic 166, 3) := by decide +kernel
theorem dM_makeElements_104 : decode cM_makeElements 104 = .ok (.istore 7, 2) := by decide +kernel
theorem dM_makeElements_106 : decode cM_makeElements 106 = .ok (.iload 7, 2) := by decide +kernel
theorem dM_makeElements_108 : decode cM_makeElements 108 = .ok (.iload 4, 2) := by decide +kernel
theorem dM_makeElements_110 : decode cM_makeElements 110 = .ok (.iload_n 2, 1) := by decide +kernel
theorem dM_makeElements_111 : decode cM_makeElements 111 = .ok (.invokestatic 141, 3) := by decide +kernel
theorem dM_makeElements_114 : decode cM_makeElements 114 = .ok (.invokestatic 147, 3) := by decide +kernel
theorem dM_makeElements_117 : decode cM_makeElements 117 = .ok (.istore 7, 2) := by decide +kernel
theorem dM_makeElements_119 : decode cM_makeElements 119 = .ok (.iload 7, 2) := by decide +kernel
theorem dM_makeElements_121 : decode cM_makeElements 121 = .ok (.iload 5, 2) := by decide +kernel
theorem dM_makeElements_123 : decode cM_makeElements 123 = .ok (.iload_n 1, 1) := by decide +kernel
theorem dM_makeElements_124 : decode cM_makeElements 124 = .ok (.invokestatic 141, 3) := by decide +kernel
theorem dM_makeElements_127 : decode cM_makeElements 127 = .ok (.invokestatic 147, 3) := by decide +kernel
theorem dM_makeElements_130 : decode cM_makeElements 130 = .ok (.istore 7, 2) := by decide +kernel
theorem dM_makeElements_132 : decode cM_makeElements 132 = .ok (.iload 7, 2) := by decide +kernel
theorem dM_makeElements_134 : decode cM_makeElements 134 = .ok (.iload_n 1, 1) := by decide +kernel
theorem dM_makeElements_135 : decode cM_makeElements 135 = .ok (.iload_n 2, 1) := by decide +kernel
theorem dM_makeElements_136 : decode cM_makeElements 136 = .ok (.invokestatic 141, 3) := by decide +kernel
theorem dM_makeElements_139 : decode cM_makeElements 139 = .ok (.iload_n 3, 1) := by decide +kernel
theorem dM_makeElements_140 : decode cM_makeElements 140 = .ok (.invokestatic 141, 3) := by decide +kernel
theorem dM_makeElements_143 : decode cM_makeElements 143 = .ok (.invokestatic 169, 3) := by decide +kernel
theorem dM_makeElements_146 : decode cM_makeElements 146 = .ok (.istore 7, 2) := by decide +kernel
theorem dM_makeElements_148 : decode cM_makeElements 148 = .ok (.aload_n 0, 1) := by decide +kernel
theorem dM_makeElements_149 : decode cM_makeElements 149 = .ok (.getfield 33, 3) := by decide +kernel
theorem dM_makeElements_152 : decode cM_makeElements 152 = .ok (.iload 4, 2) := by decide +kernel
theorem dM_makeElements_154 : decode cM_makeElements 154 = .ok (.iload 5, 2) := by decide +kernel
theorem dM_makeElements_156 : decode cM_makeElements 156 = .ok (.iload 7, 2) := by decide +kernel
theorem dM_makeElements_158 : decode cM_makeElements 158 = .ok (.invokevirtual 172, 3) := by decide +kernel
theorem dM_makeElements_161 : decode cM_makeElements 161 = .ok (.return_, 1) := by decide +kernel
theorem dM_open_0 : decode cM_open 0 = .ok (.aload_n 0, 1) := by decide +kernel
theorem dM_open_1 : decode cM_open 1 = .ok (.getfield 10, 3) := by decide +kernel
theorem dM_open_4 : decode cM_open 4 = .ok (.aload_n 0, 1) := by decide +kernel
theorem dM_open_5 : decode cM_open 5 = .ok (.getfield 37, 3) := by decide +kernel
theorem dM_open_8 : decode cM_open 8 = .ok (.invokevirtual 89, 3) := by decide +kernel
theorem dM_open_11 : decode cM_open 11 = .ok (.ireturn, 1) := by decide +kernel
theorem dM_polynomial_0 : decode cM_polynomial 0 = .ok (.iload_n 1, 1) := by decide +kernel
theorem dM_polynomial_1 : decode cM_polynomial 1 = .ok (.iconst 3, 1) := by decide +kernel
theorem dM_polynomial_2 : decode cM_polynomial 2 = .ok (.invokestatic 56, 3) := by decide +kernel
theorem dM_polynomial_5 : decode cM_polynomial 5 = .ok (.ifCond .eq 26, 3) := by decide +kernel
theorem dM_polynomial_8 : decode cM_polynomial 8 = .ok (.iload_n 2, 1) := by decide +kernel
theorem dM_polynomial_9 : decode cM_polynomial 9 = .ok (.bipush 16, 2) := by decide +kernel
theorem dM_polynomial_11 : decode cM_polynomial 11 = .ok (.invokestatic 56, 3) := by decide +kernel
theorem dM_polynomial_14 : decode cM_polynomial 14 = .ok (.ifCond .eq 17, 3) := by decide +kernel
theorem dM_polynomial_17 : decode cM_polynomial 17 = .ok (.iload_n 3, 1) := by decide +kernel
theorem dM_polynomial_18 : decode cM_polynomial 18 = .ok (.aload_n 0, 1) := by decide +kernel
theorem dM_polynomial_19 : decode cM_polynomial 19 = .ok (.getfield 19, 3) := by decide +kernel
theorem dM_polynomial_22 : decode cM_polynomial 22 = .ok (.invokevirtual 112, 3) := by decide +kernel
theorem dM_polynomial_25 : decode cM_polynomial 25 = .ok (.invokestatic 56, 3) := by decide +kernel
theorem dM_polynomial_28 : decode cM_polynomial 28 = .ok (.ifCond .ne 5, 3) := by decide +kernel
theorem dM_polynomial_31 : decode cM_polynomial 31 = .ok (.iconst (-1), 1) := by decide +kernel
theorem dM_polynomial_32 : decode cM_polynomial 32 = .ok (.ireturn, 1) := by decide +kernel
theorem dM_polynomial_33 : decode cM_polynomial 33 = .ok (.aload_n 0, 1) := by decide +kernel
theorem dM_polynomial_34 : decode cM_polynomial 34 = .ok (.getfield 10, 3) := by decide +kernel
theorem dM_polynomial_37 : decode cM_polynomial 37 = .ok (.iload_n 1, 1) := by decide +kernel
theorem dM_polynomial_38 : decode cM_polynomial 38 = .ok (.iload_n 2, 1) := by decide +kernel
theorem dM_polynomial_39 : decode cM_polynomial 39 = .ok (.aload_n 0, 1) := by decide +kernel
theorem dM_polynomial_40 : decode cM_polynomial 40 = .ok (.getfield 44, 3) := by decide +kernel
theorem dM_polynomial_43 : decode cM_polynomial 43 = .ok (.invokevirtual 192, 3) := by decide +kernel
theorem dM_polynomial_46 : decode cM_polynomial 46 = .ok (.aload_n 0, 1) := by decide +kernel
theorem dM_polynomial_47 : decode cM_polynomial 47 = .ok (.getfield 19, 3) := by decide +kernel
theorem dM_polynomial_50 : decode cM_polynomial 50 = .ok (.aload_n 0, 1) := by decide +kernel
theorem dM_polynomial_51 : decode cM_polynomial 51 = .ok (.getfield 44, 3) := by decide +kernel
theorem dM_polynomial_54 : decode cM_polynomial 54 = .ok (.iload_n 3, 1) := by decide +kernel
theorem dM_polynomial_55 : decode cM_polynomial 55 = .ok (.invokevirtual 196, 3) := by decide +kernel
theorem dM_polynomial_58 : decode cM_polynomial 58 = .ok (.ireturn, 1) := by decide +kernel
theorem dM_proof_0 : decode cM_proof 0 = .ok (.aload_n 0, 1) := by decide +kernel
theorem dM_proof_1 : decode cM_proof 1 = .ok (.getfield 33, 3) := by decide +kernel
theorem dM_proof_4 : decode cM_proof 4 = .ok (.invokevirtual 176, 3) := by decide +kernel
theorem dM_proof_7 : decode cM_proof 7 = .ok (.ifCond .eq 22, 3) := by decide +kernel
theorem dM_proof_10 : decode cM_proof 10 = .ok (.iload_n 1, 1) := by decide +kernel
theorem dM_proof_11 : decode cM_proof 11 = .ok (.iconst 3, 1) := by decide +kernel
theorem dM_proof_12 : decode cM_proof 12 = .ok (.invokestatic 56, 3) := by decide +kernel
theorem dM_proof_15 : decode cM_proof 15 = .ok (.ifCond .eq 14, 3) := by decide +kernel
theorem dM_proof_18 : decode cM_proof 18 = .ok (.aload_n 0, 1) := by decide +kernel
theorem dM_proof_19 : decode cM_proof 19 = .ok (.getfield 33, 3) := by decide +kernel
theorem dM_proof_22 : decode cM_proof 22 = .ok (.iload_n 1, 1) := by decide +kernel
theorem dM_proof_23 : decode cM_proof 23 = .ok (.invokevirtual 180, 3) := by decide +kernel
theorem dM_proof_26 : decode cM_proof 26 = .ok (.goto 4, 3) := by decide +kernel
theorem dM_proof_29 : decode cM_proof 29 = .ok (.iconst (-1), 1) := by decide +kernel
theorem dM_proof_30 : decode cM_proof 30 = .ok (.ireturn, 1) := by decide +kernel
theorem dM_prove_0 : decode cM_prove 0 = .ok (.iload_n 1, 1) := by decide +kernel
theorem dM_prove_1 : decode cM_prove 1 = .ok (.ldc 60, 2) := by decide +kernel
theorem dM_prove_3 : decode cM_prove 3 = .ok (.invokestatic 56, 3) := by decide +kernel
theorem dM_prove_6 : decode cM_prove 6 = .ok (.ifCond .eq 12, 3) := by decide +kernel
theorem dM_prove_9 : decode cM_prove 9 = .ok (.iload_n 2, 1) := by decide +kernel
theorem dM_prove_10 : decode cM_prove 10 = .ok (.ldc 60, 2) := by decide +kernel
theorem dM_prove_12 : decode cM_prove 12 = .ok (.invokestatic 56, 3) := by decide +kernel
theorem dM_prove_15 : decode cM_prove 15 = .ok (.ifCond .ne 11, 3) := by decide +kernel
theorem dM_prove_18 : decode cM_prove 18 = .ok (.new 61, 3) := by decide +kernel
theorem dM_prove_21 : decode cM_prove 21 = .ok (.dup, 1) := by decide +kernel
theorem dM_prove_22 : decode cM_prove 22 = .ok (.invokespecial 63, 3) := by decide +kernel
theorem dM_prove_25 : decode cM_prove 25 = .ok (.athrow, 1) := by decide +kernel
theorem dM_prove_26 : decode cM_prove 26 = .ok (.aload_n 0, 1) := by decide +kernel
theorem dM_prove_27 : decode cM_prove 27 = .ok (.getfield 26, 3) := by decide +kernel
theorem dM_prove_30 : decode cM_prove 30 = .ok (.invokevirtual 115, 3) := by decide +kernel
theorem dM_prove_33 : decode cM_prove 33 = .ok (.ifCond .ne 11, 3) := by decide +kernel
theorem dM_prove_36 : decode cM_prove 36 = .ok (.new 72, 3) := by decide +kernel
theorem dM_prove_39 : decode cM_prove 39 = .ok (.dup, 1) := by decide +kernel
theorem dM_prove_40 : decode cM_prove 40 = .ok (.invokespecial 74, 3) := by decide +kernel
theorem dM_prove_43 : decode cM_prove 43 = .ok (.athrow, 1) := by decide +kernel
theorem dM_prove_44 : decode cM_prove 44 = .ok (.aload_n 0, 1) := by decide +kernel
theorem dM_prove_45 : decode cM_prove 45 = .ok (.getfield 10, 3) := by decide +kernel
theorem dM_prove_48 : decode cM_prove 48 = .ok (.aload_n 0, 1) := by decide +kernel
theorem dM_prove_49 : decode cM_prove 49 = .ok (.getfield 37, 3) := by decide +kernel
theorem dM_prove_52 : decode cM_prove 52 = .ok (.invokevirtual 89, 3) := by decide +kernel
theorem dM_prove_55 : decode cM_prove 55 = .ok (.iconst (-1), 1) := by decide +kernel
theorem dM_prove_56 : decode cM_prove 56 = .ok (.if_icmp .eq 11, 3) := by decide +kernel
theorem dM_prove_59 : decode cM_prove 59 = .ok (.new 101, 3) := by decide +kernel
theorem dM_prove_62 : decode cM_prove 62 = .ok (.dup, 1) := by decide +kernel
theorem dM_prove_63 : decode cM_prove 63 = .ok (.invokespecial 103, 3) := by decide +kernel
theorem dM_prove_66 : decode cM_prove 66 = .ok (.athrow, 1) := by decide +kernel
theorem dM_prove_67 : decode cM_prove 67 = .ok (.aload_n 0, 1) := by decide +kernel
theorem dM_prove_68 : decode cM_prove 68 = .ok (.getfield 10, 3) := by decide +kernel
theorem dM_prove_71 : decode cM_prove 71 = .ok (.iconst 0, 1) := by decide +kernel
theorem dM_prove_72 : decode cM_prove 72 = .ok (.aload_n 0, 1) := by decide +kernel
theorem dM_prove_73 : decode cM_prove 73 = .ok (.getfield 37, 3) := by decide +kernel
theorem dM_prove_76 : decode cM_prove 76 = .ok (.aload_n 0, 1) := by decide +kernel
theorem dM_prove_77 : decode cM_prove 77 = .ok (.getfield 44, 3) := by decide +kernel
theorem dM_prove_80 : decode cM_prove 80 = .ok (.invokevirtual 119, 3) := by decide +kernel
theorem dM_prove_83 : decode cM_prove 83 = .ok (.aload_n 0, 1) := by decide +kernel
theorem dM_prove_84 : decode cM_prove 84 = .ok (.getfield 10, 3) := by decide +kernel
theorem dM_prove_87 : decode cM_prove 87 = .ok (.iconst 1, 1) := by decide +kernel
theorem dM_prove_88 : decode cM_prove 88 = .ok (.aload_n 0, 1) := by decide +kernel
theorem dM_prove_89 : decode cM_prove 89 = .ok (.getfield 37, 3) := by decide +kernel
theorem dM_prove_92 : decode cM_prove 92 = .ok (.aload_n 0, 1) := by decide +kernel
theorem dM_prove_93 : decode cM_prove 93 = .ok (.getfield 47, 3) := by decide +kernel
theorem dM_prove_96 : decode cM_prove 96 = .ok (.invokevirtual 119, 3) := by decide +kernel
theorem dM_prove_99 : decode cM_prove 99 = .ok (.aload_n 0, 1) := by decide +kernel
theorem dM_prove_100 : decode cM_prove 100 = .ok (.getfield 19, 3) := by decide +kernel
theorem dM_prove_103 : decode cM_prove 103 = .ok (.aload_n 0, 1) := by decide +kernel
theorem dM_prove_104 : decode cM_prove 104 = .ok (.getfield 44, 3) := by decide +kernel
theorem dM_prove_107 : decode cM_prove 107 = .ok (.aload_n 0, 1) := by decide +kernel
theorem dM_prove_108 : decode cM_prove 108 = .ok (.getfield 50, 3) := by decide +kernel
theorem dM_prove_111 : decode cM_prove 111 = .ok (.invokevirtual 123, 3) := by decide +kernel
theorem dM_prove_114 : decode cM_prove 114 = .ok (.aload_n 0, 1) := by decide +kernel
theorem dM_prove_115 : decode cM_prove 115 = .ok (.getfield 19, 3) := by decide +kernel
theorem dM_prove_118 : decode cM_prove 118 = .ok (.aload_n 0, 1) := by decide +kernel
theorem dM_prove_119 : decode cM_prove 119 = .ok (.getfield 47, 3) := by decide +kernel
theorem dM_prove_122 : decode cM_prove 122 = .ok (.aload_n 0, 1) := by decide +kernel
theorem dM_prove_123 : decode cM_prove 123 = .ok (.getfield 53, 3) := by decide +kernel
theorem dM_prove_126 : decode cM_prove 126 = .ok (.invokevirtual 123, 3) := by decide +kernel
theorem dM_prove_129 : decode cM_prove 129 = .ok (.aload_n 0, 1) := by decide +kernel
theorem dM_prove_130 : decode cM_prove 130 = .ok (.getfield 33, 3) := by decide +kernel
theorem dM_prove_133 : decode cM_prove 133 = .ok (.aload_n 0, 1) := by decide +kernel
theorem dM_prove_134 : decode cM_prove 134 = .ok (.getfield 50, 3) := by decide +kernel
theorem dM_prove_137 : decode cM_prove 137 = .ok (.aload_n 0, 1) := by decide +kernel
theorem dM_prove_138 : decode cM_prove 138 = .ok (.getfield 53, 3) := by decide +kernel
theorem dM_prove_141 : decode cM_prove 141 = .ok (.aload_n 0, 1) := by decide +kernel
theorem dM_prove_142 : decode cM_prove 142 = .ok (.getfield 19, 3) := by decide +kernel
theorem dM_prove_145 : decode cM_prove 145 = .ok (.invokevirtual 112, 3) := by decide +kernel
theorem dM_prove_148 : decode cM_prove 148 = .ok (.invokevirtual 127, 3) := by decide +kernel
theorem dM_prove_151 : decode cM_prove 151 = .ok (.aload_n 0, 1) := by decide +kernel
theorem dM_prove_152 : decode cM_prove 152 = .ok (.iload_n 1, 1) := by decide +kernel
theorem dM_prove_153 : decode cM_prove 153 = .ok (.iload_n 2, 1) := by decide +kernel
theorem dM_prove_154 : decode cM_prove 154 = .ok (.invokevirtual 131, 3) := by decide +kernel
theorem dM_prove_157 : decode cM_prove 157 = .ok (.iconst 1, 1) := by decide +kernel
theorem dM_prove_158 : decode cM_prove 158 = .ok (.ireturn, 1) := by decide +kernel
theorem dM_publics_0 : decode cM_publics 0 = .ok (.iload_n 1, 1) := by decide +kernel
theorem dM_publics_1 : decode cM_publics 1 = .ok (.bipush 7, 2) := by decide +kernel
theorem dM_publics_3 : decode cM_publics 3 = .ok (.invokestatic 56, 3) := by decide +kernel
theorem dM_publics_6 : decode cM_publics 6 = .ok (.ifCond .ne 11, 3) := by decide +kernel
theorem dM_publics_9 : decode cM_publics 9 = .ok (.new 61, 3) := by decide +kernel
theorem dM_publics_12 : decode cM_publics 12 = .ok (.dup, 1) := by decide +kernel
theorem dM_publics_13 : decode cM_publics 13 = .ok (.invokespecial 63, 3) := by decide +kernel
theorem dM_publics_16 : decode cM_publics 16 = .ok (.athrow, 1) := by decide +kernel
theorem dM_publics_17 : decode cM_publics 17 = .ok (.aload_n 0, 1) := by decide +kernel
theorem dM_publics_18 : decode cM_publics 18 = .ok (.iload_n 1, 1) := by decide +kernel
theorem dM_publics_19 : decode cM_publics 19 = .ok (.putfield 85, 3) := by decide +kernel
theorem dM_publics_22 : decode cM_publics 22 = .ok (.aload_n 0, 1) := by decide +kernel
theorem dM_publics_23 : decode cM_publics 23 = .ok (.getfield 26, 3) := by decide +kernel
theorem dM_publics_26 : decode cM_publics 26 = .ok (.invokevirtual 82, 3) := by decide +kernel
theorem dM_publics_29 : decode cM_publics 29 = .ok (.iconst 1, 1) := by decide +kernel
theorem dM_publics_30 : decode cM_publics 30 = .ok (.ireturn, 1) := by decide +kernel
theorem dM_quotient_0 : decode cM_quotient 0 = .ok (.aload_n 0, 1) := by decide +kernel
theorem dM_quotient_1 : decode cM_quotient 1 = .ok (.getfield 33, 3) := by decide +kernel
theorem dM_quotient_4 : decode cM_quotient 4 = .ok (.invokevirtual 176, 3) := by decide +kernel
theorem dM_quotient_7 : decode cM_quotient 7 = .ok (.ifCond .eq 23, 3) := by decide +kernel
theorem dM_quotient_10 : decode cM_quotient 10 = .ok (.iload_n 1, 1) := by decide +kernel
theorem dM_quotient_11 : decode cM_quotient 11 = .ok (.bipush 16, 2) := by decide +kernel
theorem dM_quotient_13 : decode cM_quotient 13 = .ok (.invokestatic 56, 3) := by decide +kernel
theorem dM_quotient_16 : decode cM_quotient 16 = .ok (.ifCond .eq 14, 3) := by decide +kernel
theorem dM_quotient_19 : decode cM_quotient 19 = .ok (.aload_n 0, 1) := by decide +kernel
theorem dM_quotient_20 : decode cM_quotient 20 = .ok (.getfield 33, 3) := by decide +kernel
theorem dM_quotient_23 : decode cM_quotient 23 = .ok (.iload_n 1, 1) := by decide +kernel
theorem dM_quotient_24 : decode cM_quotient 24 = .ok (.invokevirtual 189, 3) := by decide +kernel
theorem dM_quotient_27 : decode cM_quotient 27 = .ok (.goto 4, 3) := by decide +kernel
theorem dM_quotient_30 : decode cM_quotient 30 = .ok (.iconst (-1), 1) := by decide +kernel
theorem dM_quotient_31 : decode cM_quotient 31 = .ok (.ireturn, 1) := by decide +kernel
theorem dM_setup_0 : decode cM_setup 0 = .ok (.iload_n 1, 1) := by decide +kernel
theorem dM_setup_1 : decode cM_setup 1 = .ok (.invokestatic 93, 3) := by decide +kernel
theorem dM_setup_4 : decode cM_setup 4 = .ok (.ifCond .eq 33, 3) := by decide +kernel
theorem dM_setup_7 : decode cM_setup 7 = .ok (.iload_n 2, 1) := by decide +kernel
theorem dM_setup_8 : decode cM_setup 8 = .ok (.invokestatic 93, 3) := by decide +kernel
theorem dM_setup_11 : decode cM_setup 11 = .ok (.ifCond .eq 26, 3) := by decide +kernel
theorem dM_setup_14 : decode cM_setup 14 = .ok (.iload_n 3, 1) := by decide +kernel
theorem dM_setup_15 : decode cM_setup 15 = .ok (.invokestatic 93, 3) := by decide +kernel
theorem dM_setup_18 : decode cM_setup 18 = .ok (.ifCond .eq 19, 3) := by decide +kernel
theorem dM_setup_21 : decode cM_setup 21 = .ok (.iload 4, 2) := by decide +kernel
theorem dM_setup_23 : decode cM_setup 23 = .ok (.invokestatic 93, 3) := by decide +kernel
theorem dM_setup_26 : decode cM_setup 26 = .ok (.ifCond .eq 11, 3) := by decide +kernel
theorem dM_setup_29 : decode cM_setup 29 = .ok (.iload 5, 2) := by decide +kernel
theorem dM_setup_31 : decode cM_setup 31 = .ok (.invokestatic 93, 3) := by decide +kernel
theorem dM_setup_34 : decode cM_setup 34 = .ok (.ifCond .ne 11, 3) := by decide +kernel
theorem dM_setup_37 : decode cM_setup 37 = .ok (.new 61, 3) := by decide +kernel
theorem dM_setup_40 : decode cM_setup 40 = .ok (.dup, 1) := by decide +kernel
theorem dM_setup_41 : decode cM_setup 41 = .ok (.invokespecial 63, 3) := by decide +kernel
theorem dM_setup_44 : decode cM_setup 44 = .ok (.athrow, 1) := by decide +kernel
theorem dM_setup_45 : decode cM_setup 45 = .ok (.aload_n 0, 1) := by decide +kernel
theorem dM_setup_46 : decode cM_setup 46 = .ok (.getfield 19, 3) := by decide +kernel
theorem dM_setup_49 : decode cM_setup 49 = .ok (.iload_n 1, 1) := by decide +kernel
theorem dM_setup_50 : decode cM_setup 50 = .ok (.invokevirtual 97, 3) := by decide +kernel
theorem dM_setup_53 : decode cM_setup 53 = .ok (.ifCond .ne 11, 3) := by decide +kernel
theorem dM_setup_56 : decode cM_setup 56 = .ok (.new 101, 3) := by decide +kernel
theorem dM_setup_59 : decode cM_setup 59 = .ok (.dup, 1) := by decide +kernel
theorem dM_setup_60 : decode cM_setup 60 = .ok (.invokespecial 103, 3) := by decide +kernel
theorem dM_setup_63 : decode cM_setup 63 = .ok (.athrow, 1) := by decide +kernel
theorem dM_setup_64 : decode cM_setup 64 = .ok (.aload_n 0, 1) := by decide +kernel
theorem dM_setup_65 : decode cM_setup 65 = .ok (.getfield 26, 3) := by decide +kernel
theorem dM_setup_68 : decode cM_setup 68 = .ok (.iload_n 1, 1) := by decide +kernel
theorem dM_setup_69 : decode cM_setup 69 = .ok (.iload_n 2, 1) := by decide +kernel
theorem dM_setup_70 : decode cM_setup 70 = .ok (.iload_n 3, 1) := by decide +kernel
theorem dM_setup_71 : decode cM_setup 71 = .ok (.iload 4, 2) := by decide +kernel
theorem dM_setup_73 : decode cM_setup 73 = .ok (.iload 5, 2) := by decide +kernel
theorem dM_setup_75 : decode cM_setup 75 = .ok (.invokevirtual 104, 3) := by decide +kernel
theorem dM_setup_78 : decode cM_setup 78 = .ok (.aload_n 0, 1) := by decide +kernel
theorem dM_setup_79 : decode cM_setup 79 = .ok (.getfield 26, 3) := by decide +kernel
theorem dM_setup_82 : decode cM_setup 82 = .ok (.aload_n 0, 1) := by decide +kernel
theorem dM_setup_83 : decode cM_setup 83 = .ok (.getfield 10, 3) := by decide +kernel
theorem dM_setup_86 : decode cM_setup 86 = .ok (.aload_n 0, 1) := by decide +kernel
theorem dM_setup_87 : decode cM_setup 87 = .ok (.getfield 19, 3) := by decide +kernel
theorem dM_setup_90 : decode cM_setup 90 = .ok (.invokevirtual 108, 3) := by decide +kernel
theorem dM_setup_93 : decode cM_setup 93 = .ok (.aload_n 0, 1) := by decide +kernel
theorem dM_setup_94 : decode cM_setup 94 = .ok (.getfield 19, 3) := by decide +kernel
theorem dM_setup_97 : decode cM_setup 97 = .ok (.invokevirtual 112, 3) := by decide +kernel
theorem dM_setup_100 : decode cM_setup 100 = .ok (.ireturn, 1) := by decide +kernel
theorem dM_term_0 : decode cM_term 0 = .ok (.iload_n 1, 1) := by decide +kernel
theorem dM_term_1 : decode cM_term 1 = .ok (.iconst 3, 1) := by decide +kernel
theorem dM_term_2 : decode cM_term 2 = .ok (.invokestatic 56, 3) := by decide +kernel
theorem dM_term_5 : decode cM_term 5 = .ok (.ifCond .eq 21, 3) := by decide +kernel
theorem dM_term_8 : decode cM_term 8 = .ok (.iload_n 2, 1) := by decide +kernel
theorem dM_term_9 : decode cM_term 9 = .ok (.bipush 16, 2) := by decide +kernel
theorem dM_term_11 : decode cM_term 11 = .ok (.invokestatic 56, 3) := by decide +kernel
theorem dM_term_14 : decode cM_term 14 = .ok (.ifCond .eq 12, 3) := by decide +kernel
theorem dM_term_17 : decode cM_term 17 = .ok (.iload_n 3, 1) := by decide +kernel
theorem dM_term_18 : decode cM_term 18 = .ok (.ldc 60, 2) := by decide +kernel
theorem dM_term_20 : decode cM_term 20 = .ok (.invokestatic 56, 3) := by decide +kernel
theorem dM_term_23 : decode cM_term 23 = .ok (.ifCond .ne 11, 3) := by decide +kernel
theorem dM_term_26 : decode cM_term 26 = .ok (.new 61, 3) := by decide +kernel
theorem dM_term_29 : decode cM_term 29 = .ok (.dup, 1) := by decide +kernel
theorem dM_term_30 : decode cM_term 30 = .ok (.invokespecial 63, 3) := by decide +kernel
theorem dM_term_33 : decode cM_term 33 = .ok (.athrow, 1) := by decide +kernel
theorem dM_term_34 : decode cM_term 34 = .ok (.aload_n 0, 1) := by decide +kernel
theorem dM_term_35 : decode cM_term 35 = .ok (.getfield 10, 3) := by decide +kernel
theorem dM_term_38 : decode cM_term 38 = .ok (.iload_n 1, 1) := by decide +kernel
theorem dM_term_39 : decode cM_term 39 = .ok (.iload_n 2, 1) := by decide +kernel
theorem dM_term_40 : decode cM_term 40 = .ok (.iload_n 3, 1) := by decide +kernel
theorem dM_term_41 : decode cM_term 41 = .ok (.invokevirtual 64, 3) := by decide +kernel
theorem dM_term_44 : decode cM_term 44 = .ok (.ireturn, 1) := by decide +kernel
theorem dM_value_0 : decode cM_value 0 = .ok (.iload_n 1, 1) := by decide +kernel
theorem dM_value_1 : decode cM_value 1 = .ok (.ifCond .eq 21, 3) := by decide +kernel
theorem dM_value_4 : decode cM_value 4 = .ok (.iload_n 1, 1) := by decide +kernel
theorem dM_value_5 : decode cM_value 5 = .ok (.bipush 16, 2) := by decide +kernel
theorem dM_value_7 : decode cM_value 7 = .ok (.invokestatic 56, 3) := by decide +kernel
theorem dM_value_10 : decode cM_value 10 = .ok (.ifCond .eq 12, 3) := by decide +kernel
theorem dM_value_13 : decode cM_value 13 = .ok (.iload_n 2, 1) := by decide +kernel
theorem dM_value_14 : decode cM_value 14 = .ok (.ldc 60, 2) := by decide +kernel
theorem dM_value_16 : decode cM_value 16 = .ok (.invokestatic 56, 3) := by decide +kernel
theorem dM_value_19 : decode cM_value 19 = .ok (.ifCond .ne 11, 3) := by decide +kernel
theorem dM_value_22 : decode cM_value 22 = .ok (.new 61, 3) := by decide +kernel
theorem dM_value_25 : decode cM_value 25 = .ok (.dup, 1) := by decide +kernel
theorem dM_value_26 : decode cM_value 26 = .ok (.invokespecial 63, 3) := by decide +kernel
theorem dM_value_29 : decode cM_value 29 = .ok (.athrow, 1) := by decide +kernel
theorem dM_value_30 : decode cM_value 30 = .ok (.aload_n 0, 1) := by decide +kernel
theorem dM_value_31 : decode cM_value 31 = .ok (.getfield 37, 3) := by decide +kernel
theorem dM_value_34 : decode cM_value 34 = .ok (.iload_n 1, 1) := by decide +kernel
theorem dM_value_35 : decode cM_value 35 = .ok (.iload_n 2, 1) := by decide +kernel
theorem dM_value_36 : decode cM_value 36 = .ok (.iastore, 1) := by decide +kernel
theorem dM_value_37 : decode cM_value 37 = .ok (.iconst 1, 1) := by decide +kernel
theorem dM_value_38 : decode cM_value 38 = .ok (.ireturn, 1) := by decide +kernel
theorem dM_verify_0 : decode cM_verify 0 = .ok (.aload_n 0, 1) := by decide +kernel
theorem dM_verify_1 : decode cM_verify 1 = .ok (.getfield 26, 3) := by decide +kernel
theorem dM_verify_4 : decode cM_verify 4 = .ok (.invokevirtual 115, 3) := by decide +kernel
theorem dM_verify_7 : decode cM_verify 7 = .ok (.ifCond .eq 13, 3) := by decide +kernel
theorem dM_verify_10 : decode cM_verify 10 = .ok (.aload_n 0, 1) := by decide +kernel
theorem dM_verify_11 : decode cM_verify 11 = .ok (.getfield 33, 3) := by decide +kernel
theorem dM_verify_14 : decode cM_verify 14 = .ok (.invokevirtual 176, 3) := by decide +kernel
theorem dM_verify_17 : decode cM_verify 17 = .ok (.ifCond .ne 11, 3) := by decide +kernel
theorem dM_verify_20 : decode cM_verify 20 = .ok (.new 72, 3) := by decide +kernel
theorem dM_verify_23 : decode cM_verify 23 = .ok (.dup, 1) := by decide +kernel
theorem dM_verify_24 : decode cM_verify 24 = .ok (.invokespecial 74, 3) := by decide +kernel
theorem dM_verify_27 : decode cM_verify 27 = .ok (.athrow, 1) := by decide +kernel
theorem dM_verify_28 : decode cM_verify 28 = .ok (.aload_n 0, 1) := by decide +kernel
theorem dM_verify_29 : decode cM_verify 29 = .ok (.getfield 33, 3) := by decide +kernel
theorem dM_verify_32 : decode cM_verify 32 = .ok (.iconst 0, 1) := by decide +kernel
theorem dM_verify_33 : decode cM_verify 33 = .ok (.invokevirtual 180, 3) := by decide +kernel
theorem dM_verify_36 : decode cM_verify 36 = .ok (.aload_n 0, 1) := by decide +kernel
theorem dM_verify_37 : decode cM_verify 37 = .ok (.getfield 33, 3) := by decide +kernel
theorem dM_verify_40 : decode cM_verify 40 = .ok (.iconst 1, 1) := by decide +kernel
theorem dM_verify_41 : decode cM_verify 41 = .ok (.invokevirtual 180, 3) := by decide +kernel
theorem dM_verify_44 : decode cM_verify 44 = .ok (.invokestatic 141, 3) := by decide +kernel
theorem dM_verify_47 : decode cM_verify 47 = .ok (.istore_n 1, 1) := by decide +kernel
theorem dM_verify_48 : decode cM_verify 48 = .ok (.aload_n 0, 1) := by decide +kernel
theorem dM_verify_49 : decode cM_verify 49 = .ok (.getfield 26, 3) := by decide +kernel
theorem dM_verify_52 : decode cM_verify 52 = .ok (.invokevirtual 183, 3) := by decide +kernel
theorem dM_verify_55 : decode cM_verify 55 = .ok (.aload_n 0, 1) := by decide +kernel
theorem dM_verify_56 : decode cM_verify 56 = .ok (.getfield 26, 3) := by decide +kernel
theorem dM_verify_59 : decode cM_verify 59 = .ok (.invokevirtual 186, 3) := by decide +kernel
theorem dM_verify_62 : decode cM_verify 62 = .ok (.invokestatic 141, 3) := by decide +kernel
theorem dM_verify_65 : decode cM_verify 65 = .ok (.aload_n 0, 1) := by decide +kernel
theorem dM_verify_66 : decode cM_verify 66 = .ok (.getfield 26, 3) := by decide +kernel
theorem dM_verify_69 : decode cM_verify 69 = .ok (.aload_n 0, 1) := by decide +kernel
theorem dM_verify_70 : decode cM_verify 70 = .ok (.getfield 41, 3) := by decide +kernel
theorem dM_verify_73 : decode cM_verify 73 = .ok (.iconst 0, 1) := by decide +kernel
theorem dM_verify_74 : decode cM_verify 74 = .ok (.aload_n 0, 1) := by decide +kernel
theorem dM_verify_75 : decode cM_verify 75 = .ok (.getfield 85, 3) := by decide +kernel
theorem dM_verify_78 : decode cM_verify 78 = .ok (.invokevirtual 153, 3) := by decide +kernel
theorem dM_verify_81 : decode cM_verify 81 = .ok (.invokestatic 147, 3) := by decide +kernel
theorem dM_verify_84 : decode cM_verify 84 = .ok (.istore_n 2, 1) := by decide +kernel
theorem dM_verify_85 : decode cM_verify 85 = .ok (.iload_n 1, 1) := by decide +kernel
theorem dM_verify_86 : decode cM_verify 86 = .ok (.iload_n 2, 1) := by decide +kernel
theorem dM_verify_87 : decode cM_verify 87 = .ok (.aload_n 0, 1) := by decide +kernel
theorem dM_verify_88 : decode cM_verify 88 = .ok (.getfield 33, 3) := by decide +kernel
theorem dM_verify_91 : decode cM_verify 91 = .ok (.iconst 2, 1) := by decide +kernel
theorem dM_verify_92 : decode cM_verify 92 = .ok (.invokevirtual 180, 3) := by decide +kernel
theorem dM_verify_95 : decode cM_verify 95 = .ok (.aload_n 0, 1) := by decide +kernel
theorem dM_verify_96 : decode cM_verify 96 = .ok (.getfield 26, 3) := by decide +kernel
theorem dM_verify_99 : decode cM_verify 99 = .ok (.invokevirtual 135, 3) := by decide +kernel
theorem dM_verify_102 : decode cM_verify 102 = .ok (.invokestatic 141, 3) := by decide +kernel
theorem dM_verify_105 : decode cM_verify 105 = .ok (.invokestatic 147, 3) := by decide +kernel
theorem dM_verify_108 : decode cM_verify 108 = .ok (.if_icmp .ne 7, 3) := by decide +kernel
theorem dM_verify_111 : decode cM_verify 111 = .ok (.iconst 1, 1) := by decide +kernel
theorem dM_verify_112 : decode cM_verify 112 = .ok (.goto 4, 3) := by decide +kernel
theorem dM_verify_115 : decode cM_verify 115 = .ok (.iconst 0, 1) := by decide +kernel
theorem dM_verify_116 : decode cM_verify 116 = .ok (.ireturn, 1) := by decide +kernel
