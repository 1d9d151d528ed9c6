theorem dC_init_0 : decode cC_init 0 = .ok (.aload_n 0, 1) := by decide +kernel
theorem dC_init_1 : decode cC_init 1 = .ok (.invokespecial 3, 3) := by decide +kernel
theorem dC_init_4 : decode cC_init 4 = .ok (.aload_n 0, 1) := by decide +kernel
theorem dC_init_5 : decode cC_init 5 = .ok (.sipush 816, 3) := by decide +kernel
theorem dC_init_8 : decode cC_init 8 = .ok (.newarray .int, 2) := by decide +kernel
theorem dC_init_10 : decode cC_init 10 = .ok (.putfield 9, 3) := by decide +kernel
theorem dC_init_13 : decode cC_init 13 = .ok (.aload_n 0, 1) := by decide +kernel
theorem dC_init_14 : decode cC_init 14 = .ok (.iconst 0, 1) := by decide +kernel
theorem dC_init_15 : decode cC_init 15 = .ok (.putfield 15, 3) := by decide +kernel
theorem dC_init_18 : decode cC_init 18 = .ok (.return_, 1) := by decide +kernel
theorem dC_closeDraft_0 : decode cC_closeDraft 0 = .ok (.aload_n 0, 1) := by decide +kernel
theorem dC_closeDraft_1 : decode cC_closeDraft 1 = .ok (.getfield 15, 3) := by decide +kernel
theorem dC_closeDraft_4 : decode cC_closeDraft 4 = .ok (.istore_n 1, 1) := by decide +kernel
theorem dC_closeDraft_5 : decode cC_closeDraft 5 = .ok (.aload_n 0, 1) := by decide +kernel
theorem dC_closeDraft_6 : decode cC_closeDraft 6 = .ok (.iload_n 1, 1) := by decide +kernel
theorem dC_closeDraft_7 : decode cC_closeDraft 7 = .ok (.iconst 1, 1) := by decide +kernel
theorem dC_closeDraft_8 : decode cC_closeDraft 8 = .ok (.iadd, 1) := by decide +kernel
theorem dC_closeDraft_9 : decode cC_closeDraft 9 = .ok (.putfield 15, 3) := by decide +kernel
theorem dC_closeDraft_12 : decode cC_closeDraft 12 = .ok (.iload_n 1, 1) := by decide +kernel
theorem dC_closeDraft_13 : decode cC_closeDraft 13 = .ok (.ireturn, 1) := by decide +kernel
theorem dC_column_0 : decode cC_column 0 = .ok (.iconst 0, 1) := by decide +kernel
theorem dC_column_1 : decode cC_column 1 = .ok (.istore 4, 2) := by decide +kernel
theorem dC_column_3 : decode cC_column 3 = .ok (.iload 4, 2) := by decide +kernel
theorem dC_column_5 : decode cC_column 5 = .ok (.bipush 16, 2) := by decide +kernel
theorem dC_column_7 : decode cC_column 7 = .ok (.if_icmp .ge 39, 3) := by decide +kernel
theorem dC_column_10 : decode cC_column 10 = .ok (.aload_n 3, 1) := by decide +kernel
theorem dC_column_11 : decode cC_column 11 = .ok (.iload 4, 2) := by decide +kernel
theorem dC_column_13 : decode cC_column 13 = .ok (.iload 4, 2) := by decide +kernel
theorem dC_column_15 : decode cC_column 15 = .ok (.aload_n 0, 1) := by decide +kernel
theorem dC_column_16 : decode cC_column 16 = .ok (.getfield 15, 3) := by decide +kernel
theorem dC_column_19 : decode cC_column 19 = .ok (.if_icmp .ge 19, 3) := by decide +kernel
theorem dC_column_22 : decode cC_column 22 = .ok (.aload_n 0, 1) := by decide +kernel
theorem dC_column_23 : decode cC_column 23 = .ok (.getfield 9, 3) := by decide +kernel
theorem dC_column_26 : decode cC_column 26 = .ok (.iload 4, 2) := by decide +kernel
theorem dC_column_28 : decode cC_column 28 = .ok (.iload_n 1, 1) := by decide +kernel
theorem dC_column_29 : decode cC_column 29 = .ok (.invokestatic 19, 3) := by decide +kernel
theorem dC_column_32 : decode cC_column 32 = .ok (.iload_n 2, 1) := by decide +kernel
theorem dC_column_33 : decode cC_column 33 = .ok (.iadd, 1) := by decide +kernel
theorem dC_column_34 : decode cC_column 34 = .ok (.iaload, 1) := by decide +kernel
theorem dC_column_35 : decode cC_column 35 = .ok (.goto 4, 3) := by decide +kernel
theorem dC_column_38 : decode cC_column 38 = .ok (.iconst 0, 1) := by decide +kernel
theorem dC_column_39 : decode cC_column 39 = .ok (.iastore, 1) := by decide +kernel
theorem dC_column_40 : decode cC_column 40 = .ok (.iinc 4 1, 3) := by decide +kernel
theorem dC_column_43 : decode cC_column 43 = .ok (.goto (-40), 3) := by decide +kernel
theorem dC_column_46 : decode cC_column 46 = .ok (.return_, 1) := by decide +kernel
theorem dC_columnAt_0 : decode cC_columnAt 0 = .ok (.iconst 0, 1) := by decide +kernel
theorem dC_columnAt_1 : decode cC_columnAt 1 = .ok (.istore 4, 2) := by decide +kernel
theorem dC_columnAt_3 : decode cC_columnAt 3 = .ok (.iconst 0, 1) := by decide +kernel
theorem dC_columnAt_4 : decode cC_columnAt 4 = .ok (.istore 5, 2) := by decide +kernel
theorem dC_columnAt_6 : decode cC_columnAt 6 = .ok (.iload 5, 2) := by decide +kernel
theorem dC_columnAt_8 : decode cC_columnAt 8 = .ok (.aload_n 0, 1) := by decide +kernel
theorem dC_columnAt_9 : decode cC_columnAt 9 = .ok (.getfield 15, 3) := by decide +kernel
theorem dC_columnAt_12 : decode cC_columnAt 12 = .ok (.if_icmp .ge 36, 3) := by decide +kernel
theorem dC_columnAt_15 : decode cC_columnAt 15 = .ok (.iload 4, 2) := by decide +kernel
theorem dC_columnAt_17 : decode cC_columnAt 17 = .ok (.aload_n 0, 1) := by decide +kernel
theorem dC_columnAt_18 : decode cC_columnAt 18 = .ok (.getfield 9, 3) := by decide +kernel
theorem dC_columnAt_21 : decode cC_columnAt 21 = .ok (.iload 5, 2) := by decide +kernel
theorem dC_columnAt_23 : decode cC_columnAt 23 = .ok (.iload_n 1, 1) := by decide +kernel
theorem dC_columnAt_24 : decode cC_columnAt 24 = .ok (.invokestatic 19, 3) := by decide +kernel
theorem dC_columnAt_27 : decode cC_columnAt 27 = .ok (.iload_n 2, 1) := by decide +kernel
theorem dC_columnAt_28 : decode cC_columnAt 28 = .ok (.iadd, 1) := by decide +kernel
theorem dC_columnAt_29 : decode cC_columnAt 29 = .ok (.iaload, 1) := by decide +kernel
theorem dC_columnAt_30 : decode cC_columnAt 30 = .ok (.aload_n 3, 1) := by decide +kernel
theorem dC_columnAt_31 : decode cC_columnAt 31 = .ok (.iload 5, 2) := by decide +kernel
theorem dC_columnAt_33 : decode cC_columnAt 33 = .ok (.iaload, 1) := by decide +kernel
theorem dC_columnAt_34 : decode cC_columnAt 34 = .ok (.invokestatic 32, 3) := by decide +kernel
theorem dC_columnAt_37 : decode cC_columnAt 37 = .ok (.invokestatic 23, 3) := by decide +kernel
theorem dC_columnAt_40 : decode cC_columnAt 40 = .ok (.istore 4, 2) := by decide +kernel
theorem dC_columnAt_42 : decode cC_columnAt 42 = .ok (.iinc 5 1, 3) := by decide +kernel
theorem dC_columnAt_45 : decode cC_columnAt 45 = .ok (.goto (-39), 3) := by decide +kernel
theorem dC_columnAt_48 : decode cC_columnAt 48 = .ok (.iload 4, 2) := by decide +kernel
theorem dC_columnAt_50 : decode cC_columnAt 50 = .ok (.ireturn, 1) := by decide +kernel
theorem dC_count_0 : decode cC_count 0 = .ok (.aload_n 0, 1) := by decide +kernel
theorem dC_count_1 : decode cC_count 1 = .ok (.getfield 15, 3) := by decide +kernel
theorem dC_count_4 : decode cC_count 4 = .ok (.ireturn, 1) := by decide +kernel
theorem dC_firstOpen_0 : decode cC_firstOpen 0 = .ok (.iconst 0, 1) := by decide +kernel
theorem dC_firstOpen_1 : decode cC_firstOpen 1 = .ok (.istore_n 2, 1) := by decide +kernel
theorem dC_firstOpen_2 : decode cC_firstOpen 2 = .ok (.iload_n 2, 1) := by decide +kernel
theorem dC_firstOpen_3 : decode cC_firstOpen 3 = .ok (.aload_n 0, 1) := by decide +kernel
theorem dC_firstOpen_4 : decode cC_firstOpen 4 = .ok (.getfield 15, 3) := by decide +kernel
theorem dC_firstOpen_7 : decode cC_firstOpen 7 = .ok (.if_icmp .ge 40, 3) := by decide +kernel
theorem dC_firstOpen_10 : decode cC_firstOpen 10 = .ok (.aload_n 0, 1) := by decide +kernel
theorem dC_firstOpen_11 : decode cC_firstOpen 11 = .ok (.iload_n 2, 1) := by decide +kernel
theorem dC_firstOpen_12 : decode cC_firstOpen 12 = .ok (.iconst 0, 1) := by decide +kernel
theorem dC_firstOpen_13 : decode cC_firstOpen 13 = .ok (.aload_n 1, 1) := by decide +kernel
theorem dC_firstOpen_14 : decode cC_firstOpen 14 = .ok (.invokevirtual 28, 3) := by decide +kernel
theorem dC_firstOpen_17 : decode cC_firstOpen 17 = .ok (.aload_n 0, 1) := by decide +kernel
theorem dC_firstOpen_18 : decode cC_firstOpen 18 = .ok (.iload_n 2, 1) := by decide +kernel
theorem dC_firstOpen_19 : decode cC_firstOpen 19 = .ok (.iconst 1, 1) := by decide +kernel
theorem dC_firstOpen_20 : decode cC_firstOpen 20 = .ok (.aload_n 1, 1) := by decide +kernel
theorem dC_firstOpen_21 : decode cC_firstOpen 21 = .ok (.invokevirtual 28, 3) := by decide +kernel
theorem dC_firstOpen_24 : decode cC_firstOpen 24 = .ok (.invokestatic 32, 3) := by decide +kernel
theorem dC_firstOpen_27 : decode cC_firstOpen 27 = .ok (.istore_n 3, 1) := by decide +kernel
theorem dC_firstOpen_28 : decode cC_firstOpen 28 = .ok (.iload_n 3, 1) := by decide +kernel
theorem dC_firstOpen_29 : decode cC_firstOpen 29 = .ok (.aload_n 0, 1) := by decide +kernel
theorem dC_firstOpen_30 : decode cC_firstOpen 30 = .ok (.iload_n 2, 1) := by decide +kernel
theorem dC_firstOpen_31 : decode cC_firstOpen 31 = .ok (.iconst 2, 1) := by decide +kernel
theorem dC_firstOpen_32 : decode cC_firstOpen 32 = .ok (.aload_n 1, 1) := by decide +kernel
theorem dC_firstOpen_33 : decode cC_firstOpen 33 = .ok (.invokevirtual 28, 3) := by decide +kernel
theorem dC_firstOpen_36 : decode cC_firstOpen 36 = .ok (.if_icmp .eq 5, 3) := by decide +kernel
theorem dC_firstOpen_39 : decode cC_firstOpen 39 = .ok (.iload_n 2, 1) := by decide +kernel
theorem dC_firstOpen_40 : decode cC_firstOpen 40 = .ok (.ireturn, 1) := by decide +kernel
theorem dC_firstOpen_41 : decode cC_firstOpen 41 = .ok (.iinc 2 1, 3) := by decide +kernel
theorem dC_firstOpen_44 : decode cC_firstOpen 44 = .ok (.goto (-42), 3) := by decide +kernel
theorem dC_firstOpen_47 : decode cC_firstOpen 47 = .ok (.iconst (-1), 1) := by decide +kernel
theorem dC_firstOpen_48 : decode cC_firstOpen 48 = .ok (.ireturn, 1) := by decide +kernel
theorem dC_growDraft_0 : decode cC_growDraft 0 = .ok (.aload_n 0, 1) := by decide +kernel
theorem dC_growDraft_1 : decode cC_growDraft 1 = .ok (.getfield 15, 3) := by decide +kernel
theorem dC_growDraft_4 : decode cC_growDraft 4 = .ok (.iload_n 1, 1) := by decide +kernel
theorem dC_growDraft_5 : decode cC_growDraft 5 = .ok (.invokestatic 19, 3) := by decide +kernel
theorem dC_growDraft_8 : decode cC_growDraft 8 = .ok (.iload_n 2, 1) := by decide +kernel
theorem dC_growDraft_9 : decode cC_growDraft 9 = .ok (.iadd, 1) := by decide +kernel
theorem dC_growDraft_10 : decode cC_growDraft 10 = .ok (.istore 4, 2) := by decide +kernel
theorem dC_growDraft_12 : decode cC_growDraft 12 = .ok (.aload_n 0, 1) := by decide +kernel
theorem dC_growDraft_13 : decode cC_growDraft 13 = .ok (.getfield 9, 3) := by decide +kernel
theorem dC_growDraft_16 : decode cC_growDraft 16 = .ok (.iload 4, 2) := by decide +kernel
theorem dC_growDraft_18 : decode cC_growDraft 18 = .ok (.aload_n 0, 1) := by decide +kernel
theorem dC_growDraft_19 : decode cC_growDraft 19 = .ok (.getfield 9, 3) := by decide +kernel
theorem dC_growDraft_22 : decode cC_growDraft 22 = .ok (.iload 4, 2) := by decide +kernel
theorem dC_growDraft_24 : decode cC_growDraft 24 = .ok (.iaload, 1) := by decide +kernel
theorem dC_growDraft_25 : decode cC_growDraft 25 = .ok (.iload_n 3, 1) := by decide +kernel
theorem dC_growDraft_26 : decode cC_growDraft 26 = .ok (.invokestatic 23, 3) := by decide +kernel
theorem dC_growDraft_29 : decode cC_growDraft 29 = .ok (.iastore, 1) := by decide +kernel
theorem dC_growDraft_30 : decode cC_growDraft 30 = .ok (.aload_n 0, 1) := by decide +kernel
theorem dC_growDraft_31 : decode cC_growDraft 31 = .ok (.getfield 9, 3) := by decide +kernel
theorem dC_growDraft_34 : decode cC_growDraft 34 = .ok (.iload 4, 2) := by decide +kernel
theorem dC_growDraft_36 : decode cC_growDraft 36 = .ok (.iaload, 1) := by decide +kernel
theorem dC_growDraft_37 : decode cC_growDraft 37 = .ok (.ireturn, 1) := by decide +kernel
theorem dC_rowSum_0 : decode cC_rowSum 0 = .ok (.iload_n 1, 1) := by decide +kernel
theorem dC_rowSum_1 : decode cC_rowSum 1 = .ok (.iload_n 2, 1) := by decide +kernel
theorem dC_rowSum_2 : decode cC_rowSum 2 = .ok (.invokestatic 19, 3) := by decide +kernel
theorem dC_rowSum_5 : decode cC_rowSum 5 = .ok (.istore 4, 2) := by decide +kernel
theorem dC_rowSum_7 : decode cC_rowSum 7 = .ok (.iconst 0, 1) := by decide +kernel
theorem dC_rowSum_8 : decode cC_rowSum 8 = .ok (.istore 5, 2) := by decide +kernel
theorem dC_rowSum_10 : decode cC_rowSum 10 = .ok (.iconst 0, 1) := by decide +kernel
theorem dC_rowSum_11 : decode cC_rowSum 11 = .ok (.istore 6, 2) := by decide +kernel
theorem dC_rowSum_13 : decode cC_rowSum 13 = .ok (.iload 6, 2) := by decide +kernel
theorem dC_rowSum_15 : decode cC_rowSum 15 = .ok (.bipush 16, 2) := by decide +kernel
theorem dC_rowSum_17 : decode cC_rowSum 17 = .ok (.if_icmp .ge 33, 3) := by decide +kernel
theorem dC_rowSum_20 : decode cC_rowSum 20 = .ok (.iload 5, 2) := by decide +kernel
theorem dC_rowSum_22 : decode cC_rowSum 22 = .ok (.aload_n 0, 1) := by decide +kernel
theorem dC_rowSum_23 : decode cC_rowSum 23 = .ok (.getfield 9, 3) := by decide +kernel
theorem dC_rowSum_26 : decode cC_rowSum 26 = .ok (.iload 4, 2) := by decide +kernel
theorem dC_rowSum_28 : decode cC_rowSum 28 = .ok (.iload 6, 2) := by decide +kernel
theorem dC_rowSum_30 : decode cC_rowSum 30 = .ok (.iadd, 1) := by decide +kernel
theorem dC_rowSum_31 : decode cC_rowSum 31 = .ok (.iaload, 1) := by decide +kernel
theorem dC_rowSum_32 : decode cC_rowSum 32 = .ok (.aload_n 3, 1) := by decide +kernel
theorem dC_rowSum_33 : decode cC_rowSum 33 = .ok (.iload 6, 2) := by decide +kernel
theorem dC_rowSum_35 : decode cC_rowSum 35 = .ok (.iaload, 1) := by decide +kernel
theorem dC_rowSum_36 : decode cC_rowSum 36 = .ok (.invokestatic 32, 3) := by decide +kernel
theorem dC_rowSum_39 : decode cC_rowSum 39 = .ok (.invokestatic 23, 3) := by decide +kernel
theorem dC_rowSum_42 : decode cC_rowSum 42 = .ok (.istore 5, 2) := by decide +kernel
theorem dC_rowSum_44 : decode cC_rowSum 44 = .ok (.iinc 6 1, 3) := by decide +kernel
theorem dC_rowSum_47 : decode cC_rowSum 47 = .ok (.goto (-34), 3) := by decide +kernel
theorem dC_rowSum_50 : decode cC_rowSum 50 = .ok (.iload 5, 2) := by decide +kernel
theorem dC_rowSum_52 : decode cC_rowSum 52 = .ok (.ireturn, 1) := by decide +kernel
theorem dC_rowSums_0 : decode cC_rowSums 0 = .ok (.iconst 0, 1) := by decide +kernel
theorem dC_rowSums_1 : decode cC_rowSums 1 = .ok (.istore 4, 2) := by decide +kernel
theorem dC_rowSums_3 : decode cC_rowSums 3 = .ok (.iload 4, 2) := by decide +kernel
theorem dC_rowSums_5 : decode cC_rowSums 5 = .ok (.bipush 16, 2) := by decide +kernel
theorem dC_rowSums_7 : decode cC_rowSums 7 = .ok (.if_icmp .ge 34, 3) := by decide +kernel
theorem dC_rowSums_10 : decode cC_rowSums 10 = .ok (.aload_n 3, 1) := by decide +kernel
theorem dC_rowSums_11 : decode cC_rowSums 11 = .ok (.iload 4, 2) := by decide +kernel
theorem dC_rowSums_13 : decode cC_rowSums 13 = .ok (.iload 4, 2) := by decide +kernel
theorem dC_rowSums_15 : decode cC_rowSums 15 = .ok (.aload_n 0, 1) := by decide +kernel
theorem dC_rowSums_16 : decode cC_rowSums 16 = .ok (.getfield 15, 3) := by decide +kernel
theorem dC_rowSums_19 : decode cC_rowSums 19 = .ok (.if_icmp .ge 14, 3) := by decide +kernel
theorem dC_rowSums_22 : decode cC_rowSums 22 = .ok (.aload_n 0, 1) := by decide +kernel
theorem dC_rowSums_23 : decode cC_rowSums 23 = .ok (.iload 4, 2) := by decide +kernel
theorem dC_rowSums_25 : decode cC_rowSums 25 = .ok (.iload_n 1, 1) := by decide +kernel
theorem dC_rowSums_26 : decode cC_rowSums 26 = .ok (.aload_n 2, 1) := by decide +kernel
theorem dC_rowSums_27 : decode cC_rowSums 27 = .ok (.invokevirtual 28, 3) := by decide +kernel
theorem dC_rowSums_30 : decode cC_rowSums 30 = .ok (.goto 4, 3) := by decide +kernel
theorem dC_rowSums_33 : decode cC_rowSums 33 = .ok (.iconst 0, 1) := by decide +kernel
theorem dC_rowSums_34 : decode cC_rowSums 34 = .ok (.iastore, 1) := by decide +kernel
theorem dC_rowSums_35 : decode cC_rowSums 35 = .ok (.iinc 4 1, 3) := by decide +kernel
theorem dC_rowSums_38 : decode cC_rowSums 38 = .ok (.goto (-35), 3) := by decide +kernel
theorem dC_rowSums_41 : decode cC_rowSums 41 = .ok (.return_, 1) := by decide +kernel
theorem dC_start_0 : decode cC_start 0 = .ok (.iload_n 0, 1) := by decide +kernel
theorem dC_start_1 : decode cC_start 1 = .ok (.iconst 3, 1) := by decide +kernel
theorem dC_start_2 : decode cC_start 2 = .ok (.imul, 1) := by decide +kernel
theorem dC_start_3 : decode cC_start 3 = .ok (.iload_n 1, 1) := by decide +kernel
theorem dC_start_4 : decode cC_start 4 = .ok (.iadd, 1) := by decide +kernel
theorem dC_start_5 : decode cC_start 5 = .ok (.bipush 16, 2) := by decide +kernel
theorem dC_start_7 : decode cC_start 7 = .ok (.imul, 1) := by decide +kernel
theorem dC_start_8 : decode cC_start 8 = .ok (.ireturn, 1) := by decide +kernel
theorem dD_init_0 : decode cD_init 0 = .ok (.aload_n 0, 1) := by decide +kernel
theorem dD_init_1 : decode cD_init 1 = .ok (.invokespecial 3, 3) := by decide +kernel
theorem dD_init_4 : decode cD_init 4 = .ok (.aload_n 0, 1) := by decide +kernel
theorem dD_init_5 : decode cD_init 5 = .ok (.bipush 16, 2) := by decide +kernel
theorem dD_init_7 : decode cD_init 7 = .ok (.newarray .int, 2) := by decide +kernel
theorem dD_init_9 : decode cD_init 9 = .ok (.putfield 9, 3) := by decide +kernel
theorem dD_init_12 : decode cD_init 12 = .ok (.aload_n 0, 1) := by decide +kernel
theorem dD_init_13 : decode cD_init 13 = .ok (.iconst 0, 1) := by decide +kernel
theorem dD_init_14 : decode cD_init 14 = .ok (.invokevirtual 15, 3) := by decide +kernel
theorem dD_init_17 : decode cD_init 17 = .ok (.return_, 1) := by decide +kernel
theorem dD_coefficient_0 : decode cD_coefficient 0 = .ok (.iconst 0, 1) := by decide +kernel
theorem dD_coefficient_1 : decode cD_coefficient 1 = .ok (.istore_n 3, 1) := by decide +kernel
theorem dD_coefficient_2 : decode cD_coefficient 2 = .ok (.iconst 0, 1) := by decide +kernel
theorem dD_coefficient_3 : decode cD_coefficient 3 = .ok (.istore 4, 2) := by decide +kernel
theorem dD_coefficient_5 : decode cD_coefficient 5 = .ok (.iload 4, 2) := by decide +kernel
theorem dD_coefficient_7 : decode cD_coefficient 7 = .ok (.aload_n 0, 1) := by decide +kernel
theorem dD_coefficient_8 : decode cD_coefficient 8 = .ok (.getfield 19, 3) := by decide +kernel
theorem dD_coefficient_11 : decode cD_coefficient 11 = .ok (.if_icmp .ge 37, 3) := by decide +kernel
theorem dD_coefficient_14 : decode cD_coefficient 14 = .ok (.iload_n 3, 1) := by decide +kernel
theorem dD_coefficient_15 : decode cD_coefficient 15 = .ok (.aload_n 1, 1) := by decide +kernel
theorem dD_coefficient_16 : decode cD_coefficient 16 = .ok (.iload 4, 2) := by decide +kernel
theorem dD_coefficient_18 : decode cD_coefficient 18 = .ok (.iaload, 1) := by decide +kernel
theorem dD_coefficient_19 : decode cD_coefficient 19 = .ok (.aload_n 0, 1) := by decide +kernel
theorem dD_coefficient_20 : decode cD_coefficient 20 = .ok (.getfield 9, 3) := by decide +kernel
theorem dD_coefficient_23 : decode cD_coefficient 23 = .ok (.iload 4, 2) := by decide +kernel
theorem dD_coefficient_25 : decode cD_coefficient 25 = .ok (.iload_n 2, 1) := by decide +kernel
theorem dD_coefficient_26 : decode cD_coefficient 26 = .ok (.imul, 1) := by decide +kernel
theorem dD_coefficient_27 : decode cD_coefficient 27 = .ok (.aload_n 0, 1) := by decide +kernel
theorem dD_coefficient_28 : decode cD_coefficient 28 = .ok (.getfield 19, 3) := by decide +kernel
theorem dD_coefficient_31 : decode cD_coefficient 31 = .ok (.iconst 1, 1) := by decide +kernel
theorem dD_coefficient_32 : decode cD_coefficient 32 = .ok (.isub, 1) := by decide +kernel
theorem dD_coefficient_33 : decode cD_coefficient 33 = .ok (.iand, 1) := by decide +kernel
theorem dD_coefficient_34 : decode cD_coefficient 34 = .ok (.iaload, 1) := by decide +kernel
theorem dD_coefficient_35 : decode cD_coefficient 35 = .ok (.invokestatic 36, 3) := by decide +kernel
theorem dD_coefficient_38 : decode cD_coefficient 38 = .ok (.invokestatic 42, 3) := by decide +kernel
theorem dD_coefficient_41 : decode cD_coefficient 41 = .ok (.istore_n 3, 1) := by decide +kernel
theorem dD_coefficient_42 : decode cD_coefficient 42 = .ok (.iinc 4 1, 3) := by decide +kernel
theorem dD_coefficient_45 : decode cD_coefficient 45 = .ok (.goto (-40), 3) := by decide +kernel
theorem dD_coefficient_48 : decode cD_coefficient 48 = .ok (.iload_n 3, 1) := by decide +kernel
theorem dD_coefficient_49 : decode cD_coefficient 49 = .ok (.aload_n 0, 1) := by decide +kernel
theorem dD_coefficient_50 : decode cD_coefficient 50 = .ok (.getfield 30, 3) := by decide +kernel
theorem dD_coefficient_53 : decode cD_coefficient 53 = .ok (.invokestatic 36, 3) := by decide +kernel
theorem dD_coefficient_56 : decode cD_coefficient 56 = .ok (.ireturn, 1) := by decide +kernel
theorem dD_fit_0 : decode cD_fit 0 = .ok (.aload_n 0, 1) := by decide +kernel
theorem dD_fit_1 : decode cD_fit 1 = .ok (.iconst 2, 1) := by decide +kernel
theorem dD_fit_2 : decode cD_fit 2 = .ok (.putfield 19, 3) := by decide +kernel
theorem dD_fit_5 : decode cD_fit 5 = .ok (.ldc 23, 2) := by decide +kernel
theorem dD_fit_7 : decode cD_fit 7 = .ok (.istore_n 2, 1) := by decide +kernel
theorem dD_fit_8 : decode cD_fit 8 = .ok (.aload_n 0, 1) := by decide +kernel
theorem dD_fit_9 : decode cD_fit 9 = .ok (.getfield 19, 3) := by decide +kernel
theorem dD_fit_12 : decode cD_fit 12 = .ok (.iload_n 1, 1) := by decide +kernel
theorem dD_fit_13 : decode cD_fit 13 = .ok (.if_icmp .ge 29, 3) := by decide +kernel
theorem dD_fit_16 : decode cD_fit 16 = .ok (.aload_n 0, 1) := by decide +kernel
theorem dD_fit_17 : decode cD_fit 17 = .ok (.getfield 19, 3) := by decide +kernel
theorem dD_fit_20 : decode cD_fit 20 = .ok (.bipush 16, 2) := by decide +kernel
theorem dD_fit_22 : decode cD_fit 22 = .ok (.if_icmp .ge 20, 3) := by decide +kernel
theorem dD_fit_25 : decode cD_fit 25 = .ok (.aload_n 0, 1) := by decide +kernel
theorem dD_fit_26 : decode cD_fit 26 = .ok (.dup, 1) := by decide +kernel
theorem dD_fit_27 : decode cD_fit 27 = .ok (.getfield 19, 3) := by decide +kernel
theorem dD_fit_30 : decode cD_fit 30 = .ok (.iconst 2, 1) := by decide +kernel
theorem dD_fit_31 : decode cD_fit 31 = .ok (.imul, 1) := by decide +kernel
theorem dD_fit_32 : decode cD_fit 32 = .ok (.putfield 19, 3) := by decide +kernel
theorem dD_fit_35 : decode cD_fit 35 = .ok (.iload_n 2, 1) := by decide +kernel
theorem dD_fit_36 : decode cD_fit 36 = .ok (.iconst 2, 1) := by decide +kernel
theorem dD_fit_37 : decode cD_fit 37 = .ok (.idiv, 1) := by decide +kernel
theorem dD_fit_38 : decode cD_fit 38 = .ok (.istore_n 2, 1) := by decide +kernel
theorem dD_fit_39 : decode cD_fit 39 = .ok (.goto (-31), 3) := by decide +kernel
theorem dD_fit_42 : decode cD_fit 42 = .ok (.aload_n 0, 1) := by decide +kernel
theorem dD_fit_43 : decode cD_fit 43 = .ok (.iconst 1, 1) := by decide +kernel
theorem dD_fit_44 : decode cD_fit 44 = .ok (.aload_n 0, 1) := by decide +kernel
theorem dD_fit_45 : decode cD_fit 45 = .ok (.getfield 19, 3) := by decide +kernel
theorem dD_fit_48 : decode cD_fit 48 = .ok (.invokestatic 24, 3) := by decide +kernel
theorem dD_fit_51 : decode cD_fit 51 = .ok (.putfield 30, 3) := by decide +kernel
theorem dD_fit_54 : decode cD_fit 54 = .ok (.iconst 1, 1) := by decide +kernel
theorem dD_fit_55 : decode cD_fit 55 = .ok (.iconst 3, 1) := by decide +kernel
theorem dD_fit_56 : decode cD_fit 56 = .ok (.iload_n 2, 1) := by decide +kernel
theorem dD_fit_57 : decode cD_fit 57 = .ok (.invokestatic 33, 3) := by decide +kernel
theorem dD_fit_60 : decode cD_fit 60 = .ok (.invokestatic 24, 3) := by decide +kernel
theorem dD_fit_63 : decode cD_fit 63 = .ok (.istore_n 3, 1) := by decide +kernel
theorem dD_fit_64 : decode cD_fit 64 = .ok (.aload_n 0, 1) := by decide +kernel
theorem dD_fit_65 : decode cD_fit 65 = .ok (.getfield 9, 3) := by decide +kernel
theorem dD_fit_68 : decode cD_fit 68 = .ok (.iconst 0, 1) := by decide +kernel
theorem dD_fit_69 : decode cD_fit 69 = .ok (.iconst 1, 1) := by decide +kernel
theorem dD_fit_70 : decode cD_fit 70 = .ok (.iastore, 1) := by decide +kernel
theorem dD_fit_71 : decode cD_fit 71 = .ok (.iconst 1, 1) := by decide +kernel
theorem dD_fit_72 : decode cD_fit 72 = .ok (.istore 4, 2) := by decide +kernel
theorem dD_fit_74 : decode cD_fit 74 = .ok (.iload 4, 2) := by decide +kernel
theorem dD_fit_76 : decode cD_fit 76 = .ok (.aload_n 0, 1) := by decide +kernel
theorem dD_fit_77 : decode cD_fit 77 = .ok (.getfield 19, 3) := by decide +kernel
theorem dD_fit_80 : decode cD_fit 80 = .ok (.if_icmp .ge 29, 3) := by decide +kernel
theorem dD_fit_83 : decode cD_fit 83 = .ok (.aload_n 0, 1) := by decide +kernel
theorem dD_fit_84 : decode cD_fit 84 = .ok (.getfield 9, 3) := by decide +kernel
theorem dD_fit_87 : decode cD_fit 87 = .ok (.iload 4, 2) := by decide +kernel
theorem dD_fit_89 : decode cD_fit 89 = .ok (.aload_n 0, 1) := by decide +kernel
theorem dD_fit_90 : decode cD_fit 90 = .ok (.getfield 9, 3) := by decide +kernel
theorem dD_fit_93 : decode cD_fit 93 = .ok (.iload 4, 2) := by decide +kernel
theorem dD_fit_95 : decode cD_fit 95 = .ok (.iconst 1, 1) := by decide +kernel
theorem dD_fit_96 : decode cD_fit 96 = .ok (.isub, 1) := by decide +kernel
theorem dD_fit_97 : decode cD_fit 97 = .ok (.iaload, 1) := by decide +kernel
theorem dD_fit_98 : decode cD_fit 98 = .ok (.iload_n 3, 1) := by decide +kernel
theorem dD_fit_99 : decode cD_fit 99 = .ok (.invokestatic 36, 3) := by decide +kernel
theorem dD_fit_102 : decode cD_fit 102 = .ok (.iastore, 1) := by decide +kernel
theorem dD_fit_103 : decode cD_fit 103 = .ok (.iinc 4 1, 3) := by decide +kernel
theorem dD_fit_106 : decode cD_fit 106 = .ok (.goto (-32), 3) := by decide +kernel
theorem dD_fit_109 : decode cD_fit 109 = .ok (.return_, 1) := by decide +kernel
theorem dD_interpolate_0 : decode cD_interpolate 0 = .ok (.iconst 0, 1) := by decide +kernel
theorem dD_interpolate_1 : decode cD_interpolate 1 = .ok (.istore_n 3, 1) := by decide +kernel
theorem dD_interpolate_2 : decode cD_interpolate 2 = .ok (.iload_n 3, 1) := by decide +kernel
theorem dD_interpolate_3 : decode cD_interpolate 3 = .ok (.aload_n 0, 1) := by decide +kernel
theorem dD_interpolate_4 : decode cD_interpolate 4 = .ok (.getfield 19, 3) := by decide +kernel
theorem dD_interpolate_7 : decode cD_interpolate 7 = .ok (.if_icmp .ge 18, 3) := by decide +kernel
theorem dD_interpolate_10 : decode cD_interpolate 10 = .ok (.aload_n 2, 1) := by decide +kernel
theorem dD_interpolate_11 : decode cD_interpolate 11 = .ok (.iload_n 3, 1) := by decide +kernel
theorem dD_interpolate_12 : decode cD_interpolate 12 = .ok (.aload_n 0, 1) := by decide +kernel
theorem dD_interpolate_13 : decode cD_interpolate 13 = .ok (.aload_n 1, 1) := by decide +kernel
theorem dD_interpolate_14 : decode cD_interpolate 14 = .ok (.iload_n 3, 1) := by decide +kernel
theorem dD_interpolate_15 : decode cD_interpolate 15 = .ok (.invokevirtual 45, 3) := by decide +kernel
theorem dD_interpolate_18 : decode cD_interpolate 18 = .ok (.iastore, 1) := by decide +kernel
theorem dD_interpolate_19 : decode cD_interpolate 19 = .ok (.iinc 3 1, 3) := by decide +kernel
theorem dD_interpolate_22 : decode cD_interpolate 22 = .ok (.goto (-20), 3) := by decide +kernel
theorem dD_interpolate_25 : decode cD_interpolate 25 = .ok (.return_, 1) := by decide +kernel
theorem dD_size_0 : decode cD_size 0 = .ok (.aload_n 0, 1) := by decide +kernel
theorem dD_size_1 : decode cD_size 1 = .ok (.getfield 19, 3) := by decide +kernel
theorem dD_size_4 : decode cD_size 4 = .ok (.ireturn, 1) := by decide +kernel
theorem dD_vanishingAt_0 : decode cD_vanishingAt 0 = .ok (.iload_n 1, 1) := by decide +kernel
theorem dD_vanishingAt_1 : decode cD_vanishingAt 1 = .ok (.aload_n 0, 1) := by decide +kernel
theorem dD_vanishingAt_2 : decode cD_vanishingAt 2 = .ok (.getfield 19, 3) := by decide +kernel
theorem dD_vanishingAt_5 : decode cD_vanishingAt 5 = .ok (.invokestatic 33, 3) := by decide +kernel
theorem dD_vanishingAt_8 : decode cD_vanishingAt 8 = .ok (.iconst 1, 1) := by decide +kernel
theorem dD_vanishingAt_9 : decode cD_vanishingAt 9 = .ok (.invokestatic 39, 3) := by decide +kernel
theorem dD_vanishingAt_12 : decode cD_vanishingAt 12 = .ok (.ireturn, 1) := by decide +kernel
theorem dD_weight_0 : decode cD_weight 0 = .ok (.iload_n 2, 1) := by decide +kernel
theorem dD_weight_1 : decode cD_weight 1 = .ok (.aload_n 0, 1) := by decide +kernel
theorem dD_weight_2 : decode cD_weight 2 = .ok (.getfield 9, 3) := by decide +kernel
theorem dD_weight_5 : decode cD_weight 5 = .ok (.iload_n 1, 1) := by decide +kernel
theorem dD_weight_6 : decode cD_weight 6 = .ok (.iaload, 1) := by decide +kernel
theorem dD_weight_7 : decode cD_weight 7 = .ok (.invokestatic 36, 3) := by decide +kernel
theorem dD_weight_10 : decode cD_weight 10 = .ok (.istore_n 3, 1) := by decide +kernel
theorem dD_weight_11 : decode cD_weight 11 = .ok (.iconst 0, 1) := by decide +kernel
theorem dD_weight_12 : decode cD_weight 12 = .ok (.istore 4, 2) := by decide +kernel
theorem dD_weight_14 : decode cD_weight 14 = .ok (.iconst 0, 1) := by decide +kernel
theorem dD_weight_15 : decode cD_weight 15 = .ok (.istore 5, 2) := by decide +kernel
theorem dD_weight_17 : decode cD_weight 17 = .ok (.iload 5, 2) := by decide +kernel
theorem dD_weight_19 : decode cD_weight 19 = .ok (.aload_n 0, 1) := by decide +kernel
theorem dD_weight_20 : decode cD_weight 20 = .ok (.getfield 19, 3) := by decide +kernel
theorem dD_weight_23 : decode cD_weight 23 = .ok (.if_icmp .ge 21, 3) := by decide +kernel
theorem dD_weight_26 : decode cD_weight 26 = .ok (.iload 4, 2) := by decide +kernel
theorem dD_weight_28 : decode cD_weight 28 = .ok (.iload_n 3, 1) := by decide +kernel
theorem dD_weight_29 : decode cD_weight 29 = .ok (.invokestatic 36, 3) := by decide +kernel
theorem dD_weight_32 : decode cD_weight 32 = .ok (.iconst 1, 1) := by decide +kernel
theorem dD_weight_33 : decode cD_weight 33 = .ok (.invokestatic 42, 3) := by decide +kernel
theorem dD_weight_36 : decode cD_weight 36 = .ok (.istore 4, 2) := by decide +kernel
theorem dD_weight_38 : decode cD_weight 38 = .ok (.iinc 5 1, 3) := by decide +kernel
theorem dD_weight_41 : decode cD_weight 41 = .ok (.goto (-24), 3) := by decide +kernel
theorem dD_weight_44 : decode cD_weight 44 = .ok (.iload 4, 2) := by decide +kernel
theorem dD_weight_46 : decode cD_weight 46 = .ok (.aload_n 0, 1) := by decide +kernel
theorem dD_weight_47 : decode cD_weight 47 = .ok (.getfield 30, 3) := by decide +kernel
theorem dD_weight_50 : decode cD_weight 50 = .ok (.invokestatic 36, 3) := by decide +kernel
theorem dD_weight_53 : decode cD_weight 53 = .ok (.ireturn, 1) := by decide +kernel
theorem dF_difference_0 : decode cF_difference 0 = .ok (.iload_n 0, 1) := by decide +kernel
theorem dF_difference_1 : decode cF_difference 1 = .ok (.iload_n 1, 1) := by decide +kernel
theorem dF_difference_2 : decode cF_difference 2 = .ok (.if_icmp .lt 9, 3) := by decide +kernel
theorem dF_difference_5 : decode cF_difference 5 = .ok (.iload_n 0, 1) := by decide +kernel
theorem dF_difference_6 : decode cF_difference 6 = .ok (.iload_n 1, 1) := by decide +kernel
theorem dF_difference_7 : decode cF_difference 7 = .ok (.isub, 1) := by decide +kernel
theorem dF_difference_8 : decode cF_difference 8 = .ok (.goto 9, 3) := by decide +kernel
theorem dF_difference_11 : decode cF_difference 11 = .ok (.iload_n 0, 1) := by decide +kernel
theorem dF_difference_12 : decode cF_difference 12 = .ok (.iload_n 1, 1) := by decide +kernel
theorem dF_difference_13 : decode cF_difference 13 = .ok (.isub, 1) := by decide +kernel
theorem dF_difference_14 : decode cF_difference 14 = .ok (.ldc 9, 2) := by decide +kernel
theorem dF_difference_16 : decode cF_difference 16 = .ok (.iadd, 1) := by decide +kernel
theorem dF_difference_17 : decode cF_difference 17 = .ok (.ireturn, 1) := by decide +kernel
theorem dF_power_0 : decode cF_power 0 = .ok (.iconst 1, 1) := by decide +kernel
theorem dF_power_1 : decode cF_power 1 = .ok (.istore_n 2, 1) := by decide +kernel
theorem dF_power_2 : decode cF_power 2 = .ok (.iload_n 0, 1) := by decide +kernel
theorem dF_power_3 : decode cF_power 3 = .ok (.istore_n 3, 1) := by decide +kernel
theorem dF_power_4 : decode cF_power 4 = .ok (.iload_n 1, 1) := by decide +kernel
theorem dF_power_5 : decode cF_power 5 = .ok (.istore 4, 2) := by decide +kernel
theorem dF_power_7 : decode cF_power 7 = .ok (.iload 4, 2) := by decide +kernel
theorem dF_power_9 : decode cF_power 9 = .ok (.ifCond .le 32, 3) := by decide +kernel
theorem dF_power_12 : decode cF_power 12 = .ok (.iload 4, 2) := by decide +kernel
theorem dF_power_14 : decode cF_power 14 = .ok (.iconst 2, 1) := by decide +kernel
theorem dF_power_15 : decode cF_power 15 = .ok (.irem, 1) := by decide +kernel
theorem dF_power_16 : decode cF_power 16 = .ok (.iconst 1, 1) := by decide +kernel
theorem dF_power_17 : decode cF_power 17 = .ok (.if_icmp .ne 9, 3) := by decide +kernel
theorem dF_power_20 : decode cF_power 20 = .ok (.iload_n 2, 1) := by decide +kernel
theorem dF_power_21 : decode cF_power 21 = .ok (.iload_n 3, 1) := by decide +kernel
theorem dF_power_22 : decode cF_power 22 = .ok (.invokestatic 12, 3) := by decide +kernel
theorem dF_power_25 : decode cF_power 25 = .ok (.istore_n 2, 1) := by decide +kernel
theorem dF_power_26 : decode cF_power 26 = .ok (.iload_n 3, 1) := by decide +kernel
theorem dF_power_27 : decode cF_power 27 = .ok (.iload_n 3, 1) := by decide +kernel
theorem dF_power_28 : decode cF_power 28 = .ok (.invokestatic 12, 3) := by decide +kernel
theorem dF_power_31 : decode cF_power 31 = .ok (.istore_n 3, 1) := by decide +kernel
theorem dF_power_32 : decode cF_power 32 = .ok (.iload 4, 2) := by decide +kernel
theorem dF_power_34 : decode cF_power 34 = .ok (.iconst 2, 1) := by decide +kernel
theorem dF_power_35 : decode cF_power 35 = .ok (.idiv, 1) := by decide +kernel
theorem dF_power_36 : decode cF_power 36 = .ok (.istore 4, 2) := by decide +kernel
theorem dF_power_38 : decode cF_power 38 = .ok (.goto (-31), 3) := by decide +kernel
theorem dF_power_41 : decode cF_power 41 = .ok (.iload_n 2, 1) := by decide +kernel
theorem dF_power_42 : decode cF_power 42 = .ok (.ireturn, 1) := by decide +kernel
theorem dF_product_0 : decode cF_product 0 = .ok (.iload_n 0, 1) := by decide +kernel
theorem dF_product_1 : decode cF_product 1 = .ok (.i2l, 1) := by decide +kernel
theorem dF_product_2 : decode cF_product 2 = .ok (.iload_n 1, 1) := by decide +kernel
theorem dF_product_3 : decode cF_product 3 = .ok (.i2l, 1) := by decide +kernel
theorem dF_product_4 : decode cF_product 4 = .ok (.lmul, 1) := by decide +kernel
theorem dF_product_5 : decode cF_product 5 = .ok (.ldc2_w 10, 3) := by decide +kernel
theorem dF_product_8 : decode cF_product 8 = .ok (.lrem, 1) := by decide +kernel
theorem dF_product_9 : decode cF_product 9 = .ok (.l2i, 1) := by decide +kernel
theorem dF_product_10 : decode cF_product 10 = .ok (.ireturn, 1) := by decide +kernel
theorem dF_ratio_0 : decode cF_ratio 0 = .ok (.iload_n 0, 1) := by decide +kernel
theorem dF_ratio_1 : decode cF_ratio 1 = .ok (.iload_n 1, 1) := by decide +kernel
theorem dF_ratio_2 : decode cF_ratio 2 = .ok (.ldc 18, 2) := by decide +kernel
theorem dF_ratio_4 : decode cF_ratio 4 = .ok (.invokestatic 19, 3) := by decide +kernel
theorem dF_ratio_7 : decode cF_ratio 7 = .ok (.invokestatic 12, 3) := by decide +kernel
theorem dF_ratio_10 : decode cF_ratio 10 = .ok (.ireturn, 1) := by decide +kernel
theorem dF_sum_0 : decode cF_sum 0 = .ok (.iload_n 0, 1) := by decide +kernel
theorem dF_sum_1 : decode cF_sum 1 = .ok (.iload_n 1, 1) := by decide +kernel
theorem dF_sum_2 : decode cF_sum 2 = .ok (.iadd, 1) := by decide +kernel
theorem dF_sum_3 : decode cF_sum 3 = .ok (.istore_n 2, 1) := by decide +kernel
theorem dF_sum_4 : decode cF_sum 4 = .ok (.iload_n 2, 1) := by decide +kernel
theorem dF_sum_5 : decode cF_sum 5 = .ok (.ldc 9, 2) := by decide +kernel
theorem dF_sum_7 : decode cF_sum 7 = .ok (.if_icmp .lt 10, 3) := by decide +kernel
theorem dF_sum_10 : decode cF_sum 10 = .ok (.iload_n 2, 1) := by decide +kernel
theorem dF_sum_11 : decode cF_sum 11 = .ok (.ldc 9, 2) := by decide +kernel
theorem dF_sum_13 : decode cF_sum 13 = .ok (.isub, 1) := by decide +kernel
theorem dF_sum_14 : decode cF_sum 14 = .ok (.goto 4, 3) := by decide +kernel
theorem dF_sum_17 : decode cF_sum 17 = .ok (.iload_n 2, 1) := by decide +kernel
theorem dF_sum_18 : decode cF_sum 18 = .ok (.ireturn, 1) := by decide +kernel
theorem dK_init_0 : decode cK_init 0 = .ok (.aload_n 0, 1) := by decide +kernel
theorem dK_init_1 : decode cK_init 1 = .ok (.invokespecial 3, 3) := by decide +kernel
theorem dK_init_4 : decode cK_init 4 = .ok (.aload_n 0, 1) := by decide +kernel
theorem dK_init_5 : decode cK_init 5 = .ok (.bipush 16, 2) := by decide +kernel
theorem dK_init_7 : decode cK_init 7 = .ok (.newarray .int, 2) := by decide +kernel
theorem dK_init_9 : decode cK_init 9 = .ok (.putfield 9, 3) := by decide +kernel
theorem dK_init_12 : decode cK_init 12 = .ok (.aload_n 0, 1) := by decide +kernel
theorem dK_init_13 : decode cK_init 13 = .ok (.bipush 16, 2) := by decide +kernel
theorem dK_init_15 : decode cK_init 15 = .ok (.newarray .int, 2) := by decide +kernel
theorem dK_init_17 : decode cK_init 17 = .ok (.putfield 15, 3) := by decide +kernel
theorem dK_init_20 : decode cK_init 20 = .ok (.aload_n 0, 1) := by decide +kernel
theorem dK_init_21 : decode cK_init 21 = .ok (.iconst 0, 1) := by decide +kernel
theorem dK_init_22 : decode cK_init 22 = .ok (.putfield 18, 3) := by decide +kernel
theorem dK_init_25 : decode cK_init 25 = .ok (.return_, 1) := by decide +kernel
theorem dK_alpha_0 : decode cK_alpha 0 = .ok (.aload_n 0, 1) := by decide +kernel
theorem dK_alpha_1 : decode cK_alpha 1 = .ok (.getfield 26, 3) := by decide +kernel
theorem dK_alpha_4 : decode cK_alpha 4 = .ok (.ireturn, 1) := by decide +kernel
theorem dK_atTau_0 : decode cK_atTau 0 = .ok (.iconst 0, 1) := by decide +kernel
theorem dK_atTau_1 : decode cK_atTau 1 = .ok (.istore_n 2, 1) := by decide +kernel
theorem dK_atTau_2 : decode cK_atTau 2 = .ok (.iconst 0, 1) := by decide +kernel
theorem dK_atTau_3 : decode cK_atTau 3 = .ok (.istore_n 3, 1) := by decide +kernel
theorem dK_atTau_4 : decode cK_atTau 4 = .ok (.iload_n 3, 1) := by decide +kernel
theorem dK_atTau_5 : decode cK_atTau 5 = .ok (.bipush 16, 2) := by decide +kernel
theorem dK_atTau_7 : decode cK_atTau 7 = .ok (.if_icmp .ge 26, 3) := by decide +kernel
theorem dK_atTau_10 : decode cK_atTau 10 = .ok (.iload_n 2, 1) := by decide +kernel
theorem dK_atTau_11 : decode cK_atTau 11 = .ok (.aload_n 1, 1) := by decide +kernel
theorem dK_atTau_12 : decode cK_atTau 12 = .ok (.iload_n 3, 1) := by decide +kernel
theorem dK_atTau_13 : decode cK_atTau 13 = .ok (.iaload, 1) := by decide +kernel
theorem dK_atTau_14 : decode cK_atTau 14 = .ok (.aload_n 0, 1) := by decide +kernel
theorem dK_atTau_15 : decode cK_atTau 15 = .ok (.getfield 9, 3) := by decide +kernel
theorem dK_atTau_18 : decode cK_atTau 18 = .ok (.iload_n 3, 1) := by decide +kernel
theorem dK_atTau_19 : decode cK_atTau 19 = .ok (.iaload, 1) := by decide +kernel
theorem dK_atTau_20 : decode cK_atTau 20 = .ok (.invokestatic 61, 3) := by decide +kernel
theorem dK_atTau_23 : decode cK_atTau 23 = .ok (.invokestatic 66, 3) := by decide +kernel
theorem dK_atTau_26 : decode cK_atTau 26 = .ok (.istore_n 2, 1) := by decide +kernel
theorem dK_atTau_27 : decode cK_atTau 27 = .ok (.iinc 3 1, 3) := by decide +kernel
theorem dK_atTau_30 : decode cK_atTau 30 = .ok (.goto (-26), 3) := by decide +kernel
theorem dK_atTau_33 : decode cK_atTau 33 = .ok (.iload_n 2, 1) := by decide +kernel
theorem dK_atTau_34 : decode cK_atTau 34 = .ok (.ireturn, 1) := by decide +kernel
theorem dK_beta_0 : decode cK_beta 0 = .ok (.aload_n 0, 1) := by decide +kernel
theorem dK_beta_1 : decode cK_beta 1 = .ok (.getfield 29, 3) := by decide +kernel
theorem dK_beta_4 : decode cK_beta 4 = .ok (.ireturn, 1) := by decide +kernel
theorem dK_delta_0 : decode cK_delta 0 = .ok (.aload_n 0, 1) := by decide +kernel
theorem dK_delta_1 : decode cK_delta 1 = .ok (.getfield 32, 3) := by decide +kernel
theorem dK_delta_4 : decode cK_delta 4 = .ok (.ireturn, 1) := by decide +kernel
theorem dK_drop_0 : decode cK_drop 0 = .ok (.aload_n 0, 1) := by decide +kernel
theorem dK_drop_1 : decode cK_drop 1 = .ok (.iconst 0, 1) := by decide +kernel
theorem dK_drop_2 : decode cK_drop 2 = .ok (.putfield 18, 3) := by decide +kernel
theorem dK_drop_5 : decode cK_drop 5 = .ok (.return_, 1) := by decide +kernel
theorem dK_firstElement_0 : decode cK_firstElement 0 = .ok (.aload_n 0, 1) := by decide +kernel
theorem dK_firstElement_1 : decode cK_firstElement 1 = .ok (.getfield 26, 3) := by decide +kernel
theorem dK_firstElement_4 : decode cK_firstElement 4 = .ok (.aload_n 0, 1) := by decide +kernel
theorem dK_firstElement_5 : decode cK_firstElement 5 = .ok (.aload_n 1, 1) := by decide +kernel
theorem dK_firstElement_6 : decode cK_firstElement 6 = .ok (.invokevirtual 69, 3) := by decide +kernel
theorem dK_firstElement_9 : decode cK_firstElement 9 = .ok (.invokestatic 66, 3) := by decide +kernel
theorem dK_firstElement_12 : decode cK_firstElement 12 = .ok (.ireturn, 1) := by decide +kernel
theorem dK_isMade_0 : decode cK_isMade 0 = .ok (.aload_n 0, 1) := by decide +kernel
theorem dK_isMade_1 : decode cK_isMade 1 = .ok (.getfield 18, 3) := by decide +kernel
theorem dK_isMade_4 : decode cK_isMade 4 = .ok (.ireturn, 1) := by decide +kernel
theorem dK_mixAll_0 : decode cK_mixAll 0 = .ok (.aload_n 0, 1) := by decide +kernel
theorem dK_mixAll_1 : decode cK_mixAll 1 = .ok (.aload_n 2, 1) := by decide +kernel
theorem dK_mixAll_2 : decode cK_mixAll 2 = .ok (.aload_n 0, 1) := by decide +kernel
theorem dK_mixAll_3 : decode cK_mixAll 3 = .ok (.getfield 22, 3) := by decide +kernel
theorem dK_mixAll_6 : decode cK_mixAll 6 = .ok (.invokevirtual 41, 3) := by decide +kernel
theorem dK_mixAll_9 : decode cK_mixAll 9 = .ok (.putfield 35, 3) := by decide +kernel
theorem dK_mixAll_12 : decode cK_mixAll 12 = .ok (.iconst 0, 1) := by decide +kernel
theorem dK_mixAll_13 : decode cK_mixAll 13 = .ok (.istore_n 3, 1) := by decide +kernel
theorem dK_mixAll_14 : decode cK_mixAll 14 = .ok (.iload_n 3, 1) := by decide +kernel
theorem dK_mixAll_15 : decode cK_mixAll 15 = .ok (.bipush 16, 2) := by decide +kernel
theorem dK_mixAll_17 : decode cK_mixAll 17 = .ok (.if_icmp .ge 36, 3) := by decide +kernel
theorem dK_mixAll_20 : decode cK_mixAll 20 = .ok (.aload_n 0, 1) := by decide +kernel
theorem dK_mixAll_21 : decode cK_mixAll 21 = .ok (.getfield 9, 3) := by decide +kernel
theorem dK_mixAll_24 : decode cK_mixAll 24 = .ok (.iload_n 3, 1) := by decide +kernel
theorem dK_mixAll_25 : decode cK_mixAll 25 = .ok (.iload_n 3, 1) := by decide +kernel
theorem dK_mixAll_26 : decode cK_mixAll 26 = .ok (.aload_n 2, 1) := by decide +kernel
theorem dK_mixAll_27 : decode cK_mixAll 27 = .ok (.invokevirtual 47, 3) := by decide +kernel
theorem dK_mixAll_30 : decode cK_mixAll 30 = .ok (.if_icmp .ge 15, 3) := by decide +kernel
theorem dK_mixAll_33 : decode cK_mixAll 33 = .ok (.aload_n 2, 1) := by decide +kernel
theorem dK_mixAll_34 : decode cK_mixAll 34 = .ok (.iload_n 3, 1) := by decide +kernel
theorem dK_mixAll_35 : decode cK_mixAll 35 = .ok (.aload_n 0, 1) := by decide +kernel
theorem dK_mixAll_36 : decode cK_mixAll 36 = .ok (.getfield 22, 3) := by decide +kernel
theorem dK_mixAll_39 : decode cK_mixAll 39 = .ok (.invokevirtual 51, 3) := by decide +kernel
theorem dK_mixAll_42 : decode cK_mixAll 42 = .ok (.goto 4, 3) := by decide +kernel
theorem dK_mixAll_45 : decode cK_mixAll 45 = .ok (.iconst 0, 1) := by decide +kernel
theorem dK_mixAll_46 : decode cK_mixAll 46 = .ok (.iastore, 1) := by decide +kernel
theorem dK_mixAll_47 : decode cK_mixAll 47 = .ok (.iinc 3 1, 3) := by decide +kernel
theorem dK_mixAll_50 : decode cK_mixAll 50 = .ok (.goto (-36), 3) := by decide +kernel
theorem dK_mixAll_53 : decode cK_mixAll 53 = .ok (.iconst 0, 1) := by decide +kernel
theorem dK_mixAll_54 : decode cK_mixAll 54 = .ok (.istore_n 3, 1) := by decide +kernel
theorem dK_mixAll_55 : decode cK_mixAll 55 = .ok (.iload_n 3, 1) := by decide +kernel
theorem dK_mixAll_56 : decode cK_mixAll 56 = .ok (.bipush 16, 2) := by decide +kernel
theorem dK_mixAll_58 : decode cK_mixAll 58 = .ok (.if_icmp .ge 73, 3) := by decide +kernel
theorem dK_mixAll_61 : decode cK_mixAll 61 = .ok (.aload_n 0, 1) := by decide +kernel
theorem dK_mixAll_62 : decode cK_mixAll 62 = .ok (.getfield 29, 3) := by decide +kernel
theorem dK_mixAll_65 : decode cK_mixAll 65 = .ok (.aload_n 1, 1) := by decide +kernel
theorem dK_mixAll_66 : decode cK_mixAll 66 = .ok (.iconst 0, 1) := by decide +kernel
theorem dK_mixAll_67 : decode cK_mixAll 67 = .ok (.iload_n 3, 1) := by decide +kernel
theorem dK_mixAll_68 : decode cK_mixAll 68 = .ok (.aload_n 0, 1) := by decide +kernel
theorem dK_mixAll_69 : decode cK_mixAll 69 = .ok (.getfield 9, 3) := by decide +kernel
theorem dK_mixAll_72 : decode cK_mixAll 72 = .ok (.invokevirtual 55, 3) := by decide +kernel
theorem dK_mixAll_75 : decode cK_mixAll 75 = .ok (.invokestatic 61, 3) := by decide +kernel
theorem dK_mixAll_78 : decode cK_mixAll 78 = .ok (.istore 4, 2) := by decide +kernel
theorem dK_mixAll_80 : decode cK_mixAll 80 = .ok (.aload_n 0, 1) := by decide +kernel
theorem dK_mixAll_81 : decode cK_mixAll 81 = .ok (.getfield 26, 3) := by decide +kernel
theorem dK_mixAll_84 : decode cK_mixAll 84 = .ok (.aload_n 1, 1) := by decide +kernel
theorem dK_mixAll_85 : decode cK_mixAll 85 = .ok (.iconst 1, 1) := by decide +kernel
theorem dK_mixAll_86 : decode cK_mixAll 86 = .ok (.iload_n 3, 1) := by decide +kernel
theorem dK_mixAll_87 : decode cK_mixAll 87 = .ok (.aload_n 0, 1) := by decide +kernel
theorem dK_mixAll_88 : decode cK_mixAll 88 = .ok (.getfield 9, 3) := by decide +kernel
theorem dK_mixAll_91 : decode cK_mixAll 91 = .ok (.invokevirtual 55, 3) := by decide +kernel
theorem dK_mixAll_94 : decode cK_mixAll 94 = .ok (.invokestatic 61, 3) := by decide +kernel
theorem dK_mixAll_97 : decode cK_mixAll 97 = .ok (.istore 5, 2) := by decide +kernel
theorem dK_mixAll_99 : decode cK_mixAll 99 = .ok (.aload_n 0, 1) := by decide +kernel
theorem dK_mixAll_100 : decode cK_mixAll 100 = .ok (.getfield 15, 3) := by decide +kernel
theorem dK_mixAll_103 : decode cK_mixAll 103 = .ok (.iload_n 3, 1) := by decide +kernel
theorem dK_mixAll_104 : decode cK_mixAll 104 = .ok (.iload 4, 2) := by decide +kernel
theorem dK_mixAll_106 : decode cK_mixAll 106 = .ok (.iload 5, 2) := by decide +kernel
theorem dK_mixAll_108 : decode cK_mixAll 108 = .ok (.invokestatic 66, 3) := by decide +kernel
theorem dK_mixAll_111 : decode cK_mixAll 111 = .ok (.aload_n 1, 1) := by decide +kernel
theorem dK_mixAll_112 : decode cK_mixAll 112 = .ok (.iconst 2, 1) := by decide +kernel
theorem dK_mixAll_113 : decode cK_mixAll 113 = .ok (.iload_n 3, 1) := by decide +kernel
theorem dK_mixAll_114 : decode cK_mixAll 114 = .ok (.aload_n 0, 1) := by decide +kernel
theorem dK_mixAll_115 : decode cK_mixAll 115 = .ok (.getfield 9, 3) := by decide +kernel
theorem dK_mixAll_118 : decode cK_mixAll 118 = .ok (.invokevirtual 55, 3) := by decide +kernel
theorem dK_mixAll_121 : decode cK_mixAll 121 = .ok (.invokestatic 66, 3) := by decide +kernel
theorem dK_mixAll_124 : decode cK_mixAll 124 = .ok (.iastore, 1) := by decide +kernel
theorem dK_mixAll_125 : decode cK_mixAll 125 = .ok (.iinc 3 1, 3) := by decide +kernel
theorem dK_mixAll_128 : decode cK_mixAll 128 = .ok (.goto (-73), 3) := by decide +kernel
theorem dK_mixAll_131 : decode cK_mixAll 131 = .ok (.aload_n 0, 1) := by decide +kernel
theorem dK_mixAll_132 : decode cK_mixAll 132 = .ok (.iconst 1, 1) := by decide +kernel
theorem dK_mixAll_133 : decode cK_mixAll 133 = .ok (.putfield 18, 3) := by decide +kernel
theorem dK_mixAll_136 : decode cK_mixAll 136 = .ok (.return_, 1) := by decide +kernel
theorem dK_mixSum_0 : decode cK_mixSum 0 = .ok (.iconst 0, 1) := by decide +kernel
theorem dK_mixSum_1 : decode cK_mixSum 1 = .ok (.istore 4, 2) := by decide +kernel
theorem dK_mixSum_3 : decode cK_mixSum 3 = .ok (.iload_n 2, 1) := by decide +kernel
theorem dK_mixSum_4 : decode cK_mixSum 4 = .ok (.istore 5, 2) := by decide +kernel
theorem dK_mixSum_6 : decode cK_mixSum 6 = .ok (.iload 5, 2) := by decide +kernel
theorem dK_mixSum_8 : decode cK_mixSum 8 = .ok (.iload_n 3, 1) := by decide +kernel
theorem dK_mixSum_9 : decode cK_mixSum 9 = .ok (.if_icmp .gt 30, 3) := by decide +kernel
theorem dK_mixSum_12 : decode cK_mixSum 12 = .ok (.iload 4, 2) := by decide +kernel
theorem dK_mixSum_14 : decode cK_mixSum 14 = .ok (.aload_n 1, 1) := by decide +kernel
theorem dK_mixSum_15 : decode cK_mixSum 15 = .ok (.iload 5, 2) := by decide +kernel
theorem dK_mixSum_17 : decode cK_mixSum 17 = .ok (.iaload, 1) := by decide +kernel
theorem dK_mixSum_18 : decode cK_mixSum 18 = .ok (.aload_n 0, 1) := by decide +kernel
theorem dK_mixSum_19 : decode cK_mixSum 19 = .ok (.getfield 15, 3) := by decide +kernel
theorem dK_mixSum_22 : decode cK_mixSum 22 = .ok (.iload 5, 2) := by decide +kernel
theorem dK_mixSum_24 : decode cK_mixSum 24 = .ok (.iaload, 1) := by decide +kernel
theorem dK_mixSum_25 : decode cK_mixSum 25 = .ok (.invokestatic 61, 3) := by decide +kernel
theorem dK_mixSum_28 : decode cK_mixSum 28 = .ok (.invokestatic 66, 3) := by decide +kernel
theorem dK_mixSum_31 : decode cK_mixSum 31 = .ok (.istore 4, 2) := by decide +kernel
theorem dK_mixSum_33 : decode cK_mixSum 33 = .ok (.iinc 5 1, 3) := by decide +kernel
theorem dK_mixSum_36 : decode cK_mixSum 36 = .ok (.goto (-30), 3) := by decide +kernel
theorem dK_mixSum_39 : decode cK_mixSum 39 = .ok (.iload 4, 2) := by decide +kernel
theorem dK_mixSum_41 : decode cK_mixSum 41 = .ok (.ireturn, 1) := by decide +kernel
theorem dK_secondElement_0 : decode cK_secondElement 0 = .ok (.aload_n 0, 1) := by decide +kernel
theorem dK_secondElement_1 : decode cK_secondElement 1 = .ok (.getfield 29, 3) := by decide +kernel
theorem dK_secondElement_4 : decode cK_secondElement 4 = .ok (.aload_n 0, 1) := by decide +kernel
theorem dK_secondElement_5 : decode cK_secondElement 5 = .ok (.aload_n 1, 1) := by decide +kernel
theorem dK_secondElement_6 : decode cK_secondElement 6 = .ok (.invokevirtual 69, 3) := by decide +kernel
theorem dK_secondElement_9 : decode cK_secondElement 9 = .ok (.invokestatic 66, 3) := by decide +kernel
theorem dK_secondElement_12 : decode cK_secondElement 12 = .ok (.ireturn, 1) := by decide +kernel
theorem dK_sharedMix_0 : decode cK_sharedMix 0 = .ok (.aload_n 0, 1) := by decide +kernel
theorem dK_sharedMix_1 : decode cK_sharedMix 1 = .ok (.getfield 15, 3) := by decide +kernel
theorem dK_sharedMix_4 : decode cK_sharedMix 4 = .ok (.iload_n 1, 1) := by decide +kernel
theorem dK_sharedMix_5 : decode cK_sharedMix 5 = .ok (.iaload, 1) := by decide +kernel
theorem dK_sharedMix_6 : decode cK_sharedMix 6 = .ok (.iload_n 1, 1) := by decide +kernel
theorem dK_sharedMix_7 : decode cK_sharedMix 7 = .ok (.iload_n 2, 1) := by decide +kernel
theorem dK_sharedMix_8 : decode cK_sharedMix 8 = .ok (.if_icmp .gt 10, 3) := by decide +kernel
theorem dK_sharedMix_11 : decode cK_sharedMix 11 = .ok (.aload_n 0, 1) := by decide +kernel
theorem dK_sharedMix_12 : decode cK_sharedMix 12 = .ok (.getfield 38, 3) := by decide +kernel
theorem dK_sharedMix_15 : decode cK_sharedMix 15 = .ok (.goto 7, 3) := by decide +kernel
theorem dK_sharedMix_18 : decode cK_sharedMix 18 = .ok (.aload_n 0, 1) := by decide +kernel
theorem dK_sharedMix_19 : decode cK_sharedMix 19 = .ok (.getfield 32, 3) := by decide +kernel
theorem dK_sharedMix_22 : decode cK_sharedMix 22 = .ok (.invokestatic 73, 3) := by decide +kernel
theorem dK_sharedMix_25 : decode cK_sharedMix 25 = .ok (.ireturn, 1) := by decide +kernel
theorem dK_take_0 : decode cK_take 0 = .ok (.aload_n 0, 1) := by decide +kernel
theorem dK_take_1 : decode cK_take 1 = .ok (.iload_n 1, 1) := by decide +kernel
theorem dK_take_2 : decode cK_take 2 = .ok (.putfield 22, 3) := by decide +kernel
theorem dK_take_5 : decode cK_take 5 = .ok (.aload_n 0, 1) := by decide +kernel
theorem dK_take_6 : decode cK_take 6 = .ok (.iload_n 2, 1) := by decide +kernel
theorem dK_take_7 : decode cK_take 7 = .ok (.putfield 26, 3) := by decide +kernel
theorem dK_take_10 : decode cK_take 10 = .ok (.aload_n 0, 1) := by decide +kernel
theorem dK_take_11 : decode cK_take 11 = .ok (.iload_n 3, 1) := by decide +kernel
theorem dK_take_12 : decode cK_take 12 = .ok (.putfield 29, 3) := by decide +kernel
theorem dK_take_15 : decode cK_take 15 = .ok (.aload_n 0, 1) := by decide +kernel
theorem dK_take_16 : decode cK_take 16 = .ok (.iload 4, 2) := by decide +kernel
theorem dK_take_18 : decode cK_take 18 = .ok (.putfield 38, 3) := by decide +kernel
theorem dK_take_21 : decode cK_take 21 = .ok (.aload_n 0, 1) := by decide +kernel
theorem dK_take_22 : decode cK_take 22 = .ok (.iload 5, 2) := by decide +kernel
theorem dK_take_24 : decode cK_take 24 = .ok (.putfield 32, 3) := by decide +kernel
theorem dK_take_27 : decode cK_take 27 = .ok (.return_, 1) := by decide +kernel
theorem dK_tau_0 : decode cK_tau 0 = .ok (.aload_n 0, 1) := by decide +kernel
theorem dK_tau_1 : decode cK_tau 1 = .ok (.getfield 22, 3) := by decide +kernel
theorem dK_tau_4 : decode cK_tau 4 = .ok (.ireturn, 1) := by decide +kernel
theorem dK_vanishing_0 : decode cK_vanishing 0 = .ok (.aload_n 0, 1) := by decide +kernel
theorem dK_vanishing_1 : decode cK_vanishing 1 = .ok (.getfield 35, 3) := by decide +kernel
theorem dK_vanishing_4 : decode cK_vanishing 4 = .ok (.ireturn, 1) := by decide +kernel
theorem dK_vanishingStep_0 : decode cK_vanishingStep 0 = .ok (.aload_n 0, 1) := by decide +kernel
theorem dK_vanishingStep_1 : decode cK_vanishingStep 1 = .ok (.getfield 22, 3) := by decide +kernel
theorem dK_vanishingStep_4 : decode cK_vanishingStep 4 = .ok (.iload_n 1, 1) := by decide +kernel
theorem dK_vanishingStep_5 : decode cK_vanishingStep 5 = .ok (.invokestatic 76, 3) := by decide +kernel
theorem dK_vanishingStep_8 : decode cK_vanishingStep 8 = .ok (.aload_n 0, 1) := by decide +kernel
theorem dK_vanishingStep_9 : decode cK_vanishingStep 9 = .ok (.getfield 35, 3) := by decide +kernel
theorem dK_vanishingStep_12 : decode cK_vanishingStep 12 = .ok (.invokestatic 61, 3) := by decide +kernel
theorem dK_vanishingStep_15 : decode cK_vanishingStep 15 = .ok (.aload_n 0, 1) := by decide +kernel
theorem dK_vanishingStep_16 : decode cK_vanishingStep 16 = .ok (.getfield 32, 3) := by decide +kernel
theorem dK_vanishingStep_19 : decode cK_vanishingStep 19 = .ok (.invokestatic 73, 3) := by decide +kernel
theorem dK_vanishingStep_22 : decode cK_vanishingStep 22 = .ok (.ireturn, 1) := by decide +kernel
theorem dQ_init_0 : decode cQ_init 0 = .ok (.aload_n 0, 1) := by decide +kernel
theorem dQ_init_1 : decode cQ_init 1 = .ok (.invokespecial 3, 3) := by decide +kernel
theorem dQ_init_4 : decode cQ_init 4 = .ok (.aload_n 0, 1) := by decide +kernel
theorem dQ_init_5 : decode cQ_init 5 = .ok (.iconst 3, 1) := by decide +kernel
theorem dQ_init_6 : decode cQ_init 6 = .ok (.newarray .int, 2) := by decide +kernel
theorem dQ_init_8 : decode cQ_init 8 = .ok (.putfield 9, 3) := by decide +kernel
theorem dQ_init_11 : decode cQ_init 11 = .ok (.aload_n 0, 1) := by decide +kernel
theorem dQ_init_12 : decode cQ_init 12 = .ok (.bipush 16, 2) := by decide +kernel
theorem dQ_init_14 : decode cQ_init 14 = .ok (.newarray .int, 2) := by decide +kernel
theorem dQ_init_16 : decode cQ_init 16 = .ok (.putfield 15, 3) := by decide +kernel
theorem dQ_init_19 : decode cQ_init 19 = .ok (.aload_n 0, 1) := by decide +kernel
theorem dQ_init_20 : decode cQ_init 20 = .ok (.iconst 0, 1) := by decide +kernel
theorem dQ_init_21 : decode cQ_init 21 = .ok (.putfield 18, 3) := by decide +kernel
theorem dQ_init_24 : decode cQ_init 24 = .ok (.return_, 1) := by decide +kernel
theorem dQ_divide_0 : decode cQ_divide 0 = .ok (.iconst 0, 1) := by decide +kernel
theorem dQ_divide_1 : decode cQ_divide 1 = .ok (.istore 4, 2) := by decide +kernel
theorem dQ_divide_3 : decode cQ_divide 3 = .ok (.iload 4, 2) := by decide +kernel
theorem dQ_divide_5 : decode cQ_divide 5 = .ok (.bipush 16, 2) := by decide +kernel
theorem dQ_divide_7 : decode cQ_divide 7 = .ok (.if_icmp .ge 62, 3) := by decide +kernel
theorem dQ_divide_10 : decode cQ_divide 10 = .ok (.iconst 0, 1) := by decide +kernel
theorem dQ_divide_11 : decode cQ_divide 11 = .ok (.istore 5, 2) := by decide +kernel
theorem dQ_divide_13 : decode cQ_divide 13 = .ok (.iload 4, 2) := by decide +kernel
theorem dQ_divide_15 : decode cQ_divide 15 = .ok (.iconst 1, 1) := by decide +kernel
theorem dQ_divide_16 : decode cQ_divide 16 = .ok (.iadd, 1) := by decide +kernel
theorem dQ_divide_17 : decode cQ_divide 17 = .ok (.istore 6, 2) := by decide +kernel
theorem dQ_divide_19 : decode cQ_divide 19 = .ok (.iload 6, 2) := by decide +kernel
theorem dQ_divide_21 : decode cQ_divide 21 = .ok (.iload_n 3, 1) := by decide +kernel
theorem dQ_divide_22 : decode cQ_divide 22 = .ok (.if_icmp .ge 32, 3) := by decide +kernel
theorem dQ_divide_25 : decode cQ_divide 25 = .ok (.iload 5, 2) := by decide +kernel
theorem dQ_divide_27 : decode cQ_divide 27 = .ok (.aload_n 1, 1) := by decide +kernel
theorem dQ_divide_28 : decode cQ_divide 28 = .ok (.iload 6, 2) := by decide +kernel
theorem dQ_divide_30 : decode cQ_divide 30 = .ok (.iaload, 1) := by decide +kernel
theorem dQ_divide_31 : decode cQ_divide 31 = .ok (.aload_n 2, 1) := by decide +kernel
theorem dQ_divide_32 : decode cQ_divide 32 = .ok (.iload 4, 2) := by decide +kernel
theorem dQ_divide_34 : decode cQ_divide 34 = .ok (.iload_n 3, 1) := by decide +kernel
theorem dQ_divide_35 : decode cQ_divide 35 = .ok (.iadd, 1) := by decide +kernel
theorem dQ_divide_36 : decode cQ_divide 36 = .ok (.iload 6, 2) := by decide +kernel
theorem dQ_divide_38 : decode cQ_divide 38 = .ok (.isub, 1) := by decide +kernel
theorem dQ_divide_39 : decode cQ_divide 39 = .ok (.iaload, 1) := by decide +kernel
theorem dQ_divide_40 : decode cQ_divide 40 = .ok (.invokestatic 22, 3) := by decide +kernel
theorem dQ_divide_43 : decode cQ_divide 43 = .ok (.invokestatic 28, 3) := by decide +kernel
theorem dQ_divide_46 : decode cQ_divide 46 = .ok (.istore 5, 2) := by decide +kernel
theorem dQ_divide_48 : decode cQ_divide 48 = .ok (.iinc 6 1, 3) := by decide +kernel
theorem dQ_divide_51 : decode cQ_divide 51 = .ok (.goto (-32), 3) := by decide +kernel
theorem dQ_divide_54 : decode cQ_divide 54 = .ok (.aload_n 0, 1) := by decide +kernel
theorem dQ_divide_55 : decode cQ_divide 55 = .ok (.getfield 15, 3) := by decide +kernel
theorem dQ_divide_58 : decode cQ_divide 58 = .ok (.iload 4, 2) := by decide +kernel
theorem dQ_divide_60 : decode cQ_divide 60 = .ok (.iload 5, 2) := by decide +kernel
theorem dQ_divide_62 : decode cQ_divide 62 = .ok (.iastore, 1) := by decide +kernel
theorem dQ_divide_63 : decode cQ_divide 63 = .ok (.iinc 4 1, 3) := by decide +kernel
theorem dQ_divide_66 : decode cQ_divide 66 = .ok (.goto (-63), 3) := by decide +kernel
theorem dQ_divide_69 : decode cQ_divide 69 = .ok (.return_, 1) := by decide +kernel
theorem dQ_element_0 : decode cQ_element 0 = .ok (.aload_n 0, 1) := by decide +kernel
theorem dQ_element_1 : decode cQ_element 1 = .ok (.getfield 9, 3) := by decide +kernel
theorem dQ_element_4 : decode cQ_element 4 = .ok (.iload_n 1, 1) := by decide +kernel
theorem dQ_element_5 : decode cQ_element 5 = .ok (.iaload, 1) := by decide +kernel
theorem dQ_element_6 : decode cQ_element 6 = .ok (.ireturn, 1) := by decide +kernel
theorem dQ_isMade_0 : decode cQ_isMade 0 = .ok (.aload_n 0, 1) := by decide +kernel
theorem dQ_isMade_1 : decode cQ_isMade 1 = .ok (.getfield 18, 3) := by decide +kernel
theorem dQ_isMade_4 : decode cQ_isMade 4 = .ok (.ireturn, 1) := by decide +kernel
theorem dQ_keep_0 : decode cQ_keep 0 = .ok (.aload_n 0, 1) := by decide +kernel
theorem dQ_keep_1 : decode cQ_keep 1 = .ok (.getfield 9, 3) := by decide +kernel
theorem dQ_keep_4 : decode cQ_keep 4 = .ok (.iconst 0, 1) := by decide +kernel
theorem dQ_keep_5 : decode cQ_keep 5 = .ok (.iload_n 1, 1) := by decide +kernel
theorem dQ_keep_6 : decode cQ_keep 6 = .ok (.iastore, 1) := by decide +kernel
theorem dQ_keep_7 : decode cQ_keep 7 = .ok (.aload_n 0, 1) := by decide +kernel
theorem dQ_keep_8 : decode cQ_keep 8 = .ok (.getfield 9, 3) := by decide +kernel
theorem dQ_keep_11 : decode cQ_keep 11 = .ok (.iconst 1, 1) := by decide +kernel
theorem dQ_keep_12 : decode cQ_keep 12 = .ok (.iload_n 2, 1) := by decide +kernel
theorem dQ_keep_13 : decode cQ_keep 13 = .ok (.iastore, 1) := by decide +kernel
theorem dQ_keep_14 : decode cQ_keep 14 = .ok (.aload_n 0, 1) := by decide +kernel
theorem dQ_keep_15 : decode cQ_keep 15 = .ok (.getfield 9, 3) := by decide +kernel
theorem dQ_keep_18 : decode cQ_keep 18 = .ok (.iconst 2, 1) := by decide +kernel
theorem dQ_keep_19 : decode cQ_keep 19 = .ok (.iload_n 3, 1) := by decide +kernel
theorem dQ_keep_20 : decode cQ_keep 20 = .ok (.iastore, 1) := by decide +kernel
theorem dQ_keep_21 : decode cQ_keep 21 = .ok (.aload_n 0, 1) := by decide +kernel
theorem dQ_keep_22 : decode cQ_keep 22 = .ok (.iconst 1, 1) := by decide +kernel
theorem dQ_keep_23 : decode cQ_keep 23 = .ok (.putfield 18, 3) := by decide +kernel
theorem dQ_keep_26 : decode cQ_keep 26 = .ok (.return_, 1) := by decide +kernel
theorem dQ_quotientAt_0 : decode cQ_quotientAt 0 = .ok (.iconst 0, 1) := by decide +kernel
theorem dQ_quotientAt_1 : decode cQ_quotientAt 1 = .ok (.istore_n 2, 1) := by decide +kernel
theorem dQ_quotientAt_2 : decode cQ_quotientAt 2 = .ok (.bipush 15, 2) := by decide +kernel
theorem dQ_quotientAt_4 : decode cQ_quotientAt 4 = .ok (.istore_n 3, 1) := by decide +kernel
theorem dQ_quotientAt_5 : decode cQ_quotientAt 5 = .ok (.iload_n 3, 1) := by decide +kernel
theorem dQ_quotientAt_6 : decode cQ_quotientAt 6 = .ok (.ifCond .lt 24, 3) := by decide +kernel
theorem dQ_quotientAt_9 : decode cQ_quotientAt 9 = .ok (.iload_n 2, 1) := by decide +kernel
theorem dQ_quotientAt_10 : decode cQ_quotientAt 10 = .ok (.iload_n 1, 1) := by decide +kernel
theorem dQ_quotientAt_11 : decode cQ_quotientAt 11 = .ok (.invokestatic 22, 3) := by decide +kernel
theorem dQ_quotientAt_14 : decode cQ_quotientAt 14 = .ok (.aload_n 0, 1) := by decide +kernel
theorem dQ_quotientAt_15 : decode cQ_quotientAt 15 = .ok (.getfield 15, 3) := by decide +kernel
theorem dQ_quotientAt_18 : decode cQ_quotientAt 18 = .ok (.iload_n 3, 1) := by decide +kernel
theorem dQ_quotientAt_19 : decode cQ_quotientAt 19 = .ok (.iaload, 1) := by decide +kernel
theorem dQ_quotientAt_20 : decode cQ_quotientAt 20 = .ok (.invokestatic 28, 3) := by decide +kernel
theorem dQ_quotientAt_23 : decode cQ_quotientAt 23 = .ok (.istore_n 2, 1) := by decide +kernel
theorem dQ_quotientAt_24 : decode cQ_quotientAt 24 = .ok (.iinc 3 (-1), 3) := by decide +kernel
theorem dQ_quotientAt_27 : decode cQ_quotientAt 27 = .ok (.goto (-22), 3) := by decide +kernel
theorem dQ_quotientAt_30 : decode cQ_quotientAt 30 = .ok (.iload_n 2, 1) := by decide +kernel
theorem dQ_quotientAt_31 : decode cQ_quotientAt 31 = .ok (.ireturn, 1) := by decide +kernel
theorem dQ_quotientCoefficient_0 : decode cQ_quotientCoefficient 0 = .ok (.aload_n 0, 1) := by decide +kernel
theorem dQ_quotientCoefficient_1 : decode cQ_quotientCoefficient 1 = .ok (.getfield 15, 3) := by decide +kernel
theorem dQ_quotientCoefficient_4 : decode cQ_quotientCoefficient 4 = .ok (.iload_n 1, 1) := by decide +kernel
theorem dQ_quotientCoefficient_5 : decode cQ_quotientCoefficient 5 = .ok (.iaload, 1) := by decide +kernel
theorem dQ_quotientCoefficient_6 : decode cQ_quotientCoefficient 6 = .ok (.ireturn, 1) := by decide +kernel
theorem dQ_setElement_0 : decode cQ_setElement 0 = .ok (.aload_n 0, 1) := by decide +kernel
theorem dQ_setElement_1 : decode cQ_setElement 1 = .ok (.getfield 9, 3) := by decide +kernel
theorem dQ_setElement_4 : decode cQ_setElement 4 = .ok (.iload_n 1, 1) := by decide +kernel
theorem dQ_setElement_5 : decode cQ_setElement 5 = .ok (.iload_n 2, 1) := by decide +kernel
theorem dQ_setElement_6 : decode cQ_setElement 6 = .ok (.iastore, 1) := by decide +kernel
theorem dQ_setElement_7 : decode cQ_setElement 7 = .ok (.return_, 1) := by decide +kernel
