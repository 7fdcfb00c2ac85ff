theorem dG_init_0 : decode bG_init 0 = .ok (.aload_n 0, 1) := by decide +kernel
theorem dG_init_1 : decode bG_init 1 = .ok (.invokespecial 1, 3) := by decide +kernel
theorem dG_init_4 : decode bG_init 4 = .ok (.aload_n 0, 1) := by decide +kernel
theorem dG_init_5 : decode bG_init 5 = .ok (.new 7, 3) := by decide +kernel
theorem dG_init_8 : decode bG_init 8 = .ok (.dup, 1) := by decide +kernel
theorem dG_init_9 : decode bG_init 9 = .ok (.invokespecial 9, 3) := by decide +kernel
theorem dG_init_12 : decode bG_init 12 = .ok (.putfield 10, 3) := by decide +kernel
theorem dG_init_15 : decode bG_init 15 = .ok (.aload_n 0, 1) := by decide +kernel
theorem dG_init_16 : decode bG_init 16 = .ok (.new 16, 3) := by decide +kernel
theorem dG_init_19 : decode bG_init 19 = .ok (.dup, 1) := by decide +kernel
theorem dG_init_20 : decode bG_init 20 = .ok (.aload_n 0, 1) := by decide +kernel
theorem dG_init_21 : decode bG_init 21 = .ok (.getfield 10, 3) := by decide +kernel
theorem dG_init_24 : decode bG_init 24 = .ok (.invokespecial 18, 3) := by decide +kernel
theorem dG_init_27 : decode bG_init 27 = .ok (.putfield 21, 3) := by decide +kernel
theorem dG_init_30 : decode bG_init 30 = .ok (.aload_n 0, 1) := by decide +kernel
theorem dG_init_31 : decode bG_init 31 = .ok (.new 16, 3) := by decide +kernel
theorem dG_init_34 : decode bG_init 34 = .ok (.dup, 1) := by decide +kernel
theorem dG_init_35 : decode bG_init 35 = .ok (.aload_n 0, 1) := by decide +kernel
theorem dG_init_36 : decode bG_init 36 = .ok (.getfield 10, 3) := by decide +kernel
theorem dG_init_39 : decode bG_init 39 = .ok (.invokespecial 18, 3) := by decide +kernel
theorem dG_init_42 : decode bG_init 42 = .ok (.putfield 25, 3) := by decide +kernel
theorem dG_init_45 : decode bG_init 45 = .ok (.aload_n 0, 1) := by decide +kernel
theorem dG_init_46 : decode bG_init 46 = .ok (.new 28, 3) := by decide +kernel
theorem dG_init_49 : decode bG_init 49 = .ok (.dup, 1) := by decide +kernel
theorem dG_init_50 : decode bG_init 50 = .ok (.invokespecial 30, 3) := by decide +kernel
theorem dG_init_53 : decode bG_init 53 = .ok (.putfield 31, 3) := by decide +kernel
theorem dG_init_56 : decode bG_init 56 = .ok (.aload_n 0, 1) := by decide +kernel
theorem dG_init_57 : decode bG_init 57 = .ok (.new 35, 3) := by decide +kernel
theorem dG_init_60 : decode bG_init 60 = .ok (.dup, 1) := by decide +kernel
theorem dG_init_61 : decode bG_init 61 = .ok (.invokespecial 37, 3) := by decide +kernel
theorem dG_init_64 : decode bG_init 64 = .ok (.putfield 38, 3) := by decide +kernel
theorem dG_init_67 : decode bG_init 67 = .ok (.aload_n 0, 1) := by decide +kernel
theorem dG_init_68 : decode bG_init 68 = .ok (.new 42, 3) := by decide +kernel
theorem dG_init_71 : decode bG_init 71 = .ok (.dup, 1) := by decide +kernel
theorem dG_init_72 : decode bG_init 72 = .ok (.invokespecial 44, 3) := by decide +kernel
theorem dG_init_75 : decode bG_init 75 = .ok (.putfield 45, 3) := by decide +kernel
theorem dG_init_78 : decode bG_init 78 = .ok (.aload_n 0, 1) := by decide +kernel
theorem dG_init_79 : decode bG_init 79 = .ok (.new 49, 3) := by decide +kernel
theorem dG_init_82 : decode bG_init 82 = .ok (.dup, 1) := by decide +kernel
theorem dG_init_83 : decode bG_init 83 = .ok (.invokespecial 51, 3) := by decide +kernel
theorem dG_init_86 : decode bG_init 86 = .ok (.putfield 52, 3) := by decide +kernel
theorem dG_init_89 : decode bG_init 89 = .ok (.aload_n 0, 1) := by decide +kernel
theorem dG_init_90 : decode bG_init 90 = .ok (.iconst 0, 1) := by decide +kernel
theorem dG_init_91 : decode bG_init 91 = .ok (.putfield 56, 3) := by decide +kernel
theorem dG_init_94 : decode bG_init 94 = .ok (.aload_n 0, 1) := by decide +kernel
theorem dG_init_95 : decode bG_init 95 = .ok (.bipush 50, 2) := by decide +kernel
theorem dG_init_97 : decode bG_init 97 = .ok (.putfield 60, 3) := by decide +kernel
theorem dG_init_100 : decode bG_init 100 = .ok (.return_, 1) := by decide +kernel
theorem dG_sieve_0 : decode bG_sieve 0 = .ok (.iload_n 1, 1) := by decide +kernel
theorem dG_sieve_1 : decode bG_sieve 1 = .ok (.iload_n 2, 1) := by decide +kernel
theorem dG_sieve_2 : decode bG_sieve 2 = .ok (.invokestatic 64, 3) := by decide +kernel
theorem dG_sieve_5 : decode bG_sieve 5 = .ok (.ifCond .eq 15, 3) := by decide +kernel
theorem dG_sieve_8 : decode bG_sieve 8 = .ok (.aload_n 0, 1) := by decide +kernel
theorem dG_sieve_9 : decode bG_sieve 9 = .ok (.getfield 10, 3) := by decide +kernel
theorem dG_sieve_12 : decode bG_sieve 12 = .ok (.getfield 68, 3) := by decide +kernel
theorem dG_sieve_15 : decode bG_sieve 15 = .ok (.bipush 6, 2) := by decide +kernel
theorem dG_sieve_17 : decode bG_sieve 17 = .ok (.if_icmp .lt 5, 3) := by decide +kernel
theorem dG_sieve_20 : decode bG_sieve 20 = .ok (.iconst (-1), 1) := by decide +kernel
theorem dG_sieve_21 : decode bG_sieve 21 = .ok (.ireturn, 1) := by decide +kernel
theorem dG_sieve_22 : decode bG_sieve 22 = .ok (.aload_n 0, 1) := by decide +kernel
theorem dG_sieve_23 : decode bG_sieve 23 = .ok (.getfield 10, 3) := by decide +kernel
theorem dG_sieve_26 : decode bG_sieve 26 = .ok (.getfield 68, 3) := by decide +kernel
theorem dG_sieve_29 : decode bG_sieve 29 = .ok (.istore_n 3, 1) := by decide +kernel
theorem dG_sieve_30 : decode bG_sieve 30 = .ok (.aload_n 0, 1) := by decide +kernel
theorem dG_sieve_31 : decode bG_sieve 31 = .ok (.getfield 10, 3) := by decide +kernel
theorem dG_sieve_34 : decode bG_sieve 34 = .ok (.dup, 1) := by decide +kernel
theorem dG_sieve_35 : decode bG_sieve 35 = .ok (.getfield 68, 3) := by decide +kernel
theorem dG_sieve_38 : decode bG_sieve 38 = .ok (.iconst 1, 1) := by decide +kernel
theorem dG_sieve_39 : decode bG_sieve 39 = .ok (.iadd, 1) := by decide +kernel
theorem dG_sieve_40 : decode bG_sieve 40 = .ok (.putfield 68, 3) := by decide +kernel
theorem dG_sieve_43 : decode bG_sieve 43 = .ok (.aload_n 0, 1) := by decide +kernel
theorem dG_sieve_44 : decode bG_sieve 44 = .ok (.getfield 10, 3) := by decide +kernel
theorem dG_sieve_47 : decode bG_sieve 47 = .ok (.iload_n 3, 1) := by decide +kernel
theorem dG_sieve_48 : decode bG_sieve 48 = .ok (.iload_n 1, 1) := by decide +kernel
theorem dG_sieve_49 : decode bG_sieve 49 = .ok (.iload_n 2, 1) := by decide +kernel
theorem dG_sieve_50 : decode bG_sieve 50 = .ok (.invokevirtual 71, 3) := by decide +kernel
theorem dG_sieve_53 : decode bG_sieve 53 = .ok (.aload_n 0, 1) := by decide +kernel
theorem dG_sieve_54 : decode bG_sieve 54 = .ok (.invokevirtual 75, 3) := by decide +kernel
theorem dG_sieve_57 : decode bG_sieve 57 = .ok (.iload_n 3, 1) := by decide +kernel
theorem dG_sieve_58 : decode bG_sieve 58 = .ok (.ireturn, 1) := by decide +kernel
theorem dG_band_0 : decode bG_band 0 = .ok (.aload_n 0, 1) := by decide +kernel
theorem dG_band_1 : decode bG_band 1 = .ok (.getfield 10, 3) := by decide +kernel
theorem dG_band_4 : decode bG_band 4 = .ok (.iload_n 1, 1) := by decide +kernel
theorem dG_band_5 : decode bG_band 5 = .ok (.invokevirtual 78, 3) := by decide +kernel
theorem dG_band_8 : decode bG_band 8 = .ok (.ifCond .eq 11, 3) := by decide +kernel
theorem dG_band_11 : decode bG_band 11 = .ok (.iload_n 2, 1) := by decide +kernel
theorem dG_band_12 : decode bG_band 12 = .ok (.iload_n 3, 1) := by decide +kernel
theorem dG_band_13 : decode bG_band 13 = .ok (.invokestatic 64, 3) := by decide +kernel
theorem dG_band_16 : decode bG_band 16 = .ok (.ifCond .ne 5, 3) := by decide +kernel
theorem dG_band_19 : decode bG_band 19 = .ok (.iconst 0, 1) := by decide +kernel
theorem dG_band_20 : decode bG_band 20 = .ok (.ireturn, 1) := by decide +kernel
theorem dG_band_21 : decode bG_band 21 = .ok (.aload_n 0, 1) := by decide +kernel
theorem dG_band_22 : decode bG_band 22 = .ok (.getfield 10, 3) := by decide +kernel
theorem dG_band_25 : decode bG_band 25 = .ok (.iload_n 1, 1) := by decide +kernel
theorem dG_band_26 : decode bG_band 26 = .ok (.iload_n 2, 1) := by decide +kernel
theorem dG_band_27 : decode bG_band 27 = .ok (.iload_n 3, 1) := by decide +kernel
theorem dG_band_28 : decode bG_band 28 = .ok (.invokevirtual 71, 3) := by decide +kernel
theorem dG_band_31 : decode bG_band 31 = .ok (.aload_n 0, 1) := by decide +kernel
theorem dG_band_32 : decode bG_band 32 = .ok (.invokevirtual 75, 3) := by decide +kernel
theorem dG_band_35 : decode bG_band 35 = .ok (.iconst 1, 1) := by decide +kernel
theorem dG_band_36 : decode bG_band 36 = .ok (.ireturn, 1) := by decide +kernel
theorem dG_stock_0 : decode bG_stock 0 = .ok (.iconst 0, 1) := by decide +kernel
theorem dG_stock_1 : decode bG_stock 1 = .ok (.iload_n 2, 1) := by decide +kernel
theorem dG_stock_2 : decode bG_stock 2 = .ok (.if_icmp .gt 18, 3) := by decide +kernel
theorem dG_stock_5 : decode bG_stock 5 = .ok (.iload_n 2, 1) := by decide +kernel
theorem dG_stock_6 : decode bG_stock 6 = .ok (.iload_n 3, 1) := by decide +kernel
theorem dG_stock_7 : decode bG_stock 7 = .ok (.if_icmp .gt 13, 3) := by decide +kernel
theorem dG_stock_10 : decode bG_stock 10 = .ok (.iload_n 3, 1) := by decide +kernel
theorem dG_stock_11 : decode bG_stock 11 = .ok (.bipush 100, 2) := by decide +kernel
theorem dG_stock_13 : decode bG_stock 13 = .ok (.if_icmp .gt 7, 3) := by decide +kernel
theorem dG_stock_16 : decode bG_stock 16 = .ok (.iconst 1, 1) := by decide +kernel
theorem dG_stock_17 : decode bG_stock 17 = .ok (.goto 4, 3) := by decide +kernel
theorem dG_stock_20 : decode bG_stock 20 = .ok (.iconst 0, 1) := by decide +kernel
theorem dG_stock_21 : decode bG_stock 21 = .ok (.istore 5, 2) := by decide +kernel
theorem dG_stock_23 : decode bG_stock 23 = .ok (.iload_n 1, 1) := by decide +kernel
theorem dG_stock_24 : decode bG_stock 24 = .ok (.iconst 0, 1) := by decide +kernel
theorem dG_stock_25 : decode bG_stock 25 = .ok (.ldc 82, 2) := by decide +kernel
theorem dG_stock_27 : decode bG_stock 27 = .ok (.invokestatic 83, 3) := by decide +kernel
theorem dG_stock_30 : decode bG_stock 30 = .ok (.ifCond .eq 19, 3) := by decide +kernel
theorem dG_stock_33 : decode bG_stock 33 = .ok (.iload 5, 2) := by decide +kernel
theorem dG_stock_35 : decode bG_stock 35 = .ok (.ifCond .eq 14, 3) := by decide +kernel
theorem dG_stock_38 : decode bG_stock 38 = .ok (.aload_n 0, 1) := by decide +kernel
theorem dG_stock_39 : decode bG_stock 39 = .ok (.getfield 10, 3) := by decide +kernel
theorem dG_stock_42 : decode bG_stock 42 = .ok (.getfield 87, 3) := by decide +kernel
theorem dG_stock_45 : decode bG_stock 45 = .ok (.iconst 4, 1) := by decide +kernel
theorem dG_stock_46 : decode bG_stock 46 = .ok (.if_icmp .lt 5, 3) := by decide +kernel
theorem dG_stock_49 : decode bG_stock 49 = .ok (.iconst (-1), 1) := by decide +kernel
theorem dG_stock_50 : decode bG_stock 50 = .ok (.ireturn, 1) := by decide +kernel
theorem dG_stock_51 : decode bG_stock 51 = .ok (.aload_n 0, 1) := by decide +kernel
theorem dG_stock_52 : decode bG_stock 52 = .ok (.getfield 10, 3) := by decide +kernel
theorem dG_stock_55 : decode bG_stock 55 = .ok (.getfield 87, 3) := by decide +kernel
theorem dG_stock_58 : decode bG_stock 58 = .ok (.istore 6, 2) := by decide +kernel
theorem dG_stock_60 : decode bG_stock 60 = .ok (.aload_n 0, 1) := by decide +kernel
theorem dG_stock_61 : decode bG_stock 61 = .ok (.getfield 10, 3) := by decide +kernel
theorem dG_stock_64 : decode bG_stock 64 = .ok (.dup, 1) := by decide +kernel
theorem dG_stock_65 : decode bG_stock 65 = .ok (.getfield 87, 3) := by decide +kernel
theorem dG_stock_68 : decode bG_stock 68 = .ok (.iconst 1, 1) := by decide +kernel
theorem dG_stock_69 : decode bG_stock 69 = .ok (.iadd, 1) := by decide +kernel
theorem dG_stock_70 : decode bG_stock 70 = .ok (.putfield 87, 3) := by decide +kernel
theorem dG_stock_73 : decode bG_stock 73 = .ok (.aload_n 0, 1) := by decide +kernel
theorem dG_stock_74 : decode bG_stock 74 = .ok (.getfield 10, 3) := by decide +kernel
theorem dG_stock_77 : decode bG_stock 77 = .ok (.iload 6, 2) := by decide +kernel
theorem dG_stock_79 : decode bG_stock 79 = .ok (.iload_n 1, 1) := by decide +kernel
theorem dG_stock_80 : decode bG_stock 80 = .ok (.iload_n 2, 1) := by decide +kernel
theorem dG_stock_81 : decode bG_stock 81 = .ok (.iload_n 3, 1) := by decide +kernel
theorem dG_stock_82 : decode bG_stock 82 = .ok (.iload 4, 2) := by decide +kernel
theorem dG_stock_84 : decode bG_stock 84 = .ok (.invokevirtual 90, 3) := by decide +kernel
theorem dG_stock_87 : decode bG_stock 87 = .ok (.aload_n 0, 1) := by decide +kernel
theorem dG_stock_88 : decode bG_stock 88 = .ok (.invokevirtual 75, 3) := by decide +kernel
theorem dG_stock_91 : decode bG_stock 91 = .ok (.iload 6, 2) := by decide +kernel
theorem dG_stock_93 : decode bG_stock 93 = .ok (.ireturn, 1) := by decide +kernel
theorem dG_passes_0 : decode bG_passes 0 = .ok (.aload_n 0, 1) := by decide +kernel
theorem dG_passes_1 : decode bG_passes 1 = .ok (.getfield 10, 3) := by decide +kernel
theorem dG_passes_4 : decode bG_passes 4 = .ok (.iload_n 1, 1) := by decide +kernel
theorem dG_passes_5 : decode bG_passes 5 = .ok (.invokevirtual 94, 3) := by decide +kernel
theorem dG_passes_8 : decode bG_passes 8 = .ok (.ifCond .eq 14, 3) := by decide +kernel
theorem dG_passes_11 : decode bG_passes 11 = .ok (.aload_n 0, 1) := by decide +kernel
theorem dG_passes_12 : decode bG_passes 12 = .ok (.getfield 10, 3) := by decide +kernel
theorem dG_passes_15 : decode bG_passes 15 = .ok (.iload_n 2, 1) := by decide +kernel
theorem dG_passes_16 : decode bG_passes 16 = .ok (.invokevirtual 78, 3) := by decide +kernel
theorem dG_passes_19 : decode bG_passes 19 = .ok (.ifCond .ne 5, 3) := by decide +kernel
theorem dG_passes_22 : decode bG_passes 22 = .ok (.iconst 0, 1) := by decide +kernel
theorem dG_passes_23 : decode bG_passes 23 = .ok (.ireturn, 1) := by decide +kernel
theorem dG_passes_24 : decode bG_passes 24 = .ok (.iload_n 3, 1) := by decide +kernel
theorem dG_passes_25 : decode bG_passes 25 = .ok (.iconst 0, 1) := by decide +kernel
theorem dG_passes_26 : decode bG_passes 26 = .ok (.sipush 1000, 3) := by decide +kernel
theorem dG_passes_29 : decode bG_passes 29 = .ok (.invokestatic 83, 3) := by decide +kernel
theorem dG_passes_32 : decode bG_passes 32 = .ok (.ifCond .eq 15, 3) := by decide +kernel
theorem dG_passes_35 : decode bG_passes 35 = .ok (.iload 4, 2) := by decide +kernel
theorem dG_passes_37 : decode bG_passes 37 = .ok (.iconst 0, 1) := by decide +kernel
theorem dG_passes_38 : decode bG_passes 38 = .ok (.sipush 300, 3) := by decide +kernel
theorem dG_passes_41 : decode bG_passes 41 = .ok (.invokestatic 83, 3) := by decide +kernel
theorem dG_passes_44 : decode bG_passes 44 = .ok (.ifCond .ne 5, 3) := by decide +kernel
theorem dG_passes_47 : decode bG_passes 47 = .ok (.iconst 0, 1) := by decide +kernel
theorem dG_passes_48 : decode bG_passes 48 = .ok (.ireturn, 1) := by decide +kernel
theorem dG_passes_49 : decode bG_passes 49 = .ok (.aload_n 0, 1) := by decide +kernel
theorem dG_passes_50 : decode bG_passes 50 = .ok (.getfield 10, 3) := by decide +kernel
theorem dG_passes_53 : decode bG_passes 53 = .ok (.iload_n 1, 1) := by decide +kernel
theorem dG_passes_54 : decode bG_passes 54 = .ok (.iload_n 2, 1) := by decide +kernel
theorem dG_passes_55 : decode bG_passes 55 = .ok (.iload_n 3, 1) := by decide +kernel
theorem dG_passes_56 : decode bG_passes 56 = .ok (.iload 4, 2) := by decide +kernel
theorem dG_passes_58 : decode bG_passes 58 = .ok (.invokevirtual 97, 3) := by decide +kernel
theorem dG_passes_61 : decode bG_passes 61 = .ok (.aload_n 0, 1) := by decide +kernel
theorem dG_passes_62 : decode bG_passes 62 = .ok (.invokevirtual 75, 3) := by decide +kernel
theorem dG_passes_65 : decode bG_passes 65 = .ok (.iconst 1, 1) := by decide +kernel
theorem dG_passes_66 : decode bG_passes 66 = .ok (.ireturn, 1) := by decide +kernel
theorem dG_cap_0 : decode bG_cap 0 = .ok (.iload_n 1, 1) := by decide +kernel
theorem dG_cap_1 : decode bG_cap 1 = .ok (.iconst 0, 1) := by decide +kernel
theorem dG_cap_2 : decode bG_cap 2 = .ok (.bipush 100, 2) := by decide +kernel
theorem dG_cap_4 : decode bG_cap 4 = .ok (.invokestatic 83, 3) := by decide +kernel
theorem dG_cap_7 : decode bG_cap 7 = .ok (.ifCond .ne 5, 3) := by decide +kernel
theorem dG_cap_10 : decode bG_cap 10 = .ok (.iconst (-1), 1) := by decide +kernel
theorem dG_cap_11 : decode bG_cap 11 = .ok (.ireturn, 1) := by decide +kernel
theorem dG_cap_12 : decode bG_cap 12 = .ok (.aload_n 0, 1) := by decide +kernel
theorem dG_cap_13 : decode bG_cap 13 = .ok (.getfield 10, 3) := by decide +kernel
theorem dG_cap_16 : decode bG_cap 16 = .ok (.getfield 101, 3) := by decide +kernel
theorem dG_cap_19 : decode bG_cap 19 = .ok (.istore_n 2, 1) := by decide +kernel
theorem dG_cap_20 : decode bG_cap 20 = .ok (.aload_n 0, 1) := by decide +kernel
theorem dG_cap_21 : decode bG_cap 21 = .ok (.getfield 10, 3) := by decide +kernel
theorem dG_cap_24 : decode bG_cap 24 = .ok (.iload_n 1, 1) := by decide +kernel
theorem dG_cap_25 : decode bG_cap 25 = .ok (.putfield 101, 3) := by decide +kernel
theorem dG_cap_28 : decode bG_cap 28 = .ok (.aload_n 0, 1) := by decide +kernel
theorem dG_cap_29 : decode bG_cap 29 = .ok (.invokevirtual 75, 3) := by decide +kernel
theorem dG_cap_32 : decode bG_cap 32 = .ok (.iload_n 2, 1) := by decide +kernel
theorem dG_cap_33 : decode bG_cap 33 = .ok (.ireturn, 1) := by decide +kernel
theorem dG_step_0 : decode bG_step 0 = .ok (.iload_n 1, 1) := by decide +kernel
theorem dG_step_1 : decode bG_step 1 = .ok (.iconst 1, 1) := by decide +kernel
theorem dG_step_2 : decode bG_step 2 = .ok (.if_icmp .lt 10, 3) := by decide +kernel
theorem dG_step_5 : decode bG_step 5 = .ok (.bipush 100, 2) := by decide +kernel
theorem dG_step_7 : decode bG_step 7 = .ok (.iload_n 1, 1) := by decide +kernel
theorem dG_step_8 : decode bG_step 8 = .ok (.irem, 1) := by decide +kernel
theorem dG_step_9 : decode bG_step 9 = .ok (.ifCond .eq 5, 3) := by decide +kernel
theorem dG_step_12 : decode bG_step 12 = .ok (.iconst (-1), 1) := by decide +kernel
theorem dG_step_13 : decode bG_step 13 = .ok (.ireturn, 1) := by decide +kernel
theorem dG_step_14 : decode bG_step 14 = .ok (.aload_n 0, 1) := by decide +kernel
theorem dG_step_15 : decode bG_step 15 = .ok (.getfield 10, 3) := by decide +kernel
theorem dG_step_18 : decode bG_step 18 = .ok (.getfield 104, 3) := by decide +kernel
theorem dG_step_21 : decode bG_step 21 = .ok (.istore_n 2, 1) := by decide +kernel
theorem dG_step_22 : decode bG_step 22 = .ok (.aload_n 0, 1) := by decide +kernel
theorem dG_step_23 : decode bG_step 23 = .ok (.getfield 10, 3) := by decide +kernel
theorem dG_step_26 : decode bG_step 26 = .ok (.iload_n 1, 1) := by decide +kernel
theorem dG_step_27 : decode bG_step 27 = .ok (.putfield 104, 3) := by decide +kernel
theorem dG_step_30 : decode bG_step 30 = .ok (.aload_n 0, 1) := by decide +kernel
theorem dG_step_31 : decode bG_step 31 = .ok (.invokevirtual 75, 3) := by decide +kernel
theorem dG_step_34 : decode bG_step 34 = .ok (.iload_n 2, 1) := by decide +kernel
theorem dG_step_35 : decode bG_step 35 = .ok (.ireturn, 1) := by decide +kernel
theorem dG_unit_0 : decode bG_unit 0 = .ok (.aload_n 0, 1) := by decide +kernel
theorem dG_unit_1 : decode bG_unit 1 = .ok (.getfield 31, 3) := by decide +kernel
theorem dG_unit_4 : decode bG_unit 4 = .ok (.iload_n 1, 1) := by decide +kernel
theorem dG_unit_5 : decode bG_unit 5 = .ok (.invokevirtual 107, 3) := by decide +kernel
theorem dG_unit_8 : decode bG_unit 8 = .ok (.ireturn, 1) := by decide +kernel
theorem dG_read_0 : decode bG_read 0 = .ok (.aload_n 0, 1) := by decide +kernel
theorem dG_read_1 : decode bG_read 1 = .ok (.getfield 31, 3) := by decide +kernel
theorem dG_read_4 : decode bG_read 4 = .ok (.aload_n 0, 1) := by decide +kernel
theorem dG_read_5 : decode bG_read 5 = .ok (.getfield 10, 3) := by decide +kernel
theorem dG_read_8 : decode bG_read 8 = .ok (.getfield 68, 3) := by decide +kernel
theorem dG_read_11 : decode bG_read 11 = .ok (.invokevirtual 110, 3) := by decide +kernel
theorem dG_read_14 : decode bG_read 14 = .ok (.istore_n 1, 1) := by decide +kernel
theorem dG_read_15 : decode bG_read 15 = .ok (.aload_n 0, 1) := by decide +kernel
theorem dG_read_16 : decode bG_read 16 = .ok (.getfield 31, 3) := by decide +kernel
theorem dG_read_19 : decode bG_read 19 = .ok (.invokevirtual 114, 3) := by decide +kernel
theorem dG_read_22 : decode bG_read 22 = .ok (.iload_n 1, 1) := by decide +kernel
theorem dG_read_23 : decode bG_read 23 = .ok (.ifCond .ge 5, 3) := by decide +kernel
theorem dG_read_26 : decode bG_read 26 = .ok (.iload_n 1, 1) := by decide +kernel
theorem dG_read_27 : decode bG_read 27 = .ok (.ireturn, 1) := by decide +kernel
theorem dG_read_28 : decode bG_read 28 = .ok (.iconst 0, 1) := by decide +kernel
theorem dG_read_29 : decode bG_read 29 = .ok (.istore_n 2, 1) := by decide +kernel
theorem dG_read_30 : decode bG_read 30 = .ok (.iload_n 2, 1) := by decide +kernel
theorem dG_read_31 : decode bG_read 31 = .ok (.iload_n 1, 1) := by decide +kernel
theorem dG_read_32 : decode bG_read 32 = .ok (.if_icmp .ge 41, 3) := by decide +kernel
theorem dG_read_35 : decode bG_read 35 = .ok (.iload_n 2, 1) := by decide +kernel
theorem dG_read_36 : decode bG_read 36 = .ok (.bipush 6, 2) := by decide +kernel
theorem dG_read_38 : decode bG_read 38 = .ok (.if_icmp .ge 35, 3) := by decide +kernel
theorem dG_read_41 : decode bG_read 41 = .ok (.aload_n 0, 1) := by decide +kernel
theorem dG_read_42 : decode bG_read 42 = .ok (.getfield 10, 3) := by decide +kernel
theorem dG_read_45 : decode bG_read 45 = .ok (.iload_n 2, 1) := by decide +kernel
theorem dG_read_46 : decode bG_read 46 = .ok (.aload_n 0, 1) := by decide +kernel
theorem dG_read_47 : decode bG_read 47 = .ok (.getfield 31, 3) := by decide +kernel
theorem dG_read_50 : decode bG_read 50 = .ok (.getfield 117, 3) := by decide +kernel
theorem dG_read_53 : decode bG_read 53 = .ok (.iload_n 2, 1) := by decide +kernel
theorem dG_read_54 : decode bG_read 54 = .ok (.iaload, 1) := by decide +kernel
theorem dG_read_55 : decode bG_read 55 = .ok (.aload_n 0, 1) := by decide +kernel
theorem dG_read_56 : decode bG_read 56 = .ok (.getfield 31, 3) := by decide +kernel
theorem dG_read_59 : decode bG_read 59 = .ok (.getfield 121, 3) := by decide +kernel
theorem dG_read_62 : decode bG_read 62 = .ok (.iload_n 2, 1) := by decide +kernel
theorem dG_read_63 : decode bG_read 63 = .ok (.iaload, 1) := by decide +kernel
theorem dG_read_64 : decode bG_read 64 = .ok (.invokevirtual 71, 3) := by decide +kernel
theorem dG_read_67 : decode bG_read 67 = .ok (.iinc 2 1, 3) := by decide +kernel
theorem dG_read_70 : decode bG_read 70 = .ok (.goto (-40), 3) := by decide +kernel
theorem dG_read_73 : decode bG_read 73 = .ok (.aload_n 0, 1) := by decide +kernel
theorem dG_read_74 : decode bG_read 74 = .ok (.invokevirtual 75, 3) := by decide +kernel
theorem dG_read_77 : decode bG_read 77 = .ok (.iload_n 1, 1) := by decide +kernel
theorem dG_read_78 : decode bG_read 78 = .ok (.ireturn, 1) := by decide +kernel
theorem dG_run_0 : decode bG_run 0 = .ok (.aload_n 0, 1) := by decide +kernel
theorem dG_run_1 : decode bG_run 1 = .ok (.invokevirtual 124, 3) := by decide +kernel
theorem dG_run_4 : decode bG_run 4 = .ok (.aload_n 0, 1) := by decide +kernel
theorem dG_run_5 : decode bG_run 5 = .ok (.aload_n 0, 1) := by decide +kernel
theorem dG_run_6 : decode bG_run 6 = .ok (.getfield 21, 3) := by decide +kernel
theorem dG_run_9 : decode bG_run 9 = .ok (.getfield 127, 3) := by decide +kernel
theorem dG_run_12 : decode bG_run 12 = .ok (.invokevirtual 130, 3) := by decide +kernel
theorem dG_run_15 : decode bG_run 15 = .ok (.ifCond .eq 13, 3) := by decide +kernel
theorem dG_run_18 : decode bG_run 18 = .ok (.aload_n 0, 1) := by decide +kernel
theorem dG_run_19 : decode bG_run 19 = .ok (.getfield 38, 3) := by decide +kernel
theorem dG_run_22 : decode bG_run 22 = .ok (.getfield 134, 3) := by decide +kernel
theorem dG_run_25 : decode bG_run 25 = .ok (.goto 4, 3) := by decide +kernel
theorem dG_run_28 : decode bG_run 28 = .ok (.iconst (-1), 1) := by decide +kernel
theorem dG_run_29 : decode bG_run 29 = .ok (.ireturn, 1) := by decide +kernel
theorem dG_near_0 : decode bG_near 0 = .ok (.aload_n 0, 1) := by decide +kernel
theorem dG_near_1 : decode bG_near 1 = .ok (.invokevirtual 124, 3) := by decide +kernel
theorem dG_near_4 : decode bG_near 4 = .ok (.aload_n 0, 1) := by decide +kernel
theorem dG_near_5 : decode bG_near 5 = .ok (.aload_n 0, 1) := by decide +kernel
theorem dG_near_6 : decode bG_near 6 = .ok (.getfield 21, 3) := by decide +kernel
theorem dG_near_9 : decode bG_near 9 = .ok (.getfield 137, 3) := by decide +kernel
theorem dG_near_12 : decode bG_near 12 = .ok (.invokevirtual 130, 3) := by decide +kernel
theorem dG_near_15 : decode bG_near 15 = .ok (.ifCond .eq 13, 3) := by decide +kernel
theorem dG_near_18 : decode bG_near 18 = .ok (.aload_n 0, 1) := by decide +kernel
theorem dG_near_19 : decode bG_near 19 = .ok (.getfield 38, 3) := by decide +kernel
theorem dG_near_22 : decode bG_near 22 = .ok (.getfield 140, 3) := by decide +kernel
theorem dG_near_25 : decode bG_near 25 = .ok (.goto 4, 3) := by decide +kernel
theorem dG_near_28 : decode bG_near 28 = .ok (.iconst (-1), 1) := by decide +kernel
theorem dG_near_29 : decode bG_near 29 = .ok (.ireturn, 1) := by decide +kernel
theorem dG_share_0 : decode bG_share 0 = .ok (.aload_n 0, 1) := by decide +kernel
theorem dG_share_1 : decode bG_share 1 = .ok (.getfield 38, 3) := by decide +kernel
theorem dG_share_4 : decode bG_share 4 = .ok (.getfield 143, 3) := by decide +kernel
theorem dG_share_7 : decode bG_share 7 = .ok (.ifCond .eq 14, 3) := by decide +kernel
theorem dG_share_10 : decode bG_share 10 = .ok (.aload_n 0, 1) := by decide +kernel
theorem dG_share_11 : decode bG_share 11 = .ok (.getfield 10, 3) := by decide +kernel
theorem dG_share_14 : decode bG_share 14 = .ok (.iload_n 1, 1) := by decide +kernel
theorem dG_share_15 : decode bG_share 15 = .ok (.invokevirtual 94, 3) := by decide +kernel
theorem dG_share_18 : decode bG_share 18 = .ok (.ifCond .ne 5, 3) := by decide +kernel
theorem dG_share_21 : decode bG_share 21 = .ok (.iconst (-1), 1) := by decide +kernel
theorem dG_share_22 : decode bG_share 22 = .ok (.ireturn, 1) := by decide +kernel
theorem dG_share_23 : decode bG_share 23 = .ok (.aload_n 0, 1) := by decide +kernel
theorem dG_share_24 : decode bG_share 24 = .ok (.getfield 38, 3) := by decide +kernel
theorem dG_share_27 : decode bG_share 27 = .ok (.getfield 146, 3) := by decide +kernel
theorem dG_share_30 : decode bG_share 30 = .ok (.iload_n 1, 1) := by decide +kernel
theorem dG_share_31 : decode bG_share 31 = .ok (.iaload, 1) := by decide +kernel
theorem dG_share_32 : decode bG_share 32 = .ok (.ireturn, 1) := by decide +kernel
theorem dG_told_0 : decode bG_told 0 = .ok (.aload_n 0, 1) := by decide +kernel
theorem dG_told_1 : decode bG_told 1 = .ok (.getfield 38, 3) := by decide +kernel
theorem dG_told_4 : decode bG_told 4 = .ok (.getfield 143, 3) := by decide +kernel
theorem dG_told_7 : decode bG_told 7 = .ok (.ifCond .eq 14, 3) := by decide +kernel
theorem dG_told_10 : decode bG_told 10 = .ok (.aload_n 0, 1) := by decide +kernel
theorem dG_told_11 : decode bG_told 11 = .ok (.getfield 10, 3) := by decide +kernel
theorem dG_told_14 : decode bG_told 14 = .ok (.iload_n 1, 1) := by decide +kernel
theorem dG_told_15 : decode bG_told 15 = .ok (.invokevirtual 78, 3) := by decide +kernel
theorem dG_told_18 : decode bG_told 18 = .ok (.ifCond .ne 5, 3) := by decide +kernel
theorem dG_told_21 : decode bG_told 21 = .ok (.iconst (-1), 1) := by decide +kernel
theorem dG_told_22 : decode bG_told 22 = .ok (.ireturn, 1) := by decide +kernel
theorem dG_told_23 : decode bG_told 23 = .ok (.iload_n 2, 1) := by decide +kernel
theorem dG_told_24 : decode bG_told 24 = .ok (.tableswitch 105 0 3 #[32, 52, 72, 92], 32) := by decide +kernel
theorem dG_told_56 : decode bG_told 56 = .ok (.aload_n 0, 1) := by decide +kernel
theorem dG_told_57 : decode bG_told 57 = .ok (.getfield 10, 3) := by decide +kernel
theorem dG_told_60 : decode bG_told 60 = .ok (.iload_n 1, 1) := by decide +kernel
theorem dG_told_61 : decode bG_told 61 = .ok (.aload_n 0, 1) := by decide +kernel
theorem dG_told_62 : decode bG_told 62 = .ok (.getfield 10, 3) := by decide +kernel
theorem dG_told_65 : decode bG_told 65 = .ok (.getfield 149, 3) := by decide +kernel
theorem dG_told_68 : decode bG_told 68 = .ok (.aload_n 0, 1) := by decide +kernel
theorem dG_told_69 : decode bG_told 69 = .ok (.getfield 38, 3) := by decide +kernel
theorem dG_told_72 : decode bG_told 72 = .ok (.invokevirtual 153, 3) := by decide +kernel
theorem dG_told_75 : decode bG_told 75 = .ok (.ireturn, 1) := by decide +kernel
theorem dG_told_76 : decode bG_told 76 = .ok (.aload_n 0, 1) := by decide +kernel
theorem dG_told_77 : decode bG_told 77 = .ok (.getfield 10, 3) := by decide +kernel
theorem dG_told_80 : decode bG_told 80 = .ok (.iload_n 1, 1) := by decide +kernel
theorem dG_told_81 : decode bG_told 81 = .ok (.aload_n 0, 1) := by decide +kernel
theorem dG_told_82 : decode bG_told 82 = .ok (.getfield 10, 3) := by decide +kernel
theorem dG_told_85 : decode bG_told 85 = .ok (.getfield 157, 3) := by decide +kernel
theorem dG_told_88 : decode bG_told 88 = .ok (.aload_n 0, 1) := by decide +kernel
theorem dG_told_89 : decode bG_told 89 = .ok (.getfield 38, 3) := by decide +kernel
theorem dG_told_92 : decode bG_told 92 = .ok (.invokevirtual 153, 3) := by decide +kernel
theorem dG_told_95 : decode bG_told 95 = .ok (.ireturn, 1) := by decide +kernel
theorem dG_told_96 : decode bG_told 96 = .ok (.aload_n 0, 1) := by decide +kernel
theorem dG_told_97 : decode bG_told 97 = .ok (.getfield 10, 3) := by decide +kernel
theorem dG_told_100 : decode bG_told 100 = .ok (.iload_n 1, 1) := by decide +kernel
theorem dG_told_101 : decode bG_told 101 = .ok (.aload_n 0, 1) := by decide +kernel
theorem dG_told_102 : decode bG_told 102 = .ok (.getfield 10, 3) := by decide +kernel
theorem dG_told_105 : decode bG_told 105 = .ok (.getfield 160, 3) := by decide +kernel
theorem dG_told_108 : decode bG_told 108 = .ok (.aload_n 0, 1) := by decide +kernel
theorem dG_told_109 : decode bG_told 109 = .ok (.getfield 38, 3) := by decide +kernel
theorem dG_told_112 : decode bG_told 112 = .ok (.invokevirtual 153, 3) := by decide +kernel
theorem dG_told_115 : decode bG_told 115 = .ok (.ireturn, 1) := by decide +kernel
theorem dG_told_116 : decode bG_told 116 = .ok (.aload_n 0, 1) := by decide +kernel
theorem dG_told_117 : decode bG_told 117 = .ok (.getfield 10, 3) := by decide +kernel
theorem dG_told_120 : decode bG_told 120 = .ok (.iload_n 1, 1) := by decide +kernel
theorem dG_told_121 : decode bG_told 121 = .ok (.aload_n 0, 1) := by decide +kernel
theorem dG_told_122 : decode bG_told 122 = .ok (.getfield 38, 3) := by decide +kernel
theorem dG_told_125 : decode bG_told 125 = .ok (.invokevirtual 163, 3) := by decide +kernel
theorem dG_told_128 : decode bG_told 128 = .ok (.ireturn, 1) := by decide +kernel
theorem dG_told_129 : decode bG_told 129 = .ok (.iconst (-1), 1) := by decide +kernel
theorem dG_told_130 : decode bG_told 130 = .ok (.ireturn, 1) := by decide +kernel
theorem dG_cost_0 : decode bG_cost 0 = .ok (.aload_n 0, 1) := by decide +kernel
theorem dG_cost_1 : decode bG_cost 1 = .ok (.getfield 38, 3) := by decide +kernel
theorem dG_cost_4 : decode bG_cost 4 = .ok (.getfield 143, 3) := by decide +kernel
theorem dG_cost_7 : decode bG_cost 7 = .ok (.ifCond .eq 13, 3) := by decide +kernel
theorem dG_cost_10 : decode bG_cost 10 = .ok (.aload_n 0, 1) := by decide +kernel
theorem dG_cost_11 : decode bG_cost 11 = .ok (.getfield 38, 3) := by decide +kernel
theorem dG_cost_14 : decode bG_cost 14 = .ok (.getfield 134, 3) := by decide +kernel
theorem dG_cost_17 : decode bG_cost 17 = .ok (.goto 4, 3) := by decide +kernel
theorem dG_cost_20 : decode bG_cost 20 = .ok (.iconst (-1), 1) := by decide +kernel
theorem dG_cost_21 : decode bG_cost 21 = .ok (.ireturn, 1) := by decide +kernel
theorem dG_lonely_0 : decode bG_lonely 0 = .ok (.aload_n 0, 1) := by decide +kernel
theorem dG_lonely_1 : decode bG_lonely 1 = .ok (.invokevirtual 124, 3) := by decide +kernel
theorem dG_lonely_4 : decode bG_lonely 4 = .ok (.aload_n 0, 1) := by decide +kernel
theorem dG_lonely_5 : decode bG_lonely 5 = .ok (.getfield 21, 3) := by decide +kernel
theorem dG_lonely_8 : decode bG_lonely 8 = .ok (.getfield 167, 3) := by decide +kernel
theorem dG_lonely_11 : decode bG_lonely 11 = .ok (.ifCond .ne 5, 3) := by decide +kernel
theorem dG_lonely_14 : decode bG_lonely 14 = .ok (.iconst (-1), 1) := by decide +kernel
theorem dG_lonely_15 : decode bG_lonely 15 = .ok (.ireturn, 1) := by decide +kernel
theorem dG_lonely_16 : decode bG_lonely 16 = .ok (.iconst 0, 1) := by decide +kernel
theorem dG_lonely_17 : decode bG_lonely 17 = .ok (.istore_n 2, 1) := by decide +kernel
theorem dG_lonely_18 : decode bG_lonely 18 = .ok (.iconst 0, 1) := by decide +kernel
theorem dG_lonely_19 : decode bG_lonely 19 = .ok (.istore_n 3, 1) := by decide +kernel
theorem dG_lonely_20 : decode bG_lonely 20 = .ok (.iload_n 3, 1) := by decide +kernel
theorem dG_lonely_21 : decode bG_lonely 21 = .ok (.aload_n 0, 1) := by decide +kernel
theorem dG_lonely_22 : decode bG_lonely 22 = .ok (.getfield 10, 3) := by decide +kernel
theorem dG_lonely_25 : decode bG_lonely 25 = .ok (.getfield 68, 3) := by decide +kernel
theorem dG_lonely_28 : decode bG_lonely 28 = .ok (.if_icmp .ge 31, 3) := by decide +kernel
theorem dG_lonely_31 : decode bG_lonely 31 = .ok (.aload_n 0, 1) := by decide +kernel
theorem dG_lonely_32 : decode bG_lonely 32 = .ok (.getfield 21, 3) := by decide +kernel
theorem dG_lonely_35 : decode bG_lonely 35 = .ok (.getfield 170, 3) := by decide +kernel
theorem dG_lonely_38 : decode bG_lonely 38 = .ok (.iload_n 3, 1) := by decide +kernel
theorem dG_lonely_39 : decode bG_lonely 39 = .ok (.baload, 1) := by decide +kernel
theorem dG_lonely_40 : decode bG_lonely 40 = .ok (.ifCond .ne 13, 3) := by decide +kernel
theorem dG_lonely_43 : decode bG_lonely 43 = .ok (.iload_n 2, 1) := by decide +kernel
theorem dG_lonely_44 : decode bG_lonely 44 = .ok (.iload_n 1, 1) := by decide +kernel
theorem dG_lonely_45 : decode bG_lonely 45 = .ok (.if_icmp .ne 5, 3) := by decide +kernel
theorem dG_lonely_48 : decode bG_lonely 48 = .ok (.iload_n 3, 1) := by decide +kernel
theorem dG_lonely_49 : decode bG_lonely 49 = .ok (.ireturn, 1) := by decide +kernel
theorem dG_lonely_50 : decode bG_lonely 50 = .ok (.iinc 2 1, 3) := by decide +kernel
theorem dG_lonely_53 : decode bG_lonely 53 = .ok (.iinc 3 1, 3) := by decide +kernel
theorem dG_lonely_56 : decode bG_lonely 56 = .ok (.goto (-36), 3) := by decide +kernel
theorem dG_lonely_59 : decode bG_lonely 59 = .ok (.iconst (-1), 1) := by decide +kernel
theorem dG_lonely_60 : decode bG_lonely 60 = .ok (.ireturn, 1) := by decide +kernel
theorem dG_worth_0 : decode bG_worth 0 = .ok (.aload_n 0, 1) := by decide +kernel
theorem dG_worth_1 : decode bG_worth 1 = .ok (.getfield 10, 3) := by decide +kernel
theorem dG_worth_4 : decode bG_worth 4 = .ok (.iload_n 1, 1) := by decide +kernel
theorem dG_worth_5 : decode bG_worth 5 = .ok (.invokevirtual 78, 3) := by decide +kernel
theorem dG_worth_8 : decode bG_worth 8 = .ok (.ifCond .eq 14, 3) := by decide +kernel
theorem dG_worth_11 : decode bG_worth 11 = .ok (.iload_n 3, 1) := by decide +kernel
theorem dG_worth_12 : decode bG_worth 12 = .ok (.iconst 0, 1) := by decide +kernel
theorem dG_worth_13 : decode bG_worth 13 = .ok (.sipush 1000, 3) := by decide +kernel
theorem dG_worth_16 : decode bG_worth 16 = .ok (.invokestatic 83, 3) := by decide +kernel
theorem dG_worth_19 : decode bG_worth 19 = .ok (.ifCond .ne 5, 3) := by decide +kernel
theorem dG_worth_22 : decode bG_worth 22 = .ok (.iconst (-1), 1) := by decide +kernel
theorem dG_worth_23 : decode bG_worth 23 = .ok (.ireturn, 1) := by decide +kernel
theorem dG_worth_24 : decode bG_worth 24 = .ok (.aload_n 0, 1) := by decide +kernel
theorem dG_worth_25 : decode bG_worth 25 = .ok (.invokevirtual 124, 3) := by decide +kernel
theorem dG_worth_28 : decode bG_worth 28 = .ok (.aload_n 0, 1) := by decide +kernel
theorem dG_worth_29 : decode bG_worth 29 = .ok (.getfield 21, 3) := by decide +kernel
theorem dG_worth_32 : decode bG_worth 32 = .ok (.getfield 127, 3) := by decide +kernel
theorem dG_worth_35 : decode bG_worth 35 = .ok (.getfield 143, 3) := by decide +kernel
theorem dG_worth_38 : decode bG_worth 38 = .ok (.ifCond .ne 5, 3) := by decide +kernel
theorem dG_worth_41 : decode bG_worth 41 = .ok (.iconst (-1), 1) := by decide +kernel
theorem dG_worth_42 : decode bG_worth 42 = .ok (.ireturn, 1) := by decide +kernel
theorem dG_worth_43 : decode bG_worth 43 = .ok (.aload_n 0, 1) := by decide +kernel
theorem dG_worth_44 : decode bG_worth 44 = .ok (.getfield 25, 3) := by decide +kernel
theorem dG_worth_47 : decode bG_worth 47 = .ok (.invokevirtual 174, 3) := by decide +kernel
theorem dG_worth_50 : decode bG_worth 50 = .ok (.aload_n 0, 1) := by decide +kernel
theorem dG_worth_51 : decode bG_worth 51 = .ok (.getfield 25, 3) := by decide +kernel
theorem dG_worth_54 : decode bG_worth 54 = .ok (.iload_n 1, 1) := by decide +kernel
theorem dG_worth_55 : decode bG_worth 55 = .ok (.iload_n 2, 1) := by decide +kernel
theorem dG_worth_56 : decode bG_worth 56 = .ok (.iload_n 3, 1) := by decide +kernel
theorem dG_worth_57 : decode bG_worth 57 = .ok (.invokevirtual 177, 3) := by decide +kernel
theorem dG_worth_60 : decode bG_worth 60 = .ok (.aload_n 0, 1) := by decide +kernel
theorem dG_worth_61 : decode bG_worth 61 = .ok (.getfield 25, 3) := by decide +kernel
theorem dG_worth_64 : decode bG_worth 64 = .ok (.invokevirtual 181, 3) := by decide +kernel
theorem dG_worth_67 : decode bG_worth 67 = .ok (.aload_n 0, 1) := by decide +kernel
theorem dG_worth_68 : decode bG_worth 68 = .ok (.getfield 21, 3) := by decide +kernel
theorem dG_worth_71 : decode bG_worth 71 = .ok (.getfield 127, 3) := by decide +kernel
theorem dG_worth_74 : decode bG_worth 74 = .ok (.getfield 134, 3) := by decide +kernel
theorem dG_worth_77 : decode bG_worth 77 = .ok (.aload_n 0, 1) := by decide +kernel
theorem dG_worth_78 : decode bG_worth 78 = .ok (.getfield 25, 3) := by decide +kernel
theorem dG_worth_81 : decode bG_worth 81 = .ok (.getfield 127, 3) := by decide +kernel
theorem dG_worth_84 : decode bG_worth 84 = .ok (.getfield 134, 3) := by decide +kernel
theorem dG_worth_87 : decode bG_worth 87 = .ok (.isub, 1) := by decide +kernel
theorem dG_worth_88 : decode bG_worth 88 = .ok (.ireturn, 1) := by decide +kernel
theorem dG_water_0 : decode bG_water 0 = .ok (.aload_n 0, 1) := by decide +kernel
theorem dG_water_1 : decode bG_water 1 = .ok (.getfield 10, 3) := by decide +kernel
theorem dG_water_4 : decode bG_water 4 = .ok (.iload_n 1, 1) := by decide +kernel
theorem dG_water_5 : decode bG_water 5 = .ok (.invokevirtual 94, 3) := by decide +kernel
theorem dG_water_8 : decode bG_water 8 = .ok (.ifCond .eq 14, 3) := by decide +kernel
theorem dG_water_11 : decode bG_water 11 = .ok (.iload_n 2, 1) := by decide +kernel
theorem dG_water_12 : decode bG_water 12 = .ok (.iconst 0, 1) := by decide +kernel
theorem dG_water_13 : decode bG_water 13 = .ok (.sipush 300, 3) := by decide +kernel
theorem dG_water_16 : decode bG_water 16 = .ok (.invokestatic 83, 3) := by decide +kernel
theorem dG_water_19 : decode bG_water 19 = .ok (.ifCond .ne 5, 3) := by decide +kernel
theorem dG_water_22 : decode bG_water 22 = .ok (.iconst (-1), 1) := by decide +kernel
theorem dG_water_23 : decode bG_water 23 = .ok (.ireturn, 1) := by decide +kernel
theorem dG_water_24 : decode bG_water 24 = .ok (.aload_n 0, 1) := by decide +kernel
theorem dG_water_25 : decode bG_water 25 = .ok (.getfield 10, 3) := by decide +kernel
theorem dG_water_28 : decode bG_water 28 = .ok (.getfield 184, 3) := by decide +kernel
theorem dG_water_31 : decode bG_water 31 = .ok (.iload_n 1, 1) := by decide +kernel
theorem dG_water_32 : decode bG_water 32 = .ok (.iaload, 1) := by decide +kernel
theorem dG_water_33 : decode bG_water 33 = .ok (.istore_n 3, 1) := by decide +kernel
theorem dG_water_34 : decode bG_water 34 = .ok (.aload_n 0, 1) := by decide +kernel
theorem dG_water_35 : decode bG_water 35 = .ok (.getfield 10, 3) := by decide +kernel
theorem dG_water_38 : decode bG_water 38 = .ok (.getfield 184, 3) := by decide +kernel
theorem dG_water_41 : decode bG_water 41 = .ok (.iload_n 1, 1) := by decide +kernel
theorem dG_water_42 : decode bG_water 42 = .ok (.iload_n 2, 1) := by decide +kernel
theorem dG_water_43 : decode bG_water 43 = .ok (.iastore, 1) := by decide +kernel
theorem dG_water_44 : decode bG_water 44 = .ok (.iload_n 3, 1) := by decide +kernel
theorem dG_water_45 : decode bG_water 45 = .ok (.ireturn, 1) := by decide +kernel
theorem dG_batch_0 : decode bG_batch 0 = .ok (.aload_n 0, 1) := by decide +kernel
theorem dG_batch_1 : decode bG_batch 1 = .ok (.getfield 38, 3) := by decide +kernel
theorem dG_batch_4 : decode bG_batch 4 = .ok (.getfield 143, 3) := by decide +kernel
theorem dG_batch_7 : decode bG_batch 7 = .ok (.ifCond .eq 13, 3) := by decide +kernel
theorem dG_batch_10 : decode bG_batch 10 = .ok (.iload_n 1, 1) := by decide +kernel
theorem dG_batch_11 : decode bG_batch 11 = .ok (.iconst 0, 1) := by decide +kernel
theorem dG_batch_12 : decode bG_batch 12 = .ok (.ldc 187, 2) := by decide +kernel
theorem dG_batch_14 : decode bG_batch 14 = .ok (.invokestatic 83, 3) := by decide +kernel
theorem dG_batch_17 : decode bG_batch 17 = .ok (.ifCond .ne 5, 3) := by decide +kernel
theorem dG_batch_20 : decode bG_batch 20 = .ok (.iconst (-1), 1) := by decide +kernel
theorem dG_batch_21 : decode bG_batch 21 = .ok (.ireturn, 1) := by decide +kernel
theorem dG_batch_22 : decode bG_batch 22 = .ok (.aload_n 0, 1) := by decide +kernel
theorem dG_batch_23 : decode bG_batch 23 = .ok (.getfield 45, 3) := by decide +kernel
theorem dG_batch_26 : decode bG_batch 26 = .ok (.iload_n 1, 1) := by decide +kernel
theorem dG_batch_27 : decode bG_batch 27 = .ok (.aload_n 0, 1) := by decide +kernel
theorem dG_batch_28 : decode bG_batch 28 = .ok (.getfield 38, 3) := by decide +kernel
theorem dG_batch_31 : decode bG_batch 31 = .ok (.aload_n 0, 1) := by decide +kernel
theorem dG_batch_32 : decode bG_batch 32 = .ok (.getfield 10, 3) := by decide +kernel
theorem dG_batch_35 : decode bG_batch 35 = .ok (.invokevirtual 188, 3) := by decide +kernel
theorem dG_batch_38 : decode bG_batch 38 = .ok (.ireturn, 1) := by decide +kernel
theorem dG_mass_0 : decode bG_mass 0 = .ok (.aload_n 0, 1) := by decide +kernel
theorem dG_mass_1 : decode bG_mass 1 = .ok (.getfield 45, 3) := by decide +kernel
theorem dG_mass_4 : decode bG_mass 4 = .ok (.getfield 192, 3) := by decide +kernel
theorem dG_mass_7 : decode bG_mass 7 = .ok (.ifCond .eq 14, 3) := by decide +kernel
theorem dG_mass_10 : decode bG_mass 10 = .ok (.aload_n 0, 1) := by decide +kernel
theorem dG_mass_11 : decode bG_mass 11 = .ok (.getfield 10, 3) := by decide +kernel
theorem dG_mass_14 : decode bG_mass 14 = .ok (.iload_n 1, 1) := by decide +kernel
theorem dG_mass_15 : decode bG_mass 15 = .ok (.invokevirtual 94, 3) := by decide +kernel
theorem dG_mass_18 : decode bG_mass 18 = .ok (.ifCond .ne 5, 3) := by decide +kernel
theorem dG_mass_21 : decode bG_mass 21 = .ok (.iconst (-1), 1) := by decide +kernel
theorem dG_mass_22 : decode bG_mass 22 = .ok (.ireturn, 1) := by decide +kernel
theorem dG_mass_23 : decode bG_mass 23 = .ok (.iload_n 2, 1) := by decide +kernel
theorem dG_mass_24 : decode bG_mass 24 = .ok (.ifCond .eq 15, 3) := by decide +kernel
theorem dG_mass_27 : decode bG_mass 27 = .ok (.aload_n 0, 1) := by decide +kernel
theorem dG_mass_28 : decode bG_mass 28 = .ok (.getfield 45, 3) := by decide +kernel
theorem dG_mass_31 : decode bG_mass 31 = .ok (.getfield 193, 3) := by decide +kernel
theorem dG_mass_34 : decode bG_mass 34 = .ok (.iload_n 1, 1) := by decide +kernel
theorem dG_mass_35 : decode bG_mass 35 = .ok (.iaload, 1) := by decide +kernel
theorem dG_mass_36 : decode bG_mass 36 = .ok (.goto 12, 3) := by decide +kernel
theorem dG_mass_39 : decode bG_mass 39 = .ok (.aload_n 0, 1) := by decide +kernel
theorem dG_mass_40 : decode bG_mass 40 = .ok (.getfield 45, 3) := by decide +kernel
theorem dG_mass_43 : decode bG_mass 43 = .ok (.getfield 196, 3) := by decide +kernel
theorem dG_mass_46 : decode bG_mass 46 = .ok (.iload_n 1, 1) := by decide +kernel
theorem dG_mass_47 : decode bG_mass 47 = .ok (.iaload, 1) := by decide +kernel
theorem dG_mass_48 : decode bG_mass 48 = .ok (.ireturn, 1) := by decide +kernel
theorem dG_limit_0 : decode bG_limit 0 = .ok (.iload_n 1, 1) := by decide +kernel
theorem dG_limit_1 : decode bG_limit 1 = .ok (.iconst 1, 1) := by decide +kernel
theorem dG_limit_2 : decode bG_limit 2 = .ok (.sipush 1000, 3) := by decide +kernel
theorem dG_limit_5 : decode bG_limit 5 = .ok (.invokestatic 83, 3) := by decide +kernel
theorem dG_limit_8 : decode bG_limit 8 = .ok (.ifCond .ne 5, 3) := by decide +kernel
theorem dG_limit_11 : decode bG_limit 11 = .ok (.iconst (-1), 1) := by decide +kernel
theorem dG_limit_12 : decode bG_limit 12 = .ok (.ireturn, 1) := by decide +kernel
theorem dG_limit_13 : decode bG_limit 13 = .ok (.aload_n 0, 1) := by decide +kernel
theorem dG_limit_14 : decode bG_limit 14 = .ok (.getfield 60, 3) := by decide +kernel
theorem dG_limit_17 : decode bG_limit 17 = .ok (.istore_n 2, 1) := by decide +kernel
theorem dG_limit_18 : decode bG_limit 18 = .ok (.aload_n 0, 1) := by decide +kernel
theorem dG_limit_19 : decode bG_limit 19 = .ok (.iload_n 1, 1) := by decide +kernel
theorem dG_limit_20 : decode bG_limit 20 = .ok (.putfield 60, 3) := by decide +kernel
theorem dG_limit_23 : decode bG_limit 23 = .ok (.iload_n 2, 1) := by decide +kernel
theorem dG_limit_24 : decode bG_limit 24 = .ok (.ireturn, 1) := by decide +kernel
theorem dG_test_0 : decode bG_test 0 = .ok (.aload_n 0, 1) := by decide +kernel
theorem dG_test_1 : decode bG_test 1 = .ok (.getfield 10, 3) := by decide +kernel
theorem dG_test_4 : decode bG_test 4 = .ok (.iload_n 1, 1) := by decide +kernel
theorem dG_test_5 : decode bG_test 5 = .ok (.invokevirtual 78, 3) := by decide +kernel
theorem dG_test_8 : decode bG_test 8 = .ok (.ifCond .eq 26, 3) := by decide +kernel
theorem dG_test_11 : decode bG_test 11 = .ok (.iload_n 2, 1) := by decide +kernel
theorem dG_test_12 : decode bG_test 12 = .ok (.iconst 0, 1) := by decide +kernel
theorem dG_test_13 : decode bG_test 13 = .ok (.sipush 1000, 3) := by decide +kernel
theorem dG_test_16 : decode bG_test 16 = .ok (.invokestatic 83, 3) := by decide +kernel
theorem dG_test_19 : decode bG_test 19 = .ok (.ifCond .eq 15, 3) := by decide +kernel
theorem dG_test_22 : decode bG_test 22 = .ok (.aload_n 0, 1) := by decide +kernel
theorem dG_test_23 : decode bG_test 23 = .ok (.getfield 52, 3) := by decide +kernel
theorem dG_test_26 : decode bG_test 26 = .ok (.getfield 199, 3) := by decide +kernel
theorem dG_test_29 : decode bG_test 29 = .ok (.bipush 100, 2) := by decide +kernel
theorem dG_test_31 : decode bG_test 31 = .ok (.if_icmp .lt 5, 3) := by decide +kernel
theorem dG_test_34 : decode bG_test 34 = .ok (.iconst (-1), 1) := by decide +kernel
theorem dG_test_35 : decode bG_test 35 = .ok (.ireturn, 1) := by decide +kernel
theorem dG_test_36 : decode bG_test 36 = .ok (.aload_n 0, 1) := by decide +kernel
theorem dG_test_37 : decode bG_test 37 = .ok (.getfield 52, 3) := by decide +kernel
theorem dG_test_40 : decode bG_test 40 = .ok (.iload_n 1, 1) := by decide +kernel
theorem dG_test_41 : decode bG_test 41 = .ok (.iload_n 2, 1) := by decide +kernel
theorem dG_test_42 : decode bG_test 42 = .ok (.invokevirtual 202, 3) := by decide +kernel
theorem dG_test_45 : decode bG_test 45 = .ok (.aload_n 0, 1) := by decide +kernel
theorem dG_test_46 : decode bG_test 46 = .ok (.iload_n 1, 1) := by decide +kernel
theorem dG_test_47 : decode bG_test 47 = .ok (.iload_n 2, 1) := by decide +kernel
theorem dG_test_48 : decode bG_test 48 = .ok (.invokevirtual 206, 3) := by decide +kernel
theorem dG_test_51 : decode bG_test 51 = .ok (.istore_n 3, 1) := by decide +kernel
theorem dG_test_52 : decode bG_test 52 = .ok (.iload_n 3, 1) := by decide +kernel
theorem dG_test_53 : decode bG_test 53 = .ok (.ifCond .eq 12, 3) := by decide +kernel
theorem dG_test_56 : decode bG_test 56 = .ok (.aload_n 0, 1) := by decide +kernel
theorem dG_test_57 : decode bG_test 57 = .ok (.getfield 52, 3) := by decide +kernel
theorem dG_test_60 : decode bG_test 60 = .ok (.iload_n 1, 1) := by decide +kernel
theorem dG_test_61 : decode bG_test 61 = .ok (.iload_n 3, 1) := by decide +kernel
theorem dG_test_62 : decode bG_test 62 = .ok (.invokevirtual 210, 3) := by decide +kernel
theorem dG_test_65 : decode bG_test 65 = .ok (.iload_n 3, 1) := by decide +kernel
theorem dG_test_66 : decode bG_test 66 = .ok (.ireturn, 1) := by decide +kernel
theorem dG_fired_0 : decode bG_fired 0 = .ok (.iload_n 1, 1) := by decide +kernel
theorem dG_fired_1 : decode bG_fired 1 = .ok (.ifCond .lt 14, 3) := by decide +kernel
theorem dG_fired_4 : decode bG_fired 4 = .ok (.iload_n 1, 1) := by decide +kernel
theorem dG_fired_5 : decode bG_fired 5 = .ok (.aload_n 0, 1) := by decide +kernel
theorem dG_fired_6 : decode bG_fired 6 = .ok (.getfield 52, 3) := by decide +kernel
theorem dG_fired_9 : decode bG_fired 9 = .ok (.getfield 213, 3) := by decide +kernel
theorem dG_fired_12 : decode bG_fired 12 = .ok (.if_icmp .lt 5, 3) := by decide +kernel
theorem dG_fired_15 : decode bG_fired 15 = .ok (.iconst (-1), 1) := by decide +kernel
theorem dG_fired_16 : decode bG_fired 16 = .ok (.ireturn, 1) := by decide +kernel
theorem dG_fired_17 : decode bG_fired 17 = .ok (.iload_n 2, 1) := by decide +kernel
theorem dG_fired_18 : decode bG_fired 18 = .ok (.tableswitch 56 0 2 #[26, 36, 46], 26) := by decide +kernel
theorem dG_fired_44 : decode bG_fired 44 = .ok (.aload_n 0, 1) := by decide +kernel
theorem dG_fired_45 : decode bG_fired 45 = .ok (.getfield 52, 3) := by decide +kernel
theorem dG_fired_48 : decode bG_fired 48 = .ok (.getfield 216, 3) := by decide +kernel
theorem dG_fired_51 : decode bG_fired 51 = .ok (.iload_n 1, 1) := by decide +kernel
theorem dG_fired_52 : decode bG_fired 52 = .ok (.iaload, 1) := by decide +kernel
theorem dG_fired_53 : decode bG_fired 53 = .ok (.ireturn, 1) := by decide +kernel
theorem dG_fired_54 : decode bG_fired 54 = .ok (.aload_n 0, 1) := by decide +kernel
theorem dG_fired_55 : decode bG_fired 55 = .ok (.getfield 52, 3) := by decide +kernel
theorem dG_fired_58 : decode bG_fired 58 = .ok (.getfield 219, 3) := by decide +kernel
theorem dG_fired_61 : decode bG_fired 61 = .ok (.iload_n 1, 1) := by decide +kernel
theorem dG_fired_62 : decode bG_fired 62 = .ok (.iaload, 1) := by decide +kernel
theorem dG_fired_63 : decode bG_fired 63 = .ok (.ireturn, 1) := by decide +kernel
theorem dG_fired_64 : decode bG_fired 64 = .ok (.aload_n 0, 1) := by decide +kernel
theorem dG_fired_65 : decode bG_fired 65 = .ok (.getfield 52, 3) := by decide +kernel
theorem dG_fired_68 : decode bG_fired 68 = .ok (.getfield 222, 3) := by decide +kernel
theorem dG_fired_71 : decode bG_fired 71 = .ok (.iload_n 1, 1) := by decide +kernel
theorem dG_fired_72 : decode bG_fired 72 = .ok (.iaload, 1) := by decide +kernel
theorem dG_fired_73 : decode bG_fired 73 = .ok (.ireturn, 1) := by decide +kernel
theorem dG_fired_74 : decode bG_fired 74 = .ok (.iconst (-1), 1) := by decide +kernel
theorem dG_fired_75 : decode bG_fired 75 = .ok (.ireturn, 1) := by decide +kernel
theorem dG_count_0 : decode bG_count 0 = .ok (.iload_n 1, 1) := by decide +kernel
theorem dG_count_1 : decode bG_count 1 = .ok (.tableswitch 95 0 5 #[39, 47, 55, 63, 71, 83], 39) := by decide +kernel
theorem dG_count_40 : decode bG_count 40 = .ok (.aload_n 0, 1) := by decide +kernel
theorem dG_count_41 : decode bG_count 41 = .ok (.getfield 10, 3) := by decide +kernel
theorem dG_count_44 : decode bG_count 44 = .ok (.getfield 68, 3) := by decide +kernel
theorem dG_count_47 : decode bG_count 47 = .ok (.ireturn, 1) := by decide +kernel
theorem dG_count_48 : decode bG_count 48 = .ok (.aload_n 0, 1) := by decide +kernel
theorem dG_count_49 : decode bG_count 49 = .ok (.getfield 10, 3) := by decide +kernel
theorem dG_count_52 : decode bG_count 52 = .ok (.getfield 87, 3) := by decide +kernel
theorem dG_count_55 : decode bG_count 55 = .ok (.ireturn, 1) := by decide +kernel
theorem dG_count_56 : decode bG_count 56 = .ok (.aload_n 0, 1) := by decide +kernel
theorem dG_count_57 : decode bG_count 57 = .ok (.getfield 52, 3) := by decide +kernel
theorem dG_count_60 : decode bG_count 60 = .ok (.getfield 199, 3) := by decide +kernel
theorem dG_count_63 : decode bG_count 63 = .ok (.ireturn, 1) := by decide +kernel
theorem dG_count_64 : decode bG_count 64 = .ok (.aload_n 0, 1) := by decide +kernel
theorem dG_count_65 : decode bG_count 65 = .ok (.getfield 52, 3) := by decide +kernel
theorem dG_count_68 : decode bG_count 68 = .ok (.getfield 213, 3) := by decide +kernel
theorem dG_count_71 : decode bG_count 71 = .ok (.ireturn, 1) := by decide +kernel
theorem dG_count_72 : decode bG_count 72 = .ok (.aload_n 0, 1) := by decide +kernel
theorem dG_count_73 : decode bG_count 73 = .ok (.invokevirtual 124, 3) := by decide +kernel
theorem dG_count_76 : decode bG_count 76 = .ok (.aload_n 0, 1) := by decide +kernel
theorem dG_count_77 : decode bG_count 77 = .ok (.getfield 21, 3) := by decide +kernel
theorem dG_count_80 : decode bG_count 80 = .ok (.getfield 167, 3) := by decide +kernel
theorem dG_count_83 : decode bG_count 83 = .ok (.ireturn, 1) := by decide +kernel
theorem dG_count_84 : decode bG_count 84 = .ok (.aload_n 0, 1) := by decide +kernel
theorem dG_count_85 : decode bG_count 85 = .ok (.invokevirtual 124, 3) := by decide +kernel
theorem dG_count_88 : decode bG_count 88 = .ok (.aload_n 0, 1) := by decide +kernel
theorem dG_count_89 : decode bG_count 89 = .ok (.getfield 21, 3) := by decide +kernel
theorem dG_count_92 : decode bG_count 92 = .ok (.getfield 225, 3) := by decide +kernel
theorem dG_count_95 : decode bG_count 95 = .ok (.ireturn, 1) := by decide +kernel
theorem dG_count_96 : decode bG_count 96 = .ok (.iconst (-1), 1) := by decide +kernel
theorem dG_count_97 : decode bG_count 97 = .ok (.ireturn, 1) := by decide +kernel
theorem dG_within_0 : decode bG_within 0 = .ok (.iload_n 1, 1) := by decide +kernel
theorem dG_within_1 : decode bG_within 1 = .ok (.iload_n 0, 1) := by decide +kernel
theorem dG_within_2 : decode bG_within 2 = .ok (.if_icmp .gt 12, 3) := by decide +kernel
theorem dG_within_5 : decode bG_within 5 = .ok (.iload_n 0, 1) := by decide +kernel
theorem dG_within_6 : decode bG_within 6 = .ok (.iload_n 2, 1) := by decide +kernel
theorem dG_within_7 : decode bG_within 7 = .ok (.if_icmp .gt 7, 3) := by decide +kernel
theorem dG_within_10 : decode bG_within 10 = .ok (.iconst 1, 1) := by decide +kernel
theorem dG_within_11 : decode bG_within 11 = .ok (.goto 4, 3) := by decide +kernel
theorem dG_within_14 : decode bG_within 14 = .ok (.iconst 0, 1) := by decide +kernel
theorem dG_within_15 : decode bG_within 15 = .ok (.ireturn, 1) := by decide +kernel
theorem dG_mayBeBand_0 : decode bG_mayBeBand 0 = .ok (.iconst 0, 1) := by decide +kernel
theorem dG_mayBeBand_1 : decode bG_mayBeBand 1 = .ok (.iload_n 0, 1) := by decide +kernel
theorem dG_mayBeBand_2 : decode bG_mayBeBand 2 = .ok (.if_icmp .gt 19, 3) := by decide +kernel
theorem dG_mayBeBand_5 : decode bG_mayBeBand 5 = .ok (.iload_n 0, 1) := by decide +kernel
theorem dG_mayBeBand_6 : decode bG_mayBeBand 6 = .ok (.iload_n 1, 1) := by decide +kernel
theorem dG_mayBeBand_7 : decode bG_mayBeBand 7 = .ok (.if_icmp .gt 14, 3) := by decide +kernel
theorem dG_mayBeBand_10 : decode bG_mayBeBand 10 = .ok (.iload_n 1, 1) := by decide +kernel
theorem dG_mayBeBand_11 : decode bG_mayBeBand 11 = .ok (.sipush 1000, 3) := by decide +kernel
theorem dG_mayBeBand_14 : decode bG_mayBeBand 14 = .ok (.if_icmp .gt 7, 3) := by decide +kernel
theorem dG_mayBeBand_17 : decode bG_mayBeBand 17 = .ok (.iconst 1, 1) := by decide +kernel
theorem dG_mayBeBand_18 : decode bG_mayBeBand 18 = .ok (.goto 4, 3) := by decide +kernel
theorem dG_mayBeBand_21 : decode bG_mayBeBand 21 = .ok (.iconst 0, 1) := by decide +kernel
theorem dG_mayBeBand_22 : decode bG_mayBeBand 22 = .ok (.ireturn, 1) := by decide +kernel
theorem dG_forget_0 : decode bG_forget 0 = .ok (.aload_n 0, 1) := by decide +kernel
theorem dG_forget_1 : decode bG_forget 1 = .ok (.getfield 38, 3) := by decide +kernel
theorem dG_forget_4 : decode bG_forget 4 = .ok (.iconst 0, 1) := by decide +kernel
theorem dG_forget_5 : decode bG_forget 5 = .ok (.putfield 143, 3) := by decide +kernel
theorem dG_forget_8 : decode bG_forget 8 = .ok (.aload_n 0, 1) := by decide +kernel
theorem dG_forget_9 : decode bG_forget 9 = .ok (.getfield 45, 3) := by decide +kernel
theorem dG_forget_12 : decode bG_forget 12 = .ok (.iconst 0, 1) := by decide +kernel
theorem dG_forget_13 : decode bG_forget 13 = .ok (.putfield 192, 3) := by decide +kernel
theorem dG_forget_16 : decode bG_forget 16 = .ok (.aload_n 0, 1) := by decide +kernel
theorem dG_forget_17 : decode bG_forget 17 = .ok (.getfield 52, 3) := by decide +kernel
theorem dG_forget_20 : decode bG_forget 20 = .ok (.invokevirtual 228, 3) := by decide +kernel
theorem dG_forget_23 : decode bG_forget 23 = .ok (.aload_n 0, 1) := by decide +kernel
theorem dG_forget_24 : decode bG_forget 24 = .ok (.iconst 0, 1) := by decide +kernel
theorem dG_forget_25 : decode bG_forget 25 = .ok (.putfield 56, 3) := by decide +kernel
theorem dG_forget_28 : decode bG_forget 28 = .ok (.return_, 1) := by decide +kernel
theorem dG_searchOnce_0 : decode bG_searchOnce 0 = .ok (.aload_n 0, 1) := by decide +kernel
theorem dG_searchOnce_1 : decode bG_searchOnce 1 = .ok (.getfield 56, 3) := by decide +kernel
theorem dG_searchOnce_4 : decode bG_searchOnce 4 = .ok (.ifCond .ne 22, 3) := by decide +kernel
theorem dG_searchOnce_7 : decode bG_searchOnce 7 = .ok (.aload_n 0, 1) := by decide +kernel
theorem dG_searchOnce_8 : decode bG_searchOnce 8 = .ok (.getfield 21, 3) := by decide +kernel
theorem dG_searchOnce_11 : decode bG_searchOnce 11 = .ok (.invokevirtual 174, 3) := by decide +kernel
theorem dG_searchOnce_14 : decode bG_searchOnce 14 = .ok (.aload_n 0, 1) := by decide +kernel
theorem dG_searchOnce_15 : decode bG_searchOnce 15 = .ok (.getfield 21, 3) := by decide +kernel
theorem dG_searchOnce_18 : decode bG_searchOnce 18 = .ok (.invokevirtual 181, 3) := by decide +kernel
theorem dG_searchOnce_21 : decode bG_searchOnce 21 = .ok (.aload_n 0, 1) := by decide +kernel
theorem dG_searchOnce_22 : decode bG_searchOnce 22 = .ok (.iconst 1, 1) := by decide +kernel
theorem dG_searchOnce_23 : decode bG_searchOnce 23 = .ok (.putfield 56, 3) := by decide +kernel
theorem dG_searchOnce_26 : decode bG_searchOnce 26 = .ok (.return_, 1) := by decide +kernel
theorem dG_takeInHand_0 : decode bG_takeInHand 0 = .ok (.aload_n 1, 1) := by decide +kernel
theorem dG_takeInHand_1 : decode bG_takeInHand 1 = .ok (.getfield 143, 3) := by decide +kernel
theorem dG_takeInHand_4 : decode bG_takeInHand 4 = .ok (.ifCond .ne 5, 3) := by decide +kernel
theorem dG_takeInHand_7 : decode bG_takeInHand 7 = .ok (.iconst 0, 1) := by decide +kernel
theorem dG_takeInHand_8 : decode bG_takeInHand 8 = .ok (.ireturn, 1) := by decide +kernel
theorem dG_takeInHand_9 : decode bG_takeInHand 9 = .ok (.aload_n 0, 1) := by decide +kernel
theorem dG_takeInHand_10 : decode bG_takeInHand 10 = .ok (.getfield 38, 3) := by decide +kernel
theorem dG_takeInHand_13 : decode bG_takeInHand 13 = .ok (.aload_n 1, 1) := by decide +kernel
theorem dG_takeInHand_14 : decode bG_takeInHand 14 = .ok (.getfield 146, 3) := by decide +kernel
theorem dG_takeInHand_17 : decode bG_takeInHand 17 = .ok (.aload_n 1, 1) := by decide +kernel
theorem dG_takeInHand_18 : decode bG_takeInHand 18 = .ok (.getfield 134, 3) := by decide +kernel
theorem dG_takeInHand_21 : decode bG_takeInHand 21 = .ok (.aload_n 1, 1) := by decide +kernel
theorem dG_takeInHand_22 : decode bG_takeInHand 22 = .ok (.getfield 140, 3) := by decide +kernel
theorem dG_takeInHand_25 : decode bG_takeInHand 25 = .ok (.invokevirtual 229, 3) := by decide +kernel
theorem dG_takeInHand_28 : decode bG_takeInHand 28 = .ok (.aload_n 0, 1) := by decide +kernel
theorem dG_takeInHand_29 : decode bG_takeInHand 29 = .ok (.getfield 45, 3) := by decide +kernel
theorem dG_takeInHand_32 : decode bG_takeInHand 32 = .ok (.iconst 0, 1) := by decide +kernel
theorem dG_takeInHand_33 : decode bG_takeInHand 33 = .ok (.putfield 192, 3) := by decide +kernel
theorem dG_takeInHand_36 : decode bG_takeInHand 36 = .ok (.iconst 1, 1) := by decide +kernel
theorem dG_takeInHand_37 : decode bG_takeInHand 37 = .ok (.ireturn, 1) := by decide +kernel
theorem dG_firstRule_0 : decode bG_firstRule 0 = .ok (.iload_n 2, 1) := by decide +kernel
theorem dG_firstRule_1 : decode bG_firstRule 1 = .ok (.aload_n 0, 1) := by decide +kernel
theorem dG_firstRule_2 : decode bG_firstRule 2 = .ok (.getfield 10, 3) := by decide +kernel
theorem dG_firstRule_5 : decode bG_firstRule 5 = .ok (.getfield 233, 3) := by decide +kernel
theorem dG_firstRule_8 : decode bG_firstRule 8 = .ok (.iload_n 1, 1) := by decide +kernel
theorem dG_firstRule_9 : decode bG_firstRule 9 = .ok (.iaload, 1) := by decide +kernel
theorem dG_firstRule_10 : decode bG_firstRule 10 = .ok (.aload_n 0, 1) := by decide +kernel
theorem dG_firstRule_11 : decode bG_firstRule 11 = .ok (.getfield 10, 3) := by decide +kernel
theorem dG_firstRule_14 : decode bG_firstRule 14 = .ok (.getfield 236, 3) := by decide +kernel
theorem dG_firstRule_17 : decode bG_firstRule 17 = .ok (.iload_n 1, 1) := by decide +kernel
theorem dG_firstRule_18 : decode bG_firstRule 18 = .ok (.iaload, 1) := by decide +kernel
theorem dG_firstRule_19 : decode bG_firstRule 19 = .ok (.invokestatic 83, 3) := by decide +kernel
theorem dG_firstRule_22 : decode bG_firstRule 22 = .ok (.ifCond .ne 5, 3) := by decide +kernel
theorem dG_firstRule_25 : decode bG_firstRule 25 = .ok (.iconst 1, 1) := by decide +kernel
theorem dG_firstRule_26 : decode bG_firstRule 26 = .ok (.ireturn, 1) := by decide +kernel
theorem dG_firstRule_27 : decode bG_firstRule 27 = .ok (.aload_n 0, 1) := by decide +kernel
theorem dG_firstRule_28 : decode bG_firstRule 28 = .ok (.getfield 38, 3) := by decide +kernel
theorem dG_firstRule_31 : decode bG_firstRule 31 = .ok (.getfield 143, 3) := by decide +kernel
theorem dG_firstRule_34 : decode bG_firstRule 34 = .ok (.ifCond .eq 38, 3) := by decide +kernel
theorem dG_firstRule_37 : decode bG_firstRule 37 = .ok (.aload_n 0, 1) := by decide +kernel
theorem dG_firstRule_38 : decode bG_firstRule 38 = .ok (.getfield 52, 3) := by decide +kernel
theorem dG_firstRule_41 : decode bG_firstRule 41 = .ok (.iload_n 1, 1) := by decide +kernel
theorem dG_firstRule_42 : decode bG_firstRule 42 = .ok (.aload_n 0, 1) := by decide +kernel
theorem dG_firstRule_43 : decode bG_firstRule 43 = .ok (.getfield 10, 3) := by decide +kernel
theorem dG_firstRule_46 : decode bG_firstRule 46 = .ok (.iload_n 1, 1) := by decide +kernel
theorem dG_firstRule_47 : decode bG_firstRule 47 = .ok (.aload_n 0, 1) := by decide +kernel
theorem dG_firstRule_48 : decode bG_firstRule 48 = .ok (.getfield 10, 3) := by decide +kernel
theorem dG_firstRule_51 : decode bG_firstRule 51 = .ok (.getfield 149, 3) := by decide +kernel
theorem dG_firstRule_54 : decode bG_firstRule 54 = .ok (.aload_n 0, 1) := by decide +kernel
theorem dG_firstRule_55 : decode bG_firstRule 55 = .ok (.getfield 38, 3) := by decide +kernel
theorem dG_firstRule_58 : decode bG_firstRule 58 = .ok (.invokevirtual 153, 3) := by decide +kernel
theorem dG_firstRule_61 : decode bG_firstRule 61 = .ok (.bipush 100, 2) := by decide +kernel
theorem dG_firstRule_63 : decode bG_firstRule 63 = .ok (.idiv, 1) := by decide +kernel
theorem dG_firstRule_64 : decode bG_firstRule 64 = .ok (.invokevirtual 239, 3) := by decide +kernel
theorem dG_firstRule_67 : decode bG_firstRule 67 = .ok (.ifCond .eq 5, 3) := by decide +kernel
theorem dG_firstRule_70 : decode bG_firstRule 70 = .ok (.iconst 2, 1) := by decide +kernel
theorem dG_firstRule_71 : decode bG_firstRule 71 = .ok (.ireturn, 1) := by decide +kernel
theorem dG_firstRule_72 : decode bG_firstRule 72 = .ok (.aload_n 0, 1) := by decide +kernel
theorem dG_firstRule_73 : decode bG_firstRule 73 = .ok (.getfield 52, 3) := by decide +kernel
theorem dG_firstRule_76 : decode bG_firstRule 76 = .ok (.iload_n 1, 1) := by decide +kernel
theorem dG_firstRule_77 : decode bG_firstRule 77 = .ok (.aload_n 0, 1) := by decide +kernel
theorem dG_firstRule_78 : decode bG_firstRule 78 = .ok (.getfield 60, 3) := by decide +kernel
theorem dG_firstRule_81 : decode bG_firstRule 81 = .ok (.invokevirtual 242, 3) := by decide +kernel
theorem dG_firstRule_84 : decode bG_firstRule 84 = .ok (.ifCond .eq 7, 3) := by decide +kernel
theorem dG_firstRule_87 : decode bG_firstRule 87 = .ok (.iconst 3, 1) := by decide +kernel
theorem dG_firstRule_88 : decode bG_firstRule 88 = .ok (.goto 4, 3) := by decide +kernel
theorem dG_firstRule_91 : decode bG_firstRule 91 = .ok (.iconst 0, 1) := by decide +kernel
theorem dG_firstRule_92 : decode bG_firstRule 92 = .ok (.ireturn, 1) := by decide +kernel
theorem dP_init_0 : decode bP_init 0 = .ok (.aload_n 0, 1) := by decide +kernel
theorem dP_init_1 : decode bP_init 1 = .ok (.invokespecial 3, 3) := by decide +kernel
theorem dP_init_4 : decode bP_init 4 = .ok (.aload_n 0, 1) := by decide +kernel
theorem dP_init_5 : decode bP_init 5 = .ok (.iconst 0, 1) := by decide +kernel
theorem dP_init_6 : decode bP_init 6 = .ok (.putfield 9, 3) := by decide +kernel
theorem dP_init_9 : decode bP_init 9 = .ok (.aload_n 0, 1) := by decide +kernel
theorem dP_init_10 : decode bP_init 10 = .ok (.iconst 0, 1) := by decide +kernel
theorem dP_init_11 : decode bP_init 11 = .ok (.putfield 15, 3) := by decide +kernel
theorem dP_init_14 : decode bP_init 14 = .ok (.aload_n 0, 1) := by decide +kernel
theorem dP_init_15 : decode bP_init 15 = .ok (.bipush 100, 2) := by decide +kernel
theorem dP_init_17 : decode bP_init 17 = .ok (.putfield 18, 3) := by decide +kernel
theorem dP_init_20 : decode bP_init 20 = .ok (.aload_n 0, 1) := by decide +kernel
theorem dP_init_21 : decode bP_init 21 = .ok (.iconst 5, 1) := by decide +kernel
theorem dP_init_22 : decode bP_init 22 = .ok (.putfield 21, 3) := by decide +kernel
theorem dP_init_25 : decode bP_init 25 = .ok (.aload_n 0, 1) := by decide +kernel
theorem dP_init_26 : decode bP_init 26 = .ok (.bipush 6, 2) := by decide +kernel
theorem dP_init_28 : decode bP_init 28 = .ok (.newarray .int, 2) := by decide +kernel
theorem dP_init_30 : decode bP_init 30 = .ok (.putfield 24, 3) := by decide +kernel
theorem dP_init_33 : decode bP_init 33 = .ok (.aload_n 0, 1) := by decide +kernel
theorem dP_init_34 : decode bP_init 34 = .ok (.bipush 6, 2) := by decide +kernel
theorem dP_init_36 : decode bP_init 36 = .ok (.newarray .int, 2) := by decide +kernel
theorem dP_init_38 : decode bP_init 38 = .ok (.putfield 28, 3) := by decide +kernel
theorem dP_init_41 : decode bP_init 41 = .ok (.aload_n 0, 1) := by decide +kernel
theorem dP_init_42 : decode bP_init 42 = .ok (.iconst 4, 1) := by decide +kernel
theorem dP_init_43 : decode bP_init 43 = .ok (.newarray .int, 2) := by decide +kernel
theorem dP_init_45 : decode bP_init 45 = .ok (.putfield 31, 3) := by decide +kernel
theorem dP_init_48 : decode bP_init 48 = .ok (.aload_n 0, 1) := by decide +kernel
theorem dP_init_49 : decode bP_init 49 = .ok (.iconst 4, 1) := by decide +kernel
theorem dP_init_50 : decode bP_init 50 = .ok (.newarray .int, 2) := by decide +kernel
theorem dP_init_52 : decode bP_init 52 = .ok (.putfield 34, 3) := by decide +kernel
theorem dP_init_55 : decode bP_init 55 = .ok (.aload_n 0, 1) := by decide +kernel
theorem dP_init_56 : decode bP_init 56 = .ok (.iconst 4, 1) := by decide +kernel
theorem dP_init_57 : decode bP_init 57 = .ok (.newarray .int, 2) := by decide +kernel
theorem dP_init_59 : decode bP_init 59 = .ok (.putfield 37, 3) := by decide +kernel
theorem dP_init_62 : decode bP_init 62 = .ok (.aload_n 0, 1) := by decide +kernel
theorem dP_init_63 : decode bP_init 63 = .ok (.iconst 4, 1) := by decide +kernel
theorem dP_init_64 : decode bP_init 64 = .ok (.newarray .boolean, 2) := by decide +kernel
theorem dP_init_66 : decode bP_init 66 = .ok (.putfield 40, 3) := by decide +kernel
theorem dP_init_69 : decode bP_init 69 = .ok (.aload_n 0, 1) := by decide +kernel
theorem dP_init_70 : decode bP_init 70 = .ok (.iconst 4, 1) := by decide +kernel
theorem dP_init_71 : decode bP_init 71 = .ok (.newarray .int, 2) := by decide +kernel
theorem dP_init_73 : decode bP_init 73 = .ok (.putfield 44, 3) := by decide +kernel
theorem dP_init_76 : decode bP_init 76 = .ok (.aload_n 0, 1) := by decide +kernel
theorem dP_init_77 : decode bP_init 77 = .ok (.iconst 4, 1) := by decide +kernel
theorem dP_init_78 : decode bP_init 78 = .ok (.bipush 6, 2) := by decide +kernel
theorem dP_init_80 : decode bP_init 80 = .ok (.multianewarray 47 2, 4) := by decide +kernel
theorem dP_init_84 : decode bP_init 84 = .ok (.putfield 49, 3) := by decide +kernel
theorem dP_init_87 : decode bP_init 87 = .ok (.aload_n 0, 1) := by decide +kernel
theorem dP_init_88 : decode bP_init 88 = .ok (.iconst 4, 1) := by decide +kernel
theorem dP_init_89 : decode bP_init 89 = .ok (.bipush 6, 2) := by decide +kernel
theorem dP_init_91 : decode bP_init 91 = .ok (.multianewarray 47 2, 4) := by decide +kernel
theorem dP_init_95 : decode bP_init 95 = .ok (.putfield 52, 3) := by decide +kernel
theorem dP_init_98 : decode bP_init 98 = .ok (.aload_n 0, 1) := by decide +kernel
theorem dP_init_99 : decode bP_init 99 = .ok (.iconst 4, 1) := by decide +kernel
theorem dP_init_100 : decode bP_init 100 = .ok (.bipush 6, 2) := by decide +kernel
theorem dP_init_102 : decode bP_init 102 = .ok (.multianewarray 47 2, 4) := by decide +kernel
theorem dP_init_106 : decode bP_init 106 = .ok (.putfield 55, 3) := by decide +kernel
theorem dP_init_109 : decode bP_init 109 = .ok (.return_, 1) := by decide +kernel
theorem dP_hasSieve_0 : decode bP_hasSieve 0 = .ok (.iconst 0, 1) := by decide +kernel
theorem dP_hasSieve_1 : decode bP_hasSieve 1 = .ok (.iload_n 1, 1) := by decide +kernel
theorem dP_hasSieve_2 : decode bP_hasSieve 2 = .ok (.if_icmp .gt 15, 3) := by decide +kernel
theorem dP_hasSieve_5 : decode bP_hasSieve 5 = .ok (.iload_n 1, 1) := by decide +kernel
theorem dP_hasSieve_6 : decode bP_hasSieve 6 = .ok (.aload_n 0, 1) := by decide +kernel
theorem dP_hasSieve_7 : decode bP_hasSieve 7 = .ok (.getfield 9, 3) := by decide +kernel
theorem dP_hasSieve_10 : decode bP_hasSieve 10 = .ok (.if_icmp .ge 7, 3) := by decide +kernel
theorem dP_hasSieve_13 : decode bP_hasSieve 13 = .ok (.iconst 1, 1) := by decide +kernel
theorem dP_hasSieve_14 : decode bP_hasSieve 14 = .ok (.goto 4, 3) := by decide +kernel
theorem dP_hasSieve_17 : decode bP_hasSieve 17 = .ok (.iconst 0, 1) := by decide +kernel
theorem dP_hasSieve_18 : decode bP_hasSieve 18 = .ok (.ireturn, 1) := by decide +kernel
theorem dP_hasStock_0 : decode bP_hasStock 0 = .ok (.iconst 0, 1) := by decide +kernel
theorem dP_hasStock_1 : decode bP_hasStock 1 = .ok (.iload_n 1, 1) := by decide +kernel
theorem dP_hasStock_2 : decode bP_hasStock 2 = .ok (.if_icmp .gt 15, 3) := by decide +kernel
theorem dP_hasStock_5 : decode bP_hasStock 5 = .ok (.iload_n 1, 1) := by decide +kernel
theorem dP_hasStock_6 : decode bP_hasStock 6 = .ok (.aload_n 0, 1) := by decide +kernel
theorem dP_hasStock_7 : decode bP_hasStock 7 = .ok (.getfield 15, 3) := by decide +kernel
theorem dP_hasStock_10 : decode bP_hasStock 10 = .ok (.if_icmp .ge 7, 3) := by decide +kernel
theorem dP_hasStock_13 : decode bP_hasStock 13 = .ok (.iconst 1, 1) := by decide +kernel
theorem dP_hasStock_14 : decode bP_hasStock 14 = .ok (.goto 4, 3) := by decide +kernel
theorem dP_hasStock_17 : decode bP_hasStock 17 = .ok (.iconst 0, 1) := by decide +kernel
theorem dP_hasStock_18 : decode bP_hasStock 18 = .ok (.ireturn, 1) := by decide +kernel
theorem dP_setBand_0 : decode bP_setBand 0 = .ok (.aload_n 0, 1) := by decide +kernel
theorem dP_setBand_1 : decode bP_setBand 1 = .ok (.getfield 24, 3) := by decide +kernel
theorem dP_setBand_4 : decode bP_setBand 4 = .ok (.iload_n 1, 1) := by decide +kernel
theorem dP_setBand_5 : decode bP_setBand 5 = .ok (.iload_n 2, 1) := by decide +kernel
theorem dP_setBand_6 : decode bP_setBand 6 = .ok (.iastore, 1) := by decide +kernel
theorem dP_setBand_7 : decode bP_setBand 7 = .ok (.aload_n 0, 1) := by decide +kernel
theorem dP_setBand_8 : decode bP_setBand 8 = .ok (.getfield 28, 3) := by decide +kernel
theorem dP_setBand_11 : decode bP_setBand 11 = .ok (.iload_n 1, 1) := by decide +kernel
theorem dP_setBand_12 : decode bP_setBand 12 = .ok (.iload_n 3, 1) := by decide +kernel
theorem dP_setBand_13 : decode bP_setBand 13 = .ok (.iastore, 1) := by decide +kernel
theorem dP_setBand_14 : decode bP_setBand 14 = .ok (.return_, 1) := by decide +kernel
theorem dP_setStock_0 : decode bP_setStock 0 = .ok (.aload_n 0, 1) := by decide +kernel
theorem dP_setStock_1 : decode bP_setStock 1 = .ok (.getfield 31, 3) := by decide +kernel
theorem dP_setStock_4 : decode bP_setStock 4 = .ok (.iload_n 1, 1) := by decide +kernel
theorem dP_setStock_5 : decode bP_setStock 5 = .ok (.iload_n 2, 1) := by decide +kernel
theorem dP_setStock_6 : decode bP_setStock 6 = .ok (.iastore, 1) := by decide +kernel
theorem dP_setStock_7 : decode bP_setStock 7 = .ok (.aload_n 0, 1) := by decide +kernel
theorem dP_setStock_8 : decode bP_setStock 8 = .ok (.getfield 34, 3) := by decide +kernel
theorem dP_setStock_11 : decode bP_setStock 11 = .ok (.iload_n 1, 1) := by decide +kernel
theorem dP_setStock_12 : decode bP_setStock 12 = .ok (.iload_n 3, 1) := by decide +kernel
theorem dP_setStock_13 : decode bP_setStock 13 = .ok (.iastore, 1) := by decide +kernel
theorem dP_setStock_14 : decode bP_setStock 14 = .ok (.aload_n 0, 1) := by decide +kernel
theorem dP_setStock_15 : decode bP_setStock 15 = .ok (.getfield 37, 3) := by decide +kernel
theorem dP_setStock_18 : decode bP_setStock 18 = .ok (.iload_n 1, 1) := by decide +kernel
theorem dP_setStock_19 : decode bP_setStock 19 = .ok (.iload 4, 2) := by decide +kernel
theorem dP_setStock_21 : decode bP_setStock 21 = .ok (.iastore, 1) := by decide +kernel
theorem dP_setStock_22 : decode bP_setStock 22 = .ok (.aload_n 0, 1) := by decide +kernel
theorem dP_setStock_23 : decode bP_setStock 23 = .ok (.getfield 40, 3) := by decide +kernel
theorem dP_setStock_26 : decode bP_setStock 26 = .ok (.iload_n 1, 1) := by decide +kernel
theorem dP_setStock_27 : decode bP_setStock 27 = .ok (.iload 5, 2) := by decide +kernel
theorem dP_setStock_29 : decode bP_setStock 29 = .ok (.bastore, 1) := by decide +kernel
theorem dP_setStock_30 : decode bP_setStock 30 = .ok (.return_, 1) := by decide +kernel
theorem dP_setPassing_0 : decode bP_setPassing 0 = .ok (.aload_n 0, 1) := by decide +kernel
theorem dP_setPassing_1 : decode bP_setPassing 1 = .ok (.getfield 49, 3) := by decide +kernel
theorem dP_setPassing_4 : decode bP_setPassing 4 = .ok (.iload_n 1, 1) := by decide +kernel
theorem dP_setPassing_5 : decode bP_setPassing 5 = .ok (.aaload, 1) := by decide +kernel
theorem dP_setPassing_6 : decode bP_setPassing 6 = .ok (.iload_n 2, 1) := by decide +kernel
theorem dP_setPassing_7 : decode bP_setPassing 7 = .ok (.iload_n 3, 1) := by decide +kernel
theorem dP_setPassing_8 : decode bP_setPassing 8 = .ok (.iastore, 1) := by decide +kernel
theorem dP_setPassing_9 : decode bP_setPassing 9 = .ok (.aload_n 0, 1) := by decide +kernel
theorem dP_setPassing_10 : decode bP_setPassing 10 = .ok (.getfield 52, 3) := by decide +kernel
theorem dP_setPassing_13 : decode bP_setPassing 13 = .ok (.iload_n 1, 1) := by decide +kernel
theorem dP_setPassing_14 : decode bP_setPassing 14 = .ok (.aaload, 1) := by decide +kernel
theorem dP_setPassing_15 : decode bP_setPassing 15 = .ok (.iload_n 2, 1) := by decide +kernel
theorem dP_setPassing_16 : decode bP_setPassing 16 = .ok (.iconst 0, 1) := by decide +kernel
theorem dP_setPassing_17 : decode bP_setPassing 17 = .ok (.iload_n 3, 1) := by decide +kernel
theorem dP_setPassing_18 : decode bP_setPassing 18 = .ok (.iload 4, 2) := by decide +kernel
theorem dP_setPassing_20 : decode bP_setPassing 20 = .ok (.isub, 1) := by decide +kernel
theorem dP_setPassing_21 : decode bP_setPassing 21 = .ok (.invokestatic 58, 3) := by decide +kernel
theorem dP_setPassing_24 : decode bP_setPassing 24 = .ok (.iastore, 1) := by decide +kernel
theorem dP_setPassing_25 : decode bP_setPassing 25 = .ok (.aload_n 0, 1) := by decide +kernel
theorem dP_setPassing_26 : decode bP_setPassing 26 = .ok (.getfield 55, 3) := by decide +kernel
theorem dP_setPassing_29 : decode bP_setPassing 29 = .ok (.iload_n 1, 1) := by decide +kernel
theorem dP_setPassing_30 : decode bP_setPassing 30 = .ok (.aaload, 1) := by decide +kernel
theorem dP_setPassing_31 : decode bP_setPassing 31 = .ok (.iload_n 2, 1) := by decide +kernel
theorem dP_setPassing_32 : decode bP_setPassing 32 = .ok (.sipush 1000, 3) := by decide +kernel
theorem dP_setPassing_35 : decode bP_setPassing 35 = .ok (.iload_n 3, 1) := by decide +kernel
theorem dP_setPassing_36 : decode bP_setPassing 36 = .ok (.iload 4, 2) := by decide +kernel
theorem dP_setPassing_38 : decode bP_setPassing 38 = .ok (.iadd, 1) := by decide +kernel
theorem dP_setPassing_39 : decode bP_setPassing 39 = .ok (.invokestatic 64, 3) := by decide +kernel
theorem dP_setPassing_42 : decode bP_setPassing 42 = .ok (.iastore, 1) := by decide +kernel
theorem dP_setPassing_43 : decode bP_setPassing 43 = .ok (.return_, 1) := by decide +kernel
theorem dP_sumAt_0 : decode bP_sumAt 0 = .ok (.iconst 0, 1) := by decide +kernel
theorem dP_sumAt_1 : decode bP_sumAt 1 = .ok (.istore 4, 2) := by decide +kernel
theorem dP_sumAt_3 : decode bP_sumAt 3 = .ok (.iconst 0, 1) := by decide +kernel
theorem dP_sumAt_4 : decode bP_sumAt 4 = .ok (.istore 5, 2) := by decide +kernel
theorem dP_sumAt_6 : decode bP_sumAt 6 = .ok (.iload 5, 2) := by decide +kernel
theorem dP_sumAt_8 : decode bP_sumAt 8 = .ok (.aload_n 0, 1) := by decide +kernel
theorem dP_sumAt_9 : decode bP_sumAt 9 = .ok (.getfield 15, 3) := by decide +kernel
theorem dP_sumAt_12 : decode bP_sumAt 12 = .ok (.if_icmp .ge 28, 3) := by decide +kernel
theorem dP_sumAt_15 : decode bP_sumAt 15 = .ok (.iload 4, 2) := by decide +kernel
theorem dP_sumAt_17 : decode bP_sumAt 17 = .ok (.aload_n 3, 1) := by decide +kernel
theorem dP_sumAt_18 : decode bP_sumAt 18 = .ok (.getfield 67, 3) := by decide +kernel
theorem dP_sumAt_21 : decode bP_sumAt 21 = .ok (.iload 5, 2) := by decide +kernel
theorem dP_sumAt_23 : decode bP_sumAt 23 = .ok (.iaload, 1) := by decide +kernel
theorem dP_sumAt_24 : decode bP_sumAt 24 = .ok (.aload_n 2, 1) := by decide +kernel
theorem dP_sumAt_25 : decode bP_sumAt 25 = .ok (.iload 5, 2) := by decide +kernel
theorem dP_sumAt_27 : decode bP_sumAt 27 = .ok (.aaload, 1) := by decide +kernel
theorem dP_sumAt_28 : decode bP_sumAt 28 = .ok (.iload_n 1, 1) := by decide +kernel
theorem dP_sumAt_29 : decode bP_sumAt 29 = .ok (.iaload, 1) := by decide +kernel
theorem dP_sumAt_30 : decode bP_sumAt 30 = .ok (.imul, 1) := by decide +kernel
theorem dP_sumAt_31 : decode bP_sumAt 31 = .ok (.iadd, 1) := by decide +kernel
theorem dP_sumAt_32 : decode bP_sumAt 32 = .ok (.istore 4, 2) := by decide +kernel
theorem dP_sumAt_34 : decode bP_sumAt 34 = .ok (.iinc 5 1, 3) := by decide +kernel
theorem dP_sumAt_37 : decode bP_sumAt 37 = .ok (.goto (-31), 3) := by decide +kernel
theorem dP_sumAt_40 : decode bP_sumAt 40 = .ok (.iload 4, 2) := by decide +kernel
theorem dP_sumAt_42 : decode bP_sumAt 42 = .ok (.ireturn, 1) := by decide +kernel
theorem dP_missAt_0 : decode bP_missAt 0 = .ok (.bipush 100, 2) := by decide +kernel
theorem dP_missAt_2 : decode bP_missAt 2 = .ok (.aload_n 0, 1) := by decide +kernel
theorem dP_missAt_3 : decode bP_missAt 3 = .ok (.getfield 24, 3) := by decide +kernel
theorem dP_missAt_6 : decode bP_missAt 6 = .ok (.iload_n 1, 1) := by decide +kernel
theorem dP_missAt_7 : decode bP_missAt 7 = .ok (.iaload, 1) := by decide +kernel
theorem dP_missAt_8 : decode bP_missAt 8 = .ok (.imul, 1) := by decide +kernel
theorem dP_missAt_9 : decode bP_missAt 9 = .ok (.aload_n 0, 1) := by decide +kernel
theorem dP_missAt_10 : decode bP_missAt 10 = .ok (.iload_n 1, 1) := by decide +kernel
theorem dP_missAt_11 : decode bP_missAt 11 = .ok (.aload_n 0, 1) := by decide +kernel
theorem dP_missAt_12 : decode bP_missAt 12 = .ok (.getfield 52, 3) := by decide +kernel
theorem dP_missAt_15 : decode bP_missAt 15 = .ok (.aload_n 2, 1) := by decide +kernel
theorem dP_missAt_16 : decode bP_missAt 16 = .ok (.invokevirtual 72, 3) := by decide +kernel
theorem dP_missAt_19 : decode bP_missAt 19 = .ok (.isub, 1) := by decide +kernel
theorem dP_missAt_20 : decode bP_missAt 20 = .ok (.istore_n 3, 1) := by decide +kernel
theorem dP_missAt_21 : decode bP_missAt 21 = .ok (.aload_n 0, 1) := by decide +kernel
theorem dP_missAt_22 : decode bP_missAt 22 = .ok (.iload_n 1, 1) := by decide +kernel
theorem dP_missAt_23 : decode bP_missAt 23 = .ok (.aload_n 0, 1) := by decide +kernel
theorem dP_missAt_24 : decode bP_missAt 24 = .ok (.getfield 55, 3) := by decide +kernel
theorem dP_missAt_27 : decode bP_missAt 27 = .ok (.aload_n 2, 1) := by decide +kernel
theorem dP_missAt_28 : decode bP_missAt 28 = .ok (.invokevirtual 72, 3) := by decide +kernel
theorem dP_missAt_31 : decode bP_missAt 31 = .ok (.bipush 100, 2) := by decide +kernel
theorem dP_missAt_33 : decode bP_missAt 33 = .ok (.aload_n 0, 1) := by decide +kernel
theorem dP_missAt_34 : decode bP_missAt 34 = .ok (.getfield 28, 3) := by decide +kernel
theorem dP_missAt_37 : decode bP_missAt 37 = .ok (.iload_n 1, 1) := by decide +kernel
theorem dP_missAt_38 : decode bP_missAt 38 = .ok (.iaload, 1) := by decide +kernel
theorem dP_missAt_39 : decode bP_missAt 39 = .ok (.imul, 1) := by decide +kernel
theorem dP_missAt_40 : decode bP_missAt 40 = .ok (.isub, 1) := by decide +kernel
theorem dP_missAt_41 : decode bP_missAt 41 = .ok (.istore 4, 2) := by decide +kernel
theorem dP_missAt_43 : decode bP_missAt 43 = .ok (.iconst 0, 1) := by decide +kernel
theorem dP_missAt_44 : decode bP_missAt 44 = .ok (.iload_n 3, 1) := by decide +kernel
theorem dP_missAt_45 : decode bP_missAt 45 = .ok (.invokestatic 58, 3) := by decide +kernel
theorem dP_missAt_48 : decode bP_missAt 48 = .ok (.iconst 0, 1) := by decide +kernel
theorem dP_missAt_49 : decode bP_missAt 49 = .ok (.iload 4, 2) := by decide +kernel
theorem dP_missAt_51 : decode bP_missAt 51 = .ok (.invokestatic 58, 3) := by decide +kernel
theorem dP_missAt_54 : decode bP_missAt 54 = .ok (.iadd, 1) := by decide +kernel
theorem dP_missAt_55 : decode bP_missAt 55 = .ok (.ireturn, 1) := by decide +kernel
theorem dS_init_0 : decode bS_init 0 = .ok (.aload_n 0, 1) := by decide +kernel
theorem dS_init_1 : decode bS_init 1 = .ok (.invokespecial 3, 3) := by decide +kernel
theorem dS_init_4 : decode bS_init 4 = .ok (.aload_n 0, 1) := by decide +kernel
theorem dS_init_5 : decode bS_init 5 = .ok (.bipush 6, 2) := by decide +kernel
theorem dS_init_7 : decode bS_init 7 = .ok (.newarray .int, 2) := by decide +kernel
theorem dS_init_9 : decode bS_init 9 = .ok (.putfield 9, 3) := by decide +kernel
theorem dS_init_12 : decode bS_init 12 = .ok (.aload_n 0, 1) := by decide +kernel
theorem dS_init_13 : decode bS_init 13 = .ok (.bipush 6, 2) := by decide +kernel
theorem dS_init_15 : decode bS_init 15 = .ok (.newarray .int, 2) := by decide +kernel
theorem dS_init_17 : decode bS_init 17 = .ok (.putfield 15, 3) := by decide +kernel
theorem dS_init_20 : decode bS_init 20 = .ok (.aload_n 0, 1) := by decide +kernel
theorem dS_init_21 : decode bS_init 21 = .ok (.iconst 4, 1) := by decide +kernel
theorem dS_init_22 : decode bS_init 22 = .ok (.newarray .int, 2) := by decide +kernel
theorem dS_init_24 : decode bS_init 24 = .ok (.putfield 18, 3) := by decide +kernel
theorem dS_init_27 : decode bS_init 27 = .ok (.aload_n 0, 1) := by decide +kernel
theorem dS_init_28 : decode bS_init 28 = .ok (.iconst 4, 1) := by decide +kernel
theorem dS_init_29 : decode bS_init 29 = .ok (.bipush 6, 2) := by decide +kernel
theorem dS_init_31 : decode bS_init 31 = .ok (.multianewarray 21 2, 4) := by decide +kernel
theorem dS_init_35 : decode bS_init 35 = .ok (.putfield 23, 3) := by decide +kernel
theorem dS_init_38 : decode bS_init 38 = .ok (.aload_n 0, 1) := by decide +kernel
theorem dS_init_39 : decode bS_init 39 = .ok (.iconst 4, 1) := by decide +kernel
theorem dS_init_40 : decode bS_init 40 = .ok (.bipush 6, 2) := by decide +kernel
theorem dS_init_42 : decode bS_init 42 = .ok (.multianewarray 21 2, 4) := by decide +kernel
theorem dS_init_46 : decode bS_init 46 = .ok (.putfield 26, 3) := by decide +kernel
theorem dS_init_49 : decode bS_init 49 = .ok (.aload_n 0, 1) := by decide +kernel
theorem dS_init_50 : decode bS_init 50 = .ok (.bipush 6, 2) := by decide +kernel
theorem dS_init_52 : decode bS_init 52 = .ok (.newarray .boolean, 2) := by decide +kernel
theorem dS_init_54 : decode bS_init 54 = .ok (.putfield 29, 3) := by decide +kernel
theorem dS_init_57 : decode bS_init 57 = .ok (.aload_n 0, 1) := by decide +kernel
theorem dS_init_58 : decode bS_init 58 = .ok (.new 33, 3) := by decide +kernel
theorem dS_init_61 : decode bS_init 61 = .ok (.dup, 1) := by decide +kernel
theorem dS_init_62 : decode bS_init 62 = .ok (.invokespecial 35, 3) := by decide +kernel
theorem dS_init_65 : decode bS_init 65 = .ok (.putfield 36, 3) := by decide +kernel
theorem dS_init_68 : decode bS_init 68 = .ok (.aload_n 0, 1) := by decide +kernel
theorem dS_init_69 : decode bS_init 69 = .ok (.new 33, 3) := by decide +kernel
theorem dS_init_72 : decode bS_init 72 = .ok (.dup, 1) := by decide +kernel
theorem dS_init_73 : decode bS_init 73 = .ok (.invokespecial 35, 3) := by decide +kernel
theorem dS_init_76 : decode bS_init 76 = .ok (.putfield 40, 3) := by decide +kernel
theorem dS_init_79 : decode bS_init 79 = .ok (.aload_n 0, 1) := by decide +kernel
theorem dS_init_80 : decode bS_init 80 = .ok (.iconst 0, 1) := by decide +kernel
theorem dS_init_81 : decode bS_init 81 = .ok (.putfield 43, 3) := by decide +kernel
theorem dS_init_84 : decode bS_init 84 = .ok (.aload_n 0, 1) := by decide +kernel
theorem dS_init_85 : decode bS_init 85 = .ok (.iconst 0, 1) := by decide +kernel
theorem dS_init_86 : decode bS_init 86 = .ok (.putfield 47, 3) := by decide +kernel
theorem dS_init_89 : decode bS_init 89 = .ok (.aload_n 0, 1) := by decide +kernel
theorem dS_init_90 : decode bS_init 90 = .ok (.aload_n 1, 1) := by decide +kernel
theorem dS_init_91 : decode bS_init 91 = .ok (.putfield 50, 3) := by decide +kernel
theorem dS_init_94 : decode bS_init 94 = .ok (.return_, 1) := by decide +kernel
theorem dS_useBands_0 : decode bS_useBands 0 = .ok (.iconst 0, 1) := by decide +kernel
theorem dS_useBands_1 : decode bS_useBands 1 = .ok (.istore_n 1, 1) := by decide +kernel
theorem dS_useBands_2 : decode bS_useBands 2 = .ok (.iload_n 1, 1) := by decide +kernel
theorem dS_useBands_3 : decode bS_useBands 3 = .ok (.aload_n 0, 1) := by decide +kernel
theorem dS_useBands_4 : decode bS_useBands 4 = .ok (.getfield 50, 3) := by decide +kernel
theorem dS_useBands_7 : decode bS_useBands 7 = .ok (.getfield 54, 3) := by decide +kernel
theorem dS_useBands_10 : decode bS_useBands 10 = .ok (.if_icmp .ge 45, 3) := by decide +kernel
theorem dS_useBands_13 : decode bS_useBands 13 = .ok (.aload_n 0, 1) := by decide +kernel
theorem dS_useBands_14 : decode bS_useBands 14 = .ok (.getfield 9, 3) := by decide +kernel
theorem dS_useBands_17 : decode bS_useBands 17 = .ok (.iload_n 1, 1) := by decide +kernel
theorem dS_useBands_18 : decode bS_useBands 18 = .ok (.bipush 100, 2) := by decide +kernel
theorem dS_useBands_20 : decode bS_useBands 20 = .ok (.aload_n 0, 1) := by decide +kernel
theorem dS_useBands_21 : decode bS_useBands 21 = .ok (.getfield 50, 3) := by decide +kernel
theorem dS_useBands_24 : decode bS_useBands 24 = .ok (.getfield 59, 3) := by decide +kernel
theorem dS_useBands_27 : decode bS_useBands 27 = .ok (.iload_n 1, 1) := by decide +kernel
theorem dS_useBands_28 : decode bS_useBands 28 = .ok (.iaload, 1) := by decide +kernel
theorem dS_useBands_29 : decode bS_useBands 29 = .ok (.imul, 1) := by decide +kernel
theorem dS_useBands_30 : decode bS_useBands 30 = .ok (.iastore, 1) := by decide +kernel
theorem dS_useBands_31 : decode bS_useBands 31 = .ok (.aload_n 0, 1) := by decide +kernel
theorem dS_useBands_32 : decode bS_useBands 32 = .ok (.getfield 15, 3) := by decide +kernel
theorem dS_useBands_35 : decode bS_useBands 35 = .ok (.iload_n 1, 1) := by decide +kernel
theorem dS_useBands_36 : decode bS_useBands 36 = .ok (.bipush 100, 2) := by decide +kernel
theorem dS_useBands_38 : decode bS_useBands 38 = .ok (.aload_n 0, 1) := by decide +kernel
theorem dS_useBands_39 : decode bS_useBands 39 = .ok (.getfield 50, 3) := by decide +kernel
theorem dS_useBands_42 : decode bS_useBands 42 = .ok (.getfield 62, 3) := by decide +kernel
theorem dS_useBands_45 : decode bS_useBands 45 = .ok (.iload_n 1, 1) := by decide +kernel
theorem dS_useBands_46 : decode bS_useBands 46 = .ok (.iaload, 1) := by decide +kernel
theorem dS_useBands_47 : decode bS_useBands 47 = .ok (.imul, 1) := by decide +kernel
theorem dS_useBands_48 : decode bS_useBands 48 = .ok (.iastore, 1) := by decide +kernel
theorem dS_useBands_49 : decode bS_useBands 49 = .ok (.iinc 1 1, 3) := by decide +kernel
theorem dS_useBands_52 : decode bS_useBands 52 = .ok (.goto (-50), 3) := by decide +kernel
theorem dS_useBands_55 : decode bS_useBands 55 = .ok (.return_, 1) := by decide +kernel
theorem dS_widen_0 : decode bS_widen 0 = .ok (.iload_n 2, 1) := by decide +kernel
theorem dS_widen_1 : decode bS_widen 1 = .ok (.ifCond .eq 32, 3) := by decide +kernel
theorem dS_widen_4 : decode bS_widen 4 = .ok (.aload_n 0, 1) := by decide +kernel
theorem dS_widen_5 : decode bS_widen 5 = .ok (.getfield 15, 3) := by decide +kernel
theorem dS_widen_8 : decode bS_widen 8 = .ok (.iload_n 1, 1) := by decide +kernel
theorem dS_widen_9 : decode bS_widen 9 = .ok (.bipush 100, 2) := by decide +kernel
theorem dS_widen_11 : decode bS_widen 11 = .ok (.sipush 1000, 3) := by decide +kernel
theorem dS_widen_14 : decode bS_widen 14 = .ok (.aload_n 0, 1) := by decide +kernel
theorem dS_widen_15 : decode bS_widen 15 = .ok (.getfield 50, 3) := by decide +kernel
theorem dS_widen_18 : decode bS_widen 18 = .ok (.getfield 62, 3) := by decide +kernel
theorem dS_widen_21 : decode bS_widen 21 = .ok (.iload_n 1, 1) := by decide +kernel
theorem dS_widen_22 : decode bS_widen 22 = .ok (.iaload, 1) := by decide +kernel
theorem dS_widen_23 : decode bS_widen 23 = .ok (.iload_n 3, 1) := by decide +kernel
theorem dS_widen_24 : decode bS_widen 24 = .ok (.iadd, 1) := by decide +kernel
theorem dS_widen_25 : decode bS_widen 25 = .ok (.invokestatic 65, 3) := by decide +kernel
theorem dS_widen_28 : decode bS_widen 28 = .ok (.imul, 1) := by decide +kernel
theorem dS_widen_29 : decode bS_widen 29 = .ok (.iastore, 1) := by decide +kernel
theorem dS_widen_30 : decode bS_widen 30 = .ok (.goto 27, 3) := by decide +kernel
theorem dS_widen_33 : decode bS_widen 33 = .ok (.aload_n 0, 1) := by decide +kernel
theorem dS_widen_34 : decode bS_widen 34 = .ok (.getfield 9, 3) := by decide +kernel
theorem dS_widen_37 : decode bS_widen 37 = .ok (.iload_n 1, 1) := by decide +kernel
theorem dS_widen_38 : decode bS_widen 38 = .ok (.bipush 100, 2) := by decide +kernel
theorem dS_widen_40 : decode bS_widen 40 = .ok (.iconst 0, 1) := by decide +kernel
theorem dS_widen_41 : decode bS_widen 41 = .ok (.aload_n 0, 1) := by decide +kernel
theorem dS_widen_42 : decode bS_widen 42 = .ok (.getfield 50, 3) := by decide +kernel
theorem dS_widen_45 : decode bS_widen 45 = .ok (.getfield 59, 3) := by decide +kernel
theorem dS_widen_48 : decode bS_widen 48 = .ok (.iload_n 1, 1) := by decide +kernel
theorem dS_widen_49 : decode bS_widen 49 = .ok (.iaload, 1) := by decide +kernel
theorem dS_widen_50 : decode bS_widen 50 = .ok (.iload_n 3, 1) := by decide +kernel
theorem dS_widen_51 : decode bS_widen 51 = .ok (.isub, 1) := by decide +kernel
theorem dS_widen_52 : decode bS_widen 52 = .ok (.invokestatic 71, 3) := by decide +kernel
theorem dS_widen_55 : decode bS_widen 55 = .ok (.imul, 1) := by decide +kernel
theorem dS_widen_56 : decode bS_widen 56 = .ok (.iastore, 1) := by decide +kernel
theorem dS_widen_57 : decode bS_widen 57 = .ok (.return_, 1) := by decide +kernel
theorem dS_lookAtAll_0 : decode bS_lookAtAll 0 = .ok (.aload_n 0, 1) := by decide +kernel
theorem dS_lookAtAll_1 : decode bS_lookAtAll 1 = .ok (.iconst 0, 1) := by decide +kernel
theorem dS_lookAtAll_2 : decode bS_lookAtAll 2 = .ok (.putfield 43, 3) := by decide +kernel
theorem dS_lookAtAll_5 : decode bS_lookAtAll 5 = .ok (.aload_n 0, 1) := by decide +kernel
theorem dS_lookAtAll_6 : decode bS_lookAtAll 6 = .ok (.iconst 0, 1) := by decide +kernel
theorem dS_lookAtAll_7 : decode bS_lookAtAll 7 = .ok (.putfield 47, 3) := by decide +kernel
theorem dS_lookAtAll_10 : decode bS_lookAtAll 10 = .ok (.aload_n 0, 1) := by decide +kernel
theorem dS_lookAtAll_11 : decode bS_lookAtAll 11 = .ok (.getfield 36, 3) := by decide +kernel
theorem dS_lookAtAll_14 : decode bS_lookAtAll 14 = .ok (.iconst 0, 1) := by decide +kernel
theorem dS_lookAtAll_15 : decode bS_lookAtAll 15 = .ok (.putfield 74, 3) := by decide +kernel
theorem dS_lookAtAll_18 : decode bS_lookAtAll 18 = .ok (.aload_n 0, 1) := by decide +kernel
theorem dS_lookAtAll_19 : decode bS_lookAtAll 19 = .ok (.getfield 40, 3) := by decide +kernel
theorem dS_lookAtAll_22 : decode bS_lookAtAll 22 = .ok (.iconst 0, 1) := by decide +kernel
theorem dS_lookAtAll_23 : decode bS_lookAtAll 23 = .ok (.putfield 74, 3) := by decide +kernel
theorem dS_lookAtAll_26 : decode bS_lookAtAll 26 = .ok (.iconst 0, 1) := by decide +kernel
theorem dS_lookAtAll_27 : decode bS_lookAtAll 27 = .ok (.istore_n 1, 1) := by decide +kernel
theorem dS_lookAtAll_28 : decode bS_lookAtAll 28 = .ok (.iload_n 1, 1) := by decide +kernel
theorem dS_lookAtAll_29 : decode bS_lookAtAll 29 = .ok (.bipush 6, 2) := by decide +kernel
theorem dS_lookAtAll_31 : decode bS_lookAtAll 31 = .ok (.if_icmp .ge 16, 3) := by decide +kernel
theorem dS_lookAtAll_34 : decode bS_lookAtAll 34 = .ok (.aload_n 0, 1) := by decide +kernel
theorem dS_lookAtAll_35 : decode bS_lookAtAll 35 = .ok (.getfield 29, 3) := by decide +kernel
theorem dS_lookAtAll_38 : decode bS_lookAtAll 38 = .ok (.iload_n 1, 1) := by decide +kernel
theorem dS_lookAtAll_39 : decode bS_lookAtAll 39 = .ok (.iconst 0, 1) := by decide +kernel
theorem dS_lookAtAll_40 : decode bS_lookAtAll 40 = .ok (.bastore, 1) := by decide +kernel
theorem dS_lookAtAll_41 : decode bS_lookAtAll 41 = .ok (.iinc 1 1, 3) := by decide +kernel
theorem dS_lookAtAll_44 : decode bS_lookAtAll 44 = .ok (.goto (-16), 3) := by decide +kernel
theorem dS_lookAtAll_47 : decode bS_lookAtAll 47 = .ok (.aload_n 0, 1) := by decide +kernel
theorem dS_lookAtAll_48 : decode bS_lookAtAll 48 = .ok (.iconst 0, 1) := by decide +kernel
theorem dS_lookAtAll_49 : decode bS_lookAtAll 49 = .ok (.bipush 100, 2) := by decide +kernel
theorem dS_lookAtAll_51 : decode bS_lookAtAll 51 = .ok (.aload_n 0, 1) := by decide +kernel
theorem dS_lookAtAll_52 : decode bS_lookAtAll 52 = .ok (.getfield 50, 3) := by decide +kernel
theorem dS_lookAtAll_55 : decode bS_lookAtAll 55 = .ok (.getfield 78, 3) := by decide +kernel
theorem dS_lookAtAll_58 : decode bS_lookAtAll 58 = .ok (.iconst 0, 1) := by decide +kernel
theorem dS_lookAtAll_59 : decode bS_lookAtAll 59 = .ok (.invokevirtual 81, 3) := by decide +kernel
theorem dS_lookAtAll_62 : decode bS_lookAtAll 62 = .ok (.return_, 1) := by decide +kernel
theorem dS_fillFrom_0 : decode bS_fillFrom 0 = .ok (.iload_n 1, 1) := by decide +kernel
theorem dS_fillFrom_1 : decode bS_fillFrom 1 = .ok (.ifCond .lt 14, 3) := by decide +kernel
theorem dS_fillFrom_4 : decode bS_fillFrom 4 = .ok (.iload_n 1, 1) := by decide +kernel
theorem dS_fillFrom_5 : decode bS_fillFrom 5 = .ok (.aload_n 0, 1) := by decide +kernel
theorem dS_fillFrom_6 : decode bS_fillFrom 6 = .ok (.getfield 50, 3) := by decide +kernel
theorem dS_fillFrom_9 : decode bS_fillFrom 9 = .ok (.getfield 85, 3) := by decide +kernel
theorem dS_fillFrom_12 : decode bS_fillFrom 12 = .ok (.if_icmp .lt 4, 3) := by decide +kernel
theorem dS_fillFrom_15 : decode bS_fillFrom 15 = .ok (.return_, 1) := by decide +kernel
theorem dS_fillFrom_16 : decode bS_fillFrom 16 = .ok (.aload_n 0, 1) := by decide +kernel
theorem dS_fillFrom_17 : decode bS_fillFrom 17 = .ok (.getfield 50, 3) := by decide +kernel
theorem dS_fillFrom_20 : decode bS_fillFrom 20 = .ok (.getfield 88, 3) := by decide +kernel
theorem dS_fillFrom_23 : decode bS_fillFrom 23 = .ok (.iload_n 1, 1) := by decide +kernel
theorem dS_fillFrom_24 : decode bS_fillFrom 24 = .ok (.baload, 1) := by decide +kernel
theorem dS_fillFrom_25 : decode bS_fillFrom 25 = .ok (.ifCond .eq 11, 3) := by decide +kernel
theorem dS_fillFrom_28 : decode bS_fillFrom 28 = .ok (.iload_n 2, 1) := by decide +kernel
theorem dS_fillFrom_29 : decode bS_fillFrom 29 = .ok (.iload_n 3, 1) := by decide +kernel
theorem dS_fillFrom_30 : decode bS_fillFrom 30 = .ok (.invokestatic 65, 3) := by decide +kernel
theorem dS_fillFrom_33 : decode bS_fillFrom 33 = .ok (.goto 4, 3) := by decide +kernel
theorem dS_fillFrom_36 : decode bS_fillFrom 36 = .ok (.iload_n 2, 1) := by decide +kernel
theorem dS_fillFrom_37 : decode bS_fillFrom 37 = .ok (.istore 5, 2) := by decide +kernel
theorem dS_fillFrom_39 : decode bS_fillFrom 39 = .ok (.iload 5, 2) := by decide +kernel
theorem dS_fillFrom_41 : decode bS_fillFrom 41 = .ok (.aload_n 0, 1) := by decide +kernel
theorem dS_fillFrom_42 : decode bS_fillFrom 42 = .ok (.getfield 50, 3) := by decide +kernel
theorem dS_fillFrom_45 : decode bS_fillFrom 45 = .ok (.getfield 91, 3) := by decide +kernel
theorem dS_fillFrom_48 : decode bS_fillFrom 48 = .ok (.iload_n 1, 1) := by decide +kernel
theorem dS_fillFrom_49 : decode bS_fillFrom 49 = .ok (.iaload, 1) := by decide +kernel
theorem dS_fillFrom_50 : decode bS_fillFrom 50 = .ok (.invokestatic 65, 3) := by decide +kernel
theorem dS_fillFrom_53 : decode bS_fillFrom 53 = .ok (.istore 6, 2) := by decide +kernel
theorem dS_fillFrom_55 : decode bS_fillFrom 55 = .ok (.iload_n 1, 1) := by decide +kernel
theorem dS_fillFrom_56 : decode bS_fillFrom 56 = .ok (.aload_n 0, 1) := by decide +kernel
theorem dS_fillFrom_57 : decode bS_fillFrom 57 = .ok (.getfield 50, 3) := by decide +kernel
theorem dS_fillFrom_60 : decode bS_fillFrom 60 = .ok (.getfield 85, 3) := by decide +kernel
theorem dS_fillFrom_63 : decode bS_fillFrom 63 = .ok (.iconst 1, 1) := by decide +kernel
theorem dS_fillFrom_64 : decode bS_fillFrom 64 = .ok (.isub, 1) := by decide +kernel
theorem dS_fillFrom_65 : decode bS_fillFrom 65 = .ok (.if_icmp .ne 53, 3) := by decide +kernel
theorem dS_fillFrom_68 : decode bS_fillFrom 68 = .ok (.iload_n 2, 1) := by decide +kernel
theorem dS_fillFrom_69 : decode bS_fillFrom 69 = .ok (.aload_n 0, 1) := by decide +kernel
theorem dS_fillFrom_70 : decode bS_fillFrom 70 = .ok (.getfield 50, 3) := by decide +kernel
theorem dS_fillFrom_73 : decode bS_fillFrom 73 = .ok (.getfield 94, 3) := by decide +kernel
theorem dS_fillFrom_76 : decode bS_fillFrom 76 = .ok (.iload_n 1, 1) := by decide +kernel
theorem dS_fillFrom_77 : decode bS_fillFrom 77 = .ok (.iaload, 1) := by decide +kernel
theorem dS_fillFrom_78 : decode bS_fillFrom 78 = .ok (.iload 6, 2) := by decide +kernel
theorem dS_fillFrom_80 : decode bS_fillFrom 80 = .ok (.invokestatic 97, 3) := by decide +kernel
theorem dS_fillFrom_83 : decode bS_fillFrom 83 = .ok (.ifCond .eq 34, 3) := by decide +kernel
theorem dS_fillFrom_86 : decode bS_fillFrom 86 = .ok (.aload_n 0, 1) := by decide +kernel
theorem dS_fillFrom_87 : decode bS_fillFrom 87 = .ok (.getfield 18, 3) := by decide +kernel
theorem dS_fillFrom_90 : decode bS_fillFrom 90 = .ok (.iload_n 1, 1) := by decide +kernel
theorem dS_fillFrom_91 : decode bS_fillFrom 91 = .ok (.iload_n 2, 1) := by decide +kernel
theorem dS_fillFrom_92 : decode bS_fillFrom 92 = .ok (.iastore, 1) := by decide +kernel
theorem dS_fillFrom_93 : decode bS_fillFrom 93 = .ok (.aload_n 0, 1) := by decide +kernel
theorem dS_fillFrom_94 : decode bS_fillFrom 94 = .ok (.iload 4, 2) := by decide +kernel
theorem dS_fillFrom_96 : decode bS_fillFrom 96 = .ok (.iload_n 2, 1) := by decide +kernel
theorem dS_fillFrom_97 : decode bS_fillFrom 97 = .ok (.aload_n 0, 1) := by decide +kernel
theorem dS_fillFrom_98 : decode bS_fillFrom 98 = .ok (.getfield 50, 3) := by decide +kernel
theorem dS_fillFrom_101 : decode bS_fillFrom 101 = .ok (.getfield 101, 3) := by decide +kernel
theorem dS_fillFrom_104 : decode bS_fillFrom 104 = .ok (.iload_n 1, 1) := by decide +kernel
theorem dS_fillFrom_105 : decode bS_fillFrom 105 = .ok (.iaload, 1) := by decide +kernel
theorem dS_fillFrom_106 : decode bS_fillFrom 106 = .ok (.imul, 1) := by decide +kernel
theorem dS_fillFrom_107 : decode bS_fillFrom 107 = .ok (.iadd, 1) := by decide +kernel
theorem dS_fillFrom_108 : decode bS_fillFrom 108 = .ok (.aload_n 0, 1) := by decide +kernel
theorem dS_fillFrom_109 : decode bS_fillFrom 109 = .ok (.iload_n 1, 1) := by decide +kernel
theorem dS_fillFrom_110 : decode bS_fillFrom 110 = .ok (.iload_n 2, 1) := by decide +kernel
theorem dS_fillFrom_111 : decode bS_fillFrom 111 = .ok (.invokevirtual 104, 3) := by decide +kernel
theorem dS_fillFrom_114 : decode bS_fillFrom 114 = .ok (.invokevirtual 107, 3) := by decide +kernel
theorem dS_fillFrom_117 : decode bS_fillFrom 117 = .ok (.return_, 1) := by decide +kernel
theorem dS_fillFrom_118 : decode bS_fillFrom 118 = .ok (.iconst 0, 1) := by decide +kernel
theorem dS_fillFrom_119 : decode bS_fillFrom 119 = .ok (.istore 7, 2) := by decide +kernel
theorem dS_fillFrom_121 : decode bS_fillFrom 121 = .ok (.iload 7, 2) := by decide +kernel
theorem dS_fillFrom_123 : decode bS_fillFrom 123 = .ok (.bipush 100, 2) := by decide +kernel
theorem dS_fillFrom_125 : decode bS_fillFrom 125 = .ok (.if_icmp .gt 102, 3) := by decide +kernel
theorem dS_fillFrom_128 : decode bS_fillFrom 128 = .ok (.iload 7, 2) := by decide +kernel
theorem dS_fillFrom_130 : decode bS_fillFrom 130 = .ok (.aload_n 0, 1) := by decide +kernel
theorem dS_fillFrom_131 : decode bS_fillFrom 131 = .ok (.getfield 50, 3) := by decide +kernel
theorem dS_fillFrom_134 : decode bS_fillFrom 134 = .ok (.getfield 111, 3) := by decide +kernel
theorem dS_fillFrom_137 : decode bS_fillFrom 137 = .ok (.imul, 1) := by decide +kernel
theorem dS_fillFrom_138 : decode bS_fillFrom 138 = .ok (.istore 8, 2) := by decide +kernel
theorem dS_fillFrom_140 : decode bS_fillFrom 140 = .ok (.iload 8, 2) := by decide +kernel
theorem dS_fillFrom_142 : decode bS_fillFrom 142 = .ok (.iload 6, 2) := by decide +kernel
theorem dS_fillFrom_144 : decode bS_fillFrom 144 = .ok (.if_icmp .le 6, 3) := by decide +kernel
theorem dS_fillFrom_147 : decode bS_fillFrom 147 = .ok (.goto 80, 3) := by decide +kernel
theorem dS_fillFrom_150 : decode bS_fillFrom 150 = .ok (.iload 8, 2) := by decide +kernel
theorem dS_fillFrom_152 : decode bS_fillFrom 152 = .ok (.aload_n 0, 1) := by decide +kernel
theorem dS_fillFrom_153 : decode bS_fillFrom 153 = .ok (.getfield 50, 3) := by decide +kernel
theorem dS_fillFrom_156 : decode bS_fillFrom 156 = .ok (.getfield 94, 3) := by decide +kernel
theorem dS_fillFrom_159 : decode bS_fillFrom 159 = .ok (.iload_n 1, 1) := by decide +kernel
theorem dS_fillFrom_160 : decode bS_fillFrom 160 = .ok (.iaload, 1) := by decide +kernel
theorem dS_fillFrom_161 : decode bS_fillFrom 161 = .ok (.if_icmp .lt 60, 3) := by decide +kernel
theorem dS_fillFrom_164 : decode bS_fillFrom 164 = .ok (.aload_n 0, 1) := by decide +kernel
theorem dS_fillFrom_165 : decode bS_fillFrom 165 = .ok (.iload_n 1, 1) := by decide +kernel
theorem dS_fillFrom_166 : decode bS_fillFrom 166 = .ok (.iload 8, 2) := by decide +kernel
theorem dS_fillFrom_168 : decode bS_fillFrom 168 = .ok (.invokevirtual 114, 3) := by decide +kernel
theorem dS_fillFrom_171 : decode bS_fillFrom 171 = .ok (.aload_n 0, 1) := by decide +kernel
theorem dS_fillFrom_172 : decode bS_fillFrom 172 = .ok (.getfield 50, 3) := by decide +kernel
theorem dS_fillFrom_175 : decode bS_fillFrom 175 = .ok (.getfield 88, 3) := by decide +kernel
theorem dS_fillFrom_178 : decode bS_fillFrom 178 = .ok (.iload_n 1, 1) := by decide +kernel
theorem dS_fillFrom_179 : decode bS_fillFrom 179 = .ok (.baload, 1) := by decide +kernel
theorem dS_fillFrom_180 : decode bS_fillFrom 180 = .ok (.ifCond .eq 10, 3) := by decide +kernel
theorem dS_fillFrom_183 : decode bS_fillFrom 183 = .ok (.iload_n 3, 1) := by decide +kernel
theorem dS_fillFrom_184 : decode bS_fillFrom 184 = .ok (.iload 8, 2) := by decide +kernel
theorem dS_fillFrom_186 : decode bS_fillFrom 186 = .ok (.isub, 1) := by decide +kernel
theorem dS_fillFrom_187 : decode bS_fillFrom 187 = .ok (.goto 4, 3) := by decide +kernel
theorem dS_fillFrom_190 : decode bS_fillFrom 190 = .ok (.iload_n 3, 1) := by decide +kernel
theorem dS_fillFrom_191 : decode bS_fillFrom 191 = .ok (.istore 9, 2) := by decide +kernel
theorem dS_fillFrom_193 : decode bS_fillFrom 193 = .ok (.aload_n 0, 1) := by decide +kernel
theorem dS_fillFrom_194 : decode bS_fillFrom 194 = .ok (.iload_n 1, 1) := by decide +kernel
theorem dS_fillFrom_195 : decode bS_fillFrom 195 = .ok (.iconst 1, 1) := by decide +kernel
theorem dS_fillFrom_196 : decode bS_fillFrom 196 = .ok (.iadd, 1) := by decide +kernel
theorem dS_fillFrom_197 : decode bS_fillFrom 197 = .ok (.iload_n 2, 1) := by decide +kernel
theorem dS_fillFrom_198 : decode bS_fillFrom 198 = .ok (.iload 8, 2) := by decide +kernel
theorem dS_fillFrom_200 : decode bS_fillFrom 200 = .ok (.isub, 1) := by decide +kernel
theorem dS_fillFrom_201 : decode bS_fillFrom 201 = .ok (.iload 9, 2) := by decide +kernel
theorem dS_fillFrom_203 : decode bS_fillFrom 203 = .ok (.iload 4, 2) := by decide +kernel
theorem dS_fillFrom_205 : decode bS_fillFrom 205 = .ok (.iload 8, 2) := by decide +kernel
theorem dS_fillFrom_207 : decode bS_fillFrom 207 = .ok (.aload_n 0, 1) := by decide +kernel
theorem dS_fillFrom_208 : decode bS_fillFrom 208 = .ok (.getfield 50, 3) := by decide +kernel
theorem dS_fillFrom_211 : decode bS_fillFrom 211 = .ok (.getfield 101, 3) := by decide +kernel
theorem dS_fillFrom_214 : decode bS_fillFrom 214 = .ok (.iload_n 1, 1) := by decide +kernel
theorem dS_fillFrom_215 : decode bS_fillFrom 215 = .ok (.iaload, 1) := by decide +kernel
theorem dS_fillFrom_216 : decode bS_fillFrom 216 = .ok (.imul, 1) := by decide +kernel
theorem dS_fillFrom_217 : decode bS_fillFrom 217 = .ok (.iadd, 1) := by decide +kernel
theorem dS_fillFrom_218 : decode bS_fillFrom 218 = .ok (.invokevirtual 81, 3) := by decide +kernel
theorem dS_fillFrom_221 : decode bS_fillFrom 221 = .ok (.iinc 7 1, 3) := by decide +kernel
theorem dS_fillFrom_224 : decode bS_fillFrom 224 = .ok (.goto (-103), 3) := by decide +kernel
theorem dS_fillFrom_227 : decode bS_fillFrom 227 = .ok (.return_, 1) := by decide +kernel
theorem dS_putShare_0 : decode bS_putShare 0 = .ok (.aload_n 0, 1) := by decide +kernel
theorem dS_putShare_1 : decode bS_putShare 1 = .ok (.getfield 18, 3) := by decide +kernel
theorem dS_putShare_4 : decode bS_putShare 4 = .ok (.iload_n 1, 1) := by decide +kernel
theorem dS_putShare_5 : decode bS_putShare 5 = .ok (.iload_n 2, 1) := by decide +kernel
theorem dS_putShare_6 : decode bS_putShare 6 = .ok (.iastore, 1) := by decide +kernel
theorem dS_putShare_7 : decode bS_putShare 7 = .ok (.iconst 0, 1) := by decide +kernel
theorem dS_putShare_8 : decode bS_putShare 8 = .ok (.istore_n 3, 1) := by decide +kernel
theorem dS_putShare_9 : decode bS_putShare 9 = .ok (.iload_n 3, 1) := by decide +kernel
theorem dS_putShare_10 : decode bS_putShare 10 = .ok (.aload_n 0, 1) := by decide +kernel
theorem dS_putShare_11 : decode bS_putShare 11 = .ok (.getfield 50, 3) := by decide +kernel
theorem dS_putShare_14 : decode bS_putShare 14 = .ok (.getfield 54, 3) := by decide +kernel
theorem dS_putShare_17 : decode bS_putShare 17 = .ok (.if_icmp .ge 73, 3) := by decide +kernel
theorem dS_putShare_20 : decode bS_putShare 20 = .ok (.aload_n 0, 1) := by decide +kernel
theorem dS_putShare_21 : decode bS_putShare 21 = .ok (.getfield 23, 3) := by decide +kernel
theorem dS_putShare_24 : decode bS_putShare 24 = .ok (.iload_n 1, 1) := by decide +kernel
theorem dS_putShare_25 : decode bS_putShare 25 = .ok (.iconst 1, 1) := by decide +kernel
theorem dS_putShare_26 : decode bS_putShare 26 = .ok (.iadd, 1) := by decide +kernel
theorem dS_putShare_27 : decode bS_putShare 27 = .ok (.aaload, 1) := by decide +kernel
theorem dS_putShare_28 : decode bS_putShare 28 = .ok (.iload_n 3, 1) := by decide +kernel
theorem dS_putShare_29 : decode bS_putShare 29 = .ok (.aload_n 0, 1) := by decide +kernel
theorem dS_putShare_30 : decode bS_putShare 30 = .ok (.getfield 23, 3) := by decide +kernel
theorem dS_putShare_33 : decode bS_putShare 33 = .ok (.iload_n 1, 1) := by decide +kernel
theorem dS_putShare_34 : decode bS_putShare 34 = .ok (.aaload, 1) := by decide +kernel
theorem dS_putShare_35 : decode bS_putShare 35 = .ok (.iload_n 3, 1) := by decide +kernel
theorem dS_putShare_36 : decode bS_putShare 36 = .ok (.iaload, 1) := by decide +kernel
theorem dS_putShare_37 : decode bS_putShare 37 = .ok (.iload_n 2, 1) := by decide +kernel
theorem dS_putShare_38 : decode bS_putShare 38 = .ok (.aload_n 0, 1) := by decide +kernel
theorem dS_putShare_39 : decode bS_putShare 39 = .ok (.getfield 50, 3) := by decide +kernel
theorem dS_putShare_42 : decode bS_putShare 42 = .ok (.getfield 117, 3) := by decide +kernel
theorem dS_putShare_45 : decode bS_putShare 45 = .ok (.iload_n 1, 1) := by decide +kernel
theorem dS_putShare_46 : decode bS_putShare 46 = .ok (.aaload, 1) := by decide +kernel
theorem dS_putShare_47 : decode bS_putShare 47 = .ok (.iload_n 3, 1) := by decide +kernel
theorem dS_putShare_48 : decode bS_putShare 48 = .ok (.iaload, 1) := by decide +kernel
theorem dS_putShare_49 : decode bS_putShare 49 = .ok (.imul, 1) := by decide +kernel
theorem dS_putShare_50 : decode bS_putShare 50 = .ok (.iadd, 1) := by decide +kernel
theorem dS_putShare_51 : decode bS_putShare 51 = .ok (.iastore, 1) := by decide +kernel
theorem dS_putShare_52 : decode bS_putShare 52 = .ok (.aload_n 0, 1) := by decide +kernel
theorem dS_putShare_53 : decode bS_putShare 53 = .ok (.getfield 26, 3) := by decide +kernel
theorem dS_putShare_56 : decode bS_putShare 56 = .ok (.iload_n 1, 1) := by decide +kernel
theorem dS_putShare_57 : decode bS_putShare 57 = .ok (.iconst 1, 1) := by decide +kernel
theorem dS_putShare_58 : decode bS_putShare 58 = .ok (.iadd, 1) := by decide +kernel
theorem dS_putShare_59 : decode bS_putShare 59 = .ok (.aaload, 1) := by decide +kernel
theorem dS_putShare_60 : decode bS_putShare 60 = .ok (.iload_n 3, 1) := by decide +kernel
theorem dS_putShare_61 : decode bS_putShare 61 = .ok (.aload_n 0, 1) := by decide +kernel
theorem dS_putShare_62 : decode bS_putShare 62 = .ok (.getfield 26, 3) := by decide +kernel
theorem dS_putShare_65 : decode bS_putShare 65 = .ok (.iload_n 1, 1) := by decide +kernel
theorem dS_putShare_66 : decode bS_putShare 66 = .ok (.aaload, 1) := by decide +kernel
theorem dS_putShare_67 : decode bS_putShare 67 = .ok (.iload_n 3, 1) := by decide +kernel
theorem dS_putShare_68 : decode bS_putShare 68 = .ok (.iaload, 1) := by decide +kernel
theorem dS_putShare_69 : decode bS_putShare 69 = .ok (.iload_n 2, 1) := by decide +kernel
theorem dS_putShare_70 : decode bS_putShare 70 = .ok (.aload_n 0, 1) := by decide +kernel
theorem dS_putShare_71 : decode bS_putShare 71 = .ok (.getfield 50, 3) := by decide +kernel
theorem dS_putShare_74 : decode bS_putShare 74 = .ok (.getfield 120, 3) := by decide +kernel
theorem dS_putShare_77 : decode bS_putShare 77 = .ok (.iload_n 1, 1) := by decide +kernel
theorem dS_putShare_78 : decode bS_putShare 78 = .ok (.aaload, 1) := by decide +kernel
theorem dS_putShare_79 : decode bS_putShare 79 = .ok (.iload_n 3, 1) := by decide +kernel
theorem dS_putShare_80 : decode bS_putShare 80 = .ok (.iaload, 1) := by decide +kernel
theorem dS_putShare_81 : decode bS_putShare 81 = .ok (.imul, 1) := by decide +kernel
theorem dS_putShare_82 : decode bS_putShare 82 = .ok (.iadd, 1) := by decide +kernel
theorem dS_putShare_83 : decode bS_putShare 83 = .ok (.iastore, 1) := by decide +kernel
theorem dS_putShare_84 : decode bS_putShare 84 = .ok (.iinc 3 1, 3) := by decide +kernel
theorem dS_putShare_87 : decode bS_putShare 87 = .ok (.goto (-78), 3) := by decide +kernel
theorem dS_putShare_90 : decode bS_putShare 90 = .ok (.return_, 1) := by decide +kernel
theorem dS_missOfAll_0 : decode bS_missOfAll 0 = .ok (.aload_n 0, 1) := by decide +kernel
theorem dS_missOfAll_1 : decode bS_missOfAll 1 = .ok (.getfield 23, 3) := by decide +kernel
theorem dS_missOfAll_4 : decode bS_missOfAll 4 = .ok (.iload_n 1, 1) := by decide +kernel
theorem dS_missOfAll_5 : decode bS_missOfAll 5 = .ok (.aaload, 1) := by decide +kernel
theorem dS_missOfAll_6 : decode bS_missOfAll 6 = .ok (.astore_n 3, 1) := by decide +kernel
theorem dS_missOfAll_7 : decode bS_missOfAll 7 = .ok (.aload_n 0, 1) := by decide +kernel
theorem dS_missOfAll_8 : decode bS_missOfAll 8 = .ok (.getfield 26, 3) := by decide +kernel
theorem dS_missOfAll_11 : decode bS_missOfAll 11 = .ok (.iload_n 1, 1) := by decide +kernel
theorem dS_missOfAll_12 : decode bS_missOfAll 12 = .ok (.aaload, 1) := by decide +kernel
theorem dS_missOfAll_13 : decode bS_missOfAll 13 = .ok (.astore 4, 2) := by decide +kernel
theorem dS_missOfAll_15 : decode bS_missOfAll 15 = .ok (.aload_n 0, 1) := by decide +kernel
theorem dS_missOfAll_16 : decode bS_missOfAll 16 = .ok (.getfield 50, 3) := by decide +kernel
theorem dS_missOfAll_19 : decode bS_missOfAll 19 = .ok (.getfield 117, 3) := by decide +kernel
theorem dS_missOfAll_22 : decode bS_missOfAll 22 = .ok (.iload_n 1, 1) := by decide +kernel
theorem dS_missOfAll_23 : decode bS_missOfAll 23 = .ok (.aaload, 1) := by decide +kernel
theorem dS_missOfAll_24 : decode bS_missOfAll 24 = .ok (.astore 5, 2) := by decide +kernel
theorem dS_missOfAll_26 : decode bS_missOfAll 26 = .ok (.aload_n 0, 1) := by decide +kernel
theorem dS_missOfAll_27 : decode bS_missOfAll 27 = .ok (.getfield 50, 3) := by decide +kernel
theorem dS_missOfAll_30 : decode bS_missOfAll 30 = .ok (.getfield 120, 3) := by decide +kernel
theorem dS_missOfAll_33 : decode bS_missOfAll 33 = .ok (.iload_n 1, 1) := by decide +kernel
theorem dS_missOfAll_34 : decode bS_missOfAll 34 = .ok (.aaload, 1) := by decide +kernel
theorem dS_missOfAll_35 : decode bS_missOfAll 35 = .ok (.astore 6, 2) := by decide +kernel
theorem dS_missOfAll_37 : decode bS_missOfAll 37 = .ok (.iconst 0, 1) := by decide +kernel
theorem dS_missOfAll_38 : decode bS_missOfAll 38 = .ok (.istore 7, 2) := by decide +kernel
theorem dS_missOfAll_40 : decode bS_missOfAll 40 = .ok (.iconst 0, 1) := by decide +kernel
theorem dS_missOfAll_41 : decode bS_missOfAll 41 = .ok (.istore 8, 2) := by decide +kernel
theorem dS_missOfAll_43 : decode bS_missOfAll 43 = .ok (.iload 8, 2) := by decide +kernel
theorem dS_missOfAll_45 : decode bS_missOfAll 45 = .ok (.aload_n 0, 1) := by decide +kernel
theorem dS_missOfAll_46 : decode bS_missOfAll 46 = .ok (.getfield 50, 3) := by decide +kernel
theorem dS_missOfAll_49 : decode bS_missOfAll 49 = .ok (.getfield 54, 3) := by decide +kernel
theorem dS_missOfAll_52 : decode bS_missOfAll 52 = .ok (.if_icmp .ge 89, 3) := by decide +kernel
theorem dS_missOfAll_55 : decode bS_missOfAll 55 = .ok (.aload_n 0, 1) := by decide +kernel
theorem dS_missOfAll_56 : decode bS_missOfAll 56 = .ok (.getfield 9, 3) := by decide +kernel
theorem dS_missOfAll_59 : decode bS_missOfAll 59 = .ok (.iload 8, 2) := by decide +kernel
theorem dS_missOfAll_61 : decode bS_missOfAll 61 = .ok (.iaload, 1) := by decide +kernel
theorem dS_missOfAll_62 : decode bS_missOfAll 62 = .ok (.aload_n 3, 1) := by decide +kernel
theorem dS_missOfAll_63 : decode bS_missOfAll 63 = .ok (.iload 8, 2) := by decide +kernel
theorem dS_missOfAll_65 : decode bS_missOfAll 65 = .ok (.iaload, 1) := by decide +kernel
theorem dS_missOfAll_66 : decode bS_missOfAll 66 = .ok (.isub, 1) := by decide +kernel
theorem dS_missOfAll_67 : decode bS_missOfAll 67 = .ok (.iload_n 2, 1) := by decide +kernel
theorem dS_missOfAll_68 : decode bS_missOfAll 68 = .ok (.aload 5, 2) := by decide +kernel
theorem dS_missOfAll_70 : decode bS_missOfAll 70 = .ok (.iload 8, 2) := by decide +kernel
theorem dS_missOfAll_72 : decode bS_missOfAll 72 = .ok (.iaload, 1) := by decide +kernel
theorem dS_missOfAll_73 : decode bS_missOfAll 73 = .ok (.imul, 1) := by decide +kernel
theorem dS_missOfAll_74 : decode bS_missOfAll 74 = .ok (.isub, 1) := by decide +kernel
theorem dS_missOfAll_75 : decode bS_missOfAll 75 = .ok (.istore 9, 2) := by decide +kernel
theorem dS_missOfAll_77 : decode bS_missOfAll 77 = .ok (.aload 4, 2) := by decide +kernel
theorem dS_missOfAll_79 : decode bS_missOfAll 79 = .ok (.iload 8, 2) := by decide +kernel
theorem dS_missOfAll_81 : decode bS_missOfAll 81 = .ok (.iaload, 1) := by decide +kernel
theorem dS_missOfAll_82 : decode bS_missOfAll 82 = .ok (.iload_n 2, 1) := by decide +kernel
theorem dS_missOfAll_83 : decode bS_missOfAll 83 = .ok (.aload 6, 2) := by decide +kernel
theorem dS_missOfAll_85 : decode bS_missOfAll 85 = .ok (.iload 8, 2) := by decide +kernel
theorem dS_missOfAll_87 : decode bS_missOfAll 87 = .ok (.iaload, 1) := by decide +kernel
theorem dS_missOfAll_88 : decode bS_missOfAll 88 = .ok (.imul, 1) := by decide +kernel
theorem dS_missOfAll_89 : decode bS_missOfAll 89 = .ok (.iadd, 1) := by decide +kernel
theorem dS_missOfAll_90 : decode bS_missOfAll 90 = .ok (.aload_n 0, 1) := by decide +kernel
theorem dS_missOfAll_91 : decode bS_missOfAll 91 = .ok (.getfield 15, 3) := by decide +kernel
theorem dS_missOfAll_94 : decode bS_missOfAll 94 = .ok (.iload 8, 2) := by decide +kernel
theorem dS_missOfAll_96 : decode bS_missOfAll 96 = .ok (.iaload, 1) := by decide +kernel
theorem dS_missOfAll_97 : decode bS_missOfAll 97 = .ok (.isub, 1) := by decide +kernel
theorem dS_missOfAll_98 : decode bS_missOfAll 98 = .ok (.istore 10, 2) := by decide +kernel
theorem dS_missOfAll_100 : decode bS_missOfAll 100 = .ok (.iconst 0, 1) := by decide +kernel
theorem dS_missOfAll_101 : decode bS_missOfAll 101 = .ok (.iload 9, 2) := by decide +kernel
theorem dS_missOfAll_103 : decode bS_missOfAll 103 = .ok (.invokestatic 71, 3) := by decide +kernel
theorem dS_missOfAll_106 : decode bS_missOfAll 106 = .ok (.iconst 0, 1) := by decide +kernel
theorem dS_missOfAll_107 : decode bS_missOfAll 107 = .ok (.iload 10, 2) := by decide +kernel
theorem dS_missOfAll_109 : decode bS_missOfAll 109 = .ok (.invokestatic 71, 3) := by decide +kernel
theorem dS_missOfAll_112 : decode bS_missOfAll 112 = .ok (.iadd, 1) := by decide +kernel
theorem dS_missOfAll_113 : decode bS_missOfAll 113 = .ok (.istore 11, 2) := by decide +kernel
theorem dS_missOfAll_115 : decode bS_missOfAll 115 = .ok (.iload 11, 2) := by decide +kernel
theorem dS_missOfAll_117 : decode bS_missOfAll 117 = .ok (.ifCond .ne 11, 3) := by decide +kernel
theorem dS_missOfAll_120 : decode bS_missOfAll 120 = .ok (.aload_n 0, 1) := by decide +kernel
theorem dS_missOfAll_121 : decode bS_missOfAll 121 = .ok (.getfield 29, 3) := by decide +kernel
theorem dS_missOfAll_124 : decode bS_missOfAll 124 = .ok (.iload 8, 2) := by decide +kernel
theorem dS_missOfAll_126 : decode bS_missOfAll 126 = .ok (.iconst 1, 1) := by decide +kernel
theorem dS_missOfAll_127 : decode bS_missOfAll 127 = .ok (.bastore, 1) := by decide +kernel
theorem dS_missOfAll_128 : decode bS_missOfAll 128 = .ok (.iload 7, 2) := by decide +kernel
theorem dS_missOfAll_130 : decode bS_missOfAll 130 = .ok (.iload 11, 2) := by decide +kernel
theorem dS_missOfAll_132 : decode bS_missOfAll 132 = .ok (.iadd, 1) := by decide +kernel
theorem dS_missOfAll_133 : decode bS_missOfAll 133 = .ok (.istore 7, 2) := by decide +kernel
theorem dS_missOfAll_135 : decode bS_missOfAll 135 = .ok (.iinc 8 1, 3) := by decide +kernel
theorem dS_missOfAll_138 : decode bS_missOfAll 138 = .ok (.goto (-95), 3) := by decide +kernel
theorem dS_missOfAll_141 : decode bS_missOfAll 141 = .ok (.iload 7, 2) := by decide +kernel
theorem dS_missOfAll_143 : decode bS_missOfAll 143 = .ok (.ireturn, 1) := by decide +kernel
theorem dS_lookAt_0 : decode bS_lookAt 0 = .ok (.aload_n 0, 1) := by decide +kernel
theorem dS_lookAt_1 : decode bS_lookAt 1 = .ok (.dup, 1) := by decide +kernel
theorem dS_lookAt_2 : decode bS_lookAt 2 = .ok (.getfield 43, 3) := by decide +kernel
theorem dS_lookAt_5 : decode bS_lookAt 5 = .ok (.iconst 1, 1) := by decide +kernel
theorem dS_lookAt_6 : decode bS_lookAt 6 = .ok (.iadd, 1) := by decide +kernel
theorem dS_lookAt_7 : decode bS_lookAt 7 = .ok (.putfield 43, 3) := by decide +kernel
theorem dS_lookAt_10 : decode bS_lookAt 10 = .ok (.iload_n 2, 1) := by decide +kernel
theorem dS_lookAt_11 : decode bS_lookAt 11 = .ok (.ifCond .ne 47, 3) := by decide +kernel
theorem dS_lookAt_14 : decode bS_lookAt 14 = .ok (.aload_n 0, 1) := by decide +kernel
theorem dS_lookAt_15 : decode bS_lookAt 15 = .ok (.dup, 1) := by decide +kernel
theorem dS_lookAt_16 : decode bS_lookAt 16 = .ok (.getfield 47, 3) := by decide +kernel
theorem dS_lookAt_19 : decode bS_lookAt 19 = .ok (.iconst 1, 1) := by decide +kernel
theorem dS_lookAt_20 : decode bS_lookAt 20 = .ok (.iadd, 1) := by decide +kernel
theorem dS_lookAt_21 : decode bS_lookAt 21 = .ok (.putfield 47, 3) := by decide +kernel
theorem dS_lookAt_24 : decode bS_lookAt 24 = .ok (.aload_n 0, 1) := by decide +kernel
theorem dS_lookAt_25 : decode bS_lookAt 25 = .ok (.getfield 36, 3) := by decide +kernel
theorem dS_lookAt_28 : decode bS_lookAt 28 = .ok (.getfield 74, 3) := by decide +kernel
theorem dS_lookAt_31 : decode bS_lookAt 31 = .ok (.ifCond .eq 14, 3) := by decide +kernel
theorem dS_lookAt_34 : decode bS_lookAt 34 = .ok (.iload_n 1, 1) := by decide +kernel
theorem dS_lookAt_35 : decode bS_lookAt 35 = .ok (.aload_n 0, 1) := by decide +kernel
theorem dS_lookAt_36 : decode bS_lookAt 36 = .ok (.getfield 36, 3) := by decide +kernel
theorem dS_lookAt_39 : decode bS_lookAt 39 = .ok (.getfield 123, 3) := by decide +kernel
theorem dS_lookAt_42 : decode bS_lookAt 42 = .ok (.if_icmp .ge 16, 3) := by decide +kernel
theorem dS_lookAt_45 : decode bS_lookAt 45 = .ok (.aload_n 0, 1) := by decide +kernel
theorem dS_lookAt_46 : decode bS_lookAt 46 = .ok (.getfield 36, 3) := by decide +kernel
theorem dS_lookAt_49 : decode bS_lookAt 49 = .ok (.aload_n 0, 1) := by decide +kernel
theorem dS_lookAt_50 : decode bS_lookAt 50 = .ok (.getfield 18, 3) := by decide +kernel
theorem dS_lookAt_53 : decode bS_lookAt 53 = .ok (.iload_n 1, 1) := by decide +kernel
theorem dS_lookAt_54 : decode bS_lookAt 54 = .ok (.iload_n 2, 1) := by decide +kernel
theorem dS_lookAt_55 : decode bS_lookAt 55 = .ok (.invokevirtual 125, 3) := by decide +kernel
theorem dS_lookAt_58 : decode bS_lookAt 58 = .ok (.aload_n 0, 1) := by decide +kernel
theorem dS_lookAt_59 : decode bS_lookAt 59 = .ok (.getfield 40, 3) := by decide +kernel
theorem dS_lookAt_62 : decode bS_lookAt 62 = .ok (.getfield 74, 3) := by decide +kernel
theorem dS_lookAt_65 : decode bS_lookAt 65 = .ok (.ifCond .eq 36, 3) := by decide +kernel
theorem dS_lookAt_68 : decode bS_lookAt 68 = .ok (.iload_n 2, 1) := by decide +kernel
theorem dS_lookAt_69 : decode bS_lookAt 69 = .ok (.aload_n 0, 1) := by decide +kernel
theorem dS_lookAt_70 : decode bS_lookAt 70 = .ok (.getfield 40, 3) := by decide +kernel
theorem dS_lookAt_73 : decode bS_lookAt 73 = .ok (.getfield 129, 3) := by decide +kernel
theorem dS_lookAt_76 : decode bS_lookAt 76 = .ok (.if_icmp .lt 25, 3) := by decide +kernel
theorem dS_lookAt_79 : decode bS_lookAt 79 = .ok (.iload_n 2, 1) := by decide +kernel
theorem dS_lookAt_80 : decode bS_lookAt 80 = .ok (.aload_n 0, 1) := by decide +kernel
theorem dS_lookAt_81 : decode bS_lookAt 81 = .ok (.getfield 40, 3) := by decide +kernel
theorem dS_lookAt_84 : decode bS_lookAt 84 = .ok (.getfield 129, 3) := by decide +kernel
theorem dS_lookAt_87 : decode bS_lookAt 87 = .ok (.if_icmp .ne 27, 3) := by decide +kernel
theorem dS_lookAt_90 : decode bS_lookAt 90 = .ok (.iload_n 1, 1) := by decide +kernel
theorem dS_lookAt_91 : decode bS_lookAt 91 = .ok (.aload_n 0, 1) := by decide +kernel
theorem dS_lookAt_92 : decode bS_lookAt 92 = .ok (.getfield 40, 3) := by decide +kernel
theorem dS_lookAt_95 : decode bS_lookAt 95 = .ok (.getfield 123, 3) := by decide +kernel
theorem dS_lookAt_98 : decode bS_lookAt 98 = .ok (.if_icmp .ge 16, 3) := by decide +kernel
theorem dS_lookAt_101 : decode bS_lookAt 101 = .ok (.aload_n 0, 1) := by decide +kernel
theorem dS_lookAt_102 : decode bS_lookAt 102 = .ok (.getfield 40, 3) := by decide +kernel
theorem dS_lookAt_105 : decode bS_lookAt 105 = .ok (.aload_n 0, 1) := by decide +kernel
theorem dS_lookAt_106 : decode bS_lookAt 106 = .ok (.getfield 18, 3) := by decide +kernel
theorem dS_lookAt_109 : decode bS_lookAt 109 = .ok (.iload_n 1, 1) := by decide +kernel
theorem dS_lookAt_110 : decode bS_lookAt 110 = .ok (.iload_n 2, 1) := by decide +kernel
theorem dS_lookAt_111 : decode bS_lookAt 111 = .ok (.invokevirtual 125, 3) := by decide +kernel
theorem dS_lookAt_114 : decode bS_lookAt 114 = .ok (.return_, 1) := by decide +kernel
theorem dT_init_0 : decode bT_init 0 = .ok (.aload_n 0, 1) := by decide +kernel
theorem dT_init_1 : decode bT_init 1 = .ok (.invokespecial 3, 3) := by decide +kernel
theorem dT_init_4 : decode bT_init 4 = .ok (.aload_n 0, 1) := by decide +kernel
theorem dT_init_5 : decode bT_init 5 = .ok (.bipush 6, 2) := by decide +kernel
theorem dT_init_7 : decode bT_init 7 = .ok (.newarray .int, 2) := by decide +kernel
theorem dT_init_9 : decode bT_init 9 = .ok (.putfield 9, 3) := by decide +kernel
theorem dT_init_12 : decode bT_init 12 = .ok (.aload_n 0, 1) := by decide +kernel
theorem dT_init_13 : decode bT_init 13 = .ok (.bipush 6, 2) := by decide +kernel
theorem dT_init_15 : decode bT_init 15 = .ok (.newarray .int, 2) := by decide +kernel
theorem dT_init_17 : decode bT_init 17 = .ok (.putfield 15, 3) := by decide +kernel
theorem dT_init_20 : decode bT_init 20 = .ok (.aload_n 0, 1) := by decide +kernel
theorem dT_init_21 : decode bT_init 21 = .ok (.bipush 60, 2) := by decide +kernel
theorem dT_init_23 : decode bT_init 23 = .ok (.newarray .int, 2) := by decide +kernel
theorem dT_init_25 : decode bT_init 25 = .ok (.putfield 18, 3) := by decide +kernel
theorem dT_init_28 : decode bT_init 28 = .ok (.aload_n 0, 1) := by decide +kernel
theorem dT_init_29 : decode bT_init 29 = .ok (.iconst 0, 1) := by decide +kernel
theorem dT_init_30 : decode bT_init 30 = .ok (.putfield 21, 3) := by decide +kernel
theorem dT_init_33 : decode bT_init 33 = .ok (.aload_n 0, 1) := by decide +kernel
theorem dT_init_34 : decode bT_init 34 = .ok (.iconst 0, 1) := by decide +kernel
theorem dT_init_35 : decode bT_init 35 = .ok (.putfield 25, 3) := by decide +kernel
theorem dT_init_38 : decode bT_init 38 = .ok (.return_, 1) := by decide +kernel
theorem dT_collect_0 : decode bT_collect 0 = .ok (.iload_n 1, 1) := by decide +kernel
theorem dT_collect_1 : decode bT_collect 1 = .ok (.bipush 32, 2) := by decide +kernel
theorem dT_collect_3 : decode bT_collect 3 = .ok (.bipush 126, 2) := by decide +kernel
theorem dT_collect_5 : decode bT_collect 5 = .ok (.invokestatic 28, 3) := by decide +kernel
theorem dT_collect_8 : decode bT_collect 8 = .ok (.ifCond .eq 12, 3) := by decide +kernel
theorem dT_collect_11 : decode bT_collect 11 = .ok (.aload_n 0, 1) := by decide +kernel
theorem dT_collect_12 : decode bT_collect 12 = .ok (.getfield 21, 3) := by decide +kernel
theorem dT_collect_15 : decode bT_collect 15 = .ok (.bipush 60, 2) := by decide +kernel
theorem dT_collect_17 : decode bT_collect 17 = .ok (.if_icmp .lt 5, 3) := by decide +kernel
theorem dT_collect_20 : decode bT_collect 20 = .ok (.iconst 0, 1) := by decide +kernel
theorem dT_collect_21 : decode bT_collect 21 = .ok (.ireturn, 1) := by decide +kernel
theorem dT_collect_22 : decode bT_collect 22 = .ok (.aload_n 0, 1) := by decide +kernel
theorem dT_collect_23 : decode bT_collect 23 = .ok (.getfield 18, 3) := by decide +kernel
theorem dT_collect_26 : decode bT_collect 26 = .ok (.aload_n 0, 1) := by decide +kernel
theorem dT_collect_27 : decode bT_collect 27 = .ok (.getfield 21, 3) := by decide +kernel
theorem dT_collect_30 : decode bT_collect 30 = .ok (.iload_n 1, 1) := by decide +kernel
theorem dT_collect_31 : decode bT_collect 31 = .ok (.iastore, 1) := by decide +kernel
theorem dT_collect_32 : decode bT_collect 32 = .ok (.aload_n 0, 1) := by decide +kernel
theorem dT_collect_33 : decode bT_collect 33 = .ok (.dup, 1) := by decide +kernel
theorem dT_collect_34 : decode bT_collect 34 = .ok (.getfield 21, 3) := by decide +kernel
theorem dT_collect_37 : decode bT_collect 37 = .ok (.iconst 1, 1) := by decide +kernel
theorem dT_collect_38 : decode bT_collect 38 = .ok (.iadd, 1) := by decide +kernel
theorem dT_collect_39 : decode bT_collect 39 = .ok (.putfield 21, 3) := by decide +kernel
theorem dT_collect_42 : decode bT_collect 42 = .ok (.iconst 1, 1) := by decide +kernel
theorem dT_collect_43 : decode bT_collect 43 = .ok (.ireturn, 1) := by decide +kernel
theorem dT_clear_0 : decode bT_clear 0 = .ok (.aload_n 0, 1) := by decide +kernel
theorem dT_clear_1 : decode bT_clear 1 = .ok (.iconst 0, 1) := by decide +kernel
theorem dT_clear_2 : decode bT_clear 2 = .ok (.putfield 21, 3) := by decide +kernel
theorem dT_clear_5 : decode bT_clear 5 = .ok (.return_, 1) := by decide +kernel
theorem dT_parse_0 : decode bT_parse 0 = .ok (.aload_n 0, 1) := by decide +kernel
theorem dT_parse_1 : decode bT_parse 1 = .ok (.iconst 0, 1) := by decide +kernel
theorem dT_parse_2 : decode bT_parse 2 = .ok (.putfield 25, 3) := by decide +kernel
theorem dT_parse_5 : decode bT_parse 5 = .ok (.iconst 0, 1) := by decide +kernel
theorem dT_parse_6 : decode bT_parse 6 = .ok (.istore_n 2, 1) := by decide +kernel
theorem dT_parse_7 : decode bT_parse 7 = .ok (.iload_n 2, 1) := by decide +kernel
theorem dT_parse_8 : decode bT_parse 8 = .ok (.bipush 6, 2) := by decide +kernel
theorem dT_parse_10 : decode bT_parse 10 = .ok (.if_icmp .gt 51, 3) := by decide +kernel
theorem dT_parse_13 : decode bT_parse 13 = .ok (.aload_n 0, 1) := by decide +kernel
theorem dT_parse_14 : decode bT_parse 14 = .ok (.iload_n 2, 1) := by decide +kernel
theorem dT_parse_15 : decode bT_parse 15 = .ok (.iload_n 1, 1) := by decide +kernel
theorem dT_parse_16 : decode bT_parse 16 = .ok (.invokevirtual 32, 3) := by decide +kernel
theorem dT_parse_19 : decode bT_parse 19 = .ok (.istore_n 3, 1) := by decide +kernel
theorem dT_parse_20 : decode bT_parse 20 = .ok (.iload_n 3, 1) := by decide +kernel
theorem dT_parse_21 : decode bT_parse 21 = .ok (.ifCond .lt 7, 3) := by decide +kernel
theorem dT_parse_24 : decode bT_parse 24 = .ok (.iconst (-1), 1) := by decide +kernel
theorem dT_parse_25 : decode bT_parse 25 = .ok (.iload_n 3, 1) := by decide +kernel
theorem dT_parse_26 : decode bT_parse 26 = .ok (.isub, 1) := by decide +kernel
theorem dT_parse_27 : decode bT_parse 27 = .ok (.ireturn, 1) := by decide +kernel
theorem dT_parse_28 : decode bT_parse 28 = .ok (.aload_n 0, 1) := by decide +kernel
theorem dT_parse_29 : decode bT_parse 29 = .ok (.getfield 25, 3) := by decide +kernel
theorem dT_parse_32 : decode bT_parse 32 = .ok (.aload_n 0, 1) := by decide +kernel
theorem dT_parse_33 : decode bT_parse 33 = .ok (.getfield 21, 3) := by decide +kernel
theorem dT_parse_36 : decode bT_parse 36 = .ok (.if_icmp .lt 7, 3) := by decide +kernel
theorem dT_parse_39 : decode bT_parse 39 = .ok (.iload_n 2, 1) := by decide +kernel
theorem dT_parse_40 : decode bT_parse 40 = .ok (.iconst 1, 1) := by decide +kernel
theorem dT_parse_41 : decode bT_parse 41 = .ok (.iadd, 1) := by decide +kernel
theorem dT_parse_42 : decode bT_parse 42 = .ok (.ireturn, 1) := by decide +kernel
theorem dT_parse_43 : decode bT_parse 43 = .ok (.aload_n 0, 1) := by decide +kernel
theorem dT_parse_44 : decode bT_parse 44 = .ok (.bipush 44, 2) := by decide +kernel
theorem dT_parse_46 : decode bT_parse 46 = .ok (.invokevirtual 36, 3) := by decide +kernel
theorem dT_parse_49 : decode bT_parse 49 = .ok (.ifCond .ne 6, 3) := by decide +kernel
theorem dT_parse_52 : decode bT_parse 52 = .ok (.goto 9, 3) := by decide +kernel
theorem dT_parse_55 : decode bT_parse 55 = .ok (.iinc 2 1, 3) := by decide +kernel
theorem dT_parse_58 : decode bT_parse 58 = .ok (.goto (-51), 3) := by decide +kernel
theorem dT_parse_61 : decode bT_parse 61 = .ok (.iconst (-1), 1) := by decide +kernel
theorem dT_parse_62 : decode bT_parse 62 = .ok (.aload_n 0, 1) := by decide +kernel
theorem dT_parse_63 : decode bT_parse 63 = .ok (.getfield 25, 3) := by decide +kernel
theorem dT_parse_66 : decode bT_parse 66 = .ok (.isub, 1) := by decide +kernel
theorem dT_parse_67 : decode bT_parse 67 = .ok (.ireturn, 1) := by decide +kernel
theorem dT_parseBand_0 : decode bT_parseBand 0 = .ok (.aload_n 0, 1) := by decide +kernel
theorem dT_parseBand_1 : decode bT_parseBand 1 = .ok (.getfield 25, 3) := by decide +kernel
theorem dT_parseBand_4 : decode bT_parseBand 4 = .ok (.istore_n 3, 1) := by decide +kernel
theorem dT_parseBand_5 : decode bT_parseBand 5 = .ok (.iload_n 1, 1) := by decide +kernel
theorem dT_parseBand_6 : decode bT_parseBand 6 = .ok (.iload_n 2, 1) := by decide +kernel
theorem dT_parseBand_7 : decode bT_parseBand 7 = .ok (.if_icmp .ge 9, 3) := by decide +kernel
theorem dT_parseBand_10 : decode bT_parseBand 10 = .ok (.iload_n 1, 1) := by decide +kernel
theorem dT_parseBand_11 : decode bT_parseBand 11 = .ok (.bipush 6, 2) := by decide +kernel
theorem dT_parseBand_13 : decode bT_parseBand 13 = .ok (.if_icmp .lt 5, 3) := by decide +kernel
theorem dT_parseBand_16 : decode bT_parseBand 16 = .ok (.iload_n 3, 1) := by decide +kernel
theorem dT_parseBand_17 : decode bT_parseBand 17 = .ok (.ireturn, 1) := by decide +kernel
theorem dT_parseBand_18 : decode bT_parseBand 18 = .ok (.aload_n 0, 1) := by decide +kernel
theorem dT_parseBand_19 : decode bT_parseBand 19 = .ok (.invokevirtual 40, 3) := by decide +kernel
theorem dT_parseBand_22 : decode bT_parseBand 22 = .ok (.istore 4, 2) := by decide +kernel
theorem dT_parseBand_24 : decode bT_parseBand 24 = .ok (.iload 4, 2) := by decide +kernel
theorem dT_parseBand_26 : decode bT_parseBand 26 = .ok (.ifCond .lt 12, 3) := by decide +kernel
theorem dT_parseBand_29 : decode bT_parseBand 29 = .ok (.aload_n 0, 1) := by decide +kernel
theorem dT_parseBand_30 : decode bT_parseBand 30 = .ok (.bipush 45, 2) := by decide +kernel
theorem dT_parseBand_32 : decode bT_parseBand 32 = .ok (.invokevirtual 36, 3) := by decide +kernel
theorem dT_parseBand_35 : decode bT_parseBand 35 = .ok (.ifCond .ne 8, 3) := by decide +kernel
theorem dT_parseBand_38 : decode bT_parseBand 38 = .ok (.aload_n 0, 1) := by decide +kernel
theorem dT_parseBand_39 : decode bT_parseBand 39 = .ok (.getfield 25, 3) := by decide +kernel
theorem dT_parseBand_42 : decode bT_parseBand 42 = .ok (.ireturn, 1) := by decide +kernel
theorem dT_parseBand_43 : decode bT_parseBand 43 = .ok (.aload_n 0, 1) := by decide +kernel
theorem dT_parseBand_44 : decode bT_parseBand 44 = .ok (.invokevirtual 40, 3) := by decide +kernel
theorem dT_parseBand_47 : decode bT_parseBand 47 = .ok (.istore 5, 2) := by decide +kernel
theorem dT_parseBand_49 : decode bT_parseBand 49 = .ok (.iload 5, 2) := by decide +kernel
theorem dT_parseBand_51 : decode bT_parseBand 51 = .ok (.ifCond .ge 8, 3) := by decide +kernel
theorem dT_parseBand_54 : decode bT_parseBand 54 = .ok (.aload_n 0, 1) := by decide +kernel
theorem dT_parseBand_55 : decode bT_parseBand 55 = .ok (.getfield 25, 3) := by decide +kernel
theorem dT_parseBand_58 : decode bT_parseBand 58 = .ok (.ireturn, 1) := by decide +kernel
theorem dT_parseBand_59 : decode bT_parseBand 59 = .ok (.iload 4, 2) := by decide +kernel
theorem dT_parseBand_61 : decode bT_parseBand 61 = .ok (.iload 5, 2) := by decide +kernel
theorem dT_parseBand_63 : decode bT_parseBand 63 = .ok (.invokestatic 44, 3) := by decide +kernel
theorem dT_parseBand_66 : decode bT_parseBand 66 = .ok (.ifCond .ne 5, 3) := by decide +kernel
theorem dT_parseBand_69 : decode bT_parseBand 69 = .ok (.iload_n 3, 1) := by decide +kernel
theorem dT_parseBand_70 : decode bT_parseBand 70 = .ok (.ireturn, 1) := by decide +kernel
theorem dT_parseBand_71 : decode bT_parseBand 71 = .ok (.aload_n 0, 1) := by decide +kernel
theorem dT_parseBand_72 : decode bT_parseBand 72 = .ok (.getfield 9, 3) := by decide +kernel
theorem dT_parseBand_75 : decode bT_parseBand 75 = .ok (.iload_n 1, 1) := by decide +kernel
theorem dT_parseBand_76 : decode bT_parseBand 76 = .ok (.iload 4, 2) := by decide +kernel
theorem dT_parseBand_78 : decode bT_parseBand 78 = .ok (.iastore, 1) := by decide +kernel
theorem dT_parseBand_79 : decode bT_parseBand 79 = .ok (.aload_n 0, 1) := by decide +kernel
theorem dT_parseBand_80 : decode bT_parseBand 80 = .ok (.getfield 15, 3) := by decide +kernel
theorem dT_parseBand_83 : decode bT_parseBand 83 = .ok (.iload_n 1, 1) := by decide +kernel
theorem dT_parseBand_84 : decode bT_parseBand 84 = .ok (.iload 5, 2) := by decide +kernel
theorem dT_parseBand_86 : decode bT_parseBand 86 = .ok (.iastore, 1) := by decide +kernel
theorem dT_parseBand_87 : decode bT_parseBand 87 = .ok (.iconst (-1), 1) := by decide +kernel
theorem dT_parseBand_88 : decode bT_parseBand 88 = .ok (.ireturn, 1) := by decide +kernel
theorem dT_parseNumber_0 : decode bT_parseNumber 0 = .ok (.iconst (-1), 1) := by decide +kernel
theorem dT_parseNumber_1 : decode bT_parseNumber 1 = .ok (.istore_n 1, 1) := by decide +kernel
theorem dT_parseNumber_2 : decode bT_parseNumber 2 = .ok (.iconst 0, 1) := by decide +kernel
theorem dT_parseNumber_3 : decode bT_parseNumber 3 = .ok (.istore_n 2, 1) := by decide +kernel
theorem dT_parseNumber_4 : decode bT_parseNumber 4 = .ok (.iload_n 2, 1) := by decide +kernel
theorem dT_parseNumber_5 : decode bT_parseNumber 5 = .ok (.iconst 4, 1) := by decide +kernel
theorem dT_parseNumber_6 : decode bT_parseNumber 6 = .ok (.if_icmp .ge 71, 3) := by decide +kernel
theorem dT_parseNumber_9 : decode bT_parseNumber 9 = .ok (.aload_n 0, 1) := by decide +kernel
theorem dT_parseNumber_10 : decode bT_parseNumber 10 = .ok (.getfield 25, 3) := by decide +kernel
theorem dT_parseNumber_13 : decode bT_parseNumber 13 = .ok (.aload_n 0, 1) := by decide +kernel
theorem dT_parseNumber_14 : decode bT_parseNumber 14 = .ok (.getfield 21, 3) := by decide +kernel
theorem dT_parseNumber_17 : decode bT_parseNumber 17 = .ok (.if_icmp .ge 60, 3) := by decide +kernel
theorem dT_parseNumber_20 : decode bT_parseNumber 20 = .ok (.aload_n 0, 1) := by decide +kernel
theorem dT_parseNumber_21 : decode bT_parseNumber 21 = .ok (.getfield 18, 3) := by decide +kernel
theorem dT_parseNumber_24 : decode bT_parseNumber 24 = .ok (.aload_n 0, 1) := by decide +kernel
theorem dT_parseNumber_25 : decode bT_parseNumber 25 = .ok (.getfield 25, 3) := by decide +kernel
theorem dT_parseNumber_28 : decode bT_parseNumber 28 = .ok (.iaload, 1) := by decide +kernel
theorem dT_parseNumber_29 : decode bT_parseNumber 29 = .ok (.bipush 48, 2) := by decide +kernel
theorem dT_parseNumber_31 : decode bT_parseNumber 31 = .ok (.bipush 57, 2) := by decide +kernel
theorem dT_parseNumber_33 : decode bT_parseNumber 33 = .ok (.invokestatic 28, 3) := by decide +kernel
theorem dT_parseNumber_36 : decode bT_parseNumber 36 = .ok (.ifCond .eq 41, 3) := by decide +kernel
theorem dT_parseNumber_39 : decode bT_parseNumber 39 = .ok (.iconst 0, 1) := by decide +kernel
theorem dT_parseNumber_40 : decode bT_parseNumber 40 = .ok (.iload_n 1, 1) := by decide +kernel
theorem dT_parseNumber_41 : decode bT_parseNumber 41 = .ok (.invokestatic 48, 3) := by decide +kernel
theorem dT_parseNumber_44 : decode bT_parseNumber 44 = .ok (.bipush 10, 2) := by decide +kernel
theorem dT_parseNumber_46 : decode bT_parseNumber 46 = .ok (.imul, 1) := by decide +kernel
theorem dT_parseNumber_47 : decode bT_parseNumber 47 = .ok (.aload_n 0, 1) := by decide +kernel
theorem dT_parseNumber_48 : decode bT_parseNumber 48 = .ok (.getfield 18, 3) := by decide +kernel
theorem dT_parseNumber_51 : decode bT_parseNumber 51 = .ok (.aload_n 0, 1) := by decide +kernel
theorem dT_parseNumber_52 : decode bT_parseNumber 52 = .ok (.getfield 25, 3) := by decide +kernel
theorem dT_parseNumber_55 : decode bT_parseNumber 55 = .ok (.iaload, 1) := by decide +kernel
theorem dT_parseNumber_56 : decode bT_parseNumber 56 = .ok (.iadd, 1) := by decide +kernel
theorem dT_parseNumber_57 : decode bT_parseNumber 57 = .ok (.bipush 48, 2) := by decide +kernel
theorem dT_parseNumber_59 : decode bT_parseNumber 59 = .ok (.isub, 1) := by decide +kernel
theorem dT_parseNumber_60 : decode bT_parseNumber 60 = .ok (.istore_n 1, 1) := by decide +kernel
theorem dT_parseNumber_61 : decode bT_parseNumber 61 = .ok (.aload_n 0, 1) := by decide +kernel
theorem dT_parseNumber_62 : decode bT_parseNumber 62 = .ok (.dup, 1) := by decide +kernel
theorem dT_parseNumber_63 : decode bT_parseNumber 63 = .ok (.getfield 25, 3) := by decide +kernel
theorem dT_parseNumber_66 : decode bT_parseNumber 66 = .ok (.iconst 1, 1) := by decide +kernel
theorem dT_parseNumber_67 : decode bT_parseNumber 67 = .ok (.iadd, 1) := by decide +kernel
theorem dT_parseNumber_68 : decode bT_parseNumber 68 = .ok (.putfield 25, 3) := by decide +kernel
theorem dT_parseNumber_71 : decode bT_parseNumber 71 = .ok (.iinc 2 1, 3) := by decide +kernel
theorem dT_parseNumber_74 : decode bT_parseNumber 74 = .ok (.goto (-70), 3) := by decide +kernel
theorem dT_parseNumber_77 : decode bT_parseNumber 77 = .ok (.iload_n 1, 1) := by decide +kernel
theorem dT_parseNumber_78 : decode bT_parseNumber 78 = .ok (.ireturn, 1) := by decide +kernel
theorem dT_skip_0 : decode bT_skip 0 = .ok (.aload_n 0, 1) := by decide +kernel
theorem dT_skip_1 : decode bT_skip 1 = .ok (.getfield 25, 3) := by decide +kernel
theorem dT_skip_4 : decode bT_skip 4 = .ok (.aload_n 0, 1) := by decide +kernel
theorem dT_skip_5 : decode bT_skip 5 = .ok (.getfield 21, 3) := by decide +kernel
theorem dT_skip_8 : decode bT_skip 8 = .ok (.if_icmp .ge 16, 3) := by decide +kernel
theorem dT_skip_11 : decode bT_skip 11 = .ok (.aload_n 0, 1) := by decide +kernel
theorem dT_skip_12 : decode bT_skip 12 = .ok (.getfield 18, 3) := by decide +kernel
theorem dT_skip_15 : decode bT_skip 15 = .ok (.aload_n 0, 1) := by decide +kernel
theorem dT_skip_16 : decode bT_skip 16 = .ok (.getfield 25, 3) := by decide +kernel
theorem dT_skip_19 : decode bT_skip 19 = .ok (.iaload, 1) := by decide +kernel
theorem dT_skip_20 : decode bT_skip 20 = .ok (.iload_n 1, 1) := by decide +kernel
theorem dT_skip_21 : decode bT_skip 21 = .ok (.if_icmp .eq 5, 3) := by decide +kernel
theorem dT_skip_24 : decode bT_skip 24 = .ok (.iconst 0, 1) := by decide +kernel
theorem dT_skip_25 : decode bT_skip 25 = .ok (.ireturn, 1) := by decide +kernel
theorem dT_skip_26 : decode bT_skip 26 = .ok (.aload_n 0, 1) := by decide +kernel
theorem dT_skip_27 : decode bT_skip 27 = .ok (.dup, 1) := by decide +kernel
theorem dT_skip_28 : decode bT_skip 28 = .ok (.getfield 25, 3) := by decide +kernel
theorem dT_skip_31 : decode bT_skip 31 = .ok (.iconst 1, 1) := by decide +kernel
theorem dT_skip_32 : decode bT_skip 32 = .ok (.iadd, 1) := by decide +kernel
theorem dT_skip_33 : decode bT_skip 33 = .ok (.putfield 25, 3) := by decide +kernel
theorem dT_skip_36 : decode bT_skip 36 = .ok (.iconst 1, 1) := by decide +kernel
theorem dT_skip_37 : decode bT_skip 37 = .ok (.ireturn, 1) := by decide +kernel
theorem dX_init_0 : decode bX_init 0 = .ok (.aload_n 0, 1) := by decide +kernel
theorem dX_init_1 : decode bX_init 1 = .ok (.invokespecial 3, 3) := by decide +kernel
theorem dX_init_4 : decode bX_init 4 = .ok (.aload_n 0, 1) := by decide +kernel
theorem dX_init_5 : decode bX_init 5 = .ok (.iconst 0, 1) := by decide +kernel
theorem dX_init_6 : decode bX_init 6 = .ok (.putfield 9, 3) := by decide +kernel
theorem dX_init_9 : decode bX_init 9 = .ok (.aload_n 0, 1) := by decide +kernel
theorem dX_init_10 : decode bX_init 10 = .ok (.iconst 4, 1) := by decide +kernel
theorem dX_init_11 : decode bX_init 11 = .ok (.newarray .int, 2) := by decide +kernel
theorem dX_init_13 : decode bX_init 13 = .ok (.putfield 15, 3) := by decide +kernel
theorem dX_init_16 : decode bX_init 16 = .ok (.aload_n 0, 1) := by decide +kernel
theorem dX_init_17 : decode bX_init 17 = .ok (.iconst 0, 1) := by decide +kernel
theorem dX_init_18 : decode bX_init 18 = .ok (.putfield 19, 3) := by decide +kernel
theorem dX_init_21 : decode bX_init 21 = .ok (.aload_n 0, 1) := by decide +kernel
theorem dX_init_22 : decode bX_init 22 = .ok (.iconst 0, 1) := by decide +kernel
theorem dX_init_23 : decode bX_init 23 = .ok (.putfield 23, 3) := by decide +kernel
theorem dX_init_26 : decode bX_init 26 = .ok (.return_, 1) := by decide +kernel
theorem dX_set_0 : decode bX_set 0 = .ok (.iconst 0, 1) := by decide +kernel
theorem dX_set_1 : decode bX_set 1 = .ok (.istore 4, 2) := by decide +kernel
theorem dX_set_3 : decode bX_set 3 = .ok (.iload 4, 2) := by decide +kernel
theorem dX_set_5 : decode bX_set 5 = .ok (.iconst 4, 1) := by decide +kernel
theorem dX_set_6 : decode bX_set 6 = .ok (.if_icmp .ge 20, 3) := by decide +kernel
theorem dX_set_9 : decode bX_set 9 = .ok (.aload_n 0, 1) := by decide +kernel
theorem dX_set_10 : decode bX_set 10 = .ok (.getfield 15, 3) := by decide +kernel
theorem dX_set_13 : decode bX_set 13 = .ok (.iload 4, 2) := by decide +kernel
theorem dX_set_15 : decode bX_set 15 = .ok (.aload_n 1, 1) := by decide +kernel
theorem dX_set_16 : decode bX_set 16 = .ok (.iload 4, 2) := by decide +kernel
theorem dX_set_18 : decode bX_set 18 = .ok (.iaload, 1) := by decide +kernel
theorem dX_set_19 : decode bX_set 19 = .ok (.iastore, 1) := by decide +kernel
theorem dX_set_20 : decode bX_set 20 = .ok (.iinc 4 1, 3) := by decide +kernel
theorem dX_set_23 : decode bX_set 23 = .ok (.goto (-20), 3) := by decide +kernel
theorem dX_set_26 : decode bX_set 26 = .ok (.aload_n 0, 1) := by decide +kernel
theorem dX_set_27 : decode bX_set 27 = .ok (.iload_n 2, 1) := by decide +kernel
theorem dX_set_28 : decode bX_set 28 = .ok (.putfield 19, 3) := by decide +kernel
theorem dX_set_31 : decode bX_set 31 = .ok (.aload_n 0, 1) := by decide +kernel
theorem dX_set_32 : decode bX_set 32 = .ok (.iload_n 3, 1) := by decide +kernel
theorem dX_set_33 : decode bX_set 33 = .ok (.putfield 23, 3) := by decide +kernel
theorem dX_set_36 : decode bX_set 36 = .ok (.aload_n 0, 1) := by decide +kernel
theorem dX_set_37 : decode bX_set 37 = .ok (.iconst 1, 1) := by decide +kernel
theorem dX_set_38 : decode bX_set 38 = .ok (.putfield 9, 3) := by decide +kernel
theorem dX_set_41 : decode bX_set 41 = .ok (.return_, 1) := by decide +kernel
theorem dB_init_0 : decode bB_init 0 = .ok (.aload_n 0, 1) := by decide +kernel
theorem dB_init_1 : decode bB_init 1 = .ok (.invokespecial 3, 3) := by decide +kernel
theorem dB_init_4 : decode bB_init 4 = .ok (.aload_n 0, 1) := by decide +kernel
theorem dB_init_5 : decode bB_init 5 = .ok (.iconst 0, 1) := by decide +kernel
theorem dB_init_6 : decode bB_init 6 = .ok (.putfield 9, 3) := by decide +kernel
theorem dB_init_9 : decode bB_init 9 = .ok (.aload_n 0, 1) := by decide +kernel
theorem dB_init_10 : decode bB_init 10 = .ok (.iconst 4, 1) := by decide +kernel
theorem dB_init_11 : decode bB_init 11 = .ok (.newarray .int, 2) := by decide +kernel
theorem dB_init_13 : decode bB_init 13 = .ok (.putfield 15, 3) := by decide +kernel
theorem dB_init_16 : decode bB_init 16 = .ok (.aload_n 0, 1) := by decide +kernel
theorem dB_init_17 : decode bB_init 17 = .ok (.iconst 4, 1) := by decide +kernel
theorem dB_init_18 : decode bB_init 18 = .ok (.newarray .int, 2) := by decide +kernel
theorem dB_init_20 : decode bB_init 20 = .ok (.putfield 19, 3) := by decide +kernel
theorem dB_init_23 : decode bB_init 23 = .ok (.return_, 1) := by decide +kernel
theorem dB_fill_0 : decode bB_fill 0 = .ok (.iconst 0, 1) := by decide +kernel
theorem dB_fill_1 : decode bB_fill 1 = .ok (.istore 4, 2) := by decide +kernel
theorem dB_fill_3 : decode bB_fill 3 = .ok (.iconst 0, 1) := by decide +kernel
theorem dB_fill_4 : decode bB_fill 4 = .ok (.istore 5, 2) := by decide +kernel
theorem dB_fill_6 : decode bB_fill 6 = .ok (.iconst 0, 1) := by decide +kernel
theorem dB_fill_7 : decode bB_fill 7 = .ok (.istore 6, 2) := by decide +kernel
theorem dB_fill_9 : decode bB_fill 9 = .ok (.iconst 0, 1) := by decide +kernel
theorem dB_fill_10 : decode bB_fill 10 = .ok (.istore 7, 2) := by decide +kernel
theorem dB_fill_12 : decode bB_fill 12 = .ok (.iload 7, 2) := by decide +kernel
theorem dB_fill_14 : decode bB_fill 14 = .ok (.aload_n 3, 1) := by decide +kernel
theorem dB_fill_15 : decode bB_fill 15 = .ok (.getfield 22, 3) := by decide +kernel
theorem dB_fill_18 : decode bB_fill 18 = .ok (.if_icmp .ge 91, 3) := by decide +kernel
theorem dB_fill_21 : decode bB_fill 21 = .ok (.iload 4, 2) := by decide +kernel
theorem dB_fill_23 : decode bB_fill 23 = .ok (.aload_n 2, 1) := by decide +kernel
theorem dB_fill_24 : decode bB_fill 24 = .ok (.getfield 28, 3) := by decide +kernel
theorem dB_fill_27 : decode bB_fill 27 = .ok (.iload 7, 2) := by decide +kernel
theorem dB_fill_29 : decode bB_fill 29 = .ok (.iaload, 1) := by decide +kernel
theorem dB_fill_30 : decode bB_fill 30 = .ok (.iadd, 1) := by decide +kernel
theorem dB_fill_31 : decode bB_fill 31 = .ok (.istore 4, 2) := by decide +kernel
theorem dB_fill_33 : decode bB_fill 33 = .ok (.iload_n 1, 1) := by decide +kernel
theorem dB_fill_34 : decode bB_fill 34 = .ok (.iload 4, 2) := by decide +kernel
theorem dB_fill_36 : decode bB_fill 36 = .ok (.imul, 1) := by decide +kernel
theorem dB_fill_37 : decode bB_fill 37 = .ok (.bipush 100, 2) := by decide +kernel
theorem dB_fill_39 : decode bB_fill 39 = .ok (.idiv, 1) := by decide +kernel
theorem dB_fill_40 : decode bB_fill 40 = .ok (.istore 8, 2) := by decide +kernel
theorem dB_fill_42 : decode bB_fill 42 = .ok (.aload_n 0, 1) := by decide +kernel
theorem dB_fill_43 : decode bB_fill 43 = .ok (.getfield 15, 3) := by decide +kernel
theorem dB_fill_46 : decode bB_fill 46 = .ok (.iload 7, 2) := by decide +kernel
theorem dB_fill_48 : decode bB_fill 48 = .ok (.iload 8, 2) := by decide +kernel
theorem dB_fill_50 : decode bB_fill 50 = .ok (.iload 5, 2) := by decide +kernel
theorem dB_fill_52 : decode bB_fill 52 = .ok (.isub, 1) := by decide +kernel
theorem dB_fill_53 : decode bB_fill 53 = .ok (.iastore, 1) := by decide +kernel
theorem dB_fill_54 : decode bB_fill 54 = .ok (.aload_n 0, 1) := by decide +kernel
theorem dB_fill_55 : decode bB_fill 55 = .ok (.getfield 15, 3) := by decide +kernel
theorem dB_fill_58 : decode bB_fill 58 = .ok (.iload 7, 2) := by decide +kernel
theorem dB_fill_60 : decode bB_fill 60 = .ok (.iaload, 1) := by decide +kernel
theorem dB_fill_61 : decode bB_fill 61 = .ok (.aload_n 3, 1) := by decide +kernel
theorem dB_fill_62 : decode bB_fill 62 = .ok (.getfield 33, 3) := by decide +kernel
theorem dB_fill_65 : decode bB_fill 65 = .ok (.iload 7, 2) := by decide +kernel
theorem dB_fill_67 : decode bB_fill 67 = .ok (.iaload, 1) := by decide +kernel
theorem dB_fill_68 : decode bB_fill 68 = .ok (.imul, 1) := by decide +kernel
theorem dB_fill_69 : decode bB_fill 69 = .ok (.sipush 1000, 3) := by decide +kernel
theorem dB_fill_72 : decode bB_fill 72 = .ok (.idiv, 1) := by decide +kernel
theorem dB_fill_73 : decode bB_fill 73 = .ok (.istore 9, 2) := by decide +kernel
theorem dB_fill_75 : decode bB_fill 75 = .ok (.aload_n 0, 1) := by decide +kernel
theorem dB_fill_76 : decode bB_fill 76 = .ok (.getfield 19, 3) := by decide +kernel
theorem dB_fill_79 : decode bB_fill 79 = .ok (.iload 7, 2) := by decide +kernel
theorem dB_fill_81 : decode bB_fill 81 = .ok (.aload_n 0, 1) := by decide +kernel
theorem dB_fill_82 : decode bB_fill 82 = .ok (.getfield 15, 3) := by decide +kernel
theorem dB_fill_85 : decode bB_fill 85 = .ok (.iload 7, 2) := by decide +kernel
theorem dB_fill_87 : decode bB_fill 87 = .ok (.iaload, 1) := by decide +kernel
theorem dB_fill_88 : decode bB_fill 88 = .ok (.iload 9, 2) := by decide +kernel
theorem dB_fill_90 : decode bB_fill 90 = .ok (.iadd, 1) := by decide +kernel
theorem dB_fill_91 : decode bB_fill 91 = .ok (.iastore, 1) := by decide +kernel
theorem dB_fill_92 : decode bB_fill 92 = .ok (.iload 6, 2) := by decide +kernel
theorem dB_fill_94 : decode bB_fill 94 = .ok (.iload 9, 2) := by decide +kernel
theorem dB_fill_96 : decode bB_fill 96 = .ok (.iadd, 1) := by decide +kernel
theorem dB_fill_97 : decode bB_fill 97 = .ok (.istore 6, 2) := by decide +kernel
theorem dB_fill_99 : decode bB_fill 99 = .ok (.iload 8, 2) := by decide +kernel
theorem dB_fill_101 : decode bB_fill 101 = .ok (.istore 5, 2) := by decide +kernel
theorem dB_fill_103 : decode bB_fill 103 = .ok (.iinc 7 1, 3) := by decide +kernel
theorem dB_fill_106 : decode bB_fill 106 = .ok (.goto (-94), 3) := by decide +kernel
theorem dB_fill_109 : decode bB_fill 109 = .ok (.aload_n 0, 1) := by decide +kernel
theorem dB_fill_110 : decode bB_fill 110 = .ok (.iconst 1, 1) := by decide +kernel
theorem dB_fill_111 : decode bB_fill 111 = .ok (.putfield 9, 3) := by decide +kernel
theorem dB_fill_114 : decode bB_fill 114 = .ok (.iload 6, 2) := by decide +kernel
theorem dB_fill_116 : decode bB_fill 116 = .ok (.ireturn, 1) := by decide +kernel
theorem dL_init_0 : decode bL_init 0 = .ok (.aload_n 0, 1) := by decide +kernel
theorem dL_init_1 : decode bL_init 1 = .ok (.invokespecial 3, 3) := by decide +kernel
theorem dL_init_4 : decode bL_init 4 = .ok (.aload_n 0, 1) := by decide +kernel
theorem dL_init_5 : decode bL_init 5 = .ok (.iconst 0, 1) := by decide +kernel
theorem dL_init_6 : decode bL_init 6 = .ok (.putfield 9, 3) := by decide +kernel
theorem dL_init_9 : decode bL_init 9 = .ok (.aload_n 0, 1) := by decide +kernel
theorem dL_init_10 : decode bL_init 10 = .ok (.bipush 6, 2) := by decide +kernel
theorem dL_init_12 : decode bL_init 12 = .ok (.newarray .int, 2) := by decide +kernel
theorem dL_init_14 : decode bL_init 14 = .ok (.putfield 15, 3) := by decide +kernel
theorem dL_init_17 : decode bL_init 17 = .ok (.aload_n 0, 1) := by decide +kernel
theorem dL_init_18 : decode bL_init 18 = .ok (.bipush 6, 2) := by decide +kernel
theorem dL_init_20 : decode bL_init 20 = .ok (.bipush 100, 2) := by decide +kernel
theorem dL_init_22 : decode bL_init 22 = .ok (.multianewarray 19 2, 4) := by decide +kernel
theorem dL_init_26 : decode bL_init 26 = .ok (.putfield 21, 3) := by decide +kernel
theorem dL_init_29 : decode bL_init 29 = .ok (.aload_n 0, 1) := by decide +kernel
theorem dL_init_30 : decode bL_init 30 = .ok (.iconst 0, 1) := by decide +kernel
theorem dL_init_31 : decode bL_init 31 = .ok (.putfield 24, 3) := by decide +kernel
theorem dL_init_34 : decode bL_init 34 = .ok (.aload_n 0, 1) := by decide +kernel
theorem dL_init_35 : decode bL_init 35 = .ok (.bipush 100, 2) := by decide +kernel
theorem dL_init_37 : decode bL_init 37 = .ok (.newarray .int, 2) := by decide +kernel
theorem dL_init_39 : decode bL_init 39 = .ok (.putfield 27, 3) := by decide +kernel
theorem dL_init_42 : decode bL_init 42 = .ok (.aload_n 0, 1) := by decide +kernel
theorem dL_init_43 : decode bL_init 43 = .ok (.bipush 100, 2) := by decide +kernel
theorem dL_init_45 : decode bL_init 45 = .ok (.newarray .int, 2) := by decide +kernel
theorem dL_init_47 : decode bL_init 47 = .ok (.putfield 30, 3) := by decide +kernel
theorem dL_init_50 : decode bL_init 50 = .ok (.aload_n 0, 1) := by decide +kernel
theorem dL_init_51 : decode bL_init 51 = .ok (.bipush 100, 2) := by decide +kernel
theorem dL_init_53 : decode bL_init 53 = .ok (.newarray .int, 2) := by decide +kernel
theorem dL_init_55 : decode bL_init 55 = .ok (.putfield 33, 3) := by decide +kernel
theorem dL_init_58 : decode bL_init 58 = .ok (.return_, 1) := by decide +kernel
theorem dL_clear_0 : decode bL_clear 0 = .ok (.aload_n 0, 1) := by decide +kernel
theorem dL_clear_1 : decode bL_clear 1 = .ok (.iconst 0, 1) := by decide +kernel
theorem dL_clear_2 : decode bL_clear 2 = .ok (.putfield 9, 3) := by decide +kernel
theorem dL_clear_5 : decode bL_clear 5 = .ok (.aload_n 0, 1) := by decide +kernel
theorem dL_clear_6 : decode bL_clear 6 = .ok (.iconst 0, 1) := by decide +kernel
theorem dL_clear_7 : decode bL_clear 7 = .ok (.putfield 24, 3) := by decide +kernel
theorem dL_clear_10 : decode bL_clear 10 = .ok (.iconst 0, 1) := by decide +kernel
theorem dL_clear_11 : decode bL_clear 11 = .ok (.istore_n 1, 1) := by decide +kernel
theorem dL_clear_12 : decode bL_clear 12 = .ok (.iload_n 1, 1) := by decide +kernel
theorem dL_clear_13 : decode bL_clear 13 = .ok (.bipush 6, 2) := by decide +kernel
theorem dL_clear_15 : decode bL_clear 15 = .ok (.if_icmp .ge 16, 3) := by decide +kernel
theorem dL_clear_18 : decode bL_clear 18 = .ok (.aload_n 0, 1) := by decide +kernel
theorem dL_clear_19 : decode bL_clear 19 = .ok (.getfield 15, 3) := by decide +kernel
theorem dL_clear_22 : decode bL_clear 22 = .ok (.iload_n 1, 1) := by decide +kernel
theorem dL_clear_23 : decode bL_clear 23 = .ok (.iconst 0, 1) := by decide +kernel
theorem dL_clear_24 : decode bL_clear 24 = .ok (.iastore, 1) := by decide +kernel
theorem dL_clear_25 : decode bL_clear 25 = .ok (.iinc 1 1, 3) := by decide +kernel
theorem dL_clear_28 : decode bL_clear 28 = .ok (.goto (-16), 3) := by decide +kernel
theorem dL_clear_31 : decode bL_clear 31 = .ok (.return_, 1) := by decide +kernel
theorem dL_add_0 : decode bL_add 0 = .ok (.aload_n 0, 1) := by decide +kernel
theorem dL_add_1 : decode bL_add 1 = .ok (.getfield 21, 3) := by decide +kernel
theorem dL_add_4 : decode bL_add 4 = .ok (.iload_n 1, 1) := by decide +kernel
theorem dL_add_5 : decode bL_add 5 = .ok (.aaload, 1) := by decide +kernel
theorem dL_add_6 : decode bL_add 6 = .ok (.aload_n 0, 1) := by decide +kernel
theorem dL_add_7 : decode bL_add 7 = .ok (.getfield 15, 3) := by decide +kernel
theorem dL_add_10 : decode bL_add 10 = .ok (.iload_n 1, 1) := by decide +kernel
theorem dL_add_11 : decode bL_add 11 = .ok (.iaload, 1) := by decide +kernel
theorem dL_add_12 : decode bL_add 12 = .ok (.iload_n 2, 1) := by decide +kernel
theorem dL_add_13 : decode bL_add 13 = .ok (.iastore, 1) := by decide +kernel
theorem dL_add_14 : decode bL_add 14 = .ok (.aload_n 0, 1) := by decide +kernel
theorem dL_add_15 : decode bL_add 15 = .ok (.getfield 15, 3) := by decide +kernel
theorem dL_add_18 : decode bL_add 18 = .ok (.iload_n 1, 1) := by decide +kernel
theorem dL_add_19 : decode bL_add 19 = .ok (.dup2, 1) := by decide +kernel
theorem dL_add_20 : decode bL_add 20 = .ok (.iaload, 1) := by decide +kernel
theorem dL_add_21 : decode bL_add 21 = .ok (.iconst 1, 1) := by decide +kernel
theorem dL_add_22 : decode bL_add 22 = .ok (.iadd, 1) := by decide +kernel
theorem dL_add_23 : decode bL_add 23 = .ok (.iastore, 1) := by decide +kernel
theorem dL_add_24 : decode bL_add 24 = .ok (.aload_n 0, 1) := by decide +kernel
theorem dL_add_25 : decode bL_add 25 = .ok (.dup, 1) := by decide +kernel
theorem dL_add_26 : decode bL_add 26 = .ok (.getfield 9, 3) := by decide +kernel
theorem dL_add_29 : decode bL_add 29 = .ok (.iconst 1, 1) := by decide +kernel
theorem dL_add_30 : decode bL_add 30 = .ok (.iadd, 1) := by decide +kernel
theorem dL_add_31 : decode bL_add 31 = .ok (.putfield 9, 3) := by decide +kernel
theorem dL_add_34 : decode bL_add 34 = .ok (.return_, 1) := by decide +kernel
theorem dL_addFired_0 : decode bL_addFired 0 = .ok (.aload_n 0, 1) := by decide +kernel
theorem dL_addFired_1 : decode bL_addFired 1 = .ok (.getfield 27, 3) := by decide +kernel
theorem dL_addFired_4 : decode bL_addFired 4 = .ok (.aload_n 0, 1) := by decide +kernel
theorem dL_addFired_5 : decode bL_addFired 5 = .ok (.getfield 24, 3) := by decide +kernel
theorem dL_addFired_8 : decode bL_addFired 8 = .ok (.iload_n 1, 1) := by decide +kernel
theorem dL_addFired_9 : decode bL_addFired 9 = .ok (.iastore, 1) := by decide +kernel
theorem dL_addFired_10 : decode bL_addFired 10 = .ok (.aload_n 0, 1) := by decide +kernel
theorem dL_addFired_11 : decode bL_addFired 11 = .ok (.getfield 30, 3) := by decide +kernel
theorem dL_addFired_14 : decode bL_addFired 14 = .ok (.aload_n 0, 1) := by decide +kernel
theorem dL_addFired_15 : decode bL_addFired 15 = .ok (.getfield 24, 3) := by decide +kernel
theorem dL_addFired_18 : decode bL_addFired 18 = .ok (.aload_n 0, 1) := by decide +kernel
theorem dL_addFired_19 : decode bL_addFired 19 = .ok (.getfield 15, 3) := by decide +kernel
theorem dL_addFired_22 : decode bL_addFired 22 = .ok (.iload_n 1, 1) := by decide +kernel
theorem dL_addFired_23 : decode bL_addFired 23 = .ok (.iaload, 1) := by decide +kernel
theorem dL_addFired_24 : decode bL_addFired 24 = .ok (.iconst 1, 1) := by decide +kernel
theorem dL_addFired_25 : decode bL_addFired 25 = .ok (.isub, 1) := by decide +kernel
theorem dL_addFired_26 : decode bL_addFired 26 = .ok (.iastore, 1) := by decide +kernel
theorem dL_addFired_27 : decode bL_addFired 27 = .ok (.aload_n 0, 1) := by decide +kernel
theorem dL_addFired_28 : decode bL_addFired 28 = .ok (.getfield 33, 3) := by decide +kernel
theorem dL_addFired_31 : decode bL_addFired 31 = .ok (.aload_n 0, 1) := by decide +kernel
theorem dL_addFired_32 : decode bL_addFired 32 = .ok (.getfield 24, 3) := by decide +kernel
theorem dL_addFired_35 : decode bL_addFired 35 = .ok (.iload_n 2, 1) := by decide +kernel
theorem dL_addFired_36 : decode bL_addFired 36 = .ok (.iastore, 1) := by decide +kernel
theorem dL_addFired_37 : decode bL_addFired 37 = .ok (.aload_n 0, 1) := by decide +kernel
theorem dL_addFired_38 : decode bL_addFired 38 = .ok (.dup, 1) := by decide +kernel
theorem dL_addFired_39 : decode bL_addFired 39 = .ok (.getfield 24, 3) := by decide +kernel
theorem dL_addFired_42 : decode bL_addFired 42 = .ok (.iconst 1, 1) := by decide +kernel
theorem dL_addFired_43 : decode bL_addFired 43 = .ok (.iadd, 1) := by decide +kernel
theorem dL_addFired_44 : decode bL_addFired 44 = .ok (.putfield 24, 3) := by decide +kernel
theorem dL_addFired_47 : decode bL_addFired 47 = .ok (.return_, 1) := by decide +kernel
theorem dL_drifts_0 : decode bL_drifts 0 = .ok (.aload_n 0, 1) := by decide +kernel
theorem dL_drifts_1 : decode bL_drifts 1 = .ok (.getfield 15, 3) := by decide +kernel
theorem dL_drifts_4 : decode bL_drifts 4 = .ok (.iload_n 1, 1) := by decide +kernel
theorem dL_drifts_5 : decode bL_drifts 5 = .ok (.iaload, 1) := by decide +kernel
theorem dL_drifts_6 : decode bL_drifts 6 = .ok (.istore_n 3, 1) := by decide +kernel
theorem dL_drifts_7 : decode bL_drifts 7 = .ok (.iload_n 3, 1) := by decide +kernel
theorem dL_drifts_8 : decode bL_drifts 8 = .ok (.iconst 5, 1) := by decide +kernel
theorem dL_drifts_9 : decode bL_drifts 9 = .ok (.if_icmp .ge 5, 3) := by decide +kernel
theorem dL_drifts_12 : decode bL_drifts 12 = .ok (.iconst 0, 1) := by decide +kernel
theorem dL_drifts_13 : decode bL_drifts 13 = .ok (.ireturn, 1) := by decide +kernel
theorem dL_drifts_14 : decode bL_drifts 14 = .ok (.iconst 0, 1) := by decide +kernel
theorem dL_drifts_15 : decode bL_drifts 15 = .ok (.istore 4, 2) := by decide +kernel
theorem dL_drifts_17 : decode bL_drifts 17 = .ok (.iconst 0, 1) := by decide +kernel
theorem dL_drifts_18 : decode bL_drifts 18 = .ok (.istore 5, 2) := by decide +kernel
theorem dL_drifts_20 : decode bL_drifts 20 = .ok (.iload_n 3, 1) := by decide +kernel
theorem dL_drifts_21 : decode bL_drifts 21 = .ok (.iconst 5, 1) := by decide +kernel
theorem dL_drifts_22 : decode bL_drifts 22 = .ok (.isub, 1) := by decide +kernel
theorem dL_drifts_23 : decode bL_drifts 23 = .ok (.istore 6, 2) := by decide +kernel
theorem dL_drifts_25 : decode bL_drifts 25 = .ok (.iload 6, 2) := by decide +kernel
theorem dL_drifts_27 : decode bL_drifts 27 = .ok (.iload_n 3, 1) := by decide +kernel
theorem dL_drifts_28 : decode bL_drifts 28 = .ok (.if_icmp .ge 47, 3) := by decide +kernel
theorem dL_drifts_31 : decode bL_drifts 31 = .ok (.aload_n 0, 1) := by decide +kernel
theorem dL_drifts_32 : decode bL_drifts 32 = .ok (.getfield 21, 3) := by decide +kernel
theorem dL_drifts_35 : decode bL_drifts 35 = .ok (.iload_n 1, 1) := by decide +kernel
theorem dL_drifts_36 : decode bL_drifts 36 = .ok (.aaload, 1) := by decide +kernel
theorem dL_drifts_37 : decode bL_drifts 37 = .ok (.iload 6, 2) := by decide +kernel
theorem dL_drifts_39 : decode bL_drifts 39 = .ok (.iaload, 1) := by decide +kernel
theorem dL_drifts_40 : decode bL_drifts 40 = .ok (.iload_n 2, 1) := by decide +kernel
theorem dL_drifts_41 : decode bL_drifts 41 = .ok (.bipush 10, 2) := by decide +kernel
theorem dL_drifts_43 : decode bL_drifts 43 = .ok (.iadd, 1) := by decide +kernel
theorem dL_drifts_44 : decode bL_drifts 44 = .ok (.if_icmp .le 6, 3) := by decide +kernel
theorem dL_drifts_47 : decode bL_drifts 47 = .ok (.iinc 4 1, 3) := by decide +kernel
theorem dL_drifts_50 : decode bL_drifts 50 = .ok (.aload_n 0, 1) := by decide +kernel
theorem dL_drifts_51 : decode bL_drifts 51 = .ok (.getfield 21, 3) := by decide +kernel
theorem dL_drifts_54 : decode bL_drifts 54 = .ok (.iload_n 1, 1) := by decide +kernel
theorem dL_drifts_55 : decode bL_drifts 55 = .ok (.aaload, 1) := by decide +kernel
theorem dL_drifts_56 : decode bL_drifts 56 = .ok (.iload 6, 2) := by decide +kernel
theorem dL_drifts_58 : decode bL_drifts 58 = .ok (.iaload, 1) := by decide +kernel
theorem dL_drifts_59 : decode bL_drifts 59 = .ok (.iload_n 2, 1) := by decide +kernel
theorem dL_drifts_60 : decode bL_drifts 60 = .ok (.bipush 10, 2) := by decide +kernel
theorem dL_drifts_62 : decode bL_drifts 62 = .ok (.isub, 1) := by decide +kernel
theorem dL_drifts_63 : decode bL_drifts 63 = .ok (.if_icmp .ge 6, 3) := by decide +kernel
theorem dL_drifts_66 : decode bL_drifts 66 = .ok (.iinc 5 1, 3) := by decide +kernel
theorem dL_drifts_69 : decode bL_drifts 69 = .ok (.iinc 6 1, 3) := by decide +kernel
theorem dL_drifts_72 : decode bL_drifts 72 = .ok (.goto (-47), 3) := by decide +kernel
theorem dL_drifts_75 : decode bL_drifts 75 = .ok (.iload 4, 2) := by decide +kernel
theorem dL_drifts_77 : decode bL_drifts 77 = .ok (.iconst 5, 1) := by decide +kernel
theorem dL_drifts_78 : decode bL_drifts 78 = .ok (.if_icmp .eq 9, 3) := by decide +kernel
theorem dL_drifts_81 : decode bL_drifts 81 = .ok (.iload 5, 2) := by decide +kernel
theorem dL_drifts_83 : decode bL_drifts 83 = .ok (.iconst 5, 1) := by decide +kernel
theorem dL_drifts_84 : decode bL_drifts 84 = .ok (.if_icmp .ne 7, 3) := by decide +kernel
theorem dL_drifts_87 : decode bL_drifts 87 = .ok (.iconst 1, 1) := by decide +kernel
theorem dL_drifts_88 : decode bL_drifts 88 = .ok (.goto 4, 3) := by decide +kernel
theorem dL_drifts_91 : decode bL_drifts 91 = .ok (.iconst 0, 1) := by decide +kernel
theorem dL_drifts_92 : decode bL_drifts 92 = .ok (.ireturn, 1) := by decide +kernel
theorem dL_jumps_0 : decode bL_jumps 0 = .ok (.aload_n 0, 1) := by decide +kernel
theorem dL_jumps_1 : decode bL_jumps 1 = .ok (.getfield 15, 3) := by decide +kernel
theorem dL_jumps_4 : decode bL_jumps 4 = .ok (.iload_n 1, 1) := by decide +kernel
theorem dL_jumps_5 : decode bL_jumps 5 = .ok (.iaload, 1) := by decide +kernel
theorem dL_jumps_6 : decode bL_jumps 6 = .ok (.istore_n 3, 1) := by decide +kernel
theorem dL_jumps_7 : decode bL_jumps 7 = .ok (.iload_n 3, 1) := by decide +kernel
theorem dL_jumps_8 : decode bL_jumps 8 = .ok (.iconst 2, 1) := by decide +kernel
theorem dL_jumps_9 : decode bL_jumps 9 = .ok (.if_icmp .lt 35, 3) := by decide +kernel
theorem dL_jumps_12 : decode bL_jumps 12 = .ok (.aload_n 0, 1) := by decide +kernel
theorem dL_jumps_13 : decode bL_jumps 13 = .ok (.getfield 21, 3) := by decide +kernel
theorem dL_jumps_16 : decode bL_jumps 16 = .ok (.iload_n 1, 1) := by decide +kernel
theorem dL_jumps_17 : decode bL_jumps 17 = .ok (.aaload, 1) := by decide +kernel
theorem dL_jumps_18 : decode bL_jumps 18 = .ok (.iload_n 3, 1) := by decide +kernel
theorem dL_jumps_19 : decode bL_jumps 19 = .ok (.iconst 1, 1) := by decide +kernel
theorem dL_jumps_20 : decode bL_jumps 20 = .ok (.isub, 1) := by decide +kernel
theorem dL_jumps_21 : decode bL_jumps 21 = .ok (.iaload, 1) := by decide +kernel
theorem dL_jumps_22 : decode bL_jumps 22 = .ok (.aload_n 0, 1) := by decide +kernel
theorem dL_jumps_23 : decode bL_jumps 23 = .ok (.getfield 21, 3) := by decide +kernel
theorem dL_jumps_26 : decode bL_jumps 26 = .ok (.iload_n 1, 1) := by decide +kernel
theorem dL_jumps_27 : decode bL_jumps 27 = .ok (.aaload, 1) := by decide +kernel
theorem dL_jumps_28 : decode bL_jumps 28 = .ok (.iload_n 3, 1) := by decide +kernel
theorem dL_jumps_29 : decode bL_jumps 29 = .ok (.iconst 2, 1) := by decide +kernel
theorem dL_jumps_30 : decode bL_jumps 30 = .ok (.isub, 1) := by decide +kernel
theorem dL_jumps_31 : decode bL_jumps 31 = .ok (.iaload, 1) := by decide +kernel
theorem dL_jumps_32 : decode bL_jumps 32 = .ok (.isub, 1) := by decide +kernel
theorem dL_jumps_33 : decode bL_jumps 33 = .ok (.invokestatic 36, 3) := by decide +kernel
theorem dL_jumps_36 : decode bL_jumps 36 = .ok (.iload_n 2, 1) := by decide +kernel
theorem dL_jumps_37 : decode bL_jumps 37 = .ok (.if_icmp .le 7, 3) := by decide +kernel
theorem dL_jumps_40 : decode bL_jumps 40 = .ok (.iconst 1, 1) := by decide +kernel
theorem dL_jumps_41 : decode bL_jumps 41 = .ok (.goto 4, 3) := by decide +kernel
theorem dL_jumps_44 : decode bL_jumps 44 = .ok (.iconst 0, 1) := by decide +kernel
theorem dL_jumps_45 : decode bL_jumps 45 = .ok (.ireturn, 1) := by decide +kernel
