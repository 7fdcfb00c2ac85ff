theorem dM_init_0 : decode bM_init 0 = .ok (.aload_n 0, 1) := by decide +kernel
theorem dM_init_1 : decode bM_init 1 = .ok (.invokespecial 1, 3) := by decide +kernel
theorem dM_init_4 : decode bM_init 4 = .ok (.aload_n 0, 1) := by decide +kernel
theorem dM_init_5 : decode bM_init 5 = .ok (.bipush 6, 2) := by decide +kernel
theorem dM_init_7 : decode bM_init 7 = .ok (.newarray .int, 2) := by decide +kernel
theorem dM_init_9 : decode bM_init 9 = .ok (.putfield 7, 3) := by decide +kernel
theorem dM_init_12 : decode bM_init 12 = .ok (.aload_n 0, 1) := by decide +kernel
theorem dM_init_13 : decode bM_init 13 = .ok (.bipush 6, 2) := by decide +kernel
theorem dM_init_15 : decode bM_init 15 = .ok (.newarray .int, 2) := by decide +kernel
theorem dM_init_17 : decode bM_init 17 = .ok (.putfield 13, 3) := by decide +kernel
theorem dM_init_20 : decode bM_init 20 = .ok (.aload_n 0, 1) := by decide +kernel
theorem dM_init_21 : decode bM_init 21 = .ok (.iconst 4, 1) := by decide +kernel
theorem dM_init_22 : decode bM_init 22 = .ok (.newarray .int, 2) := by decide +kernel
theorem dM_init_24 : decode bM_init 24 = .ok (.putfield 16, 3) := by decide +kernel
theorem dM_init_27 : decode bM_init 27 = .ok (.aload_n 0, 1) := by decide +kernel
theorem dM_init_28 : decode bM_init 28 = .ok (.iconst 4, 1) := by decide +kernel
theorem dM_init_29 : decode bM_init 29 = .ok (.newarray .int, 2) := by decide +kernel
theorem dM_init_31 : decode bM_init 31 = .ok (.putfield 19, 3) := by decide +kernel
theorem dM_init_34 : decode bM_init 34 = .ok (.aload_n 0, 1) := by decide +kernel
theorem dM_init_35 : decode bM_init 35 = .ok (.iconst 4, 1) := by decide +kernel
theorem dM_init_36 : decode bM_init 36 = .ok (.newarray .int, 2) := by decide +kernel
theorem dM_init_38 : decode bM_init 38 = .ok (.putfield 22, 3) := by decide +kernel
theorem dM_init_41 : decode bM_init 41 = .ok (.aload_n 0, 1) := by decide +kernel
theorem dM_init_42 : decode bM_init 42 = .ok (.iconst 4, 1) := by decide +kernel
theorem dM_init_43 : decode bM_init 43 = .ok (.newarray .boolean, 2) := by decide +kernel
theorem dM_init_45 : decode bM_init 45 = .ok (.putfield 25, 3) := by decide +kernel
theorem dM_init_48 : decode bM_init 48 = .ok (.aload_n 0, 1) := by decide +kernel
theorem dM_init_49 : decode bM_init 49 = .ok (.iconst 4, 1) := by decide +kernel
theorem dM_init_50 : decode bM_init 50 = .ok (.newarray .int, 2) := by decide +kernel
theorem dM_init_52 : decode bM_init 52 = .ok (.putfield 29, 3) := by decide +kernel
theorem dM_init_55 : decode bM_init 55 = .ok (.aload_n 0, 1) := by decide +kernel
theorem dM_init_56 : decode bM_init 56 = .ok (.bipush 24, 2) := by decide +kernel
theorem dM_init_58 : decode bM_init 58 = .ok (.newarray .int, 2) := by decide +kernel
theorem dM_init_60 : decode bM_init 60 = .ok (.putfield 32, 3) := by decide +kernel
theorem dM_init_63 : decode bM_init 63 = .ok (.aload_n 0, 1) := by decide +kernel
theorem dM_init_64 : decode bM_init 64 = .ok (.bipush 24, 2) := by decide +kernel
theorem dM_init_66 : decode bM_init 66 = .ok (.newarray .int, 2) := by decide +kernel
theorem dM_init_68 : decode bM_init 68 = .ok (.putfield 35, 3) := by decide +kernel
theorem dM_init_71 : decode bM_init 71 = .ok (.aload_n 0, 1) := by decide +kernel
theorem dM_init_72 : decode bM_init 72 = .ok (.bipush 100, 2) := by decide +kernel
theorem dM_init_74 : decode bM_init 74 = .ok (.putfield 38, 3) := by decide +kernel
theorem dM_init_77 : decode bM_init 77 = .ok (.aload_n 0, 1) := by decide +kernel
theorem dM_init_78 : decode bM_init 78 = .ok (.iconst 5, 1) := by decide +kernel
theorem dM_init_79 : decode bM_init 79 = .ok (.putfield 42, 3) := by decide +kernel
theorem dM_init_82 : decode bM_init 82 = .ok (.aload_n 0, 1) := by decide +kernel
theorem dM_init_83 : decode bM_init 83 = .ok (.bipush 60, 2) := by decide +kernel
theorem dM_init_85 : decode bM_init 85 = .ok (.newarray .int, 2) := by decide +kernel
theorem dM_init_87 : decode bM_init 87 = .ok (.putfield 45, 3) := by decide +kernel
theorem dM_init_90 : decode bM_init 90 = .ok (.aload_n 0, 1) := by decide +kernel
theorem dM_init_91 : decode bM_init 91 = .ok (.bipush 6, 2) := by decide +kernel
theorem dM_init_93 : decode bM_init 93 = .ok (.newarray .int, 2) := by decide +kernel
theorem dM_init_95 : decode bM_init 95 = .ok (.putfield 48, 3) := by decide +kernel
theorem dM_init_98 : decode bM_init 98 = .ok (.aload_n 0, 1) := by decide +kernel
theorem dM_init_99 : decode bM_init 99 = .ok (.bipush 6, 2) := by decide +kernel
theorem dM_init_101 : decode bM_init 101 = .ok (.newarray .int, 2) := by decide +kernel
theorem dM_init_103 : decode bM_init 103 = .ok (.putfield 51, 3) := by decide +kernel
theorem dM_init_106 : decode bM_init 106 = .ok (.aload_n 0, 1) := by decide +kernel
theorem dM_init_107 : decode bM_init 107 = .ok (.iconst 4, 1) := by decide +kernel
theorem dM_init_108 : decode bM_init 108 = .ok (.newarray .int, 2) := by decide +kernel
theorem dM_init_110 : decode bM_init 110 = .ok (.putfield 54, 3) := by decide +kernel
theorem dM_init_113 : decode bM_init 113 = .ok (.aload_n 0, 1) := by decide +kernel
theorem dM_init_114 : decode bM_init 114 = .ok (.iconst 4, 1) := by decide +kernel
theorem dM_init_115 : decode bM_init 115 = .ok (.newarray .int, 2) := by decide +kernel
theorem dM_init_117 : decode bM_init 117 = .ok (.putfield 57, 3) := by decide +kernel
theorem dM_init_120 : decode bM_init 120 = .ok (.aload_n 0, 1) := by decide +kernel
theorem dM_init_121 : decode bM_init 121 = .ok (.iconst 4, 1) := by decide +kernel
theorem dM_init_122 : decode bM_init 122 = .ok (.newarray .int, 2) := by decide +kernel
theorem dM_init_124 : decode bM_init 124 = .ok (.putfield 60, 3) := by decide +kernel
theorem dM_init_127 : decode bM_init 127 = .ok (.aload_n 0, 1) := by decide +kernel
theorem dM_init_128 : decode bM_init 128 = .ok (.bipush 6, 2) := by decide +kernel
theorem dM_init_130 : decode bM_init 130 = .ok (.newarray .boolean, 2) := by decide +kernel
theorem dM_init_132 : decode bM_init 132 = .ok (.putfield 63, 3) := by decide +kernel
theorem dM_init_135 : decode bM_init 135 = .ok (.aload_n 0, 1) := by decide +kernel
theorem dM_init_136 : decode bM_init 136 = .ok (.iconst 4, 1) := by decide +kernel
theorem dM_init_137 : decode bM_init 137 = .ok (.newarray .int, 2) := by decide +kernel
theorem dM_init_139 : decode bM_init 139 = .ok (.putfield 66, 3) := by decide +kernel
theorem dM_init_142 : decode bM_init 142 = .ok (.aload_n 0, 1) := by decide +kernel
theorem dM_init_143 : decode bM_init 143 = .ok (.iconst 4, 1) := by decide +kernel
theorem dM_init_144 : decode bM_init 144 = .ok (.newarray .int, 2) := by decide +kernel
theorem dM_init_146 : decode bM_init 146 = .ok (.putfield 69, 3) := by decide +kernel
theorem dM_init_149 : decode bM_init 149 = .ok (.aload_n 0, 1) := by decide +kernel
theorem dM_init_150 : decode bM_init 150 = .ok (.bipush 50, 2) := by decide +kernel
theorem dM_init_152 : decode bM_init 152 = .ok (.putfield 72, 3) := by decide +kernel
theorem dM_init_155 : decode bM_init 155 = .ok (.aload_n 0, 1) := by decide +kernel
theorem dM_init_156 : decode bM_init 156 = .ok (.bipush 100, 2) := by decide +kernel
theorem dM_init_158 : decode bM_init 158 = .ok (.newarray .int, 2) := by decide +kernel
theorem dM_init_160 : decode bM_init 160 = .ok (.putfield 75, 3) := by decide +kernel
theorem dM_init_163 : decode bM_init 163 = .ok (.aload_n 0, 1) := by decide +kernel
theorem dM_init_164 : decode bM_init 164 = .ok (.bipush 100, 2) := by decide +kernel
theorem dM_init_166 : decode bM_init 166 = .ok (.newarray .int, 2) := by decide +kernel
theorem dM_init_168 : decode bM_init 168 = .ok (.putfield 78, 3) := by decide +kernel
theorem dM_init_171 : decode bM_init 171 = .ok (.aload_n 0, 1) := by decide +kernel
theorem dM_init_172 : decode bM_init 172 = .ok (.bipush 100, 2) := by decide +kernel
theorem dM_init_174 : decode bM_init 174 = .ok (.newarray .int, 2) := by decide +kernel
theorem dM_init_176 : decode bM_init 176 = .ok (.putfield 81, 3) := by decide +kernel
theorem dM_init_179 : decode bM_init 179 = .ok (.aload_n 0, 1) := by decide +kernel
theorem dM_init_180 : decode bM_init 180 = .ok (.bipush 100, 2) := by decide +kernel
theorem dM_init_182 : decode bM_init 182 = .ok (.newarray .int, 2) := by decide +kernel
theorem dM_init_184 : decode bM_init 184 = .ok (.putfield 84, 3) := by decide +kernel
theorem dM_init_187 : decode bM_init 187 = .ok (.return_, 1) := by decide +kernel
theorem dM_within_0 : decode bM_within 0 = .ok (.iload_n 0, 1) := by decide +kernel
theorem dM_within_1 : decode bM_within 1 = .ok (.iload_n 1, 1) := by decide +kernel
theorem dM_within_2 : decode bM_within 2 = .ok (.if_icmp .lt 12, 3) := by decide +kernel
theorem dM_within_5 : decode bM_within 5 = .ok (.iload_n 0, 1) := by decide +kernel
theorem dM_within_6 : decode bM_within 6 = .ok (.iload_n 2, 1) := by decide +kernel
theorem dM_within_7 : decode bM_within 7 = .ok (.if_icmp .gt 7, 3) := by decide +kernel
theorem dM_within_10 : decode bM_within 10 = .ok (.iconst 1, 1) := by decide +kernel
theorem dM_within_11 : decode bM_within 11 = .ok (.goto 4, 3) := by decide +kernel
theorem dM_within_14 : decode bM_within 14 = .ok (.iconst 0, 1) := by decide +kernel
theorem dM_within_15 : decode bM_within 15 = .ok (.ireturn, 1) := by decide +kernel
theorem dM_isSieve_0 : decode bM_isSieve 0 = .ok (.iload_n 1, 1) := by decide +kernel
theorem dM_isSieve_1 : decode bM_isSieve 1 = .ok (.ifCond .lt 15, 3) := by decide +kernel
theorem dM_isSieve_4 : decode bM_isSieve 4 = .ok (.iload_n 1, 1) := by decide +kernel
theorem dM_isSieve_5 : decode bM_isSieve 5 = .ok (.aload_n 0, 1) := by decide +kernel
theorem dM_isSieve_6 : decode bM_isSieve 6 = .ok (.getfield 87, 3) := by decide +kernel
theorem dM_isSieve_9 : decode bM_isSieve 9 = .ok (.if_icmp .ge 7, 3) := by decide +kernel
theorem dM_isSieve_12 : decode bM_isSieve 12 = .ok (.iconst 1, 1) := by decide +kernel
theorem dM_isSieve_13 : decode bM_isSieve 13 = .ok (.goto 4, 3) := by decide +kernel
theorem dM_isSieve_16 : decode bM_isSieve 16 = .ok (.iconst 0, 1) := by decide +kernel
theorem dM_isSieve_17 : decode bM_isSieve 17 = .ok (.ireturn, 1) := by decide +kernel
theorem dM_isStock_0 : decode bM_isStock 0 = .ok (.iload_n 1, 1) := by decide +kernel
theorem dM_isStock_1 : decode bM_isStock 1 = .ok (.ifCond .lt 15, 3) := by decide +kernel
theorem dM_isStock_4 : decode bM_isStock 4 = .ok (.iload_n 1, 1) := by decide +kernel
theorem dM_isStock_5 : decode bM_isStock 5 = .ok (.aload_n 0, 1) := by decide +kernel
theorem dM_isStock_6 : decode bM_isStock 6 = .ok (.getfield 90, 3) := by decide +kernel
theorem dM_isStock_9 : decode bM_isStock 9 = .ok (.if_icmp .ge 7, 3) := by decide +kernel
theorem dM_isStock_12 : decode bM_isStock 12 = .ok (.iconst 1, 1) := by decide +kernel
theorem dM_isStock_13 : decode bM_isStock 13 = .ok (.goto 4, 3) := by decide +kernel
theorem dM_isStock_16 : decode bM_isStock 16 = .ok (.iconst 0, 1) := by decide +kernel
theorem dM_isStock_17 : decode bM_isStock 17 = .ok (.ireturn, 1) := by decide +kernel
theorem dM_isBand_0 : decode bM_isBand 0 = .ok (.iload_n 0, 1) := by decide +kernel
theorem dM_isBand_1 : decode bM_isBand 1 = .ok (.ifCond .lt 19, 3) := by decide +kernel
theorem dM_isBand_4 : decode bM_isBand 4 = .ok (.iload_n 0, 1) := by decide +kernel
theorem dM_isBand_5 : decode bM_isBand 5 = .ok (.iload_n 1, 1) := by decide +kernel
theorem dM_isBand_6 : decode bM_isBand 6 = .ok (.if_icmp .gt 14, 3) := by decide +kernel
theorem dM_isBand_9 : decode bM_isBand 9 = .ok (.iload_n 1, 1) := by decide +kernel
theorem dM_isBand_10 : decode bM_isBand 10 = .ok (.sipush 1000, 3) := by decide +kernel
theorem dM_isBand_13 : decode bM_isBand 13 = .ok (.if_icmp .gt 7, 3) := by decide +kernel
theorem dM_isBand_16 : decode bM_isBand 16 = .ok (.iconst 1, 1) := by decide +kernel
theorem dM_isBand_17 : decode bM_isBand 17 = .ok (.goto 4, 3) := by decide +kernel
theorem dM_isBand_20 : decode bM_isBand 20 = .ok (.iconst 0, 1) := by decide +kernel
theorem dM_isBand_21 : decode bM_isBand 21 = .ok (.ireturn, 1) := by decide +kernel
theorem dM_changed_0 : decode bM_changed 0 = .ok (.aload_n 0, 1) := by decide +kernel
theorem dM_changed_1 : decode bM_changed 1 = .ok (.iconst 0, 1) := by decide +kernel
theorem dM_changed_2 : decode bM_changed 2 = .ok (.putfield 93, 3) := by decide +kernel
theorem dM_changed_5 : decode bM_changed 5 = .ok (.aload_n 0, 1) := by decide +kernel
theorem dM_changed_6 : decode bM_changed 6 = .ok (.iconst 0, 1) := by decide +kernel
theorem dM_changed_7 : decode bM_changed 7 = .ok (.putfield 97, 3) := by decide +kernel
theorem dM_changed_10 : decode bM_changed 10 = .ok (.aload_n 0, 1) := by decide +kernel
theorem dM_changed_11 : decode bM_changed 11 = .ok (.iconst 0, 1) := by decide +kernel
theorem dM_changed_12 : decode bM_changed 12 = .ok (.putfield 100, 3) := by decide +kernel
theorem dM_changed_15 : decode bM_changed 15 = .ok (.return_, 1) := by decide +kernel
theorem dM_sieve_0 : decode bM_sieve 0 = .ok (.iload_n 1, 1) := by decide +kernel
theorem dM_sieve_1 : decode bM_sieve 1 = .ok (.iload_n 2, 1) := by decide +kernel
theorem dM_sieve_2 : decode bM_sieve 2 = .ok (.invokestatic 103, 3) := by decide +kernel
theorem dM_sieve_5 : decode bM_sieve 5 = .ok (.ifCond .eq 12, 3) := by decide +kernel
theorem dM_sieve_8 : decode bM_sieve 8 = .ok (.aload_n 0, 1) := by decide +kernel
theorem dM_sieve_9 : decode bM_sieve 9 = .ok (.getfield 87, 3) := by decide +kernel
theorem dM_sieve_12 : decode bM_sieve 12 = .ok (.bipush 6, 2) := by decide +kernel
theorem dM_sieve_14 : decode bM_sieve 14 = .ok (.if_icmp .ne 5, 3) := by decide +kernel
theorem dM_sieve_17 : decode bM_sieve 17 = .ok (.iconst (-1), 1) := by decide +kernel
theorem dM_sieve_18 : decode bM_sieve 18 = .ok (.ireturn, 1) := by decide +kernel
theorem dM_sieve_19 : decode bM_sieve 19 = .ok (.aload_n 0, 1) := by decide +kernel
theorem dM_sieve_20 : decode bM_sieve 20 = .ok (.getfield 7, 3) := by decide +kernel
theorem dM_sieve_23 : decode bM_sieve 23 = .ok (.aload_n 0, 1) := by decide +kernel
theorem dM_sieve_24 : decode bM_sieve 24 = .ok (.getfield 87, 3) := by decide +kernel
theorem dM_sieve_27 : decode bM_sieve 27 = .ok (.iload_n 1, 1) := by decide +kernel
theorem dM_sieve_28 : decode bM_sieve 28 = .ok (.iastore, 1) := by decide +kernel
theorem dM_sieve_29 : decode bM_sieve 29 = .ok (.aload_n 0, 1) := by decide +kernel
theorem dM_sieve_30 : decode bM_sieve 30 = .ok (.getfield 13, 3) := by decide +kernel
theorem dM_sieve_33 : decode bM_sieve 33 = .ok (.aload_n 0, 1) := by decide +kernel
theorem dM_sieve_34 : decode bM_sieve 34 = .ok (.getfield 87, 3) := by decide +kernel
theorem dM_sieve_37 : decode bM_sieve 37 = .ok (.iload_n 2, 1) := by decide +kernel
theorem dM_sieve_38 : decode bM_sieve 38 = .ok (.iastore, 1) := by decide +kernel
theorem dM_sieve_39 : decode bM_sieve 39 = .ok (.aload_n 0, 1) := by decide +kernel
theorem dM_sieve_40 : decode bM_sieve 40 = .ok (.dup, 1) := by decide +kernel
theorem dM_sieve_41 : decode bM_sieve 41 = .ok (.getfield 87, 3) := by decide +kernel
theorem dM_sieve_44 : decode bM_sieve 44 = .ok (.iconst 1, 1) := by decide +kernel
theorem dM_sieve_45 : decode bM_sieve 45 = .ok (.iadd, 1) := by decide +kernel
theorem dM_sieve_46 : decode bM_sieve 46 = .ok (.putfield 87, 3) := by decide +kernel
theorem dM_sieve_49 : decode bM_sieve 49 = .ok (.aload_n 0, 1) := by decide +kernel
theorem dM_sieve_50 : decode bM_sieve 50 = .ok (.invokevirtual 107, 3) := by decide +kernel
theorem dM_sieve_53 : decode bM_sieve 53 = .ok (.aload_n 0, 1) := by decide +kernel
theorem dM_sieve_54 : decode bM_sieve 54 = .ok (.getfield 87, 3) := by decide +kernel
theorem dM_sieve_57 : decode bM_sieve 57 = .ok (.iconst 1, 1) := by decide +kernel
theorem dM_sieve_58 : decode bM_sieve 58 = .ok (.isub, 1) := by decide +kernel
theorem dM_sieve_59 : decode bM_sieve 59 = .ok (.ireturn, 1) := by decide +kernel
theorem dM_band_0 : decode bM_band 0 = .ok (.aload_n 0, 1) := by decide +kernel
theorem dM_band_1 : decode bM_band 1 = .ok (.iload_n 1, 1) := by decide +kernel
theorem dM_band_2 : decode bM_band 2 = .ok (.invokevirtual 110, 3) := by decide +kernel
theorem dM_band_5 : decode bM_band 5 = .ok (.ifCond .eq 11, 3) := by decide +kernel
theorem dM_band_8 : decode bM_band 8 = .ok (.iload_n 2, 1) := by decide +kernel
theorem dM_band_9 : decode bM_band 9 = .ok (.iload_n 3, 1) := by decide +kernel
theorem dM_band_10 : decode bM_band 10 = .ok (.invokestatic 103, 3) := by decide +kernel
theorem dM_band_13 : decode bM_band 13 = .ok (.ifCond .ne 5, 3) := by decide +kernel
theorem dM_band_16 : decode bM_band 16 = .ok (.iconst 0, 1) := by decide +kernel
theorem dM_band_17 : decode bM_band 17 = .ok (.ireturn, 1) := by decide +kernel
theorem dM_band_18 : decode bM_band 18 = .ok (.aload_n 0, 1) := by decide +kernel
theorem dM_band_19 : decode bM_band 19 = .ok (.getfield 7, 3) := by decide +kernel
theorem dM_band_22 : decode bM_band 22 = .ok (.iload_n 1, 1) := by decide +kernel
theorem dM_band_23 : decode bM_band 23 = .ok (.iload_n 2, 1) := by decide +kernel
theorem dM_band_24 : decode bM_band 24 = .ok (.iastore, 1) := by decide +kernel
theorem dM_band_25 : decode bM_band 25 = .ok (.aload_n 0, 1) := by decide +kernel
theorem dM_band_26 : decode bM_band 26 = .ok (.getfield 13, 3) := by decide +kernel
theorem dM_band_29 : decode bM_band 29 = .ok (.iload_n 1, 1) := by decide +kernel
theorem dM_band_30 : decode bM_band 30 = .ok (.iload_n 3, 1) := by decide +kernel
theorem dM_band_31 : decode bM_band 31 = .ok (.iastore, 1) := by decide +kernel
theorem dM_band_32 : decode bM_band 32 = .ok (.aload_n 0, 1) := by decide +kernel
theorem dM_band_33 : decode bM_band 33 = .ok (.invokevirtual 107, 3) := by decide +kernel
theorem dM_band_36 : decode bM_band 36 = .ok (.iconst 1, 1) := by decide +kernel
theorem dM_band_37 : decode bM_band 37 = .ok (.ireturn, 1) := by decide +kernel
theorem dM_stock_0 : decode bM_stock 0 = .ok (.iload_n 1, 1) := by decide +kernel
theorem dM_stock_1 : decode bM_stock 1 = .ok (.iconst 0, 1) := by decide +kernel
theorem dM_stock_2 : decode bM_stock 2 = .ok (.ldc 114, 2) := by decide +kernel
theorem dM_stock_4 : decode bM_stock 4 = .ok (.invokestatic 115, 3) := by decide +kernel
theorem dM_stock_7 : decode bM_stock 7 = .ok (.ifCond .eq 26, 3) := by decide +kernel
theorem dM_stock_10 : decode bM_stock 10 = .ok (.iload_n 2, 1) := by decide +kernel
theorem dM_stock_11 : decode bM_stock 11 = .ok (.ifCond .lt 22, 3) := by decide +kernel
theorem dM_stock_14 : decode bM_stock 14 = .ok (.iload_n 2, 1) := by decide +kernel
theorem dM_stock_15 : decode bM_stock 15 = .ok (.iload_n 3, 1) := by decide +kernel
theorem dM_stock_16 : decode bM_stock 16 = .ok (.if_icmp .gt 17, 3) := by decide +kernel
theorem dM_stock_19 : decode bM_stock 19 = .ok (.iload_n 3, 1) := by decide +kernel
theorem dM_stock_20 : decode bM_stock 20 = .ok (.bipush 100, 2) := by decide +kernel
theorem dM_stock_22 : decode bM_stock 22 = .ok (.if_icmp .gt 11, 3) := by decide +kernel
theorem dM_stock_25 : decode bM_stock 25 = .ok (.aload_n 0, 1) := by decide +kernel
theorem dM_stock_26 : decode bM_stock 26 = .ok (.getfield 90, 3) := by decide +kernel
theorem dM_stock_29 : decode bM_stock 29 = .ok (.iconst 4, 1) := by decide +kernel
theorem dM_stock_30 : decode bM_stock 30 = .ok (.if_icmp .ne 5, 3) := by decide +kernel
theorem dM_stock_33 : decode bM_stock 33 = .ok (.iconst (-1), 1) := by decide +kernel
theorem dM_stock_34 : decode bM_stock 34 = .ok (.ireturn, 1) := by decide +kernel
theorem dM_stock_35 : decode bM_stock 35 = .ok (.aload_n 0, 1) := by decide +kernel
theorem dM_stock_36 : decode bM_stock 36 = .ok (.getfield 16, 3) := by decide +kernel
theorem dM_stock_39 : decode bM_stock 39 = .ok (.aload_n 0, 1) := by decide +kernel
theorem dM_stock_40 : decode bM_stock 40 = .ok (.getfield 90, 3) := by decide +kernel
theorem dM_stock_43 : decode bM_stock 43 = .ok (.iload_n 1, 1) := by decide +kernel
theorem dM_stock_44 : decode bM_stock 44 = .ok (.iastore, 1) := by decide +kernel
theorem dM_stock_45 : decode bM_stock 45 = .ok (.aload_n 0, 1) := by decide +kernel
theorem dM_stock_46 : decode bM_stock 46 = .ok (.getfield 19, 3) := by decide +kernel
theorem dM_stock_49 : decode bM_stock 49 = .ok (.aload_n 0, 1) := by decide +kernel
theorem dM_stock_50 : decode bM_stock 50 = .ok (.getfield 90, 3) := by decide +kernel
theorem dM_stock_53 : decode bM_stock 53 = .ok (.iload_n 2, 1) := by decide +kernel
theorem dM_stock_54 : decode bM_stock 54 = .ok (.iastore, 1) := by decide +kernel
theorem dM_stock_55 : decode bM_stock 55 = .ok (.aload_n 0, 1) := by decide +kernel
theorem dM_stock_56 : decode bM_stock 56 = .ok (.getfield 22, 3) := by decide +kernel
theorem dM_stock_59 : decode bM_stock 59 = .ok (.aload_n 0, 1) := by decide +kernel
theorem dM_stock_60 : decode bM_stock 60 = .ok (.getfield 90, 3) := by decide +kernel
theorem dM_stock_63 : decode bM_stock 63 = .ok (.iload_n 3, 1) := by decide +kernel
theorem dM_stock_64 : decode bM_stock 64 = .ok (.iastore, 1) := by decide +kernel
theorem dM_stock_65 : decode bM_stock 65 = .ok (.aload_n 0, 1) := by decide +kernel
theorem dM_stock_66 : decode bM_stock 66 = .ok (.getfield 25, 3) := by decide +kernel
theorem dM_stock_69 : decode bM_stock 69 = .ok (.aload_n 0, 1) := by decide +kernel
theorem dM_stock_70 : decode bM_stock 70 = .ok (.getfield 90, 3) := by decide +kernel
theorem dM_stock_73 : decode bM_stock 73 = .ok (.iload 4, 2) := by decide +kernel
theorem dM_stock_75 : decode bM_stock 75 = .ok (.bastore, 1) := by decide +kernel
theorem dM_stock_76 : decode bM_stock 76 = .ok (.aload_n 0, 1) := by decide +kernel
theorem dM_stock_77 : decode bM_stock 77 = .ok (.dup, 1) := by decide +kernel
theorem dM_stock_78 : decode bM_stock 78 = .ok (.getfield 90, 3) := by decide +kernel
theorem dM_stock_81 : decode bM_stock 81 = .ok (.iconst 1, 1) := by decide +kernel
theorem dM_stock_82 : decode bM_stock 82 = .ok (.iadd, 1) := by decide +kernel
theorem dM_stock_83 : decode bM_stock 83 = .ok (.putfield 90, 3) := by decide +kernel
theorem dM_stock_86 : decode bM_stock 86 = .ok (.aload_n 0, 1) := by decide +kernel
theorem dM_stock_87 : decode bM_stock 87 = .ok (.invokevirtual 107, 3) := by decide +kernel
theorem dM_stock_90 : decode bM_stock 90 = .ok (.aload_n 0, 1) := by decide +kernel
theorem dM_stock_91 : decode bM_stock 91 = .ok (.getfield 90, 3) := by decide +kernel
theorem dM_stock_94 : decode bM_stock 94 = .ok (.iconst 1, 1) := by decide +kernel
theorem dM_stock_95 : decode bM_stock 95 = .ok (.isub, 1) := by decide +kernel
theorem dM_stock_96 : decode bM_stock 96 = .ok (.ireturn, 1) := by decide +kernel
theorem dM_passes_0 : decode bM_passes 0 = .ok (.aload_n 0, 1) := by decide +kernel
theorem dM_passes_1 : decode bM_passes 1 = .ok (.iload_n 1, 1) := by decide +kernel
theorem dM_passes_2 : decode bM_passes 2 = .ok (.invokevirtual 119, 3) := by decide +kernel
theorem dM_passes_5 : decode bM_passes 5 = .ok (.ifCond .eq 34, 3) := by decide +kernel
theorem dM_passes_8 : decode bM_passes 8 = .ok (.aload_n 0, 1) := by decide +kernel
theorem dM_passes_9 : decode bM_passes 9 = .ok (.iload_n 2, 1) := by decide +kernel
theorem dM_passes_10 : decode bM_passes 10 = .ok (.invokevirtual 110, 3) := by decide +kernel
theorem dM_passes_13 : decode bM_passes 13 = .ok (.ifCond .eq 26, 3) := by decide +kernel
theorem dM_passes_16 : decode bM_passes 16 = .ok (.iload_n 3, 1) := by decide +kernel
theorem dM_passes_17 : decode bM_passes 17 = .ok (.iconst 0, 1) := by decide +kernel
theorem dM_passes_18 : decode bM_passes 18 = .ok (.sipush 1000, 3) := by decide +kernel
theorem dM_passes_21 : decode bM_passes 21 = .ok (.invokestatic 115, 3) := by decide +kernel
theorem dM_passes_24 : decode bM_passes 24 = .ok (.ifCond .eq 15, 3) := by decide +kernel
theorem dM_passes_27 : decode bM_passes 27 = .ok (.iload 4, 2) := by decide +kernel
theorem dM_passes_29 : decode bM_passes 29 = .ok (.iconst 0, 1) := by decide +kernel
theorem dM_passes_30 : decode bM_passes 30 = .ok (.sipush 300, 3) := by decide +kernel
theorem dM_passes_33 : decode bM_passes 33 = .ok (.invokestatic 115, 3) := by decide +kernel
theorem dM_passes_36 : decode bM_passes 36 = .ok (.ifCond .ne 5, 3) := by decide +kernel
theorem dM_passes_39 : decode bM_passes 39 = .ok (.iconst 0, 1) := by decide +kernel
theorem dM_passes_40 : decode bM_passes 40 = .ok (.ireturn, 1) := by decide +kernel
theorem dM_passes_41 : decode bM_passes 41 = .ok (.aload_n 0, 1) := by decide +kernel
theorem dM_passes_42 : decode bM_passes 42 = .ok (.getfield 32, 3) := by decide +kernel
theorem dM_passes_45 : decode bM_passes 45 = .ok (.bipush 6, 2) := by decide +kernel
theorem dM_passes_47 : decode bM_passes 47 = .ok (.iload_n 1, 1) := by decide +kernel
theorem dM_passes_48 : decode bM_passes 48 = .ok (.imul, 1) := by decide +kernel
theorem dM_passes_49 : decode bM_passes 49 = .ok (.iload_n 2, 1) := by decide +kernel
theorem dM_passes_50 : decode bM_passes 50 = .ok (.iadd, 1) := by decide +kernel
theorem dM_passes_51 : decode bM_passes 51 = .ok (.iload_n 3, 1) := by decide +kernel
theorem dM_passes_52 : decode bM_passes 52 = .ok (.iastore, 1) := by decide +kernel
theorem dM_passes_53 : decode bM_passes 53 = .ok (.aload_n 0, 1) := by decide +kernel
theorem dM_passes_54 : decode bM_passes 54 = .ok (.getfield 35, 3) := by decide +kernel
theorem dM_passes_57 : decode bM_passes 57 = .ok (.bipush 6, 2) := by decide +kernel
theorem dM_passes_59 : decode bM_passes 59 = .ok (.iload_n 1, 1) := by decide +kernel
theorem dM_passes_60 : decode bM_passes 60 = .ok (.imul, 1) := by decide +kernel
theorem dM_passes_61 : decode bM_passes 61 = .ok (.iload_n 2, 1) := by decide +kernel
theorem dM_passes_62 : decode bM_passes 62 = .ok (.iadd, 1) := by decide +kernel
theorem dM_passes_63 : decode bM_passes 63 = .ok (.iload 4, 2) := by decide +kernel
theorem dM_passes_65 : decode bM_passes 65 = .ok (.iastore, 1) := by decide +kernel
theorem dM_passes_66 : decode bM_passes 66 = .ok (.aload_n 0, 1) := by decide +kernel
theorem dM_passes_67 : decode bM_passes 67 = .ok (.invokevirtual 107, 3) := by decide +kernel
theorem dM_passes_70 : decode bM_passes 70 = .ok (.iconst 1, 1) := by decide +kernel
theorem dM_passes_71 : decode bM_passes 71 = .ok (.ireturn, 1) := by decide +kernel
theorem dM_cap_0 : decode bM_cap 0 = .ok (.iload_n 1, 1) := by decide +kernel
theorem dM_cap_1 : decode bM_cap 1 = .ok (.iconst 0, 1) := by decide +kernel
theorem dM_cap_2 : decode bM_cap 2 = .ok (.bipush 100, 2) := by decide +kernel
theorem dM_cap_4 : decode bM_cap 4 = .ok (.invokestatic 115, 3) := by decide +kernel
theorem dM_cap_7 : decode bM_cap 7 = .ok (.ifCond .ne 5, 3) := by decide +kernel
theorem dM_cap_10 : decode bM_cap 10 = .ok (.iconst (-1), 1) := by decide +kernel
theorem dM_cap_11 : decode bM_cap 11 = .ok (.ireturn, 1) := by decide +kernel
theorem dM_cap_12 : decode bM_cap 12 = .ok (.aload_n 0, 1) := by decide +kernel
theorem dM_cap_13 : decode bM_cap 13 = .ok (.getfield 38, 3) := by decide +kernel
theorem dM_cap_16 : decode bM_cap 16 = .ok (.istore_n 2, 1) := by decide +kernel
theorem dM_cap_17 : decode bM_cap 17 = .ok (.aload_n 0, 1) := by decide +kernel
theorem dM_cap_18 : decode bM_cap 18 = .ok (.iload_n 1, 1) := by decide +kernel
theorem dM_cap_19 : decode bM_cap 19 = .ok (.putfield 38, 3) := by decide +kernel
theorem dM_cap_22 : decode bM_cap 22 = .ok (.aload_n 0, 1) := by decide +kernel
theorem dM_cap_23 : decode bM_cap 23 = .ok (.invokevirtual 107, 3) := by decide +kernel
theorem dM_cap_26 : decode bM_cap 26 = .ok (.iload_n 2, 1) := by decide +kernel
theorem dM_cap_27 : decode bM_cap 27 = .ok (.ireturn, 1) := by decide +kernel
theorem dM_step_0 : decode bM_step 0 = .ok (.iload_n 1, 1) := by decide +kernel
theorem dM_step_1 : decode bM_step 1 = .ok (.ifCond .le 20, 3) := by decide +kernel
theorem dM_step_4 : decode bM_step 4 = .ok (.iload_n 1, 1) := by decide +kernel
theorem dM_step_5 : decode bM_step 5 = .ok (.bipush 100, 2) := by decide +kernel
theorem dM_step_7 : decode bM_step 7 = .ok (.if_icmp .gt 14, 3) := by decide +kernel
theorem dM_step_10 : decode bM_step 10 = .ok (.bipush 100, 2) := by decide +kernel
theorem dM_step_12 : decode bM_step 12 = .ok (.iload_n 1, 1) := by decide +kernel
theorem dM_step_13 : decode bM_step 13 = .ok (.irem, 1) := by decide +kernel
theorem dM_step_14 : decode bM_step 14 = .ok (.ifCond .ne 7, 3) := by decide +kernel
theorem dM_step_17 : decode bM_step 17 = .ok (.iconst 1, 1) := by decide +kernel
theorem dM_step_18 : decode bM_step 18 = .ok (.goto 4, 3) := by decide +kernel
theorem dM_step_21 : decode bM_step 21 = .ok (.iconst 0, 1) := by decide +kernel
theorem dM_step_22 : decode bM_step 22 = .ok (.istore_n 2, 1) := by decide +kernel
theorem dM_step_23 : decode bM_step 23 = .ok (.iload_n 2, 1) := by decide +kernel
theorem dM_step_24 : decode bM_step 24 = .ok (.ifCond .ne 5, 3) := by decide +kernel
theorem dM_step_27 : decode bM_step 27 = .ok (.iconst (-1), 1) := by decide +kernel
theorem dM_step_28 : decode bM_step 28 = .ok (.ireturn, 1) := by decide +kernel
theorem dM_step_29 : decode bM_step 29 = .ok (.aload_n 0, 1) := by decide +kernel
theorem dM_step_30 : decode bM_step 30 = .ok (.getfield 42, 3) := by decide +kernel
theorem dM_step_33 : decode bM_step 33 = .ok (.istore_n 3, 1) := by decide +kernel
theorem dM_step_34 : decode bM_step 34 = .ok (.aload_n 0, 1) := by decide +kernel
theorem dM_step_35 : decode bM_step 35 = .ok (.iload_n 1, 1) := by decide +kernel
theorem dM_step_36 : decode bM_step 36 = .ok (.putfield 42, 3) := by decide +kernel
theorem dM_step_39 : decode bM_step 39 = .ok (.aload_n 0, 1) := by decide +kernel
theorem dM_step_40 : decode bM_step 40 = .ok (.invokevirtual 107, 3) := by decide +kernel
theorem dM_step_43 : decode bM_step 43 = .ok (.iload_n 3, 1) := by decide +kernel
theorem dM_step_44 : decode bM_step 44 = .ok (.ireturn, 1) := by decide +kernel
theorem dM_unit_0 : decode bM_unit 0 = .ok (.iload_n 1, 1) := by decide +kernel
theorem dM_unit_1 : decode bM_unit 1 = .ok (.bipush 32, 2) := by decide +kernel
theorem dM_unit_3 : decode bM_unit 3 = .ok (.bipush 126, 2) := by decide +kernel
theorem dM_unit_5 : decode bM_unit 5 = .ok (.invokestatic 115, 3) := by decide +kernel
theorem dM_unit_8 : decode bM_unit 8 = .ok (.ifCond .eq 12, 3) := by decide +kernel
theorem dM_unit_11 : decode bM_unit 11 = .ok (.aload_n 0, 1) := by decide +kernel
theorem dM_unit_12 : decode bM_unit 12 = .ok (.getfield 122, 3) := by decide +kernel
theorem dM_unit_15 : decode bM_unit 15 = .ok (.bipush 60, 2) := by decide +kernel
theorem dM_unit_17 : decode bM_unit 17 = .ok (.if_icmp .ne 5, 3) := by decide +kernel
theorem dM_unit_20 : decode bM_unit 20 = .ok (.iconst 0, 1) := by decide +kernel
theorem dM_unit_21 : decode bM_unit 21 = .ok (.ireturn, 1) := by decide +kernel
theorem dM_unit_22 : decode bM_unit 22 = .ok (.aload_n 0, 1) := by decide +kernel
theorem dM_unit_23 : decode bM_unit 23 = .ok (.getfield 45, 3) := by decide +kernel
theorem dM_unit_26 : decode bM_unit 26 = .ok (.aload_n 0, 1) := by decide +kernel
theorem dM_unit_27 : decode bM_unit 27 = .ok (.getfield 122, 3) := by decide +kernel
theorem dM_unit_30 : decode bM_unit 30 = .ok (.iload_n 1, 1) := by decide +kernel
theorem dM_unit_31 : decode bM_unit 31 = .ok (.iastore, 1) := by decide +kernel
theorem dM_unit_32 : decode bM_unit 32 = .ok (.aload_n 0, 1) := by decide +kernel
theorem dM_unit_33 : decode bM_unit 33 = .ok (.dup, 1) := by decide +kernel
theorem dM_unit_34 : decode bM_unit 34 = .ok (.getfield 122, 3) := by decide +kernel
theorem dM_unit_37 : decode bM_unit 37 = .ok (.iconst 1, 1) := by decide +kernel
theorem dM_unit_38 : decode bM_unit 38 = .ok (.iadd, 1) := by decide +kernel
theorem dM_unit_39 : decode bM_unit 39 = .ok (.putfield 122, 3) := by decide +kernel
theorem dM_unit_42 : decode bM_unit 42 = .ok (.iconst 1, 1) := by decide +kernel
theorem dM_unit_43 : decode bM_unit 43 = .ok (.ireturn, 1) := by decide +kernel
theorem dM_isDigit_0 : decode bM_isDigit 0 = .ok (.aload_n 0, 1) := by decide +kernel
theorem dM_isDigit_1 : decode bM_isDigit 1 = .ok (.getfield 125, 3) := by decide +kernel
theorem dM_isDigit_4 : decode bM_isDigit 4 = .ok (.aload_n 0, 1) := by decide +kernel
theorem dM_isDigit_5 : decode bM_isDigit 5 = .ok (.getfield 122, 3) := by decide +kernel
theorem dM_isDigit_8 : decode bM_isDigit 8 = .ok (.if_icmp .ge 35, 3) := by decide +kernel
theorem dM_isDigit_11 : decode bM_isDigit 11 = .ok (.aload_n 0, 1) := by decide +kernel
theorem dM_isDigit_12 : decode bM_isDigit 12 = .ok (.getfield 45, 3) := by decide +kernel
theorem dM_isDigit_15 : decode bM_isDigit 15 = .ok (.aload_n 0, 1) := by decide +kernel
theorem dM_isDigit_16 : decode bM_isDigit 16 = .ok (.getfield 125, 3) := by decide +kernel
theorem dM_isDigit_19 : decode bM_isDigit 19 = .ok (.iaload, 1) := by decide +kernel
theorem dM_isDigit_20 : decode bM_isDigit 20 = .ok (.bipush 48, 2) := by decide +kernel
theorem dM_isDigit_22 : decode bM_isDigit 22 = .ok (.if_icmp .lt 21, 3) := by decide +kernel
theorem dM_isDigit_25 : decode bM_isDigit 25 = .ok (.aload_n 0, 1) := by decide +kernel
theorem dM_isDigit_26 : decode bM_isDigit 26 = .ok (.getfield 45, 3) := by decide +kernel
theorem dM_isDigit_29 : decode bM_isDigit 29 = .ok (.aload_n 0, 1) := by decide +kernel
theorem dM_isDigit_30 : decode bM_isDigit 30 = .ok (.getfield 125, 3) := by decide +kernel
theorem dM_isDigit_33 : decode bM_isDigit 33 = .ok (.iaload, 1) := by decide +kernel
theorem dM_isDigit_34 : decode bM_isDigit 34 = .ok (.bipush 57, 2) := by decide +kernel
theorem dM_isDigit_36 : decode bM_isDigit 36 = .ok (.if_icmp .gt 7, 3) := by decide +kernel
theorem dM_isDigit_39 : decode bM_isDigit 39 = .ok (.iconst 1, 1) := by decide +kernel
theorem dM_isDigit_40 : decode bM_isDigit 40 = .ok (.goto 4, 3) := by decide +kernel
theorem dM_isDigit_43 : decode bM_isDigit 43 = .ok (.iconst 0, 1) := by decide +kernel
theorem dM_isDigit_44 : decode bM_isDigit 44 = .ok (.ireturn, 1) := by decide +kernel
theorem dM_number_0 : decode bM_number 0 = .ok (.iconst 0, 1) := by decide +kernel
theorem dM_number_1 : decode bM_number 1 = .ok (.istore_n 1, 1) := by decide +kernel
theorem dM_number_2 : decode bM_number 2 = .ok (.iconst 0, 1) := by decide +kernel
theorem dM_number_3 : decode bM_number 3 = .ok (.istore_n 2, 1) := by decide +kernel
theorem dM_number_4 : decode bM_number 4 = .ok (.iload_n 2, 1) := by decide +kernel
theorem dM_number_5 : decode bM_number 5 = .ok (.iconst 4, 1) := by decide +kernel
theorem dM_number_6 : decode bM_number 6 = .ok (.if_icmp .ge 44, 3) := by decide +kernel
theorem dM_number_9 : decode bM_number 9 = .ok (.aload_n 0, 1) := by decide +kernel
theorem dM_number_10 : decode bM_number 10 = .ok (.invokevirtual 128, 3) := by decide +kernel
theorem dM_number_13 : decode bM_number 13 = .ok (.ifCond .eq 37, 3) := by decide +kernel
theorem dM_number_16 : decode bM_number 16 = .ok (.bipush 10, 2) := by decide +kernel
theorem dM_number_18 : decode bM_number 18 = .ok (.iload_n 1, 1) := by decide +kernel
theorem dM_number_19 : decode bM_number 19 = .ok (.imul, 1) := by decide +kernel
theorem dM_number_20 : decode bM_number 20 = .ok (.aload_n 0, 1) := by decide +kernel
theorem dM_number_21 : decode bM_number 21 = .ok (.getfield 45, 3) := by decide +kernel
theorem dM_number_24 : decode bM_number 24 = .ok (.aload_n 0, 1) := by decide +kernel
theorem dM_number_25 : decode bM_number 25 = .ok (.getfield 125, 3) := by decide +kernel
theorem dM_number_28 : decode bM_number 28 = .ok (.iaload, 1) := by decide +kernel
theorem dM_number_29 : decode bM_number 29 = .ok (.iadd, 1) := by decide +kernel
theorem dM_number_30 : decode bM_number 30 = .ok (.bipush 48, 2) := by decide +kernel
theorem dM_number_32 : decode bM_number 32 = .ok (.isub, 1) := by decide +kernel
theorem dM_number_33 : decode bM_number 33 = .ok (.istore_n 1, 1) := by decide +kernel
theorem dM_number_34 : decode bM_number 34 = .ok (.aload_n 0, 1) := by decide +kernel
theorem dM_number_35 : decode bM_number 35 = .ok (.dup, 1) := by decide +kernel
theorem dM_number_36 : decode bM_number 36 = .ok (.getfield 125, 3) := by decide +kernel
theorem dM_number_39 : decode bM_number 39 = .ok (.iconst 1, 1) := by decide +kernel
theorem dM_number_40 : decode bM_number 40 = .ok (.iadd, 1) := by decide +kernel
theorem dM_number_41 : decode bM_number 41 = .ok (.putfield 125, 3) := by decide +kernel
theorem dM_number_44 : decode bM_number 44 = .ok (.iinc 2 1, 3) := by decide +kernel
theorem dM_number_47 : decode bM_number 47 = .ok (.goto (-43), 3) := by decide +kernel
theorem dM_number_50 : decode bM_number 50 = .ok (.iload_n 2, 1) := by decide +kernel
theorem dM_number_51 : decode bM_number 51 = .ok (.ifCond .ne 7, 3) := by decide +kernel
theorem dM_number_54 : decode bM_number 54 = .ok (.iconst (-1), 1) := by decide +kernel
theorem dM_number_55 : decode bM_number 55 = .ok (.goto 4, 3) := by decide +kernel
theorem dM_number_58 : decode bM_number 58 = .ok (.iload_n 1, 1) := by decide +kernel
theorem dM_number_59 : decode bM_number 59 = .ok (.ireturn, 1) := by decide +kernel
theorem dM_takes_0 : decode bM_takes 0 = .ok (.aload_n 0, 1) := by decide +kernel
theorem dM_takes_1 : decode bM_takes 1 = .ok (.getfield 125, 3) := by decide +kernel
theorem dM_takes_4 : decode bM_takes 4 = .ok (.aload_n 0, 1) := by decide +kernel
theorem dM_takes_5 : decode bM_takes 5 = .ok (.getfield 122, 3) := by decide +kernel
theorem dM_takes_8 : decode bM_takes 8 = .ok (.if_icmp .ge 20, 3) := by decide +kernel
theorem dM_takes_11 : decode bM_takes 11 = .ok (.aload_n 0, 1) := by decide +kernel
theorem dM_takes_12 : decode bM_takes 12 = .ok (.getfield 45, 3) := by decide +kernel
theorem dM_takes_15 : decode bM_takes 15 = .ok (.aload_n 0, 1) := by decide +kernel
theorem dM_takes_16 : decode bM_takes 16 = .ok (.getfield 125, 3) := by decide +kernel
theorem dM_takes_19 : decode bM_takes 19 = .ok (.iaload, 1) := by decide +kernel
theorem dM_takes_20 : decode bM_takes 20 = .ok (.iload_n 1, 1) := by decide +kernel
theorem dM_takes_21 : decode bM_takes 21 = .ok (.if_icmp .ne 7, 3) := by decide +kernel
theorem dM_takes_24 : decode bM_takes 24 = .ok (.iconst 1, 1) := by decide +kernel
theorem dM_takes_25 : decode bM_takes 25 = .ok (.goto 4, 3) := by decide +kernel
theorem dM_takes_28 : decode bM_takes 28 = .ok (.iconst 0, 1) := by decide +kernel
theorem dM_takes_29 : decode bM_takes 29 = .ok (.istore_n 2, 1) := by decide +kernel
theorem dM_takes_30 : decode bM_takes 30 = .ok (.aload_n 0, 1) := by decide +kernel
theorem dM_takes_31 : decode bM_takes 31 = .ok (.dup, 1) := by decide +kernel
theorem dM_takes_32 : decode bM_takes 32 = .ok (.getfield 125, 3) := by decide +kernel
theorem dM_takes_35 : decode bM_takes 35 = .ok (.iload_n 2, 1) := by decide +kernel
theorem dM_takes_36 : decode bM_takes 36 = .ok (.ifCond .eq 7, 3) := by decide +kernel
theorem dM_takes_39 : decode bM_takes 39 = .ok (.iconst 1, 1) := by decide +kernel
theorem dM_takes_40 : decode bM_takes 40 = .ok (.goto 4, 3) := by decide +kernel
theorem dM_takes_43 : decode bM_takes 43 = .ok (.iconst 0, 1) := by decide +kernel
theorem dM_takes_44 : decode bM_takes 44 = .ok (.iadd, 1) := by decide +kernel
theorem dM_takes_45 : decode bM_takes 45 = .ok (.putfield 125, 3) := by decide +kernel
theorem dM_takes_48 : decode bM_takes 48 = .ok (.iload_n 2, 1) := by decide +kernel
theorem dM_takes_49 : decode bM_takes 49 = .ok (.ireturn, 1) := by decide +kernel
theorem dM_readBands_0 : decode bM_readBands 0 = .ok (.aload_n 0, 1) := by decide +kernel
theorem dM_readBands_1 : decode bM_readBands 1 = .ok (.iconst 0, 1) := by decide +kernel
theorem dM_readBands_2 : decode bM_readBands 2 = .ok (.putfield 125, 3) := by decide +kernel
theorem dM_readBands_5 : decode bM_readBands 5 = .ok (.iconst 0, 1) := by decide +kernel
theorem dM_readBands_6 : decode bM_readBands 6 = .ok (.istore_n 1, 1) := by decide +kernel
theorem dM_readBands_7 : decode bM_readBands 7 = .ok (.iconst 1, 1) := by decide +kernel
theorem dM_readBands_8 : decode bM_readBands 8 = .ok (.istore_n 2, 1) := by decide +kernel
theorem dM_readBands_9 : decode bM_readBands 9 = .ok (.iload_n 2, 1) := by decide +kernel
theorem dM_readBands_10 : decode bM_readBands 10 = .ok (.ifCond .eq 118, 3) := by decide +kernel
theorem dM_readBands_13 : decode bM_readBands 13 = .ok (.aload_n 0, 1) := by decide +kernel
theorem dM_readBands_14 : decode bM_readBands 14 = .ok (.getfield 125, 3) := by decide +kernel
theorem dM_readBands_17 : decode bM_readBands 17 = .ok (.istore_n 3, 1) := by decide +kernel
theorem dM_readBands_18 : decode bM_readBands 18 = .ok (.iload_n 1, 1) := by decide +kernel
theorem dM_readBands_19 : decode bM_readBands 19 = .ok (.aload_n 0, 1) := by decide +kernel
theorem dM_readBands_20 : decode bM_readBands 20 = .ok (.getfield 87, 3) := by decide +kernel
theorem dM_readBands_23 : decode bM_readBands 23 = .ok (.if_icmp .ne 5, 3) := by decide +kernel
theorem dM_readBands_26 : decode bM_readBands 26 = .ok (.iconst (-1), 1) := by decide +kernel
theorem dM_readBands_27 : decode bM_readBands 27 = .ok (.ireturn, 1) := by decide +kernel
theorem dM_readBands_28 : decode bM_readBands 28 = .ok (.aload_n 0, 1) := by decide +kernel
theorem dM_readBands_29 : decode bM_readBands 29 = .ok (.invokevirtual 132, 3) := by decide +kernel
theorem dM_readBands_32 : decode bM_readBands 32 = .ok (.istore 4, 2) := by decide +kernel
theorem dM_readBands_34 : decode bM_readBands 34 = .ok (.iload 4, 2) := by decide +kernel
theorem dM_readBands_36 : decode bM_readBands 36 = .ok (.ifCond .lt 16, 3) := by decide +kernel
theorem dM_readBands_39 : decode bM_readBands 39 = .ok (.aload_n 0, 1) := by decide +kernel
theorem dM_readBands_40 : decode bM_readBands 40 = .ok (.bipush 45, 2) := by decide +kernel
theorem dM_readBands_42 : decode bM_readBands 42 = .ok (.invokevirtual 136, 3) := by decide +kernel
theorem dM_readBands_45 : decode bM_readBands 45 = .ok (.ifCond .eq 7, 3) := by decide +kernel
theorem dM_readBands_48 : decode bM_readBands 48 = .ok (.iconst 1, 1) := by decide +kernel
theorem dM_readBands_49 : decode bM_readBands 49 = .ok (.goto 4, 3) := by decide +kernel
theorem dM_readBands_52 : decode bM_readBands 52 = .ok (.iconst 0, 1) := by decide +kernel
theorem dM_readBands_53 : decode bM_readBands 53 = .ok (.istore 5, 2) := by decide +kernel
theorem dM_readBands_55 : decode bM_readBands 55 = .ok (.iload 5, 2) := by decide +kernel
theorem dM_readBands_57 : decode bM_readBands 57 = .ok (.ifCond .eq 10, 3) := by decide +kernel
theorem dM_readBands_60 : decode bM_readBands 60 = .ok (.aload_n 0, 1) := by decide +kernel
theorem dM_readBands_61 : decode bM_readBands 61 = .ok (.invokevirtual 132, 3) := by decide +kernel
theorem dM_readBands_64 : decode bM_readBands 64 = .ok (.goto 4, 3) := by decide +kernel
theorem dM_readBands_67 : decode bM_readBands 67 = .ok (.iconst (-1), 1) := by decide +kernel
theorem dM_readBands_68 : decode bM_readBands 68 = .ok (.istore 6, 2) := by decide +kernel
theorem dM_readBands_70 : decode bM_readBands 70 = .ok (.iload 5, 2) := by decide +kernel
theorem dM_readBands_72 : decode bM_readBands 72 = .ok (.ifCond .eq 8, 3) := by decide +kernel
theorem dM_readBands_75 : decode bM_readBands 75 = .ok (.iload 6, 2) := by decide +kernel
theorem dM_readBands_77 : decode bM_readBands 77 = .ok (.ifCond .ge 5, 3) := by decide +kernel
theorem dM_readBands_80 : decode bM_readBands 80 = .ok (.iconst (-1), 1) := by decide +kernel
theorem dM_readBands_81 : decode bM_readBands 81 = .ok (.ireturn, 1) := by decide +kernel
theorem dM_readBands_82 : decode bM_readBands 82 = .ok (.iload 4, 2) := by decide +kernel
theorem dM_readBands_84 : decode bM_readBands 84 = .ok (.iload 6, 2) := by decide +kernel
theorem dM_readBands_86 : decode bM_readBands 86 = .ok (.invokestatic 103, 3) := by decide +kernel
theorem dM_readBands_89 : decode bM_readBands 89 = .ok (.ifCond .ne 10, 3) := by decide +kernel
theorem dM_readBands_92 : decode bM_readBands 92 = .ok (.aload_n 0, 1) := by decide +kernel
theorem dM_readBands_93 : decode bM_readBands 93 = .ok (.iload_n 3, 1) := by decide +kernel
theorem dM_readBands_94 : decode bM_readBands 94 = .ok (.putfield 125, 3) := by decide +kernel
theorem dM_readBands_97 : decode bM_readBands 97 = .ok (.iconst (-1), 1) := by decide +kernel
theorem dM_readBands_98 : decode bM_readBands 98 = .ok (.ireturn, 1) := by decide +kernel
theorem dM_readBands_99 : decode bM_readBands 99 = .ok (.aload_n 0, 1) := by decide +kernel
theorem dM_readBands_100 : decode bM_readBands 100 = .ok (.getfield 48, 3) := by decide +kernel
theorem dM_readBands_103 : decode bM_readBands 103 = .ok (.iload_n 1, 1) := by decide +kernel
theorem dM_readBands_104 : decode bM_readBands 104 = .ok (.iload 4, 2) := by decide +kernel
theorem dM_readBands_106 : decode bM_readBands 106 = .ok (.iastore, 1) := by decide +kernel
theorem dM_readBands_107 : decode bM_readBands 107 = .ok (.aload_n 0, 1) := by decide +kernel
theorem dM_readBands_108 : decode bM_readBands 108 = .ok (.getfield 51, 3) := by decide +kernel
theorem dM_readBands_111 : decode bM_readBands 111 = .ok (.iload_n 1, 1) := by decide +kernel
theorem dM_readBands_112 : decode bM_readBands 112 = .ok (.iload 6, 2) := by decide +kernel
theorem dM_readBands_114 : decode bM_readBands 114 = .ok (.iastore, 1) := by decide +kernel
theorem dM_readBands_115 : decode bM_readBands 115 = .ok (.iinc 1 1, 3) := by decide +kernel
theorem dM_readBands_118 : decode bM_readBands 118 = .ok (.aload_n 0, 1) := by decide +kernel
theorem dM_readBands_119 : decode bM_readBands 119 = .ok (.bipush 44, 2) := by decide +kernel
theorem dM_readBands_121 : decode bM_readBands 121 = .ok (.invokevirtual 136, 3) := by decide +kernel
theorem dM_readBands_124 : decode bM_readBands 124 = .ok (.istore_n 2, 1) := by decide +kernel
theorem dM_readBands_125 : decode bM_readBands 125 = .ok (.goto (-116), 3) := by decide +kernel
theorem dM_readBands_128 : decode bM_readBands 128 = .ok (.aload_n 0, 1) := by decide +kernel
theorem dM_readBands_129 : decode bM_readBands 129 = .ok (.getfield 125, 3) := by decide +kernel
theorem dM_readBands_132 : decode bM_readBands 132 = .ok (.aload_n 0, 1) := by decide +kernel
theorem dM_readBands_133 : decode bM_readBands 133 = .ok (.getfield 122, 3) := by decide +kernel
theorem dM_readBands_136 : decode bM_readBands 136 = .ok (.if_icmp .ne 7, 3) := by decide +kernel
theorem dM_readBands_139 : decode bM_readBands 139 = .ok (.iload_n 1, 1) := by decide +kernel
theorem dM_readBands_140 : decode bM_readBands 140 = .ok (.goto 4, 3) := by decide +kernel
theorem dM_readBands_143 : decode bM_readBands 143 = .ok (.iconst (-1), 1) := by decide +kernel
theorem dM_readBands_144 : decode bM_readBands 144 = .ok (.ireturn, 1) := by decide +kernel
theorem dM_read_0 : decode bM_read 0 = .ok (.aload_n 0, 1) := by decide +kernel
theorem dM_read_1 : decode bM_read 1 = .ok (.invokevirtual 139, 3) := by decide +kernel
theorem dM_read_4 : decode bM_read 4 = .ok (.istore_n 1, 1) := by decide +kernel
theorem dM_read_5 : decode bM_read 5 = .ok (.aload_n 0, 1) := by decide +kernel
theorem dM_read_6 : decode bM_read 6 = .ok (.iconst 0, 1) := by decide +kernel
theorem dM_read_7 : decode bM_read 7 = .ok (.putfield 122, 3) := by decide +kernel
theorem dM_read_10 : decode bM_read 10 = .ok (.iload_n 1, 1) := by decide +kernel
theorem dM_read_11 : decode bM_read 11 = .ok (.ifCond .ge 10, 3) := by decide +kernel
theorem dM_read_14 : decode bM_read 14 = .ok (.iconst (-1), 1) := by decide +kernel
theorem dM_read_15 : decode bM_read 15 = .ok (.aload_n 0, 1) := by decide +kernel
theorem dM_read_16 : decode bM_read 16 = .ok (.getfield 125, 3) := by decide +kernel
theorem dM_read_19 : decode bM_read 19 = .ok (.isub, 1) := by decide +kernel
theorem dM_read_20 : decode bM_read 20 = .ok (.ireturn, 1) := by decide +kernel
theorem dM_read_21 : decode bM_read 21 = .ok (.iconst 0, 1) := by decide +kernel
theorem dM_read_22 : decode bM_read 22 = .ok (.istore_n 2, 1) := by decide +kernel
theorem dM_read_23 : decode bM_read 23 = .ok (.iload_n 2, 1) := by decide +kernel
theorem dM_read_24 : decode bM_read 24 = .ok (.iload_n 1, 1) := by decide +kernel
theorem dM_read_25 : decode bM_read 25 = .ok (.if_icmp .ge 33, 3) := by decide +kernel
theorem dM_read_28 : decode bM_read 28 = .ok (.aload_n 0, 1) := by decide +kernel
theorem dM_read_29 : decode bM_read 29 = .ok (.getfield 7, 3) := by decide +kernel
theorem dM_read_32 : decode bM_read 32 = .ok (.iload_n 2, 1) := by decide +kernel
theorem dM_read_33 : decode bM_read 33 = .ok (.aload_n 0, 1) := by decide +kernel
theorem dM_read_34 : decode bM_read 34 = .ok (.getfield 48, 3) := by decide +kernel
theorem dM_read_37 : decode bM_read 37 = .ok (.iload_n 2, 1) := by decide +kernel
theorem dM_read_38 : decode bM_read 38 = .ok (.iaload, 1) := by decide +kernel
theorem dM_read_39 : decode bM_read 39 = .ok (.iastore, 1) := by decide +kernel
theorem dM_read_40 : decode bM_read 40 = .ok (.aload_n 0, 1) := by decide +kernel
theorem dM_read_41 : decode bM_read 41 = .ok (.getfield 13, 3) := by decide +kernel
theorem dM_read_44 : decode bM_read 44 = .ok (.iload_n 2, 1) := by decide +kernel
theorem dM_read_45 : decode bM_read 45 = .ok (.aload_n 0, 1) := by decide +kernel
theorem dM_read_46 : decode bM_read 46 = .ok (.getfield 51, 3) := by decide +kernel
theorem dM_read_49 : decode bM_read 49 = .ok (.iload_n 2, 1) := by decide +kernel
theorem dM_read_50 : decode bM_read 50 = .ok (.iaload, 1) := by decide +kernel
theorem dM_read_51 : decode bM_read 51 = .ok (.iastore, 1) := by decide +kernel
theorem dM_read_52 : decode bM_read 52 = .ok (.iinc 2 1, 3) := by decide +kernel
theorem dM_read_55 : decode bM_read 55 = .ok (.goto (-32), 3) := by decide +kernel
theorem dM_read_58 : decode bM_read 58 = .ok (.aload_n 0, 1) := by decide +kernel
theorem dM_read_59 : decode bM_read 59 = .ok (.invokevirtual 107, 3) := by decide +kernel
theorem dM_read_62 : decode bM_read 62 = .ok (.iload_n 1, 1) := by decide +kernel
theorem dM_read_63 : decode bM_read 63 = .ok (.ireturn, 1) := by decide +kernel
theorem dM_lowerPart_0 : decode bM_lowerPart 0 = .ok (.aload_n 0, 1) := by decide +kernel
theorem dM_lowerPart_1 : decode bM_lowerPart 1 = .ok (.getfield 32, 3) := by decide +kernel
theorem dM_lowerPart_4 : decode bM_lowerPart 4 = .ok (.bipush 6, 2) := by decide +kernel
theorem dM_lowerPart_6 : decode bM_lowerPart 6 = .ok (.iload_n 1, 1) := by decide +kernel
theorem dM_lowerPart_7 : decode bM_lowerPart 7 = .ok (.imul, 1) := by decide +kernel
theorem dM_lowerPart_8 : decode bM_lowerPart 8 = .ok (.iload_n 2, 1) := by decide +kernel
theorem dM_lowerPart_9 : decode bM_lowerPart 9 = .ok (.iadd, 1) := by decide +kernel
theorem dM_lowerPart_10 : decode bM_lowerPart 10 = .ok (.iaload, 1) := by decide +kernel
theorem dM_lowerPart_11 : decode bM_lowerPart 11 = .ok (.aload_n 0, 1) := by decide +kernel
theorem dM_lowerPart_12 : decode bM_lowerPart 12 = .ok (.getfield 35, 3) := by decide +kernel
theorem dM_lowerPart_15 : decode bM_lowerPart 15 = .ok (.bipush 6, 2) := by decide +kernel
theorem dM_lowerPart_17 : decode bM_lowerPart 17 = .ok (.iload_n 1, 1) := by decide +kernel
theorem dM_lowerPart_18 : decode bM_lowerPart 18 = .ok (.imul, 1) := by decide +kernel
theorem dM_lowerPart_19 : decode bM_lowerPart 19 = .ok (.iload_n 2, 1) := by decide +kernel
theorem dM_lowerPart_20 : decode bM_lowerPart 20 = .ok (.iadd, 1) := by decide +kernel
theorem dM_lowerPart_21 : decode bM_lowerPart 21 = .ok (.iaload, 1) := by decide +kernel
theorem dM_lowerPart_22 : decode bM_lowerPart 22 = .ok (.isub, 1) := by decide +kernel
theorem dM_lowerPart_23 : decode bM_lowerPart 23 = .ok (.istore_n 3, 1) := by decide +kernel
theorem dM_lowerPart_24 : decode bM_lowerPart 24 = .ok (.iload_n 3, 1) := by decide +kernel
theorem dM_lowerPart_25 : decode bM_lowerPart 25 = .ok (.ifCond .ge 7, 3) := by decide +kernel
theorem dM_lowerPart_28 : decode bM_lowerPart 28 = .ok (.iconst 0, 1) := by decide +kernel
theorem dM_lowerPart_29 : decode bM_lowerPart 29 = .ok (.goto 4, 3) := by decide +kernel
theorem dM_lowerPart_32 : decode bM_lowerPart 32 = .ok (.iload_n 3, 1) := by decide +kernel
theorem dM_lowerPart_33 : decode bM_lowerPart 33 = .ok (.ireturn, 1) := by decide +kernel
theorem dM_upperPart_0 : decode bM_upperPart 0 = .ok (.aload_n 0, 1) := by decide +kernel
theorem dM_upperPart_1 : decode bM_upperPart 1 = .ok (.getfield 32, 3) := by decide +kernel
theorem dM_upperPart_4 : decode bM_upperPart 4 = .ok (.bipush 6, 2) := by decide +kernel
theorem dM_upperPart_6 : decode bM_upperPart 6 = .ok (.iload_n 1, 1) := by decide +kernel
theorem dM_upperPart_7 : decode bM_upperPart 7 = .ok (.imul, 1) := by decide +kernel
theorem dM_upperPart_8 : decode bM_upperPart 8 = .ok (.iload_n 2, 1) := by decide +kernel
theorem dM_upperPart_9 : decode bM_upperPart 9 = .ok (.iadd, 1) := by decide +kernel
theorem dM_upperPart_10 : decode bM_upperPart 10 = .ok (.iaload, 1) := by decide +kernel
theorem dM_upperPart_11 : decode bM_upperPart 11 = .ok (.aload_n 0, 1) := by decide +kernel
theorem dM_upperPart_12 : decode bM_upperPart 12 = .ok (.getfield 35, 3) := by decide +kernel
theorem dM_upperPart_15 : decode bM_upperPart 15 = .ok (.bipush 6, 2) := by decide +kernel
theorem dM_upperPart_17 : decode bM_upperPart 17 = .ok (.iload_n 1, 1) := by decide +kernel
theorem dM_upperPart_18 : decode bM_upperPart 18 = .ok (.imul, 1) := by decide +kernel
theorem dM_upperPart_19 : decode bM_upperPart 19 = .ok (.iload_n 2, 1) := by decide +kernel
theorem dM_upperPart_20 : decode bM_upperPart 20 = .ok (.iadd, 1) := by decide +kernel
theorem dM_upperPart_21 : decode bM_upperPart 21 = .ok (.iaload, 1) := by decide +kernel
theorem dM_upperPart_22 : decode bM_upperPart 22 = .ok (.iadd, 1) := by decide +kernel
theorem dM_upperPart_23 : decode bM_upperPart 23 = .ok (.istore_n 3, 1) := by decide +kernel
theorem dM_upperPart_24 : decode bM_upperPart 24 = .ok (.iload_n 3, 1) := by decide +kernel
theorem dM_upperPart_25 : decode bM_upperPart 25 = .ok (.sipush 1000, 3) := by decide +kernel
theorem dM_upperPart_28 : decode bM_upperPart 28 = .ok (.if_icmp .le 9, 3) := by decide +kernel
theorem dM_upperPart_31 : decode bM_upperPart 31 = .ok (.sipush 1000, 3) := by decide +kernel
theorem dM_upperPart_34 : decode bM_upperPart 34 = .ok (.goto 4, 3) := by decide +kernel
theorem dM_upperPart_37 : decode bM_upperPart 37 = .ok (.iload_n 3, 1) := by decide +kernel
theorem dM_upperPart_38 : decode bM_upperPart 38 = .ok (.ireturn, 1) := by decide +kernel
theorem dM_endOf_0 : decode bM_endOf 0 = .ok (.iconst 0, 1) := by decide +kernel
theorem dM_endOf_1 : decode bM_endOf 1 = .ok (.istore 4, 2) := by decide +kernel
theorem dM_endOf_3 : decode bM_endOf 3 = .ok (.iconst 0, 1) := by decide +kernel
theorem dM_endOf_4 : decode bM_endOf 4 = .ok (.istore 5, 2) := by decide +kernel
theorem dM_endOf_6 : decode bM_endOf 6 = .ok (.iload 5, 2) := by decide +kernel
theorem dM_endOf_8 : decode bM_endOf 8 = .ok (.aload_n 0, 1) := by decide +kernel
theorem dM_endOf_9 : decode bM_endOf 9 = .ok (.getfield 90, 3) := by decide +kernel
theorem dM_endOf_12 : decode bM_endOf 12 = .ok (.if_icmp .ge 64, 3) := by decide +kernel
theorem dM_endOf_15 : decode bM_endOf 15 = .ok (.iload_n 3, 1) := by decide +kernel
theorem dM_endOf_16 : decode bM_endOf 16 = .ok (.ifCond .ne 18, 3) := by decide +kernel
theorem dM_endOf_19 : decode bM_endOf 19 = .ok (.aload_n 0, 1) := by decide +kernel
theorem dM_endOf_20 : decode bM_endOf 20 = .ok (.getfield 32, 3) := by decide +kernel
theorem dM_endOf_23 : decode bM_endOf 23 = .ok (.bipush 6, 2) := by decide +kernel
theorem dM_endOf_25 : decode bM_endOf 25 = .ok (.iload 5, 2) := by decide +kernel
theorem dM_endOf_27 : decode bM_endOf 27 = .ok (.imul, 1) := by decide +kernel
theorem dM_endOf_28 : decode bM_endOf 28 = .ok (.iload_n 2, 1) := by decide +kernel
theorem dM_endOf_29 : decode bM_endOf 29 = .ok (.iadd, 1) := by decide +kernel
theorem dM_endOf_30 : decode bM_endOf 30 = .ok (.iaload, 1) := by decide +kernel
theorem dM_endOf_31 : decode bM_endOf 31 = .ok (.goto 25, 3) := by decide +kernel
theorem dM_endOf_34 : decode bM_endOf 34 = .ok (.iload_n 3, 1) := by decide +kernel
theorem dM_endOf_35 : decode bM_endOf 35 = .ok (.iconst 1, 1) := by decide +kernel
theorem dM_endOf_36 : decode bM_endOf 36 = .ok (.if_icmp .ne 13, 3) := by decide +kernel
theorem dM_endOf_39 : decode bM_endOf 39 = .ok (.aload_n 0, 1) := by decide +kernel
theorem dM_endOf_40 : decode bM_endOf 40 = .ok (.iload 5, 2) := by decide +kernel
theorem dM_endOf_42 : decode bM_endOf 42 = .ok (.iload_n 2, 1) := by decide +kernel
theorem dM_endOf_43 : decode bM_endOf 43 = .ok (.invokevirtual 142, 3) := by decide +kernel
theorem dM_endOf_46 : decode bM_endOf 46 = .ok (.goto 10, 3) := by decide +kernel
theorem dM_endOf_49 : decode bM_endOf 49 = .ok (.aload_n 0, 1) := by decide +kernel
theorem dM_endOf_50 : decode bM_endOf 50 = .ok (.iload 5, 2) := by decide +kernel
theorem dM_endOf_52 : decode bM_endOf 52 = .ok (.iload_n 2, 1) := by decide +kernel
theorem dM_endOf_53 : decode bM_endOf 53 = .ok (.invokevirtual 146, 3) := by decide +kernel
theorem dM_endOf_56 : decode bM_endOf 56 = .ok (.istore 6, 2) := by decide +kernel
theorem dM_endOf_58 : decode bM_endOf 58 = .ok (.iload 4, 2) := by decide +kernel
theorem dM_endOf_60 : decode bM_endOf 60 = .ok (.aload_n 1, 1) := by decide +kernel
theorem dM_endOf_61 : decode bM_endOf 61 = .ok (.iload 5, 2) := by decide +kernel
theorem dM_endOf_63 : decode bM_endOf 63 = .ok (.iaload, 1) := by decide +kernel
theorem dM_endOf_64 : decode bM_endOf 64 = .ok (.iload 6, 2) := by decide +kernel
theorem dM_endOf_66 : decode bM_endOf 66 = .ok (.imul, 1) := by decide +kernel
theorem dM_endOf_67 : decode bM_endOf 67 = .ok (.iadd, 1) := by decide +kernel
theorem dM_endOf_68 : decode bM_endOf 68 = .ok (.istore 4, 2) := by decide +kernel
theorem dM_endOf_70 : decode bM_endOf 70 = .ok (.iinc 5 1, 3) := by decide +kernel
theorem dM_endOf_73 : decode bM_endOf 73 = .ok (.goto (-67), 3) := by decide +kernel
theorem dM_endOf_76 : decode bM_endOf 76 = .ok (.iload 4, 2) := by decide +kernel
theorem dM_endOf_78 : decode bM_endOf 78 = .ok (.ireturn, 1) := by decide +kernel
theorem dM_missOf_0 : decode bM_missOf 0 = .ok (.bipush 100, 2) := by decide +kernel
theorem dM_missOf_2 : decode bM_missOf 2 = .ok (.iload_n 3, 1) := by decide +kernel
theorem dM_missOf_3 : decode bM_missOf 3 = .ok (.imul, 1) := by decide +kernel
theorem dM_missOf_4 : decode bM_missOf 4 = .ok (.aload_n 0, 1) := by decide +kernel
theorem dM_missOf_5 : decode bM_missOf 5 = .ok (.aload_n 1, 1) := by decide +kernel
theorem dM_missOf_6 : decode bM_missOf 6 = .ok (.iload_n 2, 1) := by decide +kernel
theorem dM_missOf_7 : decode bM_missOf 7 = .ok (.iconst 1, 1) := by decide +kernel
theorem dM_missOf_8 : decode bM_missOf 8 = .ok (.invokevirtual 149, 3) := by decide +kernel
theorem dM_missOf_11 : decode bM_missOf 11 = .ok (.isub, 1) := by decide +kernel
theorem dM_missOf_12 : decode bM_missOf 12 = .ok (.istore 5, 2) := by decide +kernel
theorem dM_missOf_14 : decode bM_missOf 14 = .ok (.aload_n 0, 1) := by decide +kernel
theorem dM_missOf_15 : decode bM_missOf 15 = .ok (.aload_n 1, 1) := by decide +kernel
theorem dM_missOf_16 : decode bM_missOf 16 = .ok (.iload_n 2, 1) := by decide +kernel
theorem dM_missOf_17 : decode bM_missOf 17 = .ok (.iconst 2, 1) := by decide +kernel
theorem dM_missOf_18 : decode bM_missOf 18 = .ok (.invokevirtual 149, 3) := by decide +kernel
theorem dM_missOf_21 : decode bM_missOf 21 = .ok (.bipush 100, 2) := by decide +kernel
theorem dM_missOf_23 : decode bM_missOf 23 = .ok (.iload 4, 2) := by decide +kernel
theorem dM_missOf_25 : decode bM_missOf 25 = .ok (.imul, 1) := by decide +kernel
theorem dM_missOf_26 : decode bM_missOf 26 = .ok (.isub, 1) := by decide +kernel
theorem dM_missOf_27 : decode bM_missOf 27 = .ok (.istore 6, 2) := by decide +kernel
theorem dM_missOf_29 : decode bM_missOf 29 = .ok (.iload 5, 2) := by decide +kernel
theorem dM_missOf_31 : decode bM_missOf 31 = .ok (.ifCond .le 8, 3) := by decide +kernel
theorem dM_missOf_34 : decode bM_missOf 34 = .ok (.iload 5, 2) := by decide +kernel
theorem dM_missOf_36 : decode bM_missOf 36 = .ok (.goto 4, 3) := by decide +kernel
theorem dM_missOf_39 : decode bM_missOf 39 = .ok (.iconst 0, 1) := by decide +kernel
theorem dM_missOf_40 : decode bM_missOf 40 = .ok (.iload 6, 2) := by decide +kernel
theorem dM_missOf_42 : decode bM_missOf 42 = .ok (.ifCond .le 8, 3) := by decide +kernel
theorem dM_missOf_45 : decode bM_missOf 45 = .ok (.iload 6, 2) := by decide +kernel
theorem dM_missOf_47 : decode bM_missOf 47 = .ok (.goto 4, 3) := by decide +kernel
theorem dM_missOf_50 : decode bM_missOf 50 = .ok (.iconst 0, 1) := by decide +kernel
theorem dM_missOf_51 : decode bM_missOf 51 = .ok (.iadd, 1) := by decide +kernel
theorem dM_missOf_52 : decode bM_missOf 52 = .ok (.ireturn, 1) := by decide +kernel
theorem dM_costOf_0 : decode bM_costOf 0 = .ok (.iconst 0, 1) := by decide +kernel
theorem dM_costOf_1 : decode bM_costOf 1 = .ok (.istore_n 2, 1) := by decide +kernel
theorem dM_costOf_2 : decode bM_costOf 2 = .ok (.iconst 0, 1) := by decide +kernel
theorem dM_costOf_3 : decode bM_costOf 3 = .ok (.istore_n 3, 1) := by decide +kernel
theorem dM_costOf_4 : decode bM_costOf 4 = .ok (.iload_n 3, 1) := by decide +kernel
theorem dM_costOf_5 : decode bM_costOf 5 = .ok (.aload_n 0, 1) := by decide +kernel
theorem dM_costOf_6 : decode bM_costOf 6 = .ok (.getfield 90, 3) := by decide +kernel
theorem dM_costOf_9 : decode bM_costOf 9 = .ok (.if_icmp .ge 22, 3) := by decide +kernel
theorem dM_costOf_12 : decode bM_costOf 12 = .ok (.iload_n 2, 1) := by decide +kernel
theorem dM_costOf_13 : decode bM_costOf 13 = .ok (.aload_n 1, 1) := by decide +kernel
theorem dM_costOf_14 : decode bM_costOf 14 = .ok (.iload_n 3, 1) := by decide +kernel
theorem dM_costOf_15 : decode bM_costOf 15 = .ok (.iaload, 1) := by decide +kernel
theorem dM_costOf_16 : decode bM_costOf 16 = .ok (.aload_n 0, 1) := by decide +kernel
theorem dM_costOf_17 : decode bM_costOf 17 = .ok (.getfield 16, 3) := by decide +kernel
theorem dM_costOf_20 : decode bM_costOf 20 = .ok (.iload_n 3, 1) := by decide +kernel
theorem dM_costOf_21 : decode bM_costOf 21 = .ok (.iaload, 1) := by decide +kernel
theorem dM_costOf_22 : decode bM_costOf 22 = .ok (.imul, 1) := by decide +kernel
theorem dM_costOf_23 : decode bM_costOf 23 = .ok (.iadd, 1) := by decide +kernel
theorem dM_costOf_24 : decode bM_costOf 24 = .ok (.istore_n 2, 1) := by decide +kernel
theorem dM_costOf_25 : decode bM_costOf 25 = .ok (.iinc 3 1, 3) := by decide +kernel
theorem dM_costOf_28 : decode bM_costOf 28 = .ok (.goto (-24), 3) := by decide +kernel
theorem dM_costOf_31 : decode bM_costOf 31 = .ok (.iload_n 2, 1) := by decide +kernel
theorem dM_costOf_32 : decode bM_costOf 32 = .ok (.ireturn, 1) := by decide +kernel
theorem dM_isMix_0 : decode bM_isMix 0 = .ok (.iconst 0, 1) := by decide +kernel
theorem dM_isMix_1 : decode bM_isMix 1 = .ok (.istore_n 1, 1) := by decide +kernel
theorem dM_isMix_2 : decode bM_isMix 2 = .ok (.iconst 0, 1) := by decide +kernel
theorem dM_isMix_3 : decode bM_isMix 3 = .ok (.istore_n 2, 1) := by decide +kernel
theorem dM_isMix_4 : decode bM_isMix 4 = .ok (.iconst 0, 1) := by decide +kernel
theorem dM_isMix_5 : decode bM_isMix 5 = .ok (.istore_n 3, 1) := by decide +kernel
theorem dM_isMix_6 : decode bM_isMix 6 = .ok (.iload_n 3, 1) := by decide +kernel
theorem dM_isMix_7 : decode bM_isMix 7 = .ok (.iconst 4, 1) := by decide +kernel
theorem dM_isMix_8 : decode bM_isMix 8 = .ok (.if_icmp .ge 103, 3) := by decide +kernel
theorem dM_isMix_11 : decode bM_isMix 11 = .ok (.iload_n 3, 1) := by decide +kernel
theorem dM_isMix_12 : decode bM_isMix 12 = .ok (.aload_n 0, 1) := by decide +kernel
theorem dM_isMix_13 : decode bM_isMix 13 = .ok (.getfield 90, 3) := by decide +kernel
theorem dM_isMix_16 : decode bM_isMix 16 = .ok (.if_icmp .ge 27, 3) := by decide +kernel
theorem dM_isMix_19 : decode bM_isMix 19 = .ok (.aload_n 0, 1) := by decide +kernel
theorem dM_isMix_20 : decode bM_isMix 20 = .ok (.getfield 57, 3) := by decide +kernel
theorem dM_isMix_23 : decode bM_isMix 23 = .ok (.iload_n 3, 1) := by decide +kernel
theorem dM_isMix_24 : decode bM_isMix 24 = .ok (.iaload, 1) := by decide +kernel
theorem dM_isMix_25 : decode bM_isMix 25 = .ok (.aload_n 0, 1) := by decide +kernel
theorem dM_isMix_26 : decode bM_isMix 26 = .ok (.getfield 19, 3) := by decide +kernel
theorem dM_isMix_29 : decode bM_isMix 29 = .ok (.iload_n 3, 1) := by decide +kernel
theorem dM_isMix_30 : decode bM_isMix 30 = .ok (.iaload, 1) := by decide +kernel
theorem dM_isMix_31 : decode bM_isMix 31 = .ok (.aload_n 0, 1) := by decide +kernel
theorem dM_isMix_32 : decode bM_isMix 32 = .ok (.getfield 22, 3) := by decide +kernel
theorem dM_isMix_35 : decode bM_isMix 35 = .ok (.iload_n 3, 1) := by decide +kernel
theorem dM_isMix_36 : decode bM_isMix 36 = .ok (.iaload, 1) := by decide +kernel
theorem dM_isMix_37 : decode bM_isMix 37 = .ok (.invokestatic 115, 3) := by decide +kernel
theorem dM_isMix_40 : decode bM_isMix 40 = .ok (.goto 17, 3) := by decide +kernel
theorem dM_isMix_43 : decode bM_isMix 43 = .ok (.aload_n 0, 1) := by decide +kernel
theorem dM_isMix_44 : decode bM_isMix 44 = .ok (.getfield 57, 3) := by decide +kernel
theorem dM_isMix_47 : decode bM_isMix 47 = .ok (.iload_n 3, 1) := by decide +kernel
theorem dM_isMix_48 : decode bM_isMix 48 = .ok (.iaload, 1) := by decide +kernel
theorem dM_isMix_49 : decode bM_isMix 49 = .ok (.ifCond .ne 7, 3) := by decide +kernel
theorem dM_isMix_52 : decode bM_isMix 52 = .ok (.iconst 1, 1) := by decide +kernel
theorem dM_isMix_53 : decode bM_isMix 53 = .ok (.goto 4, 3) := by decide +kernel
theorem dM_isMix_56 : decode bM_isMix 56 = .ok (.iconst 0, 1) := by decide +kernel
theorem dM_isMix_57 : decode bM_isMix 57 = .ok (.istore 4, 2) := by decide +kernel
theorem dM_isMix_59 : decode bM_isMix 59 = .ok (.iload 4, 2) := by decide +kernel
theorem dM_isMix_61 : decode bM_isMix 61 = .ok (.ifCond .ne 5, 3) := by decide +kernel
theorem dM_isMix_64 : decode bM_isMix 64 = .ok (.iconst 0, 1) := by decide +kernel
theorem dM_isMix_65 : decode bM_isMix 65 = .ok (.ireturn, 1) := by decide +kernel
theorem dM_isMix_66 : decode bM_isMix 66 = .ok (.iload_n 1, 1) := by decide +kernel
theorem dM_isMix_67 : decode bM_isMix 67 = .ok (.aload_n 0, 1) := by decide +kernel
theorem dM_isMix_68 : decode bM_isMix 68 = .ok (.getfield 57, 3) := by decide +kernel
theorem dM_isMix_71 : decode bM_isMix 71 = .ok (.iload_n 3, 1) := by decide +kernel
theorem dM_isMix_72 : decode bM_isMix 72 = .ok (.iaload, 1) := by decide +kernel
theorem dM_isMix_73 : decode bM_isMix 73 = .ok (.iadd, 1) := by decide +kernel
theorem dM_isMix_74 : decode bM_isMix 74 = .ok (.istore_n 1, 1) := by decide +kernel
theorem dM_isMix_75 : decode bM_isMix 75 = .ok (.iload_n 2, 1) := by decide +kernel
theorem dM_isMix_76 : decode bM_isMix 76 = .ok (.iload_n 3, 1) := by decide +kernel
theorem dM_isMix_77 : decode bM_isMix 77 = .ok (.aload_n 0, 1) := by decide +kernel
theorem dM_isMix_78 : decode bM_isMix 78 = .ok (.getfield 90, 3) := by decide +kernel
theorem dM_isMix_81 : decode bM_isMix 81 = .ok (.if_icmp .ge 21, 3) := by decide +kernel
theorem dM_isMix_84 : decode bM_isMix 84 = .ok (.aload_n 0, 1) := by decide +kernel
theorem dM_isMix_85 : decode bM_isMix 85 = .ok (.getfield 25, 3) := by decide +kernel
theorem dM_isMix_88 : decode bM_isMix 88 = .ok (.iload_n 3, 1) := by decide +kernel
theorem dM_isMix_89 : decode bM_isMix 89 = .ok (.baload, 1) := by decide +kernel
theorem dM_isMix_90 : decode bM_isMix 90 = .ok (.ifCond .eq 12, 3) := by decide +kernel
theorem dM_isMix_93 : decode bM_isMix 93 = .ok (.aload_n 0, 1) := by decide +kernel
theorem dM_isMix_94 : decode bM_isMix 94 = .ok (.getfield 57, 3) := by decide +kernel
theorem dM_isMix_97 : decode bM_isMix 97 = .ok (.iload_n 3, 1) := by decide +kernel
theorem dM_isMix_98 : decode bM_isMix 98 = .ok (.iaload, 1) := by decide +kernel
theorem dM_isMix_99 : decode bM_isMix 99 = .ok (.goto 4, 3) := by decide +kernel
theorem dM_isMix_102 : decode bM_isMix 102 = .ok (.iconst 0, 1) := by decide +kernel
theorem dM_isMix_103 : decode bM_isMix 103 = .ok (.iadd, 1) := by decide +kernel
theorem dM_isMix_104 : decode bM_isMix 104 = .ok (.istore_n 2, 1) := by decide +kernel
theorem dM_isMix_105 : decode bM_isMix 105 = .ok (.iinc 3 1, 3) := by decide +kernel
theorem dM_isMix_108 : decode bM_isMix 108 = .ok (.goto (-102), 3) := by decide +kernel
theorem dM_isMix_111 : decode bM_isMix 111 = .ok (.iload_n 1, 1) := by decide +kernel
theorem dM_isMix_112 : decode bM_isMix 112 = .ok (.bipush 100, 2) := by decide +kernel
theorem dM_isMix_114 : decode bM_isMix 114 = .ok (.if_icmp .ne 15, 3) := by decide +kernel
theorem dM_isMix_117 : decode bM_isMix 117 = .ok (.iload_n 2, 1) := by decide +kernel
theorem dM_isMix_118 : decode bM_isMix 118 = .ok (.aload_n 0, 1) := by decide +kernel
theorem dM_isMix_119 : decode bM_isMix 119 = .ok (.getfield 38, 3) := by decide +kernel
theorem dM_isMix_122 : decode bM_isMix 122 = .ok (.if_icmp .gt 7, 3) := by decide +kernel
theorem dM_isMix_125 : decode bM_isMix 125 = .ok (.iconst 1, 1) := by decide +kernel
theorem dM_isMix_126 : decode bM_isMix 126 = .ok (.goto 4, 3) := by decide +kernel
theorem dM_isMix_129 : decode bM_isMix 129 = .ok (.iconst 0, 1) := by decide +kernel
theorem dM_isMix_130 : decode bM_isMix 130 = .ok (.ireturn, 1) := by decide +kernel
theorem dM_goThrough_0 : decode bM_goThrough 0 = .ok (.aload_n 0, 1) := by decide +kernel
theorem dM_goThrough_1 : decode bM_goThrough 1 = .ok (.iconst 0, 1) := by decide +kernel
theorem dM_goThrough_2 : decode bM_goThrough 2 = .ok (.putfield 153, 3) := by decide +kernel
theorem dM_goThrough_5 : decode bM_goThrough 5 = .ok (.aload_n 0, 1) := by decide +kernel
theorem dM_goThrough_6 : decode bM_goThrough 6 = .ok (.iconst 0, 1) := by decide +kernel
theorem dM_goThrough_7 : decode bM_goThrough 7 = .ok (.putfield 156, 3) := by decide +kernel
theorem dM_goThrough_10 : decode bM_goThrough 10 = .ok (.aload_n 0, 1) := by decide +kernel
theorem dM_goThrough_11 : decode bM_goThrough 11 = .ok (.iconst 0, 1) := by decide +kernel
theorem dM_goThrough_12 : decode bM_goThrough 12 = .ok (.putfield 159, 3) := by decide +kernel
theorem dM_goThrough_15 : decode bM_goThrough 15 = .ok (.iconst 0, 1) := by decide +kernel
theorem dM_goThrough_16 : decode bM_goThrough 16 = .ok (.istore 5, 2) := by decide +kernel
theorem dM_goThrough_18 : decode bM_goThrough 18 = .ok (.iload 5, 2) := by decide +kernel
theorem dM_goThrough_20 : decode bM_goThrough 20 = .ok (.bipush 6, 2) := by decide +kernel
theorem dM_goThrough_22 : decode bM_goThrough 22 = .ok (.if_icmp .ge 17, 3) := by decide +kernel
theorem dM_goThrough_25 : decode bM_goThrough 25 = .ok (.aload_n 0, 1) := by decide +kernel
theorem dM_goThrough_26 : decode bM_goThrough 26 = .ok (.getfield 63, 3) := by decide +kernel
theorem dM_goThrough_29 : decode bM_goThrough 29 = .ok (.iload 5, 2) := by decide +kernel
theorem dM_goThrough_31 : decode bM_goThrough 31 = .ok (.iconst 0, 1) := by decide +kernel
theorem dM_goThrough_32 : decode bM_goThrough 32 = .ok (.bastore, 1) := by decide +kernel
theorem dM_goThrough_33 : decode bM_goThrough 33 = .ok (.iinc 5 1, 3) := by decide +kernel
theorem dM_goThrough_36 : decode bM_goThrough 36 = .ok (.goto (-18), 3) := by decide +kernel
theorem dM_goThrough_39 : decode bM_goThrough 39 = .ok (.iconst 0, 1) := by decide +kernel
theorem dM_goThrough_40 : decode bM_goThrough 40 = .ok (.istore 5, 2) := by decide +kernel
theorem dM_goThrough_42 : decode bM_goThrough 42 = .ok (.iload 5, 2) := by decide +kernel
theorem dM_goThrough_44 : decode bM_goThrough 44 = .ok (.bipush 100, 2) := by decide +kernel
theorem dM_goThrough_46 : decode bM_goThrough 46 = .ok (.if_icmp .gt 163, 3) := by decide +kernel
theorem dM_goThrough_49 : decode bM_goThrough 49 = .ok (.aload_n 0, 1) := by decide +kernel
theorem dM_goThrough_50 : decode bM_goThrough 50 = .ok (.getfield 57, 3) := by decide +kernel
theorem dM_goThrough_53 : decode bM_goThrough 53 = .ok (.iconst 0, 1) := by decide +kernel
theorem dM_goThrough_54 : decode bM_goThrough 54 = .ok (.iload 5, 2) := by decide +kernel
theorem dM_goThrough_56 : decode bM_goThrough 56 = .ok (.iastore, 1) := by decide +kernel
theorem dM_goThrough_57 : decode bM_goThrough 57 = .ok (.iconst 0, 1) := by decide +kernel
theorem dM_goThrough_58 : decode bM_goThrough 58 = .ok (.istore 6, 2) := by decide +kernel
theorem dM_goThrough_60 : decode bM_goThrough 60 = .ok (.iload 5, 2) := by decide +kernel
theorem dM_goThrough_62 : decode bM_goThrough 62 = .ok (.iload 6, 2) := by decide +kernel
theorem dM_goThrough_64 : decode bM_goThrough 64 = .ok (.iadd, 1) := by decide +kernel
theorem dM_goThrough_65 : decode bM_goThrough 65 = .ok (.bipush 100, 2) := by decide +kernel
theorem dM_goThrough_67 : decode bM_goThrough 67 = .ok (.if_icmp .gt 130, 3) := by decide +kernel
theorem dM_goThrough_70 : decode bM_goThrough 70 = .ok (.iload 6, 2) := by decide +kernel
theorem dM_goThrough_72 : decode bM_goThrough 72 = .ok (.ifCond .eq 11, 3) := by decide +kernel
theorem dM_goThrough_75 : decode bM_goThrough 75 = .ok (.aload_n 0, 1) := by decide +kernel
theorem dM_goThrough_76 : decode bM_goThrough 76 = .ok (.getfield 90, 3) := by decide +kernel
theorem dM_goThrough_79 : decode bM_goThrough 79 = .ok (.iconst 1, 1) := by decide +kernel
theorem dM_goThrough_80 : decode bM_goThrough 80 = .ok (.if_icmp .le 117, 3) := by decide +kernel
theorem dM_goThrough_83 : decode bM_goThrough 83 = .ok (.aload_n 0, 1) := by decide +kernel
theorem dM_goThrough_84 : decode bM_goThrough 84 = .ok (.getfield 57, 3) := by decide +kernel
theorem dM_goThrough_87 : decode bM_goThrough 87 = .ok (.iconst 1, 1) := by decide +kernel
theorem dM_goThrough_88 : decode bM_goThrough 88 = .ok (.iload 6, 2) := by decide +kernel
theorem dM_goThrough_90 : decode bM_goThrough 90 = .ok (.iastore, 1) := by decide +kernel
theorem dM_goThrough_91 : decode bM_goThrough 91 = .ok (.iconst 0, 1) := by decide +kernel
theorem dM_goThrough_92 : decode bM_goThrough 92 = .ok (.istore 7, 2) := by decide +kernel
theorem dM_goThrough_94 : decode bM_goThrough 94 = .ok (.iload 5, 2) := by decide +kernel
theorem dM_goThrough_96 : decode bM_goThrough 96 = .ok (.iload 6, 2) := by decide +kernel
theorem dM_goThrough_98 : decode bM_goThrough 98 = .ok (.iadd, 1) := by decide +kernel
theorem dM_goThrough_99 : decode bM_goThrough 99 = .ok (.iload 7, 2) := by decide +kernel
theorem dM_goThrough_101 : decode bM_goThrough 101 = .ok (.iadd, 1) := by decide +kernel
theorem dM_goThrough_102 : decode bM_goThrough 102 = .ok (.bipush 100, 2) := by decide +kernel
theorem dM_goThrough_104 : decode bM_goThrough 104 = .ok (.if_icmp .gt 81, 3) := by decide +kernel
theorem dM_goThrough_107 : decode bM_goThrough 107 = .ok (.iload 7, 2) := by decide +kernel
theorem dM_goThrough_109 : decode bM_goThrough 109 = .ok (.ifCond .eq 11, 3) := by decide +kernel
theorem dM_goThrough_112 : decode bM_goThrough 112 = .ok (.aload_n 0, 1) := by decide +kernel
theorem dM_goThrough_113 : decode bM_goThrough 113 = .ok (.getfield 90, 3) := by decide +kernel
theorem dM_goThrough_116 : decode bM_goThrough 116 = .ok (.iconst 2, 1) := by decide +kernel
theorem dM_goThrough_117 : decode bM_goThrough 117 = .ok (.if_icmp .le 68, 3) := by decide +kernel
theorem dM_goThrough_120 : decode bM_goThrough 120 = .ok (.aload_n 0, 1) := by decide +kernel
theorem dM_goThrough_121 : decode bM_goThrough 121 = .ok (.getfield 57, 3) := by decide +kernel
theorem dM_goThrough_124 : decode bM_goThrough 124 = .ok (.iconst 2, 1) := by decide +kernel
theorem dM_goThrough_125 : decode bM_goThrough 125 = .ok (.iload 7, 2) := by decide +kernel
theorem dM_goThrough_127 : decode bM_goThrough 127 = .ok (.iastore, 1) := by decide +kernel
theorem dM_goThrough_128 : decode bM_goThrough 128 = .ok (.aload_n 0, 1) := by decide +kernel
theorem dM_goThrough_129 : decode bM_goThrough 129 = .ok (.getfield 57, 3) := by decide +kernel
theorem dM_goThrough_132 : decode bM_goThrough 132 = .ok (.iconst 3, 1) := by decide +kernel
theorem dM_goThrough_133 : decode bM_goThrough 133 = .ok (.aload_n 0, 1) := by decide +kernel
theorem dM_goThrough_134 : decode bM_goThrough 134 = .ok (.getfield 90, 3) := by decide +kernel
theorem dM_goThrough_137 : decode bM_goThrough 137 = .ok (.iconst 3, 1) := by decide +kernel
theorem dM_goThrough_138 : decode bM_goThrough 138 = .ok (.if_icmp .le 17, 3) := by decide +kernel
theorem dM_goThrough_141 : decode bM_goThrough 141 = .ok (.bipush 100, 2) := by decide +kernel
theorem dM_goThrough_143 : decode bM_goThrough 143 = .ok (.iload 5, 2) := by decide +kernel
theorem dM_goThrough_145 : decode bM_goThrough 145 = .ok (.isub, 1) := by decide +kernel
theorem dM_goThrough_146 : decode bM_goThrough 146 = .ok (.iload 6, 2) := by decide +kernel
theorem dM_goThrough_148 : decode bM_goThrough 148 = .ok (.isub, 1) := by decide +kernel
theorem dM_goThrough_149 : decode bM_goThrough 149 = .ok (.iload 7, 2) := by decide +kernel
theorem dM_goThrough_151 : decode bM_goThrough 151 = .ok (.isub, 1) := by decide +kernel
theorem dM_goThrough_152 : decode bM_goThrough 152 = .ok (.goto 4, 3) := by decide +kernel
theorem dM_goThrough_155 : decode bM_goThrough 155 = .ok (.iconst 0, 1) := by decide +kernel
theorem dM_goThrough_156 : decode bM_goThrough 156 = .ok (.iastore, 1) := by decide +kernel
theorem dM_goThrough_157 : decode bM_goThrough 157 = .ok (.aload_n 0, 1) := by decide +kernel
theorem dM_goThrough_158 : decode bM_goThrough 158 = .ok (.invokevirtual 162, 3) := by decide +kernel
theorem dM_goThrough_161 : decode bM_goThrough 161 = .ok (.ifCond .eq 12, 3) := by decide +kernel
theorem dM_goThrough_164 : decode bM_goThrough 164 = .ok (.aload_n 0, 1) := by decide +kernel
theorem dM_goThrough_165 : decode bM_goThrough 165 = .ok (.iload_n 1, 1) := by decide +kernel
theorem dM_goThrough_166 : decode bM_goThrough 166 = .ok (.iload_n 2, 1) := by decide +kernel
theorem dM_goThrough_167 : decode bM_goThrough 167 = .ok (.iload_n 3, 1) := by decide +kernel
theorem dM_goThrough_168 : decode bM_goThrough 168 = .ok (.iload 4, 2) := by decide +kernel
theorem dM_goThrough_170 : decode bM_goThrough 170 = .ok (.invokevirtual 165, 3) := by decide +kernel
theorem dM_goThrough_173 : decode bM_goThrough 173 = .ok (.iload 7, 2) := by decide +kernel
theorem dM_goThrough_175 : decode bM_goThrough 175 = .ok (.aload_n 0, 1) := by decide +kernel
theorem dM_goThrough_176 : decode bM_goThrough 176 = .ok (.getfield 42, 3) := by decide +kernel
theorem dM_goThrough_179 : decode bM_goThrough 179 = .ok (.iadd, 1) := by decide +kernel
theorem dM_goThrough_180 : decode bM_goThrough 180 = .ok (.istore 7, 2) := by decide +kernel
theorem dM_goThrough_182 : decode bM_goThrough 182 = .ok (.goto (-88), 3) := by decide +kernel
theorem dM_goThrough_185 : decode bM_goThrough 185 = .ok (.iload 6, 2) := by decide +kernel
theorem dM_goThrough_187 : decode bM_goThrough 187 = .ok (.aload_n 0, 1) := by decide +kernel
theorem dM_goThrough_188 : decode bM_goThrough 188 = .ok (.getfield 42, 3) := by decide +kernel
theorem dM_goThrough_191 : decode bM_goThrough 191 = .ok (.iadd, 1) := by decide +kernel
theorem dM_goThrough_192 : decode bM_goThrough 192 = .ok (.istore 6, 2) := by decide +kernel
theorem dM_goThrough_194 : decode bM_goThrough 194 = .ok (.goto (-134), 3) := by decide +kernel
theorem dM_goThrough_197 : decode bM_goThrough 197 = .ok (.iload 5, 2) := by decide +kernel
theorem dM_goThrough_199 : decode bM_goThrough 199 = .ok (.aload_n 0, 1) := by decide +kernel
theorem dM_goThrough_200 : decode bM_goThrough 200 = .ok (.getfield 42, 3) := by decide +kernel
theorem dM_goThrough_203 : decode bM_goThrough 203 = .ok (.iadd, 1) := by decide +kernel
theorem dM_goThrough_204 : decode bM_goThrough 204 = .ok (.istore 5, 2) := by decide +kernel
theorem dM_goThrough_206 : decode bM_goThrough 206 = .ok (.goto (-164), 3) := by decide +kernel
theorem dM_goThrough_209 : decode bM_goThrough 209 = .ok (.return_, 1) := by decide +kernel
theorem dM_look_0 : decode bM_look 0 = .ok (.iconst 0, 1) := by decide +kernel
theorem dM_look_1 : decode bM_look 1 = .ok (.istore 5, 2) := by decide +kernel
theorem dM_look_3 : decode bM_look 3 = .ok (.iconst 0, 1) := by decide +kernel
theorem dM_look_4 : decode bM_look 4 = .ok (.istore 6, 2) := by decide +kernel
theorem dM_look_6 : decode bM_look 6 = .ok (.iload 6, 2) := by decide +kernel
theorem dM_look_8 : decode bM_look 8 = .ok (.aload_n 0, 1) := by decide +kernel
theorem dM_look_9 : decode bM_look 9 = .ok (.getfield 87, 3) := by decide +kernel
theorem dM_look_12 : decode bM_look 12 = .ok (.if_icmp .ge 90, 3) := by decide +kernel
theorem dM_look_15 : decode bM_look 15 = .ok (.aload_n 0, 1) := by decide +kernel
theorem dM_look_16 : decode bM_look 16 = .ok (.aload_n 0, 1) := by decide +kernel
theorem dM_look_17 : decode bM_look 17 = .ok (.getfield 57, 3) := by decide +kernel
theorem dM_look_20 : decode bM_look 20 = .ok (.iload 6, 2) := by decide +kernel
theorem dM_look_22 : decode bM_look 22 = .ok (.iload 6, 2) := by decide +kernel
theorem dM_look_24 : decode bM_look 24 = .ok (.iload_n 2, 1) := by decide +kernel
theorem dM_look_25 : decode bM_look 25 = .ok (.if_icmp .ne 7, 3) := by decide +kernel
theorem dM_look_28 : decode bM_look 28 = .ok (.iload_n 3, 1) := by decide +kernel
theorem dM_look_29 : decode bM_look 29 = .ok (.goto 10, 3) := by decide +kernel
theorem dM_look_32 : decode bM_look 32 = .ok (.aload_n 0, 1) := by decide +kernel
theorem dM_look_33 : decode bM_look 33 = .ok (.getfield 7, 3) := by decide +kernel
theorem dM_look_36 : decode bM_look 36 = .ok (.iload 6, 2) := by decide +kernel
theorem dM_look_38 : decode bM_look 38 = .ok (.iaload, 1) := by decide +kernel
theorem dM_look_39 : decode bM_look 39 = .ok (.iload 6, 2) := by decide +kernel
theorem dM_look_41 : decode bM_look 41 = .ok (.iload_n 2, 1) := by decide +kernel
theorem dM_look_42 : decode bM_look 42 = .ok (.if_icmp .ne 8, 3) := by decide +kernel
theorem dM_look_45 : decode bM_look 45 = .ok (.iload 4, 2) := by decide +kernel
theorem dM_look_47 : decode bM_look 47 = .ok (.goto 10, 3) := by decide +kernel
theorem dM_look_50 : decode bM_look 50 = .ok (.aload_n 0, 1) := by decide +kernel
theorem dM_look_51 : decode bM_look 51 = .ok (.getfield 13, 3) := by decide +kernel
theorem dM_look_54 : decode bM_look 54 = .ok (.iload 6, 2) := by decide +kernel
theorem dM_look_56 : decode bM_look 56 = .ok (.iaload, 1) := by decide +kernel
theorem dM_look_57 : decode bM_look 57 = .ok (.invokevirtual 169, 3) := by decide +kernel
theorem dM_look_60 : decode bM_look 60 = .ok (.istore 7, 2) := by decide +kernel
theorem dM_look_62 : decode bM_look 62 = .ok (.aload_n 0, 1) := by decide +kernel
theorem dM_look_63 : decode bM_look 63 = .ok (.getfield 63, 3) := by decide +kernel
theorem dM_look_66 : decode bM_look 66 = .ok (.iload 6, 2) := by decide +kernel
theorem dM_look_68 : decode bM_look 68 = .ok (.aload_n 0, 1) := by decide +kernel
theorem dM_look_69 : decode bM_look 69 = .ok (.getfield 63, 3) := by decide +kernel
theorem dM_look_72 : decode bM_look 72 = .ok (.iload 6, 2) := by decide +kernel
theorem dM_look_74 : decode bM_look 74 = .ok (.baload, 1) := by decide +kernel
theorem dM_look_75 : decode bM_look 75 = .ok (.ifCond .ne 8, 3) := by decide +kernel
theorem dM_look_78 : decode bM_look 78 = .ok (.iload 7, 2) := by decide +kernel
theorem dM_look_80 : decode bM_look 80 = .ok (.ifCond .ne 7, 3) := by decide +kernel
theorem dM_look_83 : decode bM_look 83 = .ok (.iconst 1, 1) := by decide +kernel
theorem dM_look_84 : decode bM_look 84 = .ok (.goto 4, 3) := by decide +kernel
theorem dM_look_87 : decode bM_look 87 = .ok (.iconst 0, 1) := by decide +kernel
theorem dM_look_88 : decode bM_look 88 = .ok (.bastore, 1) := by decide +kernel
theorem dM_look_89 : decode bM_look 89 = .ok (.iload 5, 2) := by decide +kernel
theorem dM_look_91 : decode bM_look 91 = .ok (.iload 7, 2) := by decide +kernel
theorem dM_look_93 : decode bM_look 93 = .ok (.iadd, 1) := by decide +kernel
theorem dM_look_94 : decode bM_look 94 = .ok (.istore 5, 2) := by decide +kernel
theorem dM_look_96 : decode bM_look 96 = .ok (.iinc 6 1, 3) := by decide +kernel
theorem dM_look_99 : decode bM_look 99 = .ok (.goto (-93), 3) := by decide +kernel
theorem dM_look_102 : decode bM_look 102 = .ok (.aload_n 0, 1) := by decide +kernel
theorem dM_look_103 : decode bM_look 103 = .ok (.dup, 1) := by decide +kernel
theorem dM_look_104 : decode bM_look 104 = .ok (.getfield 156, 3) := by decide +kernel
theorem dM_look_107 : decode bM_look 107 = .ok (.iconst 1, 1) := by decide +kernel
theorem dM_look_108 : decode bM_look 108 = .ok (.iadd, 1) := by decide +kernel
theorem dM_look_109 : decode bM_look 109 = .ok (.putfield 156, 3) := by decide +kernel
theorem dM_look_112 : decode bM_look 112 = .ok (.aload_n 0, 1) := by decide +kernel
theorem dM_look_113 : decode bM_look 113 = .ok (.dup, 1) := by decide +kernel
theorem dM_look_114 : decode bM_look 114 = .ok (.getfield 159, 3) := by decide +kernel
theorem dM_look_117 : decode bM_look 117 = .ok (.iload 5, 2) := by decide +kernel
theorem dM_look_119 : decode bM_look 119 = .ok (.ifCond .ne 7, 3) := by decide +kernel
theorem dM_look_122 : decode bM_look 122 = .ok (.iconst 1, 1) := by decide +kernel
theorem dM_look_123 : decode bM_look 123 = .ok (.goto 4, 3) := by decide +kernel
theorem dM_look_126 : decode bM_look 126 = .ok (.iconst 0, 1) := by decide +kernel
theorem dM_look_127 : decode bM_look 127 = .ok (.iadd, 1) := by decide +kernel
theorem dM_look_128 : decode bM_look 128 = .ok (.putfield 159, 3) := by decide +kernel
theorem dM_look_131 : decode bM_look 131 = .ok (.aload_n 0, 1) := by decide +kernel
theorem dM_look_132 : decode bM_look 132 = .ok (.aload_n 0, 1) := by decide +kernel
theorem dM_look_133 : decode bM_look 133 = .ok (.getfield 57, 3) := by decide +kernel
theorem dM_look_136 : decode bM_look 136 = .ok (.invokevirtual 173, 3) := by decide +kernel
theorem dM_look_139 : decode bM_look 139 = .ok (.istore 6, 2) := by decide +kernel
theorem dM_look_141 : decode bM_look 141 = .ok (.aload_n 0, 1) := by decide +kernel
theorem dM_look_142 : decode bM_look 142 = .ok (.getfield 153, 3) := by decide +kernel
theorem dM_look_145 : decode bM_look 145 = .ok (.ifCond .eq 37, 3) := by decide +kernel
theorem dM_look_148 : decode bM_look 148 = .ok (.iload_n 1, 1) := by decide +kernel
theorem dM_look_149 : decode bM_look 149 = .ok (.ifCond .eq 24, 3) := by decide +kernel
theorem dM_look_152 : decode bM_look 152 = .ok (.iload 5, 2) := by decide +kernel
theorem dM_look_154 : decode bM_look 154 = .ok (.aload_n 0, 1) := by decide +kernel
theorem dM_look_155 : decode bM_look 155 = .ok (.getfield 177, 3) := by decide +kernel
theorem dM_look_158 : decode bM_look 158 = .ok (.if_icmp .eq 15, 3) := by decide +kernel
theorem dM_look_161 : decode bM_look 161 = .ok (.iload 5, 2) := by decide +kernel
theorem dM_look_163 : decode bM_look 163 = .ok (.aload_n 0, 1) := by decide +kernel
theorem dM_look_164 : decode bM_look 164 = .ok (.getfield 177, 3) := by decide +kernel
theorem dM_look_167 : decode bM_look 167 = .ok (.if_icmp .ge 19, 3) := by decide +kernel
theorem dM_look_170 : decode bM_look 170 = .ok (.goto 12, 3) := by decide +kernel
theorem dM_look_173 : decode bM_look 173 = .ok (.iload 6, 2) := by decide +kernel
theorem dM_look_175 : decode bM_look 175 = .ok (.aload_n 0, 1) := by decide +kernel
theorem dM_look_176 : decode bM_look 176 = .ok (.getfield 180, 3) := by decide +kernel
theorem dM_look_179 : decode bM_look 179 = .ok (.if_icmp .ge 7, 3) := by decide +kernel
theorem dM_look_182 : decode bM_look 182 = .ok (.iconst 1, 1) := by decide +kernel
theorem dM_look_183 : decode bM_look 183 = .ok (.goto 4, 3) := by decide +kernel
theorem dM_look_186 : decode bM_look 186 = .ok (.iconst 0, 1) := by decide +kernel
theorem dM_look_187 : decode bM_look 187 = .ok (.istore 7, 2) := by decide +kernel
theorem dM_look_189 : decode bM_look 189 = .ok (.iload_n 1, 1) := by decide +kernel
theorem dM_look_190 : decode bM_look 190 = .ok (.ifCond .ne 8, 3) := by decide +kernel
theorem dM_look_193 : decode bM_look 193 = .ok (.iload 5, 2) := by decide +kernel
theorem dM_look_195 : decode bM_look 195 = .ok (.ifCond .ne 54, 3) := by decide +kernel
theorem dM_look_198 : decode bM_look 198 = .ok (.iload 7, 2) := by decide +kernel
theorem dM_look_200 : decode bM_look 200 = .ok (.ifCond .eq 49, 3) := by decide +kernel
theorem dM_look_203 : decode bM_look 203 = .ok (.aload_n 0, 1) := by decide +kernel
theorem dM_look_204 : decode bM_look 204 = .ok (.iconst 1, 1) := by decide +kernel
theorem dM_look_205 : decode bM_look 205 = .ok (.putfield 153, 3) := by decide +kernel
theorem dM_look_208 : decode bM_look 208 = .ok (.aload_n 0, 1) := by decide +kernel
theorem dM_look_209 : decode bM_look 209 = .ok (.iload 5, 2) := by decide +kernel
theorem dM_look_211 : decode bM_look 211 = .ok (.putfield 177, 3) := by decide +kernel
theorem dM_look_214 : decode bM_look 214 = .ok (.aload_n 0, 1) := by decide +kernel
theorem dM_look_215 : decode bM_look 215 = .ok (.iload 6, 2) := by decide +kernel
theorem dM_look_217 : decode bM_look 217 = .ok (.putfield 180, 3) := by decide +kernel
theorem dM_look_220 : decode bM_look 220 = .ok (.iconst 0, 1) := by decide +kernel
theorem dM_look_221 : decode bM_look 221 = .ok (.istore 8, 2) := by decide +kernel
theorem dM_look_223 : decode bM_look 223 = .ok (.iload 8, 2) := by decide +kernel
theorem dM_look_225 : decode bM_look 225 = .ok (.iconst 4, 1) := by decide +kernel
theorem dM_look_226 : decode bM_look 226 = .ok (.if_icmp .ge 23, 3) := by decide +kernel
theorem dM_look_229 : decode bM_look 229 = .ok (.aload_n 0, 1) := by decide +kernel
theorem dM_look_230 : decode bM_look 230 = .ok (.getfield 60, 3) := by decide +kernel
theorem dM_look_233 : decode bM_look 233 = .ok (.iload 8, 2) := by decide +kernel
theorem dM_look_235 : decode bM_look 235 = .ok (.aload_n 0, 1) := by decide +kernel
theorem dM_look_236 : decode bM_look 236 = .ok (.getfield 57, 3) := by decide +kernel
theorem dM_look_239 : decode bM_look 239 = .ok (.iload 8, 2) := by decide +kernel
theorem dM_look_241 : decode bM_look 241 = .ok (.iaload, 1) := by decide +kernel
theorem dM_look_242 : decode bM_look 242 = .ok (.iastore, 1) := by decide +kernel
theorem dM_look_243 : decode bM_look 243 = .ok (.iinc 8 1, 3) := by decide +kernel
theorem dM_look_246 : decode bM_look 246 = .ok (.goto (-23), 3) := by decide +kernel
theorem dM_look_249 : decode bM_look 249 = .ok (.return_, 1) := by decide +kernel
theorem dM_take_0 : decode bM_take 0 = .ok (.iconst 0, 1) := by decide +kernel
theorem dM_take_1 : decode bM_take 1 = .ok (.istore_n 1, 1) := by decide +kernel
theorem dM_take_2 : decode bM_take 2 = .ok (.iload_n 1, 1) := by decide +kernel
theorem dM_take_3 : decode bM_take 3 = .ok (.iconst 4, 1) := by decide +kernel
theorem dM_take_4 : decode bM_take 4 = .ok (.if_icmp .ge 21, 3) := by decide +kernel
theorem dM_take_7 : decode bM_take 7 = .ok (.aload_n 0, 1) := by decide +kernel
theorem dM_take_8 : decode bM_take 8 = .ok (.getfield 54, 3) := by decide +kernel
theorem dM_take_11 : decode bM_take 11 = .ok (.iload_n 1, 1) := by decide +kernel
theorem dM_take_12 : decode bM_take 12 = .ok (.aload_n 0, 1) := by decide +kernel
theorem dM_take_13 : decode bM_take 13 = .ok (.getfield 60, 3) := by decide +kernel
theorem dM_take_16 : decode bM_take 16 = .ok (.iload_n 1, 1) := by decide +kernel
theorem dM_take_17 : decode bM_take 17 = .ok (.iaload, 1) := by decide +kernel
theorem dM_take_18 : decode bM_take 18 = .ok (.iastore, 1) := by decide +kernel
theorem dM_take_19 : decode bM_take 19 = .ok (.iinc 1 1, 3) := by decide +kernel
theorem dM_take_22 : decode bM_take 22 = .ok (.goto (-20), 3) := by decide +kernel
theorem dM_take_25 : decode bM_take 25 = .ok (.aload_n 0, 1) := by decide +kernel
theorem dM_take_26 : decode bM_take 26 = .ok (.iconst 1, 1) := by decide +kernel
theorem dM_take_27 : decode bM_take 27 = .ok (.putfield 93, 3) := by decide +kernel
theorem dM_take_30 : decode bM_take 30 = .ok (.aload_n 0, 1) := by decide +kernel
theorem dM_take_31 : decode bM_take 31 = .ok (.iconst 0, 1) := by decide +kernel
theorem dM_take_32 : decode bM_take 32 = .ok (.putfield 97, 3) := by decide +kernel
theorem dM_take_35 : decode bM_take 35 = .ok (.return_, 1) := by decide +kernel
theorem dM_run_0 : decode bM_run 0 = .ok (.aload_n 0, 1) := by decide +kernel
theorem dM_run_1 : decode bM_run 1 = .ok (.iconst 0, 1) := by decide +kernel
theorem dM_run_2 : decode bM_run 2 = .ok (.iconst (-1), 1) := by decide +kernel
theorem dM_run_3 : decode bM_run 3 = .ok (.iconst 0, 1) := by decide +kernel
theorem dM_run_4 : decode bM_run 4 = .ok (.iconst 0, 1) := by decide +kernel
theorem dM_run_5 : decode bM_run 5 = .ok (.invokevirtual 183, 3) := by decide +kernel
theorem dM_run_8 : decode bM_run 8 = .ok (.aload_n 0, 1) := by decide +kernel
theorem dM_run_9 : decode bM_run 9 = .ok (.getfield 153, 3) := by decide +kernel
theorem dM_run_12 : decode bM_run 12 = .ok (.ifCond .ne 5, 3) := by decide +kernel
theorem dM_run_15 : decode bM_run 15 = .ok (.iconst (-1), 1) := by decide +kernel
theorem dM_run_16 : decode bM_run 16 = .ok (.ireturn, 1) := by decide +kernel
theorem dM_run_17 : decode bM_run 17 = .ok (.aload_n 0, 1) := by decide +kernel
theorem dM_run_18 : decode bM_run 18 = .ok (.invokevirtual 186, 3) := by decide +kernel
theorem dM_run_21 : decode bM_run 21 = .ok (.aload_n 0, 1) := by decide +kernel
theorem dM_run_22 : decode bM_run 22 = .ok (.getfield 180, 3) := by decide +kernel
theorem dM_run_25 : decode bM_run 25 = .ok (.ireturn, 1) := by decide +kernel
theorem dM_near_0 : decode bM_near 0 = .ok (.aload_n 0, 1) := by decide +kernel
theorem dM_near_1 : decode bM_near 1 = .ok (.iconst 1, 1) := by decide +kernel
theorem dM_near_2 : decode bM_near 2 = .ok (.iconst (-1), 1) := by decide +kernel
theorem dM_near_3 : decode bM_near 3 = .ok (.iconst 0, 1) := by decide +kernel
theorem dM_near_4 : decode bM_near 4 = .ok (.iconst 0, 1) := by decide +kernel
theorem dM_near_5 : decode bM_near 5 = .ok (.invokevirtual 183, 3) := by decide +kernel
theorem dM_near_8 : decode bM_near 8 = .ok (.aload_n 0, 1) := by decide +kernel
theorem dM_near_9 : decode bM_near 9 = .ok (.getfield 153, 3) := by decide +kernel
theorem dM_near_12 : decode bM_near 12 = .ok (.ifCond .ne 5, 3) := by decide +kernel
theorem dM_near_15 : decode bM_near 15 = .ok (.iconst (-1), 1) := by decide +kernel
theorem dM_near_16 : decode bM_near 16 = .ok (.ireturn, 1) := by decide +kernel
theorem dM_near_17 : decode bM_near 17 = .ok (.aload_n 0, 1) := by decide +kernel
theorem dM_near_18 : decode bM_near 18 = .ok (.invokevirtual 186, 3) := by decide +kernel
theorem dM_near_21 : decode bM_near 21 = .ok (.aload_n 0, 1) := by decide +kernel
theorem dM_near_22 : decode bM_near 22 = .ok (.getfield 177, 3) := by decide +kernel
theorem dM_near_25 : decode bM_near 25 = .ok (.ireturn, 1) := by decide +kernel
theorem dM_share_0 : decode bM_share 0 = .ok (.aload_n 0, 1) := by decide +kernel
theorem dM_share_1 : decode bM_share 1 = .ok (.getfield 93, 3) := by decide +kernel
theorem dM_share_4 : decode bM_share 4 = .ok (.ifCond .eq 20, 3) := by decide +kernel
theorem dM_share_7 : decode bM_share 7 = .ok (.aload_n 0, 1) := by decide +kernel
theorem dM_share_8 : decode bM_share 8 = .ok (.iload_n 1, 1) := by decide +kernel
theorem dM_share_9 : decode bM_share 9 = .ok (.invokevirtual 119, 3) := by decide +kernel
theorem dM_share_12 : decode bM_share 12 = .ok (.ifCond .eq 12, 3) := by decide +kernel
theorem dM_share_15 : decode bM_share 15 = .ok (.aload_n 0, 1) := by decide +kernel
theorem dM_share_16 : decode bM_share 16 = .ok (.getfield 54, 3) := by decide +kernel
theorem dM_share_19 : decode bM_share 19 = .ok (.iload_n 1, 1) := by decide +kernel
theorem dM_share_20 : decode bM_share 20 = .ok (.iaload, 1) := by decide +kernel
theorem dM_share_21 : decode bM_share 21 = .ok (.goto 4, 3) := by decide +kernel
theorem dM_share_24 : decode bM_share 24 = .ok (.iconst (-1), 1) := by decide +kernel
theorem dM_share_25 : decode bM_share 25 = .ok (.ireturn, 1) := by decide +kernel
theorem dM_told_0 : decode bM_told 0 = .ok (.aload_n 0, 1) := by decide +kernel
theorem dM_told_1 : decode bM_told 1 = .ok (.getfield 93, 3) := by decide +kernel
theorem dM_told_4 : decode bM_told 4 = .ok (.ifCond .eq 20, 3) := by decide +kernel
theorem dM_told_7 : decode bM_told 7 = .ok (.aload_n 0, 1) := by decide +kernel
theorem dM_told_8 : decode bM_told 8 = .ok (.iload_n 1, 1) := by decide +kernel
theorem dM_told_9 : decode bM_told 9 = .ok (.invokevirtual 110, 3) := by decide +kernel
theorem dM_told_12 : decode bM_told 12 = .ok (.ifCond .eq 12, 3) := by decide +kernel
theorem dM_told_15 : decode bM_told 15 = .ok (.iload_n 2, 1) := by decide +kernel
theorem dM_told_16 : decode bM_told 16 = .ok (.iconst 0, 1) := by decide +kernel
theorem dM_told_17 : decode bM_told 17 = .ok (.iconst 3, 1) := by decide +kernel
theorem dM_told_18 : decode bM_told 18 = .ok (.invokestatic 115, 3) := by decide +kernel
theorem dM_told_21 : decode bM_told 21 = .ok (.ifCond .ne 5, 3) := by decide +kernel
theorem dM_told_24 : decode bM_told 24 = .ok (.iconst (-1), 1) := by decide +kernel
theorem dM_told_25 : decode bM_told 25 = .ok (.ireturn, 1) := by decide +kernel
theorem dM_told_26 : decode bM_told 26 = .ok (.iload_n 2, 1) := by decide +kernel
theorem dM_told_27 : decode bM_told 27 = .ok (.iconst 3, 1) := by decide +kernel
theorem dM_told_28 : decode bM_told 28 = .ok (.if_icmp .ne 27, 3) := by decide +kernel
theorem dM_told_31 : decode bM_told 31 = .ok (.aload_n 0, 1) := by decide +kernel
theorem dM_told_32 : decode bM_told 32 = .ok (.aload_n 0, 1) := by decide +kernel
theorem dM_told_33 : decode bM_told 33 = .ok (.getfield 54, 3) := by decide +kernel
theorem dM_told_36 : decode bM_told 36 = .ok (.iload_n 1, 1) := by decide +kernel
theorem dM_told_37 : decode bM_told 37 = .ok (.aload_n 0, 1) := by decide +kernel
theorem dM_told_38 : decode bM_told 38 = .ok (.getfield 7, 3) := by decide +kernel
theorem dM_told_41 : decode bM_told 41 = .ok (.iload_n 1, 1) := by decide +kernel
theorem dM_told_42 : decode bM_told 42 = .ok (.iaload, 1) := by decide +kernel
theorem dM_told_43 : decode bM_told 43 = .ok (.aload_n 0, 1) := by decide +kernel
theorem dM_told_44 : decode bM_told 44 = .ok (.getfield 13, 3) := by decide +kernel
theorem dM_told_47 : decode bM_told 47 = .ok (.iload_n 1, 1) := by decide +kernel
theorem dM_told_48 : decode bM_told 48 = .ok (.iaload, 1) := by decide +kernel
theorem dM_told_49 : decode bM_told 49 = .ok (.invokevirtual 169, 3) := by decide +kernel
theorem dM_told_52 : decode bM_told 52 = .ok (.goto 13, 3) := by decide +kernel
theorem dM_told_55 : decode bM_told 55 = .ok (.aload_n 0, 1) := by decide +kernel
theorem dM_told_56 : decode bM_told 56 = .ok (.aload_n 0, 1) := by decide +kernel
theorem dM_told_57 : decode bM_told 57 = .ok (.getfield 54, 3) := by decide +kernel
theorem dM_told_60 : decode bM_told 60 = .ok (.iload_n 1, 1) := by decide +kernel
theorem dM_told_61 : decode bM_told 61 = .ok (.iload_n 2, 1) := by decide +kernel
theorem dM_told_62 : decode bM_told 62 = .ok (.invokevirtual 149, 3) := by decide +kernel
theorem dM_told_65 : decode bM_told 65 = .ok (.ireturn, 1) := by decide +kernel
theorem dM_cost_0 : decode bM_cost 0 = .ok (.aload_n 0, 1) := by decide +kernel
theorem dM_cost_1 : decode bM_cost 1 = .ok (.getfield 93, 3) := by decide +kernel
theorem dM_cost_4 : decode bM_cost 4 = .ok (.ifCond .eq 14, 3) := by decide +kernel
theorem dM_cost_7 : decode bM_cost 7 = .ok (.aload_n 0, 1) := by decide +kernel
theorem dM_cost_8 : decode bM_cost 8 = .ok (.aload_n 0, 1) := by decide +kernel
theorem dM_cost_9 : decode bM_cost 9 = .ok (.getfield 54, 3) := by decide +kernel
theorem dM_cost_12 : decode bM_cost 12 = .ok (.invokevirtual 173, 3) := by decide +kernel
theorem dM_cost_15 : decode bM_cost 15 = .ok (.goto 4, 3) := by decide +kernel
theorem dM_cost_18 : decode bM_cost 18 = .ok (.iconst (-1), 1) := by decide +kernel
theorem dM_cost_19 : decode bM_cost 19 = .ok (.ireturn, 1) := by decide +kernel
theorem dM_lonely_0 : decode bM_lonely 0 = .ok (.aload_n 0, 1) := by decide +kernel
theorem dM_lonely_1 : decode bM_lonely 1 = .ok (.iconst 1, 1) := by decide +kernel
theorem dM_lonely_2 : decode bM_lonely 2 = .ok (.iconst (-1), 1) := by decide +kernel
theorem dM_lonely_3 : decode bM_lonely 3 = .ok (.iconst 0, 1) := by decide +kernel
theorem dM_lonely_4 : decode bM_lonely 4 = .ok (.iconst 0, 1) := by decide +kernel
theorem dM_lonely_5 : decode bM_lonely 5 = .ok (.invokevirtual 183, 3) := by decide +kernel
theorem dM_lonely_8 : decode bM_lonely 8 = .ok (.iload_n 1, 1) := by decide +kernel
theorem dM_lonely_9 : decode bM_lonely 9 = .ok (.istore_n 2, 1) := by decide +kernel
theorem dM_lonely_10 : decode bM_lonely 10 = .ok (.iconst 0, 1) := by decide +kernel
theorem dM_lonely_11 : decode bM_lonely 11 = .ok (.istore_n 3, 1) := by decide +kernel
theorem dM_lonely_12 : decode bM_lonely 12 = .ok (.iload_n 3, 1) := by decide +kernel
theorem dM_lonely_13 : decode bM_lonely 13 = .ok (.aload_n 0, 1) := by decide +kernel
theorem dM_lonely_14 : decode bM_lonely 14 = .ok (.getfield 87, 3) := by decide +kernel
theorem dM_lonely_17 : decode bM_lonely 17 = .ok (.if_icmp .ge 38, 3) := by decide +kernel
theorem dM_lonely_20 : decode bM_lonely 20 = .ok (.iload_n 2, 1) := by decide +kernel
theorem dM_lonely_21 : decode bM_lonely 21 = .ok (.ifCond .lt 34, 3) := by decide +kernel
theorem dM_lonely_24 : decode bM_lonely 24 = .ok (.aload_n 0, 1) := by decide +kernel
theorem dM_lonely_25 : decode bM_lonely 25 = .ok (.getfield 156, 3) := by decide +kernel
theorem dM_lonely_28 : decode bM_lonely 28 = .ok (.ifCond .le 27, 3) := by decide +kernel
theorem dM_lonely_31 : decode bM_lonely 31 = .ok (.aload_n 0, 1) := by decide +kernel
theorem dM_lonely_32 : decode bM_lonely 32 = .ok (.getfield 63, 3) := by decide +kernel
theorem dM_lonely_35 : decode bM_lonely 35 = .ok (.iload_n 3, 1) := by decide +kernel
theorem dM_lonely_36 : decode bM_lonely 36 = .ok (.baload, 1) := by decide +kernel
theorem dM_lonely_37 : decode bM_lonely 37 = .ok (.ifCond .ne 12, 3) := by decide +kernel
theorem dM_lonely_40 : decode bM_lonely 40 = .ok (.iload_n 2, 1) := by decide +kernel
theorem dM_lonely_41 : decode bM_lonely 41 = .ok (.ifCond .ne 5, 3) := by decide +kernel
theorem dM_lonely_44 : decode bM_lonely 44 = .ok (.iload_n 3, 1) := by decide +kernel
theorem dM_lonely_45 : decode bM_lonely 45 = .ok (.ireturn, 1) := by decide +kernel
theorem dM_lonely_46 : decode bM_lonely 46 = .ok (.iinc 2 (-1), 3) := by decide +kernel
theorem dM_lonely_49 : decode bM_lonely 49 = .ok (.iinc 3 1, 3) := by decide +kernel
theorem dM_lonely_52 : decode bM_lonely 52 = .ok (.goto (-40), 3) := by decide +kernel
theorem dM_lonely_55 : decode bM_lonely 55 = .ok (.iconst (-1), 1) := by decide +kernel
theorem dM_lonely_56 : decode bM_lonely 56 = .ok (.ireturn, 1) := by decide +kernel
theorem dM_worth_0 : decode bM_worth 0 = .ok (.aload_n 0, 1) := by decide +kernel
theorem dM_worth_1 : decode bM_worth 1 = .ok (.iload_n 1, 1) := by decide +kernel
theorem dM_worth_2 : decode bM_worth 2 = .ok (.invokevirtual 110, 3) := by decide +kernel
theorem dM_worth_5 : decode bM_worth 5 = .ok (.ifCond .eq 14, 3) := by decide +kernel
theorem dM_worth_8 : decode bM_worth 8 = .ok (.iload_n 3, 1) := by decide +kernel
theorem dM_worth_9 : decode bM_worth 9 = .ok (.iconst 0, 1) := by decide +kernel
theorem dM_worth_10 : decode bM_worth 10 = .ok (.sipush 1000, 3) := by decide +kernel
theorem dM_worth_13 : decode bM_worth 13 = .ok (.invokestatic 115, 3) := by decide +kernel
theorem dM_worth_16 : decode bM_worth 16 = .ok (.ifCond .ne 5, 3) := by decide +kernel
theorem dM_worth_19 : decode bM_worth 19 = .ok (.iconst (-1), 1) := by decide +kernel
theorem dM_worth_20 : decode bM_worth 20 = .ok (.ireturn, 1) := by decide +kernel
theorem dM_worth_21 : decode bM_worth 21 = .ok (.aload_n 0, 1) := by decide +kernel
theorem dM_worth_22 : decode bM_worth 22 = .ok (.iconst 0, 1) := by decide +kernel
theorem dM_worth_23 : decode bM_worth 23 = .ok (.iconst (-1), 1) := by decide +kernel
theorem dM_worth_24 : decode bM_worth 24 = .ok (.iconst 0, 1) := by decide +kernel
theorem dM_worth_25 : decode bM_worth 25 = .ok (.iconst 0, 1) := by decide +kernel
theorem dM_worth_26 : decode bM_worth 26 = .ok (.invokevirtual 183, 3) := by decide +kernel
theorem dM_worth_29 : decode bM_worth 29 = .ok (.aload_n 0, 1) := by decide +kernel
theorem dM_worth_30 : decode bM_worth 30 = .ok (.getfield 153, 3) := by decide +kernel
theorem dM_worth_33 : decode bM_worth 33 = .ok (.ifCond .ne 5, 3) := by decide +kernel
theorem dM_worth_36 : decode bM_worth 36 = .ok (.iconst (-1), 1) := by decide +kernel
theorem dM_worth_37 : decode bM_worth 37 = .ok (.ireturn, 1) := by decide +kernel
theorem dM_worth_38 : decode bM_worth 38 = .ok (.aload_n 0, 1) := by decide +kernel
theorem dM_worth_39 : decode bM_worth 39 = .ok (.getfield 180, 3) := by decide +kernel
theorem dM_worth_42 : decode bM_worth 42 = .ok (.istore 4, 2) := by decide +kernel
theorem dM_worth_44 : decode bM_worth 44 = .ok (.iload_n 2, 1) := by decide +kernel
theorem dM_worth_45 : decode bM_worth 45 = .ok (.ifCond .ne 14, 3) := by decide +kernel
theorem dM_worth_48 : decode bM_worth 48 = .ok (.aload_n 0, 1) := by decide +kernel
theorem dM_worth_49 : decode bM_worth 49 = .ok (.getfield 7, 3) := by decide +kernel
theorem dM_worth_52 : decode bM_worth 52 = .ok (.iload_n 1, 1) := by decide +kernel
theorem dM_worth_53 : decode bM_worth 53 = .ok (.iaload, 1) := by decide +kernel
theorem dM_worth_54 : decode bM_worth 54 = .ok (.iload_n 3, 1) := by decide +kernel
theorem dM_worth_55 : decode bM_worth 55 = .ok (.isub, 1) := by decide +kernel
theorem dM_worth_56 : decode bM_worth 56 = .ok (.ifCond .ge 20, 3) := by decide +kernel
theorem dM_worth_59 : decode bM_worth 59 = .ok (.iload_n 2, 1) := by decide +kernel
theorem dM_worth_60 : decode bM_worth 60 = .ok (.ifCond .eq 12, 3) := by decide +kernel
theorem dM_worth_63 : decode bM_worth 63 = .ok (.aload_n 0, 1) := by decide +kernel
theorem dM_worth_64 : decode bM_worth 64 = .ok (.getfield 7, 3) := by decide +kernel
theorem dM_worth_67 : decode bM_worth 67 = .ok (.iload_n 1, 1) := by decide +kernel
theorem dM_worth_68 : decode bM_worth 68 = .ok (.iaload, 1) := by decide +kernel
theorem dM_worth_69 : decode bM_worth 69 = .ok (.goto 15, 3) := by decide +kernel
theorem dM_worth_72 : decode bM_worth 72 = .ok (.iconst 0, 1) := by decide +kernel
theorem dM_worth_73 : decode bM_worth 73 = .ok (.goto 11, 3) := by decide +kernel
theorem dM_worth_76 : decode bM_worth 76 = .ok (.aload_n 0, 1) := by decide +kernel
theorem dM_worth_77 : decode bM_worth 77 = .ok (.getfield 7, 3) := by decide +kernel
theorem dM_worth_80 : decode bM_worth 80 = .ok (.iload_n 1, 1) := by decide +kernel
theorem dM_worth_81 : decode bM_worth 81 = .ok (.iaload, 1) := by decide +kernel
theorem dM_worth_82 : decode bM_worth 82 = .ok (.iload_n 3, 1) := by decide +kernel
theorem dM_worth_83 : decode bM_worth 83 = .ok (.isub, 1) := by decide +kernel
theorem dM_worth_84 : decode bM_worth 84 = .ok (.istore 5, 2) := by decide +kernel
theorem dM_worth_86 : decode bM_worth 86 = .ok (.iload_n 2, 1) := by decide +kernel
theorem dM_worth_87 : decode bM_worth 87 = .ok (.ifCond .eq 17, 3) := by decide +kernel
theorem dM_worth_90 : decode bM_worth 90 = .ok (.aload_n 0, 1) := by decide +kernel
theorem dM_worth_91 : decode bM_worth 91 = .ok (.getfield 13, 3) := by decide +kernel
theorem dM_worth_94 : decode bM_worth 94 = .ok (.iload_n 1, 1) := by decide +kernel
theorem dM_worth_95 : decode bM_worth 95 = .ok (.iaload, 1) := by decide +kernel
theorem dM_worth_96 : decode bM_worth 96 = .ok (.iload_n 3, 1) := by decide +kernel
theorem dM_worth_97 : decode bM_worth 97 = .ok (.iadd, 1) := by decide +kernel
theorem dM_worth_98 : decode bM_worth 98 = .ok (.sipush 1000, 3) := by decide +kernel
theorem dM_worth_101 : decode bM_worth 101 = .ok (.if_icmp .le 22, 3) := by decide +kernel
theorem dM_worth_104 : decode bM_worth 104 = .ok (.iload_n 2, 1) := by decide +kernel
theorem dM_worth_105 : decode bM_worth 105 = .ok (.ifCond .eq 9, 3) := by decide +kernel
theorem dM_worth_108 : decode bM_worth 108 = .ok (.sipush 1000, 3) := by decide +kernel
theorem dM_worth_111 : decode bM_worth 111 = .ok (.goto 20, 3) := by decide +kernel
theorem dM_worth_114 : decode bM_worth 114 = .ok (.aload_n 0, 1) := by decide +kernel
theorem dM_worth_115 : decode bM_worth 115 = .ok (.getfield 13, 3) := by decide +kernel
theorem dM_worth_118 : decode bM_worth 118 = .ok (.iload_n 1, 1) := by decide +kernel
theorem dM_worth_119 : decode bM_worth 119 = .ok (.iaload, 1) := by decide +kernel
theorem dM_worth_120 : decode bM_worth 120 = .ok (.goto 11, 3) := by decide +kernel
theorem dM_worth_123 : decode bM_worth 123 = .ok (.aload_n 0, 1) := by decide +kernel
theorem dM_worth_124 : decode bM_worth 124 = .ok (.getfield 13, 3) := by decide +kernel
theorem dM_worth_127 : decode bM_worth 127 = .ok (.iload_n 1, 1) := by decide +kernel
theorem dM_worth_128 : decode bM_worth 128 = .ok (.iaload, 1) := by decide +kernel
theorem dM_worth_129 : decode bM_worth 129 = .ok (.iload_n 3, 1) := by decide +kernel
theorem dM_worth_130 : decode bM_worth 130 = .ok (.iadd, 1) := by decide +kernel
theorem dM_worth_131 : decode bM_worth 131 = .ok (.istore 6, 2) := by decide +kernel
theorem dM_worth_133 : decode bM_worth 133 = .ok (.aload_n 0, 1) := by decide +kernel
theorem dM_worth_134 : decode bM_worth 134 = .ok (.iconst 0, 1) := by decide +kernel
theorem dM_worth_135 : decode bM_worth 135 = .ok (.iload_n 1, 1) := by decide +kernel
theorem dM_worth_136 : decode bM_worth 136 = .ok (.iload 5, 2) := by decide +kernel
theorem dM_worth_138 : decode bM_worth 138 = .ok (.iload 6, 2) := by decide +kernel
theorem dM_worth_140 : decode bM_worth 140 = .ok (.invokevirtual 183, 3) := by decide +kernel
theorem dM_worth_143 : decode bM_worth 143 = .ok (.iload 4, 2) := by decide +kernel
theorem dM_worth_145 : decode bM_worth 145 = .ok (.aload_n 0, 1) := by decide +kernel
theorem dM_worth_146 : decode bM_worth 146 = .ok (.getfield 180, 3) := by decide +kernel
theorem dM_worth_149 : decode bM_worth 149 = .ok (.isub, 1) := by decide +kernel
theorem dM_worth_150 : decode bM_worth 150 = .ok (.ireturn, 1) := by decide +kernel
theorem dM_water_0 : decode bM_water 0 = .ok (.aload_n 0, 1) := by decide +kernel
theorem dM_water_1 : decode bM_water 1 = .ok (.iload_n 1, 1) := by decide +kernel
theorem dM_water_2 : decode bM_water 2 = .ok (.invokevirtual 119, 3) := by decide +kernel
theorem dM_water_5 : decode bM_water 5 = .ok (.ifCond .eq 14, 3) := by decide +kernel
theorem dM_water_8 : decode bM_water 8 = .ok (.iload_n 2, 1) := by decide +kernel
theorem dM_water_9 : decode bM_water 9 = .ok (.iconst 0, 1) := by decide +kernel
theorem dM_water_10 : decode bM_water 10 = .ok (.sipush 300, 3) := by decide +kernel
theorem dM_water_13 : decode bM_water 13 = .ok (.invokestatic 115, 3) := by decide +kernel
theorem dM_water_16 : decode bM_water 16 = .ok (.ifCond .ne 5, 3) := by decide +kernel
theorem dM_water_19 : decode bM_water 19 = .ok (.iconst (-1), 1) := by decide +kernel
theorem dM_water_20 : decode bM_water 20 = .ok (.ireturn, 1) := by decide +kernel
theorem dM_water_21 : decode bM_water 21 = .ok (.aload_n 0, 1) := by decide +kernel
theorem dM_water_22 : decode bM_water 22 = .ok (.getfield 29, 3) := by decide +kernel
theorem dM_water_25 : decode bM_water 25 = .ok (.iload_n 1, 1) := by decide +kernel
theorem dM_water_26 : decode bM_water 26 = .ok (.iaload, 1) := by decide +kernel
theorem dM_water_27 : decode bM_water 27 = .ok (.istore_n 3, 1) := by decide +kernel
theorem dM_water_28 : decode bM_water 28 = .ok (.aload_n 0, 1) := by decide +kernel
theorem dM_water_29 : decode bM_water 29 = .ok (.getfield 29, 3) := by decide +kernel
theorem dM_water_32 : decode bM_water 32 = .ok (.iload_n 1, 1) := by decide +kernel
theorem dM_water_33 : decode bM_water 33 = .ok (.iload_n 2, 1) := by decide +kernel
theorem dM_water_34 : decode bM_water 34 = .ok (.iastore, 1) := by decide +kernel
theorem dM_water_35 : decode bM_water 35 = .ok (.iload_n 3, 1) := by decide +kernel
theorem dM_water_36 : decode bM_water 36 = .ok (.ireturn, 1) := by decide +kernel
theorem dM_batch_0 : decode bM_batch 0 = .ok (.aload_n 0, 1) := by decide +kernel
theorem dM_batch_1 : decode bM_batch 1 = .ok (.getfield 93, 3) := by decide +kernel
theorem dM_batch_4 : decode bM_batch 4 = .ok (.ifCond .eq 13, 3) := by decide +kernel
theorem dM_batch_7 : decode bM_batch 7 = .ok (.iload_n 1, 1) := by decide +kernel
theorem dM_batch_8 : decode bM_batch 8 = .ok (.iconst 0, 1) := by decide +kernel
theorem dM_batch_9 : decode bM_batch 9 = .ok (.ldc 189, 2) := by decide +kernel
theorem dM_batch_11 : decode bM_batch 11 = .ok (.invokestatic 115, 3) := by decide +kernel
theorem dM_batch_14 : decode bM_batch 14 = .ok (.ifCond .ne 5, 3) := by decide +kernel
theorem dM_batch_17 : decode bM_batch 17 = .ok (.iconst (-1), 1) := by decide +kernel
theorem dM_batch_18 : decode bM_batch 18 = .ok (.ireturn, 1) := by decide +kernel
theorem dM_batch_19 : decode bM_batch 19 = .ok (.iconst 0, 1) := by decide +kernel
theorem dM_batch_20 : decode bM_batch 20 = .ok (.istore_n 2, 1) := by decide +kernel
theorem dM_batch_21 : decode bM_batch 21 = .ok (.iconst 0, 1) := by decide +kernel
theorem dM_batch_22 : decode bM_batch 22 = .ok (.istore_n 3, 1) := by decide +kernel
theorem dM_batch_23 : decode bM_batch 23 = .ok (.iconst 0, 1) := by decide +kernel
theorem dM_batch_24 : decode bM_batch 24 = .ok (.istore 4, 2) := by decide +kernel
theorem dM_batch_26 : decode bM_batch 26 = .ok (.iconst 0, 1) := by decide +kernel
theorem dM_batch_27 : decode bM_batch 27 = .ok (.istore 5, 2) := by decide +kernel
theorem dM_batch_29 : decode bM_batch 29 = .ok (.iload 5, 2) := by decide +kernel
theorem dM_batch_31 : decode bM_batch 31 = .ok (.aload_n 0, 1) := by decide +kernel
theorem dM_batch_32 : decode bM_batch 32 = .ok (.getfield 90, 3) := by decide +kernel
theorem dM_batch_35 : decode bM_batch 35 = .ok (.if_icmp .ge 93, 3) := by decide +kernel
theorem dM_batch_38 : decode bM_batch 38 = .ok (.iload_n 2, 1) := by decide +kernel
theorem dM_batch_39 : decode bM_batch 39 = .ok (.aload_n 0, 1) := by decide +kernel
theorem dM_batch_40 : decode bM_batch 40 = .ok (.getfield 54, 3) := by decide +kernel
theorem dM_batch_43 : decode bM_batch 43 = .ok (.iload 5, 2) := by decide +kernel
theorem dM_batch_45 : decode bM_batch 45 = .ok (.iaload, 1) := by decide +kernel
theorem dM_batch_46 : decode bM_batch 46 = .ok (.iadd, 1) := by decide +kernel
theorem dM_batch_47 : decode bM_batch 47 = .ok (.istore_n 2, 1) := by decide +kernel
theorem dM_batch_48 : decode bM_batch 48 = .ok (.iload_n 1, 1) := by decide +kernel
theorem dM_batch_49 : decode bM_batch 49 = .ok (.i2l, 1) := by decide +kernel
theorem dM_batch_50 : decode bM_batch 50 = .ok (.iload_n 2, 1) := by decide +kernel
theorem dM_batch_51 : decode bM_batch 51 = .ok (.i2l, 1) := by decide +kernel
theorem dM_batch_52 : decode bM_batch 52 = .ok (.lmul, 1) := by decide +kernel
theorem dM_batch_53 : decode bM_batch 53 = .ok (.ldc2_w 190, 3) := by decide +kernel
theorem dM_batch_56 : decode bM_batch 56 = .ok (.ldiv, 1) := by decide +kernel
theorem dM_batch_57 : decode bM_batch 57 = .ok (.l2i, 1) := by decide +kernel
theorem dM_batch_58 : decode bM_batch 58 = .ok (.istore 6, 2) := by decide +kernel
theorem dM_batch_60 : decode bM_batch 60 = .ok (.aload_n 0, 1) := by decide +kernel
theorem dM_batch_61 : decode bM_batch 61 = .ok (.getfield 66, 3) := by decide +kernel
theorem dM_batch_64 : decode bM_batch 64 = .ok (.iload 5, 2) := by decide +kernel
theorem dM_batch_66 : decode bM_batch 66 = .ok (.iload 6, 2) := by decide +kernel
theorem dM_batch_68 : decode bM_batch 68 = .ok (.iload_n 3, 1) := by decide +kernel
theorem dM_batch_69 : decode bM_batch 69 = .ok (.isub, 1) := by decide +kernel
theorem dM_batch_70 : decode bM_batch 70 = .ok (.iastore, 1) := by decide +kernel
theorem dM_batch_71 : decode bM_batch 71 = .ok (.iload 6, 2) := by decide +kernel
theorem dM_batch_73 : decode bM_batch 73 = .ok (.istore_n 3, 1) := by decide +kernel
theorem dM_batch_74 : decode bM_batch 74 = .ok (.aload_n 0, 1) := by decide +kernel
theorem dM_batch_75 : decode bM_batch 75 = .ok (.getfield 66, 3) := by decide +kernel
theorem dM_batch_78 : decode bM_batch 78 = .ok (.iload 5, 2) := by decide +kernel
theorem dM_batch_80 : decode bM_batch 80 = .ok (.iaload, 1) := by decide +kernel
theorem dM_batch_81 : decode bM_batch 81 = .ok (.i2l, 1) := by decide +kernel
theorem dM_batch_82 : decode bM_batch 82 = .ok (.aload_n 0, 1) := by decide +kernel
theorem dM_batch_83 : decode bM_batch 83 = .ok (.getfield 29, 3) := by decide +kernel
theorem dM_batch_86 : decode bM_batch 86 = .ok (.iload 5, 2) := by decide +kernel
theorem dM_batch_88 : decode bM_batch 88 = .ok (.iaload, 1) := by decide +kernel
theorem dM_batch_89 : decode bM_batch 89 = .ok (.i2l, 1) := by decide +kernel
theorem dM_batch_90 : decode bM_batch 90 = .ok (.lmul, 1) := by decide +kernel
theorem dM_batch_91 : decode bM_batch 91 = .ok (.ldc2_w 192, 3) := by decide +kernel
theorem dM_batch_94 : decode bM_batch 94 = .ok (.ldiv, 1) := by decide +kernel
theorem dM_batch_95 : decode bM_batch 95 = .ok (.l2i, 1) := by decide +kernel
theorem dM_batch_96 : decode bM_batch 96 = .ok (.istore 7, 2) := by decide +kernel
theorem dM_batch_98 : decode bM_batch 98 = .ok (.aload_n 0, 1) := by decide +kernel
theorem dM_batch_99 : decode bM_batch 99 = .ok (.getfield 69, 3) := by decide +kernel
theorem dM_batch_102 : decode bM_batch 102 = .ok (.iload 5, 2) := by decide +kernel
theorem dM_batch_104 : decode bM_batch 104 = .ok (.aload_n 0, 1) := by decide +kernel
theorem dM_batch_105 : decode bM_batch 105 = .ok (.getfield 66, 3) := by decide +kernel
theorem dM_batch_108 : decode bM_batch 108 = .ok (.iload 5, 2) := by decide +kernel
theorem dM_batch_110 : decode bM_batch 110 = .ok (.iaload, 1) := by decide +kernel
theorem dM_batch_111 : decode bM_batch 111 = .ok (.iload 7, 2) := by decide +kernel
theorem dM_batch_113 : decode bM_batch 113 = .ok (.iadd, 1) := by decide +kernel
theorem dM_batch_114 : decode bM_batch 114 = .ok (.iastore, 1) := by decide +kernel
theorem dM_batch_115 : decode bM_batch 115 = .ok (.iload 4, 2) := by decide +kernel
theorem dM_batch_117 : decode bM_batch 117 = .ok (.iload 7, 2) := by decide +kernel
theorem dM_batch_119 : decode bM_batch 119 = .ok (.iadd, 1) := by decide +kernel
theorem dM_batch_120 : decode bM_batch 120 = .ok (.istore 4, 2) := by decide +kernel
theorem dM_batch_122 : decode bM_batch 122 = .ok (.iinc 5 1, 3) := by decide +kernel
theorem dM_batch_125 : decode bM_batch 125 = .ok (.goto (-96), 3) := by decide +kernel
theorem dM_batch_128 : decode bM_batch 128 = .ok (.aload_n 0, 1) := by decide +kernel
theorem dM_batch_129 : decode bM_batch 129 = .ok (.iconst 1, 1) := by decide +kernel
theorem dM_batch_130 : decode bM_batch 130 = .ok (.putfield 97, 3) := by decide +kernel
theorem dM_batch_133 : decode bM_batch 133 = .ok (.iload 4, 2) := by decide +kernel
theorem dM_batch_135 : decode bM_batch 135 = .ok (.ireturn, 1) := by decide +kernel
theorem dM_mass_0 : decode bM_mass 0 = .ok (.aload_n 0, 1) := by decide +kernel
theorem dM_mass_1 : decode bM_mass 1 = .ok (.getfield 97, 3) := by decide +kernel
theorem dM_mass_4 : decode bM_mass 4 = .ok (.ifCond .eq 33, 3) := by decide +kernel
theorem dM_mass_7 : decode bM_mass 7 = .ok (.aload_n 0, 1) := by decide +kernel
theorem dM_mass_8 : decode bM_mass 8 = .ok (.iload_n 1, 1) := by decide +kernel
theorem dM_mass_9 : decode bM_mass 9 = .ok (.invokevirtual 119, 3) := by decide +kernel
theorem dM_mass_12 : decode bM_mass 12 = .ok (.ifCond .eq 25, 3) := by decide +kernel
theorem dM_mass_15 : decode bM_mass 15 = .ok (.iload_n 2, 1) := by decide +kernel
theorem dM_mass_16 : decode bM_mass 16 = .ok (.ifCond .eq 12, 3) := by decide +kernel
theorem dM_mass_19 : decode bM_mass 19 = .ok (.aload_n 0, 1) := by decide +kernel
theorem dM_mass_20 : decode bM_mass 20 = .ok (.getfield 69, 3) := by decide +kernel
theorem dM_mass_23 : decode bM_mass 23 = .ok (.iload_n 1, 1) := by decide +kernel
theorem dM_mass_24 : decode bM_mass 24 = .ok (.iaload, 1) := by decide +kernel
theorem dM_mass_25 : decode bM_mass 25 = .ok (.goto 13, 3) := by decide +kernel
theorem dM_mass_28 : decode bM_mass 28 = .ok (.aload_n 0, 1) := by decide +kernel
theorem dM_mass_29 : decode bM_mass 29 = .ok (.getfield 66, 3) := by decide +kernel
theorem dM_mass_32 : decode bM_mass 32 = .ok (.iload_n 1, 1) := by decide +kernel
theorem dM_mass_33 : decode bM_mass 33 = .ok (.iaload, 1) := by decide +kernel
theorem dM_mass_34 : decode bM_mass 34 = .ok (.goto 4, 3) := by decide +kernel
theorem dM_mass_37 : decode bM_mass 37 = .ok (.iconst (-1), 1) := by decide +kernel
theorem dM_mass_38 : decode bM_mass 38 = .ok (.ireturn, 1) := by decide +kernel
theorem dM_limit_0 : decode bM_limit 0 = .ok (.iload_n 1, 1) := by decide +kernel
theorem dM_limit_1 : decode bM_limit 1 = .ok (.iconst 1, 1) := by decide +kernel
theorem dM_limit_2 : decode bM_limit 2 = .ok (.sipush 1000, 3) := by decide +kernel
theorem dM_limit_5 : decode bM_limit 5 = .ok (.invokestatic 115, 3) := by decide +kernel
theorem dM_limit_8 : decode bM_limit 8 = .ok (.ifCond .ne 5, 3) := by decide +kernel
theorem dM_limit_11 : decode bM_limit 11 = .ok (.iconst (-1), 1) := by decide +kernel
theorem dM_limit_12 : decode bM_limit 12 = .ok (.ireturn, 1) := by decide +kernel
theorem dM_limit_13 : decode bM_limit 13 = .ok (.aload_n 0, 1) := by decide +kernel
theorem dM_limit_14 : decode bM_limit 14 = .ok (.getfield 72, 3) := by decide +kernel
theorem dM_limit_17 : decode bM_limit 17 = .ok (.istore_n 2, 1) := by decide +kernel
theorem dM_limit_18 : decode bM_limit 18 = .ok (.aload_n 0, 1) := by decide +kernel
theorem dM_limit_19 : decode bM_limit 19 = .ok (.iload_n 1, 1) := by decide +kernel
theorem dM_limit_20 : decode bM_limit 20 = .ok (.putfield 72, 3) := by decide +kernel
theorem dM_limit_23 : decode bM_limit 23 = .ok (.iload_n 2, 1) := by decide +kernel
theorem dM_limit_24 : decode bM_limit 24 = .ok (.ireturn, 1) := by decide +kernel
theorem dM_driftsOff_0 : decode bM_driftsOff 0 = .ok (.aload_n 0, 1) := by decide +kernel
theorem dM_driftsOff_1 : decode bM_driftsOff 1 = .ok (.aload_n 0, 1) := by decide +kernel
theorem dM_driftsOff_2 : decode bM_driftsOff 2 = .ok (.getfield 54, 3) := by decide +kernel
theorem dM_driftsOff_5 : decode bM_driftsOff 5 = .ok (.iload_n 1, 1) := by decide +kernel
theorem dM_driftsOff_6 : decode bM_driftsOff 6 = .ok (.iconst 0, 1) := by decide +kernel
theorem dM_driftsOff_7 : decode bM_driftsOff 7 = .ok (.invokevirtual 149, 3) := by decide +kernel
theorem dM_driftsOff_10 : decode bM_driftsOff 10 = .ok (.bipush 100, 2) := by decide +kernel
theorem dM_driftsOff_12 : decode bM_driftsOff 12 = .ok (.idiv, 1) := by decide +kernel
theorem dM_driftsOff_13 : decode bM_driftsOff 13 = .ok (.istore_n 2, 1) := by decide +kernel
theorem dM_driftsOff_14 : decode bM_driftsOff 14 = .ok (.iconst 0, 1) := by decide +kernel
theorem dM_driftsOff_15 : decode bM_driftsOff 15 = .ok (.istore_n 3, 1) := by decide +kernel
theorem dM_driftsOff_16 : decode bM_driftsOff 16 = .ok (.iconst 0, 1) := by decide +kernel
theorem dM_driftsOff_17 : decode bM_driftsOff 17 = .ok (.istore 4, 2) := by decide +kernel
theorem dM_driftsOff_19 : decode bM_driftsOff 19 = .ok (.iconst 0, 1) := by decide +kernel
theorem dM_driftsOff_20 : decode bM_driftsOff 20 = .ok (.istore 5, 2) := by decide +kernel
theorem dM_driftsOff_22 : decode bM_driftsOff 22 = .ok (.aload_n 0, 1) := by decide +kernel
theorem dM_driftsOff_23 : decode bM_driftsOff 23 = .ok (.getfield 100, 3) := by decide +kernel
theorem dM_driftsOff_26 : decode bM_driftsOff 26 = .ok (.iconst 1, 1) := by decide +kernel
theorem dM_driftsOff_27 : decode bM_driftsOff 27 = .ok (.isub, 1) := by decide +kernel
theorem dM_driftsOff_28 : decode bM_driftsOff 28 = .ok (.istore 6, 2) := by decide +kernel
theorem dM_driftsOff_30 : decode bM_driftsOff 30 = .ok (.iload 6, 2) := by decide +kernel
theorem dM_driftsOff_32 : decode bM_driftsOff 32 = .ok (.ifCond .lt 76, 3) := by decide +kernel
theorem dM_driftsOff_35 : decode bM_driftsOff 35 = .ok (.iload_n 3, 1) := by decide +kernel
theorem dM_driftsOff_36 : decode bM_driftsOff 36 = .ok (.iconst 5, 1) := by decide +kernel
theorem dM_driftsOff_37 : decode bM_driftsOff 37 = .ok (.if_icmp .ge 71, 3) := by decide +kernel
theorem dM_driftsOff_40 : decode bM_driftsOff 40 = .ok (.aload_n 0, 1) := by decide +kernel
theorem dM_driftsOff_41 : decode bM_driftsOff 41 = .ok (.getfield 75, 3) := by decide +kernel
theorem dM_driftsOff_44 : decode bM_driftsOff 44 = .ok (.iload 6, 2) := by decide +kernel
theorem dM_driftsOff_46 : decode bM_driftsOff 46 = .ok (.iaload, 1) := by decide +kernel
theorem dM_driftsOff_47 : decode bM_driftsOff 47 = .ok (.iload_n 1, 1) := by decide +kernel
theorem dM_driftsOff_48 : decode bM_driftsOff 48 = .ok (.if_icmp .ne 54, 3) := by decide +kernel
theorem dM_driftsOff_51 : decode bM_driftsOff 51 = .ok (.iinc 3 1, 3) := by decide +kernel
theorem dM_driftsOff_54 : decode bM_driftsOff 54 = .ok (.iload 4, 2) := by decide +kernel
theorem dM_driftsOff_56 : decode bM_driftsOff 56 = .ok (.aload_n 0, 1) := by decide +kernel
theorem dM_driftsOff_57 : decode bM_driftsOff 57 = .ok (.getfield 78, 3) := by decide +kernel
theorem dM_driftsOff_60 : decode bM_driftsOff 60 = .ok (.iload 6, 2) := by decide +kernel
theorem dM_driftsOff_62 : decode bM_driftsOff 62 = .ok (.iaload, 1) := by decide +kernel
theorem dM_driftsOff_63 : decode bM_driftsOff 63 = .ok (.iload_n 2, 1) := by decide +kernel
theorem dM_driftsOff_64 : decode bM_driftsOff 64 = .ok (.bipush 10, 2) := by decide +kernel
theorem dM_driftsOff_66 : decode bM_driftsOff 66 = .ok (.iadd, 1) := by decide +kernel
theorem dM_driftsOff_67 : decode bM_driftsOff 67 = .ok (.if_icmp .le 7, 3) := by decide +kernel
theorem dM_driftsOff_70 : decode bM_driftsOff 70 = .ok (.iconst 1, 1) := by decide +kernel
theorem dM_driftsOff_71 : decode bM_driftsOff 71 = .ok (.goto 4, 3) := by decide +kernel
theorem dM_driftsOff_74 : decode bM_driftsOff 74 = .ok (.iconst 0, 1) := by decide +kernel
theorem dM_driftsOff_75 : decode bM_driftsOff 75 = .ok (.iadd, 1) := by decide +kernel
theorem dM_driftsOff_76 : decode bM_driftsOff 76 = .ok (.istore 4, 2) := by decide +kernel
theorem dM_driftsOff_78 : decode bM_driftsOff 78 = .ok (.iload 5, 2) := by decide +kernel
theorem dM_driftsOff_80 : decode bM_driftsOff 80 = .ok (.aload_n 0, 1) := by decide +kernel
theorem dM_driftsOff_81 : decode bM_driftsOff 81 = .ok (.getfield 78, 3) := by decide +kernel
theorem dM_driftsOff_84 : decode bM_driftsOff 84 = .ok (.iload 6, 2) := by decide +kernel
theorem dM_driftsOff_86 : decode bM_driftsOff 86 = .ok (.iaload, 1) := by decide +kernel
theorem dM_driftsOff_87 : decode bM_driftsOff 87 = .ok (.iload_n 2, 1) := by decide +kernel
theorem dM_driftsOff_88 : decode bM_driftsOff 88 = .ok (.bipush 10, 2) := by decide +kernel
theorem dM_driftsOff_90 : decode bM_driftsOff 90 = .ok (.isub, 1) := by decide +kernel
theorem dM_driftsOff_91 : decode bM_driftsOff 91 = .ok (.if_icmp .ge 7, 3) := by decide +kernel
theorem dM_driftsOff_94 : decode bM_driftsOff 94 = .ok (.iconst 1, 1) := by decide +kernel
theorem dM_driftsOff_95 : decode bM_driftsOff 95 = .ok (.goto 4, 3) := by decide +kernel
theorem dM_driftsOff_98 : decode bM_driftsOff 98 = .ok (.iconst 0, 1) := by decide +kernel
theorem dM_driftsOff_99 : decode bM_driftsOff 99 = .ok (.iadd, 1) := by decide +kernel
theorem dM_driftsOff_100 : decode bM_driftsOff 100 = .ok (.istore 5, 2) := by decide +kernel
theorem dM_driftsOff_102 : decode bM_driftsOff 102 = .ok (.iinc 6 (-1), 3) := by decide +kernel
theorem dM_driftsOff_105 : decode bM_driftsOff 105 = .ok (.goto (-75), 3) := by decide +kernel
theorem dM_driftsOff_108 : decode bM_driftsOff 108 = .ok (.iload 4, 2) := by decide +kernel
theorem dM_driftsOff_110 : decode bM_driftsOff 110 = .ok (.iconst 5, 1) := by decide +kernel
theorem dM_driftsOff_111 : decode bM_driftsOff 111 = .ok (.if_icmp .eq 9, 3) := by decide +kernel
theorem dM_driftsOff_114 : decode bM_driftsOff 114 = .ok (.iload 5, 2) := by decide +kernel
theorem dM_driftsOff_116 : decode bM_driftsOff 116 = .ok (.iconst 5, 1) := by decide +kernel
theorem dM_driftsOff_117 : decode bM_driftsOff 117 = .ok (.if_icmp .ne 7, 3) := by decide +kernel
theorem dM_driftsOff_120 : decode bM_driftsOff 120 = .ok (.iconst 1, 1) := by decide +kernel
theorem dM_driftsOff_121 : decode bM_driftsOff 121 = .ok (.goto 4, 3) := by decide +kernel
theorem dM_driftsOff_124 : decode bM_driftsOff 124 = .ok (.iconst 0, 1) := by decide +kernel
theorem dM_driftsOff_125 : decode bM_driftsOff 125 = .ok (.ireturn, 1) := by decide +kernel
theorem dM_test_0 : decode bM_test 0 = .ok (.aload_n 0, 1) := by decide +kernel
theorem dM_test_1 : decode bM_test 1 = .ok (.iload_n 1, 1) := by decide +kernel
theorem dM_test_2 : decode bM_test 2 = .ok (.invokevirtual 110, 3) := by decide +kernel
theorem dM_test_5 : decode bM_test 5 = .ok (.ifCond .eq 23, 3) := by decide +kernel
theorem dM_test_8 : decode bM_test 8 = .ok (.iload_n 2, 1) := by decide +kernel
theorem dM_test_9 : decode bM_test 9 = .ok (.iconst 0, 1) := by decide +kernel
theorem dM_test_10 : decode bM_test 10 = .ok (.sipush 1000, 3) := by decide +kernel
theorem dM_test_13 : decode bM_test 13 = .ok (.invokestatic 115, 3) := by decide +kernel
theorem dM_test_16 : decode bM_test 16 = .ok (.ifCond .eq 12, 3) := by decide +kernel
theorem dM_test_19 : decode bM_test 19 = .ok (.aload_n 0, 1) := by decide +kernel
theorem dM_test_20 : decode bM_test 20 = .ok (.getfield 100, 3) := by decide +kernel
theorem dM_test_23 : decode bM_test 23 = .ok (.bipush 100, 2) := by decide +kernel
theorem dM_test_25 : decode bM_test 25 = .ok (.if_icmp .ne 5, 3) := by decide +kernel
theorem dM_test_28 : decode bM_test 28 = .ok (.iconst (-1), 1) := by decide +kernel
theorem dM_test_29 : decode bM_test 29 = .ok (.ireturn, 1) := by decide +kernel
theorem dM_test_30 : decode bM_test 30 = .ok (.iconst 0, 1) := by decide +kernel
theorem dM_test_31 : decode bM_test 31 = .ok (.istore_n 3, 1) := by decide +kernel
theorem dM_test_32 : decode bM_test 32 = .ok (.iload_n 2, 1) := by decide +kernel
theorem dM_test_33 : decode bM_test 33 = .ok (.istore 4, 2) := by decide +kernel
theorem dM_test_35 : decode bM_test 35 = .ok (.iconst 0, 1) := by decide +kernel
theorem dM_test_36 : decode bM_test 36 = .ok (.istore 5, 2) := by decide +kernel
theorem dM_test_38 : decode bM_test 38 = .ok (.iload 5, 2) := by decide +kernel
theorem dM_test_40 : decode bM_test 40 = .ok (.aload_n 0, 1) := by decide +kernel
theorem dM_test_41 : decode bM_test 41 = .ok (.getfield 100, 3) := by decide +kernel
theorem dM_test_44 : decode bM_test 44 = .ok (.if_icmp .ge 32, 3) := by decide +kernel
theorem dM_test_47 : decode bM_test 47 = .ok (.aload_n 0, 1) := by decide +kernel
theorem dM_test_48 : decode bM_test 48 = .ok (.getfield 75, 3) := by decide +kernel
theorem dM_test_51 : decode bM_test 51 = .ok (.iload 5, 2) := by decide +kernel
theorem dM_test_53 : decode bM_test 53 = .ok (.iaload, 1) := by decide +kernel
theorem dM_test_54 : decode bM_test 54 = .ok (.iload_n 1, 1) := by decide +kernel
theorem dM_test_55 : decode bM_test 55 = .ok (.if_icmp .ne 15, 3) := by decide +kernel
theorem dM_test_58 : decode bM_test 58 = .ok (.iinc 3 1, 3) := by decide +kernel
theorem dM_test_61 : decode bM_test 61 = .ok (.aload_n 0, 1) := by decide +kernel
theorem dM_test_62 : decode bM_test 62 = .ok (.getfield 78, 3) := by decide +kernel
theorem dM_test_65 : decode bM_test 65 = .ok (.iload 5, 2) := by decide +kernel
theorem dM_test_67 : decode bM_test 67 = .ok (.iaload, 1) := by decide +kernel
theorem dM_test_68 : decode bM_test 68 = .ok (.istore 4, 2) := by decide +kernel
theorem dM_test_70 : decode bM_test 70 = .ok (.iinc 5 1, 3) := by decide +kernel
theorem dM_test_73 : decode bM_test 73 = .ok (.goto (-35), 3) := by decide +kernel
theorem dM_test_76 : decode bM_test 76 = .ok (.aload_n 0, 1) := by decide +kernel
theorem dM_test_77 : decode bM_test 77 = .ok (.getfield 75, 3) := by decide +kernel
theorem dM_test_80 : decode bM_test 80 = .ok (.aload_n 0, 1) := by decide +kernel
theorem dM_test_81 : decode bM_test 81 = .ok (.getfield 100, 3) := by decide +kernel
theorem dM_test_84 : decode bM_test 84 = .ok (.iload_n 1, 1) := by decide +kernel
theorem dM_test_85 : decode bM_test 85 = .ok (.iastore, 1) := by decide +kernel
theorem dM_test_86 : decode bM_test 86 = .ok (.aload_n 0, 1) := by decide +kernel
theorem dM_test_87 : decode bM_test 87 = .ok (.getfield 78, 3) := by decide +kernel
theorem dM_test_90 : decode bM_test 90 = .ok (.aload_n 0, 1) := by decide +kernel
theorem dM_test_91 : decode bM_test 91 = .ok (.getfield 100, 3) := by decide +kernel
theorem dM_test_94 : decode bM_test 94 = .ok (.iload_n 2, 1) := by decide +kernel
theorem dM_test_95 : decode bM_test 95 = .ok (.iastore, 1) := by decide +kernel
theorem dM_test_96 : decode bM_test 96 = .ok (.aload_n 0, 1) := by decide +kernel
theorem dM_test_97 : decode bM_test 97 = .ok (.getfield 81, 3) := by decide +kernel
theorem dM_test_100 : decode bM_test 100 = .ok (.aload_n 0, 1) := by decide +kernel
theorem dM_test_101 : decode bM_test 101 = .ok (.getfield 100, 3) := by decide +kernel
theorem dM_test_104 : decode bM_test 104 = .ok (.iload_n 3, 1) := by decide +kernel
theorem dM_test_105 : decode bM_test 105 = .ok (.iastore, 1) := by decide +kernel
theorem dM_test_106 : decode bM_test 106 = .ok (.aload_n 0, 1) := by decide +kernel
theorem dM_test_107 : decode bM_test 107 = .ok (.dup, 1) := by decide +kernel
theorem dM_test_108 : decode bM_test 108 = .ok (.getfield 100, 3) := by decide +kernel
theorem dM_test_111 : decode bM_test 111 = .ok (.iconst 1, 1) := by decide +kernel
theorem dM_test_112 : decode bM_test 112 = .ok (.iadd, 1) := by decide +kernel
theorem dM_test_113 : decode bM_test 113 = .ok (.putfield 100, 3) := by decide +kernel
theorem dM_test_116 : decode bM_test 116 = .ok (.iload_n 2, 1) := by decide +kernel
theorem dM_test_117 : decode bM_test 117 = .ok (.iload 4, 2) := by decide +kernel
theorem dM_test_119 : decode bM_test 119 = .ok (.if_icmp .le 10, 3) := by decide +kernel
theorem dM_test_122 : decode bM_test 122 = .ok (.iload_n 2, 1) := by decide +kernel
theorem dM_test_123 : decode bM_test 123 = .ok (.iload 4, 2) := by decide +kernel
theorem dM_test_125 : decode bM_test 125 = .ok (.isub, 1) := by decide +kernel
theorem dM_test_126 : decode bM_test 126 = .ok (.goto 7, 3) := by decide +kernel
theorem dM_test_129 : decode bM_test 129 = .ok (.iload 4, 2) := by decide +kernel
theorem dM_test_131 : decode bM_test 131 = .ok (.iload_n 2, 1) := by decide +kernel
theorem dM_test_132 : decode bM_test 132 = .ok (.isub, 1) := by decide +kernel
theorem dM_test_133 : decode bM_test 133 = .ok (.istore 5, 2) := by decide +kernel
theorem dM_test_135 : decode bM_test 135 = .ok (.iload_n 2, 1) := by decide +kernel
theorem dM_test_136 : decode bM_test 136 = .ok (.aload_n 0, 1) := by decide +kernel
theorem dM_test_137 : decode bM_test 137 = .ok (.getfield 7, 3) := by decide +kernel
theorem dM_test_140 : decode bM_test 140 = .ok (.iload_n 1, 1) := by decide +kernel
theorem dM_test_141 : decode bM_test 141 = .ok (.iaload, 1) := by decide +kernel
theorem dM_test_142 : decode bM_test 142 = .ok (.if_icmp .lt 13, 3) := by decide +kernel
theorem dM_test_145 : decode bM_test 145 = .ok (.iload_n 2, 1) := by decide +kernel
theorem dM_test_146 : decode bM_test 146 = .ok (.aload_n 0, 1) := by decide +kernel
theorem dM_test_147 : decode bM_test 147 = .ok (.getfield 13, 3) := by decide +kernel
theorem dM_test_150 : decode bM_test 150 = .ok (.iload_n 1, 1) := by decide +kernel
theorem dM_test_151 : decode bM_test 151 = .ok (.iaload, 1) := by decide +kernel
theorem dM_test_152 : decode bM_test 152 = .ok (.if_icmp .le 7, 3) := by decide +kernel
theorem dM_test_155 : decode bM_test 155 = .ok (.iconst 1, 1) := by decide +kernel
theorem dM_test_156 : decode bM_test 156 = .ok (.goto 36, 3) := by decide +kernel
theorem dM_test_159 : decode bM_test 159 = .ok (.aload_n 0, 1) := by decide +kernel
theorem dM_test_160 : decode bM_test 160 = .ok (.getfield 93, 3) := by decide +kernel
theorem dM_test_163 : decode bM_test 163 = .ok (.ifCond .eq 15, 3) := by decide +kernel
theorem dM_test_166 : decode bM_test 166 = .ok (.aload_n 0, 1) := by decide +kernel
theorem dM_test_167 : decode bM_test 167 = .ok (.iload_n 1, 1) := by decide +kernel
theorem dM_test_168 : decode bM_test 168 = .ok (.invokevirtual 194, 3) := by decide +kernel
theorem dM_test_171 : decode bM_test 171 = .ok (.ifCond .eq 7, 3) := by decide +kernel
theorem dM_test_174 : decode bM_test 174 = .ok (.iconst 2, 1) := by decide +kernel
theorem dM_test_175 : decode bM_test 175 = .ok (.goto 17, 3) := by decide +kernel
theorem dM_test_178 : decode bM_test 178 = .ok (.iload 5, 2) := by decide +kernel
theorem dM_test_180 : decode bM_test 180 = .ok (.aload_n 0, 1) := by decide +kernel
theorem dM_test_181 : decode bM_test 181 = .ok (.getfield 72, 3) := by decide +kernel
theorem dM_test_184 : decode bM_test 184 = .ok (.if_icmp .le 7, 3) := by decide +kernel
theorem dM_test_187 : decode bM_test 187 = .ok (.iconst 3, 1) := by decide +kernel
theorem dM_test_188 : decode bM_test 188 = .ok (.goto 4, 3) := by decide +kernel
theorem dM_test_191 : decode bM_test 191 = .ok (.iconst 0, 1) := by decide +kernel
theorem dM_test_192 : decode bM_test 192 = .ok (.istore 6, 2) := by decide +kernel
theorem dM_test_194 : decode bM_test 194 = .ok (.aload_n 0, 1) := by decide +kernel
theorem dM_test_195 : decode bM_test 195 = .ok (.getfield 84, 3) := by decide +kernel
theorem dM_test_198 : decode bM_test 198 = .ok (.aload_n 0, 1) := by decide +kernel
theorem dM_test_199 : decode bM_test 199 = .ok (.getfield 100, 3) := by decide +kernel
theorem dM_test_202 : decode bM_test 202 = .ok (.iconst 1, 1) := by decide +kernel
theorem dM_test_203 : decode bM_test 203 = .ok (.isub, 1) := by decide +kernel
theorem dM_test_204 : decode bM_test 204 = .ok (.iload 6, 2) := by decide +kernel
theorem dM_test_206 : decode bM_test 206 = .ok (.iastore, 1) := by decide +kernel
theorem dM_test_207 : decode bM_test 207 = .ok (.iload 6, 2) := by decide +kernel
theorem dM_test_209 : decode bM_test 209 = .ok (.ireturn, 1) := by decide +kernel
theorem dM_fired_0 : decode bM_fired 0 = .ok (.iload_n 2, 1) := by decide +kernel
theorem dM_fired_1 : decode bM_fired 1 = .ok (.iconst 0, 1) := by decide +kernel
theorem dM_fired_2 : decode bM_fired 2 = .ok (.iconst 2, 1) := by decide +kernel
theorem dM_fired_3 : decode bM_fired 3 = .ok (.invokestatic 115, 3) := by decide +kernel
theorem dM_fired_6 : decode bM_fired 6 = .ok (.ifCond .ne 5, 3) := by decide +kernel
theorem dM_fired_9 : decode bM_fired 9 = .ok (.iconst (-1), 1) := by decide +kernel
theorem dM_fired_10 : decode bM_fired 10 = .ok (.ireturn, 1) := by decide +kernel
theorem dM_fired_11 : decode bM_fired 11 = .ok (.iload_n 1, 1) := by decide +kernel
theorem dM_fired_12 : decode bM_fired 12 = .ok (.istore_n 3, 1) := by decide +kernel
theorem dM_fired_13 : decode bM_fired 13 = .ok (.iconst 0, 1) := by decide +kernel
theorem dM_fired_14 : decode bM_fired 14 = .ok (.istore 4, 2) := by decide +kernel
theorem dM_fired_16 : decode bM_fired 16 = .ok (.iload 4, 2) := by decide +kernel
theorem dM_fired_18 : decode bM_fired 18 = .ok (.aload_n 0, 1) := by decide +kernel
theorem dM_fired_19 : decode bM_fired 19 = .ok (.getfield 100, 3) := by decide +kernel
theorem dM_fired_22 : decode bM_fired 22 = .ok (.if_icmp .ge 67, 3) := by decide +kernel
theorem dM_fired_25 : decode bM_fired 25 = .ok (.iload_n 3, 1) := by decide +kernel
theorem dM_fired_26 : decode bM_fired 26 = .ok (.ifCond .lt 63, 3) := by decide +kernel
theorem dM_fired_29 : decode bM_fired 29 = .ok (.aload_n 0, 1) := by decide +kernel
theorem dM_fired_30 : decode bM_fired 30 = .ok (.getfield 84, 3) := by decide +kernel
theorem dM_fired_33 : decode bM_fired 33 = .ok (.iload 4, 2) := by decide +kernel
theorem dM_fired_35 : decode bM_fired 35 = .ok (.iaload, 1) := by decide +kernel
theorem dM_fired_36 : decode bM_fired 36 = .ok (.ifCond .le 47, 3) := by decide +kernel
theorem dM_fired_39 : decode bM_fired 39 = .ok (.iload_n 3, 1) := by decide +kernel
theorem dM_fired_40 : decode bM_fired 40 = .ok (.ifCond .ne 40, 3) := by decide +kernel
theorem dM_fired_43 : decode bM_fired 43 = .ok (.iload_n 2, 1) := by decide +kernel
theorem dM_fired_44 : decode bM_fired 44 = .ok (.ifCond .ne 13, 3) := by decide +kernel
theorem dM_fired_47 : decode bM_fired 47 = .ok (.aload_n 0, 1) := by decide +kernel
theorem dM_fired_48 : decode bM_fired 48 = .ok (.getfield 75, 3) := by decide +kernel
theorem dM_fired_51 : decode bM_fired 51 = .ok (.iload 4, 2) := by decide +kernel
theorem dM_fired_53 : decode bM_fired 53 = .ok (.iaload, 1) := by decide +kernel
theorem dM_fired_54 : decode bM_fired 54 = .ok (.goto 25, 3) := by decide +kernel
theorem dM_fired_57 : decode bM_fired 57 = .ok (.iload_n 2, 1) := by decide +kernel
theorem dM_fired_58 : decode bM_fired 58 = .ok (.iconst 1, 1) := by decide +kernel
theorem dM_fired_59 : decode bM_fired 59 = .ok (.if_icmp .ne 13, 3) := by decide +kernel
theorem dM_fired_62 : decode bM_fired 62 = .ok (.aload_n 0, 1) := by decide +kernel
theorem dM_fired_63 : decode bM_fired 63 = .ok (.getfield 81, 3) := by decide +kernel
theorem dM_fired_66 : decode bM_fired 66 = .ok (.iload 4, 2) := by decide +kernel
theorem dM_fired_68 : decode bM_fired 68 = .ok (.iaload, 1) := by decide +kernel
theorem dM_fired_69 : decode bM_fired 69 = .ok (.goto 10, 3) := by decide +kernel
theorem dM_fired_72 : decode bM_fired 72 = .ok (.aload_n 0, 1) := by decide +kernel
theorem dM_fired_73 : decode bM_fired 73 = .ok (.getfield 84, 3) := by decide +kernel
theorem dM_fired_76 : decode bM_fired 76 = .ok (.iload 4, 2) := by decide +kernel
theorem dM_fired_78 : decode bM_fired 78 = .ok (.iaload, 1) := by decide +kernel
theorem dM_fired_79 : decode bM_fired 79 = .ok (.ireturn, 1) := by decide +kernel
theorem dM_fired_80 : decode bM_fired 80 = .ok (.iinc 3 (-1), 3) := by decide +kernel
theorem dM_fired_83 : decode bM_fired 83 = .ok (.iinc 4 1, 3) := by decide +kernel
theorem dM_fired_86 : decode bM_fired 86 = .ok (.goto (-70), 3) := by decide +kernel
theorem dM_fired_89 : decode bM_fired 89 = .ok (.iconst (-1), 1) := by decide +kernel
theorem dM_fired_90 : decode bM_fired 90 = .ok (.ireturn, 1) := by decide +kernel
theorem dM_count_0 : decode bM_count 0 = .ok (.iconst 0, 1) := by decide +kernel
theorem dM_count_1 : decode bM_count 1 = .ok (.istore_n 2, 1) := by decide +kernel
theorem dM_count_2 : decode bM_count 2 = .ok (.iload_n 1, 1) := by decide +kernel
theorem dM_count_3 : decode bM_count 3 = .ok (.tableswitch 113 0 5 #[37, 42, 47, 52, 87, 100], 37) := by decide +kernel
theorem dM_count_40 : decode bM_count 40 = .ok (.aload_n 0, 1) := by decide +kernel
theorem dM_count_41 : decode bM_count 41 = .ok (.getfield 87, 3) := by decide +kernel
theorem dM_count_44 : decode bM_count 44 = .ok (.ireturn, 1) := by decide +kernel
theorem dM_count_45 : decode bM_count 45 = .ok (.aload_n 0, 1) := by decide +kernel
theorem dM_count_46 : decode bM_count 46 = .ok (.getfield 90, 3) := by decide +kernel
theorem dM_count_49 : decode bM_count 49 = .ok (.ireturn, 1) := by decide +kernel
theorem dM_count_50 : decode bM_count 50 = .ok (.aload_n 0, 1) := by decide +kernel
theorem dM_count_51 : decode bM_count 51 = .ok (.getfield 100, 3) := by decide +kernel
theorem dM_count_54 : decode bM_count 54 = .ok (.ireturn, 1) := by decide +kernel
theorem dM_count_55 : decode bM_count 55 = .ok (.iconst 0, 1) := by decide +kernel
theorem dM_count_56 : decode bM_count 56 = .ok (.istore_n 3, 1) := by decide +kernel
theorem dM_count_57 : decode bM_count 57 = .ok (.iload_n 3, 1) := by decide +kernel
theorem dM_count_58 : decode bM_count 58 = .ok (.aload_n 0, 1) := by decide +kernel
theorem dM_count_59 : decode bM_count 59 = .ok (.getfield 100, 3) := by decide +kernel
theorem dM_count_62 : decode bM_count 62 = .ok (.if_icmp .ge 26, 3) := by decide +kernel
theorem dM_count_65 : decode bM_count 65 = .ok (.iload_n 2, 1) := by decide +kernel
theorem dM_count_66 : decode bM_count 66 = .ok (.aload_n 0, 1) := by decide +kernel
theorem dM_count_67 : decode bM_count 67 = .ok (.getfield 84, 3) := by decide +kernel
theorem dM_count_70 : decode bM_count 70 = .ok (.iload_n 3, 1) := by decide +kernel
theorem dM_count_71 : decode bM_count 71 = .ok (.iaload, 1) := by decide +kernel
theorem dM_count_72 : decode bM_count 72 = .ok (.ifCond .le 7, 3) := by decide +kernel
theorem dM_count_75 : decode bM_count 75 = .ok (.iconst 1, 1) := by decide +kernel
theorem dM_count_76 : decode bM_count 76 = .ok (.goto 4, 3) := by decide +kernel
theorem dM_count_79 : decode bM_count 79 = .ok (.iconst 0, 1) := by decide +kernel
theorem dM_count_80 : decode bM_count 80 = .ok (.iadd, 1) := by decide +kernel
theorem dM_count_81 : decode bM_count 81 = .ok (.istore_n 2, 1) := by decide +kernel
theorem dM_count_82 : decode bM_count 82 = .ok (.iinc 3 1, 3) := by decide +kernel
theorem dM_count_85 : decode bM_count 85 = .ok (.goto (-28), 3) := by decide +kernel
theorem dM_count_88 : decode bM_count 88 = .ok (.iload_n 2, 1) := by decide +kernel
theorem dM_count_89 : decode bM_count 89 = .ok (.ireturn, 1) := by decide +kernel
theorem dM_count_90 : decode bM_count 90 = .ok (.aload_n 0, 1) := by decide +kernel
theorem dM_count_91 : decode bM_count 91 = .ok (.iconst 1, 1) := by decide +kernel
theorem dM_count_92 : decode bM_count 92 = .ok (.iconst (-1), 1) := by decide +kernel
theorem dM_count_93 : decode bM_count 93 = .ok (.iconst 0, 1) := by decide +kernel
theorem dM_count_94 : decode bM_count 94 = .ok (.iconst 0, 1) := by decide +kernel
theorem dM_count_95 : decode bM_count 95 = .ok (.invokevirtual 183, 3) := by decide +kernel
theorem dM_count_98 : decode bM_count 98 = .ok (.aload_n 0, 1) := by decide +kernel
theorem dM_count_99 : decode bM_count 99 = .ok (.getfield 156, 3) := by decide +kernel
theorem dM_count_102 : decode bM_count 102 = .ok (.ireturn, 1) := by decide +kernel
theorem dM_count_103 : decode bM_count 103 = .ok (.aload_n 0, 1) := by decide +kernel
theorem dM_count_104 : decode bM_count 104 = .ok (.iconst 1, 1) := by decide +kernel
theorem dM_count_105 : decode bM_count 105 = .ok (.iconst (-1), 1) := by decide +kernel
theorem dM_count_106 : decode bM_count 106 = .ok (.iconst 0, 1) := by decide +kernel
theorem dM_count_107 : decode bM_count 107 = .ok (.iconst 0, 1) := by decide +kernel
theorem dM_count_108 : decode bM_count 108 = .ok (.invokevirtual 183, 3) := by decide +kernel
theorem dM_count_111 : decode bM_count 111 = .ok (.aload_n 0, 1) := by decide +kernel
theorem dM_count_112 : decode bM_count 112 = .ok (.getfield 159, 3) := by decide +kernel
theorem dM_count_115 : decode bM_count 115 = .ok (.ireturn, 1) := by decide +kernel
theorem dM_count_116 : decode bM_count 116 = .ok (.iconst (-1), 1) := by decide +kernel
theorem dM_count_117 : decode bM_count 117 = .ok (.ireturn, 1) := by decide +kernel
