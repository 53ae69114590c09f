theorem dX3_init_0 : decode cX3_init 0 = .ok (.aload_n 0, 1) := by decide +kernel
theorem dX3_init_1 : decode cX3_init 1 = .ok (.invokespecial 1, 3) := by decide +kernel
theorem dX3_init_4 : decode cX3_init 4 = .ok (.aload_n 0, 1) := by decide +kernel
theorem dX3_init_5 : decode cX3_init 5 = .ok (.sipush 512, 3) := by decide +kernel
theorem dX3_init_8 : decode cX3_init 8 = .ok (.newarray .int, 2) := by decide +kernel
theorem dX3_init_10 : decode cX3_init 10 = .ok (.putfield 7, 3) := by decide +kernel
theorem dX3_init_13 : decode cX3_init 13 = .ok (.aload_n 0, 1) := by decide +kernel
theorem dX3_init_14 : decode cX3_init 14 = .ok (.bipush 6, 2) := by decide +kernel
theorem dX3_init_16 : decode cX3_init 16 = .ok (.newarray .int, 2) := by decide +kernel
theorem dX3_init_18 : decode cX3_init 18 = .ok (.putfield 13, 3) := by decide +kernel
theorem dX3_init_21 : decode cX3_init 21 = .ok (.aload_n 0, 1) := by decide +kernel
theorem dX3_init_22 : decode cX3_init 22 = .ok (.bipush 6, 2) := by decide +kernel
theorem dX3_init_24 : decode cX3_init 24 = .ok (.newarray .int, 2) := by decide +kernel
theorem dX3_init_26 : decode cX3_init 26 = .ok (.putfield 16, 3) := by decide +kernel
theorem dX3_init_29 : decode cX3_init 29 = .ok (.aload_n 0, 1) := by decide +kernel
theorem dX3_init_30 : decode cX3_init 30 = .ok (.bipush 6, 2) := by decide +kernel
theorem dX3_init_32 : decode cX3_init 32 = .ok (.newarray .int, 2) := by decide +kernel
theorem dX3_init_34 : decode cX3_init 34 = .ok (.putfield 19, 3) := by decide +kernel
theorem dX3_init_37 : decode cX3_init 37 = .ok (.aload_n 0, 1) := by decide +kernel
theorem dX3_init_38 : decode cX3_init 38 = .ok (.bipush 6, 2) := by decide +kernel
theorem dX3_init_40 : decode cX3_init 40 = .ok (.newarray .int, 2) := by decide +kernel
theorem dX3_init_42 : decode cX3_init 42 = .ok (.putfield 22, 3) := by decide +kernel
theorem dX3_init_45 : decode cX3_init 45 = .ok (.aload_n 0, 1) := by decide +kernel
theorem dX3_init_46 : decode cX3_init 46 = .ok (.bipush 6, 2) := by decide +kernel
theorem dX3_init_48 : decode cX3_init 48 = .ok (.newarray .int, 2) := by decide +kernel
theorem dX3_init_50 : decode cX3_init 50 = .ok (.putfield 25, 3) := by decide +kernel
theorem dX3_init_53 : decode cX3_init 53 = .ok (.aload_n 0, 1) := by decide +kernel
theorem dX3_init_54 : decode cX3_init 54 = .ok (.bipush 24, 2) := by decide +kernel
theorem dX3_init_56 : decode cX3_init 56 = .ok (.newarray .int, 2) := by decide +kernel
theorem dX3_init_58 : decode cX3_init 58 = .ok (.putfield 28, 3) := by decide +kernel
theorem dX3_init_61 : decode cX3_init 61 = .ok (.aload_n 0, 1) := by decide +kernel
theorem dX3_init_62 : decode cX3_init 62 = .ok (.bipush 6, 2) := by decide +kernel
theorem dX3_init_64 : decode cX3_init 64 = .ok (.newarray .int, 2) := by decide +kernel
theorem dX3_init_66 : decode cX3_init 66 = .ok (.putfield 31, 3) := by decide +kernel
theorem dX3_init_69 : decode cX3_init 69 = .ok (.aload_n 0, 1) := by decide +kernel
theorem dX3_init_70 : decode cX3_init 70 = .ok (.bipush 6, 2) := by decide +kernel
theorem dX3_init_72 : decode cX3_init 72 = .ok (.newarray .int, 2) := by decide +kernel
theorem dX3_init_74 : decode cX3_init 74 = .ok (.putfield 34, 3) := by decide +kernel
theorem dX3_init_77 : decode cX3_init 77 = .ok (.aload_n 0, 1) := by decide +kernel
theorem dX3_init_78 : decode cX3_init 78 = .ok (.bipush 6, 2) := by decide +kernel
theorem dX3_init_80 : decode cX3_init 80 = .ok (.newarray .int, 2) := by decide +kernel
theorem dX3_init_82 : decode cX3_init 82 = .ok (.putfield 37, 3) := by decide +kernel
theorem dX3_init_85 : decode cX3_init 85 = .ok (.aload_n 0, 1) := by decide +kernel
theorem dX3_init_86 : decode cX3_init 86 = .ok (.bipush 6, 2) := by decide +kernel
theorem dX3_init_88 : decode cX3_init 88 = .ok (.newarray .int, 2) := by decide +kernel
theorem dX3_init_90 : decode cX3_init 90 = .ok (.putfield 40, 3) := by decide +kernel
theorem dX3_init_93 : decode cX3_init 93 = .ok (.aload_n 0, 1) := by decide +kernel
theorem dX3_init_94 : decode cX3_init 94 = .ok (.bipush 12, 2) := by decide +kernel
theorem dX3_init_96 : decode cX3_init 96 = .ok (.newarray .int, 2) := by decide +kernel
theorem dX3_init_98 : decode cX3_init 98 = .ok (.putfield 43, 3) := by decide +kernel
theorem dX3_init_101 : decode cX3_init 101 = .ok (.aload_n 0, 1) := by decide +kernel
theorem dX3_init_102 : decode cX3_init 102 = .ok (.bipush 12, 2) := by decide +kernel
theorem dX3_init_104 : decode cX3_init 104 = .ok (.newarray .int, 2) := by decide +kernel
theorem dX3_init_106 : decode cX3_init 106 = .ok (.putfield 46, 3) := by decide +kernel
theorem dX3_init_109 : decode cX3_init 109 = .ok (.aload_n 0, 1) := by decide +kernel
theorem dX3_init_110 : decode cX3_init 110 = .ok (.bipush 8, 2) := by decide +kernel
theorem dX3_init_112 : decode cX3_init 112 = .ok (.newarray .boolean, 2) := by decide +kernel
theorem dX3_init_114 : decode cX3_init 114 = .ok (.putfield 49, 3) := by decide +kernel
theorem dX3_init_117 : decode cX3_init 117 = .ok (.aload_n 0, 1) := by decide +kernel
theorem dX3_init_118 : decode cX3_init 118 = .ok (.bipush 8, 2) := by decide +kernel
theorem dX3_init_120 : decode cX3_init 120 = .ok (.newarray .int, 2) := by decide +kernel
theorem dX3_init_122 : decode cX3_init 122 = .ok (.putfield 53, 3) := by decide +kernel
theorem dX3_init_125 : decode cX3_init 125 = .ok (.aload_n 0, 1) := by decide +kernel
theorem dX3_init_126 : decode cX3_init 126 = .ok (.bipush 8, 2) := by decide +kernel
theorem dX3_init_128 : decode cX3_init 128 = .ok (.newarray .int, 2) := by decide +kernel
theorem dX3_init_130 : decode cX3_init 130 = .ok (.putfield 56, 3) := by decide +kernel
theorem dX3_init_133 : decode cX3_init 133 = .ok (.aload_n 0, 1) := by decide +kernel
theorem dX3_init_134 : decode cX3_init 134 = .ok (.bipush 8, 2) := by decide +kernel
theorem dX3_init_136 : decode cX3_init 136 = .ok (.newarray .int, 2) := by decide +kernel
theorem dX3_init_138 : decode cX3_init 138 = .ok (.putfield 59, 3) := by decide +kernel
theorem dX3_init_141 : decode cX3_init 141 = .ok (.aload_n 0, 1) := by decide +kernel
theorem dX3_init_142 : decode cX3_init 142 = .ok (.bipush 64, 2) := by decide +kernel
theorem dX3_init_144 : decode cX3_init 144 = .ok (.newarray .int, 2) := by decide +kernel
theorem dX3_init_146 : decode cX3_init 146 = .ok (.putfield 62, 3) := by decide +kernel
theorem dX3_init_149 : decode cX3_init 149 = .ok (.aload_n 0, 1) := by decide +kernel
theorem dX3_init_150 : decode cX3_init 150 = .ok (.bipush 8, 2) := by decide +kernel
theorem dX3_init_152 : decode cX3_init 152 = .ok (.newarray .int, 2) := by decide +kernel
theorem dX3_init_154 : decode cX3_init 154 = .ok (.putfield 65, 3) := by decide +kernel
theorem dX3_init_157 : decode cX3_init 157 = .ok (.aload_n 0, 1) := by decide +kernel
theorem dX3_init_158 : decode cX3_init 158 = .ok (.bipush 8, 2) := by decide +kernel
theorem dX3_init_160 : decode cX3_init 160 = .ok (.newarray .int, 2) := by decide +kernel
theorem dX3_init_162 : decode cX3_init 162 = .ok (.putfield 68, 3) := by decide +kernel
theorem dX3_init_165 : decode cX3_init 165 = .ok (.aload_n 0, 1) := by decide +kernel
theorem dX3_init_166 : decode cX3_init 166 = .ok (.bipush 8, 2) := by decide +kernel
theorem dX3_init_168 : decode cX3_init 168 = .ok (.newarray .int, 2) := by decide +kernel
theorem dX3_init_170 : decode cX3_init 170 = .ok (.putfield 71, 3) := by decide +kernel
theorem dX3_init_173 : decode cX3_init 173 = .ok (.aload_n 0, 1) := by decide +kernel
theorem dX3_init_174 : decode cX3_init 174 = .ok (.bipush 8, 2) := by decide +kernel
theorem dX3_init_176 : decode cX3_init 176 = .ok (.newarray .int, 2) := by decide +kernel
theorem dX3_init_178 : decode cX3_init 178 = .ok (.putfield 74, 3) := by decide +kernel
theorem dX3_init_181 : decode cX3_init 181 = .ok (.return_, 1) := by decide +kernel
theorem dX3_thrown_0 : decode cX3_thrown 0 = .ok (.aload_n 0, 1) := by decide +kernel
theorem dX3_thrown_1 : decode cX3_thrown 1 = .ok (.getfield 77, 3) := by decide +kernel
theorem dX3_thrown_4 : decode cX3_thrown 4 = .ok (.ireturn, 1) := by decide +kernel
theorem dX3_isTold_0 : decode cX3_isTold 0 = .ok (.iload_n 1, 1) := by decide +kernel
theorem dX3_isTold_1 : decode cX3_isTold 1 = .ok (.ifCond .lt 22, 3) := by decide +kernel
theorem dX3_isTold_4 : decode cX3_isTold 4 = .ok (.iload_n 1, 1) := by decide +kernel
theorem dX3_isTold_5 : decode cX3_isTold 5 = .ok (.bipush 6, 2) := by decide +kernel
theorem dX3_isTold_7 : decode cX3_isTold 7 = .ok (.if_icmp .ge 16, 3) := by decide +kernel
theorem dX3_isTold_10 : decode cX3_isTold 10 = .ok (.aload_n 0, 1) := by decide +kernel
theorem dX3_isTold_11 : decode cX3_isTold 11 = .ok (.getfield 22, 3) := by decide +kernel
theorem dX3_isTold_14 : decode cX3_isTold 14 = .ok (.iload_n 1, 1) := by decide +kernel
theorem dX3_isTold_15 : decode cX3_isTold 15 = .ok (.iaload, 1) := by decide +kernel
theorem dX3_isTold_16 : decode cX3_isTold 16 = .ok (.ifCond .le 7, 3) := by decide +kernel
theorem dX3_isTold_19 : decode cX3_isTold 19 = .ok (.iconst 1, 1) := by decide +kernel
theorem dX3_isTold_20 : decode cX3_isTold 20 = .ok (.goto 4, 3) := by decide +kernel
theorem dX3_isTold_23 : decode cX3_isTold 23 = .ok (.iconst 0, 1) := by decide +kernel
theorem dX3_isTold_24 : decode cX3_isTold 24 = .ok (.ireturn, 1) := by decide +kernel
theorem dX3_shares_0 : decode cX3_shares 0 = .ok (.iconst 0, 1) := by decide +kernel
theorem dX3_shares_1 : decode cX3_shares 1 = .ok (.istore_n 3, 1) := by decide +kernel
theorem dX3_shares_2 : decode cX3_shares 2 = .ok (.iload_n 3, 1) := by decide +kernel
theorem dX3_shares_3 : decode cX3_shares 3 = .ok (.bipush 6, 2) := by decide +kernel
theorem dX3_shares_5 : decode cX3_shares 5 = .ok (.if_icmp .ge 49, 3) := by decide +kernel
theorem dX3_shares_8 : decode cX3_shares 8 = .ok (.aload_n 0, 1) := by decide +kernel
theorem dX3_shares_9 : decode cX3_shares 9 = .ok (.getfield 22, 3) := by decide +kernel
theorem dX3_shares_12 : decode cX3_shares 12 = .ok (.iload_n 3, 1) := by decide +kernel
theorem dX3_shares_13 : decode cX3_shares 13 = .ok (.iaload, 1) := by decide +kernel
theorem dX3_shares_14 : decode cX3_shares 14 = .ok (.ifCond .le 34, 3) := by decide +kernel
theorem dX3_shares_17 : decode cX3_shares 17 = .ok (.iload_n 1, 1) := by decide +kernel
theorem dX3_shares_18 : decode cX3_shares 18 = .ok (.aload_n 0, 1) := by decide +kernel
theorem dX3_shares_19 : decode cX3_shares 19 = .ok (.getfield 13, 3) := by decide +kernel
theorem dX3_shares_22 : decode cX3_shares 22 = .ok (.iload_n 3, 1) := by decide +kernel
theorem dX3_shares_23 : decode cX3_shares 23 = .ok (.iaload, 1) := by decide +kernel
theorem dX3_shares_24 : decode cX3_shares 24 = .ok (.aload_n 0, 1) := by decide +kernel
theorem dX3_shares_25 : decode cX3_shares 25 = .ok (.getfield 16, 3) := by decide +kernel
theorem dX3_shares_28 : decode cX3_shares 28 = .ok (.iload_n 3, 1) := by decide +kernel
theorem dX3_shares_29 : decode cX3_shares 29 = .ok (.iaload, 1) := by decide +kernel
theorem dX3_shares_30 : decode cX3_shares 30 = .ok (.iadd, 1) := by decide +kernel
theorem dX3_shares_31 : decode cX3_shares 31 = .ok (.if_icmp .ge 17, 3) := by decide +kernel
theorem dX3_shares_34 : decode cX3_shares 34 = .ok (.aload_n 0, 1) := by decide +kernel
theorem dX3_shares_35 : decode cX3_shares 35 = .ok (.getfield 13, 3) := by decide +kernel
theorem dX3_shares_38 : decode cX3_shares 38 = .ok (.iload_n 3, 1) := by decide +kernel
theorem dX3_shares_39 : decode cX3_shares 39 = .ok (.iaload, 1) := by decide +kernel
theorem dX3_shares_40 : decode cX3_shares 40 = .ok (.iload_n 1, 1) := by decide +kernel
theorem dX3_shares_41 : decode cX3_shares 41 = .ok (.iload_n 2, 1) := by decide +kernel
theorem dX3_shares_42 : decode cX3_shares 42 = .ok (.iadd, 1) := by decide +kernel
theorem dX3_shares_43 : decode cX3_shares 43 = .ok (.if_icmp .ge 5, 3) := by decide +kernel
theorem dX3_shares_46 : decode cX3_shares 46 = .ok (.iconst 1, 1) := by decide +kernel
theorem dX3_shares_47 : decode cX3_shares 47 = .ok (.ireturn, 1) := by decide +kernel
theorem dX3_shares_48 : decode cX3_shares 48 = .ok (.iinc 3 1, 3) := by decide +kernel
theorem dX3_shares_51 : decode cX3_shares 51 = .ok (.goto (-49), 3) := by decide +kernel
theorem dX3_shares_54 : decode cX3_shares 54 = .ok (.iconst 0, 1) := by decide +kernel
theorem dX3_shares_55 : decode cX3_shares 55 = .ok (.ireturn, 1) := by decide +kernel
set_option maxRecDepth 20000 in
theorem ggX3_partition_X3_isTold : GoodIn wsX3_partition wsX3_isTold := goodIn_r _ [13, 8, 18, 19, 20, 21, 22, 23, 24, 25, 26, 27, 28, 29, 30, 31, 32, 33, 34, 35, 36, 37, 38, 39, 40, 41, 42, 43, 44, 45, 46, 47] (by decide +kernel) (by decide +kernel)
set_option maxRecDepth 20000 in
theorem gX3_partition_X3_isTold : GoodIn wsX3_partition (wsV RX3 81 RX3 yX3_isTold wsX3_isTold) := goodIn_app (goodIn_of _ (by decide +kernel)) ggX3_partition_X3_isTold
set_option maxRecDepth 20000 in
theorem ggX3_partition_X3_shares : GoodIn wsX3_partition wsX3_shares := goodIn_r _ [17, 8, 3, 4, 18, 19, 20, 21, 22, 23, 24, 25, 26, 27, 28, 29, 30, 31, 32, 33, 34, 35, 36, 37, 38, 39, 40, 41, 42, 43, 44, 45, 46, 47] (by decide +kernel) (by decide +kernel)
set_option maxRecDepth 20000 in
theorem gX3_partition_X3_shares : GoodIn wsX3_partition (wsV RX3 89 RX3 yX3_shares wsX3_shares) := goodIn_app (goodIn_of _ (by decide +kernel)) ggX3_partition_X3_shares
theorem dX3_partition_0 : decode cX3_partition 0 = .ok (.iload_n 1, 1) := by decide +kernel
theorem dX3_partition_1 : decode cX3_partition 1 = .ok (.ifCond .lt 41, 3) := by decide +kernel
theorem dX3_partition_4 : decode cX3_partition 4 = .ok (.iload_n 1, 1) := by decide +kernel
theorem dX3_partition_5 : decode cX3_partition 5 = .ok (.iconst 5, 1) := by decide +kernel
theorem dX3_partition_6 : decode cX3_partition 6 = .ok (.if_icmp .gt 36, 3) := by decide +kernel
theorem dX3_partition_9 : decode cX3_partition 9 = .ok (.aload_n 0, 1) := by decide +kernel
theorem dX3_partition_10 : decode cX3_partition 10 = .ok (.iload_n 1, 1) := by decide +kernel
theorem dX3_partition_11 : decode cX3_partition 11 = .ok (.invokevirtual 81, 3) := by decide +kernel
theorem dX3_partition_14 : decode cX3_partition 14 = .ok (.ifCond .ne 28, 3) := by decide +kernel
theorem dX3_partition_17 : decode cX3_partition 17 = .ok (.iload_n 2, 1) := by decide +kernel
theorem dX3_partition_18 : decode cX3_partition 18 = .ok (.ifCond .lt 24, 3) := by decide +kernel
theorem dX3_partition_21 : decode cX3_partition 21 = .ok (.iload_n 2, 1) := by decide +kernel
theorem dX3_partition_22 : decode cX3_partition 22 = .ok (.sipush 512, 3) := by decide +kernel
theorem dX3_partition_25 : decode cX3_partition 25 = .ok (.if_icmp .ge 17, 3) := by decide +kernel
theorem dX3_partition_28 : decode cX3_partition 28 = .ok (.iload_n 3, 1) := by decide +kernel
theorem dX3_partition_29 : decode cX3_partition 29 = .ok (.iconst 1, 1) := by decide +kernel
theorem dX3_partition_30 : decode cX3_partition 30 = .ok (.if_icmp .lt 12, 3) := by decide +kernel
theorem dX3_partition_33 : decode cX3_partition 33 = .ok (.iload_n 3, 1) := by decide +kernel
theorem dX3_partition_34 : decode cX3_partition 34 = .ok (.sipush 512, 3) := by decide +kernel
theorem dX3_partition_37 : decode cX3_partition 37 = .ok (.iload_n 2, 1) := by decide +kernel
theorem dX3_partition_38 : decode cX3_partition 38 = .ok (.isub, 1) := by decide +kernel
theorem dX3_partition_39 : decode cX3_partition 39 = .ok (.if_icmp .le 7, 3) := by decide +kernel
theorem dX3_partition_42 : decode cX3_partition 42 = .ok (.iconst 1, 1) := by decide +kernel
theorem dX3_partition_43 : decode cX3_partition 43 = .ok (.goto 4, 3) := by decide +kernel
theorem dX3_partition_46 : decode cX3_partition 46 = .ok (.iconst 0, 1) := by decide +kernel
theorem dX3_partition_47 : decode cX3_partition 47 = .ok (.istore 6, 2) := by decide +kernel
theorem dX3_partition_49 : decode cX3_partition 49 = .ok (.aload_n 0, 1) := by decide +kernel
theorem dX3_partition_50 : decode cX3_partition 50 = .ok (.aload_n 0, 1) := by decide +kernel
theorem dX3_partition_51 : decode cX3_partition 51 = .ok (.getfield 85, 3) := by decide +kernel
theorem dX3_partition_54 : decode cX3_partition 54 = .ok (.ifCond .eq 7, 3) := by decide +kernel
theorem dX3_partition_57 : decode cX3_partition 57 = .ok (.iconst 1, 1) := by decide +kernel
theorem dX3_partition_58 : decode cX3_partition 58 = .ok (.goto 45, 3) := by decide +kernel
theorem dX3_partition_61 : decode cX3_partition 61 = .ok (.iload 6, 2) := by decide +kernel
theorem dX3_partition_63 : decode cX3_partition 63 = .ok (.ifCond .ne 35, 3) := by decide +kernel
theorem dX3_partition_66 : decode cX3_partition 66 = .ok (.aload_n 0, 1) := by decide +kernel
theorem dX3_partition_67 : decode cX3_partition 67 = .ok (.iload_n 2, 1) := by decide +kernel
theorem dX3_partition_68 : decode cX3_partition 68 = .ok (.iload_n 3, 1) := by decide +kernel
theorem dX3_partition_69 : decode cX3_partition 69 = .ok (.invokevirtual 89, 3) := by decide +kernel
theorem dX3_partition_72 : decode cX3_partition 72 = .ok (.ifCond .ne 26, 3) := by decide +kernel
theorem dX3_partition_75 : decode cX3_partition 75 = .ok (.iload 4, 2) := by decide +kernel
theorem dX3_partition_77 : decode cX3_partition 77 = .ok (.ifCond .lt 21, 3) := by decide +kernel
theorem dX3_partition_80 : decode cX3_partition 80 = .ok (.iload 4, 2) := by decide +kernel
theorem dX3_partition_82 : decode cX3_partition 82 = .ok (.iload_n 3, 1) := by decide +kernel
theorem dX3_partition_83 : decode cX3_partition 83 = .ok (.if_icmp .ge 15, 3) := by decide +kernel
theorem dX3_partition_86 : decode cX3_partition 86 = .ok (.iload 5, 2) := by decide +kernel
theorem dX3_partition_88 : decode cX3_partition 88 = .ok (.ifCond .lt 10, 3) := by decide +kernel
theorem dX3_partition_91 : decode cX3_partition 91 = .ok (.iload 5, 2) := by decide +kernel
theorem dX3_partition_93 : decode cX3_partition 93 = .ok (.bipush 100, 2) := by decide +kernel
theorem dX3_partition_95 : decode cX3_partition 95 = .ok (.if_icmp .le 7, 3) := by decide +kernel
theorem dX3_partition_98 : decode cX3_partition 98 = .ok (.iconst 2, 1) := by decide +kernel
theorem dX3_partition_99 : decode cX3_partition 99 = .ok (.goto 4, 3) := by decide +kernel
theorem dX3_partition_102 : decode cX3_partition 102 = .ok (.iconst 0, 1) := by decide +kernel
theorem dX3_partition_103 : decode cX3_partition 103 = .ok (.putfield 77, 3) := by decide +kernel
theorem dX3_partition_106 : decode cX3_partition 106 = .ok (.aload_n 0, 1) := by decide +kernel
theorem dX3_partition_107 : decode cX3_partition 107 = .ok (.getfield 77, 3) := by decide +kernel
theorem dX3_partition_110 : decode cX3_partition 110 = .ok (.ifCond .ne 48, 3) := by decide +kernel
theorem dX3_partition_113 : decode cX3_partition 113 = .ok (.aload_n 0, 1) := by decide +kernel
theorem dX3_partition_114 : decode cX3_partition 114 = .ok (.getfield 13, 3) := by decide +kernel
theorem dX3_partition_117 : decode cX3_partition 117 = .ok (.iload_n 1, 1) := by decide +kernel
theorem dX3_partition_118 : decode cX3_partition 118 = .ok (.iload_n 2, 1) := by decide +kernel
theorem dX3_partition_119 : decode cX3_partition 119 = .ok (.iastore, 1) := by decide +kernel
theorem dX3_partition_120 : decode cX3_partition 120 = .ok (.aload_n 0, 1) := by decide +kernel
theorem dX3_partition_121 : decode cX3_partition 121 = .ok (.getfield 16, 3) := by decide +kernel
theorem dX3_partition_124 : decode cX3_partition 124 = .ok (.iload_n 1, 1) := by decide +kernel
theorem dX3_partition_125 : decode cX3_partition 125 = .ok (.iload_n 3, 1) := by decide +kernel
theorem dX3_partition_126 : decode cX3_partition 126 = .ok (.iastore, 1) := by decide +kernel
theorem dX3_partition_127 : decode cX3_partition 127 = .ok (.aload_n 0, 1) := by decide +kernel
theorem dX3_partition_128 : decode cX3_partition 128 = .ok (.getfield 19, 3) := by decide +kernel
theorem dX3_partition_131 : decode cX3_partition 131 = .ok (.iload_n 1, 1) := by decide +kernel
theorem dX3_partition_132 : decode cX3_partition 132 = .ok (.iload 4, 2) := by decide +kernel
theorem dX3_partition_134 : decode cX3_partition 134 = .ok (.iastore, 1) := by decide +kernel
theorem dX3_partition_135 : decode cX3_partition 135 = .ok (.aload_n 0, 1) := by decide +kernel
theorem dX3_partition_136 : decode cX3_partition 136 = .ok (.getfield 25, 3) := by decide +kernel
theorem dX3_partition_139 : decode cX3_partition 139 = .ok (.iload_n 1, 1) := by decide +kernel
theorem dX3_partition_140 : decode cX3_partition 140 = .ok (.iload 4, 2) := by decide +kernel
theorem dX3_partition_142 : decode cX3_partition 142 = .ok (.iastore, 1) := by decide +kernel
theorem dX3_partition_143 : decode cX3_partition 143 = .ok (.aload_n 0, 1) := by decide +kernel
theorem dX3_partition_144 : decode cX3_partition 144 = .ok (.getfield 34, 3) := by decide +kernel
theorem dX3_partition_147 : decode cX3_partition 147 = .ok (.iload_n 1, 1) := by decide +kernel
theorem dX3_partition_148 : decode cX3_partition 148 = .ok (.iload 5, 2) := by decide +kernel
theorem dX3_partition_150 : decode cX3_partition 150 = .ok (.iastore, 1) := by decide +kernel
theorem dX3_partition_151 : decode cX3_partition 151 = .ok (.aload_n 0, 1) := by decide +kernel
theorem dX3_partition_152 : decode cX3_partition 152 = .ok (.getfield 22, 3) := by decide +kernel
theorem dX3_partition_155 : decode cX3_partition 155 = .ok (.iload_n 1, 1) := by decide +kernel
theorem dX3_partition_156 : decode cX3_partition 156 = .ok (.iconst 1, 1) := by decide +kernel
theorem dX3_partition_157 : decode cX3_partition 157 = .ok (.iastore, 1) := by decide +kernel
theorem dX3_partition_158 : decode cX3_partition 158 = .ok (.return_, 1) := by decide +kernel
set_option maxRecDepth 20000 in
theorem ggX3_window_X3_isTold : GoodIn wsX3_window wsX3_isTold := goodIn_r _ [10, 11, 12, 13, 14, 15, 16, 17, 18, 19, 20, 21, 22, 23, 24, 25, 26, 27, 28, 29, 30, 31, 32, 33, 34, 35, 36, 37, 38, 39, 40, 41] (by decide +kernel) (by decide +kernel)
set_option maxRecDepth 20000 in
theorem gX3_window_X3_isTold : GoodIn wsX3_window (wsV RX3 81 RX3 yX3_isTold wsX3_isTold) := goodIn_app (goodIn_of _ (by decide +kernel)) ggX3_window_X3_isTold
theorem dX3_window_0 : decode cX3_window 0 = .ok (.aload_n 0, 1) := by decide +kernel
theorem dX3_window_1 : decode cX3_window 1 = .ok (.aload_n 0, 1) := by decide +kernel
theorem dX3_window_2 : decode cX3_window 2 = .ok (.getfield 85, 3) := by decide +kernel
theorem dX3_window_5 : decode cX3_window 5 = .ok (.ifCond .eq 7, 3) := by decide +kernel
theorem dX3_window_8 : decode cX3_window 8 = .ok (.iconst 1, 1) := by decide +kernel
theorem dX3_window_9 : decode cX3_window 9 = .ok (.goto 41, 3) := by decide +kernel
theorem dX3_window_12 : decode cX3_window 12 = .ok (.iload_n 1, 1) := by decide +kernel
theorem dX3_window_13 : decode cX3_window 13 = .ok (.iconst (-1), 1) := by decide +kernel
theorem dX3_window_14 : decode cX3_window 14 = .ok (.if_icmp .eq 11, 3) := by decide +kernel
theorem dX3_window_17 : decode cX3_window 17 = .ok (.aload_n 0, 1) := by decide +kernel
theorem dX3_window_18 : decode cX3_window 18 = .ok (.iload_n 1, 1) := by decide +kernel
theorem dX3_window_19 : decode cX3_window 19 = .ok (.invokevirtual 81, 3) := by decide +kernel
theorem dX3_window_22 : decode cX3_window 22 = .ok (.ifCond .eq 23, 3) := by decide +kernel
theorem dX3_window_25 : decode cX3_window 25 = .ok (.iload_n 2, 1) := by decide +kernel
theorem dX3_window_26 : decode cX3_window 26 = .ok (.iconst 1, 1) := by decide +kernel
theorem dX3_window_27 : decode cX3_window 27 = .ok (.if_icmp .lt 18, 3) := by decide +kernel
theorem dX3_window_30 : decode cX3_window 30 = .ok (.iload_n 2, 1) := by decide +kernel
theorem dX3_window_31 : decode cX3_window 31 = .ok (.bipush 100, 2) := by decide +kernel
theorem dX3_window_33 : decode cX3_window 33 = .ok (.if_icmp .gt 12, 3) := by decide +kernel
theorem dX3_window_36 : decode cX3_window 36 = .ok (.aload_n 0, 1) := by decide +kernel
theorem dX3_window_37 : decode cX3_window 37 = .ok (.getfield 93, 3) := by decide +kernel
theorem dX3_window_40 : decode cX3_window 40 = .ok (.bipush 12, 2) := by decide +kernel
theorem dX3_window_42 : decode cX3_window 42 = .ok (.if_icmp .ne 7, 3) := by decide +kernel
theorem dX3_window_45 : decode cX3_window 45 = .ok (.iconst 2, 1) := by decide +kernel
theorem dX3_window_46 : decode cX3_window 46 = .ok (.goto 4, 3) := by decide +kernel
theorem dX3_window_49 : decode cX3_window 49 = .ok (.iconst 0, 1) := by decide +kernel
theorem dX3_window_50 : decode cX3_window 50 = .ok (.putfield 77, 3) := by decide +kernel
theorem dX3_window_53 : decode cX3_window 53 = .ok (.aload_n 0, 1) := by decide +kernel
theorem dX3_window_54 : decode cX3_window 54 = .ok (.getfield 77, 3) := by decide +kernel
theorem dX3_window_57 : decode cX3_window 57 = .ok (.ifCond .le 5, 3) := by decide +kernel
theorem dX3_window_60 : decode cX3_window 60 = .ok (.iconst 0, 1) := by decide +kernel
theorem dX3_window_61 : decode cX3_window 61 = .ok (.ireturn, 1) := by decide +kernel
theorem dX3_window_62 : decode cX3_window 62 = .ok (.aload_n 0, 1) := by decide +kernel
theorem dX3_window_63 : decode cX3_window 63 = .ok (.getfield 43, 3) := by decide +kernel
theorem dX3_window_66 : decode cX3_window 66 = .ok (.aload_n 0, 1) := by decide +kernel
theorem dX3_window_67 : decode cX3_window 67 = .ok (.getfield 93, 3) := by decide +kernel
theorem dX3_window_70 : decode cX3_window 70 = .ok (.iload_n 1, 1) := by decide +kernel
theorem dX3_window_71 : decode cX3_window 71 = .ok (.iastore, 1) := by decide +kernel
theorem dX3_window_72 : decode cX3_window 72 = .ok (.aload_n 0, 1) := by decide +kernel
theorem dX3_window_73 : decode cX3_window 73 = .ok (.getfield 46, 3) := by decide +kernel
theorem dX3_window_76 : decode cX3_window 76 = .ok (.aload_n 0, 1) := by decide +kernel
theorem dX3_window_77 : decode cX3_window 77 = .ok (.getfield 93, 3) := by decide +kernel
theorem dX3_window_80 : decode cX3_window 80 = .ok (.iload_n 2, 1) := by decide +kernel
theorem dX3_window_81 : decode cX3_window 81 = .ok (.iastore, 1) := by decide +kernel
theorem dX3_window_82 : decode cX3_window 82 = .ok (.aload_n 0, 1) := by decide +kernel
theorem dX3_window_83 : decode cX3_window 83 = .ok (.dup, 1) := by decide +kernel
theorem dX3_window_84 : decode cX3_window 84 = .ok (.getfield 93, 3) := by decide +kernel
theorem dX3_window_87 : decode cX3_window 87 = .ok (.iconst 1, 1) := by decide +kernel
theorem dX3_window_88 : decode cX3_window 88 = .ok (.iadd, 1) := by decide +kernel
theorem dX3_window_89 : decode cX3_window 89 = .ok (.putfield 93, 3) := by decide +kernel
theorem dX3_window_92 : decode cX3_window 92 = .ok (.aload_n 0, 1) := by decide +kernel
theorem dX3_window_93 : decode cX3_window 93 = .ok (.getfield 93, 3) := by decide +kernel
theorem dX3_window_96 : decode cX3_window 96 = .ok (.ireturn, 1) := by decide +kernel
set_option maxRecDepth 20000 in
theorem ggX3_channel_X3_isTold : GoodIn wsX3_channel wsX3_isTold := goodIn_r _ [11, 12, 13, 14, 15, 16, 17, 18, 19, 20, 21, 22, 23, 24, 25, 26, 27, 28, 29, 30, 31, 32, 33, 34, 35, 36, 37, 38, 39, 40, 41, 42] (by decide +kernel) (by decide +kernel)
set_option maxRecDepth 20000 in
theorem gX3_channel_X3_isTold : GoodIn wsX3_channel (wsV RX3 81 RX3 yX3_isTold wsX3_isTold) := goodIn_app (goodIn_of _ (by decide +kernel)) ggX3_channel_X3_isTold
theorem dX3_channel_0 : decode cX3_channel 0 = .ok (.iload_n 1, 1) := by decide +kernel
theorem dX3_channel_1 : decode cX3_channel 1 = .ok (.ifCond .lt 51, 3) := by decide +kernel
theorem dX3_channel_4 : decode cX3_channel 4 = .ok (.iload_n 1, 1) := by decide +kernel
theorem dX3_channel_5 : decode cX3_channel 5 = .ok (.bipush 7, 2) := by decide +kernel
theorem dX3_channel_7 : decode cX3_channel 7 = .ok (.if_icmp .gt 45, 3) := by decide +kernel
theorem dX3_channel_10 : decode cX3_channel 10 = .ok (.aload_n 0, 1) := by decide +kernel
theorem dX3_channel_11 : decode cX3_channel 11 = .ok (.getfield 49, 3) := by decide +kernel
theorem dX3_channel_14 : decode cX3_channel 14 = .ok (.iload_n 1, 1) := by decide +kernel
theorem dX3_channel_15 : decode cX3_channel 15 = .ok (.baload, 1) := by decide +kernel
theorem dX3_channel_16 : decode cX3_channel 16 = .ok (.ifCond .ne 36, 3) := by decide +kernel
theorem dX3_channel_19 : decode cX3_channel 19 = .ok (.aload_n 0, 1) := by decide +kernel
theorem dX3_channel_20 : decode cX3_channel 20 = .ok (.iload_n 2, 1) := by decide +kernel
theorem dX3_channel_21 : decode cX3_channel 21 = .ok (.invokevirtual 81, 3) := by decide +kernel
theorem dX3_channel_24 : decode cX3_channel 24 = .ok (.ifCond .eq 28, 3) := by decide +kernel
theorem dX3_channel_27 : decode cX3_channel 27 = .ok (.aload_n 0, 1) := by decide +kernel
theorem dX3_channel_28 : decode cX3_channel 28 = .ok (.iload_n 3, 1) := by decide +kernel
theorem dX3_channel_29 : decode cX3_channel 29 = .ok (.invokevirtual 81, 3) := by decide +kernel
theorem dX3_channel_32 : decode cX3_channel 32 = .ok (.ifCond .eq 20, 3) := by decide +kernel
theorem dX3_channel_35 : decode cX3_channel 35 = .ok (.iload_n 2, 1) := by decide +kernel
theorem dX3_channel_36 : decode cX3_channel 36 = .ok (.iload_n 3, 1) := by decide +kernel
theorem dX3_channel_37 : decode cX3_channel 37 = .ok (.if_icmp .eq 15, 3) := by decide +kernel
theorem dX3_channel_40 : decode cX3_channel 40 = .ok (.iload 4, 2) := by decide +kernel
theorem dX3_channel_42 : decode cX3_channel 42 = .ok (.ifCond .lt 10, 3) := by decide +kernel
theorem dX3_channel_45 : decode cX3_channel 45 = .ok (.iload 4, 2) := by decide +kernel
theorem dX3_channel_47 : decode cX3_channel 47 = .ok (.bipush 8, 2) := by decide +kernel
theorem dX3_channel_49 : decode cX3_channel 49 = .ok (.if_icmp .le 7, 3) := by decide +kernel
theorem dX3_channel_52 : decode cX3_channel 52 = .ok (.iconst 1, 1) := by decide +kernel
theorem dX3_channel_53 : decode cX3_channel 53 = .ok (.goto 4, 3) := by decide +kernel
theorem dX3_channel_56 : decode cX3_channel 56 = .ok (.iconst 0, 1) := by decide +kernel
theorem dX3_channel_57 : decode cX3_channel 57 = .ok (.istore 5, 2) := by decide +kernel
theorem dX3_channel_59 : decode cX3_channel 59 = .ok (.aload_n 0, 1) := by decide +kernel
theorem dX3_channel_60 : decode cX3_channel 60 = .ok (.aload_n 0, 1) := by decide +kernel
theorem dX3_channel_61 : decode cX3_channel 61 = .ok (.getfield 85, 3) := by decide +kernel
theorem dX3_channel_64 : decode cX3_channel 64 = .ok (.ifCond .eq 7, 3) := by decide +kernel
theorem dX3_channel_67 : decode cX3_channel 67 = .ok (.iconst 1, 1) := by decide +kernel
theorem dX3_channel_68 : decode cX3_channel 68 = .ok (.goto 13, 3) := by decide +kernel
theorem dX3_channel_71 : decode cX3_channel 71 = .ok (.iload 5, 2) := by decide +kernel
theorem dX3_channel_73 : decode cX3_channel 73 = .ok (.ifCond .eq 7, 3) := by decide +kernel
theorem dX3_channel_76 : decode cX3_channel 76 = .ok (.iconst 2, 1) := by decide +kernel
theorem dX3_channel_77 : decode cX3_channel 77 = .ok (.goto 4, 3) := by decide +kernel
theorem dX3_channel_80 : decode cX3_channel 80 = .ok (.iconst 0, 1) := by decide +kernel
theorem dX3_channel_81 : decode cX3_channel 81 = .ok (.putfield 77, 3) := by decide +kernel
theorem dX3_channel_84 : decode cX3_channel 84 = .ok (.aload_n 0, 1) := by decide +kernel
theorem dX3_channel_85 : decode cX3_channel 85 = .ok (.getfield 77, 3) := by decide +kernel
theorem dX3_channel_88 : decode cX3_channel 88 = .ok (.ifCond .ne 32, 3) := by decide +kernel
theorem dX3_channel_91 : decode cX3_channel 91 = .ok (.aload_n 0, 1) := by decide +kernel
theorem dX3_channel_92 : decode cX3_channel 92 = .ok (.getfield 49, 3) := by decide +kernel
theorem dX3_channel_95 : decode cX3_channel 95 = .ok (.iload_n 1, 1) := by decide +kernel
theorem dX3_channel_96 : decode cX3_channel 96 = .ok (.iconst 1, 1) := by decide +kernel
theorem dX3_channel_97 : decode cX3_channel 97 = .ok (.bastore, 1) := by decide +kernel
theorem dX3_channel_98 : decode cX3_channel 98 = .ok (.aload_n 0, 1) := by decide +kernel
theorem dX3_channel_99 : decode cX3_channel 99 = .ok (.getfield 53, 3) := by decide +kernel
theorem dX3_channel_102 : decode cX3_channel 102 = .ok (.iload_n 1, 1) := by decide +kernel
theorem dX3_channel_103 : decode cX3_channel 103 = .ok (.iload_n 2, 1) := by decide +kernel
theorem dX3_channel_104 : decode cX3_channel 104 = .ok (.iastore, 1) := by decide +kernel
theorem dX3_channel_105 : decode cX3_channel 105 = .ok (.aload_n 0, 1) := by decide +kernel
theorem dX3_channel_106 : decode cX3_channel 106 = .ok (.getfield 56, 3) := by decide +kernel
theorem dX3_channel_109 : decode cX3_channel 109 = .ok (.iload_n 1, 1) := by decide +kernel
theorem dX3_channel_110 : decode cX3_channel 110 = .ok (.iload_n 3, 1) := by decide +kernel
theorem dX3_channel_111 : decode cX3_channel 111 = .ok (.iastore, 1) := by decide +kernel
theorem dX3_channel_112 : decode cX3_channel 112 = .ok (.aload_n 0, 1) := by decide +kernel
theorem dX3_channel_113 : decode cX3_channel 113 = .ok (.getfield 59, 3) := by decide +kernel
theorem dX3_channel_116 : decode cX3_channel 116 = .ok (.iload_n 1, 1) := by decide +kernel
theorem dX3_channel_117 : decode cX3_channel 117 = .ok (.iload 4, 2) := by decide +kernel
theorem dX3_channel_119 : decode cX3_channel 119 = .ok (.iastore, 1) := by decide +kernel
theorem dX3_channel_120 : decode cX3_channel 120 = .ok (.return_, 1) := by decide +kernel
theorem dX3_noWord_0 : decode cX3_noWord 0 = .ok (.iload_n 2, 1) := by decide +kernel
theorem dX3_noWord_1 : decode cX3_noWord 1 = .ok (.ifCond .lt 13, 3) := by decide +kernel
theorem dX3_noWord_4 : decode cX3_noWord 4 = .ok (.iload_n 2, 1) := by decide +kernel
theorem dX3_noWord_5 : decode cX3_noWord 5 = .ok (.aload_n 0, 1) := by decide +kernel
theorem dX3_noWord_6 : decode cX3_noWord 6 = .ok (.getfield 16, 3) := by decide +kernel
theorem dX3_noWord_9 : decode cX3_noWord 9 = .ok (.iload_n 1, 1) := by decide +kernel
theorem dX3_noWord_10 : decode cX3_noWord 10 = .ok (.iaload, 1) := by decide +kernel
theorem dX3_noWord_11 : decode cX3_noWord 11 = .ok (.if_icmp .lt 7, 3) := by decide +kernel
theorem dX3_noWord_14 : decode cX3_noWord 14 = .ok (.iconst 1, 1) := by decide +kernel
theorem dX3_noWord_15 : decode cX3_noWord 15 = .ok (.goto 4, 3) := by decide +kernel
theorem dX3_noWord_18 : decode cX3_noWord 18 = .ok (.iconst 0, 1) := by decide +kernel
theorem dX3_noWord_19 : decode cX3_noWord 19 = .ok (.ireturn, 1) := by decide +kernel
set_option maxRecDepth 20000 in
theorem ggX3_poke_X3_isTold : GoodIn wsX3_poke wsX3_isTold := goodIn_r _ [9, 10, 16, 17, 18, 19, 20, 21, 22, 23, 24, 25, 26, 27, 28, 29, 30, 31, 32, 33, 34, 35, 36, 37, 38, 39, 40, 41, 42, 43, 44, 45] (by decide +kernel) (by decide +kernel)
set_option maxRecDepth 20000 in
theorem gX3_poke_X3_isTold : GoodIn wsX3_poke (wsV RX3 81 RX3 yX3_isTold wsX3_isTold) := goodIn_app (goodIn_of _ (by decide +kernel)) ggX3_poke_X3_isTold
set_option maxRecDepth 20000 in
theorem ggX3_poke_X3_noWord : GoodIn wsX3_poke wsX3_noWord := goodIn_r _ [14, 15, 16, 17, 18, 19, 20, 21, 22, 23, 24, 25, 26, 27, 28, 29, 30, 31, 32, 33, 34, 35, 36, 37, 38, 39, 40, 41, 42, 43, 44, 45] (by decide +kernel) (by decide +kernel)
set_option maxRecDepth 20000 in
theorem gX3_poke_X3_noWord : GoodIn wsX3_poke (wsV RX3 96 RX3 yX3_noWord wsX3_noWord) := goodIn_app (goodIn_of _ (by decide +kernel)) ggX3_poke_X3_noWord
theorem dX3_poke_0 : decode cX3_poke 0 = .ok (.aload_n 0, 1) := by decide +kernel
theorem dX3_poke_1 : decode cX3_poke 1 = .ok (.aload_n 0, 1) := by decide +kernel
theorem dX3_poke_2 : decode cX3_poke 2 = .ok (.getfield 85, 3) := by decide +kernel
theorem dX3_poke_5 : decode cX3_poke 5 = .ok (.ifCond .eq 7, 3) := by decide +kernel
theorem dX3_poke_8 : decode cX3_poke 8 = .ok (.iconst 1, 1) := by decide +kernel
theorem dX3_poke_9 : decode cX3_poke 9 = .ok (.goto 29, 3) := by decide +kernel
theorem dX3_poke_12 : decode cX3_poke 12 = .ok (.aload_n 0, 1) := by decide +kernel
theorem dX3_poke_13 : decode cX3_poke 13 = .ok (.iload_n 1, 1) := by decide +kernel
theorem dX3_poke_14 : decode cX3_poke 14 = .ok (.invokevirtual 81, 3) := by decide +kernel
theorem dX3_poke_17 : decode cX3_poke 17 = .ok (.ifCond .ne 7, 3) := by decide +kernel
theorem dX3_poke_20 : decode cX3_poke 20 = .ok (.iconst 2, 1) := by decide +kernel
theorem dX3_poke_21 : decode cX3_poke 21 = .ok (.goto 17, 3) := by decide +kernel
theorem dX3_poke_24 : decode cX3_poke 24 = .ok (.aload_n 0, 1) := by decide +kernel
theorem dX3_poke_25 : decode cX3_poke 25 = .ok (.iload_n 1, 1) := by decide +kernel
theorem dX3_poke_26 : decode cX3_poke 26 = .ok (.iload_n 2, 1) := by decide +kernel
theorem dX3_poke_27 : decode cX3_poke 27 = .ok (.invokevirtual 96, 3) := by decide +kernel
theorem dX3_poke_30 : decode cX3_poke 30 = .ok (.ifCond .eq 7, 3) := by decide +kernel
theorem dX3_poke_33 : decode cX3_poke 33 = .ok (.iconst 3, 1) := by decide +kernel
theorem dX3_poke_34 : decode cX3_poke 34 = .ok (.goto 4, 3) := by decide +kernel
theorem dX3_poke_37 : decode cX3_poke 37 = .ok (.iconst 0, 1) := by decide +kernel
theorem dX3_poke_38 : decode cX3_poke 38 = .ok (.putfield 77, 3) := by decide +kernel
theorem dX3_poke_41 : decode cX3_poke 41 = .ok (.aload_n 0, 1) := by decide +kernel
theorem dX3_poke_42 : decode cX3_poke 42 = .ok (.getfield 77, 3) := by decide +kernel
theorem dX3_poke_45 : decode cX3_poke 45 = .ok (.ifCond .le 5, 3) := by decide +kernel
theorem dX3_poke_48 : decode cX3_poke 48 = .ok (.iconst 0, 1) := by decide +kernel
theorem dX3_poke_49 : decode cX3_poke 49 = .ok (.ireturn, 1) := by decide +kernel
theorem dX3_poke_50 : decode cX3_poke 50 = .ok (.aload_n 0, 1) := by decide +kernel
theorem dX3_poke_51 : decode cX3_poke 51 = .ok (.getfield 7, 3) := by decide +kernel
theorem dX3_poke_54 : decode cX3_poke 54 = .ok (.aload_n 0, 1) := by decide +kernel
theorem dX3_poke_55 : decode cX3_poke 55 = .ok (.getfield 13, 3) := by decide +kernel
theorem dX3_poke_58 : decode cX3_poke 58 = .ok (.iload_n 1, 1) := by decide +kernel
theorem dX3_poke_59 : decode cX3_poke 59 = .ok (.iaload, 1) := by decide +kernel
theorem dX3_poke_60 : decode cX3_poke 60 = .ok (.iload_n 2, 1) := by decide +kernel
theorem dX3_poke_61 : decode cX3_poke 61 = .ok (.iadd, 1) := by decide +kernel
theorem dX3_poke_62 : decode cX3_poke 62 = .ok (.iaload, 1) := by decide +kernel
theorem dX3_poke_63 : decode cX3_poke 63 = .ok (.istore 4, 2) := by decide +kernel
theorem dX3_poke_65 : decode cX3_poke 65 = .ok (.aload_n 0, 1) := by decide +kernel
theorem dX3_poke_66 : decode cX3_poke 66 = .ok (.getfield 7, 3) := by decide +kernel
theorem dX3_poke_69 : decode cX3_poke 69 = .ok (.aload_n 0, 1) := by decide +kernel
theorem dX3_poke_70 : decode cX3_poke 70 = .ok (.getfield 13, 3) := by decide +kernel
theorem dX3_poke_73 : decode cX3_poke 73 = .ok (.iload_n 1, 1) := by decide +kernel
theorem dX3_poke_74 : decode cX3_poke 74 = .ok (.iaload, 1) := by decide +kernel
theorem dX3_poke_75 : decode cX3_poke 75 = .ok (.iload_n 2, 1) := by decide +kernel
theorem dX3_poke_76 : decode cX3_poke 76 = .ok (.iadd, 1) := by decide +kernel
theorem dX3_poke_77 : decode cX3_poke 77 = .ok (.iload_n 3, 1) := by decide +kernel
theorem dX3_poke_78 : decode cX3_poke 78 = .ok (.iastore, 1) := by decide +kernel
theorem dX3_poke_79 : decode cX3_poke 79 = .ok (.iload 4, 2) := by decide +kernel
theorem dX3_poke_81 : decode cX3_poke 81 = .ok (.ireturn, 1) := by decide +kernel
set_option maxRecDepth 20000 in
theorem ggX3_peek_X3_isTold : GoodIn wsX3_peek wsX3_isTold := goodIn_r _ [8, 9, 15, 16, 17, 18, 19, 20, 21, 22, 23, 24, 25, 26, 27, 28, 29, 30, 31, 32, 33, 34, 35, 36, 37, 38, 39, 40, 41, 42, 43, 44] (by decide +kernel) (by decide +kernel)
set_option maxRecDepth 20000 in
theorem gX3_peek_X3_isTold : GoodIn wsX3_peek (wsV RX3 81 RX3 yX3_isTold wsX3_isTold) := goodIn_app (goodIn_of _ (by decide +kernel)) ggX3_peek_X3_isTold
set_option maxRecDepth 20000 in
theorem ggX3_peek_X3_noWord : GoodIn wsX3_peek wsX3_noWord := goodIn_r _ [13, 14, 15, 16, 17, 18, 19, 20, 21, 22, 23, 24, 25, 26, 27, 28, 29, 30, 31, 32, 33, 34, 35, 36, 37, 38, 39, 40, 41, 42, 43, 44] (by decide +kernel) (by decide +kernel)
set_option maxRecDepth 20000 in
theorem gX3_peek_X3_noWord : GoodIn wsX3_peek (wsV RX3 96 RX3 yX3_noWord wsX3_noWord) := goodIn_app (goodIn_of _ (by decide +kernel)) ggX3_peek_X3_noWord
theorem dX3_peek_0 : decode cX3_peek 0 = .ok (.aload_n 0, 1) := by decide +kernel
theorem dX3_peek_1 : decode cX3_peek 1 = .ok (.aload_n 0, 1) := by decide +kernel
theorem dX3_peek_2 : decode cX3_peek 2 = .ok (.iload_n 1, 1) := by decide +kernel
theorem dX3_peek_3 : decode cX3_peek 3 = .ok (.invokevirtual 81, 3) := by decide +kernel
theorem dX3_peek_6 : decode cX3_peek 6 = .ok (.ifCond .ne 7, 3) := by decide +kernel
theorem dX3_peek_9 : decode cX3_peek 9 = .ok (.iconst 1, 1) := by decide +kernel
theorem dX3_peek_10 : decode cX3_peek 10 = .ok (.goto 17, 3) := by decide +kernel
theorem dX3_peek_13 : decode cX3_peek 13 = .ok (.aload_n 0, 1) := by decide +kernel
theorem dX3_peek_14 : decode cX3_peek 14 = .ok (.iload_n 1, 1) := by decide +kernel
theorem dX3_peek_15 : decode cX3_peek 15 = .ok (.iload_n 2, 1) := by decide +kernel
theorem dX3_peek_16 : decode cX3_peek 16 = .ok (.invokevirtual 96, 3) := by decide +kernel
theorem dX3_peek_19 : decode cX3_peek 19 = .ok (.ifCond .eq 7, 3) := by decide +kernel
theorem dX3_peek_22 : decode cX3_peek 22 = .ok (.iconst 2, 1) := by decide +kernel
theorem dX3_peek_23 : decode cX3_peek 23 = .ok (.goto 4, 3) := by decide +kernel
theorem dX3_peek_26 : decode cX3_peek 26 = .ok (.iconst 0, 1) := by decide +kernel
theorem dX3_peek_27 : decode cX3_peek 27 = .ok (.putfield 77, 3) := by decide +kernel
theorem dX3_peek_30 : decode cX3_peek 30 = .ok (.aload_n 0, 1) := by decide +kernel
theorem dX3_peek_31 : decode cX3_peek 31 = .ok (.getfield 77, 3) := by decide +kernel
theorem dX3_peek_34 : decode cX3_peek 34 = .ok (.ifCond .le 7, 3) := by decide +kernel
theorem dX3_peek_37 : decode cX3_peek 37 = .ok (.iconst 0, 1) := by decide +kernel
theorem dX3_peek_38 : decode cX3_peek 38 = .ok (.goto 16, 3) := by decide +kernel
theorem dX3_peek_41 : decode cX3_peek 41 = .ok (.aload_n 0, 1) := by decide +kernel
theorem dX3_peek_42 : decode cX3_peek 42 = .ok (.getfield 7, 3) := by decide +kernel
theorem dX3_peek_45 : decode cX3_peek 45 = .ok (.aload_n 0, 1) := by decide +kernel
theorem dX3_peek_46 : decode cX3_peek 46 = .ok (.getfield 13, 3) := by decide +kernel
theorem dX3_peek_49 : decode cX3_peek 49 = .ok (.iload_n 1, 1) := by decide +kernel
theorem dX3_peek_50 : decode cX3_peek 50 = .ok (.iaload, 1) := by decide +kernel
theorem dX3_peek_51 : decode cX3_peek 51 = .ok (.iload_n 2, 1) := by decide +kernel
theorem dX3_peek_52 : decode cX3_peek 52 = .ok (.iadd, 1) := by decide +kernel
theorem dX3_peek_53 : decode cX3_peek 53 = .ok (.iaload, 1) := by decide +kernel
theorem dX3_peek_54 : decode cX3_peek 54 = .ok (.ireturn, 1) := by decide +kernel
theorem dX3_seal_0 : decode cX3_seal 0 = .ok (.aload_n 0, 1) := by decide +kernel
theorem dX3_seal_1 : decode cX3_seal 1 = .ok (.aload_n 0, 1) := by decide +kernel
theorem dX3_seal_2 : decode cX3_seal 2 = .ok (.getfield 85, 3) := by decide +kernel
theorem dX3_seal_5 : decode cX3_seal 5 = .ok (.ifCond .ne 10, 3) := by decide +kernel
theorem dX3_seal_8 : decode cX3_seal 8 = .ok (.aload_n 0, 1) := by decide +kernel
theorem dX3_seal_9 : decode cX3_seal 9 = .ok (.getfield 93, 3) := by decide +kernel
theorem dX3_seal_12 : decode cX3_seal 12 = .ok (.ifCond .ne 7, 3) := by decide +kernel
theorem dX3_seal_15 : decode cX3_seal 15 = .ok (.iconst 1, 1) := by decide +kernel
theorem dX3_seal_16 : decode cX3_seal 16 = .ok (.goto 4, 3) := by decide +kernel
theorem dX3_seal_19 : decode cX3_seal 19 = .ok (.iconst 0, 1) := by decide +kernel
theorem dX3_seal_20 : decode cX3_seal 20 = .ok (.putfield 77, 3) := by decide +kernel
theorem dX3_seal_23 : decode cX3_seal 23 = .ok (.aload_n 0, 1) := by decide +kernel
theorem dX3_seal_24 : decode cX3_seal 24 = .ok (.getfield 77, 3) := by decide +kernel
theorem dX3_seal_27 : decode cX3_seal 27 = .ok (.ifCond .le 5, 3) := by decide +kernel
theorem dX3_seal_30 : decode cX3_seal 30 = .ok (.iconst 0, 1) := by decide +kernel
theorem dX3_seal_31 : decode cX3_seal 31 = .ok (.ireturn, 1) := by decide +kernel
theorem dX3_seal_32 : decode cX3_seal 32 = .ok (.aload_n 0, 1) := by decide +kernel
theorem dX3_seal_33 : decode cX3_seal 33 = .ok (.iconst 1, 1) := by decide +kernel
theorem dX3_seal_34 : decode cX3_seal 34 = .ok (.putfield 85, 3) := by decide +kernel
theorem dX3_seal_37 : decode cX3_seal 37 = .ok (.aload_n 0, 1) := by decide +kernel
theorem dX3_seal_38 : decode cX3_seal 38 = .ok (.aload_n 0, 1) := by decide +kernel
theorem dX3_seal_39 : decode cX3_seal 39 = .ok (.getfield 46, 3) := by decide +kernel
theorem dX3_seal_42 : decode cX3_seal 42 = .ok (.iconst 0, 1) := by decide +kernel
theorem dX3_seal_43 : decode cX3_seal 43 = .ok (.iaload, 1) := by decide +kernel
theorem dX3_seal_44 : decode cX3_seal 44 = .ok (.putfield 99, 3) := by decide +kernel
theorem dX3_seal_47 : decode cX3_seal 47 = .ok (.iconst 0, 1) := by decide +kernel
theorem dX3_seal_48 : decode cX3_seal 48 = .ok (.istore_n 1, 1) := by decide +kernel
theorem dX3_seal_49 : decode cX3_seal 49 = .ok (.iconst 0, 1) := by decide +kernel
theorem dX3_seal_50 : decode cX3_seal 50 = .ok (.istore_n 2, 1) := by decide +kernel
theorem dX3_seal_51 : decode cX3_seal 51 = .ok (.iload_n 2, 1) := by decide +kernel
theorem dX3_seal_52 : decode cX3_seal 52 = .ok (.aload_n 0, 1) := by decide +kernel
theorem dX3_seal_53 : decode cX3_seal 53 = .ok (.getfield 93, 3) := by decide +kernel
theorem dX3_seal_56 : decode cX3_seal 56 = .ok (.if_icmp .ge 18, 3) := by decide +kernel
theorem dX3_seal_59 : decode cX3_seal 59 = .ok (.iload_n 1, 1) := by decide +kernel
theorem dX3_seal_60 : decode cX3_seal 60 = .ok (.aload_n 0, 1) := by decide +kernel
theorem dX3_seal_61 : decode cX3_seal 61 = .ok (.getfield 46, 3) := by decide +kernel
theorem dX3_seal_64 : decode cX3_seal 64 = .ok (.iload_n 2, 1) := by decide +kernel
theorem dX3_seal_65 : decode cX3_seal 65 = .ok (.iaload, 1) := by decide +kernel
theorem dX3_seal_66 : decode cX3_seal 66 = .ok (.iadd, 1) := by decide +kernel
theorem dX3_seal_67 : decode cX3_seal 67 = .ok (.istore_n 1, 1) := by decide +kernel
theorem dX3_seal_68 : decode cX3_seal 68 = .ok (.iinc 2 1, 3) := by decide +kernel
theorem dX3_seal_71 : decode cX3_seal 71 = .ok (.goto (-20), 3) := by decide +kernel
theorem dX3_seal_74 : decode cX3_seal 74 = .ok (.iload_n 1, 1) := by decide +kernel
theorem dX3_seal_75 : decode cX3_seal 75 = .ok (.ireturn, 1) := by decide +kernel
theorem dX3_send_0 : decode cX3_send 0 = .ok (.iload 4, 2) := by decide +kernel
theorem dX3_send_2 : decode cX3_send 2 = .ok (.ifCond .lt 31, 3) := by decide +kernel
theorem dX3_send_5 : decode cX3_send 5 = .ok (.iload 4, 2) := by decide +kernel
theorem dX3_send_7 : decode cX3_send 7 = .ok (.bipush 7, 2) := by decide +kernel
theorem dX3_send_9 : decode cX3_send 9 = .ok (.if_icmp .gt 24, 3) := by decide +kernel
theorem dX3_send_12 : decode cX3_send 12 = .ok (.aload_n 0, 1) := by decide +kernel
theorem dX3_send_13 : decode cX3_send 13 = .ok (.getfield 49, 3) := by decide +kernel
theorem dX3_send_16 : decode cX3_send 16 = .ok (.iload 4, 2) := by decide +kernel
theorem dX3_send_18 : decode cX3_send 18 = .ok (.baload, 1) := by decide +kernel
theorem dX3_send_19 : decode cX3_send 19 = .ok (.ifCond .eq 14, 3) := by decide +kernel
theorem dX3_send_22 : decode cX3_send 22 = .ok (.aload_n 0, 1) := by decide +kernel
theorem dX3_send_23 : decode cX3_send 23 = .ok (.getfield 53, 3) := by decide +kernel
theorem dX3_send_26 : decode cX3_send 26 = .ok (.iload 4, 2) := by decide +kernel
theorem dX3_send_28 : decode cX3_send 28 = .ok (.iaload, 1) := by decide +kernel
theorem dX3_send_29 : decode cX3_send 29 = .ok (.iload_n 1, 1) := by decide +kernel
theorem dX3_send_30 : decode cX3_send 30 = .ok (.if_icmp .eq 9, 3) := by decide +kernel
theorem dX3_send_33 : decode cX3_send 33 = .ok (.aload_n 0, 1) := by decide +kernel
theorem dX3_send_34 : decode cX3_send 34 = .ok (.iconst 3, 1) := by decide +kernel
theorem dX3_send_35 : decode cX3_send 35 = .ok (.putfield 102, 3) := by decide +kernel
theorem dX3_send_38 : decode cX3_send 38 = .ok (.return_, 1) := by decide +kernel
theorem dX3_send_39 : decode cX3_send 39 = .ok (.aload_n 0, 1) := by decide +kernel
theorem dX3_send_40 : decode cX3_send 40 = .ok (.getfield 59, 3) := by decide +kernel
theorem dX3_send_43 : decode cX3_send 43 = .ok (.iload 4, 2) := by decide +kernel
theorem dX3_send_45 : decode cX3_send 45 = .ok (.iaload, 1) := by decide +kernel
theorem dX3_send_46 : decode cX3_send 46 = .ok (.ifCond .ne 64, 3) := by decide +kernel
theorem dX3_send_49 : decode cX3_send 49 = .ok (.aload_n 0, 1) := by decide +kernel
theorem dX3_send_50 : decode cX3_send 50 = .ok (.getfield 62, 3) := by decide +kernel
theorem dX3_send_53 : decode cX3_send 53 = .ok (.bipush 8, 2) := by decide +kernel
theorem dX3_send_55 : decode cX3_send 55 = .ok (.iload 4, 2) := by decide +kernel
theorem dX3_send_57 : decode cX3_send 57 = .ok (.imul, 1) := by decide +kernel
theorem dX3_send_58 : decode cX3_send 58 = .ok (.aload_n 0, 1) := by decide +kernel
theorem dX3_send_59 : decode cX3_send 59 = .ok (.getfield 28, 3) := by decide +kernel
theorem dX3_send_62 : decode cX3_send 62 = .ok (.iconst 4, 1) := by decide +kernel
theorem dX3_send_63 : decode cX3_send 63 = .ok (.iload_n 1, 1) := by decide +kernel
theorem dX3_send_64 : decode cX3_send 64 = .ok (.imul, 1) := by decide +kernel
theorem dX3_send_65 : decode cX3_send 65 = .ok (.iload_n 2, 1) := by decide +kernel
theorem dX3_send_66 : decode cX3_send 66 = .ok (.iadd, 1) := by decide +kernel
theorem dX3_send_67 : decode cX3_send 67 = .ok (.iaload, 1) := by decide +kernel
theorem dX3_send_68 : decode cX3_send 68 = .ok (.iastore, 1) := by decide +kernel
theorem dX3_send_69 : decode cX3_send 69 = .ok (.aload_n 0, 1) := by decide +kernel
theorem dX3_send_70 : decode cX3_send 70 = .ok (.getfield 65, 3) := by decide +kernel
theorem dX3_send_73 : decode cX3_send 73 = .ok (.iload 4, 2) := by decide +kernel
theorem dX3_send_75 : decode cX3_send 75 = .ok (.iconst 1, 1) := by decide +kernel
theorem dX3_send_76 : decode cX3_send 76 = .ok (.iastore, 1) := by decide +kernel
theorem dX3_send_77 : decode cX3_send 77 = .ok (.aload_n 0, 1) := by decide +kernel
theorem dX3_send_78 : decode cX3_send 78 = .ok (.getfield 68, 3) := by decide +kernel
theorem dX3_send_81 : decode cX3_send 81 = .ok (.iload 4, 2) := by decide +kernel
theorem dX3_send_83 : decode cX3_send 83 = .ok (.iconst 0, 1) := by decide +kernel
theorem dX3_send_84 : decode cX3_send 84 = .ok (.iastore, 1) := by decide +kernel
theorem dX3_send_85 : decode cX3_send 85 = .ok (.aload_n 0, 1) := by decide +kernel
theorem dX3_send_86 : decode cX3_send 86 = .ok (.getfield 71, 3) := by decide +kernel
theorem dX3_send_89 : decode cX3_send 89 = .ok (.iload 4, 2) := by decide +kernel
theorem dX3_send_91 : decode cX3_send 91 = .ok (.dup2, 1) := by decide +kernel
theorem dX3_send_92 : decode cX3_send 92 = .ok (.iaload, 1) := by decide +kernel
theorem dX3_send_93 : decode cX3_send 93 = .ok (.iconst 1, 1) := by decide +kernel
theorem dX3_send_94 : decode cX3_send 94 = .ok (.iadd, 1) := by decide +kernel
theorem dX3_send_95 : decode cX3_send 95 = .ok (.iastore, 1) := by decide +kernel
theorem dX3_send_96 : decode cX3_send 96 = .ok (.aload_n 0, 1) := by decide +kernel
theorem dX3_send_97 : decode cX3_send 97 = .ok (.getfield 28, 3) := by decide +kernel
theorem dX3_send_100 : decode cX3_send 100 = .ok (.iconst 4, 1) := by decide +kernel
theorem dX3_send_101 : decode cX3_send 101 = .ok (.iload_n 1, 1) := by decide +kernel
theorem dX3_send_102 : decode cX3_send 102 = .ok (.imul, 1) := by decide +kernel
theorem dX3_send_103 : decode cX3_send 103 = .ok (.iload_n 3, 1) := by decide +kernel
theorem dX3_send_104 : decode cX3_send 104 = .ok (.iadd, 1) := by decide +kernel
theorem dX3_send_105 : decode cX3_send 105 = .ok (.iconst 1, 1) := by decide +kernel
theorem dX3_send_106 : decode cX3_send 106 = .ok (.iastore, 1) := by decide +kernel
theorem dX3_send_107 : decode cX3_send 107 = .ok (.goto 106, 3) := by decide +kernel
theorem dX3_send_110 : decode cX3_send 110 = .ok (.aload_n 0, 1) := by decide +kernel
theorem dX3_send_111 : decode cX3_send 111 = .ok (.getfield 65, 3) := by decide +kernel
theorem dX3_send_114 : decode cX3_send 114 = .ok (.iload 4, 2) := by decide +kernel
theorem dX3_send_116 : decode cX3_send 116 = .ok (.iaload, 1) := by decide +kernel
theorem dX3_send_117 : decode cX3_send 117 = .ok (.aload_n 0, 1) := by decide +kernel
theorem dX3_send_118 : decode cX3_send 118 = .ok (.getfield 59, 3) := by decide +kernel
theorem dX3_send_121 : decode cX3_send 121 = .ok (.iload 4, 2) := by decide +kernel
theorem dX3_send_123 : decode cX3_send 123 = .ok (.iaload, 1) := by decide +kernel
theorem dX3_send_124 : decode cX3_send 124 = .ok (.if_icmp .ne 28, 3) := by decide +kernel
theorem dX3_send_127 : decode cX3_send 127 = .ok (.aload_n 0, 1) := by decide +kernel
theorem dX3_send_128 : decode cX3_send 128 = .ok (.getfield 74, 3) := by decide +kernel
theorem dX3_send_131 : decode cX3_send 131 = .ok (.iload 4, 2) := by decide +kernel
theorem dX3_send_133 : decode cX3_send 133 = .ok (.dup2, 1) := by decide +kernel
theorem dX3_send_134 : decode cX3_send 134 = .ok (.iaload, 1) := by decide +kernel
theorem dX3_send_135 : decode cX3_send 135 = .ok (.iconst 1, 1) := by decide +kernel
theorem dX3_send_136 : decode cX3_send 136 = .ok (.iadd, 1) := by decide +kernel
theorem dX3_send_137 : decode cX3_send 137 = .ok (.iastore, 1) := by decide +kernel
theorem dX3_send_138 : decode cX3_send 138 = .ok (.aload_n 0, 1) := by decide +kernel
theorem dX3_send_139 : decode cX3_send 139 = .ok (.getfield 28, 3) := by decide +kernel
theorem dX3_send_142 : decode cX3_send 142 = .ok (.iconst 4, 1) := by decide +kernel
theorem dX3_send_143 : decode cX3_send 143 = .ok (.iload_n 1, 1) := by decide +kernel
theorem dX3_send_144 : decode cX3_send 144 = .ok (.imul, 1) := by decide +kernel
theorem dX3_send_145 : decode cX3_send 145 = .ok (.iload_n 3, 1) := by decide +kernel
theorem dX3_send_146 : decode cX3_send 146 = .ok (.iadd, 1) := by decide +kernel
theorem dX3_send_147 : decode cX3_send 147 = .ok (.iconst 0, 1) := by decide +kernel
theorem dX3_send_148 : decode cX3_send 148 = .ok (.iastore, 1) := by decide +kernel
theorem dX3_send_149 : decode cX3_send 149 = .ok (.goto 64, 3) := by decide +kernel
theorem dX3_send_152 : decode cX3_send 152 = .ok (.aload_n 0, 1) := by decide +kernel
theorem dX3_send_153 : decode cX3_send 153 = .ok (.getfield 62, 3) := by decide +kernel
theorem dX3_send_156 : decode cX3_send 156 = .ok (.bipush 8, 2) := by decide +kernel
theorem dX3_send_158 : decode cX3_send 158 = .ok (.iload 4, 2) := by decide +kernel
theorem dX3_send_160 : decode cX3_send 160 = .ok (.imul, 1) := by decide +kernel
theorem dX3_send_161 : decode cX3_send 161 = .ok (.aload_n 0, 1) := by decide +kernel
theorem dX3_send_162 : decode cX3_send 162 = .ok (.getfield 65, 3) := by decide +kernel
theorem dX3_send_165 : decode cX3_send 165 = .ok (.iload 4, 2) := by decide +kernel
theorem dX3_send_167 : decode cX3_send 167 = .ok (.iaload, 1) := by decide +kernel
theorem dX3_send_168 : decode cX3_send 168 = .ok (.iadd, 1) := by decide +kernel
theorem dX3_send_169 : decode cX3_send 169 = .ok (.aload_n 0, 1) := by decide +kernel
theorem dX3_send_170 : decode cX3_send 170 = .ok (.getfield 28, 3) := by decide +kernel
theorem dX3_send_173 : decode cX3_send 173 = .ok (.iconst 4, 1) := by decide +kernel
theorem dX3_send_174 : decode cX3_send 174 = .ok (.iload_n 1, 1) := by decide +kernel
theorem dX3_send_175 : decode cX3_send 175 = .ok (.imul, 1) := by decide +kernel
theorem dX3_send_176 : decode cX3_send 176 = .ok (.iload_n 2, 1) := by decide +kernel
theorem dX3_send_177 : decode cX3_send 177 = .ok (.iadd, 1) := by decide +kernel
theorem dX3_send_178 : decode cX3_send 178 = .ok (.iaload, 1) := by decide +kernel
theorem dX3_send_179 : decode cX3_send 179 = .ok (.iastore, 1) := by decide +kernel
theorem dX3_send_180 : decode cX3_send 180 = .ok (.aload_n 0, 1) := by decide +kernel
theorem dX3_send_181 : decode cX3_send 181 = .ok (.getfield 65, 3) := by decide +kernel
theorem dX3_send_184 : decode cX3_send 184 = .ok (.iload 4, 2) := by decide +kernel
theorem dX3_send_186 : decode cX3_send 186 = .ok (.dup2, 1) := by decide +kernel
theorem dX3_send_187 : decode cX3_send 187 = .ok (.iaload, 1) := by decide +kernel
theorem dX3_send_188 : decode cX3_send 188 = .ok (.iconst 1, 1) := by decide +kernel
theorem dX3_send_189 : decode cX3_send 189 = .ok (.iadd, 1) := by decide +kernel
theorem dX3_send_190 : decode cX3_send 190 = .ok (.iastore, 1) := by decide +kernel
theorem dX3_send_191 : decode cX3_send 191 = .ok (.aload_n 0, 1) := by decide +kernel
theorem dX3_send_192 : decode cX3_send 192 = .ok (.getfield 71, 3) := by decide +kernel
theorem dX3_send_195 : decode cX3_send 195 = .ok (.iload 4, 2) := by decide +kernel
theorem dX3_send_197 : decode cX3_send 197 = .ok (.dup2, 1) := by decide +kernel
theorem dX3_send_198 : decode cX3_send 198 = .ok (.iaload, 1) := by decide +kernel
theorem dX3_send_199 : decode cX3_send 199 = .ok (.iconst 1, 1) := by decide +kernel
theorem dX3_send_200 : decode cX3_send 200 = .ok (.iadd, 1) := by decide +kernel
theorem dX3_send_201 : decode cX3_send 201 = .ok (.iastore, 1) := by decide +kernel
theorem dX3_send_202 : decode cX3_send 202 = .ok (.aload_n 0, 1) := by decide +kernel
theorem dX3_send_203 : decode cX3_send 203 = .ok (.getfield 28, 3) := by decide +kernel
theorem dX3_send_206 : decode cX3_send 206 = .ok (.iconst 4, 1) := by decide +kernel
theorem dX3_send_207 : decode cX3_send 207 = .ok (.iload_n 1, 1) := by decide +kernel
theorem dX3_send_208 : decode cX3_send 208 = .ok (.imul, 1) := by decide +kernel
theorem dX3_send_209 : decode cX3_send 209 = .ok (.iload_n 3, 1) := by decide +kernel
theorem dX3_send_210 : decode cX3_send 210 = .ok (.iadd, 1) := by decide +kernel
theorem dX3_send_211 : decode cX3_send 211 = .ok (.iconst 1, 1) := by decide +kernel
theorem dX3_send_212 : decode cX3_send 212 = .ok (.iastore, 1) := by decide +kernel
theorem dX3_send_213 : decode cX3_send 213 = .ok (.return_, 1) := by decide +kernel
theorem dX3_take_0 : decode cX3_take 0 = .ok (.iload 4, 2) := by decide +kernel
theorem dX3_take_2 : decode cX3_take 2 = .ok (.ifCond .lt 31, 3) := by decide +kernel
theorem dX3_take_5 : decode cX3_take 5 = .ok (.iload 4, 2) := by decide +kernel
theorem dX3_take_7 : decode cX3_take 7 = .ok (.bipush 7, 2) := by decide +kernel
theorem dX3_take_9 : decode cX3_take 9 = .ok (.if_icmp .gt 24, 3) := by decide +kernel
theorem dX3_take_12 : decode cX3_take 12 = .ok (.aload_n 0, 1) := by decide +kernel
theorem dX3_take_13 : decode cX3_take 13 = .ok (.getfield 49, 3) := by decide +kernel
theorem dX3_take_16 : decode cX3_take 16 = .ok (.iload 4, 2) := by decide +kernel
theorem dX3_take_18 : decode cX3_take 18 = .ok (.baload, 1) := by decide +kernel
theorem dX3_take_19 : decode cX3_take 19 = .ok (.ifCond .eq 14, 3) := by decide +kernel
theorem dX3_take_22 : decode cX3_take 22 = .ok (.aload_n 0, 1) := by decide +kernel
theorem dX3_take_23 : decode cX3_take 23 = .ok (.getfield 56, 3) := by decide +kernel
theorem dX3_take_26 : decode cX3_take 26 = .ok (.iload 4, 2) := by decide +kernel
theorem dX3_take_28 : decode cX3_take 28 = .ok (.iaload, 1) := by decide +kernel
theorem dX3_take_29 : decode cX3_take 29 = .ok (.iload_n 1, 1) := by decide +kernel
theorem dX3_take_30 : decode cX3_take 30 = .ok (.if_icmp .eq 9, 3) := by decide +kernel
theorem dX3_take_33 : decode cX3_take 33 = .ok (.aload_n 0, 1) := by decide +kernel
theorem dX3_take_34 : decode cX3_take 34 = .ok (.iconst 3, 1) := by decide +kernel
theorem dX3_take_35 : decode cX3_take 35 = .ok (.putfield 102, 3) := by decide +kernel
theorem dX3_take_38 : decode cX3_take 38 = .ok (.return_, 1) := by decide +kernel
theorem dX3_take_39 : decode cX3_take 39 = .ok (.aload_n 0, 1) := by decide +kernel
theorem dX3_take_40 : decode cX3_take 40 = .ok (.getfield 65, 3) := by decide +kernel
theorem dX3_take_43 : decode cX3_take 43 = .ok (.iload 4, 2) := by decide +kernel
theorem dX3_take_45 : decode cX3_take 45 = .ok (.iaload, 1) := by decide +kernel
theorem dX3_take_46 : decode cX3_take 46 = .ok (.ifCond .ne 15, 3) := by decide +kernel
theorem dX3_take_49 : decode cX3_take 49 = .ok (.aload_n 0, 1) := by decide +kernel
theorem dX3_take_50 : decode cX3_take 50 = .ok (.getfield 28, 3) := by decide +kernel
theorem dX3_take_53 : decode cX3_take 53 = .ok (.iconst 4, 1) := by decide +kernel
theorem dX3_take_54 : decode cX3_take 54 = .ok (.iload_n 1, 1) := by decide +kernel
theorem dX3_take_55 : decode cX3_take 55 = .ok (.imul, 1) := by decide +kernel
theorem dX3_take_56 : decode cX3_take 56 = .ok (.iload_n 3, 1) := by decide +kernel
theorem dX3_take_57 : decode cX3_take 57 = .ok (.iadd, 1) := by decide +kernel
theorem dX3_take_58 : decode cX3_take 58 = .ok (.iconst 0, 1) := by decide +kernel
theorem dX3_take_59 : decode cX3_take 59 = .ok (.iastore, 1) := by decide +kernel
theorem dX3_take_60 : decode cX3_take 60 = .ok (.return_, 1) := by decide +kernel
theorem dX3_take_61 : decode cX3_take 61 = .ok (.aload_n 0, 1) := by decide +kernel
theorem dX3_take_62 : decode cX3_take 62 = .ok (.getfield 28, 3) := by decide +kernel
theorem dX3_take_65 : decode cX3_take 65 = .ok (.iconst 4, 1) := by decide +kernel
theorem dX3_take_66 : decode cX3_take 66 = .ok (.iload_n 1, 1) := by decide +kernel
theorem dX3_take_67 : decode cX3_take 67 = .ok (.imul, 1) := by decide +kernel
theorem dX3_take_68 : decode cX3_take 68 = .ok (.iload_n 2, 1) := by decide +kernel
theorem dX3_take_69 : decode cX3_take 69 = .ok (.iadd, 1) := by decide +kernel
theorem dX3_take_70 : decode cX3_take 70 = .ok (.aload_n 0, 1) := by decide +kernel
theorem dX3_take_71 : decode cX3_take 71 = .ok (.getfield 62, 3) := by decide +kernel
theorem dX3_take_74 : decode cX3_take 74 = .ok (.bipush 8, 2) := by decide +kernel
theorem dX3_take_76 : decode cX3_take 76 = .ok (.iload 4, 2) := by decide +kernel
theorem dX3_take_78 : decode cX3_take 78 = .ok (.imul, 1) := by decide +kernel
theorem dX3_take_79 : decode cX3_take 79 = .ok (.iaload, 1) := by decide +kernel
theorem dX3_take_80 : decode cX3_take 80 = .ok (.iastore, 1) := by decide +kernel
theorem dX3_take_81 : decode cX3_take 81 = .ok (.aload_n 0, 1) := by decide +kernel
theorem dX3_take_82 : decode cX3_take 82 = .ok (.getfield 59, 3) := by decide +kernel
theorem dX3_take_85 : decode cX3_take 85 = .ok (.iload 4, 2) := by decide +kernel
theorem dX3_take_87 : decode cX3_take 87 = .ok (.iaload, 1) := by decide +kernel
theorem dX3_take_88 : decode cX3_take 88 = .ok (.ifCond .ne 23, 3) := by decide +kernel
theorem dX3_take_91 : decode cX3_take 91 = .ok (.aload_n 0, 1) := by decide +kernel
theorem dX3_take_92 : decode cX3_take 92 = .ok (.getfield 28, 3) := by decide +kernel
theorem dX3_take_95 : decode cX3_take 95 = .ok (.iconst 4, 1) := by decide +kernel
theorem dX3_take_96 : decode cX3_take 96 = .ok (.iload_n 1, 1) := by decide +kernel
theorem dX3_take_97 : decode cX3_take 97 = .ok (.imul, 1) := by decide +kernel
theorem dX3_take_98 : decode cX3_take 98 = .ok (.iload_n 3, 1) := by decide +kernel
theorem dX3_take_99 : decode cX3_take 99 = .ok (.iadd, 1) := by decide +kernel
theorem dX3_take_100 : decode cX3_take 100 = .ok (.aload_n 0, 1) := by decide +kernel
theorem dX3_take_101 : decode cX3_take 101 = .ok (.getfield 68, 3) := by decide +kernel
theorem dX3_take_104 : decode cX3_take 104 = .ok (.iload 4, 2) := by decide +kernel
theorem dX3_take_106 : decode cX3_take 106 = .ok (.iaload, 1) := by decide +kernel
theorem dX3_take_107 : decode cX3_take 107 = .ok (.iconst 1, 1) := by decide +kernel
theorem dX3_take_108 : decode cX3_take 108 = .ok (.iadd, 1) := by decide +kernel
theorem dX3_take_109 : decode cX3_take 109 = .ok (.iastore, 1) := by decide +kernel
theorem dX3_take_110 : decode cX3_take 110 = .ok (.return_, 1) := by decide +kernel
theorem dX3_take_111 : decode cX3_take 111 = .ok (.aload_n 0, 1) := by decide +kernel
theorem dX3_take_112 : decode cX3_take 112 = .ok (.getfield 28, 3) := by decide +kernel
theorem dX3_take_115 : decode cX3_take 115 = .ok (.iconst 4, 1) := by decide +kernel
theorem dX3_take_116 : decode cX3_take 116 = .ok (.iload_n 1, 1) := by decide +kernel
theorem dX3_take_117 : decode cX3_take 117 = .ok (.imul, 1) := by decide +kernel
theorem dX3_take_118 : decode cX3_take 118 = .ok (.iload_n 3, 1) := by decide +kernel
theorem dX3_take_119 : decode cX3_take 119 = .ok (.iadd, 1) := by decide +kernel
theorem dX3_take_120 : decode cX3_take 120 = .ok (.iconst 1, 1) := by decide +kernel
theorem dX3_take_121 : decode cX3_take 121 = .ok (.iastore, 1) := by decide +kernel
theorem dX3_take_122 : decode cX3_take 122 = .ok (.aload_n 0, 1) := by decide +kernel
theorem dX3_take_123 : decode cX3_take 123 = .ok (.getfield 65, 3) := by decide +kernel
theorem dX3_take_126 : decode cX3_take 126 = .ok (.iload 4, 2) := by decide +kernel
theorem dX3_take_128 : decode cX3_take 128 = .ok (.dup2, 1) := by decide +kernel
theorem dX3_take_129 : decode cX3_take 129 = .ok (.iaload, 1) := by decide +kernel
theorem dX3_take_130 : decode cX3_take 130 = .ok (.iconst 1, 1) := by decide +kernel
theorem dX3_take_131 : decode cX3_take 131 = .ok (.isub, 1) := by decide +kernel
theorem dX3_take_132 : decode cX3_take 132 = .ok (.iastore, 1) := by decide +kernel
theorem dX3_take_133 : decode cX3_take 133 = .ok (.iconst 0, 1) := by decide +kernel
theorem dX3_take_134 : decode cX3_take 134 = .ok (.istore 5, 2) := by decide +kernel
theorem dX3_take_136 : decode cX3_take 136 = .ok (.iload 5, 2) := by decide +kernel
theorem dX3_take_138 : decode cX3_take 138 = .ok (.aload_n 0, 1) := by decide +kernel
theorem dX3_take_139 : decode cX3_take 139 = .ok (.getfield 65, 3) := by decide +kernel
theorem dX3_take_142 : decode cX3_take 142 = .ok (.iload 4, 2) := by decide +kernel
theorem dX3_take_144 : decode cX3_take 144 = .ok (.iaload, 1) := by decide +kernel
theorem dX3_take_145 : decode cX3_take 145 = .ok (.if_icmp .ge 37, 3) := by decide +kernel
theorem dX3_take_148 : decode cX3_take 148 = .ok (.aload_n 0, 1) := by decide +kernel
theorem dX3_take_149 : decode cX3_take 149 = .ok (.getfield 62, 3) := by decide +kernel
theorem dX3_take_152 : decode cX3_take 152 = .ok (.bipush 8, 2) := by decide +kernel
theorem dX3_take_154 : decode cX3_take 154 = .ok (.iload 4, 2) := by decide +kernel
theorem dX3_take_156 : decode cX3_take 156 = .ok (.imul, 1) := by decide +kernel
theorem dX3_take_157 : decode cX3_take 157 = .ok (.iload 5, 2) := by decide +kernel
theorem dX3_take_159 : decode cX3_take 159 = .ok (.iadd, 1) := by decide +kernel
theorem dX3_take_160 : decode cX3_take 160 = .ok (.aload_n 0, 1) := by decide +kernel
theorem dX3_take_161 : decode cX3_take 161 = .ok (.getfield 62, 3) := by decide +kernel
theorem dX3_take_164 : decode cX3_take 164 = .ok (.bipush 8, 2) := by decide +kernel
theorem dX3_take_166 : decode cX3_take 166 = .ok (.iload 4, 2) := by decide +kernel
theorem dX3_take_168 : decode cX3_take 168 = .ok (.imul, 1) := by decide +kernel
theorem dX3_take_169 : decode cX3_take 169 = .ok (.iload 5, 2) := by decide +kernel
theorem dX3_take_171 : decode cX3_take 171 = .ok (.iadd, 1) := by decide +kernel
theorem dX3_take_172 : decode cX3_take 172 = .ok (.iconst 1, 1) := by decide +kernel
theorem dX3_take_173 : decode cX3_take 173 = .ok (.iadd, 1) := by decide +kernel
theorem dX3_take_174 : decode cX3_take 174 = .ok (.iaload, 1) := by decide +kernel
theorem dX3_take_175 : decode cX3_take 175 = .ok (.iastore, 1) := by decide +kernel
theorem dX3_take_176 : decode cX3_take 176 = .ok (.iinc 5 1, 3) := by decide +kernel
theorem dX3_take_179 : decode cX3_take 179 = .ok (.goto (-43), 3) := by decide +kernel
theorem dX3_take_182 : decode cX3_take 182 = .ok (.return_, 1) := by decide +kernel
set_option maxRecDepth 20000 in
theorem ggX3_act_X3_noWord : GoodIn wsX3_act wsX3_noWord := goodIn_r _ [13, 14, 32, 33, 34, 35, 36, 37, 38, 39, 40, 41, 42, 43, 44, 45, 46, 47, 48, 49, 50, 51, 52, 53, 54, 55, 56, 57, 58, 59, 60, 61] (by decide +kernel) (by decide +kernel)
set_option maxRecDepth 20000 in
theorem gX3_act_X3_noWord : GoodIn wsX3_act (wsV RX3 96 RX3 yX3_noWord wsX3_noWord) := goodIn_app (goodIn_of _ (by decide +kernel)) ggX3_act_X3_noWord
set_option maxRecDepth 20000 in
theorem ggX3_act_X3_send : GoodIn wsX3_act wsX3_send := goodIn_r _ [18, 19, 20, 4, 21, 22, 1, 23, 24, 25, 26, 32, 33, 34, 35, 36, 37, 38, 39, 40, 41, 42, 43, 44, 45, 46, 47, 48, 49, 50, 51, 52, 53, 54, 55, 56, 57, 58, 59, 60, 61] (by decide +kernel) (by decide +kernel)
set_option maxRecDepth 20000 in
theorem gX3_act_X3_send : GoodIn wsX3_act (wsV RX3 105 RX3 yX3_send wsX3_send) := goodIn_app (goodIn_of _ (by decide +kernel)) ggX3_act_X3_send
set_option maxRecDepth 20000 in
theorem ggX3_act_X3_take : GoodIn wsX3_act wsX3_take := goodIn_r _ [30, 19, 31, 4, 23, 1, 22, 21, 24, 32, 33, 34, 35, 36, 37, 38, 39, 40, 41, 42, 43, 44, 45, 46, 47, 48, 49, 50, 51, 52, 53, 54, 55, 56, 57, 58, 59, 60, 61] (by decide +kernel) (by decide +kernel)
set_option maxRecDepth 20000 in
theorem gX3_act_X3_take : GoodIn wsX3_act (wsV RX3 109 RX3 yX3_take wsX3_take) := goodIn_app (goodIn_of _ (by decide +kernel)) ggX3_act_X3_take
theorem dX3_act_0 : decode cX3_act 0 = .ok (.iload_n 2, 1) := by decide +kernel
theorem dX3_act_1 : decode cX3_act 1 = .ok (.bipush 15, 2) := by decide +kernel
theorem dX3_act_3 : decode cX3_act 3 = .ok (.iand, 1) := by decide +kernel
theorem dX3_act_4 : decode cX3_act 4 = .ok (.istore_n 3, 1) := by decide +kernel
theorem dX3_act_5 : decode cX3_act 5 = .ok (.iload_n 2, 1) := by decide +kernel
theorem dX3_act_6 : decode cX3_act 6 = .ok (.iconst 4, 1) := by decide +kernel
theorem dX3_act_7 : decode cX3_act 7 = .ok (.ishr, 1) := by decide +kernel
theorem dX3_act_8 : decode cX3_act 8 = .ok (.iconst 3, 1) := by decide +kernel
theorem dX3_act_9 : decode cX3_act 9 = .ok (.iand, 1) := by decide +kernel
theorem dX3_act_10 : decode cX3_act 10 = .ok (.istore 4, 2) := by decide +kernel
theorem dX3_act_12 : decode cX3_act 12 = .ok (.iload_n 2, 1) := by decide +kernel
theorem dX3_act_13 : decode cX3_act 13 = .ok (.bipush 6, 2) := by decide +kernel
theorem dX3_act_15 : decode cX3_act 15 = .ok (.ishr, 1) := by decide +kernel
theorem dX3_act_16 : decode cX3_act 16 = .ok (.iconst 3, 1) := by decide +kernel
theorem dX3_act_17 : decode cX3_act 17 = .ok (.iand, 1) := by decide +kernel
theorem dX3_act_18 : decode cX3_act 18 = .ok (.istore 5, 2) := by decide +kernel
theorem dX3_act_20 : decode cX3_act 20 = .ok (.iload_n 2, 1) := by decide +kernel
theorem dX3_act_21 : decode cX3_act 21 = .ok (.bipush 8, 2) := by decide +kernel
theorem dX3_act_23 : decode cX3_act 23 = .ok (.ishr, 1) := by decide +kernel
theorem dX3_act_24 : decode cX3_act 24 = .ok (.istore 6, 2) := by decide +kernel
theorem dX3_act_26 : decode cX3_act 26 = .ok (.aload_n 0, 1) := by decide +kernel
theorem dX3_act_27 : decode cX3_act 27 = .ok (.getfield 28, 3) := by decide +kernel
theorem dX3_act_30 : decode cX3_act 30 = .ok (.iconst 4, 1) := by decide +kernel
theorem dX3_act_31 : decode cX3_act 31 = .ok (.iload_n 1, 1) := by decide +kernel
theorem dX3_act_32 : decode cX3_act 32 = .ok (.imul, 1) := by decide +kernel
theorem dX3_act_33 : decode cX3_act 33 = .ok (.iload 4, 2) := by decide +kernel
theorem dX3_act_35 : decode cX3_act 35 = .ok (.iadd, 1) := by decide +kernel
theorem dX3_act_36 : decode cX3_act 36 = .ok (.iaload, 1) := by decide +kernel
theorem dX3_act_37 : decode cX3_act 37 = .ok (.istore 7, 2) := by decide +kernel
theorem dX3_act_39 : decode cX3_act 39 = .ok (.aload_n 0, 1) := by decide +kernel
theorem dX3_act_40 : decode cX3_act 40 = .ok (.getfield 28, 3) := by decide +kernel
theorem dX3_act_43 : decode cX3_act 43 = .ok (.iconst 4, 1) := by decide +kernel
theorem dX3_act_44 : decode cX3_act 44 = .ok (.iload_n 1, 1) := by decide +kernel
theorem dX3_act_45 : decode cX3_act 45 = .ok (.imul, 1) := by decide +kernel
theorem dX3_act_46 : decode cX3_act 46 = .ok (.iload 5, 2) := by decide +kernel
theorem dX3_act_48 : decode cX3_act 48 = .ok (.iadd, 1) := by decide +kernel
theorem dX3_act_49 : decode cX3_act 49 = .ok (.iaload, 1) := by decide +kernel
theorem dX3_act_50 : decode cX3_act 50 = .ok (.istore 8, 2) := by decide +kernel
theorem dX3_act_52 : decode cX3_act 52 = .ok (.aload_n 0, 1) := by decide +kernel
theorem dX3_act_53 : decode cX3_act 53 = .ok (.getfield 25, 3) := by decide +kernel
theorem dX3_act_56 : decode cX3_act 56 = .ok (.iload_n 1, 1) := by decide +kernel
theorem dX3_act_57 : decode cX3_act 57 = .ok (.iaload, 1) := by decide +kernel
theorem dX3_act_58 : decode cX3_act 58 = .ok (.iconst 1, 1) := by decide +kernel
theorem dX3_act_59 : decode cX3_act 59 = .ok (.iadd, 1) := by decide +kernel
theorem dX3_act_60 : decode cX3_act 60 = .ok (.istore 9, 2) := by decide +kernel
theorem dX3_act_62 : decode cX3_act 62 = .ok (.iload 8, 2) := by decide +kernel
theorem dX3_act_64 : decode cX3_act 64 = .ok (.iload 6, 2) := by decide +kernel
theorem dX3_act_66 : decode cX3_act 66 = .ok (.iadd, 1) := by decide +kernel
theorem dX3_act_67 : decode cX3_act 67 = .ok (.istore 10, 2) := by decide +kernel
theorem dX3_act_69 : decode cX3_act 69 = .ok (.iload_n 3, 1) := by decide +kernel
theorem dX3_act_70 : decode cX3_act 70 = .ok (.ifCond .ne 13, 3) := by decide +kernel
theorem dX3_act_73 : decode cX3_act 73 = .ok (.aload_n 0, 1) := by decide +kernel
theorem dX3_act_74 : decode cX3_act 74 = .ok (.getfield 22, 3) := by decide +kernel
theorem dX3_act_77 : decode cX3_act 77 = .ok (.iload_n 1, 1) := by decide +kernel
theorem dX3_act_78 : decode cX3_act 78 = .ok (.iconst 2, 1) := by decide +kernel
theorem dX3_act_79 : decode cX3_act 79 = .ok (.iastore, 1) := by decide +kernel
theorem dX3_act_80 : decode cX3_act 80 = .ok (.goto 304, 3) := by decide +kernel
theorem dX3_act_83 : decode cX3_act 83 = .ok (.iload_n 3, 1) := by decide +kernel
theorem dX3_act_84 : decode cX3_act 84 = .ok (.bipush 6, 2) := by decide +kernel
theorem dX3_act_86 : decode cX3_act 86 = .ok (.if_icmp .ge 75, 3) := by decide +kernel
theorem dX3_act_89 : decode cX3_act 89 = .ok (.iload_n 3, 1) := by decide +kernel
theorem dX3_act_90 : decode cX3_act 90 = .ok (.iconst 1, 1) := by decide +kernel
theorem dX3_act_91 : decode cX3_act 91 = .ok (.if_icmp .ne 8, 3) := by decide +kernel
theorem dX3_act_94 : decode cX3_act 94 = .ok (.iload 6, 2) := by decide +kernel
theorem dX3_act_96 : decode cX3_act 96 = .ok (.goto 47, 3) := by decide +kernel
theorem dX3_act_99 : decode cX3_act 99 = .ok (.iload_n 3, 1) := by decide +kernel
theorem dX3_act_100 : decode cX3_act 100 = .ok (.iconst 2, 1) := by decide +kernel
theorem dX3_act_101 : decode cX3_act 101 = .ok (.if_icmp .ne 11, 3) := by decide +kernel
theorem dX3_act_104 : decode cX3_act 104 = .ok (.iload 7, 2) := by decide +kernel
theorem dX3_act_106 : decode cX3_act 106 = .ok (.iload 8, 2) := by decide +kernel
theorem dX3_act_108 : decode cX3_act 108 = .ok (.iadd, 1) := by decide +kernel
theorem dX3_act_109 : decode cX3_act 109 = .ok (.goto 34, 3) := by decide +kernel
theorem dX3_act_112 : decode cX3_act 112 = .ok (.iload_n 3, 1) := by decide +kernel
theorem dX3_act_113 : decode cX3_act 113 = .ok (.iconst 3, 1) := by decide +kernel
theorem dX3_act_114 : decode cX3_act 114 = .ok (.if_icmp .ne 11, 3) := by decide +kernel
theorem dX3_act_117 : decode cX3_act 117 = .ok (.iload 7, 2) := by decide +kernel
theorem dX3_act_119 : decode cX3_act 119 = .ok (.iload 8, 2) := by decide +kernel
theorem dX3_act_121 : decode cX3_act 121 = .ok (.isub, 1) := by decide +kernel
theorem dX3_act_122 : decode cX3_act 122 = .ok (.goto 21, 3) := by decide +kernel
theorem dX3_act_125 : decode cX3_act 125 = .ok (.iload_n 3, 1) := by decide +kernel
theorem dX3_act_126 : decode cX3_act 126 = .ok (.iconst 4, 1) := by decide +kernel
theorem dX3_act_127 : decode cX3_act 127 = .ok (.if_icmp .ne 11, 3) := by decide +kernel
theorem dX3_act_130 : decode cX3_act 130 = .ok (.iload 7, 2) := by decide +kernel
theorem dX3_act_132 : decode cX3_act 132 = .ok (.iload 8, 2) := by decide +kernel
theorem dX3_act_134 : decode cX3_act 134 = .ok (.imul, 1) := by decide +kernel
theorem dX3_act_135 : decode cX3_act 135 = .ok (.goto 8, 3) := by decide +kernel
theorem dX3_act_138 : decode cX3_act 138 = .ok (.iload 7, 2) := by decide +kernel
theorem dX3_act_140 : decode cX3_act 140 = .ok (.iload 8, 2) := by decide +kernel
theorem dX3_act_142 : decode cX3_act 142 = .ok (.ixor, 1) := by decide +kernel
theorem dX3_act_143 : decode cX3_act 143 = .ok (.istore 11, 2) := by decide +kernel
theorem dX3_act_145 : decode cX3_act 145 = .ok (.aload_n 0, 1) := by decide +kernel
theorem dX3_act_146 : decode cX3_act 146 = .ok (.getfield 28, 3) := by decide +kernel
theorem dX3_act_149 : decode cX3_act 149 = .ok (.iconst 4, 1) := by decide +kernel
theorem dX3_act_150 : decode cX3_act 150 = .ok (.iload_n 1, 1) := by decide +kernel
theorem dX3_act_151 : decode cX3_act 151 = .ok (.imul, 1) := by decide +kernel
theorem dX3_act_152 : decode cX3_act 152 = .ok (.iload 4, 2) := by decide +kernel
theorem dX3_act_154 : decode cX3_act 154 = .ok (.iadd, 1) := by decide +kernel
theorem dX3_act_155 : decode cX3_act 155 = .ok (.iload 11, 2) := by decide +kernel
theorem dX3_act_157 : decode cX3_act 157 = .ok (.iastore, 1) := by decide +kernel
theorem dX3_act_158 : decode cX3_act 158 = .ok (.goto 226, 3) := by decide +kernel
theorem dX3_act_161 : decode cX3_act 161 = .ok (.iload_n 3, 1) := by decide +kernel
theorem dX3_act_162 : decode cX3_act 162 = .ok (.bipush 8, 2) := by decide +kernel
theorem dX3_act_164 : decode cX3_act 164 = .ok (.if_icmp .ge 74, 3) := by decide +kernel
theorem dX3_act_167 : decode cX3_act 167 = .ok (.aload_n 0, 1) := by decide +kernel
theorem dX3_act_168 : decode cX3_act 168 = .ok (.iload_n 1, 1) := by decide +kernel
theorem dX3_act_169 : decode cX3_act 169 = .ok (.iload 10, 2) := by decide +kernel
theorem dX3_act_171 : decode cX3_act 171 = .ok (.invokevirtual 96, 3) := by decide +kernel
theorem dX3_act_174 : decode cX3_act 174 = .ok (.ifCond .eq 11, 3) := by decide +kernel
theorem dX3_act_177 : decode cX3_act 177 = .ok (.aload_n 0, 1) := by decide +kernel
theorem dX3_act_178 : decode cX3_act 178 = .ok (.iconst 2, 1) := by decide +kernel
theorem dX3_act_179 : decode cX3_act 179 = .ok (.putfield 102, 3) := by decide +kernel
theorem dX3_act_182 : decode cX3_act 182 = .ok (.goto 202, 3) := by decide +kernel
theorem dX3_act_185 : decode cX3_act 185 = .ok (.iload_n 3, 1) := by decide +kernel
theorem dX3_act_186 : decode cX3_act 186 = .ok (.bipush 6, 2) := by decide +kernel
theorem dX3_act_188 : decode cX3_act 188 = .ok (.if_icmp .ne 31, 3) := by decide +kernel
theorem dX3_act_191 : decode cX3_act 191 = .ok (.aload_n 0, 1) := by decide +kernel
theorem dX3_act_192 : decode cX3_act 192 = .ok (.getfield 28, 3) := by decide +kernel
theorem dX3_act_195 : decode cX3_act 195 = .ok (.iconst 4, 1) := by decide +kernel
theorem dX3_act_196 : decode cX3_act 196 = .ok (.iload_n 1, 1) := by decide +kernel
theorem dX3_act_197 : decode cX3_act 197 = .ok (.imul, 1) := by decide +kernel
theorem dX3_act_198 : decode cX3_act 198 = .ok (.iload 4, 2) := by decide +kernel
theorem dX3_act_200 : decode cX3_act 200 = .ok (.iadd, 1) := by decide +kernel
theorem dX3_act_201 : decode cX3_act 201 = .ok (.aload_n 0, 1) := by decide +kernel
theorem dX3_act_202 : decode cX3_act 202 = .ok (.getfield 7, 3) := by decide +kernel
theorem dX3_act_205 : decode cX3_act 205 = .ok (.aload_n 0, 1) := by decide +kernel
theorem dX3_act_206 : decode cX3_act 206 = .ok (.getfield 13, 3) := by decide +kernel
theorem dX3_act_209 : decode cX3_act 209 = .ok (.iload_n 1, 1) := by decide +kernel
theorem dX3_act_210 : decode cX3_act 210 = .ok (.iaload, 1) := by decide +kernel
theorem dX3_act_211 : decode cX3_act 211 = .ok (.iload 10, 2) := by decide +kernel
theorem dX3_act_213 : decode cX3_act 213 = .ok (.iadd, 1) := by decide +kernel
theorem dX3_act_214 : decode cX3_act 214 = .ok (.iaload, 1) := by decide +kernel
theorem dX3_act_215 : decode cX3_act 215 = .ok (.iastore, 1) := by decide +kernel
theorem dX3_act_216 : decode cX3_act 216 = .ok (.goto 168, 3) := by decide +kernel
theorem dX3_act_219 : decode cX3_act 219 = .ok (.aload_n 0, 1) := by decide +kernel
theorem dX3_act_220 : decode cX3_act 220 = .ok (.getfield 7, 3) := by decide +kernel
theorem dX3_act_223 : decode cX3_act 223 = .ok (.aload_n 0, 1) := by decide +kernel
theorem dX3_act_224 : decode cX3_act 224 = .ok (.getfield 13, 3) := by decide +kernel
theorem dX3_act_227 : decode cX3_act 227 = .ok (.iload_n 1, 1) := by decide +kernel
theorem dX3_act_228 : decode cX3_act 228 = .ok (.iaload, 1) := by decide +kernel
theorem dX3_act_229 : decode cX3_act 229 = .ok (.iload 10, 2) := by decide +kernel
theorem dX3_act_231 : decode cX3_act 231 = .ok (.iadd, 1) := by decide +kernel
theorem dX3_act_232 : decode cX3_act 232 = .ok (.iload 7, 2) := by decide +kernel
theorem dX3_act_234 : decode cX3_act 234 = .ok (.iastore, 1) := by decide +kernel
theorem dX3_act_235 : decode cX3_act 235 = .ok (.goto 149, 3) := by decide +kernel
theorem dX3_act_238 : decode cX3_act 238 = .ok (.iload_n 3, 1) := by decide +kernel
theorem dX3_act_239 : decode cX3_act 239 = .ok (.bipush 11, 2) := by decide +kernel
theorem dX3_act_241 : decode cX3_act 241 = .ok (.if_icmp .ge 58, 3) := by decide +kernel
theorem dX3_act_244 : decode cX3_act 244 = .ok (.iload_n 3, 1) := by decide +kernel
theorem dX3_act_245 : decode cX3_act 245 = .ok (.bipush 8, 2) := by decide +kernel
theorem dX3_act_247 : decode cX3_act 247 = .ok (.if_icmp .ne 21, 3) := by decide +kernel
theorem dX3_act_250 : decode cX3_act 250 = .ok (.iload 7, 2) := by decide +kernel
theorem dX3_act_252 : decode cX3_act 252 = .ok (.ifCond .ne 11, 3) := by decide +kernel
theorem dX3_act_255 : decode cX3_act 255 = .ok (.iload 9, 2) := by decide +kernel
theorem dX3_act_257 : decode cX3_act 257 = .ok (.iload 6, 2) := by decide +kernel
theorem dX3_act_259 : decode cX3_act 259 = .ok (.iadd, 1) := by decide +kernel
theorem dX3_act_260 : decode cX3_act 260 = .ok (.goto 34, 3) := by decide +kernel
theorem dX3_act_263 : decode cX3_act 263 = .ok (.iload 9, 2) := by decide +kernel
theorem dX3_act_265 : decode cX3_act 265 = .ok (.goto 29, 3) := by decide +kernel
theorem dX3_act_268 : decode cX3_act 268 = .ok (.iload_n 3, 1) := by decide +kernel
theorem dX3_act_269 : decode cX3_act 269 = .ok (.bipush 9, 2) := by decide +kernel
theorem dX3_act_271 : decode cX3_act 271 = .ok (.if_icmp .ne 21, 3) := by decide +kernel
theorem dX3_act_274 : decode cX3_act 274 = .ok (.iload 7, 2) := by decide +kernel
theorem dX3_act_276 : decode cX3_act 276 = .ok (.ifCond .ge 11, 3) := by decide +kernel
theorem dX3_act_279 : decode cX3_act 279 = .ok (.iload 9, 2) := by decide +kernel
theorem dX3_act_281 : decode cX3_act 281 = .ok (.iload 6, 2) := by decide +kernel
theorem dX3_act_283 : decode cX3_act 283 = .ok (.iadd, 1) := by decide +kernel
theorem dX3_act_284 : decode cX3_act 284 = .ok (.goto 10, 3) := by decide +kernel
theorem dX3_act_287 : decode cX3_act 287 = .ok (.iload 9, 2) := by decide +kernel
theorem dX3_act_289 : decode cX3_act 289 = .ok (.goto 5, 3) := by decide +kernel
theorem dX3_act_292 : decode cX3_act 292 = .ok (.iload 7, 2) := by decide +kernel
theorem dX3_act_294 : decode cX3_act 294 = .ok (.istore 9, 2) := by decide +kernel
theorem dX3_act_296 : decode cX3_act 296 = .ok (.goto 88, 3) := by decide +kernel
theorem dX3_act_299 : decode cX3_act 299 = .ok (.iload_n 3, 1) := by decide +kernel
theorem dX3_act_300 : decode cX3_act 300 = .ok (.bipush 11, 2) := by decide +kernel
theorem dX3_act_302 : decode cX3_act 302 = .ok (.if_icmp .ne 17, 3) := by decide +kernel
theorem dX3_act_305 : decode cX3_act 305 = .ok (.aload_n 0, 1) := by decide +kernel
theorem dX3_act_306 : decode cX3_act 306 = .ok (.iload_n 1, 1) := by decide +kernel
theorem dX3_act_307 : decode cX3_act 307 = .ok (.iload 4, 2) := by decide +kernel
theorem dX3_act_309 : decode cX3_act 309 = .ok (.iload 5, 2) := by decide +kernel
theorem dX3_act_311 : decode cX3_act 311 = .ok (.iload 6, 2) := by decide +kernel
theorem dX3_act_313 : decode cX3_act 313 = .ok (.invokevirtual 105, 3) := by decide +kernel
theorem dX3_act_316 : decode cX3_act 316 = .ok (.goto 68, 3) := by decide +kernel
theorem dX3_act_319 : decode cX3_act 319 = .ok (.iload_n 3, 1) := by decide +kernel
theorem dX3_act_320 : decode cX3_act 320 = .ok (.bipush 12, 2) := by decide +kernel
theorem dX3_act_322 : decode cX3_act 322 = .ok (.if_icmp .ne 17, 3) := by decide +kernel
theorem dX3_act_325 : decode cX3_act 325 = .ok (.aload_n 0, 1) := by decide +kernel
theorem dX3_act_326 : decode cX3_act 326 = .ok (.iload_n 1, 1) := by decide +kernel
theorem dX3_act_327 : decode cX3_act 327 = .ok (.iload 4, 2) := by decide +kernel
theorem dX3_act_329 : decode cX3_act 329 = .ok (.iload 5, 2) := by decide +kernel
theorem dX3_act_331 : decode cX3_act 331 = .ok (.iload 6, 2) := by decide +kernel
theorem dX3_act_333 : decode cX3_act 333 = .ok (.invokevirtual 109, 3) := by decide +kernel
theorem dX3_act_336 : decode cX3_act 336 = .ok (.goto 48, 3) := by decide +kernel
theorem dX3_act_339 : decode cX3_act 339 = .ok (.iload_n 3, 1) := by decide +kernel
theorem dX3_act_340 : decode cX3_act 340 = .ok (.bipush 13, 2) := by decide +kernel
theorem dX3_act_342 : decode cX3_act 342 = .ok (.if_icmp .ne 11, 3) := by decide +kernel
theorem dX3_act_345 : decode cX3_act 345 = .ok (.aload_n 0, 1) := by decide +kernel
theorem dX3_act_346 : decode cX3_act 346 = .ok (.iconst 1, 1) := by decide +kernel
theorem dX3_act_347 : decode cX3_act 347 = .ok (.putfield 112, 3) := by decide +kernel
theorem dX3_act_350 : decode cX3_act 350 = .ok (.goto 34, 3) := by decide +kernel
theorem dX3_act_353 : decode cX3_act 353 = .ok (.iload_n 3, 1) := by decide +kernel
theorem dX3_act_354 : decode cX3_act 354 = .ok (.bipush 14, 2) := by decide +kernel
theorem dX3_act_356 : decode cX3_act 356 = .ok (.if_icmp .ne 23, 3) := by decide +kernel
theorem dX3_act_359 : decode cX3_act 359 = .ok (.aload_n 0, 1) := by decide +kernel
theorem dX3_act_360 : decode cX3_act 360 = .ok (.getfield 28, 3) := by decide +kernel
theorem dX3_act_363 : decode cX3_act 363 = .ok (.iconst 4, 1) := by decide +kernel
theorem dX3_act_364 : decode cX3_act 364 = .ok (.iload_n 1, 1) := by decide +kernel
theorem dX3_act_365 : decode cX3_act 365 = .ok (.imul, 1) := by decide +kernel
theorem dX3_act_366 : decode cX3_act 366 = .ok (.iload 4, 2) := by decide +kernel
theorem dX3_act_368 : decode cX3_act 368 = .ok (.iadd, 1) := by decide +kernel
theorem dX3_act_369 : decode cX3_act 369 = .ok (.aload_n 0, 1) := by decide +kernel
theorem dX3_act_370 : decode cX3_act 370 = .ok (.getfield 31, 3) := by decide +kernel
theorem dX3_act_373 : decode cX3_act 373 = .ok (.iload_n 1, 1) := by decide +kernel
theorem dX3_act_374 : decode cX3_act 374 = .ok (.iaload, 1) := by decide +kernel
theorem dX3_act_375 : decode cX3_act 375 = .ok (.iastore, 1) := by decide +kernel
theorem dX3_act_376 : decode cX3_act 376 = .ok (.goto 8, 3) := by decide +kernel
theorem dX3_act_379 : decode cX3_act 379 = .ok (.aload_n 0, 1) := by decide +kernel
theorem dX3_act_380 : decode cX3_act 380 = .ok (.iconst 4, 1) := by decide +kernel
theorem dX3_act_381 : decode cX3_act 381 = .ok (.putfield 102, 3) := by decide +kernel
theorem dX3_act_384 : decode cX3_act 384 = .ok (.aload_n 0, 1) := by decide +kernel
theorem dX3_act_385 : decode cX3_act 385 = .ok (.getfield 25, 3) := by decide +kernel
theorem dX3_act_388 : decode cX3_act 388 = .ok (.iload_n 1, 1) := by decide +kernel
theorem dX3_act_389 : decode cX3_act 389 = .ok (.aload_n 0, 1) := by decide +kernel
theorem dX3_act_390 : decode cX3_act 390 = .ok (.getfield 102, 3) := by decide +kernel
theorem dX3_act_393 : decode cX3_act 393 = .ok (.ifCond .le 12, 3) := by decide +kernel
theorem dX3_act_396 : decode cX3_act 396 = .ok (.aload_n 0, 1) := by decide +kernel
theorem dX3_act_397 : decode cX3_act 397 = .ok (.getfield 25, 3) := by decide +kernel
theorem dX3_act_400 : decode cX3_act 400 = .ok (.iload_n 1, 1) := by decide +kernel
theorem dX3_act_401 : decode cX3_act 401 = .ok (.iaload, 1) := by decide +kernel
theorem dX3_act_402 : decode cX3_act 402 = .ok (.goto 5, 3) := by decide +kernel
theorem dX3_act_405 : decode cX3_act 405 = .ok (.iload 9, 2) := by decide +kernel
theorem dX3_act_407 : decode cX3_act 407 = .ok (.iastore, 1) := by decide +kernel
theorem dX3_act_408 : decode cX3_act 408 = .ok (.return_, 1) := by decide +kernel
set_option maxRecDepth 20000 in
theorem ggX3_instruction_X3_noWord : GoodIn wsX3_instruction wsX3_noWord := goodIn_r _ [17, 18, 40, 41, 42, 43, 44, 45, 46, 47, 48, 49, 50, 51, 52, 53, 54, 55, 56, 57, 58, 59, 60, 61, 62, 63, 64, 65, 66, 67, 68, 69] (by decide +kernel) (by decide +kernel)
set_option maxRecDepth 20000 in
theorem gX3_instruction_X3_noWord : GoodIn wsX3_instruction (wsV RX3 96 RX3 yX3_noWord wsX3_noWord) := goodIn_app (goodIn_of _ (by decide +kernel)) ggX3_instruction_X3_noWord
set_option maxRecDepth 20000 in
theorem ggX3_instruction_X3_act : GoodIn wsX3_instruction wsX3_act := goodIn_r _ [22, 10, 2, 9, 1, 3, 4, 12, 5, 13, 14, 15, 16, 17, 18, 23, 24, 25, 26, 27, 28, 29, 30, 31, 32, 33, 34, 35, 36, 37, 38, 39, 40, 41, 42, 43, 44, 45, 46, 47, 48, 49, 50, 51, 52, 53, 54, 55, 56, 57, 58, 59, 60, 61, 62, 63, 64, 65, 66, 67, 68, 69] (by decide +kernel) (by decide +kernel)
set_option maxRecDepth 20000 in
theorem gX3_instruction_X3_act : GoodIn wsX3_instruction (wsV RX3 115 RX3 yX3_act wsX3_act) := goodIn_app (goodIn_of _ (by decide +kernel)) ggX3_instruction_X3_act
theorem dX3_instruction_0 : decode cX3_instruction 0 = .ok (.aload_n 0, 1) := by decide +kernel
theorem dX3_instruction_1 : decode cX3_instruction 1 = .ok (.iconst 0, 1) := by decide +kernel
theorem dX3_instruction_2 : decode cX3_instruction 2 = .ok (.putfield 102, 3) := by decide +kernel
theorem dX3_instruction_5 : decode cX3_instruction 5 = .ok (.aload_n 0, 1) := by decide +kernel
theorem dX3_instruction_6 : decode cX3_instruction 6 = .ok (.iload_n 1, 1) := by decide +kernel
theorem dX3_instruction_7 : decode cX3_instruction 7 = .ok (.aload_n 0, 1) := by decide +kernel
theorem dX3_instruction_8 : decode cX3_instruction 8 = .ok (.getfield 25, 3) := by decide +kernel
theorem dX3_instruction_11 : decode cX3_instruction 11 = .ok (.iload_n 1, 1) := by decide +kernel
theorem dX3_instruction_12 : decode cX3_instruction 12 = .ok (.iaload, 1) := by decide +kernel
theorem dX3_instruction_13 : decode cX3_instruction 13 = .ok (.invokevirtual 96, 3) := by decide +kernel
theorem dX3_instruction_16 : decode cX3_instruction 16 = .ok (.ifCond .eq 11, 3) := by decide +kernel
theorem dX3_instruction_19 : decode cX3_instruction 19 = .ok (.aload_n 0, 1) := by decide +kernel
theorem dX3_instruction_20 : decode cX3_instruction 20 = .ok (.iconst 1, 1) := by decide +kernel
theorem dX3_instruction_21 : decode cX3_instruction 21 = .ok (.putfield 102, 3) := by decide +kernel
theorem dX3_instruction_24 : decode cX3_instruction 24 = .ok (.goto 26, 3) := by decide +kernel
theorem dX3_instruction_27 : decode cX3_instruction 27 = .ok (.aload_n 0, 1) := by decide +kernel
theorem dX3_instruction_28 : decode cX3_instruction 28 = .ok (.iload_n 1, 1) := by decide +kernel
theorem dX3_instruction_29 : decode cX3_instruction 29 = .ok (.aload_n 0, 1) := by decide +kernel
theorem dX3_instruction_30 : decode cX3_instruction 30 = .ok (.getfield 7, 3) := by decide +kernel
theorem dX3_instruction_33 : decode cX3_instruction 33 = .ok (.aload_n 0, 1) := by decide +kernel
theorem dX3_instruction_34 : decode cX3_instruction 34 = .ok (.getfield 13, 3) := by decide +kernel
theorem dX3_instruction_37 : decode cX3_instruction 37 = .ok (.iload_n 1, 1) := by decide +kernel
theorem dX3_instruction_38 : decode cX3_instruction 38 = .ok (.iaload, 1) := by decide +kernel
theorem dX3_instruction_39 : decode cX3_instruction 39 = .ok (.aload_n 0, 1) := by decide +kernel
theorem dX3_instruction_40 : decode cX3_instruction 40 = .ok (.getfield 25, 3) := by decide +kernel
theorem dX3_instruction_43 : decode cX3_instruction 43 = .ok (.iload_n 1, 1) := by decide +kernel
theorem dX3_instruction_44 : decode cX3_instruction 44 = .ok (.iaload, 1) := by decide +kernel
theorem dX3_instruction_45 : decode cX3_instruction 45 = .ok (.iadd, 1) := by decide +kernel
theorem dX3_instruction_46 : decode cX3_instruction 46 = .ok (.iaload, 1) := by decide +kernel
theorem dX3_instruction_47 : decode cX3_instruction 47 = .ok (.invokevirtual 115, 3) := by decide +kernel
theorem dX3_instruction_50 : decode cX3_instruction 50 = .ok (.aload_n 0, 1) := by decide +kernel
theorem dX3_instruction_51 : decode cX3_instruction 51 = .ok (.getfield 102, 3) := by decide +kernel
theorem dX3_instruction_54 : decode cX3_instruction 54 = .ok (.ifCond .ne 14, 3) := by decide +kernel
theorem dX3_instruction_57 : decode cX3_instruction 57 = .ok (.aload_n 0, 1) := by decide +kernel
theorem dX3_instruction_58 : decode cX3_instruction 58 = .ok (.getfield 31, 3) := by decide +kernel
theorem dX3_instruction_61 : decode cX3_instruction 61 = .ok (.iload_n 1, 1) := by decide +kernel
theorem dX3_instruction_62 : decode cX3_instruction 62 = .ok (.dup2, 1) := by decide +kernel
theorem dX3_instruction_63 : decode cX3_instruction 63 = .ok (.iaload, 1) := by decide +kernel
theorem dX3_instruction_64 : decode cX3_instruction 64 = .ok (.iconst 1, 1) := by decide +kernel
theorem dX3_instruction_65 : decode cX3_instruction 65 = .ok (.iadd, 1) := by decide +kernel
theorem dX3_instruction_66 : decode cX3_instruction 66 = .ok (.iastore, 1) := by decide +kernel
theorem dX3_instruction_67 : decode cX3_instruction 67 = .ok (.return_, 1) := by decide +kernel
theorem dX3_instruction_68 : decode cX3_instruction 68 = .ok (.aload_n 0, 1) := by decide +kernel
theorem dX3_instruction_69 : decode cX3_instruction 69 = .ok (.getfield 37, 3) := by decide +kernel
theorem dX3_instruction_72 : decode cX3_instruction 72 = .ok (.iload_n 1, 1) := by decide +kernel
theorem dX3_instruction_73 : decode cX3_instruction 73 = .ok (.aload_n 0, 1) := by decide +kernel
theorem dX3_instruction_74 : decode cX3_instruction 74 = .ok (.getfield 102, 3) := by decide +kernel
theorem dX3_instruction_77 : decode cX3_instruction 77 = .ok (.iastore, 1) := by decide +kernel
theorem dX3_instruction_78 : decode cX3_instruction 78 = .ok (.aload_n 0, 1) := by decide +kernel
theorem dX3_instruction_79 : decode cX3_instruction 79 = .ok (.getfield 40, 3) := by decide +kernel
theorem dX3_instruction_82 : decode cX3_instruction 82 = .ok (.iload_n 1, 1) := by decide +kernel
theorem dX3_instruction_83 : decode cX3_instruction 83 = .ok (.dup2, 1) := by decide +kernel
theorem dX3_instruction_84 : decode cX3_instruction 84 = .ok (.iaload, 1) := by decide +kernel
theorem dX3_instruction_85 : decode cX3_instruction 85 = .ok (.iconst 1, 1) := by decide +kernel
theorem dX3_instruction_86 : decode cX3_instruction 86 = .ok (.iadd, 1) := by decide +kernel
theorem dX3_instruction_87 : decode cX3_instruction 87 = .ok (.iastore, 1) := by decide +kernel
theorem dX3_instruction_88 : decode cX3_instruction 88 = .ok (.aload_n 0, 1) := by decide +kernel
theorem dX3_instruction_89 : decode cX3_instruction 89 = .ok (.getfield 34, 3) := by decide +kernel
theorem dX3_instruction_92 : decode cX3_instruction 92 = .ok (.iload_n 1, 1) := by decide +kernel
theorem dX3_instruction_93 : decode cX3_instruction 93 = .ok (.iaload, 1) := by decide +kernel
theorem dX3_instruction_94 : decode cX3_instruction 94 = .ok (.ifCond .ne 11, 3) := by decide +kernel
theorem dX3_instruction_97 : decode cX3_instruction 97 = .ok (.aload_n 0, 1) := by decide +kernel
theorem dX3_instruction_98 : decode cX3_instruction 98 = .ok (.getfield 22, 3) := by decide +kernel
theorem dX3_instruction_101 : decode cX3_instruction 101 = .ok (.iload_n 1, 1) := by decide +kernel
theorem dX3_instruction_102 : decode cX3_instruction 102 = .ok (.iconst 3, 1) := by decide +kernel
theorem dX3_instruction_103 : decode cX3_instruction 103 = .ok (.iastore, 1) := by decide +kernel
theorem dX3_instruction_104 : decode cX3_instruction 104 = .ok (.return_, 1) := by decide +kernel
theorem dX3_instruction_105 : decode cX3_instruction 105 = .ok (.aload_n 0, 1) := by decide +kernel
theorem dX3_instruction_106 : decode cX3_instruction 106 = .ok (.getfield 34, 3) := by decide +kernel
theorem dX3_instruction_109 : decode cX3_instruction 109 = .ok (.iload_n 1, 1) := by decide +kernel
theorem dX3_instruction_110 : decode cX3_instruction 110 = .ok (.dup2, 1) := by decide +kernel
theorem dX3_instruction_111 : decode cX3_instruction 111 = .ok (.iaload, 1) := by decide +kernel
theorem dX3_instruction_112 : decode cX3_instruction 112 = .ok (.iconst 1, 1) := by decide +kernel
theorem dX3_instruction_113 : decode cX3_instruction 113 = .ok (.isub, 1) := by decide +kernel
theorem dX3_instruction_114 : decode cX3_instruction 114 = .ok (.iastore, 1) := by decide +kernel
theorem dX3_instruction_115 : decode cX3_instruction 115 = .ok (.iconst 0, 1) := by decide +kernel
theorem dX3_instruction_116 : decode cX3_instruction 116 = .ok (.istore_n 2, 1) := by decide +kernel
theorem dX3_instruction_117 : decode cX3_instruction 117 = .ok (.iload_n 2, 1) := by decide +kernel
theorem dX3_instruction_118 : decode cX3_instruction 118 = .ok (.iconst 4, 1) := by decide +kernel
theorem dX3_instruction_119 : decode cX3_instruction 119 = .ok (.if_icmp .ge 20, 3) := by decide +kernel
theorem dX3_instruction_122 : decode cX3_instruction 122 = .ok (.aload_n 0, 1) := by decide +kernel
theorem dX3_instruction_123 : decode cX3_instruction 123 = .ok (.getfield 28, 3) := by decide +kernel
theorem dX3_instruction_126 : decode cX3_instruction 126 = .ok (.iconst 4, 1) := by decide +kernel
theorem dX3_instruction_127 : decode cX3_instruction 127 = .ok (.iload_n 1, 1) := by decide +kernel
theorem dX3_instruction_128 : decode cX3_instruction 128 = .ok (.imul, 1) := by decide +kernel
theorem dX3_instruction_129 : decode cX3_instruction 129 = .ok (.iload_n 2, 1) := by decide +kernel
theorem dX3_instruction_130 : decode cX3_instruction 130 = .ok (.iadd, 1) := by decide +kernel
theorem dX3_instruction_131 : decode cX3_instruction 131 = .ok (.iconst 0, 1) := by decide +kernel
theorem dX3_instruction_132 : decode cX3_instruction 132 = .ok (.iastore, 1) := by decide +kernel
theorem dX3_instruction_133 : decode cX3_instruction 133 = .ok (.iinc 2 1, 3) := by decide +kernel
theorem dX3_instruction_136 : decode cX3_instruction 136 = .ok (.goto (-19), 3) := by decide +kernel
theorem dX3_instruction_139 : decode cX3_instruction 139 = .ok (.aload_n 0, 1) := by decide +kernel
theorem dX3_instruction_140 : decode cX3_instruction 140 = .ok (.getfield 25, 3) := by decide +kernel
theorem dX3_instruction_143 : decode cX3_instruction 143 = .ok (.iload_n 1, 1) := by decide +kernel
theorem dX3_instruction_144 : decode cX3_instruction 144 = .ok (.aload_n 0, 1) := by decide +kernel
theorem dX3_instruction_145 : decode cX3_instruction 145 = .ok (.getfield 19, 3) := by decide +kernel
theorem dX3_instruction_148 : decode cX3_instruction 148 = .ok (.iload_n 1, 1) := by decide +kernel
theorem dX3_instruction_149 : decode cX3_instruction 149 = .ok (.iaload, 1) := by decide +kernel
theorem dX3_instruction_150 : decode cX3_instruction 150 = .ok (.iastore, 1) := by decide +kernel
theorem dX3_instruction_151 : decode cX3_instruction 151 = .ok (.aload_n 0, 1) := by decide +kernel
theorem dX3_instruction_152 : decode cX3_instruction 152 = .ok (.iconst 1, 1) := by decide +kernel
theorem dX3_instruction_153 : decode cX3_instruction 153 = .ok (.putfield 112, 3) := by decide +kernel
theorem dX3_instruction_156 : decode cX3_instruction 156 = .ok (.return_, 1) := by decide +kernel
set_option maxRecDepth 20000 in
theorem ggX3_step_X3_instruction : GoodIn wsX3_step wsX3_instruction := goodIn_r _ [19, 20, 21, 22, 23, 24, 25, 26, 27, 9, 28, 29, 10, 30, 31, 32, 18, 33, 34, 35, 36, 37, 38, 39, 40, 41, 42, 43, 44, 4, 45, 5, 3, 46, 47, 48, 49, 50, 51, 52, 53, 54, 55, 56, 57, 58, 59, 60, 61, 62, 63, 64, 65, 66, 67, 68, 69, 70, 71, 72, 73, 74, 75, 76, 77, 78, 79, 80, 81, 82] (by decide +kernel) (by decide +kernel)
set_option maxRecDepth 20000 in
theorem gX3_step_X3_instruction : GoodIn wsX3_step (wsV RX3 123 RX3 yX3_instruction wsX3_instruction) := goodIn_app (goodIn_of _ (by decide +kernel)) ggX3_step_X3_instruction
theorem dX3_step_0 : decode cX3_step 0 = .ok (.aload_n 0, 1) := by decide +kernel
theorem dX3_step_1 : decode cX3_step 1 = .ok (.aload_n 0, 1) := by decide +kernel
theorem dX3_step_2 : decode cX3_step 2 = .ok (.getfield 85, 3) := by decide +kernel
theorem dX3_step_5 : decode cX3_step 5 = .ok (.ifCond .ne 7, 3) := by decide +kernel
theorem dX3_step_8 : decode cX3_step 8 = .ok (.iconst 1, 1) := by decide +kernel
theorem dX3_step_9 : decode cX3_step 9 = .ok (.goto 19, 3) := by decide +kernel
theorem dX3_step_12 : decode cX3_step 12 = .ok (.iload_n 1, 1) := by decide +kernel
theorem dX3_step_13 : decode cX3_step 13 = .ok (.ifCond .lt 10, 3) := by decide +kernel
theorem dX3_step_16 : decode cX3_step 16 = .ok (.iload_n 1, 1) := by decide +kernel
theorem dX3_step_17 : decode cX3_step 17 = .ok (.sipush 5000, 3) := by decide +kernel
theorem dX3_step_20 : decode cX3_step 20 = .ok (.if_icmp .le 7, 3) := by decide +kernel
theorem dX3_step_23 : decode cX3_step 23 = .ok (.iconst 2, 1) := by decide +kernel
theorem dX3_step_24 : decode cX3_step 24 = .ok (.goto 4, 3) := by decide +kernel
theorem dX3_step_27 : decode cX3_step 27 = .ok (.iconst 0, 1) := by decide +kernel
theorem dX3_step_28 : decode cX3_step 28 = .ok (.putfield 77, 3) := by decide +kernel
theorem dX3_step_31 : decode cX3_step 31 = .ok (.iconst 0, 1) := by decide +kernel
theorem dX3_step_32 : decode cX3_step 32 = .ok (.istore_n 2, 1) := by decide +kernel
theorem dX3_step_33 : decode cX3_step 33 = .ok (.iconst 0, 1) := by decide +kernel
theorem dX3_step_34 : decode cX3_step 34 = .ok (.istore_n 3, 1) := by decide +kernel
theorem dX3_step_35 : decode cX3_step 35 = .ok (.iload_n 3, 1) := by decide +kernel
theorem dX3_step_36 : decode cX3_step 36 = .ok (.iload_n 1, 1) := by decide +kernel
theorem dX3_step_37 : decode cX3_step 37 = .ok (.if_icmp .ge 193, 3) := by decide +kernel
theorem dX3_step_40 : decode cX3_step 40 = .ok (.aload_n 0, 1) := by decide +kernel
theorem dX3_step_41 : decode cX3_step 41 = .ok (.getfield 77, 3) := by decide +kernel
theorem dX3_step_44 : decode cX3_step 44 = .ok (.ifCond .ne 186, 3) := by decide +kernel
theorem dX3_step_47 : decode cX3_step 47 = .ok (.iconst 0, 1) := by decide +kernel
theorem dX3_step_48 : decode cX3_step 48 = .ok (.istore 4, 2) := by decide +kernel
theorem dX3_step_50 : decode cX3_step 50 = .ok (.iload 4, 2) := by decide +kernel
theorem dX3_step_52 : decode cX3_step 52 = .ok (.bipush 8, 2) := by decide +kernel
theorem dX3_step_54 : decode cX3_step 54 = .ok (.if_icmp .ge 67, 3) := by decide +kernel
theorem dX3_step_57 : decode cX3_step 57 = .ok (.aload_n 0, 1) := by decide +kernel
theorem dX3_step_58 : decode cX3_step 58 = .ok (.getfield 68, 3) := by decide +kernel
theorem dX3_step_61 : decode cX3_step 61 = .ok (.iload 4, 2) := by decide +kernel
theorem dX3_step_63 : decode cX3_step 63 = .ok (.aload_n 0, 1) := by decide +kernel
theorem dX3_step_64 : decode cX3_step 64 = .ok (.getfield 59, 3) := by decide +kernel
theorem dX3_step_67 : decode cX3_step 67 = .ok (.iload 4, 2) := by decide +kernel
theorem dX3_step_69 : decode cX3_step 69 = .ok (.iaload, 1) := by decide +kernel
theorem dX3_step_70 : decode cX3_step 70 = .ok (.ifCond .ne 37, 3) := by decide +kernel
theorem dX3_step_73 : decode cX3_step 73 = .ok (.aload_n 0, 1) := by decide +kernel
theorem dX3_step_74 : decode cX3_step 74 = .ok (.getfield 65, 3) := by decide +kernel
theorem dX3_step_77 : decode cX3_step 77 = .ok (.iload 4, 2) := by decide +kernel
theorem dX3_step_79 : decode cX3_step 79 = .ok (.iaload, 1) := by decide +kernel
theorem dX3_step_80 : decode cX3_step 80 = .ok (.ifCond .le 27, 3) := by decide +kernel
theorem dX3_step_83 : decode cX3_step 83 = .ok (.aload_n 0, 1) := by decide +kernel
theorem dX3_step_84 : decode cX3_step 84 = .ok (.getfield 68, 3) := by decide +kernel
theorem dX3_step_87 : decode cX3_step 87 = .ok (.iload 4, 2) := by decide +kernel
theorem dX3_step_89 : decode cX3_step 89 = .ok (.iaload, 1) := by decide +kernel
theorem dX3_step_90 : decode cX3_step 90 = .ok (.ldc 119, 2) := by decide +kernel
theorem dX3_step_92 : decode cX3_step 92 = .ok (.if_icmp .ge 15, 3) := by decide +kernel
theorem dX3_step_95 : decode cX3_step 95 = .ok (.aload_n 0, 1) := by decide +kernel
theorem dX3_step_96 : decode cX3_step 96 = .ok (.getfield 68, 3) := by decide +kernel
theorem dX3_step_99 : decode cX3_step 99 = .ok (.iload 4, 2) := by decide +kernel
theorem dX3_step_101 : decode cX3_step 101 = .ok (.iaload, 1) := by decide +kernel
theorem dX3_step_102 : decode cX3_step 102 = .ok (.iconst 1, 1) := by decide +kernel
theorem dX3_step_103 : decode cX3_step 103 = .ok (.iadd, 1) := by decide +kernel
theorem dX3_step_104 : decode cX3_step 104 = .ok (.goto 10, 3) := by decide +kernel
theorem dX3_step_107 : decode cX3_step 107 = .ok (.aload_n 0, 1) := by decide +kernel
theorem dX3_step_108 : decode cX3_step 108 = .ok (.getfield 68, 3) := by decide +kernel
theorem dX3_step_111 : decode cX3_step 111 = .ok (.iload 4, 2) := by decide +kernel
theorem dX3_step_113 : decode cX3_step 113 = .ok (.iaload, 1) := by decide +kernel
theorem dX3_step_114 : decode cX3_step 114 = .ok (.iastore, 1) := by decide +kernel
theorem dX3_step_115 : decode cX3_step 115 = .ok (.iinc 4 1, 3) := by decide +kernel
theorem dX3_step_118 : decode cX3_step 118 = .ok (.goto (-68), 3) := by decide +kernel
theorem dX3_step_121 : decode cX3_step 121 = .ok (.aload_n 0, 1) := by decide +kernel
theorem dX3_step_122 : decode cX3_step 122 = .ok (.getfield 43, 3) := by decide +kernel
theorem dX3_step_125 : decode cX3_step 125 = .ok (.aload_n 0, 1) := by decide +kernel
theorem dX3_step_126 : decode cX3_step 126 = .ok (.getfield 120, 3) := by decide +kernel
theorem dX3_step_129 : decode cX3_step 129 = .ok (.iaload, 1) := by decide +kernel
theorem dX3_step_130 : decode cX3_step 130 = .ok (.istore 4, 2) := by decide +kernel
theorem dX3_step_132 : decode cX3_step 132 = .ok (.iload 4, 2) := by decide +kernel
theorem dX3_step_134 : decode cX3_step 134 = .ok (.ifCond .lt 30, 3) := by decide +kernel
theorem dX3_step_137 : decode cX3_step 137 = .ok (.aload_n 0, 1) := by decide +kernel
theorem dX3_step_138 : decode cX3_step 138 = .ok (.getfield 22, 3) := by decide +kernel
theorem dX3_step_141 : decode cX3_step 141 = .ok (.iload 4, 2) := by decide +kernel
theorem dX3_step_143 : decode cX3_step 143 = .ok (.iaload, 1) := by decide +kernel
theorem dX3_step_144 : decode cX3_step 144 = .ok (.iconst 1, 1) := by decide +kernel
theorem dX3_step_145 : decode cX3_step 145 = .ok (.if_icmp .ne 19, 3) := by decide +kernel
theorem dX3_step_148 : decode cX3_step 148 = .ok (.aload_n 0, 1) := by decide +kernel
theorem dX3_step_149 : decode cX3_step 149 = .ok (.getfield 112, 3) := by decide +kernel
theorem dX3_step_152 : decode cX3_step 152 = .ok (.ifCond .ne 12, 3) := by decide +kernel
theorem dX3_step_155 : decode cX3_step 155 = .ok (.aload_n 0, 1) := by decide +kernel
theorem dX3_step_156 : decode cX3_step 156 = .ok (.iload 4, 2) := by decide +kernel
theorem dX3_step_158 : decode cX3_step 158 = .ok (.invokevirtual 123, 3) := by decide +kernel
theorem dX3_step_161 : decode cX3_step 161 = .ok (.iinc 2 1, 3) := by decide +kernel
theorem dX3_step_164 : decode cX3_step 164 = .ok (.aload_n 0, 1) := by decide +kernel
theorem dX3_step_165 : decode cX3_step 165 = .ok (.dup, 1) := by decide +kernel
theorem dX3_step_166 : decode cX3_step 166 = .ok (.getfield 99, 3) := by decide +kernel
theorem dX3_step_169 : decode cX3_step 169 = .ok (.iconst 1, 1) := by decide +kernel
theorem dX3_step_170 : decode cX3_step 170 = .ok (.isub, 1) := by decide +kernel
theorem dX3_step_171 : decode cX3_step 171 = .ok (.putfield 99, 3) := by decide +kernel
theorem dX3_step_174 : decode cX3_step 174 = .ok (.aload_n 0, 1) := by decide +kernel
theorem dX3_step_175 : decode cX3_step 175 = .ok (.getfield 99, 3) := by decide +kernel
theorem dX3_step_178 : decode cX3_step 178 = .ok (.ifCond .ne 36, 3) := by decide +kernel
theorem dX3_step_181 : decode cX3_step 181 = .ok (.aload_n 0, 1) := by decide +kernel
theorem dX3_step_182 : decode cX3_step 182 = .ok (.aload_n 0, 1) := by decide +kernel
theorem dX3_step_183 : decode cX3_step 183 = .ok (.getfield 120, 3) := by decide +kernel
theorem dX3_step_186 : decode cX3_step 186 = .ok (.iconst 1, 1) := by decide +kernel
theorem dX3_step_187 : decode cX3_step 187 = .ok (.iadd, 1) := by decide +kernel
theorem dX3_step_188 : decode cX3_step 188 = .ok (.aload_n 0, 1) := by decide +kernel
theorem dX3_step_189 : decode cX3_step 189 = .ok (.getfield 93, 3) := by decide +kernel
theorem dX3_step_192 : decode cX3_step 192 = .ok (.irem, 1) := by decide +kernel
theorem dX3_step_193 : decode cX3_step 193 = .ok (.putfield 120, 3) := by decide +kernel
theorem dX3_step_196 : decode cX3_step 196 = .ok (.aload_n 0, 1) := by decide +kernel
theorem dX3_step_197 : decode cX3_step 197 = .ok (.aload_n 0, 1) := by decide +kernel
theorem dX3_step_198 : decode cX3_step 198 = .ok (.getfield 46, 3) := by decide +kernel
theorem dX3_step_201 : decode cX3_step 201 = .ok (.aload_n 0, 1) := by decide +kernel
theorem dX3_step_202 : decode cX3_step 202 = .ok (.getfield 120, 3) := by decide +kernel
theorem dX3_step_205 : decode cX3_step 205 = .ok (.iaload, 1) := by decide +kernel
theorem dX3_step_206 : decode cX3_step 206 = .ok (.putfield 99, 3) := by decide +kernel
theorem dX3_step_209 : decode cX3_step 209 = .ok (.aload_n 0, 1) := by decide +kernel
theorem dX3_step_210 : decode cX3_step 210 = .ok (.iconst 0, 1) := by decide +kernel
theorem dX3_step_211 : decode cX3_step 211 = .ok (.putfield 112, 3) := by decide +kernel
theorem dX3_step_214 : decode cX3_step 214 = .ok (.aload_n 0, 1) := by decide +kernel
theorem dX3_step_215 : decode cX3_step 215 = .ok (.dup, 1) := by decide +kernel
theorem dX3_step_216 : decode cX3_step 216 = .ok (.getfield 127, 3) := by decide +kernel
theorem dX3_step_219 : decode cX3_step 219 = .ok (.iconst 1, 1) := by decide +kernel
theorem dX3_step_220 : decode cX3_step 220 = .ok (.iadd, 1) := by decide +kernel
theorem dX3_step_221 : decode cX3_step 221 = .ok (.putfield 127, 3) := by decide +kernel
theorem dX3_step_224 : decode cX3_step 224 = .ok (.iinc 3 1, 3) := by decide +kernel
theorem dX3_step_227 : decode cX3_step 227 = .ok (.goto (-192), 3) := by decide +kernel
theorem dX3_step_230 : decode cX3_step 230 = .ok (.iload_n 2, 1) := by decide +kernel
theorem dX3_step_231 : decode cX3_step 231 = .ok (.ireturn, 1) := by decide +kernel
theorem dX3_told_0 : decode cX3_told 0 = .ok (.aload_n 0, 1) := by decide +kernel
theorem dX3_told_1 : decode cX3_told 1 = .ok (.iload_n 1, 1) := by decide +kernel
theorem dX3_told_2 : decode cX3_told 2 = .ok (.ifCond .lt 18, 3) := by decide +kernel
theorem dX3_told_5 : decode cX3_told 5 = .ok (.iload_n 1, 1) := by decide +kernel
theorem dX3_told_6 : decode cX3_told 6 = .ok (.iconst 5, 1) := by decide +kernel
theorem dX3_told_7 : decode cX3_told 7 = .ok (.if_icmp .gt 13, 3) := by decide +kernel
theorem dX3_told_10 : decode cX3_told 10 = .ok (.iload_n 2, 1) := by decide +kernel
theorem dX3_told_11 : decode cX3_told 11 = .ok (.ifCond .lt 9, 3) := by decide +kernel
theorem dX3_told_14 : decode cX3_told 14 = .ok (.iload_n 2, 1) := by decide +kernel
theorem dX3_told_15 : decode cX3_told 15 = .ok (.bipush 9, 2) := by decide +kernel
theorem dX3_told_17 : decode cX3_told 17 = .ok (.if_icmp .le 7, 3) := by decide +kernel
theorem dX3_told_20 : decode cX3_told 20 = .ok (.iconst 1, 1) := by decide +kernel
theorem dX3_told_21 : decode cX3_told 21 = .ok (.goto 4, 3) := by decide +kernel
theorem dX3_told_24 : decode cX3_told 24 = .ok (.iconst 0, 1) := by decide +kernel
theorem dX3_told_25 : decode cX3_told 25 = .ok (.putfield 77, 3) := by decide +kernel
theorem dX3_told_28 : decode cX3_told 28 = .ok (.aload_n 0, 1) := by decide +kernel
theorem dX3_told_29 : decode cX3_told 29 = .ok (.getfield 77, 3) := by decide +kernel
theorem dX3_told_32 : decode cX3_told 32 = .ok (.ifCond .le 5, 3) := by decide +kernel
theorem dX3_told_35 : decode cX3_told 35 = .ok (.iconst 0, 1) := by decide +kernel
theorem dX3_told_36 : decode cX3_told 36 = .ok (.ireturn, 1) := by decide +kernel
theorem dX3_told_37 : decode cX3_told 37 = .ok (.iload_n 2, 1) := by decide +kernel
theorem dX3_told_38 : decode cX3_told 38 = .ok (.ifCond .ne 10, 3) := by decide +kernel
theorem dX3_told_41 : decode cX3_told 41 = .ok (.aload_n 0, 1) := by decide +kernel
theorem dX3_told_42 : decode cX3_told 42 = .ok (.getfield 22, 3) := by decide +kernel
theorem dX3_told_45 : decode cX3_told 45 = .ok (.iload_n 1, 1) := by decide +kernel
theorem dX3_told_46 : decode cX3_told 46 = .ok (.iaload, 1) := by decide +kernel
theorem dX3_told_47 : decode cX3_told 47 = .ok (.ireturn, 1) := by decide +kernel
theorem dX3_told_48 : decode cX3_told 48 = .ok (.iload_n 2, 1) := by decide +kernel
theorem dX3_told_49 : decode cX3_told 49 = .ok (.iconst 1, 1) := by decide +kernel
theorem dX3_told_50 : decode cX3_told 50 = .ok (.if_icmp .le 22, 3) := by decide +kernel
theorem dX3_told_53 : decode cX3_told 53 = .ok (.iload_n 2, 1) := by decide +kernel
theorem dX3_told_54 : decode cX3_told 54 = .ok (.bipush 6, 2) := by decide +kernel
theorem dX3_told_56 : decode cX3_told 56 = .ok (.if_icmp .ge 16, 3) := by decide +kernel
theorem dX3_told_59 : decode cX3_told 59 = .ok (.aload_n 0, 1) := by decide +kernel
theorem dX3_told_60 : decode cX3_told 60 = .ok (.getfield 28, 3) := by decide +kernel
theorem dX3_told_63 : decode cX3_told 63 = .ok (.iconst 4, 1) := by decide +kernel
theorem dX3_told_64 : decode cX3_told 64 = .ok (.iload_n 1, 1) := by decide +kernel
theorem dX3_told_65 : decode cX3_told 65 = .ok (.imul, 1) := by decide +kernel
theorem dX3_told_66 : decode cX3_told 66 = .ok (.iload_n 2, 1) := by decide +kernel
theorem dX3_told_67 : decode cX3_told 67 = .ok (.iadd, 1) := by decide +kernel
theorem dX3_told_68 : decode cX3_told 68 = .ok (.iconst 2, 1) := by decide +kernel
theorem dX3_told_69 : decode cX3_told 69 = .ok (.isub, 1) := by decide +kernel
theorem dX3_told_70 : decode cX3_told 70 = .ok (.iaload, 1) := by decide +kernel
theorem dX3_told_71 : decode cX3_told 71 = .ok (.ireturn, 1) := by decide +kernel
theorem dX3_told_72 : decode cX3_told 72 = .ok (.iload_n 2, 1) := by decide +kernel
theorem dX3_told_73 : decode cX3_told 73 = .ok (.iconst 1, 1) := by decide +kernel
theorem dX3_told_74 : decode cX3_told 74 = .ok (.if_icmp .ne 12, 3) := by decide +kernel
theorem dX3_told_77 : decode cX3_told 77 = .ok (.aload_n 0, 1) := by decide +kernel
theorem dX3_told_78 : decode cX3_told 78 = .ok (.getfield 25, 3) := by decide +kernel
theorem dX3_told_81 : decode cX3_told 81 = .ok (.iload_n 1, 1) := by decide +kernel
theorem dX3_told_82 : decode cX3_told 82 = .ok (.iaload, 1) := by decide +kernel
theorem dX3_told_83 : decode cX3_told 83 = .ok (.goto 54, 3) := by decide +kernel
theorem dX3_told_86 : decode cX3_told 86 = .ok (.iload_n 2, 1) := by decide +kernel
theorem dX3_told_87 : decode cX3_told 87 = .ok (.bipush 6, 2) := by decide +kernel
theorem dX3_told_89 : decode cX3_told 89 = .ok (.if_icmp .ne 12, 3) := by decide +kernel
theorem dX3_told_92 : decode cX3_told 92 = .ok (.aload_n 0, 1) := by decide +kernel
theorem dX3_told_93 : decode cX3_told 93 = .ok (.getfield 31, 3) := by decide +kernel
theorem dX3_told_96 : decode cX3_told 96 = .ok (.iload_n 1, 1) := by decide +kernel
theorem dX3_told_97 : decode cX3_told 97 = .ok (.iaload, 1) := by decide +kernel
theorem dX3_told_98 : decode cX3_told 98 = .ok (.goto 39, 3) := by decide +kernel
theorem dX3_told_101 : decode cX3_told 101 = .ok (.iload_n 2, 1) := by decide +kernel
theorem dX3_told_102 : decode cX3_told 102 = .ok (.bipush 7, 2) := by decide +kernel
theorem dX3_told_104 : decode cX3_told 104 = .ok (.if_icmp .ne 12, 3) := by decide +kernel
theorem dX3_told_107 : decode cX3_told 107 = .ok (.aload_n 0, 1) := by decide +kernel
theorem dX3_told_108 : decode cX3_told 108 = .ok (.getfield 34, 3) := by decide +kernel
theorem dX3_told_111 : decode cX3_told 111 = .ok (.iload_n 1, 1) := by decide +kernel
theorem dX3_told_112 : decode cX3_told 112 = .ok (.iaload, 1) := by decide +kernel
theorem dX3_told_113 : decode cX3_told 113 = .ok (.goto 24, 3) := by decide +kernel
theorem dX3_told_116 : decode cX3_told 116 = .ok (.iload_n 2, 1) := by decide +kernel
theorem dX3_told_117 : decode cX3_told 117 = .ok (.bipush 8, 2) := by decide +kernel
theorem dX3_told_119 : decode cX3_told 119 = .ok (.if_icmp .ne 12, 3) := by decide +kernel
theorem dX3_told_122 : decode cX3_told 122 = .ok (.aload_n 0, 1) := by decide +kernel
theorem dX3_told_123 : decode cX3_told 123 = .ok (.getfield 37, 3) := by decide +kernel
theorem dX3_told_126 : decode cX3_told 126 = .ok (.iload_n 1, 1) := by decide +kernel
theorem dX3_told_127 : decode cX3_told 127 = .ok (.iaload, 1) := by decide +kernel
theorem dX3_told_128 : decode cX3_told 128 = .ok (.goto 9, 3) := by decide +kernel
theorem dX3_told_131 : decode cX3_told 131 = .ok (.aload_n 0, 1) := by decide +kernel
theorem dX3_told_132 : decode cX3_told 132 = .ok (.getfield 40, 3) := by decide +kernel
theorem dX3_told_135 : decode cX3_told 135 = .ok (.iload_n 1, 1) := by decide +kernel
theorem dX3_told_136 : decode cX3_told 136 = .ok (.iaload, 1) := by decide +kernel
theorem dX3_told_137 : decode cX3_told 137 = .ok (.ireturn, 1) := by decide +kernel
theorem dX3_noChannel_0 : decode cX3_noChannel 0 = .ok (.iload_n 1, 1) := by decide +kernel
theorem dX3_noChannel_1 : decode cX3_noChannel 1 = .ok (.ifCond .lt 18, 3) := by decide +kernel
theorem dX3_noChannel_4 : decode cX3_noChannel 4 = .ok (.iload_n 1, 1) := by decide +kernel
theorem dX3_noChannel_5 : decode cX3_noChannel 5 = .ok (.bipush 7, 2) := by decide +kernel
theorem dX3_noChannel_7 : decode cX3_noChannel 7 = .ok (.if_icmp .gt 12, 3) := by decide +kernel
theorem dX3_noChannel_10 : decode cX3_noChannel 10 = .ok (.aload_n 0, 1) := by decide +kernel
theorem dX3_noChannel_11 : decode cX3_noChannel 11 = .ok (.getfield 49, 3) := by decide +kernel
theorem dX3_noChannel_14 : decode cX3_noChannel 14 = .ok (.iload_n 1, 1) := by decide +kernel
theorem dX3_noChannel_15 : decode cX3_noChannel 15 = .ok (.baload, 1) := by decide +kernel
theorem dX3_noChannel_16 : decode cX3_noChannel 16 = .ok (.ifCond .ne 7, 3) := by decide +kernel
theorem dX3_noChannel_19 : decode cX3_noChannel 19 = .ok (.iconst 1, 1) := by decide +kernel
theorem dX3_noChannel_20 : decode cX3_noChannel 20 = .ok (.goto 4, 3) := by decide +kernel
theorem dX3_noChannel_23 : decode cX3_noChannel 23 = .ok (.iconst 0, 1) := by decide +kernel
theorem dX3_noChannel_24 : decode cX3_noChannel 24 = .ok (.ireturn, 1) := by decide +kernel
set_option maxRecDepth 20000 in
theorem ggX3_has_X3_noChannel : GoodIn wsX3_has wsX3_noChannel := goodIn_r _ [12, 13, 14, 15, 16, 17, 18, 19, 20, 21, 22, 23, 24, 25, 26, 27, 28, 29, 30, 31, 32, 33, 34, 35, 36, 37, 38, 39, 40, 41, 42, 43] (by decide +kernel) (by decide +kernel)
set_option maxRecDepth 20000 in
theorem gX3_has_X3_noChannel : GoodIn wsX3_has (wsV RX3 130 RX3 yX3_noChannel wsX3_noChannel) := goodIn_app (goodIn_of _ (by decide +kernel)) ggX3_has_X3_noChannel
theorem dX3_has_0 : decode cX3_has 0 = .ok (.aload_n 0, 1) := by decide +kernel
theorem dX3_has_1 : decode cX3_has 1 = .ok (.aload_n 0, 1) := by decide +kernel
theorem dX3_has_2 : decode cX3_has 2 = .ok (.iload_n 1, 1) := by decide +kernel
theorem dX3_has_3 : decode cX3_has 3 = .ok (.invokevirtual 130, 3) := by decide +kernel
theorem dX3_has_6 : decode cX3_has 6 = .ok (.ifCond .ne 12, 3) := by decide +kernel
theorem dX3_has_9 : decode cX3_has 9 = .ok (.iload_n 2, 1) := by decide +kernel
theorem dX3_has_10 : decode cX3_has 10 = .ok (.ifCond .lt 8, 3) := by decide +kernel
theorem dX3_has_13 : decode cX3_has 13 = .ok (.iload_n 2, 1) := by decide +kernel
theorem dX3_has_14 : decode cX3_has 14 = .ok (.iconst 4, 1) := by decide +kernel
theorem dX3_has_15 : decode cX3_has 15 = .ok (.if_icmp .le 7, 3) := by decide +kernel
theorem dX3_has_18 : decode cX3_has 18 = .ok (.iconst 1, 1) := by decide +kernel
theorem dX3_has_19 : decode cX3_has 19 = .ok (.goto 4, 3) := by decide +kernel
theorem dX3_has_22 : decode cX3_has 22 = .ok (.iconst 0, 1) := by decide +kernel
theorem dX3_has_23 : decode cX3_has 23 = .ok (.putfield 77, 3) := by decide +kernel
theorem dX3_has_26 : decode cX3_has 26 = .ok (.aload_n 0, 1) := by decide +kernel
theorem dX3_has_27 : decode cX3_has 27 = .ok (.getfield 77, 3) := by decide +kernel
theorem dX3_has_30 : decode cX3_has 30 = .ok (.ifCond .le 5, 3) := by decide +kernel
theorem dX3_has_33 : decode cX3_has 33 = .ok (.iconst 0, 1) := by decide +kernel
theorem dX3_has_34 : decode cX3_has 34 = .ok (.ireturn, 1) := by decide +kernel
theorem dX3_has_35 : decode cX3_has 35 = .ok (.iload_n 2, 1) := by decide +kernel
theorem dX3_has_36 : decode cX3_has 36 = .ok (.ifCond .ne 12, 3) := by decide +kernel
theorem dX3_has_39 : decode cX3_has 39 = .ok (.aload_n 0, 1) := by decide +kernel
theorem dX3_has_40 : decode cX3_has 40 = .ok (.getfield 65, 3) := by decide +kernel
theorem dX3_has_43 : decode cX3_has 43 = .ok (.iload_n 1, 1) := by decide +kernel
theorem dX3_has_44 : decode cX3_has 44 = .ok (.iaload, 1) := by decide +kernel
theorem dX3_has_45 : decode cX3_has 45 = .ok (.goto 80, 3) := by decide +kernel
theorem dX3_has_48 : decode cX3_has 48 = .ok (.iload_n 2, 1) := by decide +kernel
theorem dX3_has_49 : decode cX3_has 49 = .ok (.iconst 1, 1) := by decide +kernel
theorem dX3_has_50 : decode cX3_has 50 = .ok (.if_icmp .ne 28, 3) := by decide +kernel
theorem dX3_has_53 : decode cX3_has 53 = .ok (.aload_n 0, 1) := by decide +kernel
theorem dX3_has_54 : decode cX3_has 54 = .ok (.getfield 65, 3) := by decide +kernel
theorem dX3_has_57 : decode cX3_has 57 = .ok (.iload_n 1, 1) := by decide +kernel
theorem dX3_has_58 : decode cX3_has 58 = .ok (.iaload, 1) := by decide +kernel
theorem dX3_has_59 : decode cX3_has 59 = .ok (.ifCond .le 15, 3) := by decide +kernel
theorem dX3_has_62 : decode cX3_has 62 = .ok (.aload_n 0, 1) := by decide +kernel
theorem dX3_has_63 : decode cX3_has 63 = .ok (.getfield 62, 3) := by decide +kernel
theorem dX3_has_66 : decode cX3_has 66 = .ok (.bipush 8, 2) := by decide +kernel
theorem dX3_has_68 : decode cX3_has 68 = .ok (.iload_n 1, 1) := by decide +kernel
theorem dX3_has_69 : decode cX3_has 69 = .ok (.imul, 1) := by decide +kernel
theorem dX3_has_70 : decode cX3_has 70 = .ok (.iaload, 1) := by decide +kernel
theorem dX3_has_71 : decode cX3_has 71 = .ok (.goto 54, 3) := by decide +kernel
theorem dX3_has_74 : decode cX3_has 74 = .ok (.iconst 0, 1) := by decide +kernel
theorem dX3_has_75 : decode cX3_has 75 = .ok (.goto 50, 3) := by decide +kernel
theorem dX3_has_78 : decode cX3_has 78 = .ok (.iload_n 2, 1) := by decide +kernel
theorem dX3_has_79 : decode cX3_has 79 = .ok (.iconst 2, 1) := by decide +kernel
theorem dX3_has_80 : decode cX3_has 80 = .ok (.if_icmp .ne 25, 3) := by decide +kernel
theorem dX3_has_83 : decode cX3_has 83 = .ok (.aload_n 0, 1) := by decide +kernel
theorem dX3_has_84 : decode cX3_has 84 = .ok (.getfield 59, 3) := by decide +kernel
theorem dX3_has_87 : decode cX3_has 87 = .ok (.iload_n 1, 1) := by decide +kernel
theorem dX3_has_88 : decode cX3_has 88 = .ok (.iaload, 1) := by decide +kernel
theorem dX3_has_89 : decode cX3_has 89 = .ok (.ifCond .ne 12, 3) := by decide +kernel
theorem dX3_has_92 : decode cX3_has 92 = .ok (.aload_n 0, 1) := by decide +kernel
theorem dX3_has_93 : decode cX3_has 93 = .ok (.getfield 68, 3) := by decide +kernel
theorem dX3_has_96 : decode cX3_has 96 = .ok (.iload_n 1, 1) := by decide +kernel
theorem dX3_has_97 : decode cX3_has 97 = .ok (.iaload, 1) := by decide +kernel
theorem dX3_has_98 : decode cX3_has 98 = .ok (.goto 27, 3) := by decide +kernel
theorem dX3_has_101 : decode cX3_has 101 = .ok (.iconst 0, 1) := by decide +kernel
theorem dX3_has_102 : decode cX3_has 102 = .ok (.goto 23, 3) := by decide +kernel
theorem dX3_has_105 : decode cX3_has 105 = .ok (.iload_n 2, 1) := by decide +kernel
theorem dX3_has_106 : decode cX3_has 106 = .ok (.iconst 3, 1) := by decide +kernel
theorem dX3_has_107 : decode cX3_has 107 = .ok (.if_icmp .ne 12, 3) := by decide +kernel
theorem dX3_has_110 : decode cX3_has 110 = .ok (.aload_n 0, 1) := by decide +kernel
theorem dX3_has_111 : decode cX3_has 111 = .ok (.getfield 71, 3) := by decide +kernel
theorem dX3_has_114 : decode cX3_has 114 = .ok (.iload_n 1, 1) := by decide +kernel
theorem dX3_has_115 : decode cX3_has 115 = .ok (.iaload, 1) := by decide +kernel
theorem dX3_has_116 : decode cX3_has 116 = .ok (.goto 9, 3) := by decide +kernel
theorem dX3_has_119 : decode cX3_has 119 = .ok (.aload_n 0, 1) := by decide +kernel
theorem dX3_has_120 : decode cX3_has 120 = .ok (.getfield 74, 3) := by decide +kernel
theorem dX3_has_123 : decode cX3_has 123 = .ok (.iload_n 1, 1) := by decide +kernel
theorem dX3_has_124 : decode cX3_has 124 = .ok (.iaload, 1) := by decide +kernel
theorem dX3_has_125 : decode cX3_has 125 = .ok (.ireturn, 1) := by decide +kernel
set_option maxRecDepth 20000 in
theorem ggX3_queued_X3_noChannel : GoodIn wsX3_queued wsX3_noChannel := goodIn_r _ [9, 10, 11, 12, 13, 14, 15, 16, 17, 18, 19, 20, 21, 22, 23, 24, 25, 26, 27, 28, 29, 30, 31, 32, 33, 34, 35, 36, 37, 38, 39, 40] (by decide +kernel) (by decide +kernel)
set_option maxRecDepth 20000 in
theorem gX3_queued_X3_noChannel : GoodIn wsX3_queued (wsV RX3 130 RX3 yX3_noChannel wsX3_noChannel) := goodIn_app (goodIn_of _ (by decide +kernel)) ggX3_queued_X3_noChannel
theorem dX3_queued_0 : decode cX3_queued 0 = .ok (.aload_n 0, 1) := by decide +kernel
theorem dX3_queued_1 : decode cX3_queued 1 = .ok (.aload_n 0, 1) := by decide +kernel
theorem dX3_queued_2 : decode cX3_queued 2 = .ok (.iload_n 1, 1) := by decide +kernel
theorem dX3_queued_3 : decode cX3_queued 3 = .ok (.invokevirtual 130, 3) := by decide +kernel
theorem dX3_queued_6 : decode cX3_queued 6 = .ok (.ifCond .eq 7, 3) := by decide +kernel
theorem dX3_queued_9 : decode cX3_queued 9 = .ok (.iconst 1, 1) := by decide +kernel
theorem dX3_queued_10 : decode cX3_queued 10 = .ok (.goto 4, 3) := by decide +kernel
theorem dX3_queued_13 : decode cX3_queued 13 = .ok (.iconst 0, 1) := by decide +kernel
theorem dX3_queued_14 : decode cX3_queued 14 = .ok (.putfield 77, 3) := by decide +kernel
theorem dX3_queued_17 : decode cX3_queued 17 = .ok (.aload_n 0, 1) := by decide +kernel
theorem dX3_queued_18 : decode cX3_queued 18 = .ok (.getfield 77, 3) := by decide +kernel
theorem dX3_queued_21 : decode cX3_queued 21 = .ok (.ifCond .le 5, 3) := by decide +kernel
theorem dX3_queued_24 : decode cX3_queued 24 = .ok (.iconst 0, 1) := by decide +kernel
theorem dX3_queued_25 : decode cX3_queued 25 = .ok (.ireturn, 1) := by decide +kernel
theorem dX3_queued_26 : decode cX3_queued 26 = .ok (.aload_n 0, 1) := by decide +kernel
theorem dX3_queued_27 : decode cX3_queued 27 = .ok (.getfield 59, 3) := by decide +kernel
theorem dX3_queued_30 : decode cX3_queued 30 = .ok (.iload_n 1, 1) := by decide +kernel
theorem dX3_queued_31 : decode cX3_queued 31 = .ok (.iaload, 1) := by decide +kernel
theorem dX3_queued_32 : decode cX3_queued 32 = .ok (.ifCond .eq 17, 3) := by decide +kernel
theorem dX3_queued_35 : decode cX3_queued 35 = .ok (.iload_n 2, 1) := by decide +kernel
theorem dX3_queued_36 : decode cX3_queued 36 = .ok (.ifCond .lt 13, 3) := by decide +kernel
theorem dX3_queued_39 : decode cX3_queued 39 = .ok (.iload_n 2, 1) := by decide +kernel
theorem dX3_queued_40 : decode cX3_queued 40 = .ok (.aload_n 0, 1) := by decide +kernel
theorem dX3_queued_41 : decode cX3_queued 41 = .ok (.getfield 65, 3) := by decide +kernel
theorem dX3_queued_44 : decode cX3_queued 44 = .ok (.iload_n 1, 1) := by decide +kernel
theorem dX3_queued_45 : decode cX3_queued 45 = .ok (.iaload, 1) := by decide +kernel
theorem dX3_queued_46 : decode cX3_queued 46 = .ok (.if_icmp .lt 7, 3) := by decide +kernel
theorem dX3_queued_49 : decode cX3_queued 49 = .ok (.iconst 0, 1) := by decide +kernel
theorem dX3_queued_50 : decode cX3_queued 50 = .ok (.goto 14, 3) := by decide +kernel
theorem dX3_queued_53 : decode cX3_queued 53 = .ok (.aload_n 0, 1) := by decide +kernel
theorem dX3_queued_54 : decode cX3_queued 54 = .ok (.getfield 62, 3) := by decide +kernel
theorem dX3_queued_57 : decode cX3_queued 57 = .ok (.bipush 8, 2) := by decide +kernel
theorem dX3_queued_59 : decode cX3_queued 59 = .ok (.iload_n 1, 1) := by decide +kernel
theorem dX3_queued_60 : decode cX3_queued 60 = .ok (.imul, 1) := by decide +kernel
theorem dX3_queued_61 : decode cX3_queued 61 = .ok (.iload_n 2, 1) := by decide +kernel
theorem dX3_queued_62 : decode cX3_queued 62 = .ok (.iadd, 1) := by decide +kernel
theorem dX3_queued_63 : decode cX3_queued 63 = .ok (.iaload, 1) := by decide +kernel
theorem dX3_queued_64 : decode cX3_queued 64 = .ok (.ireturn, 1) := by decide +kernel
theorem dX3_current_0 : decode cX3_current 0 = .ok (.aload_n 0, 1) := by decide +kernel
theorem dX3_current_1 : decode cX3_current 1 = .ok (.iconst 0, 1) := by decide +kernel
theorem dX3_current_2 : decode cX3_current 2 = .ok (.putfield 77, 3) := by decide +kernel
theorem dX3_current_5 : decode cX3_current 5 = .ok (.aload_n 0, 1) := by decide +kernel
theorem dX3_current_6 : decode cX3_current 6 = .ok (.getfield 85, 3) := by decide +kernel
theorem dX3_current_9 : decode cX3_current 9 = .ok (.ifCond .eq 15, 3) := by decide +kernel
theorem dX3_current_12 : decode cX3_current 12 = .ok (.aload_n 0, 1) := by decide +kernel
theorem dX3_current_13 : decode cX3_current 13 = .ok (.getfield 43, 3) := by decide +kernel
theorem dX3_current_16 : decode cX3_current 16 = .ok (.aload_n 0, 1) := by decide +kernel
theorem dX3_current_17 : decode cX3_current 17 = .ok (.getfield 120, 3) := by decide +kernel
theorem dX3_current_20 : decode cX3_current 20 = .ok (.iaload, 1) := by decide +kernel
theorem dX3_current_21 : decode cX3_current 21 = .ok (.goto 4, 3) := by decide +kernel
theorem dX3_current_24 : decode cX3_current 24 = .ok (.iconst (-1), 1) := by decide +kernel
theorem dX3_current_25 : decode cX3_current 25 = .ok (.ireturn, 1) := by decide +kernel
theorem dX3_ticks_0 : decode cX3_ticks 0 = .ok (.aload_n 0, 1) := by decide +kernel
theorem dX3_ticks_1 : decode cX3_ticks 1 = .ok (.iconst 0, 1) := by decide +kernel
theorem dX3_ticks_2 : decode cX3_ticks 2 = .ok (.putfield 77, 3) := by decide +kernel
theorem dX3_ticks_5 : decode cX3_ticks 5 = .ok (.aload_n 0, 1) := by decide +kernel
theorem dX3_ticks_6 : decode cX3_ticks 6 = .ok (.getfield 127, 3) := by decide +kernel
theorem dX3_ticks_9 : decode cX3_ticks 9 = .ok (.ireturn, 1) := by decide +kernel
